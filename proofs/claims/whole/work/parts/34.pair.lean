/-! ===== the class's and the reference's primitives, side by side ===== -/
def PR (l p w q v : Int) : Prop := w = v ∧ (w < 0 → p = q) ∧ -1 ≤ w ∧ w ≤ 300 ∧ 0 ≤ p ∧ p ≤ l ∧ 0 ≤ q ∧ q ≤ l
section PAIR
variable {t : Int → Int} {l : Int}
theorem dg_rr {p : Int} (h1 : p ≤ l) : p ≤ (dg t l 5 p 0 0).1 ∧ (dg t l 5 p 0 0).1 ≤ l ∧ 0 ≤ (dg t l 5 p 0 0).2.1 ∧ (dg t l 5 p 0 0).2.1 ≤ 9999 ∧ 0 ≤ (dg t l 5 p 0 0).2.2 ∧ (dg t l 5 p 0 0).2.2 ≤ 4 ∧ ((dg t l 5 p 0 0).2.2 = 4 → 1000 ≤ (dg t l 5 p 0 0).2.1) ∧ (dg t l 5 p 0 0).1 - (dg t l 5 p 0 0).2.2 = p := by
  have := dg_r (t := t) (l := l) 5 p 0 0 (by omega) (by omega) (by omega) (by omega) (by omega) (by omega) (by omega) (by omega)
  omega
theorem sk_rr {p : Int} (h0 : 0 ≤ p) (h1 : p ≤ l) : 0 ≤ sk t l 300 p ∧ sk t l 300 p ≤ l := by
  have hs := sk_r (t := t) (l := l) 300 p
  have hs2 := hs.2 h1
  omega
theorem nb_in {q x : Int} (e : nb t l q = x) (hx : 0 ≤ x) : q < l := by
  unfold nb at e; split at e
  · assumption
  · omega
theorem cnu_e {a b p w : Int} (h0 : 0 ≤ p) (h1 : p ≤ l) (hw : 0 ≤ w) : (cnu t l a b p w).2.2 = w ∧ 0 ≤ (cnu t l a b p w).2.1 ∧ (cnu t l a b p w).2.1 ≤ l ∧ 0 ≤ (cnu t l a b p w).1 ∧ (cnu t l a b p w).1 ≤ 9999 := by
  have hs := sk_rr (t := t) h0 h1
  have hd := dg_rr (t := t) hs.2
  have hf : ∀ e, fl w e = w := fun e => by unfold fl; rw [if_neg (by omega)]
  unfold cnu
  dsimp only
  rw [hf, hf, ite_self, ite_self]
  omega
theorem cex_e {ch p w : Int} (h0 : 0 ≤ p) (h1 : p ≤ l) (hc : 0 ≤ ch) (hw : 0 ≤ w) : (cex t l ch p w).2 = w ∧ 0 ≤ (cex t l ch p w).1 ∧ (cex t l ch p w).1 ≤ l := by
  have hs := sk_rr (t := t) h0 h1
  have hf : ∀ e, fl w e = w := fun e => by unfold fl; rw [if_neg (by omega)]
  unfold cex
  split
  · rename_i e; have := nb_in e hc; dsimp only; omega
  · dsimp only; rw [hf]; omega
theorem cac_r {ch p : Int} (h0 : 0 ≤ p) (h1 : p ≤ l) (hc : 0 ≤ ch) : 0 ≤ (cac t l ch p).2 ∧ (cac t l ch p).2 ≤ l ∧ 0 ≤ (cac t l ch p).1 ∧ (cac t l ch p).1 < 2 := by
  have hs := sk_rr (t := t) h0 h1
  unfold cac
  split
  · rename_i e; have := nb_in e hc; dsimp only; omega
  · dsimp only; omega
theorem mnu_e {a b p w : Int} (hw : 0 ≤ w) : mnu t l a b p w = (a, p, w) := by unfold mnu; rw [if_pos hw]
theorem mtk_e {ch p w : Int} (hw : 0 ≤ w) : mtk t l ch p w = (p, w) := by unfold mtk; rw [if_pos hw]
theorem mts_e {ch p w : Int} (hw : 0 ≤ w) : mts t l ch p w = (0, p) := by unfold mts; rw [if_pos hw]
theorem pr_num {a b p w q v : Int} (hl : l ≤ 300) (hb : b ≤ 999) (h : PR l p w q v) :
    PR l (cnu t l a b p w).2.1 (cnu t l a b p w).2.2 (mnu t l a b q v).2.1 (mnu t l a b q v).2.2 ∧
    ((cnu t l a b p w).2.2 < 0 → w < 0 ∧ (cnu t l a b p w).1 = (mnu t l a b q v).1 ∧ a ≤ (cnu t l a b p w).1 ∧ (cnu t l a b p w).1 ≤ b) ∧ 0 ≤ (cnu t l a b p w).1 ∧ (cnu t l a b p w).1 ≤ 9999 ∧ (a ≤ b → a ≤ (mnu t l a b q v).1 ∧ (mnu t l a b q v).1 ≤ b) := by
  obtain ⟨e1, e2, e3, e4, e5, e6, e7, e8⟩ := h
  subst e1
  by_cases hw : 0 ≤ w
  · rw [mnu_e hw]
    have := cnu_e (t := t) (a := a) (b := b) e5 e6 hw
    refine ⟨⟨this.1, fun h => by omega, by omega, by omega, by omega, by omega, e7, e8⟩, fun h => by omega, by omega, by omega, fun h => by dsimp only; omega⟩
  · have ew : w = -1 := by omega
    have ep := e2 (by omega)
    subst ep
    subst ew
    have hs := sk_rr (t := t) e5 e6
    have hd := dg_rr (t := t) hs.2
    have hf : ∀ e, fl (-1) e = e := fun e => rfl
    unfold cnu mnu mw2
    dsimp only
    rw [hf, hf, if_neg hw]
    generalize sk t l 300 p = s at hs hd ⊢
    generalize dg t l 5 s 0 0 = D at hd ⊢
    obtain ⟨d1, d2, d3⟩ := D
    dsimp only at hd ⊢
    by_cases k1 : d3 = 0
    · rw [if_pos k1, if_pos k1]
      dsimp only
      refine ⟨⟨by omega, by omega, by omega, by omega, by omega, by omega, by omega, by omega⟩, by omega, by omega, by omega, by omega⟩
    · rw [if_neg k1, if_neg k1]
      by_cases k2 : a ≤ d2 ∧ d2 ≤ b
      · have k3 : ¬ (d3 = 4 ∧ 48 ≤ nb t l d1 ∧ nb t l d1 ≤ 57) := by omega
        rw [if_pos k2, if_neg k3]
        dsimp only
        rw [if_neg hw]
        refine ⟨⟨by omega, by omega, by omega, by omega, by omega, by omega, by omega, by omega⟩, by omega, by omega, by omega, by omega⟩
      · rw [if_neg k2]
        have k4 : fl (d1 - 1) d1 = d1 - 1 := by unfold fl; rw [if_neg (by omega)]
        rw [k4, ite_self]
        dsimp only
        rw [if_pos (show 0 ≤ d1 - 1 by omega)]
        refine ⟨⟨by omega, by omega, by omega, by omega, by omega, by omega, by omega, by omega⟩, by omega, by omega, by omega, by omega⟩
theorem pr_ex {ch p w q v : Int} (hl : l ≤ 300) (hc : 0 ≤ ch) (h : PR l p w q v) :
    PR l (cex t l ch p w).1 (cex t l ch p w).2 (mtk t l ch q v).1 (mtk t l ch q v).2 ∧ ((cex t l ch p w).2 < 0 → w < 0) := by
  obtain ⟨e1, e2, e3, e4, e5, e6, e7, e8⟩ := h
  subst e1
  by_cases hw : 0 ≤ w
  · rw [mtk_e hw]
    have := cex_e (t := t) e5 e6 hc hw
    refine ⟨⟨this.1, fun h => by omega, by omega, by omega, by omega, by omega, e7, e8⟩, fun h => by omega⟩
  · have ew : w = -1 := by omega
    have ep := e2 (by omega)
    subst ep
    subst ew
    have hs := sk_rr (t := t) e5 e6
    unfold cex mtk
    rw [if_neg hw]
    by_cases k1 : nb t l (sk t l 300 p) = ch
    · have := nb_in k1 hc
      rw [if_pos k1, if_pos k1]
      dsimp only
      refine ⟨⟨by omega, by omega, by omega, by omega, by omega, by omega, by omega, by omega⟩, by omega⟩
    · rw [if_neg k1, if_neg k1]
      have hf : fl (-1) (sk t l 300 p) = sk t l 300 p := rfl
      dsimp only
      rw [hf]
      refine ⟨⟨by omega, by omega, by omega, by omega, by omega, by omega, by omega, by omega⟩, by omega⟩
theorem pr_ac {ch p w q v : Int} (hl : l ≤ 300) (hc : 0 ≤ ch) (h : PR l p w q v) :
    PR l (cac t l ch p).2 w (mts t l ch q v).2 v ∧ (w < 0 → (cac t l ch p).1 = (mts t l ch q v).1) ∧ 0 ≤ (cac t l ch p).1 ∧ (cac t l ch p).1 < 2 ∧ 0 ≤ (mts t l ch q v).1 ∧ (mts t l ch q v).1 < 2 := by
  obtain ⟨e1, e2, e3, e4, e5, e6, e7, e8⟩ := h
  subst e1
  have hr := cac_r (t := t) e5 e6 hc
  by_cases hw : 0 ≤ w
  · rw [mts_e hw]
    refine ⟨⟨rfl, fun h => by omega, by omega, by omega, by omega, by omega, e7, e8⟩, fun h => by omega, by omega, by omega, by dsimp only; omega, by dsimp only; omega⟩
  · have ew : w = -1 := by omega
    have ep := e2 (by omega)
    subst ep
    subst ew
    have e : mts t l ch p (-1) = cac t l ch p := by unfold mts cac; rw [if_neg hw]
    rw [e]
    refine ⟨⟨rfl, fun _ => rfl, by omega, by omega, by omega, by omega, by omega, by omega⟩, fun _ => rfl, by omega, by omega, by omega, by omega⟩
theorem pr_num4 {ch p w q v : Int} (hl : l ≤ 300) (hc : 0 ≤ ch) (hc2 : ch < 48 ∨ 57 < ch) (h : PR l p w q v) :
    PR l (cex t l ch (cnu t l 0 9999 p w).2.1 (cnu t l 0 9999 p w).2.2).1 (cex t l ch (cnu t l 0 9999 p w).2.1 (cnu t l 0 9999 p w).2.2).2 (mtk t l ch (mnu t l 0 9999 q v).2.1 (mnu t l 0 9999 q v).2.2).1 (mtk t l ch (mnu t l 0 9999 q v).2.1 (mnu t l 0 9999 q v).2.2).2 ∧
    ((cex t l ch (cnu t l 0 9999 p w).2.1 (cnu t l 0 9999 p w).2.2).2 < 0 → w < 0 ∧ (cnu t l 0 9999 p w).1 = (mnu t l 0 9999 q v).1) ∧ 0 ≤ (cnu t l 0 9999 p w).1 ∧ (cnu t l 0 9999 p w).1 ≤ 9999 ∧ 0 ≤ (mnu t l 0 9999 q v).1 ∧ (mnu t l 0 9999 q v).1 ≤ 9999 ∧
    (0 ≤ (cnu t l 0 9999 p w).2.1 ∧ (cnu t l 0 9999 p w).2.1 ≤ l ∧ -1 ≤ (cnu t l 0 9999 p w).2.2 ∧ (cnu t l 0 9999 p w).2.2 ≤ 300) ∧ (0 ≤ (mnu t l 0 9999 q v).2.1 ∧ (mnu t l 0 9999 q v).2.1 ≤ l ∧ -1 ≤ (mnu t l 0 9999 q v).2.2 ∧ (mnu t l 0 9999 q v).2.2 ≤ 300) := by
  obtain ⟨e1, e2, e3, e4, e5, e6, e7, e8⟩ := h
  subst e1
  by_cases hw : 0 ≤ w
  · rw [mnu_e hw]
    have k := cnu_e (t := t) (a := 0) (b := 9999) e5 e6 hw
    dsimp only
    rw [mtk_e hw]
    have k2 := cex_e (t := t) (w := (cnu t l 0 9999 p w).2.2) k.2.1 k.2.2.1 hc (by omega)
    refine ⟨⟨by omega, fun h => by omega, by omega, by omega, by omega, by omega, e7, e8⟩, fun h => by omega, by omega, by omega, by omega, by omega, by omega, by omega⟩
  · have ew : w = -1 := by omega
    have ep := e2 (by omega)
    subst ep
    subst ew
    have hs := sk_rr (t := t) e5 e6
    have hd := dg_rr (t := t) hs.2
    have hf : ∀ e, fl (-1) e = e := fun e => rfl
    have hF : ∀ w' e : Int, 0 ≤ w' → fl w' e = w' := fun w' e h => by unfold fl; rw [if_neg (by omega)]
    unfold cnu mnu mw2
    dsimp only
    rw [hf, hf, if_neg hw]
    generalize sk t l 300 p = s at hs hd ⊢
    generalize dg t l 5 s 0 0 = D at hd ⊢
    obtain ⟨d1, d2, d3⟩ := D
    dsimp only at hd ⊢
    by_cases k1 : d3 = 0
    · rw [if_pos k1, if_pos k1]
      dsimp only
      have k2 := cex_e (t := t) (l := l) (ch := ch) (p := d1) (w := d1) (by omega) (by omega) hc (by omega)
      rw [mtk_e (show 0 ≤ s by omega)]
      dsimp only
      refine ⟨⟨by omega, by omega, by omega, by omega, by omega, by omega, by omega, by omega⟩, by omega, by omega, by omega, by omega, by omega, by omega, by omega⟩
    · rw [if_neg k1, if_neg k1]
      rw [if_pos (show 0 ≤ d2 ∧ d2 ≤ 9999 by omega)]
      by_cases k3 : d3 = 4 ∧ 48 ≤ nb t l d1 ∧ nb t l d1 ≤ 57
      · rw [if_pos k3, hf]
        dsimp only
        rw [mtk_e (show 0 ≤ d1 by omega), if_pos (show 0 ≤ d1 by omega)]
        have k5 : sk t l 300 d1 = d1 := by
          show sk t l (299 + 1) d1 = d1
          unfold sk
          rw [if_neg (by omega)]
        have k4 : cex t l ch d1 (-1) = (d1, d1) := by
          unfold cex
          rw [k5, if_neg (by omega), hf]
        rw [k4]
        dsimp only
        refine ⟨⟨by omega, by omega, by omega, by omega, by omega, by omega, by omega, by omega⟩, by omega, by omega, by omega, by omega, by omega, by omega, by omega⟩
      · rw [if_neg k3]
        dsimp only
        rw [if_neg hw]
        have k6 := pr_ex (t := t) (ch := ch) (p := d1) (w := -1) (q := d1) (v := -1) hl hc ⟨rfl, fun _ => rfl, by omega, by omega, by omega, by omega, by omega, by omega⟩
        refine ⟨k6.1, fun _ => ⟨by omega, rfl⟩, by omega, by omega, by omega, by omega, by omega, by omega⟩
end PAIR
