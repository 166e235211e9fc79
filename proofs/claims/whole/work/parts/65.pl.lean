/-! ===== the due events, in the class and in the reference ===== -/
def D9 (c : Nat → Int → Int) (i : Int) (d s : Nat) : Prop := SRel c s c (i * 41) (i * 21)
  ∧ (c d 1 = c 45 i ∧ 0 ≤ c 45 i ∧ c 45 i ≤ c 31 1)
  ∧ (c d 2 = 1 - c 46 i ∧ 0 ≤ c 46 i ∧ c 46 i < 2)
  ∧ (∀ n, 1 ≤ n → n ≤ 40 → c (d + 1) n = c 47 (i * 41 + n) ∧ (-1 ≤ c 47 (i * 41 + n) ∧ c 47 (i * 41 + n) ≤ 99999) ∧ (0 ≤ c 47 (i * 41 + n) → c 33 (i * 41 + n) = 1))
  ∧ c d 4 = mbc c i
  ∧ (c d 8 = c 48 i ∧ 0 ≤ c 48 i ∧ c 48 i ≤ 60)
  ∧ (∀ k, 0 ≤ k → k < c 48 i → c (d + 3) k = c 49 (i * 60 + k) ∧ c (d + 4) k = c 50 (i * 60 + k) ∧ (0 ≤ c 49 (i * 60 + k) ∧ c 49 (i * 60 + k) ≤ 19) ∧ (0 ≤ c 50 (i * 60 + k) ∧ c 50 (i * 60 + k) ≤ c 31 1 - c 45 i))
  ∧ (∀ k k', 0 ≤ k → k ≤ k' → k' < c 48 i → c 50 (i * 60 + k) ≤ c 50 (i * 60 + k'))
  ∧ (∀ a, 0 ≤ a → a ≤ 19 → c (d + 2) a = mft c i a 0)
theorem D9_DR {c : Nat → Int → Int} {i : Int} {d s : Nat} (H : D9 c i d s) (h : c 46 i = 0 → ∀ n, 1 ≤ n → n ≤ 40 → c 33 (i * 41 + n) = 1 → c 47 (i * 41 + n) < 0 → c 31 1 - c 45 i < mdu c i n) : DR c i d s := by
  obtain ⟨h1, h2, h3, h4, h5, h6, h7, h8, h9⟩ := H
  exact ⟨h1, h2, h3, h4, h5, h6, h7, h8, h9, h⟩
theorem DR_D9 {c : Nat → Int → Int} {i : Int} {d s : Nat} (H : DR c i d s) : D9 c i d s := by
  obtain ⟨h1, h2, h3, h4, h5, h6, h7, h8, h9, _⟩ := H
  exact ⟨h1, h2, h3, h4, h5, h6, h7, h8, h9⟩
section D9S
variable {c : Nat → Int → Int} {i : Int} {d s : Nat}
theorem D9_MH (H : D9 c i d s) (i0 : 0 ≤ i) (i1 : i < 8) (ht : c 31 1 ≤ 99999) : MH c i := by
  obtain ⟨h1, h2, h3, h4, h5, h6, h7, h8, h9⟩ := H
  refine ⟨⟨i0, i1⟩, ⟨h2.2.1, h2.2.2, ht⟩, fun n n1 n2 => ?_, h6.2, fun k k1 k2 => ?_⟩
  · obtain ⟨e1, e2, e3, e4⟩ := h1.1 n n1 n2
    rw [← e1]
    exact ⟨⟨e2, e3⟩, (h4 n n1 n2).2.1, fun g => by
      obtain ⟨f1, f2, f3, _, _, _, f7, f8, f9, _⟩ := e4 g
      rw [← f1, ← f2, ← f3]
      exact ⟨f7, f8, f9⟩⟩
  · have := h7 k k1 k2
    exact ⟨this.2.2.1, by omega, by omega⟩
theorem D9_CH (H : D9 c i d s) (i0 : 0 ≤ i) (i1 : i < 8) (ht : c 31 1 ≤ 99999) : CH c d s := by
  have hM := D9_MH H i0 i1 ht
  obtain ⟨h1, h2, h3, h4, h5, h6, h7, h8, h9⟩ := H
  refine ⟨by omega, fun n n1 n2 => ?_, fun a a1 a2 => ?_, by omega, fun k k1 k2 => ?_, by omega⟩
  · obtain ⟨e1, e2, e3, e4⟩ := h1.1 n n1 n2
    have h4' := h4 n n1 n2
    refine ⟨⟨e2, e3⟩, by omega, fun g => ?_⟩
    obtain ⟨_, _, _, _, _, _, f7, f8, f9, _⟩ := e4 g
    exact ⟨f7, f8, f9⟩
  · rw [h9 a a1 a2]; exact mft_r hM a 0
  · have := h7 k k1 (by omega)
    omega
theorem D9_du (H : D9 c i d s) (hM : MH c i) {n : Int} (n1 : 1 ≤ n) (n2 : n ≤ 40) (g : c (s + 1) n = 1) : cdu c d s n = mdu c i n := by
  obtain ⟨h1, h2, h3, h4, h5, h6, h7, h8, h9⟩ := H
  obtain ⟨e1, e2, e3, e4⟩ := h1.1 n n1 n2
  obtain ⟨f1, f2, f3, _, _, _, f7, f8, f9, _⟩ := e4 g
  unfold cdu mdu cfi
  rw [← f1, ← f2, ← f3]
  by_cases e : c (s + 2) n < 0
  · rw [if_pos e, if_pos e, if_pos rfl]
  · rw [if_neg e, if_neg e, h9 _ (by omega) (by omega)]
    have := mft_r hM (c (s + 2) n) 0
    by_cases e5 : mft c i (c (s + 2) n) 0 = -1
    · rw [if_pos e5, if_pos (by omega)]
    · rw [if_neg e5, if_neg (show ¬ (mft c i (c (s + 2) n) 0 < 0) by omega)]
      by_cases e6 : c (s + 4) n < mft c i (c (s + 2) n) 0 + c (s + 3) n
      · rw [if_pos e6, if_neg (by omega)]
      · rw [if_neg e6, if_pos (by omega)]
theorem D9_ev (H : D9 c i d s) (hM : MH c i) {n : Int} (n1 : 1 ≤ n) (n2 : n ≤ 40) : cev c d s (c 31 1 - c 45 i) n ↔ mev c i n := by
  have h4 := H.2.2.2.1 n n1 n2
  have h1 := (H.1.1 n n1 n2).1
  constructor
  · intro ⟨g1, g2, g3⟩
    rw [D9_du H hM n1 n2 g1] at g3
    exact ⟨by omega, by omega, g3⟩
  · intro ⟨g1, g2, g3⟩
    have g1' : c (s + 1) n = 1 := by omega
    exact ⟨g1', by omega, by rw [D9_du H hM n1 n2 g1']; exact g3⟩
theorem D9_cnt (H : D9 c i d s) (hM : MH c i) {t : Int} (et : t = c 31 1 - c 45 i) : sm (fun n => bz (cev c d s t n)) 40 = sm (fun n => bz (mev c i n)) 40 := by
  subst et
  refine sm_c 40 (fun n n1 n2 => ?_)
  have := D9_ev H hM n1 (by omega)
  unfold bz
  by_cases e : mev c i n
  · rw [if_pos e, if_pos (this.mpr e)]
  · rw [if_neg e, if_neg (fun hh => e (this.mp hh))]
end D9S
theorem PL {c F : Nat → Int → Int} {i : Int} {d s : Nat} (H : D9 c i d s) (i0 : 0 ≤ i) (i1 : i < 8) (ht : c 31 1 ≤ 99999) (hd : 57 ≤ d) (hs : s = 4 ∨ s = 16 ∨ 57 ≤ s) (hds : DS d s) {t : Int} (et : t = c 31 1 - c 45 i)
    (e : ∀ q j, RD i d s q j → q ≠ d + 1 → ¬ (q = d ∧ j = 4) → q ≠ 47 → F q j = c q j)
    (f1 : ∀ n, 1 ≤ n → n ≤ 40 → F (d + 1) n = if cev c d s t n then cdu c d s n else c (d + 1) n)
    (f2 : ∀ n, 1 ≤ n → n ≤ 40 → F 47 (i * 41 + n) = if mev c i n then mdu c i n else c 47 (i * 41 + n))
    (f3 : F d 4 = c d 4 + sm (fun n => bz (cev c d s t n)) 40) : DR F i d s := by
  subst et
  have hM := D9_MH H i0 i1 ht
  have hcnt := D9_cnt H hM rfl
  have hev := fun n n1 n2 => D9_ev (n := n) H hM n1 n2
  have hdu := fun n n1 n2 g => D9_du (n := n) H hM n1 n2 g
  unfold DS at hds
  obtain ⟨h1, h2, h3, h4, h5, h6, h7, h8, h9⟩ := id H
  have a45 : F 45 i = c 45 i := e _ _ RD_45 (by omega) (by omega) (by omega)
  have a46 : F 46 i = c 46 i := e _ _ RD_46 (by omega) (by omega) (by omega)
  have a48 : F 48 i = c 48 i := e _ _ RD_48 (by omega) (by omega) (by omega)
  have a31 : F 31 1 = c 31 1 := e _ _ RD_31 (by omega) (by omega) (by omega)
  have a33 : ∀ q n, 33 ≤ q → q ≤ 39 → 1 ≤ n → n ≤ 40 → F q (i * 41 + n) = c q (i * 41 + n) := fun q n q1 q2 n1 n2 => e _ _ (RD_33 q1 q2 n1 n2) (by omega) (by omega) (by omega)
  have a49 : ∀ k, 0 ≤ k → k < c 48 i → F 49 (i * 60 + k) = c 49 (i * 60 + k) ∧ F 50 (i * 60 + k) = c 50 (i * 60 + k) := fun k k1 k2 => ⟨e _ _ (RD_49 k1 (by omega)) (by omega) (by omega) (by omega), e _ _ (RD_50 k1 (by omega)) (by omega) (by omega) (by omega)⟩
  have dd : ∀ q j, d ≤ q → q ≤ d + 4 → q ≠ d + 1 → ¬ (q = d ∧ j = 4) → F q j = c q j := fun q j q1 q2 q3 q4 => e _ _ (RD_d q1 q2) q3 q4 (by omega)
  have hft := mft_c a48 a49
  have hmd : ∀ n, 1 ≤ n → n ≤ 40 → mdu F i n = mdu c i n := fun n n1 n2 => mdu_c (fun a => hft a 0) (a33 34 n (by omega) (by omega) n1 n2) (a33 35 n (by omega) (by omega) n1 n2) (a33 36 n (by omega) (by omega) n1 n2)
  refine ⟨SRel_f h1 (fun q j q1 q2 q3 => e q j (RD_s q1 q2 q3) (by omega) (by omega) (by omega)) a33 (fun q n q1 q2 n1 n2 => e _ _ (RD_40 q1 q2 n1 n2) (by omega) (by omega) (by omega)), ?_, ?_, fun n n1 n2 => ?_, ?_, ?_, fun k k1 k2 => ?_, fun k k' k1 k2 k3 => ?_, fun a a1 a2 => ?_, fun g n n1 n2 g1 g2 => ?_⟩
  · rw [dd d 1 (by omega) (by omega) (by omega) (by omega), a45, a31]; exact h2
  · rw [dd d 2 (by omega) (by omega) (by omega) (by omega), a46]; exact h3
  · have h4' := h4 n n1 n2
    rw [f1 n n1 n2, f2 n n1 n2, a33 33 n (by omega) (by omega) n1 n2]
    by_cases em : mev c i n
    · have ec := (hev n n1 n2).mpr em
      have hr := mdu_r hM n1 n2 em.1
      rw [if_pos em, if_pos ec, hdu n n1 n2 ec.1]
      exact ⟨rfl, by omega, fun _ => em.1⟩
    · rw [if_neg em, if_neg (fun hh => em ((hev n n1 n2).mp hh))]
      exact h4'
  · rw [f3, h5, hcnt]
    unfold mbc
    rw [← sm_add]
    refine sm_c 40 (fun n n1 n2 => ?_)
    rw [f2 n n1 (by omega)]
    by_cases em : mev c i n
    · have hr := mdu_r hM n1 (by omega) em.1
      have := em.2.1
      rw [if_pos em]
      unfold bz
      rw [if_pos em, if_neg (by omega), if_pos (by omega)]
      omega
    · rw [if_neg em]
      unfold bz
      rw [if_neg em]
      omega
  · rw [dd d 8 (by omega) (by omega) (by omega) (by omega), a48]; exact h6
  · rw [a48] at k2
    rw [dd (d + 3) k (by omega) (by omega) (by omega) (by omega), dd (d + 4) k (by omega) (by omega) (by omega) (by omega), (a49 k k1 k2).1, (a49 k k1 k2).2, a31, a45]; exact h7 k k1 k2
  · rw [a48] at k3
    rw [(a49 k k1 (by omega)).2, (a49 k' (by omega) k3).2]; exact h8 k k' k1 k2 k3
  · rw [dd (d + 2) a (by omega) (by omega) (by omega) (by omega), hft]; exact h9 a a1 a2
  · rw [a33 33 n (by omega) (by omega) n1 n2] at g1
    rw [f2 n n1 n2] at g2
    rw [a31, a45, hmd n n1 n2]
    by_cases em : mev c i n
    · have hr := mdu_r hM n1 n2 em.1
      rw [if_pos em] at g2
      omega
    · rw [if_neg em] at g2
      by_cases e5 : mdu c i n ≤ c 31 1 - c 45 i
      · exact absurd ⟨g1, g2, e5⟩ em
      · omega
/-! what these functions read -/
theorem cdu_c {c c' : Nat → Int → Int} {d s : Nat} (e1 : c' (s + 2) = c (s + 2)) (e2 : c' (s + 3) = c (s + 3)) (e3 : c' (s + 4) = c (s + 4)) (e4 : c' (d + 2) = c (d + 2)) (n : Int) : cdu c' d s n = cdu c d s n := by
  unfold cdu cfi
  rw [e1, e2, e3, e4]
theorem cev_c {c c' : Nat → Int → Int} {d s : Nat} (e0 : c' (s + 1) = c (s + 1)) (e5 : c' (d + 1) = c (d + 1)) (e1 : c' (s + 2) = c (s + 2)) (e2 : c' (s + 3) = c (s + 3)) (e3 : c' (s + 4) = c (s + 4)) (e4 : c' (d + 2) = c (d + 2)) (t n : Int) : cev c' d s t n ↔ cev c d s t n := by
  unfold cev
  rw [e0, e5, cdu_c e1 e2 e3 e4]
theorem mev_c {c c' : Nat → Int → Int} (e : ∀ q, 31 ≤ q → q ≤ 55 → ∀ j, ¬ (q = 31 ∧ j = 0) → c' q j = c q j) (i n : Int) : mdu c' i n = mdu c i n ∧ (mev c' i n ↔ mev c i n) := by
  have e1 : ∀ a, mft c' i a 0 = mft c i a 0 := fun a => mft_c (e 48 (by omega) (by omega) _ (by omega)) (fun k _ _ => ⟨e 49 (by omega) (by omega) _ (by omega), e 50 (by omega) (by omega) _ (by omega)⟩) a 0
  have e2 : mdu c' i n = mdu c i n := mdu_c e1 (e 34 (by omega) (by omega) _ (by omega)) (e 35 (by omega) (by omega) _ (by omega)) (e 36 (by omega) (by omega) _ (by omega))
  refine ⟨e2, ?_⟩
  unfold mev
  rw [e2, e 33 (by omega) (by omega) _ (by omega), e 47 (by omega) (by omega) _ (by omega), e 31 (by omega) (by omega) 1 (by omega), e 45 (by omega) (by omega) _ (by omega)]
theorem bdc_n' (c : Nat → Int → Int) {d s q : Nat} {t k j : Int} (h : ¬ (q = d + 1 ∧ 1 ≤ j ∧ j ≤ k)) : bdc c d s t k q j = c q j := if_neg (fun hh => h ⟨hh.1, hh.2.1, hh.2.2.1⟩)
theorem lkc_n' (c : Nat → Int → Int) {d k j : Int} {q : Nat} (h : ¬ (q = 47 ∧ d * 41 + 1 ≤ j ∧ j ≤ d * 41 + k)) : lkc c d k q j = c q j := if_neg (fun hh => h ⟨hh.1, hh.2.1, hh.2.2.1⟩)
theorem bdc_y (c : Nat → Int → Int) {d s : Nat} {t n : Int} (n1 : 1 ≤ n) (n2 : n ≤ 40) : bdc c d s t 40 (d + 1) n = if cev c d s t n then cdu c d s n else c (d + 1) n := by
  unfold bdc
  by_cases e : cev c d s t n
  · rw [if_pos ⟨rfl, n1, n2, e⟩, if_pos e]
  · rw [if_neg (fun hh => e hh.2.2.2), if_neg e]
theorem lkc_y (c : Nat → Int → Int) {d n : Int} (n1 : 1 ≤ n) (n2 : n ≤ 40) : lkc c d 40 47 (d * 41 + n) = if mev c d n then c 31 1 - c 45 d else c 47 (d * 41 + n) := by
  unfold lkc
  rw [show d * 41 + n - d * 41 = n by omega]
  by_cases e : mev c d n
  · rw [if_pos ⟨rfl, by omega, by omega, e⟩, if_pos e]
  · rw [if_neg (fun hh => e hh.2.2.2), if_neg e]
theorem MH_c {c c' : Nat → Int → Int} {i : Int} (H : MH c i) (e : ∀ q, 31 ≤ q → q ≤ 55 → ∀ j, ¬ (q = 31 ∧ j = 0) → c' q j = c q j) : MH c' i := by
  have e33 : c' 33 = c 33 := funext fun j => e 33 (by omega) (by omega) j (by omega)
  have e34 : c' 34 = c 34 := funext fun j => e 34 (by omega) (by omega) j (by omega)
  have e35 : c' 35 = c 35 := funext fun j => e 35 (by omega) (by omega) j (by omega)
  have e36 : c' 36 = c 36 := funext fun j => e 36 (by omega) (by omega) j (by omega)
  have e45 : c' 45 = c 45 := funext fun j => e 45 (by omega) (by omega) j (by omega)
  have e47 : c' 47 = c 47 := funext fun j => e 47 (by omega) (by omega) j (by omega)
  have e48 : c' 48 = c 48 := funext fun j => e 48 (by omega) (by omega) j (by omega)
  have e49 : c' 49 = c 49 := funext fun j => e 49 (by omega) (by omega) j (by omega)
  have e50 : c' 50 = c 50 := funext fun j => e 50 (by omega) (by omega) j (by omega)
  unfold MH
  rw [e33, e34, e35, e36, e45, e47, e48, e49, e50, e 31 (by omega) (by omega) 1 (by omega)]
  exact H
