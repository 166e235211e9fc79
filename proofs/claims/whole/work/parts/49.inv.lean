/-! ===== a drill in the class and in the reference ===== -/
def DR (c : Nat → Int → Int) (i : Int) (d s : Nat) : Prop := SRel c s c (i * 41) (i * 21)
  ∧ (c d 1 = c 45 i ∧ 0 ≤ c 45 i ∧ c 45 i ≤ c 31 1)
  ∧ (c d 2 = 1 - c 46 i ∧ 0 ≤ c 46 i ∧ c 46 i < 2)
  ∧ (∀ n, 1 ≤ n → n ≤ 40 → c (d + 1) n = c 47 (i * 41 + n) ∧ (-1 ≤ c 47 (i * 41 + n) ∧ c 47 (i * 41 + n) ≤ 99999) ∧ (0 ≤ c 47 (i * 41 + n) → c 33 (i * 41 + n) = 1))
  ∧ c d 4 = mbc c i
  ∧ (c d 8 = c 48 i ∧ 0 ≤ c 48 i ∧ c 48 i ≤ 60)
  ∧ (∀ k, 0 ≤ k → k < c 48 i → c (d + 3) k = c 49 (i * 60 + k) ∧ c (d + 4) k = c 50 (i * 60 + k) ∧ (0 ≤ c 49 (i * 60 + k) ∧ c 49 (i * 60 + k) ≤ 19) ∧ (0 ≤ c 50 (i * 60 + k) ∧ c 50 (i * 60 + k) ≤ c 31 1 - c 45 i))
  ∧ (∀ k k', 0 ≤ k → k ≤ k' → k' < c 48 i → c 50 (i * 60 + k) ≤ c 50 (i * 60 + k'))
  ∧ (∀ a, 0 ≤ a → a ≤ 19 → c (d + 2) a = mft c i a 0)
  ∧ (c 46 i = 0 → ∀ n, 1 ≤ n → n ≤ 40 → c 33 (i * 41 + n) = 1 → c 47 (i * 41 + n) < 0 → c 31 1 - c 45 i < mdu c i n)
/-- the cells that a drill reads -/
def RD (i : Int) (d s : Nat) (q : Nat) (j : Int) : Prop := (s ≤ q ∧ q ≤ s + 11 ∧ (q = s → j = 7)) ∨ (d ≤ q ∧ q ≤ d + 4) ∨ (33 ≤ q ∧ q ≤ 39 ∧ i * 41 + 1 ≤ j ∧ j ≤ i * 41 + 40) ∨ (40 ≤ q ∧ q ≤ 44 ∧ i * 21 + 1 ≤ j ∧ j ≤ i * 21 + 20) ∨ ((q = 45 ∨ q = 46 ∨ q = 48) ∧ j = i) ∨ (q = 47 ∧ i * 41 + 1 ≤ j ∧ j ≤ i * 41 + 40) ∨ ((q = 49 ∨ q = 50) ∧ i * 60 ≤ j ∧ j < i * 60 + 60) ∨ (q = 31 ∧ j = 1)
section RDS
variable {i : Int} {d s q : Nat} {j : Int}
theorem RD_s (h1 : s ≤ q) (h2 : q ≤ s + 11) (h3 : q = s → j = 7) : RD i d s q j := Or.inl ⟨h1, h2, h3⟩
theorem RD_d (h1 : d ≤ q) (h2 : q ≤ d + 4) : RD i d s q j := Or.inr (Or.inl ⟨h1, h2⟩)
theorem RD_33 (h1 : 33 ≤ q) (h2 : q ≤ 39) (h3 : 1 ≤ j) (h4 : j ≤ 40) : RD i d s q (i * 41 + j) := Or.inr (Or.inr (Or.inl ⟨h1, h2, by omega, by omega⟩))
theorem RD_40 (h1 : 40 ≤ q) (h2 : q ≤ 44) (h3 : 1 ≤ j) (h4 : j ≤ 20) : RD i d s q (i * 21 + j) := Or.inr (Or.inr (Or.inr (Or.inl ⟨h1, h2, by omega, by omega⟩)))
theorem RD_45 : RD i d s 45 i := Or.inr (Or.inr (Or.inr (Or.inr (Or.inl ⟨Or.inl rfl, rfl⟩))))
theorem RD_46 : RD i d s 46 i := Or.inr (Or.inr (Or.inr (Or.inr (Or.inl ⟨Or.inr (Or.inl rfl), rfl⟩))))
theorem RD_48 : RD i d s 48 i := Or.inr (Or.inr (Or.inr (Or.inr (Or.inl ⟨Or.inr (Or.inr rfl), rfl⟩))))
theorem RD_47 (h3 : 1 ≤ j) (h4 : j ≤ 40) : RD i d s 47 (i * 41 + j) := Or.inr (Or.inr (Or.inr (Or.inr (Or.inr (Or.inl ⟨rfl, by omega, by omega⟩)))))
theorem RD_49 (h3 : 0 ≤ j) (h4 : j < 60) : RD i d s 49 (i * 60 + j) := Or.inr (Or.inr (Or.inr (Or.inr (Or.inr (Or.inr (Or.inl ⟨Or.inl rfl, by omega, by omega⟩))))))
theorem RD_50 (h3 : 0 ≤ j) (h4 : j < 60) : RD i d s 50 (i * 60 + j) := Or.inr (Or.inr (Or.inr (Or.inr (Or.inr (Or.inr (Or.inl ⟨Or.inr rfl, by omega, by omega⟩))))))
theorem RD_31 : RD i d s 31 1 := Or.inr (Or.inr (Or.inr (Or.inr (Or.inr (Or.inr (Or.inr ⟨rfl, rfl⟩))))))
end RDS
theorem mft_c {c c' : Nat → Int → Int} {i : Int} (e1 : c' 48 i = c 48 i) (e2 : ∀ k, 0 ≤ k → k < c 48 i → c' 49 (i * 60 + k) = c 49 (i * 60 + k) ∧ c' 50 (i * 60 + k) = c 50 (i * 60 + k)) (a fr : Int) : mft c' i a fr = mft c i a fr := by
  unfold mft
  rw [e1]
  exact ft_c _ (fun k k1 k2 => e2 k k1 (by omega))
theorem mdu_c {c c' : Nat → Int → Int} {i n : Int} (e1 : ∀ a, mft c' i a 0 = mft c i a 0) (e2 : c' 34 (i * 41 + n) = c 34 (i * 41 + n)) (e3 : c' 35 (i * 41 + n) = c 35 (i * 41 + n)) (e4 : c' 36 (i * 41 + n) = c 36 (i * 41 + n)) : mdu c' i n = mdu c i n := by
  unfold mdu
  rw [e2, e3, e4, e1]
theorem mbc_c {c c' : Nat → Int → Int} {i : Int} (e : ∀ n, 1 ≤ n → n ≤ 40 → c' 47 (i * 41 + n) = c 47 (i * 41 + n)) : mbc c' i = mbc c i := by
  unfold mbc
  exact sm_c 40 (fun n n1 n2 => by rw [e n n1 (by omega)])
theorem DR_g {c c' : Nat → Int → Int} {i : Int} {d s : Nat} (H : DR c i d s) (e : ∀ q j, RD i d s q j → ¬ (q = d ∧ j = 2) → q ≠ 46 → c' q j = c q j) (hd : 57 ≤ d) (hs : s = 4 ∨ s = 16 ∨ 57 ≤ s) (h3 : c' d 2 = 1 - c' 46 i ∧ 0 ≤ c' 46 i ∧ c' 46 i < 2) (g10 : c' 46 i = 0 → c 46 i = 0) (hds : DS d s) : DR c' i d s := by
  unfold DS at hds
  obtain ⟨h1, h2, _, h4, h5, h6, h7, h8, h9, h10⟩ := H
  have a45 : c' 45 i = c 45 i := e _ _ RD_45 (by omega) (by omega)
  have a48 : c' 48 i = c 48 i := e _ _ RD_48 (by omega) (by omega)
  have a31 : c' 31 1 = c 31 1 := e _ _ RD_31 (by omega) (by omega)
  have a47 : ∀ n, 1 ≤ n → n ≤ 40 → c' 47 (i * 41 + n) = c 47 (i * 41 + n) := fun n n1 n2 => e _ _ (RD_47 n1 n2) (by omega) (by omega)
  have a33 : ∀ q n, 33 ≤ q → q ≤ 39 → 1 ≤ n → n ≤ 40 → c' q (i * 41 + n) = c q (i * 41 + n) := fun q n q1 q2 n1 n2 => e _ _ (RD_33 q1 q2 n1 n2) (by omega) (by omega)
  have a49 : ∀ k, 0 ≤ k → k < c 48 i → c' 49 (i * 60 + k) = c 49 (i * 60 + k) ∧ c' 50 (i * 60 + k) = c 50 (i * 60 + k) := fun k k1 k2 => ⟨e _ _ (RD_49 k1 (by omega)) (by omega) (by omega), e _ _ (RD_50 k1 (by omega)) (by omega) (by omega)⟩
  have dd : ∀ q j, d ≤ q → q ≤ d + 4 → ¬ (q = d ∧ j = 2) → c' q j = c q j := fun q j q1 q2 q3 => e _ _ (RD_d q1 q2) q3 (by omega)
  have hft := mft_c a48 a49
  refine ⟨SRel_f h1 (fun q j q1 q2 q3 => e q j (RD_s q1 q2 q3) (by omega) (by omega)) a33 (fun q n q1 q2 n1 n2 => e _ _ (RD_40 q1 q2 n1 n2) (by omega) (by omega)), ?_, h3, fun n n1 n2 => ?_, ?_, ?_, fun k k1 k2 => ?_, fun k k' k1 k2 k3 => ?_, fun a a1 a2 => ?_, fun g n n1 n2 g1 g2 => ?_⟩
  · rw [dd d 1 (by omega) (by omega) (by omega), a45, a31]; exact h2
  · rw [dd (d + 1) n (by omega) (by omega) (by omega), a47 n n1 n2, a33 33 n (by omega) (by omega) n1 n2]; exact h4 n n1 n2
  · rw [dd d 4 (by omega) (by omega) (by omega), mbc_c a47]; exact h5
  · rw [dd d 8 (by omega) (by omega) (by omega), a48]; exact h6
  · rw [a48] at k2
    rw [dd (d + 3) k (by omega) (by omega) (by omega), dd (d + 4) k (by omega) (by omega) (by omega), (a49 k k1 k2).1, (a49 k k1 k2).2, a31, a45]; exact h7 k k1 k2
  · rw [a48] at k3
    rw [(a49 k k1 (by omega)).2, (a49 k' (by omega) k3).2]; exact h8 k k' k1 k2 k3
  · rw [dd (d + 2) a (by omega) (by omega) (by omega), hft]; exact h9 a a1 a2
  · rw [a33 33 n (by omega) (by omega) n1 n2] at g1
    rw [a47 n n1 n2] at g2
    rw [a31, a45, mdu_c (fun a => hft a 0) (a33 34 n (by omega) (by omega) n1 n2) (a33 35 n (by omega) (by omega) n1 n2) (a33 36 n (by omega) (by omega) n1 n2)]
    exact h10 (g10 g) n n1 n2 g1 g2
theorem DR_f {c c' : Nat → Int → Int} {i : Int} {d s : Nat} (H : DR c i d s) (hd : 57 ≤ d) (hs : s = 4 ∨ s = 16 ∨ 57 ≤ s) (hds : DS d s) (e : ∀ q j, RD i d s q j → c' q j = c q j) : DR c' i d s := by
  have a46 : c' 46 i = c 46 i := e _ _ RD_46
  exact DR_g H (fun q j hq _ _ => e q j hq) hd hs (by rw [a46, e d 2 (RD_d (by omega) (by omega))]; exact H.2.2.1) (fun g => by rw [← a46]; exact g) hds
section DRS
variable {c : Nat → Int → Int} {i : Int} {d s : Nat}
theorem SR_ev {e a : Int} {c' : Nat → Int → Int} (H : SRel c s c' e a) {n : Int} (n1 : 1 ≤ n) (n2 : n ≤ 40) : sE c s c' e n := H.1 n n1 n2
theorem DR_MH (H : DR c i d s) (i0 : 0 ≤ i) (i1 : i < 8) (ht : c 31 1 ≤ 99999) : MH c i := by
  obtain ⟨h1, h2, h3, h4, h5, h6, h7, h8, h9, h10⟩ := H
  refine ⟨⟨i0, i1⟩, ⟨h2.2.1, h2.2.2, ht⟩, fun n n1 n2 => ?_, h6.2, fun k k1 k2 => ?_⟩
  · obtain ⟨e1, e2, e3, e4⟩ := h1.1 n n1 n2
    rw [← e1]
    exact ⟨⟨e2, e3⟩, (h4 n n1 n2).2.1, fun g => by
      obtain ⟨f1, f2, f3, _, _, _, f7, f8, f9, _⟩ := e4 g
      rw [← f1, ← f2, ← f3]
      exact ⟨f7, f8, f9⟩⟩
  · have := h7 k k1 k2
    exact ⟨this.2.2.1, by omega, by omega⟩
theorem DR_MB (H : DR c i d s) (i0 : 0 ≤ i) (i1 : i < 8) : MB c i := by
  obtain ⟨h1, h2, h3, h4, h5, h6, h7, h8, h9, h10⟩ := H
  refine ⟨⟨i0, i1⟩, fun n n1 n2 => ?_⟩
  obtain ⟨e1, e2, e3, e4⟩ := h1.1 n n1 n2
  rw [← e1]
  exact ⟨⟨e2, e3⟩, (h4 n n1 n2).2.1, fun g => by
    obtain ⟨_, _, _, f4, f5, f6, _, _, _, f7, f8, f9⟩ := e4 g
    rw [← f4, ← f5, ← f6]
    exact ⟨f7, f8, f9⟩⟩
theorem DR_CH (H : DR c i d s) (i0 : 0 ≤ i) (i1 : i < 8) (ht : c 31 1 ≤ 99999) : CH c d s := by
  have hM := DR_MH H i0 i1 ht
  obtain ⟨h1, h2, h3, h4, h5, h6, h7, h8, h9, h10⟩ := H
  refine ⟨by omega, fun n n1 n2 => ?_, fun a a1 a2 => ?_, by omega, fun k k1 k2 => ?_, by omega⟩
  · obtain ⟨e1, e2, e3, e4⟩ := h1.1 n n1 n2
    have h4' := h4 n n1 n2
    refine ⟨⟨e2, e3⟩, by omega, fun g => ?_⟩
    obtain ⟨_, _, _, _, _, _, f7, f8, f9, _⟩ := e4 g
    exact ⟨f7, f8, f9⟩
  · rw [h9 a a1 a2]; exact mft_r hM a 0
  · have := h7 k k1 (by omega)
    omega
theorem DR_CB (H : DR c i d s) : CB c d s := by
  obtain ⟨h1, h2, h3, h4, h5, h6, h7, h8, h9, h10⟩ := H
  intro n n1 n2
  obtain ⟨e1, e2, e3, e4⟩ := h1.1 n n1 n2
  have h4' := h4 n n1 n2
  refine ⟨by omega, fun g => ?_⟩
  obtain ⟨_, _, _, _, _, _, _, _, _, f7, f8, f9⟩ := e4 (by have := h4'.2.2 (by omega); omega)
  exact ⟨f7, f8, f9⟩
theorem DR_CA (H : DR c i d s) : CA c s := by
  intro n n1 n2
  obtain ⟨e1, e2, e3, e4⟩ := H.1.2.1 n n1 n2
  refine ⟨⟨e1, e2⟩, fun g => ?_⟩
  obtain ⟨_, _, _, _, f5, f6, f7⟩ := e4 g
  exact ⟨g, e2, f5, f6, f7⟩
theorem DR_MA (H : DR c i d s) : MA c i := by
  intro n n1 n2
  obtain ⟨e1, e2, e3, e4⟩ := H.1.2.1 n n1 n2
  have b := bz_01 (0 < c (s + 11) n)
  refine ⟨by omega, fun g => ?_⟩
  have g' : 0 < c (s + 11) n := by
    by_cases e : 0 < c (s + 11) n
    · exact e
    · rw [e3] at g; unfold bz at g; rw [if_neg e] at g; omega
  obtain ⟨f1, f2, f3, f4, f5, f6, f7⟩ := e4 g'
  unfold mA1
  have := H.2.2.1
  rw [← f1, ← f2, ← f3, ← f4]
  exact ⟨⟨f5, f6, f7, this.2⟩, by omega, by omega⟩
theorem DR_du (H : DR c i d s) (hM : MH c i) {n : Int} (n1 : 1 ≤ n) (n2 : n ≤ 40) (g : c (s + 1) n = 1) : cdu c d s n = mdu c i n := by
  obtain ⟨h1, h2, h3, h4, h5, h6, h7, h8, h9, h10⟩ := H
  obtain ⟨e1, e2, e3, e4⟩ := h1.1 n n1 n2
  obtain ⟨f1, f2, f3, _, _, _, f7, f8, f9, _⟩ := e4 g
  unfold cdu mdu cfi
  rw [← f1, ← f2, ← f3]
  by_cases e : c (s + 2) n < 0
  · rw [if_pos e, if_pos e, if_pos rfl]
  · rw [if_neg e, if_neg e, h9 _ (by omega) (by omega)]
    have := mft_r hM (c (s + 2) n) 0
    by_cases e5 : mft c i (c (s + 2) n) 0 = -1
    · rw [if_pos e5, if_pos (by omega)]
    · rw [if_neg e5, if_neg (show ¬ (mft c i (c (s + 2) n) 0 < 0) by omega)]
      by_cases e6 : c (s + 4) n < mft c i (c (s + 2) n) 0 + c (s + 3) n
      · rw [if_pos e6, if_neg (by omega)]
      · rw [if_neg e6, if_pos (by omega)]
theorem DR_is (H : DR c i d s) (hM : MH c i) (ht : c 1 4 = c 31 1) {n : Int} (n1 : 1 ≤ n) (n2 : n ≤ 20) (g : 0 < c (s + 11) n) : cis c d s (c 1 4 - c d 1) n = mis c i n := by
  obtain ⟨h1, h2, h3, h4, h5, h6, h7, h8, h9, h10⟩ := H
  obtain ⟨e1, e2, e3, e4⟩ := h1.2.1 n n1 n2
  obtain ⟨f1, f2, f3, f4, f5, f6, f7⟩ := e4 g
  have hb := h4 (c (s + 8) n) (by omega) (by omega)
  unfold cis mis
  rw [← f1, ← f2, ← f3, hb.1, ht, h2.1, h6.1, h3.1]
  generalize hB : c 47 (i * 41 + c (s + 8) n) = B at hb ⊢
  have hon : (if 1 - c 46 i = 0 then (2 : Int) else 0) = if c 46 i = 0 then 0 else 2 := by
    by_cases e : c 46 i = 0
    · rw [if_pos e, if_neg (by omega)]
    · rw [if_neg e, if_pos (by omega)]
  rw [hon]
  by_cases e : B = -1
  · rw [if_pos e, if_pos (show B < 0 by omega)]
  · rw [if_neg e, if_neg (show ¬ (B < 0) by omega)]
    have hw : (cw (c (d + 3)) (c (d + 4)) (c (s + 9) n) B (B + c (s + 10) n) (c 48 i).toNat = 1) ↔ (0 ≤ mft c i (c (s + 9) n) B ∧ mft c i (c (s + 9) n) B ≤ B + c (s + 10) n) := by
      rw [cw_ex]
      unfold mft
      rw [← ft_w (by omega) _ (fun k k1 k2 => (h7 k k1 (by omega)).2.2.2.1) (fun k k' k1 k2 k3 => h8 k k' k1 k2 (by omega))]
      constructor
      · intro ⟨k, k1, k2, k3, k4, k5⟩
        have := h7 k k1 (by omega)
        rw [this.1] at k3
        rw [this.2.1] at k4 k5
        exact ⟨k, k1, k2, k3, k4, k5⟩
      · intro ⟨k, k1, k2, k3, k4, k5⟩
        have := h7 k k1 (by omega)
        refine ⟨k, k1, k2, ?_, ?_, ?_⟩
        · rw [this.1]; exact k3
        · rw [this.2.1]; exact k4
        · rw [this.2.1]; exact k5
    have h01 := cw_01 (kd := c (d + 3)) (at' := c (d + 4)) (a := c (s + 9) n) (fr := B) (to' := B + c (s + 10) n) (c 48 i).toNat
    generalize cw (c (d + 3)) (c (d + 4)) (c (s + 9) n) B (B + c (s + 10) n) (c 48 i).toNat = W at hw h01 ⊢
    by_cases e5 : W = 0
    · rw [if_pos e5, if_neg (show ¬ (0 ≤ mft c i (c (s + 9) n) B ∧ mft c i (c (s + 9) n) B ≤ B + c (s + 10) n) from fun hh => by have := hw.mpr hh; omega)]
    · rw [if_neg e5, if_pos (hw.mp (by omega))]
theorem DR_aw (H : DR c i d s) {n : Int} (n1 : 1 ≤ n) (n2 : n ≤ 20) : c 40 (i * 21 + n) = bz (0 < c (s + 11) n) ∧ (0 < c (s + 11) n → c (s + 11) n = c 44 (i * 21 + n)) := by
  obtain ⟨e1, e2, e3, e4⟩ := H.1.2.1 n n1 n2
  exact ⟨e3, fun g => (e4 g).2.2.2.1⟩
theorem DR_sw (H : DR c i d s) : sm (c (s + 11)) 20 = sm (mW c i) 20 := by
  refine sm_c 20 (fun n n1 n2 => ?_)
  have h := DR_aw H n1 (by omega)
  have hA := DR_CA H n n1 (by omega)
  unfold mW
  rw [h.1]
  unfold bz
  by_cases e : 0 < c (s + 11) n
  · rw [if_pos e, if_neg (by omega)]; exact h.2 e
  · rw [if_neg e, if_pos rfl]; omega
theorem DR_sM (H : DR c i d s) (hM : MH c i) (ht : c 1 4 = c 31 1) : sm (cM c d s (c 1 4 - c d 1)) 20 = sm (mM c i) 20 := by
  refine sm_c 20 (fun n n1 n2 => ?_)
  have h := DR_aw H n1 (by omega)
  unfold mM cM
  rw [h.1]
  unfold bz
  by_cases e : 0 < c (s + 11) n
  · rw [if_pos e, if_pos e, if_neg (show ¬ ((1 : Int) = 0) by omega), DR_is H hM ht n1 (by omega) e, ← h.2 e]
  · rw [if_neg e, if_neg e, if_pos rfl]
theorem DR_sC {i' : Int} {d' s' : Nat} (H : DR c i d s) (hM : MH c i) (H' : DR c i' d' s') (hM' : MH c i') (ht : c 1 4 = c 31 1) : sm (cC c d s d' s' (c 1 4 - c d 1) (c 1 4 - c d' 1)) 20 = sm (mC c i i') 20 := by
  refine sm_c 20 (fun n n1 n2 => ?_)
  have h := DR_aw H n1 (by omega)
  have h' := DR_aw H' n1 (by omega)
  unfold mC cC
  rw [h.1, h'.1]
  unfold bz
  by_cases e : 0 < c (s + 11) n
  · by_cases e' : 0 < c (s' + 11) n
    · rw [DR_is H hM ht n1 (by omega) e, DR_is H' hM' ht n1 (by omega) e']
      rw [if_pos e, if_pos e']
      by_cases e3 : mis c i n = mis c i' n
      · rw [if_neg (fun hh => hh.2.2 e3), if_neg (fun hh => hh.2.2 e3)]
      · rw [if_pos ⟨e, e', e3⟩, if_pos ⟨rfl, rfl, e3⟩]
    · rw [if_neg (fun hh => e' hh.2.1), if_neg (fun hh => by have := hh.2.1; rw [if_neg e'] at this; omega)]
  · rw [if_neg (fun hh => e hh.1), if_neg (fun hh => by have := hh.1; rw [if_neg e] at this; omega)]
theorem DR_ev (H : DR c i d s) {n : Int} (n1 : 1 ≤ n) (n2 : n ≤ 40) : c (d + 1) n = c 47 (i * 41 + n) ∧ -1 ≤ c 47 (i * 41 + n) ∧ (0 ≤ c 47 (i * 41 + n) → c 33 (i * 41 + n) = 1 ∧ c (s + 1) n = 1 ∧ c (s + 5) n = c 37 (i * 41 + n) ∧ c (s + 6) n = c 38 (i * 41 + n) ∧ c (s + 7) n = c 39 (i * 41 + n)) := by
  obtain ⟨h1, h2, h3, h4, h5⟩ := H
  have h4' := h4 n n1 n2
  obtain ⟨e1, e2, e3, e4⟩ := h1.1 n n1 n2
  refine ⟨h4'.1, h4'.2.1.1, fun g => ?_⟩
  have g' := h4'.2.2 g
  obtain ⟨f1, f2, f3, f4, f5, f6, _⟩ := e4 (by omega)
  exact ⟨g', by omega, f4, f5, f6⟩
theorem DR_se (H : DR c i d s) {p n : Int} (n1 : 1 ≤ n) (n2 : n ≤ 40) : cse c d s p n = mse c i p n := by
  have h := DR_ev H n1 n2
  unfold cse mse bz
  rw [h.1]
  by_cases e : 0 ≤ c 47 (i * 41 + n)
  · have h' := h.2.2 e
    rw [h'.2.2.1, h'.2.2.2.1]
    by_cases e2 : c 38 (i * 41 + n) = 0 ∨ c 37 (i * 41 + n) = p
    · rw [if_pos ⟨by omega, e2⟩, if_pos ⟨h'.1, e, e2⟩]
    · rw [if_neg (fun hh => e2 hh.2), if_neg (fun hh => e2 hh.2.2)]
  · rw [if_neg (fun hh => by have := hh.1; omega), if_neg (fun hh => e hh.2.1)]
theorem DR_fa (H : DR c i d s) {p n : Int} (n1 : 1 ≤ n) (n2 : n ≤ 40) : cfa' c d s p n = mfa' c i p n := by
  have h := DR_ev H n1 n2
  unfold cfa' mfa' bz
  rw [h.1]
  by_cases e : 0 ≤ c 47 (i * 41 + n)
  · have h' := h.2.2 e
    rw [h'.2.2.2.2]
    by_cases e2 : c 39 (i * 41 + n) = p
    · rw [if_pos ⟨by omega, e2⟩, if_pos ⟨h'.1, e, e2⟩]
    · rw [if_neg (fun hh => e2 hh.2), if_neg (fun hh => e2 hh.2.2)]
  · rw [if_neg (fun hh => by have := hh.1; omega), if_neg (fun hh => e hh.2.1)]
theorem DR_on (H : DR c i d s) : c d 4 = sm (mon c i) 40 := by
  rw [H.2.2.2.2.1]
  unfold mbc
  refine sm_c 40 (fun n n1 n2 => ?_)
  have h := DR_ev H n1 (by omega)
  unfold mon bz
  by_cases e : 0 ≤ c 47 (i * 41 + n)
  · rw [if_pos e, if_pos ⟨(h.2.2 e).1, e⟩]
  · rw [if_neg e, if_neg (fun hh => e hh.2)]
end DRS
/-! ===== the whole state ===== -/
def IA (c : Nat → Int → Int) (nd : Nat) (da sa : Nat → Nat) (cs sp : Nat) : Prop := (nd ≤ 8 ∧ c 1 6 = nd ∧ c 31 19 = nd) ∧ (c 1 4 = c 31 1 ∧ 0 ≤ c 31 1 ∧ c 31 1 ≤ 99999) ∧ SRel c cs c 328 168 ∧ mB c ∧ (∀ i : Int, nd ≤ i → i < 8 → c 46 i = 0 ∧ c 48 i = 0) ∧ (∀ i : Nat, i < nd → DR c i (da i) (sa i)) ∧ ((0 ≤ c cs 12 ∧ c cs 12 < 2) ∧ c sp 12 = 0) ∧ (c cs 12 = 0 → ∀ i, i < nd → SD cs (sa i)) ∧ (∀ j, -2147483648 ≤ c 0 j ∧ c 0 j < 2147483648)
def RA (q : Nat) (j : Int) : Prop := (q = 1 ∧ (j = 4 ∨ j = 6)) ∨ (q = 31 ∧ (j = 1 ∨ j = 19)) ∨ (33 ≤ q ∧ q ≤ 50) ∨ q = 0 ∨ (4 ≤ q ∧ q ≤ 27) ∨ 57 ≤ q
theorem RA_hi {q : Nat} {j : Int} (h : 33 ≤ q ∧ q ≤ 50) : RA q j := Or.inr (Or.inr (Or.inl h))
theorem RA_lo {q : Nat} {j : Int} (h : (4 ≤ q ∧ q ≤ 27) ∨ 57 ≤ q) : RA q j := Or.inr (Or.inr (Or.inr (Or.inr h)))
theorem RA_0 {j : Int} : RA 0 j := Or.inr (Or.inr (Or.inr (Or.inl rfl)))
theorem IA_f {c c' : Nat → Int → Int} {nd top : Nat} {da sa : Nat → Nat} {cs sp : Nat} (hA : Adr top nd da sa cs sp) (H : IA c nd da sa cs sp) (e : ∀ q j, RA q j → c' q j = c q j) : IA c' nd da sa cs sp := by
  obtain ⟨a0, a1, a2, a3, a4, a5, a6⟩ := hA
  unfold sad at a1 a2
  obtain ⟨h1, h2, h3, h4, h5, h6, h7, h8, h9⟩ := H
  refine ⟨?_, ?_, SRel_f h3 (fun q j q1 q2 _ => e q j (RA_lo (by omega))) (fun q n q1 q2 _ _ => e q _ (RA_hi (by omega))) (fun q n q1 q2 _ _ => e q _ (RA_hi (by omega))), fun j => ?_, fun i i1 i2 => ?_, fun i hi => ?_, ?_, ?_, fun j => ?_⟩
  · rw [e 1 6 (by unfold RA; omega), e 31 19 (by unfold RA; omega)]; exact h1
  · rw [e 1 4 (by unfold RA; omega), e 31 1 (by unfold RA; omega)]; exact h2
  · rw [e 33 j (RA_hi (by omega)), e 38 j (RA_hi (by omega)), e 40 j (RA_hi (by omega))]; exact h4 j
  · rw [e 46 i (RA_hi (by omega)), e 48 i (RA_hi (by omega))]; exact h5 i i1 i2
  · have := a4 i hi
    unfold sad at this
    exact DR_f (h6 i hi) (by omega) this.2.1.1 (a5 i i hi hi) (fun q j hq => e q j (by
      unfold RD at hq
      rcases hq with h | h | h | h | h | h | h | h
      · exact RA_lo (by omega)
      · exact RA_lo (by omega)
      · exact RA_hi (by omega)
      · exact RA_hi (by omega)
      · exact RA_hi (by omega)
      · exact RA_hi (by omega)
      · exact RA_hi (by omega)
      · exact Or.inr (Or.inl ⟨h.1, Or.inl h.2⟩)))
  · rw [e cs 12 (RA_lo (by omega)), e sp 12 (RA_lo (by omega))]; exact h7
  · rw [e cs 12 (RA_lo (by omega))]; exact h8
  · rw [e 0 j RA_0]; exact h9 j
def IT (c : Nat → Int → Int) : Prop := (c 1 3 = c 31 4 ∧ -1 ≤ c 31 4 ∧ c 31 4 ≤ 300) ∧ (c 2 1 = c 31 2 ∧ 0 ≤ c 31 2 ∧ c 31 2 ≤ 300 ∧ ∀ j, 0 ≤ j → j < c 31 2 → c 3 j = c 32 j ∧ 0 ≤ c 32 j ∧ c 32 j ≤ 255)
def IU (c : Nat → Int → Int) : Prop := ∀ u, 0 ≤ u → u < 20 → c 29 u = c 51 u ∧ -1 ≤ c 51 u ∧ c 51 u < 8
def IW (c : Nat → Int → Int) : Prop := (c 1 9 = c 31 27 ∧ 0 ≤ c 31 27 ∧ c 31 27 ≤ 100) ∧ ∀ r, 0 ≤ r → r < c 31 27 → c 30 (r * 4) = c 52 r ∧ c 30 (r * 4 + 1) = c 53 r ∧ c 30 (r * 4 + 2) = c 54 r ∧ c 30 (r * 4 + 3) = c 55 r ∧ 0 ≤ c 55 r ∧ c 55 r < 2
def RT (q : Nat) (j : Int) : Prop := (q = 1 ∧ j = 3) ∨ (q = 31 ∧ (j = 4 ∨ j = 2)) ∨ (q = 2 ∧ j = 1) ∨ q = 3 ∨ q = 32
def RU (q : Nat) (_ : Int) : Prop := q = 29 ∨ q = 51
def RW (q : Nat) (j : Int) : Prop := (q = 1 ∧ j = 9) ∨ (q = 31 ∧ j = 27) ∨ q = 30 ∨ (52 ≤ q ∧ q ≤ 55)
theorem IT_f {c c' : Nat → Int → Int} (H : IT c) (e : ∀ q j, RT q j → c' q j = c q j) : IT c' := by
  have e1 := e 1 3 (by unfold RT; omega)
  have e2 := e 31 4 (by unfold RT; omega)
  have e3 := e 31 2 (by unfold RT; omega)
  have e4 := e 2 1 (by unfold RT; omega)
  have e5 : c' 3 = c 3 := funext fun j => e 3 j (by unfold RT; omega)
  have e6 : c' 32 = c 32 := funext fun j => e 32 j (by unfold RT; omega)
  unfold IT
  rw [e1, e2, e3, e4, e5, e6]
  exact H
theorem IU_f {c c' : Nat → Int → Int} (H : IU c) (e : ∀ q j, RU q j → c' q j = c q j) : IU c' := by
  have e5 : c' 29 = c 29 := funext fun j => e 29 j (by unfold RU; omega)
  have e6 : c' 51 = c 51 := funext fun j => e 51 j (by unfold RU; omega)
  unfold IU
  rw [e5, e6]
  exact H
theorem IW_f {c c' : Nat → Int → Int} (H : IW c) (e : ∀ q j, RW q j → c' q j = c q j) : IW c' := by
  have e1 := e 1 9 (by unfold RW; omega)
  have e2 := e 31 27 (by unfold RW; omega)
  have e3 : c' 30 = c 30 := funext fun j => e 30 j (by unfold RW; omega)
  have e4 : c' 52 = c 52 := funext fun j => e 52 j (by unfold RW; omega)
  have e5 : c' 53 = c 53 := funext fun j => e 53 j (by unfold RW; omega)
  have e6 : c' 54 = c 54 := funext fun j => e 54 j (by unfold RW; omega)
  have e7 : c' 55 = c 55 := funext fun j => e 55 j (by unfold RW; omega)
  unfold IW
  rw [e1, e2, e3, e4, e5, e6, e7]
  exact H
/-- the state behind k calls -/
def St (L k : Nat) (h : dr_AH) (c : Nat → Int → Int) (nd : Nat) (da sa : Nat → Nat) (cs sp : Nat) : Prop := Lay L h nd da sa cs sp ∧ Adr h.1 nd da sa cs sp ∧ IA c nd da sa cs sp ∧ IT c ∧ IU c ∧ IW c ∧ h.1 ≤ 57 + 20 * k ∧ h.2.1 ≤ 10000 + 600 * k
def Sx (L k : Nat) (h : dr_AH) (c : Nat → Int → Int) : Prop := ∃ (nd : Nat) (da sa : Nat → Nat) (cs sp : Nat), St L k h c nd da sa cs sp
theorem up_c31 (c : Nat → Int → Int) {a : Nat} {j i x : Int} {b : Nat} (e : ¬ (b = a ∧ i = j)) : up c a j x b i = c b i := if_neg e
/-- a query's end: the class left all as it was, the reference has its throw's number -/
theorem St_q {L k : Nat} {h : dr_AH} {c : Nat → Int → Int} {nd : Nat} {da sa : Nat → Nat} {cs sp : Nat} (S : St L k h c nd da sa cs sp) (kk v : Int) : St L (k + 1) (hE kk v h) (up c 31 0 kk) nd da sa cs sp := by
  obtain ⟨s1, s2, s3, s4, s5, s6, s7, s8⟩ := S
  have h1 := hE_1 (h := h) (k := kk) (v := v)
  refine ⟨Lay_hE s2 s1, Adr_le s2 h1.1, IA_f s2 s3 (fun q j hq => up_c31 _ (by unfold RA at hq; omega)), IT_f s4 (fun q j hq => up_c31 _ (by unfold RT at hq; omega)), IU_f s5 (fun q j hq => up_c31 _ (by unfold RU at hq; omega)), IW_f s6 (fun q j hq => up_c31 _ (by unfold RW at hq; omega)), by omega, by omega⟩
theorem St_m {L k : Nat} {h : dr_AH} {c c2 : Nat → Int → Int} {nd : Nat} {da sa : Nat → Nat} {cs sp : Nat} (S : St L k h c nd da sa cs sp) (kk v : Int) (s3 : IA c2 nd da sa cs sp) (s4 : IT c2) (s5 : IU c2) (s6 : IW c2) : Sx L (k + 1) (hE kk v h) c2 := by
  obtain ⟨s1, s2, _, _, _, _, s7, s8⟩ := S
  have h1 := hE_1 (h := h) (k := kk) (v := v)
  exact ⟨nd, da, sa, cs, sp, Lay_hE s2 s1, Adr_le s2 h1.1, s3, s4, s5, s6, by omega, by omega⟩
theorem St_h {L k : Nat} {h : dr_AH} {c c2 : Nat → Int → Int} {nd : Nat} {da sa : Nat → Nat} {cs sp : Nat} (S : St L k h c nd da sa cs sp) (s3 : IA c2 nd da sa cs sp) (s4 : IT c2) (s5 : IU c2) (s6 : IW c2) : Sx L (k + 1) h c2 := by
  obtain ⟨s1, s2, _, _, _, _, s7, s8⟩ := S
  exact ⟨nd, da, sa, cs, sp, s1, s2, s3, s4, s5, s6, by omega, by omega⟩
theorem St_qX {L k : Nat} {h : dr_AH} {c : Nat → Int → Int} {nd : Nat} {da sa : Nat → Nat} {cs sp : Nat} (S : St L k h c nd da sa cs sp) {kk : Int} (hk : kk ≠ 0) : Sx L (k + 1) (hX h) (up c 31 0 kk) := by
  have := St_q S kk 0
  rw [hE_x hk] at this
  exact ⟨nd, da, sa, cs, sp, this⟩
