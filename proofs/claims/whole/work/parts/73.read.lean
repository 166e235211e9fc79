/-! ===== read ===== -/
theorem i2_inj {a b : Int} (h : i2 a = i2 b) (h1 : -2147483648 ≤ a) (h2 : a < 2147483648) (h3 : -2147483648 ≤ b) (h4 : b < 2147483648) : a = b := by
  have := congrArg Int32.toInt h
  rw [i2_in h1 h2, i2_in h3 h4] at this
  exact this
theorem SRel_i {A B X Y : Nat → Int → Int} {s : Nat} {e a e' a' : Int} (H : SRel A s X e a) (H' : SRel B s Y e' a') (E : ∀ (q : Nat) (j : Int), (s + 1 ≤ q ∧ q ≤ s + 7 ∧ 1 ≤ j ∧ j ≤ 40) ∨ (s + 8 ≤ q ∧ q ≤ s + 11 ∧ 1 ≤ j ∧ j ≤ 20) → i2 (A q j) = i2 (B q j)) : SRel A s Y e' a' := by
  refine ⟨fun n n1 n2 => ?_, fun n n1 n2 => ?_, H.2.2.1, H.2.2.2⟩
  · obtain ⟨a1, a2, a3, a4⟩ := H.1 n n1 n2
    obtain ⟨b1, b2, b3, b4⟩ := H'.1 n n1 n2
    have e1 : A (s + 1) n = B (s + 1) n := i2_inj (E _ _ (by omega)) (by omega) (by omega) (by omega) (by omega)
    refine ⟨by rw [e1]; exact b1, a2, a3, fun g => ?_⟩
    obtain ⟨_, _, _, _, _, _, c7, c8, c9, c10, c11, c12⟩ := a4 g
    obtain ⟨d1, d2, d3, d4, d5, d6, d7, d8, d9, d10, d11, d12⟩ := b4 (by omega)
    have e2 : A (s + 2) n = B (s + 2) n := i2_inj (E _ _ (by omega)) (by omega) (by omega) (by omega) (by omega)
    have e3 : A (s + 3) n = B (s + 3) n := i2_inj (E _ _ (by omega)) (by omega) (by omega) (by omega) (by omega)
    have e4 : A (s + 4) n = B (s + 4) n := i2_inj (E _ _ (by omega)) (by omega) (by omega) (by omega) (by omega)
    have e5 : A (s + 5) n = B (s + 5) n := i2_inj (E _ _ (by omega)) (by omega) (by omega) (by omega) (by omega)
    have e6 : A (s + 6) n = B (s + 6) n := i2_inj (E _ _ (by omega)) (by omega) (by omega) (by omega) (by omega)
    have e7 : A (s + 7) n = B (s + 7) n := i2_inj (E _ _ (by omega)) (by omega) (by omega) (by omega) (by omega)
    exact ⟨by omega, by omega, by omega, by omega, by omega, by omega, c7, c8, c9, c10, c11, c12⟩
  · obtain ⟨a1, a2, a3, a4⟩ := H.2.1 n n1 n2
    obtain ⟨b1, b2, b3, b4⟩ := H'.2.1 n n1 n2
    have e1 : A (s + 11) n = B (s + 11) n := i2_inj (E _ _ (by omega)) (by omega) (by omega) (by omega) (by omega)
    refine ⟨a1, a2, by rw [b3, e1], fun g => ?_⟩
    obtain ⟨_, _, _, _, c5, c6, c7⟩ := a4 g
    obtain ⟨d1, d2, d3, d4, d5, d6, d7⟩ := b4 (by omega)
    have e2 : A (s + 8) n = B (s + 8) n := i2_inj (E _ _ (by omega)) (by omega) (by omega) (by omega) (by omega)
    have e3 : A (s + 9) n = B (s + 9) n := i2_inj (E _ _ (by omega)) (by omega) (by omega) (by omega) (by omega)
    have e4 : A (s + 10) n = B (s + 10) n := i2_inj (E _ _ (by omega)) (by omega) (by omega) (by omega) (by omega)
    exact ⟨by omega, by omega, by omega, by omega, c5, c6, c7⟩
theorem sA_i {h : dr_AH} {A B : Nat → Int → Int} {a k n : Nat} (hA : sA h a k n) (e : wr h A = wr h B) {j : Int} (j1 : 0 ≤ j) (j2 : j < n) : i2 (A a j) = i2 (B a j) := by
  have h1 := hA.2.2 j.toNat (by omega)
  have h2 := wr_i (c := A) h1
  have h3 := wr_i (c := B) h1
  rw [e, h3, Int.toNat_of_nonneg j1] at h2
  injection h2 with h2
  exact h2.symm
theorem rd_two {h : dr_AH} {t : Int → Int} {l : Int} {s : Nat} (hT : LaT h) (hS : LaS h s) (hs : 4 ≤ s) (hm : LaM h) {c : Nat → Int → Int} (tl : tTL c t l) (ml : mTL c t l) (hb : mB c) :
    ∃ (A : Nat → Int → Int) (p w : Int), f_T_parseInto 2 s (wr h c) = some (.inl (some (.int (i2 w))), wr h (up (tP A p w) 2 1 0)) ∧ -1 ≤ w ∧ w ≤ 300 ∧ fS s c A ∧
      ∀ (h' : dr_AH) (c' : Nat → Int → Int), LaM h' → mTL c' t l → mB c' → ∃ (c2' : Nat → Int → Int) (q2 : Int), f_M_read 31 (wr h' c') = f_M_read_117 31 (wr h' (mP c2' q2 w)) ∧ f9 c' c2' ∧ mB c2' ∧ (w < 0 → SRel A s c2' 369 189) := by
  obtain ⟨A, p, w, A', q, k1, k2, k3, k4, k5, k6, k7, k8⟩ := rd_pair (h := h) (h' := h) hT hS hs hm tl ml hb
  refine ⟨A, p, w, k1, k3, k4, k5, fun h' c' hm' ml' hb' => ?_⟩
  obtain ⟨B, r, v, B', q', g1, g2, g3, g4, g5, g6, g7, g8⟩ := rd_pair (h := h) (h' := h') hT hS hs hm' tl ml' hb'
  rw [k1] at g1
  injection g1 with g1
  injection g1 with g1 gw
  injection g1 with g1
  injection g1 with g1
  injection g1 with g1
  have ev : w = v := i2_inj g1 (by omega) (by omega) (by omega) (by omega)
  subst ev
  refine ⟨B', q', g2, g6, g7, fun hw => ?_⟩
  have tA : ∀ (C : Nat → Int → Int) (x : Int) (q : Nat) (j : Int), 4 ≤ q → up (tP C x w) 2 1 0 q j = C q j := by
    intro C x q j hq
    rw [up_c31 _ (by omega)]
    unfold tP
    rw [if_neg (by omega)]
  have row : ∀ (q n : Nat) (kk : Nat), 4 ≤ q → sA h q kk n → ∀ j : Int, 0 ≤ j → j < n → i2 (A q j) = i2 (B q j) := by
    intro q n kk hq hA j j1 j2
    have := sA_i hA gw j1 j2
    rw [tA _ _ _ _ hq, tA _ _ _ _ hq] at this
    exact this
  unfold LaS at hS
  obtain ⟨_, _, _, _, _, _, _, _, _, _, _, _, _, _, s1, s2, s3, s4, s5, s6, s7, s8, s9, s10, s11⟩ := hS
  refine SRel_i (k8 hw) (g8 hw) (fun q j hq => ?_)
  have : (q = s + 1 ∨ q = s + 2 ∨ q = s + 3 ∨ q = s + 4 ∨ q = s + 5 ∨ q = s + 6 ∨ q = s + 7) ∧ 1 ≤ j ∧ j ≤ 40 ∨ (q = s + 8 ∨ q = s + 9 ∨ q = s + 10 ∨ q = s + 11) ∧ 1 ≤ j ∧ j ≤ 20 := by omega
  rcases this with ⟨e | e | e | e | e | e | e, j1, j2⟩ | ⟨e | e | e | e, j1, j2⟩
  · rw [e]; exact row _ _ _ (by omega) s1 j (by omega) (by omega)
  · rw [e]; exact row _ _ _ (by omega) s2 j (by omega) (by omega)
  · rw [e]; exact row _ _ _ (by omega) s3 j (by omega) (by omega)
  · rw [e]; exact row _ _ _ (by omega) s4 j (by omega) (by omega)
  · rw [e]; exact row _ _ _ (by omega) s5 j (by omega) (by omega)
  · rw [e]; exact row _ _ _ (by omega) s6 j (by omega) (by omega)
  · rw [e]; exact row _ _ _ (by omega) s7 j (by omega) (by omega)
  · rw [e]; exact row _ _ _ (by omega) s8 j (by omega) (by omega)
  · rw [e]; exact row _ _ _ (by omega) s9 j (by omega) (by omega)
  · rw [e]; exact row _ _ _ (by omega) s10 j (by omega) (by omega)
  · rw [e]; exact row _ _ _ (by omega) s11 j (by omega) (by omega)
/-! what the reference's read leaves -/
theorem rd_n (c : Nat → Int → Int) {q : Nat} {j p w k : Int} (h : ¬ (q = 31 ∧ (j = 0 ∨ j = 2 ∨ j = 4 ∨ j = 5 ∨ j = 6))) : up (up (up (mP c p w) 31 2 0) 31 4 w) 31 0 k q j = c q j := by
  rw [up_c31 _ (by omega), up_c31 _ (by omega), up_c31 _ (by omega)]
  unfold mP
  by_cases e : q = 31
  · rw [if_pos e, if_neg (by omega), if_neg (by omega)]
  · rw [if_neg e]
theorem cp_n (c : Nat → Int → Int) {q : Nat} {j : Int} (h : ¬ (33 ≤ q ∧ q ≤ 39 ∧ 328 ≤ j ∧ j < 369)) (h2 : ¬ (40 ≤ q ∧ q ≤ 44 ∧ 168 ≤ j ∧ j < 189)) : cpa (cpe c 9 8 41) 9 8 21 q j = c q j := by
  unfold cpa cpe
  rw [if_neg (by omega), if_neg (by omega)]
theorem cp_e (c : Nat → Int → Int) {q : Nat} {n : Int} (h : 33 ≤ q ∧ q ≤ 39) (n1 : 0 ≤ n) (n2 : n ≤ 40) : cpa (cpe c 9 8 41) 9 8 21 q (328 + n) = c q (369 + n) := by
  unfold cpa cpe
  rw [if_neg (by omega), if_pos (by omega)]
  congr 1
  omega
theorem cp_a (c : Nat → Int → Int) {q : Nat} {n : Int} (h : 40 ≤ q ∧ q ≤ 44) (n1 : 0 ≤ n) (n2 : n ≤ 20) : cpa (cpe c 9 8 41) 9 8 21 q (168 + n) = c q (189 + n) := by
  unfold cpa cpe
  rw [if_pos (by omega), if_neg (by omega)]
  congr 1
  omega
theorem cp_B {c : Nat → Int → Int} (hb : mB c) : mB (cpa (cpe c 9 8 41) 9 8 21) := by
  intro j
  have q1 := hb j
  have q2 := hb (j - 8 * 41 + 9 * 41)
  have q3 := hb (j - 8 * 21 + 9 * 21)
  unfold cpa cpe
  refine ⟨?_, ?_, ?_⟩
  · rw [if_neg (by omega)]; split <;> omega
  · rw [if_neg (by omega)]; split <;> omega
  · split
    · rw [if_neg (by omega)]; omega
    · rw [if_neg (by omega)]; omega
