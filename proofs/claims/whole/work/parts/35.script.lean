/-! ===== the class's script ===== -/
def sm (f : Int → Int) : Nat → Int
  | 0 => 0
  | n + 1 => sm f n + f ((n : Int) + 1)
theorem sm_c {f g : Int → Int} : ∀ (n : Nat), (∀ i : Int, 1 ≤ i → i ≤ n → f i = g i) → sm f n = sm g n := by
  intro n
  induction n with
  | zero => intro _; rfl
  | succ n ih =>
    intro h
    unfold sm
    rw [ih (fun i h1 h2 => h i h1 (by omega)), h _ (by omega) (by omega)]
theorem sm_b {f : Int → Int} {B : Int} : ∀ (n : Nat), (∀ i : Int, 1 ≤ i → i ≤ n → 0 ≤ f i ∧ f i ≤ B) → 0 ≤ sm f n ∧ sm f n ≤ B * n := by
  intro n
  induction n with
  | zero => intro _; unfold sm; omega
  | succ n ih =>
    intro h
    have h1 := ih (fun i h1 h2 => h i h1 (by omega))
    have h2 := h ((n : Int) + 1) (by omega) (by omega)
    have h3 : B * ((n + 1 : Nat) : Int) = B * n + B := by rw [Int.natCast_add, Int.mul_add]; simp
    unfold sm
    omega
theorem sm_1 {f g : Int → Int} {k : Int} : ∀ (n : Nat), 1 ≤ k → k ≤ n → (∀ i : Int, 1 ≤ i → i ≤ n → i ≠ k → f i = g i) → sm f n = sm g n + (f k - g k) := by
  intro n
  induction n with
  | zero => intro h1 h2 _; omega
  | succ n ih =>
    intro h1 h2 h
    unfold sm
    by_cases e : k = (n : Int) + 1
    · rw [sm_c n (fun i h3 h4 => h i h3 (by omega) (by omega)), e]; omega
    · rw [ih h1 (by omega) (fun i h3 h4 h5 => h i h3 (by omega) h5), h ((n : Int) + 1) (by omega) (by omega) (by omega)]; omega
def sE (c : Nat → Int → Int) (s : Nat) (c' : Nat → Int → Int) (e n : Int) : Prop := c (s + 1) n = c' 33 (e + n) ∧ 0 ≤ c (s + 1) n ∧ c (s + 1) n < 2 ∧ (c (s + 1) n = 1 → c (s + 2) n = c' 35 (e + n) ∧ c (s + 3) n = c' 36 (e + n) ∧ c (s + 4) n = c' 34 (e + n) ∧ c (s + 5) n = c' 37 (e + n) ∧ c (s + 6) n = c' 38 (e + n) ∧ c (s + 7) n = c' 39 (e + n) ∧ (-1 ≤ c (s + 2) n ∧ c (s + 2) n ≤ 19) ∧ (0 ≤ c (s + 3) n ∧ c (s + 3) n ≤ 999) ∧ (0 ≤ c (s + 4) n ∧ c (s + 4) n ≤ 9999) ∧ (0 ≤ c (s + 5) n ∧ c (s + 5) n ≤ 9) ∧ (0 ≤ c (s + 6) n ∧ c (s + 6) n < 2) ∧ (0 ≤ c (s + 7) n ∧ c (s + 7) n ≤ 9))
def sW (c : Nat → Int → Int) (s : Nat) (c' : Nat → Int → Int) (a n : Int) : Prop := 0 ≤ c (s + 11) n ∧ c (s + 11) n ≤ 9 ∧ c' 40 (a + n) = bz (0 < c (s + 11) n) ∧ (0 < c (s + 11) n → c (s + 8) n = c' 41 (a + n) ∧ c (s + 9) n = c' 42 (a + n) ∧ c (s + 10) n = c' 43 (a + n) ∧ c (s + 11) n = c' 44 (a + n) ∧ (1 ≤ c (s + 8) n ∧ c (s + 8) n ≤ 40) ∧ (0 ≤ c (s + 9) n ∧ c (s + 9) n ≤ 19) ∧ (1 ≤ c (s + 10) n ∧ c (s + 10) n ≤ 999))
def SRel (c : Nat → Int → Int) (s : Nat) (c' : Nat → Int → Int) (e a : Int) : Prop := (∀ n, 1 ≤ n → n ≤ 40 → sE c s c' e n) ∧ (∀ n, 1 ≤ n → n ≤ 20 → sW c s c' a n) ∧ c s 7 = sm (c (s + 1)) 40 ∧ c (s + 11) 0 = 0
theorem SRel_f {c d c' d' : Nat → Int → Int} {s : Nat} {e a e' a' : Int} (h : SRel c s c' e a) (h1 : ∀ q j, s ≤ q → q ≤ s + 11 → (q = s → j = 7) → d q j = c q j) (h2 : ∀ q n, 33 ≤ q → q ≤ 39 → 1 ≤ n → n ≤ 40 → d' q (e' + n) = c' q (e + n)) (h3 : ∀ q n, 40 ≤ q → q ≤ 44 → 1 ≤ n → n ≤ 20 → d' q (a' + n) = c' q (a + n)) : SRel d s d' e' a' := by
  obtain ⟨g1, g2, g3, g4⟩ := h
  refine ⟨fun n n1 n2 => ?_, fun n n1 n2 => ?_, ?_, ?_⟩
  · have := g1 n n1 n2
    unfold sE at this ⊢
    rw [h1 (s + 1) n (by omega) (by omega) (by omega), h1 (s + 2) n (by omega) (by omega) (by omega), h1 (s + 3) n (by omega) (by omega) (by omega), h1 (s + 4) n (by omega) (by omega) (by omega), h1 (s + 5) n (by omega) (by omega) (by omega), h1 (s + 6) n (by omega) (by omega) (by omega), h1 (s + 7) n (by omega) (by omega) (by omega),
      h2 33 n (by omega) (by omega) n1 n2, h2 34 n (by omega) (by omega) n1 n2, h2 35 n (by omega) (by omega) n1 n2, h2 36 n (by omega) (by omega) n1 n2, h2 37 n (by omega) (by omega) n1 n2, h2 38 n (by omega) (by omega) n1 n2, h2 39 n (by omega) (by omega) n1 n2]
    exact this
  · have := g2 n n1 n2
    unfold sW at this ⊢
    rw [h1 (s + 8) n (by omega) (by omega) (by omega), h1 (s + 9) n (by omega) (by omega) (by omega), h1 (s + 10) n (by omega) (by omega) (by omega), h1 (s + 11) n (by omega) (by omega) (by omega),
      h3 40 n (by omega) (by omega) n1 n2, h3 41 n (by omega) (by omega) n1 n2, h3 42 n (by omega) (by omega) n1 n2, h3 43 n (by omega) (by omega) n1 n2, h3 44 n (by omega) (by omega) n1 n2]
    exact this
  · rw [h1 s 7 (by omega) (by omega) (by omega), g3]
    exact sm_c 40 (fun i _ _ => (h1 (s + 1) i (by omega) (by omega) (by omega)).symm)
  · rw [h1 (s + 11) 0 (by omega) (by omega) (by omega), g4]
theorem s_hasEvent {h : dr_AH} {c : Nat → Int → Int} {s : Nat} (hS : LaS h s) {n : Int} (h1 : -2147483648 ≤ n) (h2 : n < 2147483648) (hf : 1 ≤ n → n ≤ 40 → 0 ≤ c (s + 1) n ∧ c (s + 1) n < 2) :
    f_S_hasEvent s (i2 n) (wr h c) = some (.inl (some (.int (i2 (bz (1 ≤ n ∧ n ≤ 40 ∧ c (s + 1) n = 1))))), wr h c) := by
  unfold f_S_hasEvent bz
  by_cases e1 : n < 1
  · rw [if_neg (show ¬ (1 ≤ n ∧ n ≤ 40 ∧ c (s + 1) n = 1) by omega)]
    simp (disch := omega) only [li_0, li_1, li_2, li_3, li_4, li_5, li_6, li_7, li_8, li_9, li_10, li_11, li_12, li_13, li_14, li_15, li_16, li_17, li_18, li_19, li_20, li_21, li_31, li_32, li_33, li_40, li_41, li_43, li_48, li_57, li_59, li_60, li_61, li_62, li_64, li_97, li_99, li_100, li_101, li_102, li_112, li_119, li_126, li_189, li_255, li_300, li_369, li_400, li_999, li_5000, li_9999, li_12345, li_99999, li_1103515245, i2_add, i2_sub, i2_mul, i2_neg, i2_le, i2_lt, i2_eq, r_rz, r_ci, r_cx, r_cv, r_vx, r_cr, r_rx, dr_ci', dr_cv', dr_cr', dr_gr', dr_x0, ↓reduceIte, Int.reduceLE, Int.reduceLT, Int.reduceEq, Int.reduceNeg, Int.reduceAdd, Int.reduceSub, Int.reduceMul, vS_k hS, vS_r0 hS, vS_r1 hS, vS_r2 hS, vS_r3 hS, vS_r4 hS, vS_r5 hS, vS_r6 hS, vS_g7 hS, vS_p7 hS, vS_r8 hS, vS_r9 hS, vS_r10 hS, vS_r11 hS, vS_g12 hS, vS_p12 hS, vS_n1 hS, vS_a1 hS, vS_s1 hS, vS_n2 hS, vS_a2 hS, vS_s2 hS, vS_n3 hS, vS_a3 hS, vS_s3 hS, vS_n4 hS, vS_a4 hS, vS_s4 hS, vS_n5 hS, vS_a5 hS, vS_s5 hS, vS_n6 hS, vS_a6 hS, vS_s6 hS, vS_n7 hS, vS_a7 hS, vS_s7 hS, vS_n8 hS, vS_a8 hS, vS_s8 hS, vS_n9 hS, vS_a9 hS, vS_s9 hS, vS_n10 hS, vS_a10 hS, vS_s10 hS, vS_n11 hS, vS_a11 hS, vS_s11 hS, e1]
  · by_cases e2 : 41 ≤ n
    · rw [if_neg (show ¬ (1 ≤ n ∧ n ≤ 40 ∧ c (s + 1) n = 1) by omega)]
      simp (disch := omega) only [li_0, li_1, li_2, li_3, li_4, li_5, li_6, li_7, li_8, li_9, li_10, li_11, li_12, li_13, li_14, li_15, li_16, li_17, li_18, li_19, li_20, li_21, li_31, li_32, li_33, li_40, li_41, li_43, li_48, li_57, li_59, li_60, li_61, li_62, li_64, li_97, li_99, li_100, li_101, li_102, li_112, li_119, li_126, li_189, li_255, li_300, li_369, li_400, li_999, li_5000, li_9999, li_12345, li_99999, li_1103515245, i2_add, i2_sub, i2_mul, i2_neg, i2_le, i2_lt, i2_eq, r_rz, r_ci, r_cx, r_cv, r_vx, r_cr, r_rx, dr_ci', dr_cv', dr_cr', dr_gr', dr_x0, ↓reduceIte, Int.reduceLE, Int.reduceLT, Int.reduceEq, Int.reduceNeg, Int.reduceAdd, Int.reduceSub, Int.reduceMul, vS_k hS, vS_r0 hS, vS_r1 hS, vS_r2 hS, vS_r3 hS, vS_r4 hS, vS_r5 hS, vS_r6 hS, vS_g7 hS, vS_p7 hS, vS_r8 hS, vS_r9 hS, vS_r10 hS, vS_r11 hS, vS_g12 hS, vS_p12 hS, vS_n1 hS, vS_a1 hS, vS_s1 hS, vS_n2 hS, vS_a2 hS, vS_s2 hS, vS_n3 hS, vS_a3 hS, vS_s3 hS, vS_n4 hS, vS_a4 hS, vS_s4 hS, vS_n5 hS, vS_a5 hS, vS_s5 hS, vS_n6 hS, vS_a6 hS, vS_s6 hS, vS_n7 hS, vS_a7 hS, vS_s7 hS, vS_n8 hS, vS_a8 hS, vS_s8 hS, vS_n9 hS, vS_a9 hS, vS_s9 hS, vS_n10 hS, vS_a10 hS, vS_s10 hS, vS_n11 hS, vS_a11 hS, vS_s11 hS, e1, e2]
    · have hf' := hf (by omega) (by omega)
      by_cases e3 : c (s + 1) n = 0
      · rw [if_neg (show ¬ (1 ≤ n ∧ n ≤ 40 ∧ c (s + 1) n = 1) by omega)]
        simp (disch := omega) only [li_0, li_1, li_2, li_3, li_4, li_5, li_6, li_7, li_8, li_9, li_10, li_11, li_12, li_13, li_14, li_15, li_16, li_17, li_18, li_19, li_20, li_21, li_31, li_32, li_33, li_40, li_41, li_43, li_48, li_57, li_59, li_60, li_61, li_62, li_64, li_97, li_99, li_100, li_101, li_102, li_112, li_119, li_126, li_189, li_255, li_300, li_369, li_400, li_999, li_5000, li_9999, li_12345, li_99999, li_1103515245, i2_add, i2_sub, i2_mul, i2_neg, i2_le, i2_lt, i2_eq, r_rz, r_ci, r_cx, r_cv, r_vx, r_cr, r_rx, dr_ci', dr_cv', dr_cr', dr_gr', dr_x0, ↓reduceIte, Int.reduceLE, Int.reduceLT, Int.reduceEq, Int.reduceNeg, Int.reduceAdd, Int.reduceSub, Int.reduceMul, vS_k hS, vS_r0 hS, vS_r1 hS, vS_r2 hS, vS_r3 hS, vS_r4 hS, vS_r5 hS, vS_r6 hS, vS_g7 hS, vS_p7 hS, vS_r8 hS, vS_r9 hS, vS_r10 hS, vS_r11 hS, vS_g12 hS, vS_p12 hS, vS_n1 hS, vS_a1 hS, vS_s1 hS, vS_n2 hS, vS_a2 hS, vS_s2 hS, vS_n3 hS, vS_a3 hS, vS_s3 hS, vS_n4 hS, vS_a4 hS, vS_s4 hS, vS_n5 hS, vS_a5 hS, vS_s5 hS, vS_n6 hS, vS_a6 hS, vS_s6 hS, vS_n7 hS, vS_a7 hS, vS_s7 hS, vS_n8 hS, vS_a8 hS, vS_s8 hS, vS_n9 hS, vS_a9 hS, vS_s9 hS, vS_n10 hS, vS_a10 hS, vS_s10 hS, vS_n11 hS, vS_a11 hS, vS_s11 hS, e1, e2, e3]
      · rw [if_pos (show (1 ≤ n ∧ n ≤ 40 ∧ c (s + 1) n = 1) by omega)]
        simp (disch := omega) only [li_0, li_1, li_2, li_3, li_4, li_5, li_6, li_7, li_8, li_9, li_10, li_11, li_12, li_13, li_14, li_15, li_16, li_17, li_18, li_19, li_20, li_21, li_31, li_32, li_33, li_40, li_41, li_43, li_48, li_57, li_59, li_60, li_61, li_62, li_64, li_97, li_99, li_100, li_101, li_102, li_112, li_119, li_126, li_189, li_255, li_300, li_369, li_400, li_999, li_5000, li_9999, li_12345, li_99999, li_1103515245, i2_add, i2_sub, i2_mul, i2_neg, i2_le, i2_lt, i2_eq, r_rz, r_ci, r_cx, r_cv, r_vx, r_cr, r_rx, dr_ci', dr_cv', dr_cr', dr_gr', dr_x0, ↓reduceIte, Int.reduceLE, Int.reduceLT, Int.reduceEq, Int.reduceNeg, Int.reduceAdd, Int.reduceSub, Int.reduceMul, vS_k hS, vS_r0 hS, vS_r1 hS, vS_r2 hS, vS_r3 hS, vS_r4 hS, vS_r5 hS, vS_r6 hS, vS_g7 hS, vS_p7 hS, vS_r8 hS, vS_r9 hS, vS_r10 hS, vS_r11 hS, vS_g12 hS, vS_p12 hS, vS_n1 hS, vS_a1 hS, vS_s1 hS, vS_n2 hS, vS_a2 hS, vS_s2 hS, vS_n3 hS, vS_a3 hS, vS_s3 hS, vS_n4 hS, vS_a4 hS, vS_s4 hS, vS_n5 hS, vS_a5 hS, vS_s5 hS, vS_n6 hS, vS_a6 hS, vS_s6 hS, vS_n7 hS, vS_a7 hS, vS_s7 hS, vS_n8 hS, vS_a8 hS, vS_s8 hS, vS_n9 hS, vS_a9 hS, vS_s9 hS, vS_n10 hS, vS_a10 hS, vS_s10 hS, vS_n11 hS, vS_a11 hS, vS_s11 hS, e1, e2, e3]
theorem s_hasAim {h : dr_AH} {c : Nat → Int → Int} {s : Nat} (hS : LaS h s) {n : Int} (h1 : -2147483648 ≤ n) (h2 : n < 2147483648) (hf : 1 ≤ n → n ≤ 20 → 0 ≤ c (s + 11) n ∧ c (s + 11) n ≤ 9) :
    f_S_hasAim s (i2 n) (wr h c) = some (.inl (some (.int (i2 (bz (1 ≤ n ∧ n ≤ 20 ∧ 0 < c (s + 11) n))))), wr h c) := by
  unfold f_S_hasAim bz
  by_cases e1 : n < 1
  · rw [if_neg (show ¬ (1 ≤ n ∧ n ≤ 20 ∧ 0 < c (s + 11) n) by omega)]
    simp (disch := omega) only [li_0, li_1, li_2, li_3, li_4, li_5, li_6, li_7, li_8, li_9, li_10, li_11, li_12, li_13, li_14, li_15, li_16, li_17, li_18, li_19, li_20, li_21, li_31, li_32, li_33, li_40, li_41, li_43, li_48, li_57, li_59, li_60, li_61, li_62, li_64, li_97, li_99, li_100, li_101, li_102, li_112, li_119, li_126, li_189, li_255, li_300, li_369, li_400, li_999, li_5000, li_9999, li_12345, li_99999, li_1103515245, i2_add, i2_sub, i2_mul, i2_neg, i2_le, i2_lt, i2_eq, r_rz, r_ci, r_cx, r_cv, r_vx, r_cr, r_rx, dr_ci', dr_cv', dr_cr', dr_gr', dr_x0, ↓reduceIte, Int.reduceLE, Int.reduceLT, Int.reduceEq, Int.reduceNeg, Int.reduceAdd, Int.reduceSub, Int.reduceMul, vS_k hS, vS_r0 hS, vS_r1 hS, vS_r2 hS, vS_r3 hS, vS_r4 hS, vS_r5 hS, vS_r6 hS, vS_g7 hS, vS_p7 hS, vS_r8 hS, vS_r9 hS, vS_r10 hS, vS_r11 hS, vS_g12 hS, vS_p12 hS, vS_n1 hS, vS_a1 hS, vS_s1 hS, vS_n2 hS, vS_a2 hS, vS_s2 hS, vS_n3 hS, vS_a3 hS, vS_s3 hS, vS_n4 hS, vS_a4 hS, vS_s4 hS, vS_n5 hS, vS_a5 hS, vS_s5 hS, vS_n6 hS, vS_a6 hS, vS_s6 hS, vS_n7 hS, vS_a7 hS, vS_s7 hS, vS_n8 hS, vS_a8 hS, vS_s8 hS, vS_n9 hS, vS_a9 hS, vS_s9 hS, vS_n10 hS, vS_a10 hS, vS_s10 hS, vS_n11 hS, vS_a11 hS, vS_s11 hS, e1]
  · by_cases e2 : 21 ≤ n
    · rw [if_neg (show ¬ (1 ≤ n ∧ n ≤ 20 ∧ 0 < c (s + 11) n) by omega)]
      simp (disch := omega) only [li_0, li_1, li_2, li_3, li_4, li_5, li_6, li_7, li_8, li_9, li_10, li_11, li_12, li_13, li_14, li_15, li_16, li_17, li_18, li_19, li_20, li_21, li_31, li_32, li_33, li_40, li_41, li_43, li_48, li_57, li_59, li_60, li_61, li_62, li_64, li_97, li_99, li_100, li_101, li_102, li_112, li_119, li_126, li_189, li_255, li_300, li_369, li_400, li_999, li_5000, li_9999, li_12345, li_99999, li_1103515245, i2_add, i2_sub, i2_mul, i2_neg, i2_le, i2_lt, i2_eq, r_rz, r_ci, r_cx, r_cv, r_vx, r_cr, r_rx, dr_ci', dr_cv', dr_cr', dr_gr', dr_x0, ↓reduceIte, Int.reduceLE, Int.reduceLT, Int.reduceEq, Int.reduceNeg, Int.reduceAdd, Int.reduceSub, Int.reduceMul, vS_k hS, vS_r0 hS, vS_r1 hS, vS_r2 hS, vS_r3 hS, vS_r4 hS, vS_r5 hS, vS_r6 hS, vS_g7 hS, vS_p7 hS, vS_r8 hS, vS_r9 hS, vS_r10 hS, vS_r11 hS, vS_g12 hS, vS_p12 hS, vS_n1 hS, vS_a1 hS, vS_s1 hS, vS_n2 hS, vS_a2 hS, vS_s2 hS, vS_n3 hS, vS_a3 hS, vS_s3 hS, vS_n4 hS, vS_a4 hS, vS_s4 hS, vS_n5 hS, vS_a5 hS, vS_s5 hS, vS_n6 hS, vS_a6 hS, vS_s6 hS, vS_n7 hS, vS_a7 hS, vS_s7 hS, vS_n8 hS, vS_a8 hS, vS_s8 hS, vS_n9 hS, vS_a9 hS, vS_s9 hS, vS_n10 hS, vS_a10 hS, vS_s10 hS, vS_n11 hS, vS_a11 hS, vS_s11 hS, e1, e2]
    · have hf' := hf (by omega) (by omega)
      by_cases e3 : c (s + 11) n ≤ 0
      · rw [if_neg (show ¬ (1 ≤ n ∧ n ≤ 20 ∧ 0 < c (s + 11) n) by omega)]
        simp (disch := omega) only [li_0, li_1, li_2, li_3, li_4, li_5, li_6, li_7, li_8, li_9, li_10, li_11, li_12, li_13, li_14, li_15, li_16, li_17, li_18, li_19, li_20, li_21, li_31, li_32, li_33, li_40, li_41, li_43, li_48, li_57, li_59, li_60, li_61, li_62, li_64, li_97, li_99, li_100, li_101, li_102, li_112, li_119, li_126, li_189, li_255, li_300, li_369, li_400, li_999, li_5000, li_9999, li_12345, li_99999, li_1103515245, i2_add, i2_sub, i2_mul, i2_neg, i2_le, i2_lt, i2_eq, r_rz, r_ci, r_cx, r_cv, r_vx, r_cr, r_rx, dr_ci', dr_cv', dr_cr', dr_gr', dr_x0, ↓reduceIte, Int.reduceLE, Int.reduceLT, Int.reduceEq, Int.reduceNeg, Int.reduceAdd, Int.reduceSub, Int.reduceMul, vS_k hS, vS_r0 hS, vS_r1 hS, vS_r2 hS, vS_r3 hS, vS_r4 hS, vS_r5 hS, vS_r6 hS, vS_g7 hS, vS_p7 hS, vS_r8 hS, vS_r9 hS, vS_r10 hS, vS_r11 hS, vS_g12 hS, vS_p12 hS, vS_n1 hS, vS_a1 hS, vS_s1 hS, vS_n2 hS, vS_a2 hS, vS_s2 hS, vS_n3 hS, vS_a3 hS, vS_s3 hS, vS_n4 hS, vS_a4 hS, vS_s4 hS, vS_n5 hS, vS_a5 hS, vS_s5 hS, vS_n6 hS, vS_a6 hS, vS_s6 hS, vS_n7 hS, vS_a7 hS, vS_s7 hS, vS_n8 hS, vS_a8 hS, vS_s8 hS, vS_n9 hS, vS_a9 hS, vS_s9 hS, vS_n10 hS, vS_a10 hS, vS_s10 hS, vS_n11 hS, vS_a11 hS, vS_s11 hS, e1, e2, e3]
      · rw [if_pos (show (1 ≤ n ∧ n ≤ 20 ∧ 0 < c (s + 11) n) by omega)]
        simp (disch := omega) only [li_0, li_1, li_2, li_3, li_4, li_5, li_6, li_7, li_8, li_9, li_10, li_11, li_12, li_13, li_14, li_15, li_16, li_17, li_18, li_19, li_20, li_21, li_31, li_32, li_33, li_40, li_41, li_43, li_48, li_57, li_59, li_60, li_61, li_62, li_64, li_97, li_99, li_100, li_101, li_102, li_112, li_119, li_126, li_189, li_255, li_300, li_369, li_400, li_999, li_5000, li_9999, li_12345, li_99999, li_1103515245, i2_add, i2_sub, i2_mul, i2_neg, i2_le, i2_lt, i2_eq, r_rz, r_ci, r_cx, r_cv, r_vx, r_cr, r_rx, dr_ci', dr_cv', dr_cr', dr_gr', dr_x0, ↓reduceIte, Int.reduceLE, Int.reduceLT, Int.reduceEq, Int.reduceNeg, Int.reduceAdd, Int.reduceSub, Int.reduceMul, vS_k hS, vS_r0 hS, vS_r1 hS, vS_r2 hS, vS_r3 hS, vS_r4 hS, vS_r5 hS, vS_r6 hS, vS_g7 hS, vS_p7 hS, vS_r8 hS, vS_r9 hS, vS_r10 hS, vS_r11 hS, vS_g12 hS, vS_p12 hS, vS_n1 hS, vS_a1 hS, vS_s1 hS, vS_n2 hS, vS_a2 hS, vS_s2 hS, vS_n3 hS, vS_a3 hS, vS_s3 hS, vS_n4 hS, vS_a4 hS, vS_s4 hS, vS_n5 hS, vS_a5 hS, vS_s5 hS, vS_n6 hS, vS_a6 hS, vS_s6 hS, vS_n7 hS, vS_a7 hS, vS_s7 hS, vS_n8 hS, vS_a8 hS, vS_s8 hS, vS_n9 hS, vS_a9 hS, vS_s9 hS, vS_n10 hS, vS_a10 hS, vS_s10 hS, vS_n11 hS, vS_a11 hS, vS_s11 hS, e1, e2, e3]
def adE (c : Nat → Int → Int) (s : Nat) (n A B L : Int) : Nat → Int → Int := up (up (up (up (up c (s + 1) n 1) (s + 2) n A) (s + 3) n B) (s + 4) n L) s 7 (c s 7 + 1)
def deE (c : Nat → Int → Int) (s : Nat) (n p x f : Int) : Nat → Int → Int := up (up (up c (s + 5) n p) (s + 6) n x) (s + 7) n f
def adA (c : Nat → Int → Int) (s : Nat) (n e a w g : Int) : Nat → Int → Int := up (up (up (up c (s + 8) n e) (s + 9) n a) (s + 10) n w) (s + 11) n g
theorem s_addEvent {h : dr_AH} {c : Nat → Int → Int} {s : Nat} (hS : LaS h s) {n A B L : Int} (h1 : 1 ≤ n) (h2 : n ≤ 40) :
    f_S_addEvent s (i2 n) (i2 A) (i2 B) (i2 L) (wr h c) = some (.inl none, wr h (adE c s n A B L)) := by
  have e1 : ¬ (n < 1) := by omega
  have e7 : up (up (up (up c (s + 1) n 1) (s + 2) n A) (s + 3) n B) (s + 4) n L s 7 = c s 7 := by rw [up_a _ _ _ _ (by omega), up_a _ _ _ _ (by omega), up_a _ _ _ _ (by omega), up_a _ _ _ _ (by omega)]
  unfold f_S_addEvent adE
  simp (disch := omega) only [li_0, li_1, li_2, li_3, li_4, li_5, li_6, li_7, li_8, li_9, li_10, li_11, li_12, li_13, li_14, li_15, li_16, li_17, li_18, li_19, li_20, li_21, li_31, li_32, li_33, li_40, li_41, li_43, li_48, li_57, li_59, li_60, li_61, li_62, li_64, li_97, li_99, li_100, li_101, li_102, li_112, li_119, li_126, li_189, li_255, li_300, li_369, li_400, li_999, li_5000, li_9999, li_12345, li_99999, li_1103515245, i2_add, i2_sub, i2_mul, i2_neg, i2_le, i2_lt, i2_eq, r_rz, r_ci, r_cx, r_cv, r_vx, r_cr, r_rx, dr_ci', dr_cv', dr_cr', dr_gr', dr_x0, ↓reduceIte, Int.reduceLE, Int.reduceLT, Int.reduceEq, Int.reduceNeg, Int.reduceAdd, Int.reduceSub, Int.reduceMul, vS_k hS, vS_r0 hS, vS_r1 hS, vS_r2 hS, vS_r3 hS, vS_r4 hS, vS_r5 hS, vS_r6 hS, vS_g7 hS, vS_p7 hS, vS_r8 hS, vS_r9 hS, vS_r10 hS, vS_r11 hS, vS_g12 hS, vS_p12 hS, vS_n1 hS, vS_a1 hS, vS_s1 hS, vS_n2 hS, vS_a2 hS, vS_s2 hS, vS_n3 hS, vS_a3 hS, vS_s3 hS, vS_n4 hS, vS_a4 hS, vS_s4 hS, vS_n5 hS, vS_a5 hS, vS_s5 hS, vS_n6 hS, vS_a6 hS, vS_s6 hS, vS_n7 hS, vS_a7 hS, vS_s7 hS, vS_n8 hS, vS_a8 hS, vS_s8 hS, vS_n9 hS, vS_a9 hS, vS_s9 hS, vS_n10 hS, vS_a10 hS, vS_s10 hS, vS_n11 hS, vS_a11 hS, vS_s11 hS, e1, h2, e7]
theorem s_describeEvent {h : dr_AH} {c : Nat → Int → Int} {s : Nat} (hS : LaS h s) {n p x f : Int} (h1 : 1 ≤ n) (h2 : n ≤ 40) (h3 : 0 ≤ x) (h4 : x < 2) :
    f_S_describeEvent s (i2 n) (i2 p) (i2 x) (i2 f) (wr h c) = some (.inl none, wr h (deE c s n p x f)) := by
  have e1 : ¬ (n < 1) := by omega
  unfold f_S_describeEvent deE
  simp (disch := omega) only [li_0, li_1, li_2, li_3, li_4, li_5, li_6, li_7, li_8, li_9, li_10, li_11, li_12, li_13, li_14, li_15, li_16, li_17, li_18, li_19, li_20, li_21, li_31, li_32, li_33, li_40, li_41, li_43, li_48, li_57, li_59, li_60, li_61, li_62, li_64, li_97, li_99, li_100, li_101, li_102, li_112, li_119, li_126, li_189, li_255, li_300, li_369, li_400, li_999, li_5000, li_9999, li_12345, li_99999, li_1103515245, i2_add, i2_sub, i2_mul, i2_neg, i2_le, i2_lt, i2_eq, r_rz, r_ci, r_cx, r_cv, r_vx, r_cr, r_rx, dr_ci', dr_cv', dr_cr', dr_gr', dr_x0, ↓reduceIte, Int.reduceLE, Int.reduceLT, Int.reduceEq, Int.reduceNeg, Int.reduceAdd, Int.reduceSub, Int.reduceMul, vS_k hS, vS_r0 hS, vS_r1 hS, vS_r2 hS, vS_r3 hS, vS_r4 hS, vS_r5 hS, vS_r6 hS, vS_g7 hS, vS_p7 hS, vS_r8 hS, vS_r9 hS, vS_r10 hS, vS_r11 hS, vS_g12 hS, vS_p12 hS, vS_n1 hS, vS_a1 hS, vS_s1 hS, vS_n2 hS, vS_a2 hS, vS_s2 hS, vS_n3 hS, vS_a3 hS, vS_s3 hS, vS_n4 hS, vS_a4 hS, vS_s4 hS, vS_n5 hS, vS_a5 hS, vS_s5 hS, vS_n6 hS, vS_a6 hS, vS_s6 hS, vS_n7 hS, vS_a7 hS, vS_s7 hS, vS_n8 hS, vS_a8 hS, vS_s8 hS, vS_n9 hS, vS_a9 hS, vS_s9 hS, vS_n10 hS, vS_a10 hS, vS_s10 hS, vS_n11 hS, vS_a11 hS, vS_s11 hS, e1, h2]
theorem s_addAim {h : dr_AH} {c : Nat → Int → Int} {s : Nat} (hS : LaS h s) {n e a w g : Int} (h1 : 1 ≤ n) (h2 : n ≤ 20) :
    f_S_addAim s (i2 n) (i2 e) (i2 a) (i2 w) (i2 g) (wr h c) = some (.inl none, wr h (adA c s n e a w g)) := by
  have e1 : ¬ (n < 1) := by omega
  unfold f_S_addAim adA
  simp (disch := omega) only [li_0, li_1, li_2, li_3, li_4, li_5, li_6, li_7, li_8, li_9, li_10, li_11, li_12, li_13, li_14, li_15, li_16, li_17, li_18, li_19, li_20, li_21, li_31, li_32, li_33, li_40, li_41, li_43, li_48, li_57, li_59, li_60, li_61, li_62, li_64, li_97, li_99, li_100, li_101, li_102, li_112, li_119, li_126, li_189, li_255, li_300, li_369, li_400, li_999, li_5000, li_9999, li_12345, li_99999, li_1103515245, i2_add, i2_sub, i2_mul, i2_neg, i2_le, i2_lt, i2_eq, r_rz, r_ci, r_cx, r_cv, r_vx, r_cr, r_rx, dr_ci', dr_cv', dr_cr', dr_gr', dr_x0, ↓reduceIte, Int.reduceLE, Int.reduceLT, Int.reduceEq, Int.reduceNeg, Int.reduceAdd, Int.reduceSub, Int.reduceMul, vS_k hS, vS_r0 hS, vS_r1 hS, vS_r2 hS, vS_r3 hS, vS_r4 hS, vS_r5 hS, vS_r6 hS, vS_g7 hS, vS_p7 hS, vS_r8 hS, vS_r9 hS, vS_r10 hS, vS_r11 hS, vS_g12 hS, vS_p12 hS, vS_n1 hS, vS_a1 hS, vS_s1 hS, vS_n2 hS, vS_a2 hS, vS_s2 hS, vS_n3 hS, vS_a3 hS, vS_s3 hS, vS_n4 hS, vS_a4 hS, vS_s4 hS, vS_n5 hS, vS_a5 hS, vS_s5 hS, vS_n6 hS, vS_a6 hS, vS_s6 hS, vS_n7 hS, vS_a7 hS, vS_s7 hS, vS_n8 hS, vS_a8 hS, vS_s8 hS, vS_n9 hS, vS_a9 hS, vS_s9 hS, vS_n10 hS, vS_a10 hS, vS_s10 hS, vS_n11 hS, vS_a11 hS, vS_s11 hS, e1, h2]
/-! filling -/
def fil (c : Nat → Int → Int) (a : Nat) (j x : Int) : Nat → Int → Int := fun b i => if b = a ∧ 0 ≤ i ∧ i < j then x else c b i
theorem fil_s (c : Nat → Int → Int) (a : Nat) (j x : Int) (h : 0 ≤ j) : up (fil c a j x) a j x = fil c a (j + 1) x := by
  funext b i; unfold up fil
  by_cases e : b = a
  · by_cases e2 : i = j
    · subst e2; rw [if_pos ⟨e, rfl⟩, if_pos ⟨e, by omega, by omega⟩]
    · rw [if_neg (fun hh => e2 hh.2)]
      by_cases e3 : 0 ≤ i ∧ i < j
      · rw [if_pos ⟨e, e3⟩, if_pos ⟨e, by omega, by omega⟩]
      · rw [if_neg (fun hh => e3 hh.2), if_neg (fun hh => e3 (by omega))]
  · rw [if_neg (fun hh => e hh.1), if_neg (fun hh => e hh.1), if_neg (fun hh => e hh.1)]
theorem fil_0 (c : Nat → Int → Int) (a : Nat) (x : Int) : fil c a 0 x = c := by
  funext b i; unfold fil; rw [if_neg (by omega)]
theorem a_fill_5 {h : dr_AH} {c : Nat → Int → Int} {a n : Nat} (hA : sA h a 100 n) (hn : n ≤ 1000) (ha : a ≠ 0) {x : Int} : ∀ (f m : Nat) (j : Int), 0 ≤ j → j ≤ n → n - j ≤ f → f < m →
    f_A_fill_5 m a (i2 x) (i2 j) (i2 (n : Int)) (wr h (fil c a j x)) = some (.inl none, wr h (fil c a n x)) := by
  intro f
  induction f with
  | zero =>
    intro m j h1 h2 h3 h4
    obtain ⟨k, rfl⟩ : ∃ k, m = k + 1 := ⟨m - 1, by omega⟩
    have e : j = n := by omega
    unfold f_A_fill_5
    simp (disch := omega) only [li_0, li_1, li_2, li_3, li_4, li_5, li_6, li_7, li_8, li_9, li_10, li_11, li_12, li_13, li_14, li_15, li_16, li_17, li_18, li_19, li_20, li_21, li_31, li_32, li_33, li_40, li_41, li_43, li_48, li_57, li_59, li_60, li_61, li_62, li_64, li_97, li_99, li_100, li_101, li_102, li_112, li_119, li_126, li_189, li_255, li_300, li_369, li_400, li_999, li_5000, li_9999, li_12345, li_99999, li_1103515245, i2_add, i2_sub, i2_mul, i2_neg, i2_le, i2_lt, i2_eq, r_rz, r_ci, r_cx, r_cv, r_vx, r_cr, r_rx, dr_ci', dr_cv', dr_cr', dr_gr', dr_x0, ↓reduceIte, Int.reduceLE, Int.reduceLT, Int.reduceEq, Int.reduceNeg, Int.reduceAdd, Int.reduceSub, Int.reduceMul, e, Int.le_refl]
  | succ f ih =>
    intro m j h1 h2 h3 h4
    obtain ⟨k, rfl⟩ : ∃ k, m = k + 1 := ⟨m - 1, by omega⟩
    unfold f_A_fill_5
    by_cases e : j = n
    · simp (disch := omega) only [li_0, li_1, li_2, li_3, li_4, li_5, li_6, li_7, li_8, li_9, li_10, li_11, li_12, li_13, li_14, li_15, li_16, li_17, li_18, li_19, li_20, li_21, li_31, li_32, li_33, li_40, li_41, li_43, li_48, li_57, li_59, li_60, li_61, li_62, li_64, li_97, li_99, li_100, li_101, li_102, li_112, li_119, li_126, li_189, li_255, li_300, li_369, li_400, li_999, li_5000, li_9999, li_12345, li_99999, li_1103515245, i2_add, i2_sub, i2_mul, i2_neg, i2_le, i2_lt, i2_eq, r_rz, r_ci, r_cx, r_cv, r_vx, r_cr, r_rx, dr_ci', dr_cv', dr_cr', dr_gr', dr_x0, ↓reduceIte, Int.reduceLE, Int.reduceLT, Int.reduceEq, Int.reduceNeg, Int.reduceAdd, Int.reduceSub, Int.reduceMul, e, Int.le_refl]
    · have e2 : ¬ ((n : Int) ≤ j) := by omega
      simp (disch := omega) only [li_0, li_1, li_2, li_3, li_4, li_5, li_6, li_7, li_8, li_9, li_10, li_11, li_12, li_13, li_14, li_15, li_16, li_17, li_18, li_19, li_20, li_21, li_31, li_32, li_33, li_40, li_41, li_43, li_48, li_57, li_59, li_60, li_61, li_62, li_64, li_97, li_99, li_100, li_101, li_102, li_112, li_119, li_126, li_189, li_255, li_300, li_369, li_400, li_999, li_5000, li_9999, li_12345, li_99999, li_1103515245, i2_add, i2_sub, i2_mul, i2_neg, i2_le, i2_lt, i2_eq, r_rz, r_ci, r_cx, r_cv, r_vx, r_cr, r_rx, dr_ci', dr_cv', dr_cr', dr_gr', dr_x0, ↓reduceIte, Int.reduceLE, Int.reduceLT, Int.reduceEq, Int.reduceNeg, Int.reduceAdd, Int.reduceSub, Int.reduceMul, e2, r_si hA (by omega) ha, fil_s, ih]
theorem a_fill {h : dr_AH} {c : Nat → Int → Int} {a n : Nat} (hA : sA h a 100 n) (hn : n ≤ 1000) (ha : a ≠ 0) {x : Int} : f_A_fill a (i2 x) (wr h c) = some (.inl none, wr h (fil c a n x)) := by
  unfold f_A_fill
  rw [r_ln (k := 0) hA, li_0]
  have := a_fill_5 (c := c) (x := x) hA hn ha n dr_fu 0 (by omega) (by omega) (by omega) (by have : dr_fu = 10000 := rfl
                                                                                             omega)
  rw [fil_0] at this
  exact this
theorem s_clear_2 {h : dr_AH} {c : Nat → Int → Int} {s : Nat} (hS : LaS h s) : ∀ (f m : Nat) (j : Int), 0 ≤ j → j ≤ 41 → 41 - j ≤ f → f < m →
    f_S_clear_2 m s (i2 j) (wr h (fil c (s + 1) j 0)) = some (.inl none, wr h (up (fil (fil c (s + 1) 41 0) (s + 11) 21 0) s 7 0)) := by
  have hA : sA h (s + 11) 100 21 := by unfold LaS at hS; simp only [hS]
  have hfl := fun c' => a_fill (c := c') (x := 0) hA (by omega) (by omega)
  intro f
  induction f with
  | zero =>
    intro m j h1 h2 h3 h4
    obtain ⟨k, rfl⟩ : ∃ k, m = k + 1 := ⟨m - 1, by omega⟩
    have e : j = 41 := by omega
    unfold f_S_clear_2
    simp (disch := omega) only [li_0, li_1, li_2, li_3, li_4, li_5, li_6, li_7, li_8, li_9, li_10, li_11, li_12, li_13, li_14, li_15, li_16, li_17, li_18, li_19, li_20, li_21, li_31, li_32, li_33, li_40, li_41, li_43, li_48, li_57, li_59, li_60, li_61, li_62, li_64, li_97, li_99, li_100, li_101, li_102, li_112, li_119, li_126, li_189, li_255, li_300, li_369, li_400, li_999, li_5000, li_9999, li_12345, li_99999, li_1103515245, i2_add, i2_sub, i2_mul, i2_neg, i2_le, i2_lt, i2_eq, r_rz, r_ci, r_cx, r_cv, r_vx, r_cr, r_rx, dr_ci', dr_cv', dr_cr', dr_gr', dr_x0, ↓reduceIte, Int.reduceLE, Int.reduceLT, Int.reduceEq, Int.reduceNeg, Int.reduceAdd, Int.reduceSub, Int.reduceMul, vS_k hS, vS_r0 hS, vS_r1 hS, vS_r2 hS, vS_r3 hS, vS_r4 hS, vS_r5 hS, vS_r6 hS, vS_g7 hS, vS_p7 hS, vS_r8 hS, vS_r9 hS, vS_r10 hS, vS_r11 hS, vS_g12 hS, vS_p12 hS, vS_n1 hS, vS_a1 hS, vS_s1 hS, vS_n2 hS, vS_a2 hS, vS_s2 hS, vS_n3 hS, vS_a3 hS, vS_s3 hS, vS_n4 hS, vS_a4 hS, vS_s4 hS, vS_n5 hS, vS_a5 hS, vS_s5 hS, vS_n6 hS, vS_a6 hS, vS_s6 hS, vS_n7 hS, vS_a7 hS, vS_s7 hS, vS_n8 hS, vS_a8 hS, vS_s8 hS, vS_n9 hS, vS_a9 hS, vS_s9 hS, vS_n10 hS, vS_a10 hS, vS_s10 hS, vS_n11 hS, vS_a11 hS, vS_s11 hS, e, Int.le_refl, hfl]
    rfl
  | succ f ih =>
    intro m j h1 h2 h3 h4
    obtain ⟨k, rfl⟩ : ∃ k, m = k + 1 := ⟨m - 1, by omega⟩
    unfold f_S_clear_2
    by_cases e : j = 41
    · simp (disch := omega) only [li_0, li_1, li_2, li_3, li_4, li_5, li_6, li_7, li_8, li_9, li_10, li_11, li_12, li_13, li_14, li_15, li_16, li_17, li_18, li_19, li_20, li_21, li_31, li_32, li_33, li_40, li_41, li_43, li_48, li_57, li_59, li_60, li_61, li_62, li_64, li_97, li_99, li_100, li_101, li_102, li_112, li_119, li_126, li_189, li_255, li_300, li_369, li_400, li_999, li_5000, li_9999, li_12345, li_99999, li_1103515245, i2_add, i2_sub, i2_mul, i2_neg, i2_le, i2_lt, i2_eq, r_rz, r_ci, r_cx, r_cv, r_vx, r_cr, r_rx, dr_ci', dr_cv', dr_cr', dr_gr', dr_x0, ↓reduceIte, Int.reduceLE, Int.reduceLT, Int.reduceEq, Int.reduceNeg, Int.reduceAdd, Int.reduceSub, Int.reduceMul, vS_k hS, vS_r0 hS, vS_r1 hS, vS_r2 hS, vS_r3 hS, vS_r4 hS, vS_r5 hS, vS_r6 hS, vS_g7 hS, vS_p7 hS, vS_r8 hS, vS_r9 hS, vS_r10 hS, vS_r11 hS, vS_g12 hS, vS_p12 hS, vS_n1 hS, vS_a1 hS, vS_s1 hS, vS_n2 hS, vS_a2 hS, vS_s2 hS, vS_n3 hS, vS_a3 hS, vS_s3 hS, vS_n4 hS, vS_a4 hS, vS_s4 hS, vS_n5 hS, vS_a5 hS, vS_s5 hS, vS_n6 hS, vS_a6 hS, vS_s6 hS, vS_n7 hS, vS_a7 hS, vS_s7 hS, vS_n8 hS, vS_a8 hS, vS_s8 hS, vS_n9 hS, vS_a9 hS, vS_s9 hS, vS_n10 hS, vS_a10 hS, vS_s10 hS, vS_n11 hS, vS_a11 hS, vS_s11 hS, e, Int.le_refl, hfl]
      rfl
    · have e2 : ¬ ((41 : Int) ≤ j) := by omega
      simp (disch := omega) only [li_0, li_1, li_2, li_3, li_4, li_5, li_6, li_7, li_8, li_9, li_10, li_11, li_12, li_13, li_14, li_15, li_16, li_17, li_18, li_19, li_20, li_21, li_31, li_32, li_33, li_40, li_41, li_43, li_48, li_57, li_59, li_60, li_61, li_62, li_64, li_97, li_99, li_100, li_101, li_102, li_112, li_119, li_126, li_189, li_255, li_300, li_369, li_400, li_999, li_5000, li_9999, li_12345, li_99999, li_1103515245, i2_add, i2_sub, i2_mul, i2_neg, i2_le, i2_lt, i2_eq, r_rz, r_ci, r_cx, r_cv, r_vx, r_cr, r_rx, dr_ci', dr_cv', dr_cr', dr_gr', dr_x0, ↓reduceIte, Int.reduceLE, Int.reduceLT, Int.reduceEq, Int.reduceNeg, Int.reduceAdd, Int.reduceSub, Int.reduceMul, vS_k hS, vS_r0 hS, vS_r1 hS, vS_r2 hS, vS_r3 hS, vS_r4 hS, vS_r5 hS, vS_r6 hS, vS_g7 hS, vS_p7 hS, vS_r8 hS, vS_r9 hS, vS_r10 hS, vS_r11 hS, vS_g12 hS, vS_p12 hS, vS_n1 hS, vS_a1 hS, vS_s1 hS, vS_n2 hS, vS_a2 hS, vS_s2 hS, vS_n3 hS, vS_a3 hS, vS_s3 hS, vS_n4 hS, vS_a4 hS, vS_s4 hS, vS_n5 hS, vS_a5 hS, vS_s5 hS, vS_n6 hS, vS_a6 hS, vS_s6 hS, vS_n7 hS, vS_a7 hS, vS_s7 hS, vS_n8 hS, vS_a8 hS, vS_s8 hS, vS_n9 hS, vS_a9 hS, vS_s9 hS, vS_n10 hS, vS_a10 hS, vS_s10 hS, vS_n11 hS, vS_a11 hS, vS_s11 hS, e2, fil_s, ih]
theorem s_clear {h : dr_AH} {c : Nat → Int → Int} {s : Nat} (hS : LaS h s) : f_S_clear s (wr h c) = some (.inl none, wr h (up (fil (fil c (s + 1) 41 0) (s + 11) 21 0) s 7 0)) := by
  unfold f_S_clear
  have := s_clear_2 (c := c) hS 41 dr_fu 0 (by omega) (by omega) (by omega) (by decide)
  rw [fil_0] at this
  rw [li_0]
  exact this
