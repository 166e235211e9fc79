/-! ===== the class's drill ===== -/
def DS (d s : Nat) : Prop := s + 11 < d ∨ d + 4 < s
def CH (c : Nat → Int → Int) (d s : Nat) : Prop := (0 ≤ c d 1 ∧ c d 1 ≤ 99999) ∧ (∀ n, 1 ≤ n → n ≤ 40 → (0 ≤ c (s + 1) n ∧ c (s + 1) n < 2) ∧ (-1 ≤ c (d + 1) n ∧ c (d + 1) n ≤ 99999) ∧ (c (s + 1) n = 1 → (-1 ≤ c (s + 2) n ∧ c (s + 2) n ≤ 19) ∧ (0 ≤ c (s + 3) n ∧ c (s + 3) n ≤ 999) ∧ (0 ≤ c (s + 4) n ∧ c (s + 4) n ≤ 9999)))
  ∧ (∀ a, 0 ≤ a → a ≤ 19 → -1 ≤ c (d + 2) a ∧ c (d + 2) a ≤ 99999) ∧ (0 ≤ c d 8 ∧ c d 8 ≤ 60) ∧ (∀ k, 0 ≤ k → k < c d 8 → (0 ≤ c (d + 3) k ∧ c (d + 3) k ≤ 19) ∧ (0 ≤ c (d + 4) k ∧ c (d + 4) k ≤ 99999)) ∧ (0 ≤ c d 2 ∧ c d 2 < 2)
def cfi (c : Nat → Int → Int) (d : Nat) (a : Int) : Int := if a < 0 then -1 else c (d + 2) a
def cdu (c : Nat → Int → Int) (d s : Nat) (n : Int) : Int := if cfi c d (c (s + 2) n) = -1 then c (s + 4) n else if c (s + 4) n < cfi c d (c (s + 2) n) + c (s + 3) n then c (s + 4) n else cfi c d (c (s + 2) n) + c (s + 3) n
theorem c_first {h : dr_AH} {c : Nat → Int → Int} {d s : Nat} (hD : LaD h d s) {a : Int} (a1 : -1 ≤ a) (a2 : a ≤ 19) : f_D_firstSecondOf d (i2 a) (wr h c) = some (.inl (some (.int (i2 (cfi c d a)))), wr h c) := by
  unfold f_D_firstSecondOf cfi
  by_cases e : a < 0
  · rw [if_pos e]
    simp (disch := omega) only [li_0, li_1, li_2, li_3, li_4, li_5, li_6, li_7, li_8, li_9, li_10, li_11, li_12, li_13, li_14, li_15, li_16, li_17, li_18, li_19, li_20, li_21, li_31, li_32, li_33, li_40, li_41, li_43, li_48, li_57, li_59, li_60, li_61, li_62, li_64, li_97, li_99, li_100, li_101, li_102, li_112, li_119, li_126, li_189, li_255, li_300, li_369, li_400, li_999, li_5000, li_9999, li_12345, li_99999, li_1103515245, i2_add, i2_sub, i2_mul, i2_neg, i2_le, i2_lt, i2_eq, r_rz, r_ci, r_cx, r_cv, r_vx, r_cr, r_rx, dr_ci', dr_cv', dr_cr', dr_gr', dr_x0, ↓reduceIte, Int.reduceLE, Int.reduceLT, Int.reduceEq, Int.reduceNeg, Int.reduceAdd, Int.reduceSub, Int.reduceMul, vD_k hD, vD_r0 hD, vD_g1 hD, vD_p1 hD, vD_g2 hD, vD_p2 hD, vD_r3 hD, vD_g4 hD, vD_p4 hD, vD_r5 hD, vD_r6 hD, vD_r7 hD, vD_g8 hD, vD_p8 hD, vD_n1 hD, vD_a1 hD, vD_s1 hD, vD_n2 hD, vD_a2 hD, vD_s2 hD, vD_n3 hD, vD_a3 hD, vD_s3 hD, vD_n4 hD, vD_a4 hD, vD_s4 hD, e]
  · rw [if_neg e]
    have e2 : ¬ (20 ≤ a) := by omega
    simp (disch := omega) only [li_0, li_1, li_2, li_3, li_4, li_5, li_6, li_7, li_8, li_9, li_10, li_11, li_12, li_13, li_14, li_15, li_16, li_17, li_18, li_19, li_20, li_21, li_31, li_32, li_33, li_40, li_41, li_43, li_48, li_57, li_59, li_60, li_61, li_62, li_64, li_97, li_99, li_100, li_101, li_102, li_112, li_119, li_126, li_189, li_255, li_300, li_369, li_400, li_999, li_5000, li_9999, li_12345, li_99999, li_1103515245, i2_add, i2_sub, i2_mul, i2_neg, i2_le, i2_lt, i2_eq, r_rz, r_ci, r_cx, r_cv, r_vx, r_cr, r_rx, dr_ci', dr_cv', dr_cr', dr_gr', dr_x0, ↓reduceIte, Int.reduceLE, Int.reduceLT, Int.reduceEq, Int.reduceNeg, Int.reduceAdd, Int.reduceSub, Int.reduceMul, vD_k hD, vD_r0 hD, vD_g1 hD, vD_p1 hD, vD_g2 hD, vD_p2 hD, vD_r3 hD, vD_g4 hD, vD_p4 hD, vD_r5 hD, vD_r6 hD, vD_r7 hD, vD_g8 hD, vD_p8 hD, vD_n1 hD, vD_a1 hD, vD_s1 hD, vD_n2 hD, vD_a2 hD, vD_s2 hD, vD_n3 hD, vD_a3 hD, vD_s3 hD, vD_n4 hD, vD_a4 hD, vD_s4 hD, e, e2]
theorem c_min {g : dr_AH} {x y : Int} (x1 : -2147483648 ≤ x) (x2 : x < 2147483648) (y1 : -2147483648 ≤ y) (y2 : y < 2147483648) : f_N_min (i2 x) (i2 y) g = some (.inl (some (.int (i2 (if y < x then y else x)))), g) := by
  unfold f_N_min
  by_cases e : y < x
  · rw [if_pos e]
    simp (disch := omega) only [li_0, li_1, li_2, li_3, li_4, li_5, li_6, li_7, li_8, li_9, li_10, li_11, li_12, li_13, li_14, li_15, li_16, li_17, li_18, li_19, li_20, li_21, li_31, li_32, li_33, li_40, li_41, li_43, li_48, li_57, li_59, li_60, li_61, li_62, li_64, li_97, li_99, li_100, li_101, li_102, li_112, li_119, li_126, li_189, li_255, li_300, li_369, li_400, li_999, li_5000, li_9999, li_12345, li_99999, li_1103515245, i2_add, i2_sub, i2_mul, i2_neg, i2_le, i2_lt, i2_eq, r_rz, r_ci, r_cx, r_cv, r_vx, r_cr, r_rx, dr_ci', dr_cv', dr_cr', dr_gr', dr_x0, ↓reduceIte, Int.reduceLE, Int.reduceLT, Int.reduceEq, Int.reduceNeg, Int.reduceAdd, Int.reduceSub, Int.reduceMul, e]
  · rw [if_neg e]
    simp (disch := omega) only [li_0, li_1, li_2, li_3, li_4, li_5, li_6, li_7, li_8, li_9, li_10, li_11, li_12, li_13, li_14, li_15, li_16, li_17, li_18, li_19, li_20, li_21, li_31, li_32, li_33, li_40, li_41, li_43, li_48, li_57, li_59, li_60, li_61, li_62, li_64, li_97, li_99, li_100, li_101, li_102, li_112, li_119, li_126, li_189, li_255, li_300, li_369, li_400, li_999, li_5000, li_9999, li_12345, li_99999, li_1103515245, i2_add, i2_sub, i2_mul, i2_neg, i2_le, i2_lt, i2_eq, r_rz, r_ci, r_cx, r_cv, r_vx, r_cr, r_rx, dr_ci', dr_cv', dr_cr', dr_gr', dr_x0, ↓reduceIte, Int.reduceLE, Int.reduceLT, Int.reduceEq, Int.reduceNeg, Int.reduceAdd, Int.reduceSub, Int.reduceMul, e]
theorem cdu_r {c : Nat → Int → Int} {d s : Nat} (H : CH c d s) {n : Int} (n1 : 1 ≤ n) (n2 : n ≤ 40) (ht : c (s + 1) n = 1) : -1 ≤ cfi c d (c (s + 2) n) ∧ cfi c d (c (s + 2) n) ≤ 99999 ∧ 0 ≤ cdu c d s n ∧ cdu c d s n ≤ 9999 := by
  have h1 := (H.2.1 n n1 n2).2.2 ht
  have h2 : -1 ≤ cfi c d (c (s + 2) n) ∧ cfi c d (c (s + 2) n) ≤ 99999 := by
    unfold cfi; split
    · omega
    · exact H.2.2.1 _ (by omega) (by omega)
  refine ⟨h2.1, h2.2, ?_⟩
  unfold cdu
  split
  · omega
  · split <;> omega
theorem c_due {h : dr_AH} {c : Nat → Int → Int} {d s : Nat} (hD : LaD h d s) (hS : LaS h s) (H : CH c d s) {n : Int} (n1 : 1 ≤ n) (n2 : n ≤ 40) (ht : c (s + 1) n = 1) :
    f_D_dueSecond d (i2 n) (wr h c) = some (.inl (some (.int (i2 (cdu c d s n)))), wr h c) := by
  have h1 := (H.2.1 n n1 n2).2.2 ht
  have h2 := cdu_r H n1 n2 ht
  unfold f_D_dueSecond cdu
  by_cases e : cfi c d (c (s + 2) n) = -1
  · rw [if_pos e]
    simp (disch := omega) only [li_0, li_1, li_2, li_3, li_4, li_5, li_6, li_7, li_8, li_9, li_10, li_11, li_12, li_13, li_14, li_15, li_16, li_17, li_18, li_19, li_20, li_21, li_31, li_32, li_33, li_40, li_41, li_43, li_48, li_57, li_59, li_60, li_61, li_62, li_64, li_97, li_99, li_100, li_101, li_102, li_112, li_119, li_126, li_189, li_255, li_300, li_369, li_400, li_999, li_5000, li_9999, li_12345, li_99999, li_1103515245, i2_add, i2_sub, i2_mul, i2_neg, i2_le, i2_lt, i2_eq, r_rz, r_ci, r_cx, r_cv, r_vx, r_cr, r_rx, dr_ci', dr_cv', dr_cr', dr_gr', dr_x0, ↓reduceIte, Int.reduceLE, Int.reduceLT, Int.reduceEq, Int.reduceNeg, Int.reduceAdd, Int.reduceSub, Int.reduceMul, vD_k hD, vD_r0 hD, vD_g1 hD, vD_p1 hD, vD_g2 hD, vD_p2 hD, vD_r3 hD, vD_g4 hD, vD_p4 hD, vD_r5 hD, vD_r6 hD, vD_r7 hD, vD_g8 hD, vD_p8 hD, vD_n1 hD, vD_a1 hD, vD_s1 hD, vD_n2 hD, vD_a2 hD, vD_s2 hD, vD_n3 hD, vD_a3 hD, vD_s3 hD, vD_n4 hD, vD_a4 hD, vD_s4 hD, vS_k hS, vS_r0 hS, vS_r1 hS, vS_r2 hS, vS_r3 hS, vS_r4 hS, vS_r5 hS, vS_r6 hS, vS_g7 hS, vS_p7 hS, vS_r8 hS, vS_r9 hS, vS_r10 hS, vS_r11 hS, vS_g12 hS, vS_p12 hS, vS_n1 hS, vS_a1 hS, vS_s1 hS, vS_n2 hS, vS_a2 hS, vS_s2 hS, vS_n3 hS, vS_a3 hS, vS_s3 hS, vS_n4 hS, vS_a4 hS, vS_s4 hS, vS_n5 hS, vS_a5 hS, vS_s5 hS, vS_n6 hS, vS_a6 hS, vS_s6 hS, vS_n7 hS, vS_a7 hS, vS_s7 hS, vS_n8 hS, vS_a8 hS, vS_s8 hS, vS_n9 hS, vS_a9 hS, vS_s9 hS, vS_n10 hS, vS_a10 hS, vS_s10 hS, vS_n11 hS, vS_a11 hS, vS_s11 hS, c_first hD, e]
  · rw [if_neg e]
    simp (disch := omega) only [li_0, li_1, li_2, li_3, li_4, li_5, li_6, li_7, li_8, li_9, li_10, li_11, li_12, li_13, li_14, li_15, li_16, li_17, li_18, li_19, li_20, li_21, li_31, li_32, li_33, li_40, li_41, li_43, li_48, li_57, li_59, li_60, li_61, li_62, li_64, li_97, li_99, li_100, li_101, li_102, li_112, li_119, li_126, li_189, li_255, li_300, li_369, li_400, li_999, li_5000, li_9999, li_12345, li_99999, li_1103515245, i2_add, i2_sub, i2_mul, i2_neg, i2_le, i2_lt, i2_eq, r_rz, r_ci, r_cx, r_cv, r_vx, r_cr, r_rx, dr_ci', dr_cv', dr_cr', dr_gr', dr_x0, ↓reduceIte, Int.reduceLE, Int.reduceLT, Int.reduceEq, Int.reduceNeg, Int.reduceAdd, Int.reduceSub, Int.reduceMul, vD_k hD, vD_r0 hD, vD_g1 hD, vD_p1 hD, vD_g2 hD, vD_p2 hD, vD_r3 hD, vD_g4 hD, vD_p4 hD, vD_r5 hD, vD_r6 hD, vD_r7 hD, vD_g8 hD, vD_p8 hD, vD_n1 hD, vD_a1 hD, vD_s1 hD, vD_n2 hD, vD_a2 hD, vD_s2 hD, vD_n3 hD, vD_a3 hD, vD_s3 hD, vD_n4 hD, vD_a4 hD, vD_s4 hD, vS_k hS, vS_r0 hS, vS_r1 hS, vS_r2 hS, vS_r3 hS, vS_r4 hS, vS_r5 hS, vS_r6 hS, vS_g7 hS, vS_p7 hS, vS_r8 hS, vS_r9 hS, vS_r10 hS, vS_r11 hS, vS_g12 hS, vS_p12 hS, vS_n1 hS, vS_a1 hS, vS_s1 hS, vS_n2 hS, vS_a2 hS, vS_s2 hS, vS_n3 hS, vS_a3 hS, vS_s3 hS, vS_n4 hS, vS_a4 hS, vS_s4 hS, vS_n5 hS, vS_a5 hS, vS_s5 hS, vS_n6 hS, vS_a6 hS, vS_s6 hS, vS_n7 hS, vS_a7 hS, vS_s7 hS, vS_n8 hS, vS_a8 hS, vS_s8 hS, vS_n9 hS, vS_a9 hS, vS_s9 hS, vS_n10 hS, vS_a10 hS, vS_s10 hS, vS_n11 hS, vS_a11 hS, vS_s11 hS, c_first hD, e, c_min]
abbrev cev (c : Nat → Int → Int) (d s : Nat) (t n : Int) : Prop := c (s + 1) n = 1 ∧ c (d + 1) n = -1 ∧ cdu c d s n ≤ t
def bdc (c : Nat → Int → Int) (d s : Nat) (t j : Int) : Nat → Int → Int := fun a i => if a = d + 1 ∧ 1 ≤ i ∧ i ≤ j ∧ cev c d s t i then cdu c d s i else c a i
theorem bdc_a (c : Nat → Int → Int) (d s : Nat) (t j : Int) {a : Nat} (h : a ≠ d + 1) : bdc c d s t j a = c a := by
  funext i; unfold bdc; rw [if_neg (fun hh => h hh.1)]
theorem bdc_0 (c : Nat → Int → Int) (d s : Nat) (t : Int) : bdc c d s t 0 = c := by
  funext a i; unfold bdc; rw [if_neg (by omega)]
theorem bdc_n (c : Nat → Int → Int) {d s : Nat} {t j n : Int} (h : j < n) : bdc c d s t j (d + 1) n = c (d + 1) n := by
  unfold bdc; rw [if_neg (by omega)]
theorem bdc_s1 (c : Nat → Int → Int) {d s : Nat} {t j : Int} (h0 : 0 ≤ j) (h : cev c d s t (j + 1)) : up (bdc c d s t j) (d + 1) (j + 1) (cdu c d s (j + 1)) = bdc c d s t (j + 1) := by
  funext a i
  unfold up bdc
  by_cases e : a = d + 1 ∧ i = j + 1
  · rw [if_pos e, if_pos ⟨e.1, by omega, by omega, by rw [e.2]; exact h⟩, e.2]
  · rw [if_neg e]
    by_cases e2 : a = d + 1 ∧ 1 ≤ i ∧ i ≤ j ∧ cev c d s t i
    · rw [if_pos e2, if_pos ⟨e2.1, e2.2.1, by omega, e2.2.2.2⟩]
    · rw [if_neg e2, if_neg (fun hh => e2 ⟨hh.1, hh.2.1, by omega, hh.2.2.2⟩)]
theorem bdc_s0 (c : Nat → Int → Int) {d s : Nat} {t j : Int} (h : ¬ cev c d s t (j + 1)) : bdc c d s t j = bdc c d s t (j + 1) := by
  funext a i
  unfold bdc
  by_cases e2 : a = d + 1 ∧ 1 ≤ i ∧ i ≤ j ∧ cev c d s t i
  · rw [if_pos e2, if_pos ⟨e2.1, e2.2.1, by omega, e2.2.2.2⟩]
  · rw [if_neg e2, if_neg (fun hh => e2 ⟨hh.1, hh.2.1, by
      have h3 : i ≠ j + 1 := fun e => h (by have := hh.2.2.2; rw [e] at this; exact this)
      omega, hh.2.2.2⟩)]
theorem bdc_cdu (c : Nat → Int → Int) {d s : Nat} (hd : DS d s) (t j n : Int) : cdu (bdc c d s t j) d s n = cdu c d s n := by
  unfold DS at hd
  unfold cdu cfi
  rw [bdc_a c d s t j (show s + 2 ≠ d + 1 by omega), bdc_a c d s t j (show s + 4 ≠ d + 1 by omega), bdc_a c d s t j (show s + 3 ≠ d + 1 by omega), bdc_a c d s t j (show d + 2 ≠ d + 1 by omega)]
theorem bdc_CH {c : Nat → Int → Int} {d s : Nat} (hd : DS d s) {t j : Int} (H : CH c d s) : CH (bdc c d s t j) d s := by
  obtain ⟨h1, h2, h3, h4, h5, h6⟩ := id H
  unfold DS at hd
  unfold CH
  rw [bdc_a c d s t j (show s + 1 ≠ d + 1 by omega), bdc_a c d s t j (show s + 2 ≠ d + 1 by omega), bdc_a c d s t j (show s + 4 ≠ d + 1 by omega), bdc_a c d s t j (show s + 3 ≠ d + 1 by omega), bdc_a c d s t j (show d + 2 ≠ d + 1 by omega), bdc_a c d s t j (show d ≠ d + 1 by omega), bdc_a c d s t j (show d + 3 ≠ d + 1 by omega), bdc_a c d s t j (show d + 4 ≠ d + 1 by omega)]
  refine ⟨h1, fun n n1 n2 => ⟨(h2 n n1 n2).1, ?_, (h2 n n1 n2).2.2⟩, h3, h4, h5, h6⟩
  have := (h2 n n1 n2).2.1
  unfold bdc
  split
  · rename_i e
    have := cdu_r H n1 n2 e.2.2.2.1
    omega
  · omega
theorem c_beg11 {h : dr_AH} {c : Nat → Int → Int} {d s : Nat} (hD : LaD h d s) (hS : LaS h s) (hd : DS d s) (H : CH c d s) {t : Int} (t1 : 0 ≤ t) (t2 : t ≤ 99999) : ∀ (k m j : Nat) (x y : Int), x = (j : Int) + 1 → y = sm (fun n => bz (cev c d s t n)) j → j ≤ 40 → 40 - j ≤ k → k < m →
    f_D_beginDueEvents_11 m d (i2 t) (i2 y) (i2 x) (wr h (bdc c d s t j)) = some (.inl (some (.int (i2 (sm (fun n => bz (cev c d s t n)) 40)))), wr h (up (bdc c d s t 40) d 4 (c d 4 + sm (fun n => bz (cev c d s t n)) 40))) := by
  have hd' := hd
  unfold DS at hd'
  have h2 := H.2.1
  intro k
  induction k with
  | zero =>
    intro m j x y hx hy h1 h2 h4
    obtain ⟨m, rfl⟩ : ∃ k, m = k + 1 := ⟨m - 1, by omega⟩
    have e : j = 40 := by omega
    have e1 : (41 : Int) ≤ x := by omega
    subst e
    unfold f_D_beginDueEvents_11
    simp (disch := omega) only [li_0, li_1, li_2, li_3, li_4, li_5, li_6, li_7, li_8, li_9, li_10, li_11, li_12, li_13, li_14, li_15, li_16, li_17, li_18, li_19, li_20, li_21, li_31, li_32, li_33, li_40, li_41, li_43, li_48, li_57, li_59, li_60, li_61, li_62, li_64, li_97, li_99, li_100, li_101, li_102, li_112, li_119, li_126, li_189, li_255, li_300, li_369, li_400, li_999, li_5000, li_9999, li_12345, li_99999, li_1103515245, i2_add, i2_sub, i2_mul, i2_neg, i2_le, i2_lt, i2_eq, r_rz, r_ci, r_cx, r_cv, r_vx, r_cr, r_rx, dr_ci', dr_cv', dr_cr', dr_gr', dr_x0, ↓reduceIte, Int.reduceLE, Int.reduceLT, Int.reduceEq, Int.reduceNeg, Int.reduceAdd, Int.reduceSub, Int.reduceMul, vD_k hD, vD_r0 hD, vD_g1 hD, vD_p1 hD, vD_g2 hD, vD_p2 hD, vD_r3 hD, vD_g4 hD, vD_p4 hD, vD_r5 hD, vD_r6 hD, vD_r7 hD, vD_g8 hD, vD_p8 hD, vD_n1 hD, vD_a1 hD, vD_s1 hD, vD_n2 hD, vD_a2 hD, vD_s2 hD, vD_n3 hD, vD_a3 hD, vD_s3 hD, vD_n4 hD, vD_a4 hD, vD_s4 hD, e1, hy]
    rw [show bdc c d s t ((40 : Nat) : Int) d 4 = c d 4 by rw [bdc_a _ _ _ _ _ (by omega)]]
    rfl
  | succ k ih =>
    intro m j x y hx hy h1 h3 h4
    obtain ⟨m, rfl⟩ : ∃ k, m = k + 1 := ⟨m - 1, by omega⟩
    unfold f_D_beginDueEvents_11
    by_cases e : j = 40
    · have e1 : (41 : Int) ≤ x := by omega
      subst e
      simp (disch := omega) only [li_0, li_1, li_2, li_3, li_4, li_5, li_6, li_7, li_8, li_9, li_10, li_11, li_12, li_13, li_14, li_15, li_16, li_17, li_18, li_19, li_20, li_21, li_31, li_32, li_33, li_40, li_41, li_43, li_48, li_57, li_59, li_60, li_61, li_62, li_64, li_97, li_99, li_100, li_101, li_102, li_112, li_119, li_126, li_189, li_255, li_300, li_369, li_400, li_999, li_5000, li_9999, li_12345, li_99999, li_1103515245, i2_add, i2_sub, i2_mul, i2_neg, i2_le, i2_lt, i2_eq, r_rz, r_ci, r_cx, r_cv, r_vx, r_cr, r_rx, dr_ci', dr_cv', dr_cr', dr_gr', dr_x0, ↓reduceIte, Int.reduceLE, Int.reduceLT, Int.reduceEq, Int.reduceNeg, Int.reduceAdd, Int.reduceSub, Int.reduceMul, vD_k hD, vD_r0 hD, vD_g1 hD, vD_p1 hD, vD_g2 hD, vD_p2 hD, vD_r3 hD, vD_g4 hD, vD_p4 hD, vD_r5 hD, vD_r6 hD, vD_r7 hD, vD_g8 hD, vD_p8 hD, vD_n1 hD, vD_a1 hD, vD_s1 hD, vD_n2 hD, vD_a2 hD, vD_s2 hD, vD_n3 hD, vD_a3 hD, vD_s3 hD, vD_n4 hD, vD_a4 hD, vD_s4 hD, e1, hy]
      rw [show bdc c d s t ((40 : Nat) : Int) d 4 = c d 4 by rw [bdc_a _ _ _ _ _ (by omega)]]
      rfl
    · have e2 : ¬ ((41 : Int) ≤ x) := by omega
      have b1 := h2 x (by omega) (by omega)
      have hs : sm (fun n => bz (cev c d s t n)) (j + 1) = sm (fun n => bz (cev c d s t n)) j + bz (cev c d s t x) := by rw [sm, hx]
      have l1 : bdc c d s t j (s + 1) x = c (s + 1) x := by rw [bdc_a _ _ _ _ _ (by omega)]
      have l2 : bdc c d s t j (d + 1) x = c (d + 1) x := bdc_n c (by omega)
      have hE := s_hasEvent (c := bdc c d s t j) (n := x) hS (by omega) (by omega) (fun _ _ => by rw [l1]; exact b1.1)
      rw [l1] at hE
      have no : ¬ cev c d s t x → ∀ y', y' = y → f_D_beginDueEvents_11 m d (i2 t) (i2 y') (i2 (x + 1)) (wr h (bdc c d s t j)) = some (.inl (some (.int (i2 (sm (fun n => bz (cev c d s t n)) 40)))), wr h (up (bdc c d s t 40) d 4 (c d 4 + sm (fun n => bz (cev c d s t n)) 40))) := by
        intro hn y' hy'
        have hl : bdc c d s t j = bdc c d s t ((j + 1 : Nat) : Int) := by
          rw [bdc_s0 c (j := j) (by rw [← hx]; exact hn)]; rfl
        rw [hl]
        refine ih m (j + 1) (x + 1) y' (by omega) ?_ (by omega) (by omega) (by omega)
        rw [hs, hy', hy, show bz (cev c d s t x) = 0 by unfold bz; rw [if_neg hn]]; omega
      by_cases e3 : c (s + 1) x = 1
      · have eb : bz (1 ≤ x ∧ x ≤ 40 ∧ c (s + 1) x = 1) = 1 := by unfold bz; rw [if_pos (by omega)]
        rw [eb] at hE
        by_cases e4 : c (d + 1) x = -1
        · have hdue := c_due hD hS (bdc_CH (t := t) (j := j) hd H) (n := x) (by omega) (by omega) (by rw [l1]; exact e3)
          have hcr := cdu_r H (n := x) (by omega) (by omega) e3
          rw [bdc_cdu c hd] at hdue
          by_cases e5 : t < cdu c d s x
          · have hn : ¬ cev c d s t x := fun hh => by have := hh.2.2; omega
            simp (disch := omega) only [li_0, li_1, li_2, li_3, li_4, li_5, li_6, li_7, li_8, li_9, li_10, li_11, li_12, li_13, li_14, li_15, li_16, li_17, li_18, li_19, li_20, li_21, li_31, li_32, li_33, li_40, li_41, li_43, li_48, li_57, li_59, li_60, li_61, li_62, li_64, li_97, li_99, li_100, li_101, li_102, li_112, li_119, li_126, li_189, li_255, li_300, li_369, li_400, li_999, li_5000, li_9999, li_12345, li_99999, li_1103515245, i2_add, i2_sub, i2_mul, i2_neg, i2_le, i2_lt, i2_eq, r_rz, r_ci, r_cx, r_cv, r_vx, r_cr, r_rx, dr_ci', dr_cv', dr_cr', dr_gr', dr_x0, ↓reduceIte, Int.reduceLE, Int.reduceLT, Int.reduceEq, Int.reduceNeg, Int.reduceAdd, Int.reduceSub, Int.reduceMul, vD_k hD, vD_r0 hD, vD_g1 hD, vD_p1 hD, vD_g2 hD, vD_p2 hD, vD_r3 hD, vD_g4 hD, vD_p4 hD, vD_r5 hD, vD_r6 hD, vD_r7 hD, vD_g8 hD, vD_p8 hD, vD_n1 hD, vD_a1 hD, vD_s1 hD, vD_n2 hD, vD_a2 hD, vD_s2 hD, vD_n3 hD, vD_a3 hD, vD_s3 hD, vD_n4 hD, vD_a4 hD, vD_s4 hD, vS_k hS, vS_r0 hS, vS_r1 hS, vS_r2 hS, vS_r3 hS, vS_r4 hS, vS_r5 hS, vS_r6 hS, vS_g7 hS, vS_p7 hS, vS_r8 hS, vS_r9 hS, vS_r10 hS, vS_r11 hS, vS_g12 hS, vS_p12 hS, vS_n1 hS, vS_a1 hS, vS_s1 hS, vS_n2 hS, vS_a2 hS, vS_s2 hS, vS_n3 hS, vS_a3 hS, vS_s3 hS, vS_n4 hS, vS_a4 hS, vS_s4 hS, vS_n5 hS, vS_a5 hS, vS_s5 hS, vS_n6 hS, vS_a6 hS, vS_s6 hS, vS_n7 hS, vS_a7 hS, vS_s7 hS, vS_n8 hS, vS_a8 hS, vS_s8 hS, vS_n9 hS, vS_a9 hS, vS_s9 hS, vS_n10 hS, vS_a10 hS, vS_s10 hS, vS_n11 hS, vS_a11 hS, vS_s11 hS, e2, hE, l2, e4, hdue, e5]
            exact no hn y rfl
          · have hy' : cev c d s t x := ⟨e3, e4, by omega⟩
            have hu := bdc_s1 c (j := j) (by omega) (by rw [← hx]; exact hy')
            rw [← hx] at hu
            simp (disch := omega) only [li_0, li_1, li_2, li_3, li_4, li_5, li_6, li_7, li_8, li_9, li_10, li_11, li_12, li_13, li_14, li_15, li_16, li_17, li_18, li_19, li_20, li_21, li_31, li_32, li_33, li_40, li_41, li_43, li_48, li_57, li_59, li_60, li_61, li_62, li_64, li_97, li_99, li_100, li_101, li_102, li_112, li_119, li_126, li_189, li_255, li_300, li_369, li_400, li_999, li_5000, li_9999, li_12345, li_99999, li_1103515245, i2_add, i2_sub, i2_mul, i2_neg, i2_le, i2_lt, i2_eq, r_rz, r_ci, r_cx, r_cv, r_vx, r_cr, r_rx, dr_ci', dr_cv', dr_cr', dr_gr', dr_x0, ↓reduceIte, Int.reduceLE, Int.reduceLT, Int.reduceEq, Int.reduceNeg, Int.reduceAdd, Int.reduceSub, Int.reduceMul, vD_k hD, vD_r0 hD, vD_g1 hD, vD_p1 hD, vD_g2 hD, vD_p2 hD, vD_r3 hD, vD_g4 hD, vD_p4 hD, vD_r5 hD, vD_r6 hD, vD_r7 hD, vD_g8 hD, vD_p8 hD, vD_n1 hD, vD_a1 hD, vD_s1 hD, vD_n2 hD, vD_a2 hD, vD_s2 hD, vD_n3 hD, vD_a3 hD, vD_s3 hD, vD_n4 hD, vD_a4 hD, vD_s4 hD, vS_k hS, vS_r0 hS, vS_r1 hS, vS_r2 hS, vS_r3 hS, vS_r4 hS, vS_r5 hS, vS_r6 hS, vS_g7 hS, vS_p7 hS, vS_r8 hS, vS_r9 hS, vS_r10 hS, vS_r11 hS, vS_g12 hS, vS_p12 hS, vS_n1 hS, vS_a1 hS, vS_s1 hS, vS_n2 hS, vS_a2 hS, vS_s2 hS, vS_n3 hS, vS_a3 hS, vS_s3 hS, vS_n4 hS, vS_a4 hS, vS_s4 hS, vS_n5 hS, vS_a5 hS, vS_s5 hS, vS_n6 hS, vS_a6 hS, vS_s6 hS, vS_n7 hS, vS_a7 hS, vS_s7 hS, vS_n8 hS, vS_a8 hS, vS_s8 hS, vS_n9 hS, vS_a9 hS, vS_s9 hS, vS_n10 hS, vS_a10 hS, vS_s10 hS, vS_n11 hS, vS_a11 hS, vS_s11 hS, e2, hE, l2, e4, hdue, e5, hu]
            have := ih m (j + 1) (x + 1) (y + 1) (by omega) (by rw [hs, hy, show bz (cev c d s t x) = 1 by unfold bz; rw [if_pos hy']]) (by omega) (by omega) (by omega)
            rw [show ((j + 1 : Nat) : Int) = x by omega] at this
            exact this
        · have hn : ¬ cev c d s t x := fun hh => e4 hh.2.1
          simp (disch := omega) only [li_0, li_1, li_2, li_3, li_4, li_5, li_6, li_7, li_8, li_9, li_10, li_11, li_12, li_13, li_14, li_15, li_16, li_17, li_18, li_19, li_20, li_21, li_31, li_32, li_33, li_40, li_41, li_43, li_48, li_57, li_59, li_60, li_61, li_62, li_64, li_97, li_99, li_100, li_101, li_102, li_112, li_119, li_126, li_189, li_255, li_300, li_369, li_400, li_999, li_5000, li_9999, li_12345, li_99999, li_1103515245, i2_add, i2_sub, i2_mul, i2_neg, i2_le, i2_lt, i2_eq, r_rz, r_ci, r_cx, r_cv, r_vx, r_cr, r_rx, dr_ci', dr_cv', dr_cr', dr_gr', dr_x0, ↓reduceIte, Int.reduceLE, Int.reduceLT, Int.reduceEq, Int.reduceNeg, Int.reduceAdd, Int.reduceSub, Int.reduceMul, vD_k hD, vD_r0 hD, vD_g1 hD, vD_p1 hD, vD_g2 hD, vD_p2 hD, vD_r3 hD, vD_g4 hD, vD_p4 hD, vD_r5 hD, vD_r6 hD, vD_r7 hD, vD_g8 hD, vD_p8 hD, vD_n1 hD, vD_a1 hD, vD_s1 hD, vD_n2 hD, vD_a2 hD, vD_s2 hD, vD_n3 hD, vD_a3 hD, vD_s3 hD, vD_n4 hD, vD_a4 hD, vD_s4 hD, vS_k hS, vS_r0 hS, vS_r1 hS, vS_r2 hS, vS_r3 hS, vS_r4 hS, vS_r5 hS, vS_r6 hS, vS_g7 hS, vS_p7 hS, vS_r8 hS, vS_r9 hS, vS_r10 hS, vS_r11 hS, vS_g12 hS, vS_p12 hS, vS_n1 hS, vS_a1 hS, vS_s1 hS, vS_n2 hS, vS_a2 hS, vS_s2 hS, vS_n3 hS, vS_a3 hS, vS_s3 hS, vS_n4 hS, vS_a4 hS, vS_s4 hS, vS_n5 hS, vS_a5 hS, vS_s5 hS, vS_n6 hS, vS_a6 hS, vS_s6 hS, vS_n7 hS, vS_a7 hS, vS_s7 hS, vS_n8 hS, vS_a8 hS, vS_s8 hS, vS_n9 hS, vS_a9 hS, vS_s9 hS, vS_n10 hS, vS_a10 hS, vS_s10 hS, vS_n11 hS, vS_a11 hS, vS_s11 hS, e2, hE, l2, e4]
          exact no hn y rfl
      · have hn : ¬ cev c d s t x := fun hh => e3 hh.1
        have eb : bz (1 ≤ x ∧ x ≤ 40 ∧ c (s + 1) x = 1) = 0 := by unfold bz; rw [if_neg (by omega)]
        rw [eb] at hE
        simp (disch := omega) only [li_0, li_1, li_2, li_3, li_4, li_5, li_6, li_7, li_8, li_9, li_10, li_11, li_12, li_13, li_14, li_15, li_16, li_17, li_18, li_19, li_20, li_21, li_31, li_32, li_33, li_40, li_41, li_43, li_48, li_57, li_59, li_60, li_61, li_62, li_64, li_97, li_99, li_100, li_101, li_102, li_112, li_119, li_126, li_189, li_255, li_300, li_369, li_400, li_999, li_5000, li_9999, li_12345, li_99999, li_1103515245, i2_add, i2_sub, i2_mul, i2_neg, i2_le, i2_lt, i2_eq, r_rz, r_ci, r_cx, r_cv, r_vx, r_cr, r_rx, dr_ci', dr_cv', dr_cr', dr_gr', dr_x0, ↓reduceIte, Int.reduceLE, Int.reduceLT, Int.reduceEq, Int.reduceNeg, Int.reduceAdd, Int.reduceSub, Int.reduceMul, vD_k hD, vD_r0 hD, vD_g1 hD, vD_p1 hD, vD_g2 hD, vD_p2 hD, vD_r3 hD, vD_g4 hD, vD_p4 hD, vD_r5 hD, vD_r6 hD, vD_r7 hD, vD_g8 hD, vD_p8 hD, vD_n1 hD, vD_a1 hD, vD_s1 hD, vD_n2 hD, vD_a2 hD, vD_s2 hD, vD_n3 hD, vD_a3 hD, vD_s3 hD, vD_n4 hD, vD_a4 hD, vD_s4 hD, vS_k hS, vS_r0 hS, vS_r1 hS, vS_r2 hS, vS_r3 hS, vS_r4 hS, vS_r5 hS, vS_r6 hS, vS_g7 hS, vS_p7 hS, vS_r8 hS, vS_r9 hS, vS_r10 hS, vS_r11 hS, vS_g12 hS, vS_p12 hS, vS_n1 hS, vS_a1 hS, vS_s1 hS, vS_n2 hS, vS_a2 hS, vS_s2 hS, vS_n3 hS, vS_a3 hS, vS_s3 hS, vS_n4 hS, vS_a4 hS, vS_s4 hS, vS_n5 hS, vS_a5 hS, vS_s5 hS, vS_n6 hS, vS_a6 hS, vS_s6 hS, vS_n7 hS, vS_a7 hS, vS_s7 hS, vS_n8 hS, vS_a8 hS, vS_s8 hS, vS_n9 hS, vS_a9 hS, vS_s9 hS, vS_n10 hS, vS_a10 hS, vS_s10 hS, vS_n11 hS, vS_a11 hS, vS_s11 hS, e2, hE]
        exact no hn y rfl
theorem c_begin {h : dr_AH} {c : Nat → Int → Int} {d s : Nat} (hD : LaD h d s) (hS : LaS h s) (hd : DS d s) (H : CH c d s) {t : Int} (t1 : 0 ≤ t - c d 1) (t2 : t ≤ 99999) :
    f_D_beginDueEvents d (i2 t) (wr h c) = some (.inl (some (.int (i2 (sm (fun n => bz (cev c d s (t - c d 1) n)) 40)))), wr h (up (bdc c d s (t - c d 1) 40) d 4 (c d 4 + sm (fun n => bz (cev c d s (t - c d 1) n)) 40))) := by
  have h1 := H.1
  have := c_beg11 hD hS hd H (t := t - c d 1) (by omega) (by omega) 40 dr_fu 0 1 0 (by omega) rfl (by omega) (by omega) (by decide)
  rw [show (((0 : Nat) : Int)) = 0 from rfl, bdc_0] at this
  unfold f_D_beginDueEvents f_D_drillSecond
  simp (disch := omega) only [li_0, li_1, li_2, li_3, li_4, li_5, li_6, li_7, li_8, li_9, li_10, li_11, li_12, li_13, li_14, li_15, li_16, li_17, li_18, li_19, li_20, li_21, li_31, li_32, li_33, li_40, li_41, li_43, li_48, li_57, li_59, li_60, li_61, li_62, li_64, li_97, li_99, li_100, li_101, li_102, li_112, li_119, li_126, li_189, li_255, li_300, li_369, li_400, li_999, li_5000, li_9999, li_12345, li_99999, li_1103515245, i2_add, i2_sub, i2_mul, i2_neg, i2_le, i2_lt, i2_eq, r_rz, r_ci, r_cx, r_cv, r_vx, r_cr, r_rx, dr_ci', dr_cv', dr_cr', dr_gr', dr_x0, ↓reduceIte, Int.reduceLE, Int.reduceLT, Int.reduceEq, Int.reduceNeg, Int.reduceAdd, Int.reduceSub, Int.reduceMul, vD_k hD, vD_r0 hD, vD_g1 hD, vD_p1 hD, vD_g2 hD, vD_p2 hD, vD_r3 hD, vD_g4 hD, vD_p4 hD, vD_r5 hD, vD_r6 hD, vD_r7 hD, vD_g8 hD, vD_p8 hD, vD_n1 hD, vD_a1 hD, vD_s1 hD, vD_n2 hD, vD_a2 hD, vD_s2 hD, vD_n3 hD, vD_a3 hD, vD_s3 hD, vD_n4 hD, vD_a4 hD, vD_s4 hD, this]
def cbc (c : Nat → Int → Int) (d : Nat) : Int := sm (fun n => bz (0 ≤ c (d + 1) n)) 40
theorem bdc_cbc {c : Nat → Int → Int} {d s : Nat} (H : CH c d s) (t : Int) : cbc (bdc c d s t 40) d = cbc c d + sm (fun n => bz (cev c d s t n)) 40 := by
  unfold cbc
  rw [← sm_add]
  refine sm_c 40 (fun i i1 i2 => ?_)
  by_cases e : cev c d s t i
  · have e1 : bdc c d s t 40 (d + 1) i = cdu c d s i := by
      unfold bdc; rw [if_pos ⟨rfl, by omega, by omega, e⟩]
    have e2 := e.2.1
    have e3 := cdu_r H i1 i2 e.1
    rw [e1]
    unfold bz
    rw [if_pos (by omega), if_neg (by omega), if_pos e]
    omega
  · have e1 : bdc c d s t 40 (d + 1) i = c (d + 1) i := by
      unfold bdc; rw [if_neg (fun hh => e hh.2.2.2)]
    have e3 : bz (cev c d s t i) = 0 := by unfold bz; rw [if_neg e]
    rw [e1, e3]
    omega
