/-! ===== read, as far as the cells that both have ===== -/
theorem bz_t [Decidable True] : bz True = 1 := by unfold bz; rw [if_pos trivial]
theorem bz_f [Decidable False] : bz False = 0 := by unfold bz; rw [if_neg (fun h => h)]
theorem tP_mk (c : Nat → Int → Int) (p w : Int) : up (up c 2 2 p) 2 3 w = tP c p w := by
  funext b i; unfold up tP; by_cases e : b = 2 <;> by_cases e2 : i = 2 <;> by_cases e3 : i = 3 <;> simp [e, e2, e3] <;> omega
theorem mP_mk (c : Nat → Int → Int) (p w : Int) : up (up c 31 5 p) 31 6 w = mP c p w := by
  funext b i; unfold up mP; by_cases e : b = 31 <;> by_cases e2 : i = 5 <;> by_cases e3 : i = 6 <;> simp [e, e2, e3] <;> omega
def filo (c : Nat → Int → Int) (a : Nat) (o j x : Int) : Nat → Int → Int := fun b i => if b = a ∧ o ≤ i ∧ i < o + j then x else c b i
theorem filo_s (c : Nat → Int → Int) (a : Nat) (o j x : Int) (h : 0 ≤ j) : up (filo c a o j x) a (o + j) x = filo c a o (j + 1) x := by
  funext b i; unfold up filo
  by_cases e : b = a
  · by_cases e2 : i = o + j
    · subst e2; rw [if_pos ⟨e, rfl⟩, if_pos ⟨e, by omega, by omega⟩]
    · rw [if_neg (fun hh => e2 hh.2)]
      by_cases e3 : o ≤ i ∧ i < o + j
      · rw [if_pos ⟨e, e3⟩, if_pos ⟨e, by omega, by omega⟩]
      · rw [if_neg (fun hh => e3 hh.2), if_neg (fun hh => e3 (by omega))]
  · rw [if_neg (fun hh => e hh.1), if_neg (fun hh => e hh.1), if_neg (fun hh => e hh.1)]
theorem filo_0 (c : Nat → Int → Int) (a : Nat) (o x : Int) : filo c a o 0 x = c := by
  funext b i; unfold filo; rw [if_neg (by omega)]
theorem m_read27 {h : dr_AH} {c : Nat → Int → Int} (hm : LaM h) : ∀ (f m : Nat) (j : Int), 0 ≤ j → j ≤ 21 → 21 - j ≤ f → f < m →
    f_M_read_27 m 31 (i2 j) (wr h (filo c 40 189 j 0)) = f_M_read_60 dr_fu 31 (wr h (mP (filo c 40 189 21 0) 0 (-1))) := by
  intro f
  induction f with
  | zero =>
    intro m j h1 h2 h3 h4
    obtain ⟨k, rfl⟩ : ∃ k, m = k + 1 := ⟨m - 1, by omega⟩
    have e : j = 21 := by omega
    unfold f_M_read_27
    simp (disch := omega) only [li_0, li_1, li_2, li_3, li_4, li_5, li_6, li_7, li_8, li_9, li_10, li_11, li_12, li_13, li_14, li_15, li_16, li_17, li_18, li_19, li_20, li_21, li_31, li_32, li_33, li_40, li_41, li_43, li_48, li_57, li_59, li_60, li_61, li_62, li_64, li_97, li_99, li_100, li_101, li_102, li_112, li_119, li_126, li_189, li_255, li_300, li_369, li_400, li_999, li_5000, li_9999, li_12345, li_99999, li_1103515245, i2_add, i2_sub, i2_mul, i2_neg, i2_le, i2_lt, i2_eq, r_rz, r_ci, r_cx, r_cv, r_vx, r_cr, r_rx, dr_ci', dr_cv', dr_cr', dr_gr', dr_x0, ↓reduceIte, Int.reduceLE, Int.reduceLT, Int.reduceEq, Int.reduceNeg, Int.reduceAdd, Int.reduceSub, Int.reduceMul, vM_k hm, vM_g0 hm, vM_p0 hm, vM_g1 hm, vM_p1 hm, vM_g2 hm, vM_p2 hm, vM_r3 hm, vM_g4 hm, vM_p4 hm, vM_g5 hm, vM_p5 hm, vM_g6 hm, vM_p6 hm, vM_r7 hm, vM_r8 hm, vM_r9 hm, vM_r10 hm, vM_r11 hm, vM_r12 hm, vM_r13 hm, vM_r14 hm, vM_r15 hm, vM_r16 hm, vM_r17 hm, vM_r18 hm, vM_g19 hm, vM_p19 hm, vM_r20 hm, vM_r21 hm, vM_r22 hm, vM_r23 hm, vM_r24 hm, vM_r25 hm, vM_r26 hm, vM_g27 hm, vM_p27 hm, vM_r28 hm, vM_r29 hm, vM_r30 hm, vM_r31 hm, vM_n32 hm, vM_a32 hm, vM_s32 hm, vM_n33 hm, vM_a33 hm, vM_s33 hm, vM_n34 hm, vM_a34 hm, vM_s34 hm, vM_n35 hm, vM_a35 hm, vM_s35 hm, vM_n36 hm, vM_a36 hm, vM_s36 hm, vM_n37 hm, vM_a37 hm, vM_s37 hm, vM_n38 hm, vM_a38 hm, vM_s38 hm, vM_n39 hm, vM_a39 hm, vM_s39 hm, vM_n40 hm, vM_a40 hm, vM_s40 hm, vM_n41 hm, vM_a41 hm, vM_s41 hm, vM_n42 hm, vM_a42 hm, vM_s42 hm, vM_n43 hm, vM_a43 hm, vM_s43 hm, vM_n44 hm, vM_a44 hm, vM_s44 hm, vM_n45 hm, vM_a45 hm, vM_s45 hm, vM_n46 hm, vM_a46 hm, vM_s46 hm, vM_n47 hm, vM_a47 hm, vM_s47 hm, vM_n48 hm, vM_a48 hm, vM_s48 hm, vM_n49 hm, vM_a49 hm, vM_s49 hm, vM_n50 hm, vM_a50 hm, vM_s50 hm, vM_n51 hm, vM_a51 hm, vM_s51 hm, vM_n52 hm, vM_a52 hm, vM_s52 hm, vM_n53 hm, vM_a53 hm, vM_s53 hm, vM_n54 hm, vM_a54 hm, vM_s54 hm, vM_n55 hm, vM_a55 hm, vM_s55 hm, e, mP_mk]
  | succ f ih =>
    intro m j h1 h2 h3 h4
    obtain ⟨k, rfl⟩ : ∃ k, m = k + 1 := ⟨m - 1, by omega⟩
    unfold f_M_read_27
    by_cases e : j = 21
    · simp (disch := omega) only [li_0, li_1, li_2, li_3, li_4, li_5, li_6, li_7, li_8, li_9, li_10, li_11, li_12, li_13, li_14, li_15, li_16, li_17, li_18, li_19, li_20, li_21, li_31, li_32, li_33, li_40, li_41, li_43, li_48, li_57, li_59, li_60, li_61, li_62, li_64, li_97, li_99, li_100, li_101, li_102, li_112, li_119, li_126, li_189, li_255, li_300, li_369, li_400, li_999, li_5000, li_9999, li_12345, li_99999, li_1103515245, i2_add, i2_sub, i2_mul, i2_neg, i2_le, i2_lt, i2_eq, r_rz, r_ci, r_cx, r_cv, r_vx, r_cr, r_rx, dr_ci', dr_cv', dr_cr', dr_gr', dr_x0, ↓reduceIte, Int.reduceLE, Int.reduceLT, Int.reduceEq, Int.reduceNeg, Int.reduceAdd, Int.reduceSub, Int.reduceMul, vM_k hm, vM_g0 hm, vM_p0 hm, vM_g1 hm, vM_p1 hm, vM_g2 hm, vM_p2 hm, vM_r3 hm, vM_g4 hm, vM_p4 hm, vM_g5 hm, vM_p5 hm, vM_g6 hm, vM_p6 hm, vM_r7 hm, vM_r8 hm, vM_r9 hm, vM_r10 hm, vM_r11 hm, vM_r12 hm, vM_r13 hm, vM_r14 hm, vM_r15 hm, vM_r16 hm, vM_r17 hm, vM_r18 hm, vM_g19 hm, vM_p19 hm, vM_r20 hm, vM_r21 hm, vM_r22 hm, vM_r23 hm, vM_r24 hm, vM_r25 hm, vM_r26 hm, vM_g27 hm, vM_p27 hm, vM_r28 hm, vM_r29 hm, vM_r30 hm, vM_r31 hm, vM_n32 hm, vM_a32 hm, vM_s32 hm, vM_n33 hm, vM_a33 hm, vM_s33 hm, vM_n34 hm, vM_a34 hm, vM_s34 hm, vM_n35 hm, vM_a35 hm, vM_s35 hm, vM_n36 hm, vM_a36 hm, vM_s36 hm, vM_n37 hm, vM_a37 hm, vM_s37 hm, vM_n38 hm, vM_a38 hm, vM_s38 hm, vM_n39 hm, vM_a39 hm, vM_s39 hm, vM_n40 hm, vM_a40 hm, vM_s40 hm, vM_n41 hm, vM_a41 hm, vM_s41 hm, vM_n42 hm, vM_a42 hm, vM_s42 hm, vM_n43 hm, vM_a43 hm, vM_s43 hm, vM_n44 hm, vM_a44 hm, vM_s44 hm, vM_n45 hm, vM_a45 hm, vM_s45 hm, vM_n46 hm, vM_a46 hm, vM_s46 hm, vM_n47 hm, vM_a47 hm, vM_s47 hm, vM_n48 hm, vM_a48 hm, vM_s48 hm, vM_n49 hm, vM_a49 hm, vM_s49 hm, vM_n50 hm, vM_a50 hm, vM_s50 hm, vM_n51 hm, vM_a51 hm, vM_s51 hm, vM_n52 hm, vM_a52 hm, vM_s52 hm, vM_n53 hm, vM_a53 hm, vM_s53 hm, vM_n54 hm, vM_a54 hm, vM_s54 hm, vM_n55 hm, vM_a55 hm, vM_s55 hm, e, mP_mk]
    · have e2 : ¬ ((21 : Int) ≤ j) := by omega
      simp (disch := omega) only [li_0, li_1, li_2, li_3, li_4, li_5, li_6, li_7, li_8, li_9, li_10, li_11, li_12, li_13, li_14, li_15, li_16, li_17, li_18, li_19, li_20, li_21, li_31, li_32, li_33, li_40, li_41, li_43, li_48, li_57, li_59, li_60, li_61, li_62, li_64, li_97, li_99, li_100, li_101, li_102, li_112, li_119, li_126, li_189, li_255, li_300, li_369, li_400, li_999, li_5000, li_9999, li_12345, li_99999, li_1103515245, i2_add, i2_sub, i2_mul, i2_neg, i2_le, i2_lt, i2_eq, r_rz, r_ci, r_cx, r_cv, r_vx, r_cr, r_rx, dr_ci', dr_cv', dr_cr', dr_gr', dr_x0, ↓reduceIte, Int.reduceLE, Int.reduceLT, Int.reduceEq, Int.reduceNeg, Int.reduceAdd, Int.reduceSub, Int.reduceMul, vM_k hm, vM_g0 hm, vM_p0 hm, vM_g1 hm, vM_p1 hm, vM_g2 hm, vM_p2 hm, vM_r3 hm, vM_g4 hm, vM_p4 hm, vM_g5 hm, vM_p5 hm, vM_g6 hm, vM_p6 hm, vM_r7 hm, vM_r8 hm, vM_r9 hm, vM_r10 hm, vM_r11 hm, vM_r12 hm, vM_r13 hm, vM_r14 hm, vM_r15 hm, vM_r16 hm, vM_r17 hm, vM_r18 hm, vM_g19 hm, vM_p19 hm, vM_r20 hm, vM_r21 hm, vM_r22 hm, vM_r23 hm, vM_r24 hm, vM_r25 hm, vM_r26 hm, vM_g27 hm, vM_p27 hm, vM_r28 hm, vM_r29 hm, vM_r30 hm, vM_r31 hm, vM_n32 hm, vM_a32 hm, vM_s32 hm, vM_n33 hm, vM_a33 hm, vM_s33 hm, vM_n34 hm, vM_a34 hm, vM_s34 hm, vM_n35 hm, vM_a35 hm, vM_s35 hm, vM_n36 hm, vM_a36 hm, vM_s36 hm, vM_n37 hm, vM_a37 hm, vM_s37 hm, vM_n38 hm, vM_a38 hm, vM_s38 hm, vM_n39 hm, vM_a39 hm, vM_s39 hm, vM_n40 hm, vM_a40 hm, vM_s40 hm, vM_n41 hm, vM_a41 hm, vM_s41 hm, vM_n42 hm, vM_a42 hm, vM_s42 hm, vM_n43 hm, vM_a43 hm, vM_s43 hm, vM_n44 hm, vM_a44 hm, vM_s44 hm, vM_n45 hm, vM_a45 hm, vM_s45 hm, vM_n46 hm, vM_a46 hm, vM_s46 hm, vM_n47 hm, vM_a47 hm, vM_s47 hm, vM_n48 hm, vM_a48 hm, vM_s48 hm, vM_n49 hm, vM_a49 hm, vM_s49 hm, vM_n50 hm, vM_a50 hm, vM_s50 hm, vM_n51 hm, vM_a51 hm, vM_s51 hm, vM_n52 hm, vM_a52 hm, vM_s52 hm, vM_n53 hm, vM_a53 hm, vM_s53 hm, vM_n54 hm, vM_a54 hm, vM_s54 hm, vM_n55 hm, vM_a55 hm, vM_s55 hm, e2, filo_s, ih]
theorem m_read2 {h : dr_AH} {c : Nat → Int → Int} (hm : LaM h) : ∀ (f m : Nat) (j : Int), 0 ≤ j → j ≤ 41 → 41 - j ≤ f → f < m →
    f_M_read_2 m 31 (i2 j) (wr h (filo c 33 369 j 0)) = f_M_read_60 dr_fu 31 (wr h (mP (filo (filo c 33 369 41 0) 40 189 21 0) 0 (-1))) := by
  have k27 := m_read27 (c := filo c 33 369 41 0) hm 21 dr_fu 0 (by omega) (by omega) (by omega) (by decide)
  rw [filo_0] at k27
  intro f
  induction f with
  | zero =>
    intro m j h1 h2 h3 h4
    obtain ⟨k, rfl⟩ : ∃ k, m = k + 1 := ⟨m - 1, by omega⟩
    have e : j = 41 := by omega
    unfold f_M_read_2
    simp (disch := omega) only [li_0, li_1, li_2, li_3, li_4, li_5, li_6, li_7, li_8, li_9, li_10, li_11, li_12, li_13, li_14, li_15, li_16, li_17, li_18, li_19, li_20, li_21, li_31, li_32, li_33, li_40, li_41, li_43, li_48, li_57, li_59, li_60, li_61, li_62, li_64, li_97, li_99, li_100, li_101, li_102, li_112, li_119, li_126, li_189, li_255, li_300, li_369, li_400, li_999, li_5000, li_9999, li_12345, li_99999, li_1103515245, i2_add, i2_sub, i2_mul, i2_neg, i2_le, i2_lt, i2_eq, r_rz, r_ci, r_cx, r_cv, r_vx, r_cr, r_rx, dr_ci', dr_cv', dr_cr', dr_gr', dr_x0, ↓reduceIte, Int.reduceLE, Int.reduceLT, Int.reduceEq, Int.reduceNeg, Int.reduceAdd, Int.reduceSub, Int.reduceMul, vM_k hm, vM_g0 hm, vM_p0 hm, vM_g1 hm, vM_p1 hm, vM_g2 hm, vM_p2 hm, vM_r3 hm, vM_g4 hm, vM_p4 hm, vM_g5 hm, vM_p5 hm, vM_g6 hm, vM_p6 hm, vM_r7 hm, vM_r8 hm, vM_r9 hm, vM_r10 hm, vM_r11 hm, vM_r12 hm, vM_r13 hm, vM_r14 hm, vM_r15 hm, vM_r16 hm, vM_r17 hm, vM_r18 hm, vM_g19 hm, vM_p19 hm, vM_r20 hm, vM_r21 hm, vM_r22 hm, vM_r23 hm, vM_r24 hm, vM_r25 hm, vM_r26 hm, vM_g27 hm, vM_p27 hm, vM_r28 hm, vM_r29 hm, vM_r30 hm, vM_r31 hm, vM_n32 hm, vM_a32 hm, vM_s32 hm, vM_n33 hm, vM_a33 hm, vM_s33 hm, vM_n34 hm, vM_a34 hm, vM_s34 hm, vM_n35 hm, vM_a35 hm, vM_s35 hm, vM_n36 hm, vM_a36 hm, vM_s36 hm, vM_n37 hm, vM_a37 hm, vM_s37 hm, vM_n38 hm, vM_a38 hm, vM_s38 hm, vM_n39 hm, vM_a39 hm, vM_s39 hm, vM_n40 hm, vM_a40 hm, vM_s40 hm, vM_n41 hm, vM_a41 hm, vM_s41 hm, vM_n42 hm, vM_a42 hm, vM_s42 hm, vM_n43 hm, vM_a43 hm, vM_s43 hm, vM_n44 hm, vM_a44 hm, vM_s44 hm, vM_n45 hm, vM_a45 hm, vM_s45 hm, vM_n46 hm, vM_a46 hm, vM_s46 hm, vM_n47 hm, vM_a47 hm, vM_s47 hm, vM_n48 hm, vM_a48 hm, vM_s48 hm, vM_n49 hm, vM_a49 hm, vM_s49 hm, vM_n50 hm, vM_a50 hm, vM_s50 hm, vM_n51 hm, vM_a51 hm, vM_s51 hm, vM_n52 hm, vM_a52 hm, vM_s52 hm, vM_n53 hm, vM_a53 hm, vM_s53 hm, vM_n54 hm, vM_a54 hm, vM_s54 hm, vM_n55 hm, vM_a55 hm, vM_s55 hm, e, k27]
  | succ f ih =>
    intro m j h1 h2 h3 h4
    obtain ⟨k, rfl⟩ : ∃ k, m = k + 1 := ⟨m - 1, by omega⟩
    unfold f_M_read_2
    by_cases e : j = 41
    · simp (disch := omega) only [li_0, li_1, li_2, li_3, li_4, li_5, li_6, li_7, li_8, li_9, li_10, li_11, li_12, li_13, li_14, li_15, li_16, li_17, li_18, li_19, li_20, li_21, li_31, li_32, li_33, li_40, li_41, li_43, li_48, li_57, li_59, li_60, li_61, li_62, li_64, li_97, li_99, li_100, li_101, li_102, li_112, li_119, li_126, li_189, li_255, li_300, li_369, li_400, li_999, li_5000, li_9999, li_12345, li_99999, li_1103515245, i2_add, i2_sub, i2_mul, i2_neg, i2_le, i2_lt, i2_eq, r_rz, r_ci, r_cx, r_cv, r_vx, r_cr, r_rx, dr_ci', dr_cv', dr_cr', dr_gr', dr_x0, ↓reduceIte, Int.reduceLE, Int.reduceLT, Int.reduceEq, Int.reduceNeg, Int.reduceAdd, Int.reduceSub, Int.reduceMul, vM_k hm, vM_g0 hm, vM_p0 hm, vM_g1 hm, vM_p1 hm, vM_g2 hm, vM_p2 hm, vM_r3 hm, vM_g4 hm, vM_p4 hm, vM_g5 hm, vM_p5 hm, vM_g6 hm, vM_p6 hm, vM_r7 hm, vM_r8 hm, vM_r9 hm, vM_r10 hm, vM_r11 hm, vM_r12 hm, vM_r13 hm, vM_r14 hm, vM_r15 hm, vM_r16 hm, vM_r17 hm, vM_r18 hm, vM_g19 hm, vM_p19 hm, vM_r20 hm, vM_r21 hm, vM_r22 hm, vM_r23 hm, vM_r24 hm, vM_r25 hm, vM_r26 hm, vM_g27 hm, vM_p27 hm, vM_r28 hm, vM_r29 hm, vM_r30 hm, vM_r31 hm, vM_n32 hm, vM_a32 hm, vM_s32 hm, vM_n33 hm, vM_a33 hm, vM_s33 hm, vM_n34 hm, vM_a34 hm, vM_s34 hm, vM_n35 hm, vM_a35 hm, vM_s35 hm, vM_n36 hm, vM_a36 hm, vM_s36 hm, vM_n37 hm, vM_a37 hm, vM_s37 hm, vM_n38 hm, vM_a38 hm, vM_s38 hm, vM_n39 hm, vM_a39 hm, vM_s39 hm, vM_n40 hm, vM_a40 hm, vM_s40 hm, vM_n41 hm, vM_a41 hm, vM_s41 hm, vM_n42 hm, vM_a42 hm, vM_s42 hm, vM_n43 hm, vM_a43 hm, vM_s43 hm, vM_n44 hm, vM_a44 hm, vM_s44 hm, vM_n45 hm, vM_a45 hm, vM_s45 hm, vM_n46 hm, vM_a46 hm, vM_s46 hm, vM_n47 hm, vM_a47 hm, vM_s47 hm, vM_n48 hm, vM_a48 hm, vM_s48 hm, vM_n49 hm, vM_a49 hm, vM_s49 hm, vM_n50 hm, vM_a50 hm, vM_s50 hm, vM_n51 hm, vM_a51 hm, vM_s51 hm, vM_n52 hm, vM_a52 hm, vM_s52 hm, vM_n53 hm, vM_a53 hm, vM_s53 hm, vM_n54 hm, vM_a54 hm, vM_s54 hm, vM_n55 hm, vM_a55 hm, vM_s55 hm, e, k27]
    · have e2 : ¬ ((41 : Int) ≤ j) := by omega
      simp (disch := omega) only [li_0, li_1, li_2, li_3, li_4, li_5, li_6, li_7, li_8, li_9, li_10, li_11, li_12, li_13, li_14, li_15, li_16, li_17, li_18, li_19, li_20, li_21, li_31, li_32, li_33, li_40, li_41, li_43, li_48, li_57, li_59, li_60, li_61, li_62, li_64, li_97, li_99, li_100, li_101, li_102, li_112, li_119, li_126, li_189, li_255, li_300, li_369, li_400, li_999, li_5000, li_9999, li_12345, li_99999, li_1103515245, i2_add, i2_sub, i2_mul, i2_neg, i2_le, i2_lt, i2_eq, r_rz, r_ci, r_cx, r_cv, r_vx, r_cr, r_rx, dr_ci', dr_cv', dr_cr', dr_gr', dr_x0, ↓reduceIte, Int.reduceLE, Int.reduceLT, Int.reduceEq, Int.reduceNeg, Int.reduceAdd, Int.reduceSub, Int.reduceMul, vM_k hm, vM_g0 hm, vM_p0 hm, vM_g1 hm, vM_p1 hm, vM_g2 hm, vM_p2 hm, vM_r3 hm, vM_g4 hm, vM_p4 hm, vM_g5 hm, vM_p5 hm, vM_g6 hm, vM_p6 hm, vM_r7 hm, vM_r8 hm, vM_r9 hm, vM_r10 hm, vM_r11 hm, vM_r12 hm, vM_r13 hm, vM_r14 hm, vM_r15 hm, vM_r16 hm, vM_r17 hm, vM_r18 hm, vM_g19 hm, vM_p19 hm, vM_r20 hm, vM_r21 hm, vM_r22 hm, vM_r23 hm, vM_r24 hm, vM_r25 hm, vM_r26 hm, vM_g27 hm, vM_p27 hm, vM_r28 hm, vM_r29 hm, vM_r30 hm, vM_r31 hm, vM_n32 hm, vM_a32 hm, vM_s32 hm, vM_n33 hm, vM_a33 hm, vM_s33 hm, vM_n34 hm, vM_a34 hm, vM_s34 hm, vM_n35 hm, vM_a35 hm, vM_s35 hm, vM_n36 hm, vM_a36 hm, vM_s36 hm, vM_n37 hm, vM_a37 hm, vM_s37 hm, vM_n38 hm, vM_a38 hm, vM_s38 hm, vM_n39 hm, vM_a39 hm, vM_s39 hm, vM_n40 hm, vM_a40 hm, vM_s40 hm, vM_n41 hm, vM_a41 hm, vM_s41 hm, vM_n42 hm, vM_a42 hm, vM_s42 hm, vM_n43 hm, vM_a43 hm, vM_s43 hm, vM_n44 hm, vM_a44 hm, vM_s44 hm, vM_n45 hm, vM_a45 hm, vM_s45 hm, vM_n46 hm, vM_a46 hm, vM_s46 hm, vM_n47 hm, vM_a47 hm, vM_s47 hm, vM_n48 hm, vM_a48 hm, vM_s48 hm, vM_n49 hm, vM_a49 hm, vM_s49 hm, vM_n50 hm, vM_a50 hm, vM_s50 hm, vM_n51 hm, vM_a51 hm, vM_s51 hm, vM_n52 hm, vM_a52 hm, vM_s52 hm, vM_n53 hm, vM_a53 hm, vM_s53 hm, vM_n54 hm, vM_a54 hm, vM_s54 hm, vM_n55 hm, vM_a55 hm, vM_s55 hm, e2, filo_s, ih]
theorem rd_pair {h : dr_AH} {h' : dr_AH} {t : Int → Int} {l : Int} {s : Nat} (hT : LaT h) (hS : LaS h s) (hs : 4 ≤ s) (hm : LaM h') {c c' : Nat → Int → Int} (tl : tTL c t l) (ml : mTL c' t l) (hb : mB c') :
    ∃ c2 p2 w2 c2' q2, f_T_parseInto 2 s (wr h c) = some (.inl (some (.int (i2 w2))), wr h (up (tP c2 p2 w2) 2 1 0))
      ∧ f_M_read 31 (wr h' c') = f_M_read_117 31 (wr h' (mP c2' q2 w2))
      ∧ -1 ≤ w2 ∧ w2 ≤ 300 ∧ fS s c c2 ∧ f9 c' c2' ∧ mB c2' ∧ (w2 < 0 → SRel c2 s c2' 369 189) := by
  have t3 := tl.2.2.1
  have t4 := tl.2.2.2.1
  have hF : fS s c (up (fil (fil c (s + 1) 41 0) (s + 11) 21 0) s 7 0) := by
    intro a j h
    unfold up fil
    repeat' rw [if_neg (by omega)]
  have h9 : f9 c' (filo (filo c' 33 369 41 0) 40 189 21 0) := by
    intro a j h
    unfold filo
    repeat' rw [if_neg (by omega)]
  have hB : mB (filo (filo c' 33 369 41 0) 40 189 21 0) := by
    intro j
    have := hb j
    unfold filo
    refine ⟨?_, ?_, ?_⟩ <;> simp <;> (try split) <;> omega
  have hR : SRel (up (fil (fil c (s + 1) 41 0) (s + 11) 21 0) s 7 0) s (filo (filo c' 33 369 41 0) 40 189 21 0) 369 189 := by
    have q1 : ∀ n : Int, 0 ≤ n → n ≤ 40 → up (fil (fil c (s + 1) 41 0) (s + 11) 21 0) s 7 0 (s + 1) n = 0 := by
      intro n n1 n2
      unfold up fil
      rw [if_neg (by omega), if_neg (by omega), if_pos (by omega)]
    have q2 : ∀ n : Int, 0 ≤ n → n ≤ 20 → up (fil (fil c (s + 1) 41 0) (s + 11) 21 0) s 7 0 (s + 11) n = 0 := by
      intro n n1 n2
      unfold up fil
      rw [if_neg (by omega), if_pos (by omega)]
    refine ⟨fun n n1 n2 => ?_, fun n n1 n2 => ?_, ?_, q2 0 (by omega) (by omega)⟩
    · have e1 : filo (filo c' 33 369 41 0) 40 189 21 0 33 (369 + n) = 0 := by
        unfold filo
        rw [if_neg (by omega), if_pos (by omega)]
      unfold sE
      rw [q1 n (by omega) n2, e1]
      exact ⟨rfl, by omega, by omega, fun hh => by omega⟩
    · have e1 : filo (filo c' 33 369 41 0) 40 189 21 0 40 (189 + n) = 0 := by
        unfold filo
        rw [if_pos (by omega)]
      unfold sW
      rw [q2 n (by omega) n2, e1]
      exact ⟨by omega, by omega, rfl, fun hh => by omega⟩
    · rw [up_same, sm_c (g := fun _ => 0) 40 (fun i i1 i2 => q1 i (by omega) (by omega))]
      rfl
  have hK := KK_b hR
  have hsk := sk_rr (t := t) (l := l) (p := 0) (by omega) (by omega)
  obtain ⟨c2, p2, w2, c2', q2, k1, k2, k3, k4, k5, k6, k7, k8⟩ := rd_loop (t := t) (l := l) hT hS hs hm 60 dr_fu dr_fu 0 (sk t l 300 0) (-1) 0 _ _ (fS_t hs hF tl) (f9_t h9 ml) hB (by omega) (by omega) hsk.1 hsk.2 (by omega) (by omega) (by omega) (by omega) (fun _ => ⟨hR, by omega, by omega, rfl⟩) (by decide) (by decide)
  refine ⟨c2, p2, w2, c2', q2, ?_, ?_, k3, k4, fS_tr hF k5, f9_tr h9 k6, k7, k8⟩
  · unfold f_T_parseInto
    simp (disch := omega) only [li_0, li_1, li_2, li_3, li_4, li_5, li_6, li_7, li_8, li_9, li_10, li_11, li_12, li_13, li_14, li_15, li_16, li_17, li_18, li_19, li_20, li_21, li_31, li_32, li_33, li_40, li_41, li_43, li_48, li_57, li_59, li_60, li_61, li_62, li_64, li_97, li_99, li_100, li_101, li_102, li_112, li_119, li_126, li_189, li_255, li_300, li_369, li_400, li_999, li_5000, li_9999, li_12345, li_99999, li_1103515245, i2_add, i2_sub, i2_mul, i2_neg, i2_le, i2_lt, i2_eq, r_rz, r_ci, r_cx, r_cv, r_vx, r_cr, r_rx, dr_ci', dr_cv', dr_cr', dr_gr', dr_x0, ↓reduceIte, Int.reduceLE, Int.reduceLT, Int.reduceEq, Int.reduceNeg, Int.reduceAdd, Int.reduceSub, Int.reduceMul, vT_k hT, vT_r0 hT, vT_g1 hT, vT_p1 hT, vT_g2 hT, vT_p2 hT, vT_g3 hT, vT_p3 hT, vT_n3 hT, vT_a3 hT, vT_s3 hT, vS_k hS, vS_r0 hS, vS_r1 hS, vS_r2 hS, vS_r3 hS, vS_r4 hS, vS_r5 hS, vS_r6 hS, vS_g7 hS, vS_p7 hS, vS_r8 hS, vS_r9 hS, vS_r10 hS, vS_r11 hS, vS_g12 hS, vS_p12 hS, vS_n1 hS, vS_a1 hS, vS_s1 hS, vS_n2 hS, vS_a2 hS, vS_s2 hS, vS_n3 hS, vS_a3 hS, vS_s3 hS, vS_n4 hS, vS_a4 hS, vS_s4 hS, vS_n5 hS, vS_a5 hS, vS_s5 hS, vS_n6 hS, vS_a6 hS, vS_s6 hS, vS_n7 hS, vS_a7 hS, vS_s7 hS, vS_n8 hS, vS_a8 hS, vS_s8 hS, vS_n9 hS, vS_a9 hS, vS_s9 hS, vS_n10 hS, vS_a10 hS, vS_s10 hS, vS_n11 hS, vS_a11 hS, vS_s11 hS, s_clear hS, tP_mk, t_skip hT (fS_t hs hF tl), k1]
  · unfold f_M_read
    have := m_read2 (c := c') hm 41 dr_fu 0 (by omega) (by omega) (by omega) (by decide)
    rw [filo_0] at this
    rw [li_0, this, k2]
/-! copying a script in the reference -/
def cpe (c : Nat → Int → Int) (f t n : Int) : Nat → Int → Int := fun a i => if 33 ≤ a ∧ a ≤ 39 ∧ t * 41 ≤ i ∧ i < t * 41 + n then c a (i - t * 41 + f * 41) else c a i
def cpa (c : Nat → Int → Int) (f t n : Int) : Nat → Int → Int := fun a i => if 40 ≤ a ∧ a ≤ 44 ∧ t * 21 ≤ i ∧ i < t * 21 + n then c a (i - t * 21 + f * 21) else c a i
theorem cpe_0 (c : Nat → Int → Int) (f t : Int) : cpe c f t 0 = c := by
  funext b i; unfold cpe; rw [if_neg (by omega)]
theorem cpa_0 (c : Nat → Int → Int) (f t : Int) : cpa c f t 0 = c := by
  funext b i; unfold cpa; rw [if_neg (by omega)]
theorem cpe_r (c : Nat → Int → Int) {f t n : Int} (h : f ≠ t) (h0 : 0 ≤ n) (h1 : n ≤ 40) (a : Nat) : cpe c f t n a (f * 41 + n) = c a (f * 41 + n) := by
  unfold cpe
  by_cases e : 33 ≤ a ∧ a ≤ 39 ∧ t * 41 ≤ f * 41 + n ∧ f * 41 + n < t * 41 + n
  · omega
  · rw [if_neg e]
theorem cpa_r (c : Nat → Int → Int) {f t n : Int} (h : f ≠ t) (h0 : 0 ≤ n) (h1 : n ≤ 20) (a : Nat) : cpa c f t n a (f * 21 + n) = c a (f * 21 + n) := by
  unfold cpa
  by_cases e : 40 ≤ a ∧ a ≤ 44 ∧ t * 21 ≤ f * 21 + n ∧ f * 21 + n < t * 21 + n
  · omega
  · rw [if_neg e]
theorem cpe_s (c : Nat → Int → Int) {f t n : Int} (h0 : 0 ≤ n) : up (up (up (up (up (up (up (cpe c f t n) 33 (t * 41 + n) (c 33 (f * 41 + n))) 34 (t * 41 + n) (c 34 (f * 41 + n))) 35 (t * 41 + n) (c 35 (f * 41 + n))) 36 (t * 41 + n) (c 36 (f * 41 + n))) 37 (t * 41 + n) (c 37 (f * 41 + n))) 38 (t * 41 + n) (c 38 (f * 41 + n))) 39 (t * 41 + n) (c 39 (f * 41 + n)) = cpe c f t (n + 1) := by
  funext a i
  by_cases ei : i = t * 41 + n
  · have e2 : i - t * 41 + f * 41 = f * 41 + n := by omega
    have : (a < 33 ∨ 39 < a) ∨ a = 33 ∨ a = 34 ∨ a = 35 ∨ a = 36 ∨ a = 37 ∨ a = 38 ∨ a = 39 := by omega
    rcases this with h | h | h | h | h | h | h | h
    · unfold up cpe
      repeat' rw [if_neg (by omega)]
    all_goals (subst h; simp [up, cpe, ei, h0]; try rw [if_pos (by omega)]; try congr 1; try omega)
  · unfold up cpe
    rw [if_neg (by omega), if_neg (by omega), if_neg (by omega), if_neg (by omega), if_neg (by omega), if_neg (by omega), if_neg (by omega)]
    by_cases e : 33 ≤ a ∧ a ≤ 39 ∧ t * 41 ≤ i ∧ i < t * 41 + n
    · rw [if_pos e, if_pos (by omega)]
    · rw [if_neg e, if_neg (by omega)]
theorem cpa_s (c : Nat → Int → Int) {f t n : Int} (h0 : 0 ≤ n) : up (up (up (up (up (cpa c f t n) 40 (t * 21 + n) (c 40 (f * 21 + n))) 41 (t * 21 + n) (c 41 (f * 21 + n))) 42 (t * 21 + n) (c 42 (f * 21 + n))) 43 (t * 21 + n) (c 43 (f * 21 + n))) 44 (t * 21 + n) (c 44 (f * 21 + n)) = cpa c f t (n + 1) := by
  funext a i
  by_cases ei : i = t * 21 + n
  · have e2 : i - t * 21 + f * 21 = f * 21 + n := by omega
    have : (a < 40 ∨ 44 < a) ∨ a = 40 ∨ a = 41 ∨ a = 42 ∨ a = 43 ∨ a = 44 := by omega
    rcases this with h | h | h | h | h | h
    · unfold up cpa
      repeat' rw [if_neg (by omega)]
    all_goals (subst h; simp [up, cpa, ei, h0]; try rw [if_pos (by omega)]; try congr 1; try omega)
  · unfold up cpa
    rw [if_neg (by omega), if_neg (by omega), if_neg (by omega), if_neg (by omega), if_neg (by omega)]
    by_cases e : 40 ≤ a ∧ a ≤ 44 ∧ t * 21 ≤ i ∧ i < t * 21 + n
    · rw [if_pos e, if_pos (by omega)]
    · rw [if_neg e, if_neg (by omega)]
theorem m_copy130 {h : dr_AH} {c : Nat → Int → Int} (hm : LaM h) (hb : mB c) {f t : Int} (hf : f ≠ t) (f0 : 0 ≤ f) (f1 : f < 10) (t0 : 0 ≤ t) (t1 : t < 10) : ∀ (k m : Nat) (n : Int), 0 ≤ n → n ≤ 21 → 21 - n ≤ k → k < m →
    f_M_copy_130 m 31 (i2 f) (i2 t) (i2 n) (wr h (cpa c f t n)) = some (.inl none, wr h (cpa c f t 21)) := by
  intro k
  induction k with
  | zero =>
    intro m n h1 h2 h3 h4
    obtain ⟨m, rfl⟩ : ∃ k, m = k + 1 := ⟨m - 1, by omega⟩
    have e : n = 21 := by omega
    unfold f_M_copy_130
    simp (disch := omega) only [li_0, li_1, li_2, li_3, li_4, li_5, li_6, li_7, li_8, li_9, li_10, li_11, li_12, li_13, li_14, li_15, li_16, li_17, li_18, li_19, li_20, li_21, li_31, li_32, li_33, li_40, li_41, li_43, li_48, li_57, li_59, li_60, li_61, li_62, li_64, li_97, li_99, li_100, li_101, li_102, li_112, li_119, li_126, li_189, li_255, li_300, li_369, li_400, li_999, li_5000, li_9999, li_12345, li_99999, li_1103515245, i2_add, i2_sub, i2_mul, i2_neg, i2_le, i2_lt, i2_eq, r_rz, r_ci, r_cx, r_cv, r_vx, r_cr, r_rx, dr_ci', dr_cv', dr_cr', dr_gr', dr_x0, ↓reduceIte, Int.reduceLE, Int.reduceLT, Int.reduceEq, Int.reduceNeg, Int.reduceAdd, Int.reduceSub, Int.reduceMul, e]
  | succ k ih =>
    intro m n h1 h2 h3 h4
    obtain ⟨m, rfl⟩ : ∃ k, m = k + 1 := ⟨m - 1, by omega⟩
    unfold f_M_copy_130
    by_cases e : n = 21
    · simp (disch := omega) only [li_0, li_1, li_2, li_3, li_4, li_5, li_6, li_7, li_8, li_9, li_10, li_11, li_12, li_13, li_14, li_15, li_16, li_17, li_18, li_19, li_20, li_21, li_31, li_32, li_33, li_40, li_41, li_43, li_48, li_57, li_59, li_60, li_61, li_62, li_64, li_97, li_99, li_100, li_101, li_102, li_112, li_119, li_126, li_189, li_255, li_300, li_369, li_400, li_999, li_5000, li_9999, li_12345, li_99999, li_1103515245, i2_add, i2_sub, i2_mul, i2_neg, i2_le, i2_lt, i2_eq, r_rz, r_ci, r_cx, r_cv, r_vx, r_cr, r_rx, dr_ci', dr_cv', dr_cr', dr_gr', dr_x0, ↓reduceIte, Int.reduceLE, Int.reduceLT, Int.reduceEq, Int.reduceNeg, Int.reduceAdd, Int.reduceSub, Int.reduceMul, e]
    · have e2 : ¬ ((21 : Int) ≤ n) := by omega
      have b1 := (hb (f * 21 + n)).2.2
      simp (disch := omega) only [li_0, li_1, li_2, li_3, li_4, li_5, li_6, li_7, li_8, li_9, li_10, li_11, li_12, li_13, li_14, li_15, li_16, li_17, li_18, li_19, li_20, li_21, li_31, li_32, li_33, li_40, li_41, li_43, li_48, li_57, li_59, li_60, li_61, li_62, li_64, li_97, li_99, li_100, li_101, li_102, li_112, li_119, li_126, li_189, li_255, li_300, li_369, li_400, li_999, li_5000, li_9999, li_12345, li_99999, li_1103515245, i2_add, i2_sub, i2_mul, i2_neg, i2_le, i2_lt, i2_eq, r_rz, r_ci, r_cx, r_cv, r_vx, r_cr, r_rx, dr_ci', dr_cv', dr_cr', dr_gr', dr_x0, ↓reduceIte, Int.reduceLE, Int.reduceLT, Int.reduceEq, Int.reduceNeg, Int.reduceAdd, Int.reduceSub, Int.reduceMul, vM_k hm, vM_g0 hm, vM_p0 hm, vM_g1 hm, vM_p1 hm, vM_g2 hm, vM_p2 hm, vM_r3 hm, vM_g4 hm, vM_p4 hm, vM_g5 hm, vM_p5 hm, vM_g6 hm, vM_p6 hm, vM_r7 hm, vM_r8 hm, vM_r9 hm, vM_r10 hm, vM_r11 hm, vM_r12 hm, vM_r13 hm, vM_r14 hm, vM_r15 hm, vM_r16 hm, vM_r17 hm, vM_r18 hm, vM_g19 hm, vM_p19 hm, vM_r20 hm, vM_r21 hm, vM_r22 hm, vM_r23 hm, vM_r24 hm, vM_r25 hm, vM_r26 hm, vM_g27 hm, vM_p27 hm, vM_r28 hm, vM_r29 hm, vM_r30 hm, vM_r31 hm, vM_n32 hm, vM_a32 hm, vM_s32 hm, vM_n33 hm, vM_a33 hm, vM_s33 hm, vM_n34 hm, vM_a34 hm, vM_s34 hm, vM_n35 hm, vM_a35 hm, vM_s35 hm, vM_n36 hm, vM_a36 hm, vM_s36 hm, vM_n37 hm, vM_a37 hm, vM_s37 hm, vM_n38 hm, vM_a38 hm, vM_s38 hm, vM_n39 hm, vM_a39 hm, vM_s39 hm, vM_n40 hm, vM_a40 hm, vM_s40 hm, vM_n41 hm, vM_a41 hm, vM_s41 hm, vM_n42 hm, vM_a42 hm, vM_s42 hm, vM_n43 hm, vM_a43 hm, vM_s43 hm, vM_n44 hm, vM_a44 hm, vM_s44 hm, vM_n45 hm, vM_a45 hm, vM_s45 hm, vM_n46 hm, vM_a46 hm, vM_s46 hm, vM_n47 hm, vM_a47 hm, vM_s47 hm, vM_n48 hm, vM_a48 hm, vM_s48 hm, vM_n49 hm, vM_a49 hm, vM_s49 hm, vM_n50 hm, vM_a50 hm, vM_s50 hm, vM_n51 hm, vM_a51 hm, vM_s51 hm, vM_n52 hm, vM_a52 hm, vM_s52 hm, vM_n53 hm, vM_a53 hm, vM_s53 hm, vM_n54 hm, vM_a54 hm, vM_s54 hm, vM_n55 hm, vM_a55 hm, vM_s55 hm, e2, up_a, cpa_r c hf h1 (show n ≤ 20 by omega), cpa_s, ih]
theorem m_copy2 {h : dr_AH} {c : Nat → Int → Int} (hm : LaM h) (hb : mB c) {f t : Int} (hf : f ≠ t) (f0 : 0 ≤ f) (f1 : f < 10) (t0 : 0 ≤ t) (t1 : t < 10) : ∀ (k m : Nat) (n : Int), 0 ≤ n → n ≤ 41 → 41 - n ≤ k → k < m →
    f_M_copy_2 m 31 (i2 f) (i2 t) (i2 n) (wr h (cpe c f t n)) = some (.inl none, wr h (cpa (cpe c f t 41) f t 21)) := by
  have hb2 : mB (cpe c f t 41) := by
    intro j
    have q1 := hb j
    have q2 := hb (j - t * 41 + f * 41)
    unfold cpe
    refine ⟨?_, ?_, ?_⟩
    · split <;> omega
    · split <;> omega
    · rw [if_neg (by omega)]; omega
  have q := m_copy130 hm hb2 hf f0 f1 t0 t1 21 dr_fu 0 (by omega) (by omega) (by omega) (by decide)
  rw [cpa_0] at q
  intro k
  induction k with
  | zero =>
    intro m n h1 h2 h3 h4
    obtain ⟨m, rfl⟩ : ∃ k, m = k + 1 := ⟨m - 1, by omega⟩
    have e : n = 41 := by omega
    unfold f_M_copy_2
    simp (disch := omega) only [li_0, li_1, li_2, li_3, li_4, li_5, li_6, li_7, li_8, li_9, li_10, li_11, li_12, li_13, li_14, li_15, li_16, li_17, li_18, li_19, li_20, li_21, li_31, li_32, li_33, li_40, li_41, li_43, li_48, li_57, li_59, li_60, li_61, li_62, li_64, li_97, li_99, li_100, li_101, li_102, li_112, li_119, li_126, li_189, li_255, li_300, li_369, li_400, li_999, li_5000, li_9999, li_12345, li_99999, li_1103515245, i2_add, i2_sub, i2_mul, i2_neg, i2_le, i2_lt, i2_eq, r_rz, r_ci, r_cx, r_cv, r_vx, r_cr, r_rx, dr_ci', dr_cv', dr_cr', dr_gr', dr_x0, ↓reduceIte, Int.reduceLE, Int.reduceLT, Int.reduceEq, Int.reduceNeg, Int.reduceAdd, Int.reduceSub, Int.reduceMul, e, q]
  | succ k ih =>
    intro m n h1 h2 h3 h4
    obtain ⟨m, rfl⟩ : ∃ k, m = k + 1 := ⟨m - 1, by omega⟩
    unfold f_M_copy_2
    by_cases e : n = 41
    · simp (disch := omega) only [li_0, li_1, li_2, li_3, li_4, li_5, li_6, li_7, li_8, li_9, li_10, li_11, li_12, li_13, li_14, li_15, li_16, li_17, li_18, li_19, li_20, li_21, li_31, li_32, li_33, li_40, li_41, li_43, li_48, li_57, li_59, li_60, li_61, li_62, li_64, li_97, li_99, li_100, li_101, li_102, li_112, li_119, li_126, li_189, li_255, li_300, li_369, li_400, li_999, li_5000, li_9999, li_12345, li_99999, li_1103515245, i2_add, i2_sub, i2_mul, i2_neg, i2_le, i2_lt, i2_eq, r_rz, r_ci, r_cx, r_cv, r_vx, r_cr, r_rx, dr_ci', dr_cv', dr_cr', dr_gr', dr_x0, ↓reduceIte, Int.reduceLE, Int.reduceLT, Int.reduceEq, Int.reduceNeg, Int.reduceAdd, Int.reduceSub, Int.reduceMul, e, q]
    · have e2 : ¬ ((41 : Int) ≤ n) := by omega
      have b1 := (hb (f * 41 + n)).1
      have b2 := (hb (f * 41 + n)).2.1
      simp (disch := omega) only [li_0, li_1, li_2, li_3, li_4, li_5, li_6, li_7, li_8, li_9, li_10, li_11, li_12, li_13, li_14, li_15, li_16, li_17, li_18, li_19, li_20, li_21, li_31, li_32, li_33, li_40, li_41, li_43, li_48, li_57, li_59, li_60, li_61, li_62, li_64, li_97, li_99, li_100, li_101, li_102, li_112, li_119, li_126, li_189, li_255, li_300, li_369, li_400, li_999, li_5000, li_9999, li_12345, li_99999, li_1103515245, i2_add, i2_sub, i2_mul, i2_neg, i2_le, i2_lt, i2_eq, r_rz, r_ci, r_cx, r_cv, r_vx, r_cr, r_rx, dr_ci', dr_cv', dr_cr', dr_gr', dr_x0, ↓reduceIte, Int.reduceLE, Int.reduceLT, Int.reduceEq, Int.reduceNeg, Int.reduceAdd, Int.reduceSub, Int.reduceMul, vM_k hm, vM_g0 hm, vM_p0 hm, vM_g1 hm, vM_p1 hm, vM_g2 hm, vM_p2 hm, vM_r3 hm, vM_g4 hm, vM_p4 hm, vM_g5 hm, vM_p5 hm, vM_g6 hm, vM_p6 hm, vM_r7 hm, vM_r8 hm, vM_r9 hm, vM_r10 hm, vM_r11 hm, vM_r12 hm, vM_r13 hm, vM_r14 hm, vM_r15 hm, vM_r16 hm, vM_r17 hm, vM_r18 hm, vM_g19 hm, vM_p19 hm, vM_r20 hm, vM_r21 hm, vM_r22 hm, vM_r23 hm, vM_r24 hm, vM_r25 hm, vM_r26 hm, vM_g27 hm, vM_p27 hm, vM_r28 hm, vM_r29 hm, vM_r30 hm, vM_r31 hm, vM_n32 hm, vM_a32 hm, vM_s32 hm, vM_n33 hm, vM_a33 hm, vM_s33 hm, vM_n34 hm, vM_a34 hm, vM_s34 hm, vM_n35 hm, vM_a35 hm, vM_s35 hm, vM_n36 hm, vM_a36 hm, vM_s36 hm, vM_n37 hm, vM_a37 hm, vM_s37 hm, vM_n38 hm, vM_a38 hm, vM_s38 hm, vM_n39 hm, vM_a39 hm, vM_s39 hm, vM_n40 hm, vM_a40 hm, vM_s40 hm, vM_n41 hm, vM_a41 hm, vM_s41 hm, vM_n42 hm, vM_a42 hm, vM_s42 hm, vM_n43 hm, vM_a43 hm, vM_s43 hm, vM_n44 hm, vM_a44 hm, vM_s44 hm, vM_n45 hm, vM_a45 hm, vM_s45 hm, vM_n46 hm, vM_a46 hm, vM_s46 hm, vM_n47 hm, vM_a47 hm, vM_s47 hm, vM_n48 hm, vM_a48 hm, vM_s48 hm, vM_n49 hm, vM_a49 hm, vM_s49 hm, vM_n50 hm, vM_a50 hm, vM_s50 hm, vM_n51 hm, vM_a51 hm, vM_s51 hm, vM_n52 hm, vM_a52 hm, vM_s52 hm, vM_n53 hm, vM_a53 hm, vM_s53 hm, vM_n54 hm, vM_a54 hm, vM_s54 hm, vM_n55 hm, vM_a55 hm, vM_s55 hm, e2, up_a, cpe_r c hf h1 (show n ≤ 40 by omega), cpe_s, ih]
theorem m_copy {h : dr_AH} {c : Nat → Int → Int} (hm : LaM h) (hb : mB c) {f t : Int} (hf : f ≠ t) (f0 : 0 ≤ f) (f1 : f < 10) (t0 : 0 ≤ t) (t1 : t < 10) : f_M_copy 31 (i2 f) (i2 t) (wr h c) = some (.inl none, wr h (cpa (cpe c f t 41) f t 21)) := by
  have q := m_copy2 hm hb hf f0 f1 t0 t1 41 dr_fu 0 (by omega) (by omega) (by omega) (by decide)
  rw [cpe_0] at q
  unfold f_M_copy
  rw [li_0, q]
theorem m_size4 {h : dr_AH} {c : Nat → Int → Int} (hm : LaM h) (hb : mB c) {s : Int} (s0 : 0 ≤ s) (s1 : s < 10) : ∀ (k m j : Nat) (x y : Int), x = (j : Int) + 1 → y = sm (fun n => c 33 (s * 41 + n)) j → j ≤ 40 → 40 - j ≤ k → k < m →
    f_M_size_4 m 31 (i2 s) (i2 y) (i2 x) (wr h c) = some (.inl (some (.int (i2 (sm (fun n => c 33 (s * 41 + n)) 40)))), wr h c) := by
  intro k
  induction k with
  | zero =>
    intro m j x y hx hy h1 h2 h3
    obtain ⟨m, rfl⟩ : ∃ k, m = k + 1 := ⟨m - 1, by omega⟩
    have e : j = 40 := by omega
    have e1 : (41 : Int) ≤ x := by omega
    subst e
    unfold f_M_size_4
    simp (disch := omega) only [li_0, li_1, li_2, li_3, li_4, li_5, li_6, li_7, li_8, li_9, li_10, li_11, li_12, li_13, li_14, li_15, li_16, li_17, li_18, li_19, li_20, li_21, li_31, li_32, li_33, li_40, li_41, li_43, li_48, li_57, li_59, li_60, li_61, li_62, li_64, li_97, li_99, li_100, li_101, li_102, li_112, li_119, li_126, li_189, li_255, li_300, li_369, li_400, li_999, li_5000, li_9999, li_12345, li_99999, li_1103515245, i2_add, i2_sub, i2_mul, i2_neg, i2_le, i2_lt, i2_eq, r_rz, r_ci, r_cx, r_cv, r_vx, r_cr, r_rx, dr_ci', dr_cv', dr_cr', dr_gr', dr_x0, ↓reduceIte, Int.reduceLE, Int.reduceLT, Int.reduceEq, Int.reduceNeg, Int.reduceAdd, Int.reduceSub, Int.reduceMul, e1, hy]
  | succ k ih =>
    intro m j x y hx hy h1 h2 h3
    obtain ⟨m, rfl⟩ : ∃ k, m = k + 1 := ⟨m - 1, by omega⟩
    unfold f_M_size_4
    by_cases e : j = 40
    · have e1 : (41 : Int) ≤ x := by omega
      subst e
      simp (disch := omega) only [li_0, li_1, li_2, li_3, li_4, li_5, li_6, li_7, li_8, li_9, li_10, li_11, li_12, li_13, li_14, li_15, li_16, li_17, li_18, li_19, li_20, li_21, li_31, li_32, li_33, li_40, li_41, li_43, li_48, li_57, li_59, li_60, li_61, li_62, li_64, li_97, li_99, li_100, li_101, li_102, li_112, li_119, li_126, li_189, li_255, li_300, li_369, li_400, li_999, li_5000, li_9999, li_12345, li_99999, li_1103515245, i2_add, i2_sub, i2_mul, i2_neg, i2_le, i2_lt, i2_eq, r_rz, r_ci, r_cx, r_cv, r_vx, r_cr, r_rx, dr_ci', dr_cv', dr_cr', dr_gr', dr_x0, ↓reduceIte, Int.reduceLE, Int.reduceLT, Int.reduceEq, Int.reduceNeg, Int.reduceAdd, Int.reduceSub, Int.reduceMul, e1, hy]
    · have e2 : ¬ ((41 : Int) ≤ x) := by omega
      have b1 := (hb (s * 41 + x)).1
      have hs : sm (fun n => c 33 (s * 41 + n)) (j + 1) = sm (fun n => c 33 (s * 41 + n)) j + c 33 (s * 41 + x) := by rw [sm, hx]
      by_cases e3 : c 33 (s * 41 + x) = 0
      · simp (disch := omega) only [li_0, li_1, li_2, li_3, li_4, li_5, li_6, li_7, li_8, li_9, li_10, li_11, li_12, li_13, li_14, li_15, li_16, li_17, li_18, li_19, li_20, li_21, li_31, li_32, li_33, li_40, li_41, li_43, li_48, li_57, li_59, li_60, li_61, li_62, li_64, li_97, li_99, li_100, li_101, li_102, li_112, li_119, li_126, li_189, li_255, li_300, li_369, li_400, li_999, li_5000, li_9999, li_12345, li_99999, li_1103515245, i2_add, i2_sub, i2_mul, i2_neg, i2_le, i2_lt, i2_eq, r_rz, r_ci, r_cx, r_cv, r_vx, r_cr, r_rx, dr_ci', dr_cv', dr_cr', dr_gr', dr_x0, ↓reduceIte, Int.reduceLE, Int.reduceLT, Int.reduceEq, Int.reduceNeg, Int.reduceAdd, Int.reduceSub, Int.reduceMul, vM_k hm, vM_g0 hm, vM_p0 hm, vM_g1 hm, vM_p1 hm, vM_g2 hm, vM_p2 hm, vM_r3 hm, vM_g4 hm, vM_p4 hm, vM_g5 hm, vM_p5 hm, vM_g6 hm, vM_p6 hm, vM_r7 hm, vM_r8 hm, vM_r9 hm, vM_r10 hm, vM_r11 hm, vM_r12 hm, vM_r13 hm, vM_r14 hm, vM_r15 hm, vM_r16 hm, vM_r17 hm, vM_r18 hm, vM_g19 hm, vM_p19 hm, vM_r20 hm, vM_r21 hm, vM_r22 hm, vM_r23 hm, vM_r24 hm, vM_r25 hm, vM_r26 hm, vM_g27 hm, vM_p27 hm, vM_r28 hm, vM_r29 hm, vM_r30 hm, vM_r31 hm, vM_n32 hm, vM_a32 hm, vM_s32 hm, vM_n33 hm, vM_a33 hm, vM_s33 hm, vM_n34 hm, vM_a34 hm, vM_s34 hm, vM_n35 hm, vM_a35 hm, vM_s35 hm, vM_n36 hm, vM_a36 hm, vM_s36 hm, vM_n37 hm, vM_a37 hm, vM_s37 hm, vM_n38 hm, vM_a38 hm, vM_s38 hm, vM_n39 hm, vM_a39 hm, vM_s39 hm, vM_n40 hm, vM_a40 hm, vM_s40 hm, vM_n41 hm, vM_a41 hm, vM_s41 hm, vM_n42 hm, vM_a42 hm, vM_s42 hm, vM_n43 hm, vM_a43 hm, vM_s43 hm, vM_n44 hm, vM_a44 hm, vM_s44 hm, vM_n45 hm, vM_a45 hm, vM_s45 hm, vM_n46 hm, vM_a46 hm, vM_s46 hm, vM_n47 hm, vM_a47 hm, vM_s47 hm, vM_n48 hm, vM_a48 hm, vM_s48 hm, vM_n49 hm, vM_a49 hm, vM_s49 hm, vM_n50 hm, vM_a50 hm, vM_s50 hm, vM_n51 hm, vM_a51 hm, vM_s51 hm, vM_n52 hm, vM_a52 hm, vM_s52 hm, vM_n53 hm, vM_a53 hm, vM_s53 hm, vM_n54 hm, vM_a54 hm, vM_s54 hm, vM_n55 hm, vM_a55 hm, vM_s55 hm, e2, e3]
        exact ih m (j + 1) (x + 1) y (by omega) (by rw [hs, hy, e3]; omega) (by omega) (by omega) (by omega)
      · simp (disch := omega) only [li_0, li_1, li_2, li_3, li_4, li_5, li_6, li_7, li_8, li_9, li_10, li_11, li_12, li_13, li_14, li_15, li_16, li_17, li_18, li_19, li_20, li_21, li_31, li_32, li_33, li_40, li_41, li_43, li_48, li_57, li_59, li_60, li_61, li_62, li_64, li_97, li_99, li_100, li_101, li_102, li_112, li_119, li_126, li_189, li_255, li_300, li_369, li_400, li_999, li_5000, li_9999, li_12345, li_99999, li_1103515245, i2_add, i2_sub, i2_mul, i2_neg, i2_le, i2_lt, i2_eq, r_rz, r_ci, r_cx, r_cv, r_vx, r_cr, r_rx, dr_ci', dr_cv', dr_cr', dr_gr', dr_x0, ↓reduceIte, Int.reduceLE, Int.reduceLT, Int.reduceEq, Int.reduceNeg, Int.reduceAdd, Int.reduceSub, Int.reduceMul, vM_k hm, vM_g0 hm, vM_p0 hm, vM_g1 hm, vM_p1 hm, vM_g2 hm, vM_p2 hm, vM_r3 hm, vM_g4 hm, vM_p4 hm, vM_g5 hm, vM_p5 hm, vM_g6 hm, vM_p6 hm, vM_r7 hm, vM_r8 hm, vM_r9 hm, vM_r10 hm, vM_r11 hm, vM_r12 hm, vM_r13 hm, vM_r14 hm, vM_r15 hm, vM_r16 hm, vM_r17 hm, vM_r18 hm, vM_g19 hm, vM_p19 hm, vM_r20 hm, vM_r21 hm, vM_r22 hm, vM_r23 hm, vM_r24 hm, vM_r25 hm, vM_r26 hm, vM_g27 hm, vM_p27 hm, vM_r28 hm, vM_r29 hm, vM_r30 hm, vM_r31 hm, vM_n32 hm, vM_a32 hm, vM_s32 hm, vM_n33 hm, vM_a33 hm, vM_s33 hm, vM_n34 hm, vM_a34 hm, vM_s34 hm, vM_n35 hm, vM_a35 hm, vM_s35 hm, vM_n36 hm, vM_a36 hm, vM_s36 hm, vM_n37 hm, vM_a37 hm, vM_s37 hm, vM_n38 hm, vM_a38 hm, vM_s38 hm, vM_n39 hm, vM_a39 hm, vM_s39 hm, vM_n40 hm, vM_a40 hm, vM_s40 hm, vM_n41 hm, vM_a41 hm, vM_s41 hm, vM_n42 hm, vM_a42 hm, vM_s42 hm, vM_n43 hm, vM_a43 hm, vM_s43 hm, vM_n44 hm, vM_a44 hm, vM_s44 hm, vM_n45 hm, vM_a45 hm, vM_s45 hm, vM_n46 hm, vM_a46 hm, vM_s46 hm, vM_n47 hm, vM_a47 hm, vM_s47 hm, vM_n48 hm, vM_a48 hm, vM_s48 hm, vM_n49 hm, vM_a49 hm, vM_s49 hm, vM_n50 hm, vM_a50 hm, vM_s50 hm, vM_n51 hm, vM_a51 hm, vM_s51 hm, vM_n52 hm, vM_a52 hm, vM_s52 hm, vM_n53 hm, vM_a53 hm, vM_s53 hm, vM_n54 hm, vM_a54 hm, vM_s54 hm, vM_n55 hm, vM_a55 hm, vM_s55 hm, e2, e3]
        exact ih m (j + 1) (x + 1) (y + 1) (by omega) (by rw [hs, hy]; omega) (by omega) (by omega) (by omega)
theorem m_size {h : dr_AH} {c : Nat → Int → Int} (hm : LaM h) (hb : mB c) {s : Int} (s0 : 0 ≤ s) (s1 : s < 10) : f_M_size 31 (i2 s) (wr h c) = some (.inl (some (.int (i2 (sm (fun n => c 33 (s * 41 + n)) 40)))), wr h c) :=
  m_size4 hm hb s0 s1 40 dr_fu 0 1 0 (by omega) rfl (by omega) (by omega) (by decide)
theorem m_read117 {h : dr_AH} {c : Nat → Int → Int} (hm : LaM h) (hb : mB c) {q w : Int} (w1 : -1 ≤ w) (w2 : w ≤ 300) :
    (0 ≤ w → f_M_read_117 31 (wr h (mP c q w)) = some (.inl (some (.int (i2 0))), wr h (up (up (up (mP c q w) 31 2 0) 31 4 w) 31 0 1)))
    ∧ (w < 0 → f_M_read_117 31 (wr h (mP c q w)) = some (.inl (some (.int (i2 (sm (fun n => c 33 (369 + n)) 40)))), wr h (cpa (cpe (up (up (up (mP c q w) 31 2 0) 31 4 w) 31 0 0) 9 8 41) 9 8 21))) := by
  have e1 : up (mP c q w) 31 2 0 31 6 = w := by rw [up_j _ _ (by omega), mP_6]
  have e2 : up (up (mP c q w) 31 2 0) 31 4 w 31 6 = w := by rw [up_j _ _ (by omega), e1]
  refine ⟨fun hw => ?_, fun hw => ?_⟩
  · have g : gt 0 1 1 = 1 := rfl
    have g2 : bz (1 = (0 : Int)) = 0 := rfl
    unfold f_M_read_117 f_M_read_143
    simp (disch := omega) only [li_0, li_1, li_2, li_3, li_4, li_5, li_6, li_7, li_8, li_9, li_10, li_11, li_12, li_13, li_14, li_15, li_16, li_17, li_18, li_19, li_20, li_21, li_31, li_32, li_33, li_40, li_41, li_43, li_48, li_57, li_59, li_60, li_61, li_62, li_64, li_97, li_99, li_100, li_101, li_102, li_112, li_119, li_126, li_189, li_255, li_300, li_369, li_400, li_999, li_5000, li_9999, li_12345, li_99999, li_1103515245, i2_add, i2_sub, i2_mul, i2_neg, i2_le, i2_lt, i2_eq, r_rz, r_ci, r_cx, r_cv, r_vx, r_cr, r_rx, dr_ci', dr_cv', dr_cr', dr_gr', dr_x0, ↓reduceIte, Int.reduceLE, Int.reduceLT, Int.reduceEq, Int.reduceNeg, Int.reduceAdd, Int.reduceSub, Int.reduceMul, vM_k hm, vM_g0 hm, vM_p0 hm, vM_g1 hm, vM_p1 hm, vM_g2 hm, vM_p2 hm, vM_r3 hm, vM_g4 hm, vM_p4 hm, vM_g5 hm, vM_p5 hm, vM_g6 hm, vM_p6 hm, vM_r7 hm, vM_r8 hm, vM_r9 hm, vM_r10 hm, vM_r11 hm, vM_r12 hm, vM_r13 hm, vM_r14 hm, vM_r15 hm, vM_r16 hm, vM_r17 hm, vM_r18 hm, vM_g19 hm, vM_p19 hm, vM_r20 hm, vM_r21 hm, vM_r22 hm, vM_r23 hm, vM_r24 hm, vM_r25 hm, vM_r26 hm, vM_g27 hm, vM_p27 hm, vM_r28 hm, vM_r29 hm, vM_r30 hm, vM_r31 hm, vM_n32 hm, vM_a32 hm, vM_s32 hm, vM_n33 hm, vM_a33 hm, vM_s33 hm, vM_n34 hm, vM_a34 hm, vM_s34 hm, vM_n35 hm, vM_a35 hm, vM_s35 hm, vM_n36 hm, vM_a36 hm, vM_s36 hm, vM_n37 hm, vM_a37 hm, vM_s37 hm, vM_n38 hm, vM_a38 hm, vM_s38 hm, vM_n39 hm, vM_a39 hm, vM_s39 hm, vM_n40 hm, vM_a40 hm, vM_s40 hm, vM_n41 hm, vM_a41 hm, vM_s41 hm, vM_n42 hm, vM_a42 hm, vM_s42 hm, vM_n43 hm, vM_a43 hm, vM_s43 hm, vM_n44 hm, vM_a44 hm, vM_s44 hm, vM_n45 hm, vM_a45 hm, vM_s45 hm, vM_n46 hm, vM_a46 hm, vM_s46 hm, vM_n47 hm, vM_a47 hm, vM_s47 hm, vM_n48 hm, vM_a48 hm, vM_s48 hm, vM_n49 hm, vM_a49 hm, vM_s49 hm, vM_n50 hm, vM_a50 hm, vM_s50 hm, vM_n51 hm, vM_a51 hm, vM_s51 hm, vM_n52 hm, vM_a52 hm, vM_s52 hm, vM_n53 hm, vM_a53 hm, vM_s53 hm, vM_n54 hm, vM_a54 hm, vM_s54 hm, vM_n55 hm, vM_a55 hm, vM_s55 hm, e1, e2, hw, m_goes hm, g, bz_f]
  · have g : gt 1 1 1 = 0 := rfl
    have g2 : bz (0 = (0 : Int)) = 1 := rfl
    have hw' : ¬ (0 ≤ w) := by omega
    have hb2 : mB (up (up (up (mP c q w) 31 2 0) 31 4 w) 31 0 0) := by
      intro j
      have := hb j
      simp only [up_a _ _ _ _ (show (33 : Nat) ≠ 31 by decide), up_a _ _ _ _ (show (38 : Nat) ≠ 31 by decide), up_a _ _ _ _ (show (40 : Nat) ≠ 31 by decide), mP_a _ _ _ _ (show (33 : Nat) ≠ 31 by decide), mP_a _ _ _ _ (show (38 : Nat) ≠ 31 by decide), mP_a _ _ _ _ (show (40 : Nat) ≠ 31 by decide)]
      exact this
    have hb3 : mB (cpa (cpe (up (up (up (mP c q w) 31 2 0) 31 4 w) 31 0 0) 9 8 41) 9 8 21) := by
      generalize up (up (up (mP c q w) 31 2 0) 31 4 w) 31 0 0 = d at hb2
      intro j
      have q1 := hb2 j
      have q2 := hb2 (j - 8 * 41 + 9 * 41)
      have q3 := hb2 (j - 8 * 21 + 9 * 21)
      unfold cpa cpe
      refine ⟨?_, ?_, ?_⟩
      · rw [if_neg (by omega)]; split <;> omega
      · rw [if_neg (by omega)]; split <;> omega
      · split
        · rw [if_neg (by omega)]; omega
        · rw [if_neg (by omega)]; omega
    have hsz : sm (fun n => cpa (cpe (up (up (up (mP c q w) 31 2 0) 31 4 w) 31 0 0) 9 8 41) 9 8 21 33 (8 * 41 + n)) 40 = sm (fun n => c 33 (369 + n)) 40 := by
      refine sm_c 40 (fun i i1 i2 => ?_)
      unfold cpa cpe
      rw [if_neg (by omega), if_pos (by omega), up_a _ _ _ _ (by decide), up_a _ _ _ _ (by decide), up_a _ _ _ _ (by decide), mP_a _ _ _ _ (by decide)]
      congr 1
      omega
    have hc := m_copy hm hb2 (f := 9) (t := 8) (by omega) (by omega) (by omega) (by omega) (by omega)
    have hs := m_size hm hb3 (s := 8) (by omega) (by omega)
    rw [hsz] at hs
    unfold f_M_read_117 f_M_read_143
    simp (disch := omega) only [li_0, li_1, li_2, li_3, li_4, li_5, li_6, li_7, li_8, li_9, li_10, li_11, li_12, li_13, li_14, li_15, li_16, li_17, li_18, li_19, li_20, li_21, li_31, li_32, li_33, li_40, li_41, li_43, li_48, li_57, li_59, li_60, li_61, li_62, li_64, li_97, li_99, li_100, li_101, li_102, li_112, li_119, li_126, li_189, li_255, li_300, li_369, li_400, li_999, li_5000, li_9999, li_12345, li_99999, li_1103515245, i2_add, i2_sub, i2_mul, i2_neg, i2_le, i2_lt, i2_eq, r_rz, r_ci, r_cx, r_cv, r_vx, r_cr, r_rx, dr_ci', dr_cv', dr_cr', dr_gr', dr_x0, ↓reduceIte, Int.reduceLE, Int.reduceLT, Int.reduceEq, Int.reduceNeg, Int.reduceAdd, Int.reduceSub, Int.reduceMul, vM_k hm, vM_g0 hm, vM_p0 hm, vM_g1 hm, vM_p1 hm, vM_g2 hm, vM_p2 hm, vM_r3 hm, vM_g4 hm, vM_p4 hm, vM_g5 hm, vM_p5 hm, vM_g6 hm, vM_p6 hm, vM_r7 hm, vM_r8 hm, vM_r9 hm, vM_r10 hm, vM_r11 hm, vM_r12 hm, vM_r13 hm, vM_r14 hm, vM_r15 hm, vM_r16 hm, vM_r17 hm, vM_r18 hm, vM_g19 hm, vM_p19 hm, vM_r20 hm, vM_r21 hm, vM_r22 hm, vM_r23 hm, vM_r24 hm, vM_r25 hm, vM_r26 hm, vM_g27 hm, vM_p27 hm, vM_r28 hm, vM_r29 hm, vM_r30 hm, vM_r31 hm, vM_n32 hm, vM_a32 hm, vM_s32 hm, vM_n33 hm, vM_a33 hm, vM_s33 hm, vM_n34 hm, vM_a34 hm, vM_s34 hm, vM_n35 hm, vM_a35 hm, vM_s35 hm, vM_n36 hm, vM_a36 hm, vM_s36 hm, vM_n37 hm, vM_a37 hm, vM_s37 hm, vM_n38 hm, vM_a38 hm, vM_s38 hm, vM_n39 hm, vM_a39 hm, vM_s39 hm, vM_n40 hm, vM_a40 hm, vM_s40 hm, vM_n41 hm, vM_a41 hm, vM_s41 hm, vM_n42 hm, vM_a42 hm, vM_s42 hm, vM_n43 hm, vM_a43 hm, vM_s43 hm, vM_n44 hm, vM_a44 hm, vM_s44 hm, vM_n45 hm, vM_a45 hm, vM_s45 hm, vM_n46 hm, vM_a46 hm, vM_s46 hm, vM_n47 hm, vM_a47 hm, vM_s47 hm, vM_n48 hm, vM_a48 hm, vM_s48 hm, vM_n49 hm, vM_a49 hm, vM_s49 hm, vM_n50 hm, vM_a50 hm, vM_s50 hm, vM_n51 hm, vM_a51 hm, vM_s51 hm, vM_n52 hm, vM_a52 hm, vM_s52 hm, vM_n53 hm, vM_a53 hm, vM_s53 hm, vM_n54 hm, vM_a54 hm, vM_s54 hm, vM_n55 hm, vM_a55 hm, vM_s55 hm, e1, e2, hw', m_goes hm, g, bz_t, hc, hs]
