/-! ===== o_stop ===== -/
theorem o_stop {L k nd : Nat} {h : dr_AH} {c : Nat → Int → Int} {da sa : Nat → Nat} {cs sp : Nat} (S : St L k h c nd da sa cs sp) (hk : k ≤ 600) {d : Int} (d1 : -2147483648 ≤ d) (d2 : d < 2147483648) : OPV (f_L_stop 1 (i2 d)) (f_M_stop 31 (i2 d)) L k h c := by
  have S0 := S
  obtain ⟨hl, hA, hI, hT, hU, hW, b1, b2⟩ := S
  have hR := hl.2.2.1
  have hm0 := hl.1
  have hmX : LaM (hX h) := (Lay_push hA hl).1
  obtain ⟨⟨y1, y2, y3⟩, hI'⟩ := id hI
  have hth2 := r_th (h := h) (c := c) (E := "java/lang/IllegalStateException") (by omega) (by omega)
  by_cases e1 : 0 ≤ d ∧ d < nd
  · obtain ⟨i, rfl⟩ : ∃ i : Nat, d = i := ⟨d.toNat, by omega⟩
    have hi : i < nd := by omega
    have D := IAd hI hi
    have hD := (hl.2.2.2.2.2.2.1 i hi).1
    have hk := k_yes (c := c) hl (x := i) rfl hi y1
    have h3 := D.2.2.1
    have hAi := hA.2.2.2.2.1 i hi
    by_cases e3 : c 46 i = 0
    · have hc := c_stop30 (c := up c (da i) 2 0) hR (d := i) (by omega) (by omega) (fun w w1 w2 => by rw [up_a _ _ _ _ (by omega)]; have := hU w w1 w2; omega) 20 dr_fu 0 (by omega) (by omega) (by decide)
      rw [stu_0] at hc
      have q51 : ∀ w, up (up (stu (up c (da i) 2 0) 29 i 20) 31 0 0) 46 i 1 51 w = c 51 w := by
        intro w
        simp (disch := omega) only [up_c31, stu_n, wby_n]
      have hmo := m_stop45 (c := up (up (stu (up c (da i) 2 0) 29 i 20) 31 0 0) 46 i 1) hm0 (d := i) (by omega) (by omega) (fun w w1 w2 => by rw [q51]; exact (hU w w1 w2).2) 20 dr_fu 0 (by omega) (by omega) (by decide)
      rw [stu_0] at hmo
      have q46 : stu (up c (da i) 2 0) 29 i 20 46 i = 0 := by
        simp (disch := omega) only [up_c31, stu_n, wby_n]
        exact e3
      have q19 : stu (up c (da i) 2 0) 29 i 20 31 19 = c 31 19 := by
        simp (disch := omega) only [up_c31, stu_n, wby_n]
      have F : ∀ (q : Nat) (j : Int), ¬ (q = 29 ∧ 0 ≤ j ∧ j < 20) → ¬ (q = 51 ∧ 0 ≤ j ∧ j < 20) → ¬ (q = da i ∧ j = 2) → ¬ (q = 31 ∧ j = 0) → ¬ (q = 46 ∧ j = i) → stu (up (up (stu (up c (da i) 2 0) 29 i 20) 31 0 0) 46 i 1) 51 i 20 q j = c q j := by
        intro q j f1 f2 f3 f4 f5
        rw [stu_n _ f2, up_c31 _ f5, up_c31 _ f4, stu_n _ f1, up_c31 _ f3]
      have F2 : stu (up (up (stu (up c (da i) 2 0) 29 i 20) 31 0 0) 46 i 1) 51 i 20 (da i) 2 = 0 := by
        rw [stu_n _ (by omega), up_c31 _ (by omega), up_c31 _ (by omega), stu_n _ (by omega), up_same]
      have F46 : stu (up (up (stu (up c (da i) 2 0) 29 i 20) 31 0 0) 46 i 1) 51 i 20 46 i = 1 := by
        rw [stu_n _ (by omega), up_same]
      have F29 : ∀ w, 0 ≤ w → w < 20 → stu (up (up (stu (up c (da i) 2 0) 29 i 20) 31 0 0) 46 i 1) 51 i 20 29 w = if c 29 w = i then -1 else c 29 w := by
        intro w w1 w2
        rw [stu_n _ (by omega), up_c31 _ (by omega), up_c31 _ (by omega), stu_y _ w1 w2, up_c31 _ (by omega)]
      have F51 : ∀ w, 0 ≤ w → w < 20 → stu (up (up (stu (up c (da i) 2 0) 29 i 20) 31 0 0) 46 i 1) 51 i 20 51 w = if c 51 w = i then -1 else c 51 w := by
        intro w w1 w2
        rw [stu_y _ w1 w2, q51 w]
      refine ⟨0, h, stu (up c (da i) 2 0) 29 i 20, stu (up (up (stu (up c (da i) 2 0) 29 i 20) 31 0 0) 46 i 1) 51 i 20, ?_, ?_, ?_, ?_, fun j => ?_⟩
      · unfold f_L_stop f_R_stop
        simp (disch := omega) only [li_0, li_1, li_2, li_3, li_4, li_5, li_6, li_7, li_8, li_9, li_10, li_11, li_12, li_13, li_14, li_15, li_16, li_17, li_18, li_19, li_20, li_21, li_31, li_32, li_33, li_40, li_41, li_43, li_48, li_57, li_59, li_60, li_61, li_62, li_64, li_97, li_99, li_100, li_101, li_102, li_112, li_119, li_126, li_189, li_255, li_300, li_369, li_400, li_999, li_5000, li_9999, li_12345, li_99999, li_1103515245, i2_add, i2_sub, i2_mul, i2_neg, i2_le, i2_lt, i2_eq, r_rz, r_ci, r_cx, r_cv, r_vx, r_cr, r_rx, dr_ci', dr_cv', dr_cr', dr_gr', dr_x0, ↓reduceIte, Int.reduceLE, Int.reduceLT, Int.reduceEq, Int.reduceNeg, Int.reduceAdd, Int.reduceSub, Int.reduceMul, dl_t, dl_f, dle_t, dle_f, deq_t, deq_f, vR_k hR, vR_r0 hR, vR_r1 hR, vR_r2 hR, vR_g3 hR, vR_p3 hR, vR_g4 hR, vR_p4 hR, vR_r5 hR, vR_g6 hR, vR_p6 hR, vR_r7 hR, vR_r8 hR, vR_g9 hR, vR_p9 hR, vR_n29 hR, vR_a29 hR, vR_s29 hR, vR_n30 hR, vR_a30 hR, vR_s30 hR, hk, vD_k hD, vD_r0 hD, vD_g1 hD, vD_p1 hD, vD_g2 hD, vD_p2 hD, vD_r3 hD, vD_g4 hD, vD_p4 hD, vD_r5 hD, vD_r6 hD, vD_r7 hD, vD_g8 hD, vD_p8 hD, vD_n1 hD, vD_a1 hD, vD_s1 hD, vD_n2 hD, vD_a2 hD, vD_s2 hD, vD_n3 hD, vD_a3 hD, vD_s3 hD, vD_n4 hD, vD_a4 hD, vD_s4 hD, hc]
      · unfold f_M_stop f_M_stop_28
        simp (disch := omega) only [li_0, li_1, li_2, li_3, li_4, li_5, li_6, li_7, li_8, li_9, li_10, li_11, li_12, li_13, li_14, li_15, li_16, li_17, li_18, li_19, li_20, li_21, li_31, li_32, li_33, li_40, li_41, li_43, li_48, li_57, li_59, li_60, li_61, li_62, li_64, li_97, li_99, li_100, li_101, li_102, li_112, li_119, li_126, li_189, li_255, li_300, li_369, li_400, li_999, li_5000, li_9999, li_12345, li_99999, li_1103515245, i2_add, i2_sub, i2_mul, i2_neg, i2_le, i2_lt, i2_eq, r_rz, r_ci, r_cx, r_cv, r_vx, r_cr, r_rx, dr_ci', dr_cv', dr_cr', dr_gr', dr_x0, ↓reduceIte, Int.reduceLE, Int.reduceLT, Int.reduceEq, Int.reduceNeg, Int.reduceAdd, Int.reduceSub, Int.reduceMul, dl_t, dl_f, dle_t, dle_f, deq_t, deq_f, vM_k hm0, vM_g0 hm0, vM_p0 hm0, vM_g1 hm0, vM_p1 hm0, vM_g2 hm0, vM_p2 hm0, vM_r3 hm0, vM_g4 hm0, vM_p4 hm0, vM_g5 hm0, vM_p5 hm0, vM_g6 hm0, vM_p6 hm0, vM_r7 hm0, vM_r8 hm0, vM_r9 hm0, vM_r10 hm0, vM_r11 hm0, vM_r12 hm0, vM_r13 hm0, vM_r14 hm0, vM_r15 hm0, vM_r16 hm0, vM_r17 hm0, vM_r18 hm0, vM_g19 hm0, vM_p19 hm0, vM_r20 hm0, vM_r21 hm0, vM_r22 hm0, vM_r23 hm0, vM_r24 hm0, vM_r25 hm0, vM_r26 hm0, vM_g27 hm0, vM_p27 hm0, vM_r28 hm0, vM_r29 hm0, vM_r30 hm0, vM_r31 hm0, vM_n32 hm0, vM_a32 hm0, vM_s32 hm0, vM_n33 hm0, vM_a33 hm0, vM_s33 hm0, vM_n34 hm0, vM_a34 hm0, vM_s34 hm0, vM_n35 hm0, vM_a35 hm0, vM_s35 hm0, vM_n36 hm0, vM_a36 hm0, vM_s36 hm0, vM_n37 hm0, vM_a37 hm0, vM_s37 hm0, vM_n38 hm0, vM_a38 hm0, vM_s38 hm0, vM_n39 hm0, vM_a39 hm0, vM_s39 hm0, vM_n40 hm0, vM_a40 hm0, vM_s40 hm0, vM_n41 hm0, vM_a41 hm0, vM_s41 hm0, vM_n42 hm0, vM_a42 hm0, vM_s42 hm0, vM_n43 hm0, vM_a43 hm0, vM_s43 hm0, vM_n44 hm0, vM_a44 hm0, vM_s44 hm0, vM_n45 hm0, vM_a45 hm0, vM_s45 hm0, vM_n46 hm0, vM_a46 hm0, vM_s46 hm0, vM_n47 hm0, vM_a47 hm0, vM_s47 hm0, vM_n48 hm0, vM_a48 hm0, vM_s48 hm0, vM_n49 hm0, vM_a49 hm0, vM_s49 hm0, vM_n50 hm0, vM_a50 hm0, vM_s50 hm0, vM_n51 hm0, vM_a51 hm0, vM_s51 hm0, vM_n52 hm0, vM_a52 hm0, vM_s52 hm0, vM_n53 hm0, vM_a53 hm0, vM_s53 hm0, vM_n54 hm0, vM_a54 hm0, vM_s54 hm0, vM_n55 hm0, vM_a55 hm0, vM_s55 hm0, is_y hm0, g_000 hm0, g_001 hm0, g_010 hm0, g_011 hm0, g_100 hm0, g_101 hm0, g_110 hm0, g_111 hm0, q46, hmo]
      · rw [stu_n _ (by omega), up_c31 _ (by omega), up_same]
      · generalize hZ : stu (up (up (stu (up c (da i) 2 0) 29 i 20) 31 0 0) 46 i 1) 51 i 20 = Z at F F2 F46 F29 F51
        obtain ⟨a0, a1, a2, a3, a4, a5, a6⟩ := hA
        unfold sad at a1 a2
        have k3 := hAi.2.2.1
        have k4 := hAi.2.2.2.1
        unfold DS at k3 k4
        obtain ⟨i1, i2', i3, i4, i5, i6, i7, i8, i9⟩ := id hI
        refine St_h S0 ⟨?_, ?_, SRel_f i3 (fun q j q1 q2 q3 => F q j (by omega) (by omega) (by omega) (by omega) (by omega)) (fun q n q1 q2 _ _ => F q _ (by omega) (by omega) (by omega) (by omega) (by omega)) (fun q n q1 q2 _ _ => F q _ (by omega) (by omega) (by omega) (by omega) (by omega)), fun j => ?_, fun j j1 j2 => ?_, fun j hj => ?_, ?_, ?_, fun j => ?_⟩ (IT_f hT (fun q j hq => F q j (by unfold RT at hq; omega) (by unfold RT at hq; omega) (by unfold RT at hq; omega) (by unfold RT at hq; omega) (by unfold RT at hq; omega))) (fun w w1 w2 => ?_) (IW_f hW (fun q j hq => F q j (by unfold RW at hq; omega) (by unfold RW at hq; omega) (by unfold RW at hq; omega) (by unfold RW at hq; omega) (by unfold RW at hq; omega)))
        · rw [F 1 6 (by omega) (by omega) (by omega) (by omega) (by omega), F 31 19 (by omega) (by omega) (by omega) (by omega) (by omega)]; exact i1
        · rw [F 1 4 (by omega) (by omega) (by omega) (by omega) (by omega), F 31 1 (by omega) (by omega) (by omega) (by omega) (by omega)]; exact i2'
        · rw [F 33 j (by omega) (by omega) (by omega) (by omega) (by omega), F 38 j (by omega) (by omega) (by omega) (by omega) (by omega), F 40 j (by omega) (by omega) (by omega) (by omega) (by omega)]; exact i4 j
        · rw [F 46 j (by omega) (by omega) (by omega) (by omega) (by omega), F 48 j (by omega) (by omega) (by omega) (by omega) (by omega)]; exact i5 j j1 j2
        · have b4 := a4 j hj
          unfold sad at b4
          by_cases ej : j = i
          · subst ej
            have b5 := a5 j j hj hj
            unfold DS at b5
            refine DR_g (i6 j hj) (fun q w hq q1 q2 => F q w ?_ ?_ (by omega) ?_ (by omega)) (by omega) b4.2.1.1 (by omega) (by omega) b5
            · unfold RD at hq; omega
            · unfold RD at hq; omega
            · unfold RD at hq; omega
          · have b5 := a5 i j hi hj
            have b6 := a6 i j hi hj (by omega)
            unfold DS at b5
            refine DR_f (i6 j hj) (by omega) b4.2.1.1 (a5 j j hj hj) (fun q w hq => F q w ?_ ?_ ?_ ?_ ?_)
            · unfold RD at hq; omega
            · unfold RD at hq; omega
            · unfold RD at hq; omega
            · unfold RD at hq; omega
            · unfold RD at hq; omega
        · rw [F cs 12 (by omega) (by omega) (by omega) (by omega) (by omega), F sp 12 (by omega) (by omega) (by omega) (by omega) (by omega)]; exact i7
        · rw [F cs 12 (by omega) (by omega) (by omega) (by omega) (by omega)]; exact i8
        · rw [F 0 j (by omega) (by omega) (by omega) (by omega) (by omega)]; exact i9 j
        · have := hU w w1 w2
          rw [F29 w w1 w2, F51 w w1 w2, this.1]
          split
          · omega
          · omega
      · simp (disch := omega) only [up_c31, stu_n, wby_n]
    · refine ⟨2, hX h, c, up c 31 0 2, ?_, ?_, up_same _ _ _ _, St_qX S0 (by omega), fun j => rfl⟩
      · unfold f_L_stop f_R_stop
        simp (disch := omega) only [li_0, li_1, li_2, li_3, li_4, li_5, li_6, li_7, li_8, li_9, li_10, li_11, li_12, li_13, li_14, li_15, li_16, li_17, li_18, li_19, li_20, li_21, li_31, li_32, li_33, li_40, li_41, li_43, li_48, li_57, li_59, li_60, li_61, li_62, li_64, li_97, li_99, li_100, li_101, li_102, li_112, li_119, li_126, li_189, li_255, li_300, li_369, li_400, li_999, li_5000, li_9999, li_12345, li_99999, li_1103515245, i2_add, i2_sub, i2_mul, i2_neg, i2_le, i2_lt, i2_eq, r_rz, r_ci, r_cx, r_cv, r_vx, r_cr, r_rx, dr_ci', dr_cv', dr_cr', dr_gr', dr_x0, ↓reduceIte, Int.reduceLE, Int.reduceLT, Int.reduceEq, Int.reduceNeg, Int.reduceAdd, Int.reduceSub, Int.reduceMul, dl_t, dl_f, dle_t, dle_f, deq_t, deq_f, vR_k hR, vR_r0 hR, vR_r1 hR, vR_r2 hR, vR_g3 hR, vR_p3 hR, vR_g4 hR, vR_p4 hR, vR_r5 hR, vR_g6 hR, vR_p6 hR, vR_r7 hR, vR_r8 hR, vR_g9 hR, vR_p9 hR, vR_n29 hR, vR_a29 hR, vR_s29 hR, vR_n30 hR, vR_a30 hR, vR_s30 hR, hk, vD_k hD, vD_r0 hD, vD_g1 hD, vD_p1 hD, vD_g2 hD, vD_p2 hD, vD_r3 hD, vD_g4 hD, vD_p4 hD, vD_r5 hD, vD_r6 hD, vD_r7 hD, vD_g8 hD, vD_p8 hD, vD_n1 hD, vD_a1 hD, vD_s1 hD, vD_n2 hD, vD_a2 hD, vD_s2 hD, vD_n3 hD, vD_a3 hD, vD_s3 hD, vD_n4 hD, vD_a4 hD, vD_s4 hD, hth2, sx_A_B, sx_A_C, sx_A_D, sx_A_E, sx_B_A, sx_B_C, sx_B_D, sx_B_E, sx_C_A, sx_C_B, sx_C_D, sx_C_E, sx_D_A, sx_D_B, sx_D_C, sx_D_E, sx_E_A, sx_E_B, sx_E_C, sx_E_D]
      · unfold f_M_stop f_M_stop_27 f_M_stop_28
        simp (disch := omega) only [li_0, li_1, li_2, li_3, li_4, li_5, li_6, li_7, li_8, li_9, li_10, li_11, li_12, li_13, li_14, li_15, li_16, li_17, li_18, li_19, li_20, li_21, li_31, li_32, li_33, li_40, li_41, li_43, li_48, li_57, li_59, li_60, li_61, li_62, li_64, li_97, li_99, li_100, li_101, li_102, li_112, li_119, li_126, li_189, li_255, li_300, li_369, li_400, li_999, li_5000, li_9999, li_12345, li_99999, li_1103515245, i2_add, i2_sub, i2_mul, i2_neg, i2_le, i2_lt, i2_eq, r_rz, r_ci, r_cx, r_cv, r_vx, r_cr, r_rx, dr_ci', dr_cv', dr_cr', dr_gr', dr_x0, ↓reduceIte, Int.reduceLE, Int.reduceLT, Int.reduceEq, Int.reduceNeg, Int.reduceAdd, Int.reduceSub, Int.reduceMul, dl_t, dl_f, dle_t, dle_f, deq_t, deq_f, vM_k hmX, vM_g0 hmX, vM_p0 hmX, vM_g1 hmX, vM_p1 hmX, vM_g2 hmX, vM_p2 hmX, vM_r3 hmX, vM_g4 hmX, vM_p4 hmX, vM_g5 hmX, vM_p5 hmX, vM_g6 hmX, vM_p6 hmX, vM_r7 hmX, vM_r8 hmX, vM_r9 hmX, vM_r10 hmX, vM_r11 hmX, vM_r12 hmX, vM_r13 hmX, vM_r14 hmX, vM_r15 hmX, vM_r16 hmX, vM_r17 hmX, vM_r18 hmX, vM_g19 hmX, vM_p19 hmX, vM_r20 hmX, vM_r21 hmX, vM_r22 hmX, vM_r23 hmX, vM_r24 hmX, vM_r25 hmX, vM_r26 hmX, vM_g27 hmX, vM_p27 hmX, vM_r28 hmX, vM_r29 hmX, vM_r30 hmX, vM_r31 hmX, vM_n32 hmX, vM_a32 hmX, vM_s32 hmX, vM_n33 hmX, vM_a33 hmX, vM_s33 hmX, vM_n34 hmX, vM_a34 hmX, vM_s34 hmX, vM_n35 hmX, vM_a35 hmX, vM_s35 hmX, vM_n36 hmX, vM_a36 hmX, vM_s36 hmX, vM_n37 hmX, vM_a37 hmX, vM_s37 hmX, vM_n38 hmX, vM_a38 hmX, vM_s38 hmX, vM_n39 hmX, vM_a39 hmX, vM_s39 hmX, vM_n40 hmX, vM_a40 hmX, vM_s40 hmX, vM_n41 hmX, vM_a41 hmX, vM_s41 hmX, vM_n42 hmX, vM_a42 hmX, vM_s42 hmX, vM_n43 hmX, vM_a43 hmX, vM_s43 hmX, vM_n44 hmX, vM_a44 hmX, vM_s44 hmX, vM_n45 hmX, vM_a45 hmX, vM_s45 hmX, vM_n46 hmX, vM_a46 hmX, vM_s46 hmX, vM_n47 hmX, vM_a47 hmX, vM_s47 hmX, vM_n48 hmX, vM_a48 hmX, vM_s48 hmX, vM_n49 hmX, vM_a49 hmX, vM_s49 hmX, vM_n50 hmX, vM_a50 hmX, vM_s50 hmX, vM_n51 hmX, vM_a51 hmX, vM_s51 hmX, vM_n52 hmX, vM_a52 hmX, vM_s52 hmX, vM_n53 hmX, vM_a53 hmX, vM_s53 hmX, vM_n54 hmX, vM_a54 hmX, vM_s54 hmX, vM_n55 hmX, vM_a55 hmX, vM_s55 hmX, is_y hmX, g_000 hmX, g_001 hmX, g_010 hmX, g_011 hmX, g_100 hmX, g_101 hmX, g_110 hmX, g_111 hmX]
  · have hk := k_no (c := c) hl (by omega) (by omega) d1 d2 (by omega)
    refine ⟨1, hX h, c, up c 31 0 1, ?_, ?_, up_same _ _ _ _, St_qX S0 (by omega), fun j => rfl⟩
    · unfold f_L_stop f_R_stop
      simp (disch := omega) only [li_0, li_1, li_2, li_3, li_4, li_5, li_6, li_7, li_8, li_9, li_10, li_11, li_12, li_13, li_14, li_15, li_16, li_17, li_18, li_19, li_20, li_21, li_31, li_32, li_33, li_40, li_41, li_43, li_48, li_57, li_59, li_60, li_61, li_62, li_64, li_97, li_99, li_100, li_101, li_102, li_112, li_119, li_126, li_189, li_255, li_300, li_369, li_400, li_999, li_5000, li_9999, li_12345, li_99999, li_1103515245, i2_add, i2_sub, i2_mul, i2_neg, i2_le, i2_lt, i2_eq, r_rz, r_ci, r_cx, r_cv, r_vx, r_cr, r_rx, dr_ci', dr_cv', dr_cr', dr_gr', dr_x0, ↓reduceIte, Int.reduceLE, Int.reduceLT, Int.reduceEq, Int.reduceNeg, Int.reduceAdd, Int.reduceSub, Int.reduceMul, vR_k hR, vR_r0 hR, vR_r1 hR, vR_r2 hR, vR_g3 hR, vR_p3 hR, vR_g4 hR, vR_p4 hR, vR_r5 hR, vR_g6 hR, vR_p6 hR, vR_r7 hR, vR_r8 hR, vR_g9 hR, vR_p9 hR, vR_n29 hR, vR_a29 hR, vR_s29 hR, vR_n30 hR, vR_a30 hR, vR_s30 hR, hk]
    · unfold f_M_stop f_M_stop_27 f_M_stop_28
      simp (disch := omega) only [li_0, li_1, li_2, li_3, li_4, li_5, li_6, li_7, li_8, li_9, li_10, li_11, li_12, li_13, li_14, li_15, li_16, li_17, li_18, li_19, li_20, li_21, li_31, li_32, li_33, li_40, li_41, li_43, li_48, li_57, li_59, li_60, li_61, li_62, li_64, li_97, li_99, li_100, li_101, li_102, li_112, li_119, li_126, li_189, li_255, li_300, li_369, li_400, li_999, li_5000, li_9999, li_12345, li_99999, li_1103515245, i2_add, i2_sub, i2_mul, i2_neg, i2_le, i2_lt, i2_eq, r_rz, r_ci, r_cx, r_cv, r_vx, r_cr, r_rx, dr_ci', dr_cv', dr_cr', dr_gr', dr_x0, ↓reduceIte, Int.reduceLE, Int.reduceLT, Int.reduceEq, Int.reduceNeg, Int.reduceAdd, Int.reduceSub, Int.reduceMul, dl_t, dl_f, dle_t, dle_f, deq_t, deq_f, vM_k hmX, vM_g0 hmX, vM_p0 hmX, vM_g1 hmX, vM_p1 hmX, vM_g2 hmX, vM_p2 hmX, vM_r3 hmX, vM_g4 hmX, vM_p4 hmX, vM_g5 hmX, vM_p5 hmX, vM_g6 hmX, vM_p6 hmX, vM_r7 hmX, vM_r8 hmX, vM_r9 hmX, vM_r10 hmX, vM_r11 hmX, vM_r12 hmX, vM_r13 hmX, vM_r14 hmX, vM_r15 hmX, vM_r16 hmX, vM_r17 hmX, vM_r18 hmX, vM_g19 hmX, vM_p19 hmX, vM_r20 hmX, vM_r21 hmX, vM_r22 hmX, vM_r23 hmX, vM_r24 hmX, vM_r25 hmX, vM_r26 hmX, vM_g27 hmX, vM_p27 hmX, vM_r28 hmX, vM_r29 hmX, vM_r30 hmX, vM_r31 hmX, vM_n32 hmX, vM_a32 hmX, vM_s32 hmX, vM_n33 hmX, vM_a33 hmX, vM_s33 hmX, vM_n34 hmX, vM_a34 hmX, vM_s34 hmX, vM_n35 hmX, vM_a35 hmX, vM_s35 hmX, vM_n36 hmX, vM_a36 hmX, vM_s36 hmX, vM_n37 hmX, vM_a37 hmX, vM_s37 hmX, vM_n38 hmX, vM_a38 hmX, vM_s38 hmX, vM_n39 hmX, vM_a39 hmX, vM_s39 hmX, vM_n40 hmX, vM_a40 hmX, vM_s40 hmX, vM_n41 hmX, vM_a41 hmX, vM_s41 hmX, vM_n42 hmX, vM_a42 hmX, vM_s42 hmX, vM_n43 hmX, vM_a43 hmX, vM_s43 hmX, vM_n44 hmX, vM_a44 hmX, vM_s44 hmX, vM_n45 hmX, vM_a45 hmX, vM_s45 hmX, vM_n46 hmX, vM_a46 hmX, vM_s46 hmX, vM_n47 hmX, vM_a47 hmX, vM_s47 hmX, vM_n48 hmX, vM_a48 hmX, vM_s48 hmX, vM_n49 hmX, vM_a49 hmX, vM_s49 hmX, vM_n50 hmX, vM_a50 hmX, vM_s50 hmX, vM_n51 hmX, vM_a51 hmX, vM_s51 hmX, vM_n52 hmX, vM_a52 hmX, vM_s52 hmX, vM_n53 hmX, vM_a53 hmX, vM_s53 hmX, vM_n54 hmX, vM_a54 hmX, vM_s54 hmX, vM_n55 hmX, vM_a55 hmX, vM_s55 hmX, is_n hmX, g_000 hmX, g_001 hmX, g_010 hmX, g_011 hmX, g_100 hmX, g_101 hmX, g_110 hmX, g_111 hmX]
