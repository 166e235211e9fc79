/-! ===== begin, as a call ===== -/
theorem nD_0 : ∀ j y, defaultValue (nt_D j) = .int y → y = 0 := by
  intro j y
  unfold nt_D
  split <;> (intro e; first | (injection e with e; exact e.symm) | (exact absurd e (by simp [defaultValue])))
section OB
variable {L k nd : Nat} {h : dr_AH} {c : Nat → Int → Int} {da sa : Nat → Nat} {cs sp : Nat}
/-- the class has made its drill, nothing is looked at -/
def BP (c cP : Nat → Int → Int) (nd d cs : Nat) : Prop := (∀ q j, q < d → ¬ (q = cs ∧ j = 12) → ¬ (q = 1 ∧ j = 6) → cP q j = c q j) ∧ cP cs 12 = 1 ∧ cP 1 6 = nd + 1 ∧ cP d 1 = c 1 4 ∧ cP d 2 = 1 ∧ cP d 4 = 0 ∧ cP d 8 = 0 ∧ (∀ j, 0 ≤ j → j < 41 → cP (d + 1) j = -1) ∧ (∀ j, 0 ≤ j → j < 20 → cP (d + 2) j = -1)
theorem BP_D9 {cP : Nat → Int → Int} {d : Nat} (S : St L k h c nd da sa cs sp) (hd : d = h.1 + 1) (hn : nd < 8) (P : BP c cP nd d cs) : D9 (bM cP nd (c 31 1)) nd d cs := by
  obtain ⟨hl, hA, hI, hT, hU, hW, b1, b2⟩ := S
  obtain ⟨y0, y1, y2, y3, y4, y5, y6⟩ := hA
  unfold sad at y1 y2
  obtain ⟨i1, i2', i3, i4, i5, i6, i7, i8, i9⟩ := hI
  obtain ⟨p1, p2, p3, p4, p5, p6, p7, p8, p9⟩ := P
  have i5' := i5 nd (by omega) (by omega)
  have cl : ∀ q j, q < 31 ∨ 55 < q → bM cP nd (c 31 1) q j = cP q j := fun q j hq => bM_n (by omega) (by omega) (by omega) (by omega) (by omega)
  have m46 : bM cP nd (c 31 1) 46 nd = 0 := by rw [bM_n (by omega) (by omega) (by omega) (by omega) (by omega), p1 46 _ (by omega) (by omega) (by omega)]; exact i5'.1
  have m48 : bM cP nd (c 31 1) 48 nd = 0 := by rw [bM_n (by omega) (by omega) (by omega) (by omega) (by omega), p1 48 _ (by omega) (by omega) (by omega)]; exact i5'.2
  have m31 : bM cP nd (c 31 1) 31 1 = c 31 1 := by rw [bM_n (by omega) (by omega) (by omega) (by omega) (by omega), p1 31 _ (by omega) (by omega) (by omega)]
  have m45 : bM cP nd (c 31 1) 45 nd = c 31 1 := bM_45
  have m47 : ∀ n, 1 ≤ n → n ≤ 40 → bM cP nd (c 31 1) 47 (nd * 41 + n) = -1 := fun n n1 n2 => bM_47 (by omega) (by omega)
  refine ⟨SRel_f i3 (fun q j q1 q2 q3 => ?_) (fun q n q1 q2 n1 n2 => ?_) (fun q n q1 q2 n1 n2 => ?_), ?_, ?_, fun n n1 n2 => ?_, ?_, ?_, fun k k1 k2 => ?_, fun k k' k1 k2 k3 => ?_, fun a a1 a2 => ?_⟩
  · rw [cl q j (by omega), p1 q j (by omega) (by omega) (by omega)]
  · rw [bM_e (by omega) (by omega) (by omega), p1 q _ (by omega) (by omega) (by omega)]
  · rw [bM_a (by omega) (by omega) (by omega), p1 q _ (by omega) (by omega) (by omega)]
  · rw [cl d 1 (by omega), p4, m45, m31]; omega
  · rw [cl d 2 (by omega), p5, m46]; omega
  · rw [cl (d + 1) n (by omega), p8 n (by omega) (by omega), m47 n n1 n2]
    exact ⟨rfl, by omega, fun g => by omega⟩
  · rw [cl d 4 (by omega), p6]
    unfold mbc
    rw [sm_c (g := fun _ => 0) 40 (fun n n1 n2 => by rw [m47 n n1 (by omega)]; rfl)]
    rfl
  · rw [cl d 8 (by omega), p7, m48]; omega
  · rw [m48] at k2; omega
  · rw [m48] at k3; omega
  · rw [cl (d + 2) a (by omega), p9 a a1 (by omega)]
    unfold mft
    rw [m48]
    rfl
theorem o_begin (S : St L k h c nd da sa cs sp) (hk : k ≤ 600) : OPK (f_L_begin 1 56) (f_M_begin 31) L k h c := by
  have S0 := S
  obtain ⟨hl, hA, hI, hT, hU, hW, b1, b2⟩ := S
  have hm0 := hl.1
  have hR := hl.2.2.1
  have hSc := hl.2.2.2.1
  have h5 := hl.2.2.2.2.2.2.2.1
  have h28 := hl.2.2.2.2.2.1
  obtain ⟨y0, y1, y2, y3, y4, y5, y6⟩ := id hA
  unfold sad at y1 y2
  obtain ⟨i1, i2', i3, i4, i5, i6, i7, i8, i9⟩ := id hI
  have hsum : c cs 7 = sm (fun n => c 33 (328 + n)) 40 := by
    rw [i3.2.2.1]
    exact sm_c 40 (fun n n1 n2 => (i3.1 n n1 (by omega)).1)
  have hsb := sm_b (f := fun n => c 33 (328 + n)) (B := 1) 40 (fun n n1 n2 => by have := (i4 (328 + n)).1; omega)
  by_cases e0 : c cs 7 = 0
  · have hth := r_th (h := h) (c := c) (E := "java/lang/IllegalStateException") (by omega) (by omega)
    refine Q_OP ⟨nd, da, sa, cs, sp, S0⟩ ⟨1, 0, by omega, ?_, fun h' hm => ?_⟩
    · unfold f_L_begin f_R_begin
      rw [hE_x (by omega)]
      simp (disch := omega) only [li_0, li_1, li_2, li_3, li_4, li_5, li_6, li_7, li_8, li_9, li_10, li_11, li_12, li_13, li_14, li_15, li_16, li_17, li_18, li_19, li_20, li_21, li_31, li_32, li_33, li_40, li_41, li_43, li_48, li_57, li_59, li_60, li_61, li_62, li_64, li_97, li_99, li_100, li_101, li_102, li_112, li_119, li_126, li_189, li_255, li_300, li_369, li_400, li_999, li_5000, li_9999, li_12345, li_99999, li_1103515245, i2_add, i2_sub, i2_mul, i2_neg, i2_le, i2_lt, i2_eq, r_rz, r_ci, r_cx, r_cv, r_vx, r_cr, r_rx, dr_ci', dr_cv', dr_cr', dr_gr', dr_x0, ↓reduceIte, Int.reduceLE, Int.reduceLT, Int.reduceEq, Int.reduceNeg, Int.reduceAdd, Int.reduceSub, Int.reduceMul, vR_k hR, vR_r0 hR, vR_r1 hR, vR_r2 hR, vR_g3 hR, vR_p3 hR, vR_g4 hR, vR_p4 hR, vR_r5 hR, vR_g6 hR, vR_p6 hR, vR_r7 hR, vR_r8 hR, vR_g9 hR, vR_p9 hR, vR_n29 hR, vR_a29 hR, vR_s29 hR, vR_n30 hR, vR_a30 hR, vR_s30 hR, vS_k hSc, vS_r0 hSc, vS_r1 hSc, vS_r2 hSc, vS_r3 hSc, vS_r4 hSc, vS_r5 hSc, vS_r6 hSc, vS_g7 hSc, vS_p7 hSc, vS_r8 hSc, vS_r9 hSc, vS_r10 hSc, vS_r11 hSc, vS_g12 hSc, vS_p12 hSc, vS_n1 hSc, vS_a1 hSc, vS_s1 hSc, vS_n2 hSc, vS_a2 hSc, vS_s2 hSc, vS_n3 hSc, vS_a3 hSc, vS_s3 hSc, vS_n4 hSc, vS_a4 hSc, vS_s4 hSc, vS_n5 hSc, vS_a5 hSc, vS_s5 hSc, vS_n6 hSc, vS_a6 hSc, vS_s6 hSc, vS_n7 hSc, vS_a7 hSc, vS_s7 hSc, vS_n8 hSc, vS_a8 hSc, vS_s8 hSc, vS_n9 hSc, vS_a9 hSc, vS_s9 hSc, vS_n10 hSc, vS_a10 hSc, vS_s10 hSc, vS_n11 hSc, vS_a11 hSc, vS_s11 hSc, e0, hth]
    · have hs := m_size hm i4 (s := 8) (by omega) (by omega)
      rw [show (fun k => c 33 (8 * 41 + k)) = (fun k => c 33 (328 + k)) from rfl, ← hsum, e0] at hs
      unfold f_M_begin f_M_begin_15 f_M_begin_29
      by_cases e1 : 8 ≤ c 31 19
      · simp (disch := omega) only [li_0, li_1, li_2, li_3, li_4, li_5, li_6, li_7, li_8, li_9, li_10, li_11, li_12, li_13, li_14, li_15, li_16, li_17, li_18, li_19, li_20, li_21, li_31, li_32, li_33, li_40, li_41, li_43, li_48, li_57, li_59, li_60, li_61, li_62, li_64, li_97, li_99, li_100, li_101, li_102, li_112, li_119, li_126, li_189, li_255, li_300, li_369, li_400, li_999, li_5000, li_9999, li_12345, li_99999, li_1103515245, i2_add, i2_sub, i2_mul, i2_neg, i2_le, i2_lt, i2_eq, r_rz, r_ci, r_cx, r_cv, r_vx, r_cr, r_rx, dr_ci', dr_cv', dr_cr', dr_gr', dr_x0, ↓reduceIte, Int.reduceLE, Int.reduceLT, Int.reduceEq, Int.reduceNeg, Int.reduceAdd, Int.reduceSub, Int.reduceMul, dl_t, dl_f, dle_t, dle_f, deq_t, deq_f, vM_k hm, vM_g0 hm, vM_p0 hm, vM_g1 hm, vM_p1 hm, vM_g2 hm, vM_p2 hm, vM_r3 hm, vM_g4 hm, vM_p4 hm, vM_g5 hm, vM_p5 hm, vM_g6 hm, vM_p6 hm, vM_r7 hm, vM_r8 hm, vM_r9 hm, vM_r10 hm, vM_r11 hm, vM_r12 hm, vM_r13 hm, vM_r14 hm, vM_r15 hm, vM_r16 hm, vM_r17 hm, vM_r18 hm, vM_g19 hm, vM_p19 hm, vM_r20 hm, vM_r21 hm, vM_r22 hm, vM_r23 hm, vM_r24 hm, vM_r25 hm, vM_r26 hm, vM_g27 hm, vM_p27 hm, vM_r28 hm, vM_r29 hm, vM_r30 hm, vM_r31 hm, vM_n32 hm, vM_a32 hm, vM_s32 hm, vM_n33 hm, vM_a33 hm, vM_s33 hm, vM_n34 hm, vM_a34 hm, vM_s34 hm, vM_n35 hm, vM_a35 hm, vM_s35 hm, vM_n36 hm, vM_a36 hm, vM_s36 hm, vM_n37 hm, vM_a37 hm, vM_s37 hm, vM_n38 hm, vM_a38 hm, vM_s38 hm, vM_n39 hm, vM_a39 hm, vM_s39 hm, vM_n40 hm, vM_a40 hm, vM_s40 hm, vM_n41 hm, vM_a41 hm, vM_s41 hm, vM_n42 hm, vM_a42 hm, vM_s42 hm, vM_n43 hm, vM_a43 hm, vM_s43 hm, vM_n44 hm, vM_a44 hm, vM_s44 hm, vM_n45 hm, vM_a45 hm, vM_s45 hm, vM_n46 hm, vM_a46 hm, vM_s46 hm, vM_n47 hm, vM_a47 hm, vM_s47 hm, vM_n48 hm, vM_a48 hm, vM_s48 hm, vM_n49 hm, vM_a49 hm, vM_s49 hm, vM_n50 hm, vM_a50 hm, vM_s50 hm, vM_n51 hm, vM_a51 hm, vM_s51 hm, vM_n52 hm, vM_a52 hm, vM_s52 hm, vM_n53 hm, vM_a53 hm, vM_s53 hm, vM_n54 hm, vM_a54 hm, vM_s54 hm, vM_n55 hm, vM_a55 hm, vM_s55 hm, hs, g_000 hm, g_001 hm, g_010 hm, g_011 hm, g_100 hm, g_101 hm, g_110 hm, g_111 hm]
      · simp (disch := omega) only [li_0, li_1, li_2, li_3, li_4, li_5, li_6, li_7, li_8, li_9, li_10, li_11, li_12, li_13, li_14, li_15, li_16, li_17, li_18, li_19, li_20, li_21, li_31, li_32, li_33, li_40, li_41, li_43, li_48, li_57, li_59, li_60, li_61, li_62, li_64, li_97, li_99, li_100, li_101, li_102, li_112, li_119, li_126, li_189, li_255, li_300, li_369, li_400, li_999, li_5000, li_9999, li_12345, li_99999, li_1103515245, i2_add, i2_sub, i2_mul, i2_neg, i2_le, i2_lt, i2_eq, r_rz, r_ci, r_cx, r_cv, r_vx, r_cr, r_rx, dr_ci', dr_cv', dr_cr', dr_gr', dr_x0, ↓reduceIte, Int.reduceLE, Int.reduceLT, Int.reduceEq, Int.reduceNeg, Int.reduceAdd, Int.reduceSub, Int.reduceMul, dl_t, dl_f, dle_t, dle_f, deq_t, deq_f, vM_k hm, vM_g0 hm, vM_p0 hm, vM_g1 hm, vM_p1 hm, vM_g2 hm, vM_p2 hm, vM_r3 hm, vM_g4 hm, vM_p4 hm, vM_g5 hm, vM_p5 hm, vM_g6 hm, vM_p6 hm, vM_r7 hm, vM_r8 hm, vM_r9 hm, vM_r10 hm, vM_r11 hm, vM_r12 hm, vM_r13 hm, vM_r14 hm, vM_r15 hm, vM_r16 hm, vM_r17 hm, vM_r18 hm, vM_g19 hm, vM_p19 hm, vM_r20 hm, vM_r21 hm, vM_r22 hm, vM_r23 hm, vM_r24 hm, vM_r25 hm, vM_r26 hm, vM_g27 hm, vM_p27 hm, vM_r28 hm, vM_r29 hm, vM_r30 hm, vM_r31 hm, vM_n32 hm, vM_a32 hm, vM_s32 hm, vM_n33 hm, vM_a33 hm, vM_s33 hm, vM_n34 hm, vM_a34 hm, vM_s34 hm, vM_n35 hm, vM_a35 hm, vM_s35 hm, vM_n36 hm, vM_a36 hm, vM_s36 hm, vM_n37 hm, vM_a37 hm, vM_s37 hm, vM_n38 hm, vM_a38 hm, vM_s38 hm, vM_n39 hm, vM_a39 hm, vM_s39 hm, vM_n40 hm, vM_a40 hm, vM_s40 hm, vM_n41 hm, vM_a41 hm, vM_s41 hm, vM_n42 hm, vM_a42 hm, vM_s42 hm, vM_n43 hm, vM_a43 hm, vM_s43 hm, vM_n44 hm, vM_a44 hm, vM_s44 hm, vM_n45 hm, vM_a45 hm, vM_s45 hm, vM_n46 hm, vM_a46 hm, vM_s46 hm, vM_n47 hm, vM_a47 hm, vM_s47 hm, vM_n48 hm, vM_a48 hm, vM_s48 hm, vM_n49 hm, vM_a49 hm, vM_s49 hm, vM_n50 hm, vM_a50 hm, vM_s50 hm, vM_n51 hm, vM_a51 hm, vM_s51 hm, vM_n52 hm, vM_a52 hm, vM_s52 hm, vM_n53 hm, vM_a53 hm, vM_s53 hm, vM_n54 hm, vM_a54 hm, vM_s54 hm, vM_n55 hm, vM_a55 hm, vM_s55 hm, hs, g_000 hm, g_001 hm, g_010 hm, g_011 hm, g_100 hm, g_101 hm, g_110 hm, g_111 hm]
  · by_cases e1 : nd < 8
    · have D0 : (dr_push h (0, 9, fun k => defaultValue (nt_D k))).2.2 (h.1 + 1) = (0, 9, fun k => defaultValue (nt_D k)) := push_hi
      obtain ⟨h', c', s1, s2, s3, s4, s5, s6, s7, s8, s9⟩ := d_init (h := dr_push h (0, 9, fun k => defaultValue (nt_D k))) (c := zer c (h.1 + 1)) (s := h.1 + 1) (u := cs) (v := c 1 4) rfl (by rw [D0]) (by unfold sI; rw [D0]; exact ⟨0, rfl⟩) (by unfold sI; rw [D0]; exact ⟨0, rfl⟩) (by unfold sI; rw [D0]; exact ⟨0, rfl⟩) (by unfold sI; rw [D0]; exact ⟨0, rfl⟩) (show h.1 + 1 + 4 < 601024 by omega) (show h.2.1 + 9 + 181 ≤ 7293034 by omega)
      have lo : ∀ a, a ≤ h.1 → h'.2.2 a = h.2.2 a := fun a ha => by rw [s5 a (by omega), push_lo ha]
      have clo : ∀ q j, q ≤ h.1 → c' q j = c q j := fun q j hq => by rw [s6 q j (by omega), zer_n _ (by omega)]
      have hR' : LaR h' cs sp := LaR_f (fun a ha => lo a (by omega)) hR
      have hSc' : LaS h' cs := LaS_f (fun a a1 a2 => lo a (by omega)) hSc
      have lo2 : ∀ a, a ≤ h.1 → a ≠ 28 → (dr_put h' 28 nd (.ref (h.1 + 1))).2.2 a = h.2.2 a := fun a ha hn => by rw [put_ne hn, lo a ha]
      have hR2 : LaR (dr_put h' 28 nd (.ref (h.1 + 1))) cs sp := LaR_f (fun a ha => put_ne (by omega)) hR'
      have hSc2 : LaS (dr_put h' 28 nd (.ref (h.1 + 1))) cs := LaS_f (fun a a1 a2 => put_ne (by omega)) hSc'
      have hSp2 : LaS (dr_put h' 28 nd (.ref (h.1 + 1))) sp := LaS_f (fun a a1 a2 => lo2 a (by omega) (by omega)) hl.2.2.2.2.1
      have hD2 : LaD (dr_put h' 28 nd (.ref (h.1 + 1))) (h.1 + 1) cs := LaD_f (fun a a1 a2 => put_ne (by omega)) s4
      have P : BP c (up (up c' cs 12 1) 1 6 (nd + 1)) nd (h.1 + 1) cs := by
        refine ⟨fun q j q1 q2 q3 => ?_, ?_, up_same _ _ _ _, ?_, ?_, ?_, ?_, fun j j1 j2 => ?_, fun j j1 j2 => ?_⟩
        · rw [up_c31 _ q3, up_c31 _ q2, clo q j (by omega)]
        · rw [up_c31 _ (by omega), up_same]
        · rw [up_c31 _ (by omega), up_c31 _ (by omega)]; exact s7.1
        · rw [up_c31 _ (by omega), up_c31 _ (by omega)]; exact s7.2.1
        · rw [up_c31 _ (by omega), up_c31 _ (by omega)]; exact s7.2.2.1
        · rw [up_c31 _ (by omega), up_c31 _ (by omega)]; exact s7.2.2.2
        · rw [up_c31 _ (by omega), up_c31 _ (by omega)]; exact s8 j j1 j2
        · rw [up_c31 _ (by omega), up_c31 _ (by omega)]; exact s9 j j1 j2
      generalize hcP : up (up c' cs 12 1) 1 6 (nd + 1) = cP at P
      have D9' := BP_D9 S0 rfl e1 P
      have P' := P
      obtain ⟨p1, p2, p3, p4, p5, p6, p7, p8, p9⟩ := P'
      have hds : DS (h.1 + 1) cs := by unfold DS; omega
      have cl : ∀ q, q < 31 ∨ 55 < q → bM cP nd (c 31 1) q = cP q := fun q hq => funext fun j => bM_n (by omega) (by omega) (by omega) (by omega) (by omega)
      have m31 : bM cP nd (c 31 1) 31 1 = c 31 1 := by rw [bM_n (by omega) (by omega) (by omega) (by omega) (by omega), p1 31 _ (by omega) (by omega) (by omega)]
      have m45 : bM cP nd (c 31 1) 45 nd = c 31 1 := bM_45
      have hMH := D9_MH D9' (by omega) (by omega) (by rw [m31]; exact i2'.2.2)
      have hCH : CH cP (h.1 + 1) cs := CH_c (D9_CH D9' (by omega) (by omega) (by rw [m31]; exact i2'.2.2)) (fun q hq => (cl q (by omega)).symm)
      have hbe := c_begin hD2 hSc2 hds hCH (t := c 1 4) (by rw [p4]; omega) (by omega)
      rw [p4, show c 1 4 - c 1 4 = 0 by omega] at hbe
      have xB : ∀ q, 31 ≤ q → q ≤ 55 → ∀ j, ¬ (q = 31 ∧ j = 0) → up (bdc cP (h.1 + 1) cs 0 40) (h.1 + 1) 4 (cP (h.1 + 1) 4 + sm (fun n => bz (cev cP (h.1 + 1) cs 0 n)) 40) q j = cP q j := by
        intro q q1 q2 j _
        rw [up_c31 _ (by omega), bdc_n' _ (by omega)]
      generalize hcB : up (bdc cP (h.1 + 1) cs 0 40) (h.1 + 1) 4 (cP (h.1 + 1) 4 + sm (fun n => bz (cev cP (h.1 + 1) cs 0 n)) 40) = cB at hbe xB
      have cBc : ∀ q j, q ≤ h.1 → cB q j = cP q j := by
        intro q j hq
        rw [← hcB, up_c31 _ (by omega), bdc_n' _ (by omega)]
      have Zm : ∀ q, 31 ≤ q → q ≤ 55 → ∀ j, ¬ (q = 31 ∧ j = 0) → bM cB nd (c 31 1) q j = bM cP nd (c 31 1) q j := fun q q1 q2 j _ => bM_X xB q1 q2 j
      have Zc : ∀ q j, q < 31 ∨ 55 < q → bM cB nd (c 31 1) q j = cB q j := fun q j hq => bM_n (by omega) (by omega) (by omega) (by omega) (by omega)
      have hMHB : MH (bM cB nd (c 31 1)) nd := MH_c hMH Zm
      have mBB : mB cB := by
        intro j
        rw [xB 33 (by omega) (by omega) j (by omega), xB 38 (by omega) (by omega) j (by omega), xB 40 (by omega) (by omega) j (by omega), p1 33 j (by omega) (by omega) (by omega), p1 38 j (by omega) (by omega) (by omega), p1 40 j (by omega) (by omega) (by omega)]
        exact i4 j
      have ssm : sm (fun k => cB 33 (328 + k)) 40 = sm (fun n => c 33 (328 + n)) 40 := sm_c 40 (fun n _ _ => by rw [xB 33 (by omega) (by omega) _ (by omega), p1 33 _ (by omega) (by omega) (by omega)])
      have hme : ∀ h'', LaM h'' → f_M_begin 31 (wr h'' cB) = some (.inl (some (.int (i2 nd))), wr h'' (lkc (bM cB nd (c 31 1)) nd 40)) := fun h'' hm => m_begok hm mBB (by omega) (by omega) (by rw [xB 31 (by omega) (by omega) 19 (by omega), p1 31 19 (by omega) (by omega) (by omega)]; exact i1.2.2) (by rw [xB 31 (by omega) (by omega) 1 (by omega), p1 31 1 (by omega) (by omega) (by omega)]) (by rw [ssm]; omega) (by rw [ssm]; omega) hMHB
      have mel := fun n => mev_c Zm nd n
      have eT : (0 : Int) = bM cP nd (c 31 1) 31 1 - bM cP nd (c 31 1) 45 nd := by rw [m31, m45]; omega
      have cec := fun m => cev_c (cl (cs + 1) (by omega)) (cl (h.1 + 1 + 1) (by omega)) (cl (cs + 2) (by omega)) (cl (cs + 3) (by omega)) (cl (cs + 4) (by omega)) (cl (h.1 + 1 + 2) (by omega)) 0 m
      have cdc := cdu_c (cl (cs + 2) (by omega)) (cl (cs + 3) (by omega)) (cl (cs + 4) (by omega)) (cl (h.1 + 1 + 2) (by omega))
      have DRn : DR (lkc (bM cB nd (c 31 1)) nd 40) nd (h.1 + 1) cs := by
        refine PL D9' (by omega) (by omega) (by rw [m31]; exact i2'.2.2) (by omega) y1.1 hds eT (fun q j hq h1 h2 h3 => ?_) (fun n n1 n2 => ?_) (fun n n1 n2 => ?_) ?_
        · rw [lkc_n' _ (by omega)]
          by_cases hq2 : 31 ≤ q ∧ q ≤ 55
          · by_cases h0 : q = 31 ∧ j = 0
            · rw [h0.1, h0.2, bM_0, bM_0]
            · exact Zm q hq2.1 hq2.2 j h0
          · rw [Zc q j (by omega), cl q (by omega), ← hcB, up_c31 _ h2, bdc_n' _ (by omega)]
        · rw [lkc_n' _ (by omega), Zc _ _ (by omega), ← hcB, up_c31 _ (by omega), bdc_y _ n1 n2]
          by_cases ee : cev cP (h.1 + 1) cs 0 n
          · rw [if_pos ee, if_pos ((cec n).mpr ee), cdc n]
          · rw [if_neg ee, if_neg (fun hh => ee ((cec n).mp hh)), cl (h.1 + 1 + 1) (by omega)]
        · rw [lkc_y _ n1 n2]
          by_cases ee : mev (bM cP nd (c 31 1)) nd n
          · rw [if_pos ee, if_pos ((mel n).2.mpr ee), Zm 31 (by omega) (by omega) 1 (by omega), Zm 45 (by omega) (by omega) _ (by omega)]
            have e2 := ee.2.2
            have hr := mdu_r hMH n1 n2 ee.1
            rw [← eT] at e2 ⊢
            omega
          · rw [if_neg ee, if_neg (fun hh => ee ((mel n).2.mp hh)), Zm 47 (by omega) (by omega) _ (by omega)]
        · rw [lkc_n' _ (by omega), Zc _ _ (by omega), ← hcB, up_same, cl (h.1 + 1) (by omega)]
          congr 1
          refine sm_c 40 (fun m _ _ => ?_)
          unfold bz
          by_cases ee : cev cP (h.1 + 1) cs 0 m
          · rw [if_pos ee, if_pos ((cec m).mpr ee)]
          · rw [if_neg ee, if_neg (fun hh => ee ((cec m).mp hh))]
      have F2 : ∀ (q : Nat) (j : Int), q ≤ h.1 → (q = cs → j = 12 → c cs 12 = 1) → ¬ (q = 1 ∧ j = 6) → ¬ (q = 31 ∧ (j = 0 ∨ j = 19)) → ¬ (33 ≤ q ∧ q ≤ 39 ∧ (nd : Int) * 41 ≤ j ∧ j < nd * 41 + 41) → ¬ (40 ≤ q ∧ q ≤ 44 ∧ (nd : Int) * 21 ≤ j ∧ j < nd * 21 + 21) → ¬ (q = 45 ∧ j = nd) → ¬ (q = 47 ∧ (nd : Int) * 41 ≤ j ∧ j < nd * 41 + 41) → lkc (bM cB nd (c 31 1)) nd 40 q j = c q j := by
        intro q j f0 f1 f2 f3 f4 f5 f6 f7
        rw [lkc_n' _ (by omega), bM_n f4 f5 f6 f7 f3, cBc q j f0]
        by_cases ec : q = cs ∧ j = 12
        · rw [ec.1, ec.2, p2]
          exact (f1 ec.1 ec.2).symm
        · exact p1 q j (by omega) ec f2
      have hLay : Lay L (dr_put h' 28 nd (.ref (h.1 + 1))) (nd + 1) (fun i => if i = nd then h.1 + 1 else da i) (fun i => if i = nd then cs else sa i) cs sp := by
        obtain ⟨l1, l2, l3, l4, l5, l6, l7, l8, l9⟩ := hl
        refine ⟨LaM_f (fun a a1 a2 => lo2 a (by omega) (by omega)) l1, LaT_f (fun a a1 a2 => lo2 a (by omega) (by omega)) l2, hR2, hSc2, hSp2, ⟨?_, ?_, fun i hi => ?_⟩, fun i hi => ?_, ?_, ?_⟩
        · rw [put_eq, lo 28 (by omega)]; exact l6.1
        · rw [put_eq, lo 28 (by omega)]; exact l6.2.1
        · rw [put_eq, lo 28 (by omega)]
          show (if i = nd then Value.ref (h.1 + 1) else (h.2.2 28).2.2 i) = _
          rw [l6.2.2 i hi]
          dsimp only
          by_cases ei : i = nd
          · rw [if_pos ei, if_pos (by omega), if_pos ei]
          · rw [if_neg ei, if_neg ei]
            by_cases ej : i < nd
            · rw [if_pos ej, if_pos (by omega)]
            · rw [if_neg ej, if_neg (by omega)]
        · dsimp only
          by_cases ei : i = nd
          · rw [if_pos ei, if_pos ei]
            exact ⟨hD2, hSc2⟩
          · have w4 := y4 i (by omega)
            have w7 := w4.2.1
            unfold sad at w7
            rw [if_neg ei, if_neg ei]
            exact ⟨LaD_f (fun a a1 a2 => lo2 a (by omega) (by omega)) (l7 i (by omega)).1, LaS_f (fun a a1 a2 => lo2 a (by omega) (by omega)) (l7 i (by omega)).2⟩
        · rw [lo2 56 (by omega) (by omega)]; exact l8
        · unfold sA sI at l9 ⊢
          rw [lo2 0 (by omega) (by omega)]; exact l9
      have hAdr : Adr (dr_put h' 28 nd (.ref (h.1 + 1))).1 (nd + 1) (fun i => if i = nd then h.1 + 1 else da i) (fun i => if i = nd then cs else sa i) cs sp := by
        show Adr h'.1 _ _ _ _ _
        rw [s2]
        unfold DS at y4 y5
        unfold SD at y3 y4
        refine ⟨by omega, ⟨y1.1, by omega⟩, ⟨y2.1, by omega⟩, by unfold SD; omega, fun i hi => ?_, fun i j hi hj => ?_, fun i j hi hj hne => ?_⟩
        · dsimp only
          by_cases ei : i = nd
          · rw [if_pos ei, if_pos ei]
            exact ⟨⟨by omega, by omega⟩, ⟨y1.1, by omega⟩, by unfold DS; omega, by unfold DS; omega, by unfold SD; omega⟩
          · have w4 := y4 i (by omega)
            have w7 := w4.2.1
            unfold sad at w7
            rw [if_neg ei, if_neg ei]
            exact ⟨⟨w4.1.1, by omega⟩, ⟨w7.1, by omega⟩, by unfold DS; omega, by unfold DS; omega, by unfold SD; omega⟩
        · dsimp only
          unfold DS
          by_cases ei : i = nd
          · by_cases ej : j = nd
            · rw [if_pos ei, if_pos ej]; omega
            · have w7 := (y4 j (by omega)).2.1
              unfold sad at w7
              rw [if_pos ei, if_neg ej]; omega
          · have w4 := y4 i (by omega)
            by_cases ej : j = nd
            · rw [if_neg ei, if_pos ej]; omega
            · have := y5 i j (by omega) (by omega)
              rw [if_neg ei, if_neg ej]; omega
        · dsimp only
          by_cases ei : i = nd
          · have w4 := y4 j (by omega)
            rw [if_pos ei, if_neg (by omega)]; omega
          · by_cases ej : j = nd
            · have w4 := y4 i (by omega)
              rw [if_neg ei, if_pos ej]; omega
            · rw [if_neg ei, if_neg ej]
              exact y6 i j (by omega) (by omega) hne
      refine ⟨0, nd, nd, dr_put h' 28 nd (.ref (h.1 + 1)), cB, lkc (bM cB nd (c 31 1)) nd 40, by omega, ?_, ?_, ?_, fun _ => rfl, ?_, fun j => ?_⟩
      · have hnw := fun (K : Nat → dr_AH → Option (dr_RS × dr_AH)) => r_nw (h := h) (c := c) (ci := 0) (N := 9) (f := fun k => defaultValue (nt_D k)) (K := K) (show h.1 < 601024 by omega) (show h.2.1 + 9 ≤ 7293034 by omega) nD_0
        have hRn : LaR (dr_push h (0, 9, fun k => defaultValue (nt_D k))) cs sp := LaR_f (fun a ha => push_lo (by omega)) hR
        have q14 : zer c (h.1 + 1) 1 4 = c 1 4 := zer_n _ (by omega)
        have q16 : up c' cs 12 1 1 6 = nd := by rw [up_c31 _ (by omega), clo 1 6 (by omega)]; exact i1.2.1
        have r4 : cP 1 4 = c 1 4 := p1 1 4 (by omega) (by omega) (by omega)
        have r6 : cB 1 6 = nd + 1 := by rw [cBc 1 6 (by omega)]; exact p3
        have qe : ((nd : Int) + 1 - 1) = nd := by omega
        have hsr := fun (K : dr_AH → Option (dr_RS × dr_AH)) => r_sr (h := h') (c := up c' cs 12 1) (ci := 0) (a := 28) (j := nd) (x := h.1 + 1) (n := 8) (y := nd) (K := K) rfl (by rw [lo 28 (by omega)]; exact h28.1) (by rw [lo 28 (by omega)]; exact h28.2.1) (by omega) (by omega) e1 s4.1
        have h56 : ((dr_put h' 28 nd (.ref (h.1 + 1))).2.2 56).1 = 101 ∧ ((dr_put h' 28 nd (.ref (h.1 + 1))).2.2 56).2.1 = 1 := by
          rw [lo2 56 (by omega) (by omega)]; exact h5
        unfold f_L_begin f_R_begin
        rw [hE_0]
        simp (disch := omega) only [li_0, li_1, li_2, li_3, li_4, li_5, li_6, li_7, li_8, li_9, li_10, li_11, li_12, li_13, li_14, li_15, li_16, li_17, li_18, li_19, li_20, li_21, li_31, li_32, li_33, li_40, li_41, li_43, li_48, li_57, li_59, li_60, li_61, li_62, li_64, li_97, li_99, li_100, li_101, li_102, li_112, li_119, li_126, li_189, li_255, li_300, li_369, li_400, li_999, li_5000, li_9999, li_12345, li_99999, li_1103515245, i2_add, i2_sub, i2_mul, i2_neg, i2_le, i2_lt, i2_eq, r_rz, r_ci, r_cx, r_cv, r_vx, r_cr, r_rx, dr_ci', dr_cv', dr_cr', dr_gr', dr_x0, ↓reduceIte, Int.reduceLE, Int.reduceLT, Int.reduceEq, Int.reduceNeg, Int.reduceAdd, Int.reduceSub, Int.reduceMul, dl_t, dl_f, dle_t, dle_f, deq_t, deq_f, vR_k hR, vR_r0 hR, vR_r1 hR, vR_r2 hR, vR_g3 hR, vR_p3 hR, vR_g4 hR, vR_p4 hR, vR_r5 hR, vR_g6 hR, vR_p6 hR, vR_r7 hR, vR_r8 hR, vR_g9 hR, vR_p9 hR, vR_n29 hR, vR_a29 hR, vR_s29 hR, vR_n30 hR, vR_a30 hR, vR_s30 hR, vS_k hSc, vS_r0 hSc, vS_r1 hSc, vS_r2 hSc, vS_r3 hSc, vS_r4 hSc, vS_r5 hSc, vS_r6 hSc, vS_g7 hSc, vS_p7 hSc, vS_r8 hSc, vS_r9 hSc, vS_r10 hSc, vS_r11 hSc, vS_g12 hSc, vS_p12 hSc, vS_n1 hSc, vS_a1 hSc, vS_s1 hSc, vS_n2 hSc, vS_a2 hSc, vS_s2 hSc, vS_n3 hSc, vS_a3 hSc, vS_s3 hSc, vS_n4 hSc, vS_a4 hSc, vS_s4 hSc, vS_n5 hSc, vS_a5 hSc, vS_s5 hSc, vS_n6 hSc, vS_a6 hSc, vS_s6 hSc, vS_n7 hSc, vS_a7 hSc, vS_s7 hSc, vS_n8 hSc, vS_a8 hSc, vS_s8 hSc, vS_n9 hSc, vS_a9 hSc, vS_s9 hSc, vS_n10 hSc, vS_a10 hSc, vS_s10 hSc, vS_n11 hSc, vS_a11 hSc, vS_s11 hSc, r_d28 hl, hnw, vR_r1 hRn, vR_g4 hRn, q14, s1, vR_r1 hR', vS_p12 hSc', vR_r5 hR', vR_g6 hR', q16, hsr, vR_g6 hR2, vR_p6 hR2, hcP, vR_g4 hR2, r4, vD_k hD2, hbe, r6, qe, r_sl h56.1 h56.2]
      · exact hme _ (Lay_hE hAdr hLay).1
      · rw [lkc_n' _ (by omega), bM_0]
      · have h3 := hE_1 (h := dr_put h' 28 nd (.ref (h.1 + 1))) (k := 0) (v := nd)
        have h31 : (dr_put h' 28 nd (.ref (h.1 + 1))).1 = h.1 + 1 + 4 := s2
        have h32 : (dr_put h' 28 nd (.ref (h.1 + 1))).2.1 = h.2.1 + 9 + 181 := s3
        refine ⟨nd + 1, _, _, cs, sp, Lay_hE hAdr hLay, Adr_le hAdr h3.1, ⟨?_, ?_, SRel_f i3 (fun q j q1 q2 q3 => F2 q j ?_ ?_ ?_ ?_ ?_ ?_ ?_ ?_) (fun q n q1 q2 n1 n2 => F2 q _ (by omega) (by omega) (by omega) (by omega) (by omega) (by omega) (by omega) (by omega)) (fun q n q1 q2 n1 n2 => F2 q _ (by omega) (by omega) (by omega) (by omega) (by omega) (by omega) (by omega) (by omega)), fun j => ?_, fun j j1 j2 => ?_, fun i hi => ?_, ?_, fun g => ?_, fun j => ?_⟩, IT_f hT (fun q j hq => F2 q j ?_ ?_ ?_ ?_ ?_ ?_ ?_ ?_), IU_f hU (fun q j hq => F2 q j ?_ ?_ ?_ ?_ ?_ ?_ ?_ ?_), IW_f hW (fun q j hq => F2 q j ?_ ?_ ?_ ?_ ?_ ?_ ?_ ?_), by omega, by omega⟩
        · rw [lkc_n' _ (by omega), Zc 1 6 (by omega), cBc 1 6 (by omega), p3, lkc_n' _ (by omega), bM_19]
          omega
        · rw [F2 1 4 (by omega) (by omega) (by omega) (by omega) (by omega) (by omega) (by omega) (by omega), F2 31 1 (by omega) (by omega) (by omega) (by omega) (by omega) (by omega) (by omega) (by omega)]; exact i2'
        · omega
        · omega
        · omega
        · omega
        · omega
        · omega
        · omega
        · omega
        · have r1 := i4 j
          have r2 := i4 (328 + (j - nd * 41))
          have r3 := i4 (168 + (j - nd * 21))
          have gen : ∀ q, q = 33 ∨ q = 38 → lkc (bM cB nd (c 31 1)) nd 40 q j = c q j ∨ lkc (bM cB nd (c 31 1)) nd 40 q j = c q (328 + (j - nd * 41)) := by
            intro q hq
            by_cases hj : (nd : Int) * 41 ≤ j ∧ j < nd * 41 + 41
            · right
              rw [lkc_n' _ (by omega)]
              have := bM_e (X := cB) (n := nd) (now := c 31 1) (q := q) (k := j - nd * 41) (by omega) (by omega) (by omega)
              rw [show (nd : Int) * 41 + (j - nd * 41) = j by omega] at this
              rw [this, cBc q _ (by omega), p1 q _ (by omega) (by omega) (by omega)]
            · left
              exact F2 q j (by omega) (by omega) (by omega) (by omega) (by omega) (by omega) (by omega) (by omega)
          have gen2 : lkc (bM cB nd (c 31 1)) nd 40 40 j = c 40 j ∨ lkc (bM cB nd (c 31 1)) nd 40 40 j = c 40 (168 + (j - nd * 21)) := by
            by_cases hj : (nd : Int) * 21 ≤ j ∧ j < nd * 21 + 21
            · right
              rw [lkc_n' _ (by omega)]
              have := bM_a (X := cB) (n := nd) (now := c 31 1) (q := 40) (k := j - nd * 21) (by omega) (by omega) (by omega)
              rw [show (nd : Int) * 21 + (j - nd * 21) = j by omega] at this
              rw [this, cBc 40 _ (by omega), p1 40 _ (by omega) (by omega) (by omega)]
            · left
              exact F2 40 j (by omega) (by omega) (by omega) (by omega) (by omega) (by omega) (by omega) (by omega)
          have t1 := gen 33 (by omega)
          have t2 := gen 38 (by omega)
          omega
        · rw [F2 46 j (by omega) (by omega) (by omega) (by omega) (by omega) (by omega) (by omega) (by omega), F2 48 j (by omega) (by omega) (by omega) (by omega) (by omega) (by omega) (by omega) (by omega)]; exact i5 j (by omega) j2
        · dsimp only
          by_cases ei : i = nd
          · rw [if_pos ei, if_pos ei, ei]; exact DRn
          · have hi' : i < nd := by omega
            have w4 := y4 i hi'
            have w7 := w4.2.1
            unfold sad at w7
            rw [if_neg ei, if_neg ei]
            have hcs : ∀ q j, RD i (da i) (sa i) q j → q = cs → j = 12 → c cs 12 = 1 := by
              intro q j hq e1' e2'
              by_cases e0' : c cs 12 = 0
              · have w8 := i8 e0' i hi'
                have w9 := w4.2.2.1
                unfold SD at w8
                unfold DS at w9
                unfold RD at hq
                omega
              · omega
            refine DR_f (i6 i hi') w4.1.1 w7.1 (y5 i i hi' hi') (fun q j hq => F2 q j ?_ (hcs q j hq) ?_ ?_ ?_ ?_ ?_ ?_)
            all_goals (unfold RD at hq; omega)
        · unfold SD at y3
          rw [lkc_n' _ (by omega), Zc cs 12 (by omega), cBc cs 12 (by omega), p2, F2 sp 12 (by omega) (by omega) (by omega) (by omega) (by omega) (by omega) (by omega) (by omega)]
          omega
        · rw [lkc_n' _ (by omega), Zc cs 12 (by omega), cBc cs 12 (by omega), p2] at g
          omega
        · rw [F2 0 j (by omega) (by omega) (by omega) (by omega) (by omega) (by omega) (by omega) (by omega)]; exact i9 j
        all_goals first | (unfold RT at hq; omega) | (unfold RU at hq; omega) | (unfold RW at hq; omega)
      · rw [cBc 0 j (by omega), p1 0 j (by omega) (by omega) (by omega)]
    · have hth := r_th (h := h) (c := c) (E := "java/lang/UnsupportedOperationException") (by omega) (by omega)
      refine Q_OP ⟨nd, da, sa, cs, sp, S0⟩ ⟨2, 0, by omega, ?_, fun h' hm => ?_⟩
      · have hb7 : 0 ≤ c cs 7 ∧ c cs 7 ≤ 40 := by omega
        unfold f_L_begin f_R_begin
        rw [hE_x (by omega)]
        simp (disch := omega) only [li_0, li_1, li_2, li_3, li_4, li_5, li_6, li_7, li_8, li_9, li_10, li_11, li_12, li_13, li_14, li_15, li_16, li_17, li_18, li_19, li_20, li_21, li_31, li_32, li_33, li_40, li_41, li_43, li_48, li_57, li_59, li_60, li_61, li_62, li_64, li_97, li_99, li_100, li_101, li_102, li_112, li_119, li_126, li_189, li_255, li_300, li_369, li_400, li_999, li_5000, li_9999, li_12345, li_99999, li_1103515245, i2_add, i2_sub, i2_mul, i2_neg, i2_le, i2_lt, i2_eq, r_rz, r_ci, r_cx, r_cv, r_vx, r_cr, r_rx, dr_ci', dr_cv', dr_cr', dr_gr', dr_x0, ↓reduceIte, Int.reduceLE, Int.reduceLT, Int.reduceEq, Int.reduceNeg, Int.reduceAdd, Int.reduceSub, Int.reduceMul, dl_t, dl_f, dle_t, dle_f, deq_t, deq_f, vR_k hR, vR_r0 hR, vR_r1 hR, vR_r2 hR, vR_g3 hR, vR_p3 hR, vR_g4 hR, vR_p4 hR, vR_r5 hR, vR_g6 hR, vR_p6 hR, vR_r7 hR, vR_r8 hR, vR_g9 hR, vR_p9 hR, vR_n29 hR, vR_a29 hR, vR_s29 hR, vR_n30 hR, vR_a30 hR, vR_s30 hR, vS_k hSc, vS_r0 hSc, vS_r1 hSc, vS_r2 hSc, vS_r3 hSc, vS_r4 hSc, vS_r5 hSc, vS_r6 hSc, vS_g7 hSc, vS_p7 hSc, vS_r8 hSc, vS_r9 hSc, vS_r10 hSc, vS_r11 hSc, vS_g12 hSc, vS_p12 hSc, vS_n1 hSc, vS_a1 hSc, vS_s1 hSc, vS_n2 hSc, vS_a2 hSc, vS_s2 hSc, vS_n3 hSc, vS_a3 hSc, vS_s3 hSc, vS_n4 hSc, vS_a4 hSc, vS_s4 hSc, vS_n5 hSc, vS_a5 hSc, vS_s5 hSc, vS_n6 hSc, vS_a6 hSc, vS_s6 hSc, vS_n7 hSc, vS_a7 hSc, vS_s7 hSc, vS_n8 hSc, vS_a8 hSc, vS_s8 hSc, vS_n9 hSc, vS_a9 hSc, vS_s9 hSc, vS_n10 hSc, vS_a10 hSc, vS_s10 hSc, vS_n11 hSc, vS_a11 hSc, vS_s11 hSc, r_d28 hl, hth, sx_A_B, sx_A_C, sx_A_D, sx_A_E, sx_B_A, sx_B_C, sx_B_D, sx_B_E, sx_C_A, sx_C_B, sx_C_D, sx_C_E, sx_D_A, sx_D_B, sx_D_C, sx_D_E, sx_E_A, sx_E_B, sx_E_C, sx_E_D]
      · have hs := m_size hm i4 (s := 8) (by omega) (by omega)
        rw [show (fun k => c 33 (8 * 41 + k)) = (fun k => c 33 (328 + k)) from rfl, ← hsum] at hs
        unfold f_M_begin f_M_begin_15 f_M_begin_29
        simp (disch := omega) only [li_0, li_1, li_2, li_3, li_4, li_5, li_6, li_7, li_8, li_9, li_10, li_11, li_12, li_13, li_14, li_15, li_16, li_17, li_18, li_19, li_20, li_21, li_31, li_32, li_33, li_40, li_41, li_43, li_48, li_57, li_59, li_60, li_61, li_62, li_64, li_97, li_99, li_100, li_101, li_102, li_112, li_119, li_126, li_189, li_255, li_300, li_369, li_400, li_999, li_5000, li_9999, li_12345, li_99999, li_1103515245, i2_add, i2_sub, i2_mul, i2_neg, i2_le, i2_lt, i2_eq, r_rz, r_ci, r_cx, r_cv, r_vx, r_cr, r_rx, dr_ci', dr_cv', dr_cr', dr_gr', dr_x0, ↓reduceIte, Int.reduceLE, Int.reduceLT, Int.reduceEq, Int.reduceNeg, Int.reduceAdd, Int.reduceSub, Int.reduceMul, dl_t, dl_f, dle_t, dle_f, deq_t, deq_f, vM_k hm, vM_g0 hm, vM_p0 hm, vM_g1 hm, vM_p1 hm, vM_g2 hm, vM_p2 hm, vM_r3 hm, vM_g4 hm, vM_p4 hm, vM_g5 hm, vM_p5 hm, vM_g6 hm, vM_p6 hm, vM_r7 hm, vM_r8 hm, vM_r9 hm, vM_r10 hm, vM_r11 hm, vM_r12 hm, vM_r13 hm, vM_r14 hm, vM_r15 hm, vM_r16 hm, vM_r17 hm, vM_r18 hm, vM_g19 hm, vM_p19 hm, vM_r20 hm, vM_r21 hm, vM_r22 hm, vM_r23 hm, vM_r24 hm, vM_r25 hm, vM_r26 hm, vM_g27 hm, vM_p27 hm, vM_r28 hm, vM_r29 hm, vM_r30 hm, vM_r31 hm, vM_n32 hm, vM_a32 hm, vM_s32 hm, vM_n33 hm, vM_a33 hm, vM_s33 hm, vM_n34 hm, vM_a34 hm, vM_s34 hm, vM_n35 hm, vM_a35 hm, vM_s35 hm, vM_n36 hm, vM_a36 hm, vM_s36 hm, vM_n37 hm, vM_a37 hm, vM_s37 hm, vM_n38 hm, vM_a38 hm, vM_s38 hm, vM_n39 hm, vM_a39 hm, vM_s39 hm, vM_n40 hm, vM_a40 hm, vM_s40 hm, vM_n41 hm, vM_a41 hm, vM_s41 hm, vM_n42 hm, vM_a42 hm, vM_s42 hm, vM_n43 hm, vM_a43 hm, vM_s43 hm, vM_n44 hm, vM_a44 hm, vM_s44 hm, vM_n45 hm, vM_a45 hm, vM_s45 hm, vM_n46 hm, vM_a46 hm, vM_s46 hm, vM_n47 hm, vM_a47 hm, vM_s47 hm, vM_n48 hm, vM_a48 hm, vM_s48 hm, vM_n49 hm, vM_a49 hm, vM_s49 hm, vM_n50 hm, vM_a50 hm, vM_s50 hm, vM_n51 hm, vM_a51 hm, vM_s51 hm, vM_n52 hm, vM_a52 hm, vM_s52 hm, vM_n53 hm, vM_a53 hm, vM_s53 hm, vM_n54 hm, vM_a54 hm, vM_s54 hm, vM_n55 hm, vM_a55 hm, vM_s55 hm, hs, g_000 hm, g_001 hm, g_010 hm, g_011 hm, g_100 hm, g_101 hm, g_110 hm, g_111 hm]
end OB
