/-! ===== a row of an aim ===== -/
def m4 (c : Nat → Int → Int) (k A W G : Int) : Nat → Int → Int := up (up (up (up c 42 k A) 43 k W) 44 k G) 40 k 1
theorem a_tail {h : dr_AH} {c : Nat → Int → Int} {h' : dr_AH} {c' : Nat → Int → Int} {t : Int → Int} {l : Int} {s : Nat} (hT : LaT h) (hS : LaS h s) (hs : 4 ≤ s) (tl : tTL c t l) (hm : LaM h') (ml : mTL c' t l)
    {n E k p w q v : Int} (hk : 189 ≤ k) (hk2 : k < 210) (hp : PR l p w q v) (hn : w < 0 → 1 ≤ n ∧ n ≤ 20) :
    ∃ A W G p2 w2 A' W' G' q2, f_T_parseAim_58 2 s (i2 n) (i2 E) (wr h (tP c p w)) = some (.inl none, wr h (tP (if w2 < 0 then adA c s n E A W G else c) p2 w2))
      ∧ f_M_aimRow_94 31 (i2 k) (wr h' (mP c' q v)) = some (.inl none, wr h' (mP (m4 c' k A' W' G') q2 w2))
      ∧ PR l p2 w2 q2 w2 ∧ (w2 < 0 → w < 0 ∧ A = A' ∧ W = W' ∧ G = G') ∧ (0 ≤ A' ∧ A' ≤ 19) ∧ (1 ≤ W' ∧ W' ≤ 999) ∧ (1 ≤ G' ∧ G' ≤ 9) := by
  have hl := tl.2.2.2.1
  obtain ⟨z1, z2, z3, z4, z5, z6, z7, z8⟩ := id hp
  have a1 := pr_ex (t := t) (ch := 62) hl (by omega) hp
  have x1 := t_expect (ch := 62) (w := w) hT tl z5 z6 z3 z4 (by omega) (by omega)
  have y1 := m_take (ch := 62) (w := v) hm ml z7 z8 (by omega) (by omega) (by omega) (by omega)
  generalize cex t l 62 p w = C1 at a1 x1
  generalize mtk t l 62 q v = M1 at a1 y1
  obtain ⟨p1, w1⟩ := C1
  obtain ⟨q1, v1⟩ := M1
  dsimp only at a1 x1 y1
  obtain ⟨a1, b1⟩ := a1
  obtain ⟨z1, z2, z3, z4, z5, z6, z7, z8⟩ := id a1
  have a2 := pr_num (t := t) (a := 0) (b := 19) hl (by omega) a1
  have x2 := t_number (a := 0) (b := 19) (w := w1) hT tl z5 z6 z3 z4 (by omega) (by omega) (by omega)
  have y2 := m_number (a := 0) (b := 19) (w := v1) hm ml z7 z8 (by omega) (by omega) (by omega) (by omega) (by omega)
  generalize cnu t l 0 19 p1 w1 = C2 at a2 x2
  generalize mnu t l 0 19 q1 v1 = M2 at a2 y2
  obtain ⟨A, p2, w2⟩ := C2
  obtain ⟨A', q2, v2⟩ := M2
  dsimp only at a2 x2 y2
  obtain ⟨a2, b2, d1, d2, d3⟩ := a2
  have d3 := d3 (by omega)
  have ml2 : mTL (up c' 42 k A') t l := mTL_up ml (by decide) (by decide)
  obtain ⟨z1, z2, z3, z4, z5, z6, z7, z8⟩ := id a2
  have a3 := pr_ex (t := t) (ch := 60) hl (by omega) a2
  have x3 := t_expect (ch := 60) (w := w2) hT tl z5 z6 z3 z4 (by omega) (by omega)
  have y3 := m_take (ch := 60) (w := v2) hm ml2 z7 z8 (by omega) (by omega) (by omega) (by omega)
  generalize cex t l 60 p2 w2 = C3 at a3 x3
  generalize mtk t l 60 q2 v2 = M3 at a3 y3
  obtain ⟨p3, w3⟩ := C3
  obtain ⟨q3, v3⟩ := M3
  dsimp only at a3 x3 y3
  obtain ⟨a3, b3⟩ := a3
  obtain ⟨z1, z2, z3, z4, z5, z6, z7, z8⟩ := id a3
  have a4 := pr_num (t := t) (a := 1) (b := 999) hl (by omega) a3
  have x4 := t_number (a := 1) (b := 999) (w := w3) hT tl z5 z6 z3 z4 (by omega) (by omega) (by omega)
  have y4 := m_number (a := 1) (b := 999) (w := v3) hm ml2 z7 z8 (by omega) (by omega) (by omega) (by omega) (by omega)
  generalize cnu t l 1 999 p3 w3 = C4 at a4 x4
  generalize mnu t l 1 999 q3 v3 = M4 at a4 y4
  obtain ⟨W, p4, w4⟩ := C4
  obtain ⟨W', q4, v4⟩ := M4
  dsimp only at a4 x4 y4
  obtain ⟨a4, b4, d4, d5, d6⟩ := a4
  have d6 := d6 (by omega)
  have ml3 : mTL (up (up c' 42 k A') 43 k W') t l := mTL_up ml2 (by decide) (by decide)
  obtain ⟨z1, z2, z3, z4, z5, z6, z7, z8⟩ := id a4
  have a5 := pr_ex (t := t) (ch := 119) hl (by omega) a4
  have x5 := t_expect (ch := 119) (w := w4) hT tl z5 z6 z3 z4 (by omega) (by omega)
  have y5 := m_take (ch := 119) (w := v4) hm ml3 z7 z8 (by omega) (by omega) (by omega) (by omega)
  generalize cex t l 119 p4 w4 = C5 at a5 x5
  generalize mtk t l 119 q4 v4 = M5 at a5 y5
  obtain ⟨p5, w5⟩ := C5
  obtain ⟨q5, v5⟩ := M5
  dsimp only at a5 x5 y5
  obtain ⟨a5, b5⟩ := a5
  obtain ⟨z1, z2, z3, z4, z5, z6, z7, z8⟩ := id a5
  have a6 := pr_num (t := t) (a := 1) (b := 9) hl (by omega) a5
  have x6 := t_number (a := 1) (b := 9) (w := w5) hT tl z5 z6 z3 z4 (by omega) (by omega) (by omega)
  have y6 := m_number (a := 1) (b := 9) (w := v5) hm ml3 z7 z8 (by omega) (by omega) (by omega) (by omega) (by omega)
  generalize cnu t l 1 9 p5 w5 = C6 at a6 x6
  generalize mnu t l 1 9 q5 v5 = M6 at a6 y6
  obtain ⟨G, p6, w6⟩ := C6
  obtain ⟨G', q6, v6⟩ := M6
  dsimp only at a6 x6 y6
  obtain ⟨a6, b6, d7, d8, d9⟩ := a6
  have d9 := d9 (by omega)
  have ml4 : mTL (up (up (up c' 42 k A') 43 k W') 44 k G') t l := mTL_up ml3 (by decide) (by decide)
  obtain ⟨z1, z2, z3, z4, z5, z6, z7, z8⟩ := id a6
  have a7 := pr_ex (t := t) (ch := 59) hl (by omega) a6
  have x7 := t_expect (ch := 59) (w := w6) hT tl z5 z6 z3 z4 (by omega) (by omega)
  have y7 := m_take (ch := 59) (w := v6) hm ml4 z7 z8 (by omega) (by omega) (by omega) (by omega)
  generalize cex t l 59 p6 w6 = C7 at a7 x7
  generalize mtk t l 59 q6 v6 = M7 at a7 y7
  obtain ⟨p7, w7⟩ := C7
  obtain ⟨q7, v7⟩ := M7
  dsimp only at a7 x7 y7
  obtain ⟨a7, b7⟩ := a7
  obtain ⟨z1, z2, z3, z4, z5, z6, z7, z8⟩ := id a7
  refine ⟨A, W, G, p7, w7, A', W', G', q7, ?_, ?_, ⟨rfl, z2, z3, z4, z5, z6, z7, z8⟩, ?_, d3, d6, d9⟩
  · unfold f_T_parseAim_58
    by_cases ew : w7 < 0
    · have ew2 : w7 = -1 := by omega
      have ew3 := hn (b1 (b2 (b3 (b4 (b5 (b6 (b7 ew)).1)).1)).1)
      rw [if_pos ew]
      simp (disch := omega) only [li_0, li_1, li_2, li_3, li_4, li_5, li_6, li_7, li_8, li_9, li_10, li_11, li_12, li_13, li_14, li_15, li_16, li_17, li_18, li_19, li_20, li_21, li_31, li_32, li_33, li_40, li_41, li_43, li_48, li_57, li_59, li_60, li_61, li_62, li_64, li_97, li_99, li_100, li_101, li_102, li_112, li_119, li_126, li_189, li_255, li_300, li_369, li_400, li_999, li_5000, li_9999, li_12345, li_99999, li_1103515245, i2_add, i2_sub, i2_mul, i2_neg, i2_le, i2_lt, i2_eq, r_rz, r_ci, r_cx, r_cv, r_vx, r_cr, r_rx, dr_ci', dr_cv', dr_cr', dr_gr', dr_x0, ↓reduceIte, Int.reduceLE, Int.reduceLT, Int.reduceEq, Int.reduceNeg, Int.reduceAdd, Int.reduceSub, Int.reduceMul, vT_k hT, vT_r0 hT, vT_g1 hT, vT_p1 hT, vT_g2 hT, vT_p2 hT, vT_g3 hT, vT_p3 hT, vT_n3 hT, vT_a3 hT, vT_s3 hT, vS_k hS, vS_r0 hS, vS_r1 hS, vS_r2 hS, vS_r3 hS, vS_r4 hS, vS_r5 hS, vS_r6 hS, vS_g7 hS, vS_p7 hS, vS_r8 hS, vS_r9 hS, vS_r10 hS, vS_r11 hS, vS_g12 hS, vS_p12 hS, vS_n1 hS, vS_a1 hS, vS_s1 hS, vS_n2 hS, vS_a2 hS, vS_s2 hS, vS_n3 hS, vS_a3 hS, vS_s3 hS, vS_n4 hS, vS_a4 hS, vS_s4 hS, vS_n5 hS, vS_a5 hS, vS_s5 hS, vS_n6 hS, vS_a6 hS, vS_s6 hS, vS_n7 hS, vS_a7 hS, vS_s7 hS, vS_n8 hS, vS_a8 hS, vS_s8 hS, vS_n9 hS, vS_a9 hS, vS_s9 hS, vS_n10 hS, vS_a10 hS, vS_s10 hS, vS_n11 hS, vS_a11 hS, vS_s11 hS, x1, x2, x3, x4, x5, x6, x7, tP_3, ew2, s_addAim hS]
      refine congrArg (fun z => some (Sum.inl none, wr h z)) ?_
      unfold adA
      rw [tP_u _ _ _ _ _ (by omega), tP_u _ _ _ _ _ (by omega), tP_u _ _ _ _ _ (by omega), tP_u _ _ _ _ _ (by omega)]
    · have ew2 : ¬ (w7 = -1) := by omega
      rw [if_neg ew]
      simp (disch := omega) only [li_0, li_1, li_2, li_3, li_4, li_5, li_6, li_7, li_8, li_9, li_10, li_11, li_12, li_13, li_14, li_15, li_16, li_17, li_18, li_19, li_20, li_21, li_31, li_32, li_33, li_40, li_41, li_43, li_48, li_57, li_59, li_60, li_61, li_62, li_64, li_97, li_99, li_100, li_101, li_102, li_112, li_119, li_126, li_189, li_255, li_300, li_369, li_400, li_999, li_5000, li_9999, li_12345, li_99999, li_1103515245, i2_add, i2_sub, i2_mul, i2_neg, i2_le, i2_lt, i2_eq, r_rz, r_ci, r_cx, r_cv, r_vx, r_cr, r_rx, dr_ci', dr_cv', dr_cr', dr_gr', dr_x0, ↓reduceIte, Int.reduceLE, Int.reduceLT, Int.reduceEq, Int.reduceNeg, Int.reduceAdd, Int.reduceSub, Int.reduceMul, vT_k hT, vT_r0 hT, vT_g1 hT, vT_p1 hT, vT_g2 hT, vT_p2 hT, vT_g3 hT, vT_p3 hT, vT_n3 hT, vT_a3 hT, vT_s3 hT, x1, x2, x3, x4, x5, x6, x7, tP_3, ew2]
  · unfold f_M_aimRow_94 m4
    simp (disch := omega) only [li_0, li_1, li_2, li_3, li_4, li_5, li_6, li_7, li_8, li_9, li_10, li_11, li_12, li_13, li_14, li_15, li_16, li_17, li_18, li_19, li_20, li_21, li_31, li_32, li_33, li_40, li_41, li_43, li_48, li_57, li_59, li_60, li_61, li_62, li_64, li_97, li_99, li_100, li_101, li_102, li_112, li_119, li_126, li_189, li_255, li_300, li_369, li_400, li_999, li_5000, li_9999, li_12345, li_99999, li_1103515245, i2_add, i2_sub, i2_mul, i2_neg, i2_le, i2_lt, i2_eq, r_rz, r_ci, r_cx, r_cv, r_vx, r_cr, r_rx, dr_ci', dr_cv', dr_cr', dr_gr', dr_x0, ↓reduceIte, Int.reduceLE, Int.reduceLT, Int.reduceEq, Int.reduceNeg, Int.reduceAdd, Int.reduceSub, Int.reduceMul, vM_k hm, vM_g0 hm, vM_p0 hm, vM_g1 hm, vM_p1 hm, vM_g2 hm, vM_p2 hm, vM_r3 hm, vM_g4 hm, vM_p4 hm, vM_g5 hm, vM_p5 hm, vM_g6 hm, vM_p6 hm, vM_r7 hm, vM_r8 hm, vM_r9 hm, vM_r10 hm, vM_r11 hm, vM_r12 hm, vM_r13 hm, vM_r14 hm, vM_r15 hm, vM_r16 hm, vM_r17 hm, vM_r18 hm, vM_g19 hm, vM_p19 hm, vM_r20 hm, vM_r21 hm, vM_r22 hm, vM_r23 hm, vM_r24 hm, vM_r25 hm, vM_r26 hm, vM_g27 hm, vM_p27 hm, vM_r28 hm, vM_r29 hm, vM_r30 hm, vM_r31 hm, vM_n32 hm, vM_a32 hm, vM_s32 hm, vM_n33 hm, vM_a33 hm, vM_s33 hm, vM_n34 hm, vM_a34 hm, vM_s34 hm, vM_n35 hm, vM_a35 hm, vM_s35 hm, vM_n36 hm, vM_a36 hm, vM_s36 hm, vM_n37 hm, vM_a37 hm, vM_s37 hm, vM_n38 hm, vM_a38 hm, vM_s38 hm, vM_n39 hm, vM_a39 hm, vM_s39 hm, vM_n40 hm, vM_a40 hm, vM_s40 hm, vM_n41 hm, vM_a41 hm, vM_s41 hm, vM_n42 hm, vM_a42 hm, vM_s42 hm, vM_n43 hm, vM_a43 hm, vM_s43 hm, vM_n44 hm, vM_a44 hm, vM_s44 hm, vM_n45 hm, vM_a45 hm, vM_s45 hm, vM_n46 hm, vM_a46 hm, vM_s46 hm, vM_n47 hm, vM_a47 hm, vM_s47 hm, vM_n48 hm, vM_a48 hm, vM_s48 hm, vM_n49 hm, vM_a49 hm, vM_s49 hm, vM_n50 hm, vM_a50 hm, vM_s50 hm, vM_n51 hm, vM_a51 hm, vM_s51 hm, vM_n52 hm, vM_a52 hm, vM_s52 hm, vM_n53 hm, vM_a53 hm, vM_s53 hm, vM_n54 hm, vM_a54 hm, vM_s54 hm, vM_n55 hm, vM_a55 hm, vM_s55 hm, mP_u, y1, y2, y3, y4, y5, y6, y7]
    rw [z1]
  · intro ew
    have k6 := b6 (b7 ew)
    have k4 := b4 (b5 k6.1)
    have k2 := b2 (b3 k4.1)
    exact ⟨b1 k2.1, k2.2.1, k4.2.1, k6.2.1⟩
theorem sr_am {c c' d' : Nat → Int → Int} {s : Nat} (hr : SRel c s c' 369 189) {n k E A W G : Int} (h1 : 1 ≤ n) (h2 : n ≤ 20) (hk : k = 189 + n)
    (g1 : d' 40 k = 1) (g2 : d' 41 k = E) (g3 : d' 42 k = A) (g4 : d' 43 k = W) (g5 : d' 44 k = G) (g8 : ∀ a j, a < 40 ∨ 44 < a ∨ j ≠ k → d' a j = c' a j)
    (r1 : 1 ≤ E ∧ E ≤ 40) (r2 : 0 ≤ A ∧ A ≤ 19) (r3 : 1 ≤ W ∧ W ≤ 999) (r4 : 1 ≤ G ∧ G ≤ 9) : SRel (adA c s n E A W G) s d' 369 189 := by
  subst hk
  obtain ⟨a1, a2, a3, a4⟩ := hr
  have hne : ∀ (q : Nat) (m : Int), m ≠ n → adA c s n E A W G q m = c q m := by
    intro q m hm
    unfold adA up
    repeat' rw [if_neg (by omega)]
  have hne2 : ∀ (q : Nat) (m : Int), q < s + 8 → adA c s n E A W G q m = c q m := by
    intro q m hq
    unfold adA up
    repeat' rw [if_neg (by omega)]
  refine ⟨fun m m1 m2 => ?_, fun m m1 m2 => ?_, ?_, ?_⟩
  · have := a1 m m1 m2
    unfold sE at this ⊢
    rw [hne2 (s + 1) m (by omega), hne2 (s + 2) m (by omega), hne2 (s + 3) m (by omega), hne2 (s + 4) m (by omega), hne2 (s + 5) m (by omega), hne2 (s + 6) m (by omega), hne2 (s + 7) m (by omega),
      g8 33 (369 + m) (by omega), g8 34 (369 + m) (by omega), g8 35 (369 + m) (by omega), g8 36 (369 + m) (by omega), g8 37 (369 + m) (by omega), g8 38 (369 + m) (by omega), g8 39 (369 + m) (by omega)]
    exact this
  · by_cases e : m = n
    · subst e
      unfold sW
      have e1 : adA c s m E A W G (s + 8) m = E := by simp [adA, up]
      have e2 : adA c s m E A W G (s + 9) m = A := by simp [adA, up]
      have e3 : adA c s m E A W G (s + 10) m = W := by simp [adA, up]
      have e4 : adA c s m E A W G (s + 11) m = G := by simp [adA, up]
      rw [g1, g2, g3, g4, g5, e1, e2, e3, e4]
      have eb : bz (0 < G) = 1 := by unfold bz; rw [if_pos (by omega)]
      exact ⟨by omega, by omega, eb.symm, fun _ => ⟨rfl, rfl, rfl, rfl, r1, r2, r3⟩⟩
    · have := a2 m m1 m2
      unfold sW at this ⊢
      rw [hne (s + 8) m e, hne (s + 9) m e, hne (s + 10) m e, hne (s + 11) m e, g8 40 (189 + m) (by omega), g8 41 (189 + m) (by omega), g8 42 (189 + m) (by omega), g8 43 (189 + m) (by omega), g8 44 (189 + m) (by omega)]
      exact this
  · rw [hne2 s 7 (by omega), a3]
    exact sm_c 40 (fun i _ _ => (hne2 (s + 1) i (by omega)).symm)
  · rw [hne (s + 11) 0 (by omega), a4]
theorem fS_am (c : Nat → Int → Int) (s : Nat) (n E A W G : Int) : fS s c (adA c s n E A W G) := by
  intro a j h
  unfold adA up
  repeat' rw [if_neg (by omega)]
theorem a_mid {h : dr_AH} {c : Nat → Int → Int} {h' : dr_AH} {c' : Nat → Int → Int} {t : Int → Int} {l : Int} {s : Nat} (hT : LaT h) (hS : LaS h s) (hs : 4 ≤ s) (tl : tTL c t l) (hm : LaM h') (ml : mTL c' t l)
    {n k p w q v : Int} (hk : 189 ≤ k) (hk2 : k < 210) (hkn : w < 0 → k = 189 + n) (hp : PR l p w q v) (hn : w < 0 → 1 ≤ n ∧ n ≤ 20 ∧ c (s + 11) n ≤ 0) (hb : mB c') (hr : SRel c s c' 369 189) :
    ∃ c2 p2 w2 c2' q2, f_T_parseAim_26 2 s (i2 n) (wr h (tP c p w)) = some (.inl none, wr h (tP c2 p2 w2))
      ∧ f_M_aimRow_40 31 (i2 k) (wr h' (mP c' q v)) = some (.inl none, wr h' (mP c2' q2 w2))
      ∧ PR l p2 w2 q2 w2 ∧ fS s c c2 ∧ f9 c' c2' ∧ mB c2' ∧ (w2 < 0 → SRel c2 s c2' 369 189 ∧ KK c2 s = KK c s + 1) := by
  have hl := tl.2.2.2.1
  obtain ⟨z1, z2, z3, z4, z5, z6, z7, z8⟩ := id hp
  have a1 := pr_ex (t := t) (ch := 101) hl (by omega) hp
  have x1 := t_expect (ch := 101) (w := w) hT tl z5 z6 z3 z4 (by omega) (by omega)
  have y1 := m_take (ch := 101) (w := v) hm ml z7 z8 (by omega) (by omega) (by omega) (by omega)
  generalize cex t l 101 p w = C1 at a1 x1
  generalize mtk t l 101 q v = M1 at a1 y1
  obtain ⟨p1, w1⟩ := C1
  obtain ⟨q1, v1⟩ := M1
  dsimp only at a1 x1 y1
  obtain ⟨a1, b1⟩ := a1
  obtain ⟨z1, z2, z3, z4, z5, z6, z7, z8⟩ := id a1
  have a2 := pr_num (t := t) (a := 1) (b := 40) hl (by omega) a1
  have x2 := t_number (a := 1) (b := 40) (w := w1) hT tl z5 z6 z3 z4 (by omega) (by omega) (by omega)
  have y2 := m_number (a := 1) (b := 40) (w := v1) hm ml z7 z8 (by omega) (by omega) (by omega) (by omega) (by omega)
  have g2 := fun hh => cnu_p (t := t) (a := 1) (b := 40) (w := w1) z5 z6 hh
  generalize cnu t l 1 40 p1 w1 = C2 at a2 x2 g2
  generalize mnu t l 1 40 q1 v1 = M2 at a2 y2
  obtain ⟨E, p2, w2⟩ := C2
  obtain ⟨E', q2, v2⟩ := M2
  dsimp only at a2 x2 y2 g2
  obtain ⟨a2, b2, d1, d2, d3⟩ := a2
  have d3 := d3 (by omega)
  obtain ⟨z1, z2, z3, z4, z5, z6, z7, z8⟩ := id a2
  subst z1
  have ml2 : mTL (up c' 41 k E') t l := mTL_up ml (by decide) (by decide)
  have hf : ∀ m : Int, 1 ≤ m → m ≤ 40 → 0 ≤ tP c p2 w2 (s + 1) m ∧ tP c p2 w2 (s + 1) m < 2 := fun m m1 m2 => by
    rw [tP_a _ _ _ _ (by omega)]; have := hr.1 m m1 m2; unfold sE at this; omega
  have hE := s_hasEvent (c := tP c p2 w2) (n := E) hS (by omega) (by omega) (hf E)
  rw [tP_a _ _ _ _ (show s + 1 ≠ 2 by omega)] at hE
  have hb33 := (hb (369 + E')).1
  have eu : mP (up c' 41 k E') q2 w2 41 k = E' := by rw [mP_a _ _ _ _ (by decide), up_same]
  have eu2 : mP (up c' 41 k E') q2 w2 33 (369 + E') = c' 33 (369 + E') := by rw [mP_a _ _ _ _ (by decide), up_a _ _ _ _ (by decide)]
  have fin : ∀ (w' : Int), PR l p2 w' q2 w' → (w' < 0 → w2 < 0) → ∀ (X Y : Option (dr_RS × dr_AH)), X = f_T_parseAim_58 2 s (i2 n) (i2 E) (wr h (tP c p2 w')) → Y = f_M_aimRow_94 31 (i2 k) (wr h' (mP (up c' 41 k E') q2 w')) →
      ∃ c2 p2 w2 c2' q2, X = some (.inl none, wr h (tP c2 p2 w2)) ∧ Y = some (.inl none, wr h' (mP c2' q2 w2)) ∧ PR l p2 w2 q2 w2 ∧ fS s c c2 ∧ f9 c' c2' ∧ mB c2' ∧ (w2 < 0 → SRel c2 s c2' 369 189 ∧ KK c2 s = KK c s + 1) := by
    intro w' hp' hw X Y hX hY
    obtain ⟨A, W, G, p3, w3, A', W', G', q3, k1, k2, k3, k4, k5, k6, k7⟩ := a_tail (n := n) (E := E) (k := k) hT hS hs tl hm ml2 hk hk2 hp' (fun hh => by have := hn (b1 (b2 (hw hh)).1); omega)
    have hg : ∀ a j, a < 40 ∨ 44 < a ∨ j ≠ k → m4 (up c' 41 k E') k A' W' G' a j = c' a j := by
      intro a j hh
      unfold m4 up
      repeat' rw [if_neg (by omega)]
    refine ⟨_, p3, w3, _, q3, by rw [hX, k1], by rw [hY, k2], k3, ?_, ?_, ?_, ?_⟩
    · by_cases e : w3 < 0
      · rw [if_pos e]; exact fS_am c s n E A W G
      · rw [if_neg e]; exact fun _ _ _ => rfl
    · intro a j hh
      by_cases e : a < 40 ∨ 44 < a
      · exact hg a j (by omega)
      · exact hg a j (by omega)
    · intro j
      refine ⟨?_, ?_, ?_⟩
      · rw [hg 33 j (by omega)]; exact (hb j).1
      · rw [hg 38 j (by omega)]; exact (hb j).2.1
      · have := (hb j).2.2
        unfold m4 up; simp; split <;> omega
    · intro e
      obtain ⟨e0, e1, e2, e3⟩ := k4 e
      have e4 := b2 (hw e0)
      have e5 := b1 e4.1
      have e6 := hn e5
      rw [if_pos e]
      refine ⟨?_, ?_⟩
      · refine sr_am (k := k) hr (by omega) (by omega) (hkn e5) ?_ ?_ ?_ ?_ ?_ hg (by omega) (by omega) (by omega) (by omega) <;> simp [m4, up, e1, e2, e3, e4]
      · unfold KK
        have q1 : adA c s n E A W G s 7 = c s 7 := by
          unfold adA up
          repeat' rw [if_neg (by omega)]
        have q2 : adA c s n E A W G (s + 11) n = G := by simp [adA, up]
        have q3 : bz (0 < G) = 1 := by unfold bz; rw [if_pos (by omega)]
        have q4 : bz (0 < c (s + 11) n) = 0 := by unfold bz; rw [if_neg (by omega)]
        rw [q1, sm_1 (f := fun n_1 => bz (0 < adA c s n E A W G (s + 11) n_1)) (g := fun n => bz (0 < c (s + 11) n)) (k := n) 20 (by omega) (by omega) (fun i i1 i2 i3 => by
          rw [show adA c s n E A W G (s + 11) i = c (s + 11) i by
            unfold adA up
            repeat' rw [if_neg (by omega)]])]
        rw [q2, q3, q4]
        omega
  by_cases hw : w2 < 0
  · have b2' := b2 hw
    have eq2 := z2 hw
    subst eq2
    have en : E = E' := b2'.2.1
    subst en
    have hsE := hr.1 E (by omega) (by omega)
    unfold sE at hsE
    have p2' := g2 hw
    have ew2 : ¬ (0 ≤ w2) := by omega
    by_cases e0 : c (s + 1) E = 1
    · have eb : bz (1 ≤ E ∧ E ≤ 40 ∧ c (s + 1) E = 1) = 1 := by unfold bz; rw [if_pos ⟨by omega, by omega, e0⟩]
      have em : c' 33 (369 + E) = 1 := by rw [← hsE.1, e0]
      rw [eb] at hE
      refine fin w2 a2 (fun hh => hw) _ _ ?_ ?_
      · unfold f_T_parseAim_26
        simp (disch := omega) only [li_0, li_1, li_2, li_3, li_4, li_5, li_6, li_7, li_8, li_9, li_10, li_11, li_12, li_13, li_14, li_15, li_16, li_17, li_18, li_19, li_20, li_21, li_31, li_32, li_33, li_40, li_41, li_43, li_48, li_57, li_59, li_60, li_61, li_62, li_64, li_97, li_99, li_100, li_101, li_102, li_112, li_119, li_126, li_189, li_255, li_300, li_369, li_400, li_999, li_5000, li_9999, li_12345, li_99999, li_1103515245, i2_add, i2_sub, i2_mul, i2_neg, i2_le, i2_lt, i2_eq, r_rz, r_ci, r_cx, r_cv, r_vx, r_cr, r_rx, dr_ci', dr_cv', dr_cr', dr_gr', dr_x0, ↓reduceIte, Int.reduceLE, Int.reduceLT, Int.reduceEq, Int.reduceNeg, Int.reduceAdd, Int.reduceSub, Int.reduceMul, vT_k hT, vT_r0 hT, vT_g1 hT, vT_p1 hT, vT_g2 hT, vT_p2 hT, vT_g3 hT, vT_p3 hT, vT_n3 hT, vT_a3 hT, vT_s3 hT, vS_k hS, vS_r0 hS, vS_r1 hS, vS_r2 hS, vS_r3 hS, vS_r4 hS, vS_r5 hS, vS_r6 hS, vS_g7 hS, vS_p7 hS, vS_r8 hS, vS_r9 hS, vS_r10 hS, vS_r11 hS, vS_g12 hS, vS_p12 hS, vS_n1 hS, vS_a1 hS, vS_s1 hS, vS_n2 hS, vS_a2 hS, vS_s2 hS, vS_n3 hS, vS_a3 hS, vS_s3 hS, vS_n4 hS, vS_a4 hS, vS_s4 hS, vS_n5 hS, vS_a5 hS, vS_s5 hS, vS_n6 hS, vS_a6 hS, vS_s6 hS, vS_n7 hS, vS_a7 hS, vS_s7 hS, vS_n8 hS, vS_a8 hS, vS_s8 hS, vS_n9 hS, vS_a9 hS, vS_s9 hS, vS_n10 hS, vS_a10 hS, vS_s10 hS, vS_n11 hS, vS_a11 hS, vS_s11 hS, x1, x2, hE]
      · unfold f_M_aimRow_40
        simp (disch := omega) only [li_0, li_1, li_2, li_3, li_4, li_5, li_6, li_7, li_8, li_9, li_10, li_11, li_12, li_13, li_14, li_15, li_16, li_17, li_18, li_19, li_20, li_21, li_31, li_32, li_33, li_40, li_41, li_43, li_48, li_57, li_59, li_60, li_61, li_62, li_64, li_97, li_99, li_100, li_101, li_102, li_112, li_119, li_126, li_189, li_255, li_300, li_369, li_400, li_999, li_5000, li_9999, li_12345, li_99999, li_1103515245, i2_add, i2_sub, i2_mul, i2_neg, i2_le, i2_lt, i2_eq, r_rz, r_ci, r_cx, r_cv, r_vx, r_cr, r_rx, dr_ci', dr_cv', dr_cr', dr_gr', dr_x0, ↓reduceIte, Int.reduceLE, Int.reduceLT, Int.reduceEq, Int.reduceNeg, Int.reduceAdd, Int.reduceSub, Int.reduceMul, vM_k hm, vM_g0 hm, vM_p0 hm, vM_g1 hm, vM_p1 hm, vM_g2 hm, vM_p2 hm, vM_r3 hm, vM_g4 hm, vM_p4 hm, vM_g5 hm, vM_p5 hm, vM_g6 hm, vM_p6 hm, vM_r7 hm, vM_r8 hm, vM_r9 hm, vM_r10 hm, vM_r11 hm, vM_r12 hm, vM_r13 hm, vM_r14 hm, vM_r15 hm, vM_r16 hm, vM_r17 hm, vM_r18 hm, vM_g19 hm, vM_p19 hm, vM_r20 hm, vM_r21 hm, vM_r22 hm, vM_r23 hm, vM_r24 hm, vM_r25 hm, vM_r26 hm, vM_g27 hm, vM_p27 hm, vM_r28 hm, vM_r29 hm, vM_r30 hm, vM_r31 hm, vM_n32 hm, vM_a32 hm, vM_s32 hm, vM_n33 hm, vM_a33 hm, vM_s33 hm, vM_n34 hm, vM_a34 hm, vM_s34 hm, vM_n35 hm, vM_a35 hm, vM_s35 hm, vM_n36 hm, vM_a36 hm, vM_s36 hm, vM_n37 hm, vM_a37 hm, vM_s37 hm, vM_n38 hm, vM_a38 hm, vM_s38 hm, vM_n39 hm, vM_a39 hm, vM_s39 hm, vM_n40 hm, vM_a40 hm, vM_s40 hm, vM_n41 hm, vM_a41 hm, vM_s41 hm, vM_n42 hm, vM_a42 hm, vM_s42 hm, vM_n43 hm, vM_a43 hm, vM_s43 hm, vM_n44 hm, vM_a44 hm, vM_s44 hm, vM_n45 hm, vM_a45 hm, vM_s45 hm, vM_n46 hm, vM_a46 hm, vM_s46 hm, vM_n47 hm, vM_a47 hm, vM_s47 hm, vM_n48 hm, vM_a48 hm, vM_s48 hm, vM_n49 hm, vM_a49 hm, vM_s49 hm, vM_n50 hm, vM_a50 hm, vM_s50 hm, vM_n51 hm, vM_a51 hm, vM_s51 hm, vM_n52 hm, vM_a52 hm, vM_s52 hm, vM_n53 hm, vM_a53 hm, vM_s53 hm, vM_n54 hm, vM_a54 hm, vM_s54 hm, vM_n55 hm, vM_a55 hm, vM_s55 hm, y1, y2, mP_u, mP_6, ew2, eu, eu2, em]
    · have e0' : c (s + 1) E = 0 := by omega
      have eb : bz (1 ≤ E ∧ E ≤ 40 ∧ c (s + 1) E = 1) = 0 := by unfold bz; rw [if_neg (by omega)]
      have em : c' 33 (369 + E) = 0 := by rw [← hsE.1, e0']
      have ew : fl w2 (p2 - 1) = p2 - 1 := by unfold fl; rw [if_pos hw]
      rw [eb] at hE
      refine fin (p2 - 1) ⟨rfl, fun _ => rfl, by omega, by omega, by omega, by omega, by omega, by omega⟩ (fun hh => by omega) _ _ ?_ ?_
      · unfold f_T_parseAim_26
        simp (disch := omega) only [li_0, li_1, li_2, li_3, li_4, li_5, li_6, li_7, li_8, li_9, li_10, li_11, li_12, li_13, li_14, li_15, li_16, li_17, li_18, li_19, li_20, li_21, li_31, li_32, li_33, li_40, li_41, li_43, li_48, li_57, li_59, li_60, li_61, li_62, li_64, li_97, li_99, li_100, li_101, li_102, li_112, li_119, li_126, li_189, li_255, li_300, li_369, li_400, li_999, li_5000, li_9999, li_12345, li_99999, li_1103515245, i2_add, i2_sub, i2_mul, i2_neg, i2_le, i2_lt, i2_eq, r_rz, r_ci, r_cx, r_cv, r_vx, r_cr, r_rx, dr_ci', dr_cv', dr_cr', dr_gr', dr_x0, ↓reduceIte, Int.reduceLE, Int.reduceLT, Int.reduceEq, Int.reduceNeg, Int.reduceAdd, Int.reduceSub, Int.reduceMul, vT_k hT, vT_r0 hT, vT_g1 hT, vT_p1 hT, vT_g2 hT, vT_p2 hT, vT_g3 hT, vT_p3 hT, vT_n3 hT, vT_a3 hT, vT_s3 hT, vS_k hS, vS_r0 hS, vS_r1 hS, vS_r2 hS, vS_r3 hS, vS_r4 hS, vS_r5 hS, vS_r6 hS, vS_g7 hS, vS_p7 hS, vS_r8 hS, vS_r9 hS, vS_r10 hS, vS_r11 hS, vS_g12 hS, vS_p12 hS, vS_n1 hS, vS_a1 hS, vS_s1 hS, vS_n2 hS, vS_a2 hS, vS_s2 hS, vS_n3 hS, vS_a3 hS, vS_s3 hS, vS_n4 hS, vS_a4 hS, vS_s4 hS, vS_n5 hS, vS_a5 hS, vS_s5 hS, vS_n6 hS, vS_a6 hS, vS_s6 hS, vS_n7 hS, vS_a7 hS, vS_s7 hS, vS_n8 hS, vS_a8 hS, vS_s8 hS, vS_n9 hS, vS_a9 hS, vS_s9 hS, vS_n10 hS, vS_a10 hS, vS_s10 hS, vS_n11 hS, vS_a11 hS, vS_s11 hS, x1, x2, hE, tP_2, t_fail hT, ew]
      · unfold f_M_aimRow_40
        simp (disch := omega) only [li_0, li_1, li_2, li_3, li_4, li_5, li_6, li_7, li_8, li_9, li_10, li_11, li_12, li_13, li_14, li_15, li_16, li_17, li_18, li_19, li_20, li_21, li_31, li_32, li_33, li_40, li_41, li_43, li_48, li_57, li_59, li_60, li_61, li_62, li_64, li_97, li_99, li_100, li_101, li_102, li_112, li_119, li_126, li_189, li_255, li_300, li_369, li_400, li_999, li_5000, li_9999, li_12345, li_99999, li_1103515245, i2_add, i2_sub, i2_mul, i2_neg, i2_le, i2_lt, i2_eq, r_rz, r_ci, r_cx, r_cv, r_vx, r_cr, r_rx, dr_ci', dr_cv', dr_cr', dr_gr', dr_x0, ↓reduceIte, Int.reduceLE, Int.reduceLT, Int.reduceEq, Int.reduceNeg, Int.reduceAdd, Int.reduceSub, Int.reduceMul, vM_k hm, vM_g0 hm, vM_p0 hm, vM_g1 hm, vM_p1 hm, vM_g2 hm, vM_p2 hm, vM_r3 hm, vM_g4 hm, vM_p4 hm, vM_g5 hm, vM_p5 hm, vM_g6 hm, vM_p6 hm, vM_r7 hm, vM_r8 hm, vM_r9 hm, vM_r10 hm, vM_r11 hm, vM_r12 hm, vM_r13 hm, vM_r14 hm, vM_r15 hm, vM_r16 hm, vM_r17 hm, vM_r18 hm, vM_g19 hm, vM_p19 hm, vM_r20 hm, vM_r21 hm, vM_r22 hm, vM_r23 hm, vM_r24 hm, vM_r25 hm, vM_r26 hm, vM_g27 hm, vM_p27 hm, vM_r28 hm, vM_r29 hm, vM_r30 hm, vM_r31 hm, vM_n32 hm, vM_a32 hm, vM_s32 hm, vM_n33 hm, vM_a33 hm, vM_s33 hm, vM_n34 hm, vM_a34 hm, vM_s34 hm, vM_n35 hm, vM_a35 hm, vM_s35 hm, vM_n36 hm, vM_a36 hm, vM_s36 hm, vM_n37 hm, vM_a37 hm, vM_s37 hm, vM_n38 hm, vM_a38 hm, vM_s38 hm, vM_n39 hm, vM_a39 hm, vM_s39 hm, vM_n40 hm, vM_a40 hm, vM_s40 hm, vM_n41 hm, vM_a41 hm, vM_s41 hm, vM_n42 hm, vM_a42 hm, vM_s42 hm, vM_n43 hm, vM_a43 hm, vM_s43 hm, vM_n44 hm, vM_a44 hm, vM_s44 hm, vM_n45 hm, vM_a45 hm, vM_s45 hm, vM_n46 hm, vM_a46 hm, vM_s46 hm, vM_n47 hm, vM_a47 hm, vM_s47 hm, vM_n48 hm, vM_a48 hm, vM_s48 hm, vM_n49 hm, vM_a49 hm, vM_s49 hm, vM_n50 hm, vM_a50 hm, vM_s50 hm, vM_n51 hm, vM_a51 hm, vM_s51 hm, vM_n52 hm, vM_a52 hm, vM_s52 hm, vM_n53 hm, vM_a53 hm, vM_s53 hm, vM_n54 hm, vM_a54 hm, vM_s54 hm, vM_n55 hm, vM_a55 hm, vM_s55 hm, y1, y2, mP_u, mP_6, mP_5, ew2, eu, eu2, em, m_fail hm, ew]
  · have ew : fl w2 (p2 - 1) = w2 := by unfold fl; rw [if_neg hw]
    have ew2 : 0 ≤ w2 := by omega
    refine fin w2 a2 (fun hh => by omega) _ _ ?_ ?_
    · unfold f_T_parseAim_26
      by_cases eb : bz (1 ≤ E ∧ E ≤ 40 ∧ c (s + 1) E = 1) = 0
      · simp (disch := omega) only [li_0, li_1, li_2, li_3, li_4, li_5, li_6, li_7, li_8, li_9, li_10, li_11, li_12, li_13, li_14, li_15, li_16, li_17, li_18, li_19, li_20, li_21, li_31, li_32, li_33, li_40, li_41, li_43, li_48, li_57, li_59, li_60, li_61, li_62, li_64, li_97, li_99, li_100, li_101, li_102, li_112, li_119, li_126, li_189, li_255, li_300, li_369, li_400, li_999, li_5000, li_9999, li_12345, li_99999, li_1103515245, i2_add, i2_sub, i2_mul, i2_neg, i2_le, i2_lt, i2_eq, r_rz, r_ci, r_cx, r_cv, r_vx, r_cr, r_rx, dr_ci', dr_cv', dr_cr', dr_gr', dr_x0, ↓reduceIte, Int.reduceLE, Int.reduceLT, Int.reduceEq, Int.reduceNeg, Int.reduceAdd, Int.reduceSub, Int.reduceMul, vT_k hT, vT_r0 hT, vT_g1 hT, vT_p1 hT, vT_g2 hT, vT_p2 hT, vT_g3 hT, vT_p3 hT, vT_n3 hT, vT_a3 hT, vT_s3 hT, vS_k hS, vS_r0 hS, vS_r1 hS, vS_r2 hS, vS_r3 hS, vS_r4 hS, vS_r5 hS, vS_r6 hS, vS_g7 hS, vS_p7 hS, vS_r8 hS, vS_r9 hS, vS_r10 hS, vS_r11 hS, vS_g12 hS, vS_p12 hS, vS_n1 hS, vS_a1 hS, vS_s1 hS, vS_n2 hS, vS_a2 hS, vS_s2 hS, vS_n3 hS, vS_a3 hS, vS_s3 hS, vS_n4 hS, vS_a4 hS, vS_s4 hS, vS_n5 hS, vS_a5 hS, vS_s5 hS, vS_n6 hS, vS_a6 hS, vS_s6 hS, vS_n7 hS, vS_a7 hS, vS_s7 hS, vS_n8 hS, vS_a8 hS, vS_s8 hS, vS_n9 hS, vS_a9 hS, vS_s9 hS, vS_n10 hS, vS_a10 hS, vS_s10 hS, vS_n11 hS, vS_a11 hS, vS_s11 hS, x1, x2, hE, eb, tP_2, t_fail hT, ew]
      · have := bz_01 (1 ≤ E ∧ E ≤ 40 ∧ c (s + 1) E = 1)
        simp (disch := omega) only [li_0, li_1, li_2, li_3, li_4, li_5, li_6, li_7, li_8, li_9, li_10, li_11, li_12, li_13, li_14, li_15, li_16, li_17, li_18, li_19, li_20, li_21, li_31, li_32, li_33, li_40, li_41, li_43, li_48, li_57, li_59, li_60, li_61, li_62, li_64, li_97, li_99, li_100, li_101, li_102, li_112, li_119, li_126, li_189, li_255, li_300, li_369, li_400, li_999, li_5000, li_9999, li_12345, li_99999, li_1103515245, i2_add, i2_sub, i2_mul, i2_neg, i2_le, i2_lt, i2_eq, r_rz, r_ci, r_cx, r_cv, r_vx, r_cr, r_rx, dr_ci', dr_cv', dr_cr', dr_gr', dr_x0, ↓reduceIte, Int.reduceLE, Int.reduceLT, Int.reduceEq, Int.reduceNeg, Int.reduceAdd, Int.reduceSub, Int.reduceMul, vT_k hT, vT_r0 hT, vT_g1 hT, vT_p1 hT, vT_g2 hT, vT_p2 hT, vT_g3 hT, vT_p3 hT, vT_n3 hT, vT_a3 hT, vT_s3 hT, vS_k hS, vS_r0 hS, vS_r1 hS, vS_r2 hS, vS_r3 hS, vS_r4 hS, vS_r5 hS, vS_r6 hS, vS_g7 hS, vS_p7 hS, vS_r8 hS, vS_r9 hS, vS_r10 hS, vS_r11 hS, vS_g12 hS, vS_p12 hS, vS_n1 hS, vS_a1 hS, vS_s1 hS, vS_n2 hS, vS_a2 hS, vS_s2 hS, vS_n3 hS, vS_a3 hS, vS_s3 hS, vS_n4 hS, vS_a4 hS, vS_s4 hS, vS_n5 hS, vS_a5 hS, vS_s5 hS, vS_n6 hS, vS_a6 hS, vS_s6 hS, vS_n7 hS, vS_a7 hS, vS_s7 hS, vS_n8 hS, vS_a8 hS, vS_s8 hS, vS_n9 hS, vS_a9 hS, vS_s9 hS, vS_n10 hS, vS_a10 hS, vS_s10 hS, vS_n11 hS, vS_a11 hS, vS_s11 hS, x1, x2, hE, eb]
    · unfold f_M_aimRow_40
      simp (disch := omega) only [li_0, li_1, li_2, li_3, li_4, li_5, li_6, li_7, li_8, li_9, li_10, li_11, li_12, li_13, li_14, li_15, li_16, li_17, li_18, li_19, li_20, li_21, li_31, li_32, li_33, li_40, li_41, li_43, li_48, li_57, li_59, li_60, li_61, li_62, li_64, li_97, li_99, li_100, li_101, li_102, li_112, li_119, li_126, li_189, li_255, li_300, li_369, li_400, li_999, li_5000, li_9999, li_12345, li_99999, li_1103515245, i2_add, i2_sub, i2_mul, i2_neg, i2_le, i2_lt, i2_eq, r_rz, r_ci, r_cx, r_cv, r_vx, r_cr, r_rx, dr_ci', dr_cv', dr_cr', dr_gr', dr_x0, ↓reduceIte, Int.reduceLE, Int.reduceLT, Int.reduceEq, Int.reduceNeg, Int.reduceAdd, Int.reduceSub, Int.reduceMul, vM_k hm, vM_g0 hm, vM_p0 hm, vM_g1 hm, vM_p1 hm, vM_g2 hm, vM_p2 hm, vM_r3 hm, vM_g4 hm, vM_p4 hm, vM_g5 hm, vM_p5 hm, vM_g6 hm, vM_p6 hm, vM_r7 hm, vM_r8 hm, vM_r9 hm, vM_r10 hm, vM_r11 hm, vM_r12 hm, vM_r13 hm, vM_r14 hm, vM_r15 hm, vM_r16 hm, vM_r17 hm, vM_r18 hm, vM_g19 hm, vM_p19 hm, vM_r20 hm, vM_r21 hm, vM_r22 hm, vM_r23 hm, vM_r24 hm, vM_r25 hm, vM_r26 hm, vM_g27 hm, vM_p27 hm, vM_r28 hm, vM_r29 hm, vM_r30 hm, vM_r31 hm, vM_n32 hm, vM_a32 hm, vM_s32 hm, vM_n33 hm, vM_a33 hm, vM_s33 hm, vM_n34 hm, vM_a34 hm, vM_s34 hm, vM_n35 hm, vM_a35 hm, vM_s35 hm, vM_n36 hm, vM_a36 hm, vM_s36 hm, vM_n37 hm, vM_a37 hm, vM_s37 hm, vM_n38 hm, vM_a38 hm, vM_s38 hm, vM_n39 hm, vM_a39 hm, vM_s39 hm, vM_n40 hm, vM_a40 hm, vM_s40 hm, vM_n41 hm, vM_a41 hm, vM_s41 hm, vM_n42 hm, vM_a42 hm, vM_s42 hm, vM_n43 hm, vM_a43 hm, vM_s43 hm, vM_n44 hm, vM_a44 hm, vM_s44 hm, vM_n45 hm, vM_a45 hm, vM_s45 hm, vM_n46 hm, vM_a46 hm, vM_s46 hm, vM_n47 hm, vM_a47 hm, vM_s47 hm, vM_n48 hm, vM_a48 hm, vM_s48 hm, vM_n49 hm, vM_a49 hm, vM_s49 hm, vM_n50 hm, vM_a50 hm, vM_s50 hm, vM_n51 hm, vM_a51 hm, vM_s51 hm, vM_n52 hm, vM_a52 hm, vM_s52 hm, vM_n53 hm, vM_a53 hm, vM_s53 hm, vM_n54 hm, vM_a54 hm, vM_s54 hm, vM_n55 hm, vM_a55 hm, vM_s55 hm, y1, y2, mP_u, mP_6, mP_5, ew2]
theorem a_row {h : dr_AH} {c : Nat → Int → Int} {h' : dr_AH} {c' : Nat → Int → Int} {t : Int → Int} {l : Int} {s : Nat} (hT : LaT h) (hS : LaS h s) (hs : 4 ≤ s) (tl : tTL c t l) (hm : LaM h') (ml : mTL c' t l)
    {p : Int} (hp0 : 0 ≤ p) (hp1 : p ≤ l) (hb : mB c') (hr : SRel c s c' 369 189) :
    ∃ c2 p2 w2 c2' q2, f_T_parseAim 2 s (wr h (tP c p (-1))) = some (.inl none, wr h (tP c2 p2 w2))
      ∧ f_M_aimRow 31 (wr h' (mP c' p (-1))) = some (.inl none, wr h' (mP c2' q2 w2))
      ∧ PR l p2 w2 q2 w2 ∧ fS s c c2 ∧ f9 c' c2' ∧ mB c2' ∧ (w2 < 0 → SRel c2 s c2' 369 189 ∧ KK c2 s = KK c s + 1) := by
  have hl := tl.2.2.2.1
  have a1 := pr_num (t := t) (a := 1) (b := 20) hl (by omega) (show PR l p (-1) p (-1) from ⟨rfl, fun _ => rfl, by omega, by omega, hp0, hp1, hp0, hp1⟩)
  have x1 := t_number (a := 1) (b := 20) (w := -1) hT tl hp0 hp1 (by omega) (by omega) (by omega) (by omega) (by omega)
  have y1 := m_number (a := 1) (b := 20) (w := -1) hm ml hp0 hp1 (by omega) (by omega) (by omega) (by omega) (by omega)
  have g1 := fun hh => cnu_p (t := t) (a := 1) (b := 20) (w := -1) hp0 hp1 hh
  generalize cnu t l 1 20 p (-1) = C1 at a1 x1 g1
  generalize mnu t l 1 20 p (-1) = M1 at a1 y1
  obtain ⟨n, p1, w1⟩ := C1
  obtain ⟨n', q1, v1⟩ := M1
  dsimp only at a1 x1 y1 g1
  obtain ⟨a1, b1, d1, d2, d3⟩ := a1
  have d3 := d3 (by omega)
  obtain ⟨z1, z2, z3, z4, z5, z6, z7, z8⟩ := id a1
  subst z1
  have hf : ∀ m : Int, 1 ≤ m → m ≤ 20 → 0 ≤ tP c p1 w1 (s + 11) m ∧ tP c p1 w1 (s + 11) m ≤ 9 := fun m m1 m2 => by
    rw [tP_a _ _ _ _ (by omega)]; have := hr.2.1 m m1 m2; unfold sW at this; omega
  have hE := s_hasAim (c := tP c p1 w1) (n := n) hS (by omega) (by omega) (hf n)
  rw [tP_a _ _ _ _ (show s + 11 ≠ 2 by omega)] at hE
  have hb40 := (hb (189 + n')).2.2
  by_cases hw : w1 < 0
  · have b1' := b1 hw
    have eq1 := z2 hw
    subst eq1
    have en : n = n' := b1'.2.1
    subst en
    have hsW := hr.2.1 n (by omega) (by omega)
    unfold sW at hsW
    have p1' := g1 hw
    have ew2 : ¬ (0 ≤ w1) := by omega
    by_cases e0 : 0 < c (s + 11) n
    · have eb : bz (1 ≤ n ∧ n ≤ 20 ∧ 0 < c (s + 11) n) = 1 := by unfold bz; rw [if_pos ⟨by omega, by omega, e0⟩]
      have em : c' 40 (189 + n) = 1 := by rw [hsW.2.2.1]; unfold bz; rw [if_pos e0]
      have ew : fl w1 (p1 - 1) = p1 - 1 := by unfold fl; rw [if_pos hw]
      rw [eb] at hE
      obtain ⟨c2, p2, w2, c2', q2, k1, k2, k3⟩ := a_mid (n := n) (k := 189 + n) hT hS hs tl hm ml (by omega) (by omega) (fun _ => rfl) (show PR l p1 (p1 - 1) p1 (p1 - 1) from ⟨rfl, fun _ => rfl, by omega, by omega, by omega, by omega, by omega, by omega⟩) (fun hh => by omega) hb hr
      refine ⟨c2, p2, w2, c2', q2, ?_, ?_, k3⟩
      · rw [← k1]
        unfold f_T_parseAim
        simp (disch := omega) only [li_0, li_1, li_2, li_3, li_4, li_5, li_6, li_7, li_8, li_9, li_10, li_11, li_12, li_13, li_14, li_15, li_16, li_17, li_18, li_19, li_20, li_21, li_31, li_32, li_33, li_40, li_41, li_43, li_48, li_57, li_59, li_60, li_61, li_62, li_64, li_97, li_99, li_100, li_101, li_102, li_112, li_119, li_126, li_189, li_255, li_300, li_369, li_400, li_999, li_5000, li_9999, li_12345, li_99999, li_1103515245, i2_add, i2_sub, i2_mul, i2_neg, i2_le, i2_lt, i2_eq, r_rz, r_ci, r_cx, r_cv, r_vx, r_cr, r_rx, dr_ci', dr_cv', dr_cr', dr_gr', dr_x0, ↓reduceIte, Int.reduceLE, Int.reduceLT, Int.reduceEq, Int.reduceNeg, Int.reduceAdd, Int.reduceSub, Int.reduceMul, vT_k hT, vT_r0 hT, vT_g1 hT, vT_p1 hT, vT_g2 hT, vT_p2 hT, vT_g3 hT, vT_p3 hT, vT_n3 hT, vT_a3 hT, vT_s3 hT, vS_k hS, vS_r0 hS, vS_r1 hS, vS_r2 hS, vS_r3 hS, vS_r4 hS, vS_r5 hS, vS_r6 hS, vS_g7 hS, vS_p7 hS, vS_r8 hS, vS_r9 hS, vS_r10 hS, vS_r11 hS, vS_g12 hS, vS_p12 hS, vS_n1 hS, vS_a1 hS, vS_s1 hS, vS_n2 hS, vS_a2 hS, vS_s2 hS, vS_n3 hS, vS_a3 hS, vS_s3 hS, vS_n4 hS, vS_a4 hS, vS_s4 hS, vS_n5 hS, vS_a5 hS, vS_s5 hS, vS_n6 hS, vS_a6 hS, vS_s6 hS, vS_n7 hS, vS_a7 hS, vS_s7 hS, vS_n8 hS, vS_a8 hS, vS_s8 hS, vS_n9 hS, vS_a9 hS, vS_s9 hS, vS_n10 hS, vS_a10 hS, vS_s10 hS, vS_n11 hS, vS_a11 hS, vS_s11 hS, x1, hE, tP_2, t_fail hT, ew]
      · rw [← k2]
        unfold f_M_aimRow
        simp (disch := omega) only [li_0, li_1, li_2, li_3, li_4, li_5, li_6, li_7, li_8, li_9, li_10, li_11, li_12, li_13, li_14, li_15, li_16, li_17, li_18, li_19, li_20, li_21, li_31, li_32, li_33, li_40, li_41, li_43, li_48, li_57, li_59, li_60, li_61, li_62, li_64, li_97, li_99, li_100, li_101, li_102, li_112, li_119, li_126, li_189, li_255, li_300, li_369, li_400, li_999, li_5000, li_9999, li_12345, li_99999, li_1103515245, i2_add, i2_sub, i2_mul, i2_neg, i2_le, i2_lt, i2_eq, r_rz, r_ci, r_cx, r_cv, r_vx, r_cr, r_rx, dr_ci', dr_cv', dr_cr', dr_gr', dr_x0, ↓reduceIte, Int.reduceLE, Int.reduceLT, Int.reduceEq, Int.reduceNeg, Int.reduceAdd, Int.reduceSub, Int.reduceMul, vM_k hm, vM_g0 hm, vM_p0 hm, vM_g1 hm, vM_p1 hm, vM_g2 hm, vM_p2 hm, vM_r3 hm, vM_g4 hm, vM_p4 hm, vM_g5 hm, vM_p5 hm, vM_g6 hm, vM_p6 hm, vM_r7 hm, vM_r8 hm, vM_r9 hm, vM_r10 hm, vM_r11 hm, vM_r12 hm, vM_r13 hm, vM_r14 hm, vM_r15 hm, vM_r16 hm, vM_r17 hm, vM_r18 hm, vM_g19 hm, vM_p19 hm, vM_r20 hm, vM_r21 hm, vM_r22 hm, vM_r23 hm, vM_r24 hm, vM_r25 hm, vM_r26 hm, vM_g27 hm, vM_p27 hm, vM_r28 hm, vM_r29 hm, vM_r30 hm, vM_r31 hm, vM_n32 hm, vM_a32 hm, vM_s32 hm, vM_n33 hm, vM_a33 hm, vM_s33 hm, vM_n34 hm, vM_a34 hm, vM_s34 hm, vM_n35 hm, vM_a35 hm, vM_s35 hm, vM_n36 hm, vM_a36 hm, vM_s36 hm, vM_n37 hm, vM_a37 hm, vM_s37 hm, vM_n38 hm, vM_a38 hm, vM_s38 hm, vM_n39 hm, vM_a39 hm, vM_s39 hm, vM_n40 hm, vM_a40 hm, vM_s40 hm, vM_n41 hm, vM_a41 hm, vM_s41 hm, vM_n42 hm, vM_a42 hm, vM_s42 hm, vM_n43 hm, vM_a43 hm, vM_s43 hm, vM_n44 hm, vM_a44 hm, vM_s44 hm, vM_n45 hm, vM_a45 hm, vM_s45 hm, vM_n46 hm, vM_a46 hm, vM_s46 hm, vM_n47 hm, vM_a47 hm, vM_s47 hm, vM_n48 hm, vM_a48 hm, vM_s48 hm, vM_n49 hm, vM_a49 hm, vM_s49 hm, vM_n50 hm, vM_a50 hm, vM_s50 hm, vM_n51 hm, vM_a51 hm, vM_s51 hm, vM_n52 hm, vM_a52 hm, vM_s52 hm, vM_n53 hm, vM_a53 hm, vM_s53 hm, vM_n54 hm, vM_a54 hm, vM_s54 hm, vM_n55 hm, vM_a55 hm, vM_s55 hm, y1, mP_6, mP_5, ew2, mP_a, em, m_fail hm, ew]
    · have eb : bz (1 ≤ n ∧ n ≤ 20 ∧ 0 < c (s + 11) n) = 0 := by unfold bz; rw [if_neg (by omega)]
      have em : c' 40 (189 + n) = 0 := by rw [hsW.2.2.1]; unfold bz; rw [if_neg e0]
      rw [eb] at hE
      obtain ⟨c2, p2, w2, c2', q2, k1, k2, k3⟩ := a_mid (n := n) (k := 189 + n) hT hS hs tl hm ml (by omega) (by omega) (fun _ => rfl) a1 (fun hh => ⟨by omega, by omega, by omega⟩) hb hr
      refine ⟨c2, p2, w2, c2', q2, ?_, ?_, k3⟩
      · rw [← k1]
        unfold f_T_parseAim
        simp (disch := omega) only [li_0, li_1, li_2, li_3, li_4, li_5, li_6, li_7, li_8, li_9, li_10, li_11, li_12, li_13, li_14, li_15, li_16, li_17, li_18, li_19, li_20, li_21, li_31, li_32, li_33, li_40, li_41, li_43, li_48, li_57, li_59, li_60, li_61, li_62, li_64, li_97, li_99, li_100, li_101, li_102, li_112, li_119, li_126, li_189, li_255, li_300, li_369, li_400, li_999, li_5000, li_9999, li_12345, li_99999, li_1103515245, i2_add, i2_sub, i2_mul, i2_neg, i2_le, i2_lt, i2_eq, r_rz, r_ci, r_cx, r_cv, r_vx, r_cr, r_rx, dr_ci', dr_cv', dr_cr', dr_gr', dr_x0, ↓reduceIte, Int.reduceLE, Int.reduceLT, Int.reduceEq, Int.reduceNeg, Int.reduceAdd, Int.reduceSub, Int.reduceMul, vT_k hT, vT_r0 hT, vT_g1 hT, vT_p1 hT, vT_g2 hT, vT_p2 hT, vT_g3 hT, vT_p3 hT, vT_n3 hT, vT_a3 hT, vT_s3 hT, vS_k hS, vS_r0 hS, vS_r1 hS, vS_r2 hS, vS_r3 hS, vS_r4 hS, vS_r5 hS, vS_r6 hS, vS_g7 hS, vS_p7 hS, vS_r8 hS, vS_r9 hS, vS_r10 hS, vS_r11 hS, vS_g12 hS, vS_p12 hS, vS_n1 hS, vS_a1 hS, vS_s1 hS, vS_n2 hS, vS_a2 hS, vS_s2 hS, vS_n3 hS, vS_a3 hS, vS_s3 hS, vS_n4 hS, vS_a4 hS, vS_s4 hS, vS_n5 hS, vS_a5 hS, vS_s5 hS, vS_n6 hS, vS_a6 hS, vS_s6 hS, vS_n7 hS, vS_a7 hS, vS_s7 hS, vS_n8 hS, vS_a8 hS, vS_s8 hS, vS_n9 hS, vS_a9 hS, vS_s9 hS, vS_n10 hS, vS_a10 hS, vS_s10 hS, vS_n11 hS, vS_a11 hS, vS_s11 hS, x1, hE]
      · rw [← k2]
        unfold f_M_aimRow
        simp (disch := omega) only [li_0, li_1, li_2, li_3, li_4, li_5, li_6, li_7, li_8, li_9, li_10, li_11, li_12, li_13, li_14, li_15, li_16, li_17, li_18, li_19, li_20, li_21, li_31, li_32, li_33, li_40, li_41, li_43, li_48, li_57, li_59, li_60, li_61, li_62, li_64, li_97, li_99, li_100, li_101, li_102, li_112, li_119, li_126, li_189, li_255, li_300, li_369, li_400, li_999, li_5000, li_9999, li_12345, li_99999, li_1103515245, i2_add, i2_sub, i2_mul, i2_neg, i2_le, i2_lt, i2_eq, r_rz, r_ci, r_cx, r_cv, r_vx, r_cr, r_rx, dr_ci', dr_cv', dr_cr', dr_gr', dr_x0, ↓reduceIte, Int.reduceLE, Int.reduceLT, Int.reduceEq, Int.reduceNeg, Int.reduceAdd, Int.reduceSub, Int.reduceMul, vM_k hm, vM_g0 hm, vM_p0 hm, vM_g1 hm, vM_p1 hm, vM_g2 hm, vM_p2 hm, vM_r3 hm, vM_g4 hm, vM_p4 hm, vM_g5 hm, vM_p5 hm, vM_g6 hm, vM_p6 hm, vM_r7 hm, vM_r8 hm, vM_r9 hm, vM_r10 hm, vM_r11 hm, vM_r12 hm, vM_r13 hm, vM_r14 hm, vM_r15 hm, vM_r16 hm, vM_r17 hm, vM_r18 hm, vM_g19 hm, vM_p19 hm, vM_r20 hm, vM_r21 hm, vM_r22 hm, vM_r23 hm, vM_r24 hm, vM_r25 hm, vM_r26 hm, vM_g27 hm, vM_p27 hm, vM_r28 hm, vM_r29 hm, vM_r30 hm, vM_r31 hm, vM_n32 hm, vM_a32 hm, vM_s32 hm, vM_n33 hm, vM_a33 hm, vM_s33 hm, vM_n34 hm, vM_a34 hm, vM_s34 hm, vM_n35 hm, vM_a35 hm, vM_s35 hm, vM_n36 hm, vM_a36 hm, vM_s36 hm, vM_n37 hm, vM_a37 hm, vM_s37 hm, vM_n38 hm, vM_a38 hm, vM_s38 hm, vM_n39 hm, vM_a39 hm, vM_s39 hm, vM_n40 hm, vM_a40 hm, vM_s40 hm, vM_n41 hm, vM_a41 hm, vM_s41 hm, vM_n42 hm, vM_a42 hm, vM_s42 hm, vM_n43 hm, vM_a43 hm, vM_s43 hm, vM_n44 hm, vM_a44 hm, vM_s44 hm, vM_n45 hm, vM_a45 hm, vM_s45 hm, vM_n46 hm, vM_a46 hm, vM_s46 hm, vM_n47 hm, vM_a47 hm, vM_s47 hm, vM_n48 hm, vM_a48 hm, vM_s48 hm, vM_n49 hm, vM_a49 hm, vM_s49 hm, vM_n50 hm, vM_a50 hm, vM_s50 hm, vM_n51 hm, vM_a51 hm, vM_s51 hm, vM_n52 hm, vM_a52 hm, vM_s52 hm, vM_n53 hm, vM_a53 hm, vM_s53 hm, vM_n54 hm, vM_a54 hm, vM_s54 hm, vM_n55 hm, vM_a55 hm, vM_s55 hm, y1, mP_6, mP_5, ew2, mP_a, em]
  · have ew : fl w1 (p1 - 1) = w1 := by unfold fl; rw [if_neg hw]
    have ew2 : 0 ≤ w1 := by omega
    obtain ⟨c2, p2, w2, c2', q2, k1, k2, k3⟩ := a_mid (n := n) (k := 189 + n') hT hS hs tl hm ml (by omega) (by omega) (fun hh => by omega) a1 (fun hh => by omega) hb hr
    refine ⟨c2, p2, w2, c2', q2, ?_, ?_, k3⟩
    · rw [← k1]
      unfold f_T_parseAim
      by_cases eb : bz (1 ≤ n ∧ n ≤ 20 ∧ 0 < c (s + 11) n) = 0
      · simp (disch := omega) only [li_0, li_1, li_2, li_3, li_4, li_5, li_6, li_7, li_8, li_9, li_10, li_11, li_12, li_13, li_14, li_15, li_16, li_17, li_18, li_19, li_20, li_21, li_31, li_32, li_33, li_40, li_41, li_43, li_48, li_57, li_59, li_60, li_61, li_62, li_64, li_97, li_99, li_100, li_101, li_102, li_112, li_119, li_126, li_189, li_255, li_300, li_369, li_400, li_999, li_5000, li_9999, li_12345, li_99999, li_1103515245, i2_add, i2_sub, i2_mul, i2_neg, i2_le, i2_lt, i2_eq, r_rz, r_ci, r_cx, r_cv, r_vx, r_cr, r_rx, dr_ci', dr_cv', dr_cr', dr_gr', dr_x0, ↓reduceIte, Int.reduceLE, Int.reduceLT, Int.reduceEq, Int.reduceNeg, Int.reduceAdd, Int.reduceSub, Int.reduceMul, vT_k hT, vT_r0 hT, vT_g1 hT, vT_p1 hT, vT_g2 hT, vT_p2 hT, vT_g3 hT, vT_p3 hT, vT_n3 hT, vT_a3 hT, vT_s3 hT, vS_k hS, vS_r0 hS, vS_r1 hS, vS_r2 hS, vS_r3 hS, vS_r4 hS, vS_r5 hS, vS_r6 hS, vS_g7 hS, vS_p7 hS, vS_r8 hS, vS_r9 hS, vS_r10 hS, vS_r11 hS, vS_g12 hS, vS_p12 hS, vS_n1 hS, vS_a1 hS, vS_s1 hS, vS_n2 hS, vS_a2 hS, vS_s2 hS, vS_n3 hS, vS_a3 hS, vS_s3 hS, vS_n4 hS, vS_a4 hS, vS_s4 hS, vS_n5 hS, vS_a5 hS, vS_s5 hS, vS_n6 hS, vS_a6 hS, vS_s6 hS, vS_n7 hS, vS_a7 hS, vS_s7 hS, vS_n8 hS, vS_a8 hS, vS_s8 hS, vS_n9 hS, vS_a9 hS, vS_s9 hS, vS_n10 hS, vS_a10 hS, vS_s10 hS, vS_n11 hS, vS_a11 hS, vS_s11 hS, x1, hE, eb]
      · have := bz_01 (1 ≤ n ∧ n ≤ 20 ∧ 0 < c (s + 11) n)
        simp (disch := omega) only [li_0, li_1, li_2, li_3, li_4, li_5, li_6, li_7, li_8, li_9, li_10, li_11, li_12, li_13, li_14, li_15, li_16, li_17, li_18, li_19, li_20, li_21, li_31, li_32, li_33, li_40, li_41, li_43, li_48, li_57, li_59, li_60, li_61, li_62, li_64, li_97, li_99, li_100, li_101, li_102, li_112, li_119, li_126, li_189, li_255, li_300, li_369, li_400, li_999, li_5000, li_9999, li_12345, li_99999, li_1103515245, i2_add, i2_sub, i2_mul, i2_neg, i2_le, i2_lt, i2_eq, r_rz, r_ci, r_cx, r_cv, r_vx, r_cr, r_rx, dr_ci', dr_cv', dr_cr', dr_gr', dr_x0, ↓reduceIte, Int.reduceLE, Int.reduceLT, Int.reduceEq, Int.reduceNeg, Int.reduceAdd, Int.reduceSub, Int.reduceMul, vT_k hT, vT_r0 hT, vT_g1 hT, vT_p1 hT, vT_g2 hT, vT_p2 hT, vT_g3 hT, vT_p3 hT, vT_n3 hT, vT_a3 hT, vT_s3 hT, vS_k hS, vS_r0 hS, vS_r1 hS, vS_r2 hS, vS_r3 hS, vS_r4 hS, vS_r5 hS, vS_r6 hS, vS_g7 hS, vS_p7 hS, vS_r8 hS, vS_r9 hS, vS_r10 hS, vS_r11 hS, vS_g12 hS, vS_p12 hS, vS_n1 hS, vS_a1 hS, vS_s1 hS, vS_n2 hS, vS_a2 hS, vS_s2 hS, vS_n3 hS, vS_a3 hS, vS_s3 hS, vS_n4 hS, vS_a4 hS, vS_s4 hS, vS_n5 hS, vS_a5 hS, vS_s5 hS, vS_n6 hS, vS_a6 hS, vS_s6 hS, vS_n7 hS, vS_a7 hS, vS_s7 hS, vS_n8 hS, vS_a8 hS, vS_s8 hS, vS_n9 hS, vS_a9 hS, vS_s9 hS, vS_n10 hS, vS_a10 hS, vS_s10 hS, vS_n11 hS, vS_a11 hS, vS_s11 hS, x1, hE, eb, tP_2, t_fail hT, ew]
    · rw [← k2]
      unfold f_M_aimRow
      simp (disch := omega) only [li_0, li_1, li_2, li_3, li_4, li_5, li_6, li_7, li_8, li_9, li_10, li_11, li_12, li_13, li_14, li_15, li_16, li_17, li_18, li_19, li_20, li_21, li_31, li_32, li_33, li_40, li_41, li_43, li_48, li_57, li_59, li_60, li_61, li_62, li_64, li_97, li_99, li_100, li_101, li_102, li_112, li_119, li_126, li_189, li_255, li_300, li_369, li_400, li_999, li_5000, li_9999, li_12345, li_99999, li_1103515245, i2_add, i2_sub, i2_mul, i2_neg, i2_le, i2_lt, i2_eq, r_rz, r_ci, r_cx, r_cv, r_vx, r_cr, r_rx, dr_ci', dr_cv', dr_cr', dr_gr', dr_x0, ↓reduceIte, Int.reduceLE, Int.reduceLT, Int.reduceEq, Int.reduceNeg, Int.reduceAdd, Int.reduceSub, Int.reduceMul, vM_k hm, vM_g0 hm, vM_p0 hm, vM_g1 hm, vM_p1 hm, vM_g2 hm, vM_p2 hm, vM_r3 hm, vM_g4 hm, vM_p4 hm, vM_g5 hm, vM_p5 hm, vM_g6 hm, vM_p6 hm, vM_r7 hm, vM_r8 hm, vM_r9 hm, vM_r10 hm, vM_r11 hm, vM_r12 hm, vM_r13 hm, vM_r14 hm, vM_r15 hm, vM_r16 hm, vM_r17 hm, vM_r18 hm, vM_g19 hm, vM_p19 hm, vM_r20 hm, vM_r21 hm, vM_r22 hm, vM_r23 hm, vM_r24 hm, vM_r25 hm, vM_r26 hm, vM_g27 hm, vM_p27 hm, vM_r28 hm, vM_r29 hm, vM_r30 hm, vM_r31 hm, vM_n32 hm, vM_a32 hm, vM_s32 hm, vM_n33 hm, vM_a33 hm, vM_s33 hm, vM_n34 hm, vM_a34 hm, vM_s34 hm, vM_n35 hm, vM_a35 hm, vM_s35 hm, vM_n36 hm, vM_a36 hm, vM_s36 hm, vM_n37 hm, vM_a37 hm, vM_s37 hm, vM_n38 hm, vM_a38 hm, vM_s38 hm, vM_n39 hm, vM_a39 hm, vM_s39 hm, vM_n40 hm, vM_a40 hm, vM_s40 hm, vM_n41 hm, vM_a41 hm, vM_s41 hm, vM_n42 hm, vM_a42 hm, vM_s42 hm, vM_n43 hm, vM_a43 hm, vM_s43 hm, vM_n44 hm, vM_a44 hm, vM_s44 hm, vM_n45 hm, vM_a45 hm, vM_s45 hm, vM_n46 hm, vM_a46 hm, vM_s46 hm, vM_n47 hm, vM_a47 hm, vM_s47 hm, vM_n48 hm, vM_a48 hm, vM_s48 hm, vM_n49 hm, vM_a49 hm, vM_s49 hm, vM_n50 hm, vM_a50 hm, vM_s50 hm, vM_n51 hm, vM_a51 hm, vM_s51 hm, vM_n52 hm, vM_a52 hm, vM_s52 hm, vM_n53 hm, vM_a53 hm, vM_s53 hm, vM_n54 hm, vM_a54 hm, vM_s54 hm, vM_n55 hm, vM_a55 hm, vM_s55 hm, y1, mP_6, mP_5, ew2]
