/-! ===== the two readers' loops ===== -/
theorem KK_b {c c' : Nat → Int → Int} {s : Nat} (hr : SRel c s c' 369 189) : 0 ≤ KK c s ∧ KK c s ≤ 60 := by
  have h1 := sm_b (f := c (s + 1)) (B := 1) 40 (fun i i1 i2 => by have := hr.1 i i1 i2; unfold sE at this; omega)
  have h2 := sm_b (f := fun n => bz (0 < c (s + 11) n)) (B := 1) 20 (fun i i1 i2 => by have := bz_01 (0 < c (s + 11) i); omega)
  unfold KK
  rw [hr.2.2.1]
  omega
theorem fS_t {c d : Nat → Int → Int} {s : Nat} {t : Int → Int} {l : Int} (hs : 4 ≤ s) (h : fS s c d) (tl : tTL c t l) : tTL d t l := by
  obtain ⟨t1, t2, t3⟩ := tl
  exact ⟨by rw [h 2 1 (by omega)]; exact t1, fun j j1 j2 => by rw [h 3 j (by omega)]; exact t2 j j1 j2, t3⟩
theorem f9_t {c d : Nat → Int → Int} {t : Int → Int} {l : Int} (h : f9 c d) (tl : mTL c t l) : mTL d t l := by
  obtain ⟨t1, t2, t3⟩ := tl
  exact ⟨by rw [h 31 2 (by omega)]; exact t1, fun j j1 j2 => by rw [h 32 j (by omega)]; exact t2 j j1 j2, t3⟩
def rdC (h h' : dr_AH) (s n m : Nat) (r p w q : Int) (c c' : Nat → Int → Int) : Prop := ∃ c2 p2 w2 c2' q2, f_T_parseInto_20 n 2 s (i2 r) (wr h (tP c p w)) = some (.inl (some (.int (i2 w2))), wr h (up (tP c2 p2 w2) 2 1 0))
      ∧ f_M_read_60 m 31 (wr h' (mP c' q w)) = f_M_read_117 31 (wr h' (mP c2' q2 w2))
      ∧ -1 ≤ w2 ∧ w2 ≤ 300 ∧ fS s c c2 ∧ f9 c' c2' ∧ mB c2' ∧ (w2 < 0 → SRel c2 s c2' 369 189)
theorem rd_err {h : dr_AH} {h' : dr_AH} {t : Int → Int} {l : Int} {s : Nat} (hT : LaT h) (hm : LaM h') {n m : Nat} {r p w q : Int} {c c' : Nat → Int → Int} (tl : tTL c t l) (hb : mB c') (w1 : 0 ≤ w) (w2 : w ≤ 300) (p1 : 0 ≤ p) (p2 : p ≤ l) (r1 : 0 ≤ r) (r2 : r ≤ 61) : rdC h h' s (n + 1) (m + 1) r p w q c c' := by
  have t1 := tl.1
  have t4 := tl.2.2.2.1
  refine ⟨c, p, w, c', q, ?_, ?_, by omega, w2, fun _ _ _ => rfl, fun _ _ _ => rfl, hb, fun hh => by omega⟩
  · rw [f_T_parseInto_20]
    have e1 : ¬ (300 ≤ r) := by omega
    have e2 : ¬ (w = -1) := by omega
    have e3 : up (tP c p w) 2 1 0 2 3 = w := by rw [up_j _ _ (by omega), tP_3]
    by_cases e4 : l ≤ p
    · simp (disch := omega) only [li_0, li_1, li_2, li_3, li_4, li_5, li_6, li_7, li_8, li_9, li_10, li_11, li_12, li_13, li_14, li_15, li_16, li_17, li_18, li_19, li_20, li_21, li_31, li_32, li_33, li_40, li_41, li_43, li_48, li_57, li_59, li_60, li_61, li_62, li_64, li_97, li_99, li_100, li_101, li_102, li_112, li_119, li_126, li_189, li_255, li_300, li_369, li_400, li_999, li_5000, li_9999, li_12345, li_99999, li_1103515245, i2_add, i2_sub, i2_mul, i2_neg, i2_le, i2_lt, i2_eq, r_rz, r_ci, r_cx, r_cv, r_vx, r_cr, r_rx, dr_ci', dr_cv', dr_cr', dr_gr', dr_x0, ↓reduceIte, Int.reduceLE, Int.reduceLT, Int.reduceEq, Int.reduceNeg, Int.reduceAdd, Int.reduceSub, Int.reduceMul, vT_k hT, vT_r0 hT, vT_g1 hT, vT_p1 hT, vT_g2 hT, vT_p2 hT, vT_g3 hT, vT_p3 hT, vT_n3 hT, vT_a3 hT, vT_s3 hT, e1, tP_2, tP_1, t1, e4, e3]
    · simp (disch := omega) only [li_0, li_1, li_2, li_3, li_4, li_5, li_6, li_7, li_8, li_9, li_10, li_11, li_12, li_13, li_14, li_15, li_16, li_17, li_18, li_19, li_20, li_21, li_31, li_32, li_33, li_40, li_41, li_43, li_48, li_57, li_59, li_60, li_61, li_62, li_64, li_97, li_99, li_100, li_101, li_102, li_112, li_119, li_126, li_189, li_255, li_300, li_369, li_400, li_999, li_5000, li_9999, li_12345, li_99999, li_1103515245, i2_add, i2_sub, i2_mul, i2_neg, i2_le, i2_lt, i2_eq, r_rz, r_ci, r_cx, r_cv, r_vx, r_cr, r_rx, dr_ci', dr_cv', dr_cr', dr_gr', dr_x0, ↓reduceIte, Int.reduceLE, Int.reduceLT, Int.reduceEq, Int.reduceNeg, Int.reduceAdd, Int.reduceSub, Int.reduceMul, vT_k hT, vT_r0 hT, vT_g1 hT, vT_p1 hT, vT_g2 hT, vT_p2 hT, vT_g3 hT, vT_p3 hT, vT_n3 hT, vT_a3 hT, vT_s3 hT, e1, tP_2, tP_1, tP_3, t1, e4, e2, e3]
  · rw [f_M_read_60]
    simp (disch := omega) only [li_0, li_1, li_2, li_3, li_4, li_5, li_6, li_7, li_8, li_9, li_10, li_11, li_12, li_13, li_14, li_15, li_16, li_17, li_18, li_19, li_20, li_21, li_31, li_32, li_33, li_40, li_41, li_43, li_48, li_57, li_59, li_60, li_61, li_62, li_64, li_97, li_99, li_100, li_101, li_102, li_112, li_119, li_126, li_189, li_255, li_300, li_369, li_400, li_999, li_5000, li_9999, li_12345, li_99999, li_1103515245, i2_add, i2_sub, i2_mul, i2_neg, i2_le, i2_lt, i2_eq, r_rz, r_ci, r_cx, r_cv, r_vx, r_cr, r_rx, dr_ci', dr_cv', dr_cr', dr_gr', dr_x0, ↓reduceIte, Int.reduceLE, Int.reduceLT, Int.reduceEq, Int.reduceNeg, Int.reduceAdd, Int.reduceSub, Int.reduceMul, vM_k hm, vM_g0 hm, vM_p0 hm, vM_g1 hm, vM_p1 hm, vM_g2 hm, vM_p2 hm, vM_r3 hm, vM_g4 hm, vM_p4 hm, vM_g5 hm, vM_p5 hm, vM_g6 hm, vM_p6 hm, vM_r7 hm, vM_r8 hm, vM_r9 hm, vM_r10 hm, vM_r11 hm, vM_r12 hm, vM_r13 hm, vM_r14 hm, vM_r15 hm, vM_r16 hm, vM_r17 hm, vM_r18 hm, vM_g19 hm, vM_p19 hm, vM_r20 hm, vM_r21 hm, vM_r22 hm, vM_r23 hm, vM_r24 hm, vM_r25 hm, vM_r26 hm, vM_g27 hm, vM_p27 hm, vM_r28 hm, vM_r29 hm, vM_r30 hm, vM_r31 hm, vM_n32 hm, vM_a32 hm, vM_s32 hm, vM_n33 hm, vM_a33 hm, vM_s33 hm, vM_n34 hm, vM_a34 hm, vM_s34 hm, vM_n35 hm, vM_a35 hm, vM_s35 hm, vM_n36 hm, vM_a36 hm, vM_s36 hm, vM_n37 hm, vM_a37 hm, vM_s37 hm, vM_n38 hm, vM_a38 hm, vM_s38 hm, vM_n39 hm, vM_a39 hm, vM_s39 hm, vM_n40 hm, vM_a40 hm, vM_s40 hm, vM_n41 hm, vM_a41 hm, vM_s41 hm, vM_n42 hm, vM_a42 hm, vM_s42 hm, vM_n43 hm, vM_a43 hm, vM_s43 hm, vM_n44 hm, vM_a44 hm, vM_s44 hm, vM_n45 hm, vM_a45 hm, vM_s45 hm, vM_n46 hm, vM_a46 hm, vM_s46 hm, vM_n47 hm, vM_a47 hm, vM_s47 hm, vM_n48 hm, vM_a48 hm, vM_s48 hm, vM_n49 hm, vM_a49 hm, vM_s49 hm, vM_n50 hm, vM_a50 hm, vM_s50 hm, vM_n51 hm, vM_a51 hm, vM_s51 hm, vM_n52 hm, vM_a52 hm, vM_s52 hm, vM_n53 hm, vM_a53 hm, vM_s53 hm, vM_n54 hm, vM_a54 hm, vM_s54 hm, vM_n55 hm, vM_a55 hm, vM_s55 hm, mP_6, w1]
theorem fS_tr {s : Nat} {c d e : Nat → Int → Int} (h1 : fS s c d) (h2 : fS s d e) : fS s c e := fun a j h => by rw [h2 a j h, h1 a j h]
theorem f9_tr {c d e : Nat → Int → Int} (h1 : f9 c d) (h2 : f9 d e) : f9 c e := fun a j h => by rw [h2 a j h, h1 a j h]
theorem rd_step {h : dr_AH} {h' : dr_AH} {t : Int → Int} {l : Int} {s : Nat} (hT : LaT h) (hS : LaS h s) (hs : 4 ≤ s) (hm : LaM h') {n m : Nat} {r p q : Int} {c c' : Nat → Int → Int} (tl : tTL c t l) (ml : mTL c' t l) (hb : mB c') (q1 : 0 ≤ q) (q2 : q ≤ l) (r1 : 0 ≤ r) (r2 : r ≤ 61) (hr : SRel c s c' 369 189) (hp : p = sk t l 300 q)
    (next : ∀ (p w q : Int) (c2 c2' : Nat → Int → Int), tTL c2 t l → mTL c2' t l → mB c2' → -1 ≤ w → w ≤ 300 → 0 ≤ p → p ≤ l → 0 ≤ q → q ≤ l → (w < 0 → SRel c2 s c2' 369 189 ∧ KK c2 s = KK c s + 1 ∧ p = sk t l 300 q) → rdC h h' s n m (r + 1) p w q c2 c2') : rdC h h' s (n + 1) (m + 1) r p (-1) q c c' := by
  have t1 := tl.1
  have t4 := tl.2.2.2.1
  have hS0 := sk_rr (t := t) q1 q2
  have hne := sk_ne (t := t) (l := l) 300 q (by omega)
  have hid := sk_id hne
  rw [← hp] at hS0 hne hid
  have see := m_see (w := -1) hm ml q1 q2
  rw [← hp] at see
  have e1 : ¬ (300 ≤ r) := by omega
  have hnb := nb_r tl.2.2.2.2 (p := p) hS0.1
  by_cases e4 : l ≤ p
  · have en : nb t l p = -1 := by unfold nb; rw [if_neg (by omega)]
    rw [en] at see
    refine ⟨c, p, -1, c', p, ?_, ?_, by omega, by omega, fun _ _ _ => rfl, fun _ _ _ => rfl, hb, fun hh => hr⟩
    · rw [f_T_parseInto_20]
      have e3 : up (tP c p (-1)) 2 1 0 2 3 = -1 := by rw [up_j _ _ (by omega), tP_3]
      simp (disch := omega) only [li_0, li_1, li_2, li_3, li_4, li_5, li_6, li_7, li_8, li_9, li_10, li_11, li_12, li_13, li_14, li_15, li_16, li_17, li_18, li_19, li_20, li_21, li_31, li_32, li_33, li_40, li_41, li_43, li_48, li_57, li_59, li_60, li_61, li_62, li_64, li_97, li_99, li_100, li_101, li_102, li_112, li_119, li_126, li_189, li_255, li_300, li_369, li_400, li_999, li_5000, li_9999, li_12345, li_99999, li_1103515245, i2_add, i2_sub, i2_mul, i2_neg, i2_le, i2_lt, i2_eq, r_rz, r_ci, r_cx, r_cv, r_vx, r_cr, r_rx, dr_ci', dr_cv', dr_cr', dr_gr', dr_x0, ↓reduceIte, Int.reduceLE, Int.reduceLT, Int.reduceEq, Int.reduceNeg, Int.reduceAdd, Int.reduceSub, Int.reduceMul, vT_k hT, vT_r0 hT, vT_g1 hT, vT_p1 hT, vT_g2 hT, vT_p2 hT, vT_g3 hT, vT_p3 hT, vT_n3 hT, vT_a3 hT, vT_s3 hT, e1, tP_2, tP_1, t1, e4, e3]
    · rw [f_M_read_60]
      simp (disch := omega) only [li_0, li_1, li_2, li_3, li_4, li_5, li_6, li_7, li_8, li_9, li_10, li_11, li_12, li_13, li_14, li_15, li_16, li_17, li_18, li_19, li_20, li_21, li_31, li_32, li_33, li_40, li_41, li_43, li_48, li_57, li_59, li_60, li_61, li_62, li_64, li_97, li_99, li_100, li_101, li_102, li_112, li_119, li_126, li_189, li_255, li_300, li_369, li_400, li_999, li_5000, li_9999, li_12345, li_99999, li_1103515245, i2_add, i2_sub, i2_mul, i2_neg, i2_le, i2_lt, i2_eq, r_rz, r_ci, r_cx, r_cv, r_vx, r_cr, r_rx, dr_ci', dr_cv', dr_cr', dr_gr', dr_x0, ↓reduceIte, Int.reduceLE, Int.reduceLT, Int.reduceEq, Int.reduceNeg, Int.reduceAdd, Int.reduceSub, Int.reduceMul, vM_k hm, vM_g0 hm, vM_p0 hm, vM_g1 hm, vM_p1 hm, vM_g2 hm, vM_p2 hm, vM_r3 hm, vM_g4 hm, vM_p4 hm, vM_g5 hm, vM_p5 hm, vM_g6 hm, vM_p6 hm, vM_r7 hm, vM_r8 hm, vM_r9 hm, vM_r10 hm, vM_r11 hm, vM_r12 hm, vM_r13 hm, vM_r14 hm, vM_r15 hm, vM_r16 hm, vM_r17 hm, vM_r18 hm, vM_g19 hm, vM_p19 hm, vM_r20 hm, vM_r21 hm, vM_r22 hm, vM_r23 hm, vM_r24 hm, vM_r25 hm, vM_r26 hm, vM_g27 hm, vM_p27 hm, vM_r28 hm, vM_r29 hm, vM_r30 hm, vM_r31 hm, vM_n32 hm, vM_a32 hm, vM_s32 hm, vM_n33 hm, vM_a33 hm, vM_s33 hm, vM_n34 hm, vM_a34 hm, vM_s34 hm, vM_n35 hm, vM_a35 hm, vM_s35 hm, vM_n36 hm, vM_a36 hm, vM_s36 hm, vM_n37 hm, vM_a37 hm, vM_s37 hm, vM_n38 hm, vM_a38 hm, vM_s38 hm, vM_n39 hm, vM_a39 hm, vM_s39 hm, vM_n40 hm, vM_a40 hm, vM_s40 hm, vM_n41 hm, vM_a41 hm, vM_s41 hm, vM_n42 hm, vM_a42 hm, vM_s42 hm, vM_n43 hm, vM_a43 hm, vM_s43 hm, vM_n44 hm, vM_a44 hm, vM_s44 hm, vM_n45 hm, vM_a45 hm, vM_s45 hm, vM_n46 hm, vM_a46 hm, vM_s46 hm, vM_n47 hm, vM_a47 hm, vM_s47 hm, vM_n48 hm, vM_a48 hm, vM_s48 hm, vM_n49 hm, vM_a49 hm, vM_s49 hm, vM_n50 hm, vM_a50 hm, vM_s50 hm, vM_n51 hm, vM_a51 hm, vM_s51 hm, vM_n52 hm, vM_a52 hm, vM_s52 hm, vM_n53 hm, vM_a53 hm, vM_s53 hm, vM_n54 hm, vM_a54 hm, vM_s54 hm, vM_n55 hm, vM_a55 hm, vM_s55 hm, mP_6, see]
  · have en : 0 ≤ nb t l p := by unfold nb; rw [if_pos (by omega)]; exact (tl.2.2.2.2 p hS0.1 (by omega)).1
    have en2 : ¬ (nb t l p < 0) := by omega
    have xe := t_accept (ch := 101) (w := -1) hT tl hS0.1 hS0.2 (by omega) (by omega)
    have ye := m_takes (ch := 101) (w := -1) hm ml hS0.1 hS0.2 (by omega) (by omega) (by omega) (by omega)
    unfold cac at xe
    unfold mts at ye
    rw [hid] at xe ye
    rw [if_neg (show ¬ (0 ≤ (-1 : Int)) by omega)] at ye
    -- how a row's end goes on
    have fin : ∀ (c2 : Nat → Int → Int) (p2 w2 : Int) (c2' : Nat → Int → Int) (q3 : Int), PR l p2 w2 q3 w2 → fS s c c2 → f9 c' c2' → mB c2' → (w2 < 0 → SRel c2 s c2' 369 189 ∧ KK c2 s = KK c s + 1) →
        f_T_parseRow 2 s (wr h (tP c p (-1))) = some (.inl none, wr h (tP c2 p2 w2)) → f_M_read_60 (m + 1) 31 (wr h' (mP c' q (-1))) = f_M_read_60 m 31 (wr h' (mP c2' q3 w2)) → rdC h h' s (n + 1) (m + 1) r p (-1) q c c' := by
      intro c2 p2 w2 c2' q3 hP hF h9 hB hR hX hY
      obtain ⟨z1, z2, z3, z4, z5, z6, z7, z8⟩ := hP
      have tl2 := fS_t hs hF tl
      have hS2 := sk_rr (t := t) z5 z6
      have xs := t_skip (w := w2) hT tl2 z5 z6
      obtain ⟨c3, p3, w3, c3', q4, k1, k2, k3, k4, k5, k6, k7⟩ := next (sk t l 300 p2) w2 q3 c2 c2' tl2 (f9_t h9 ml) hB z3 z4 hS2.1 hS2.2 z7 z8 (fun hh => ⟨(hR hh).1, (hR hh).2, by rw [z2 hh]⟩)
      refine ⟨c3, p3, w3, c3', q4, ?_, by rw [hY, k2], k3, k4, fS_tr hF k5, f9_tr h9 k6, k7⟩
      rw [f_T_parseInto_20]
      simp (disch := omega) only [li_0, li_1, li_2, li_3, li_4, li_5, li_6, li_7, li_8, li_9, li_10, li_11, li_12, li_13, li_14, li_15, li_16, li_17, li_18, li_19, li_20, li_21, li_31, li_32, li_33, li_40, li_41, li_43, li_48, li_57, li_59, li_60, li_61, li_62, li_64, li_97, li_99, li_100, li_101, li_102, li_112, li_119, li_126, li_189, li_255, li_300, li_369, li_400, li_999, li_5000, li_9999, li_12345, li_99999, li_1103515245, i2_add, i2_sub, i2_mul, i2_neg, i2_le, i2_lt, i2_eq, r_rz, r_ci, r_cx, r_cv, r_vx, r_cr, r_rx, dr_ci', dr_cv', dr_cr', dr_gr', dr_x0, ↓reduceIte, Int.reduceLE, Int.reduceLT, Int.reduceEq, Int.reduceNeg, Int.reduceAdd, Int.reduceSub, Int.reduceMul, vT_k hT, vT_r0 hT, vT_g1 hT, vT_p1 hT, vT_g2 hT, vT_p2 hT, vT_g3 hT, vT_p3 hT, vT_n3 hT, vT_a3 hT, vT_s3 hT, e1, tP_2, tP_1, tP_3, t1, e4, hX, xs, k1]
    by_cases ee : nb t l p = 101
    · rw [if_pos ee] at xe ye
      dsimp only at xe ye
      obtain ⟨c2, p2, w2, c2', q3, k1, k2, k3, k4, k5, k6, k7⟩ := e_row (p := p + 1) hT hS hs tl hm ml (by omega) (by omega) hb hr
      refine fin c2 p2 w2 c2' q3 k3 k4 k5 k6 k7 ?_ ?_
      · unfold f_T_parseRow
        simp (disch := omega) only [li_0, li_1, li_2, li_3, li_4, li_5, li_6, li_7, li_8, li_9, li_10, li_11, li_12, li_13, li_14, li_15, li_16, li_17, li_18, li_19, li_20, li_21, li_31, li_32, li_33, li_40, li_41, li_43, li_48, li_57, li_59, li_60, li_61, li_62, li_64, li_97, li_99, li_100, li_101, li_102, li_112, li_119, li_126, li_189, li_255, li_300, li_369, li_400, li_999, li_5000, li_9999, li_12345, li_99999, li_1103515245, i2_add, i2_sub, i2_mul, i2_neg, i2_le, i2_lt, i2_eq, r_rz, r_ci, r_cx, r_cv, r_vx, r_cr, r_rx, dr_ci', dr_cv', dr_cr', dr_gr', dr_x0, ↓reduceIte, Int.reduceLE, Int.reduceLT, Int.reduceEq, Int.reduceNeg, Int.reduceAdd, Int.reduceSub, Int.reduceMul, vT_k hT, vT_r0 hT, vT_g1 hT, vT_p1 hT, vT_g2 hT, vT_p2 hT, vT_g3 hT, vT_p3 hT, vT_n3 hT, vT_a3 hT, vT_s3 hT, xe, k1]
      · rw [f_M_read_60]
        simp (disch := omega) only [li_0, li_1, li_2, li_3, li_4, li_5, li_6, li_7, li_8, li_9, li_10, li_11, li_12, li_13, li_14, li_15, li_16, li_17, li_18, li_19, li_20, li_21, li_31, li_32, li_33, li_40, li_41, li_43, li_48, li_57, li_59, li_60, li_61, li_62, li_64, li_97, li_99, li_100, li_101, li_102, li_112, li_119, li_126, li_189, li_255, li_300, li_369, li_400, li_999, li_5000, li_9999, li_12345, li_99999, li_1103515245, i2_add, i2_sub, i2_mul, i2_neg, i2_le, i2_lt, i2_eq, r_rz, r_ci, r_cx, r_cv, r_vx, r_cr, r_rx, dr_ci', dr_cv', dr_cr', dr_gr', dr_x0, ↓reduceIte, Int.reduceLE, Int.reduceLT, Int.reduceEq, Int.reduceNeg, Int.reduceAdd, Int.reduceSub, Int.reduceMul, vM_k hm, vM_g0 hm, vM_p0 hm, vM_g1 hm, vM_p1 hm, vM_g2 hm, vM_p2 hm, vM_r3 hm, vM_g4 hm, vM_p4 hm, vM_g5 hm, vM_p5 hm, vM_g6 hm, vM_p6 hm, vM_r7 hm, vM_r8 hm, vM_r9 hm, vM_r10 hm, vM_r11 hm, vM_r12 hm, vM_r13 hm, vM_r14 hm, vM_r15 hm, vM_r16 hm, vM_r17 hm, vM_r18 hm, vM_g19 hm, vM_p19 hm, vM_r20 hm, vM_r21 hm, vM_r22 hm, vM_r23 hm, vM_r24 hm, vM_r25 hm, vM_r26 hm, vM_g27 hm, vM_p27 hm, vM_r28 hm, vM_r29 hm, vM_r30 hm, vM_r31 hm, vM_n32 hm, vM_a32 hm, vM_s32 hm, vM_n33 hm, vM_a33 hm, vM_s33 hm, vM_n34 hm, vM_a34 hm, vM_s34 hm, vM_n35 hm, vM_a35 hm, vM_s35 hm, vM_n36 hm, vM_a36 hm, vM_s36 hm, vM_n37 hm, vM_a37 hm, vM_s37 hm, vM_n38 hm, vM_a38 hm, vM_s38 hm, vM_n39 hm, vM_a39 hm, vM_s39 hm, vM_n40 hm, vM_a40 hm, vM_s40 hm, vM_n41 hm, vM_a41 hm, vM_s41 hm, vM_n42 hm, vM_a42 hm, vM_s42 hm, vM_n43 hm, vM_a43 hm, vM_s43 hm, vM_n44 hm, vM_a44 hm, vM_s44 hm, vM_n45 hm, vM_a45 hm, vM_s45 hm, vM_n46 hm, vM_a46 hm, vM_s46 hm, vM_n47 hm, vM_a47 hm, vM_s47 hm, vM_n48 hm, vM_a48 hm, vM_s48 hm, vM_n49 hm, vM_a49 hm, vM_s49 hm, vM_n50 hm, vM_a50 hm, vM_s50 hm, vM_n51 hm, vM_a51 hm, vM_s51 hm, vM_n52 hm, vM_a52 hm, vM_s52 hm, vM_n53 hm, vM_a53 hm, vM_s53 hm, vM_n54 hm, vM_a54 hm, vM_s54 hm, vM_n55 hm, vM_a55 hm, vM_s55 hm, mP_6, see, en2, ye, k2]
    · rw [if_neg ee] at xe ye
      dsimp only at xe ye
      have xa := t_accept (ch := 97) (w := -1) hT tl hS0.1 hS0.2 (by omega) (by omega)
      have ya := m_takes (ch := 97) (w := -1) hm ml hS0.1 hS0.2 (by omega) (by omega) (by omega) (by omega)
      unfold cac at xa
      unfold mts at ya
      rw [hid] at xa ya
      rw [if_neg (show ¬ (0 ≤ (-1 : Int)) by omega)] at ya
      by_cases ea : nb t l p = 97
      · rw [if_pos ea] at xa ya
        dsimp only at xa ya
        obtain ⟨c2, p2, w2, c2', q3, k1, k2, k3, k4, k5, k6, k7⟩ := a_row (p := p + 1) hT hS hs tl hm ml (by omega) (by omega) hb hr
        refine fin c2 p2 w2 c2' q3 k3 k4 k5 k6 k7 ?_ ?_
        · unfold f_T_parseRow
          simp (disch := omega) only [li_0, li_1, li_2, li_3, li_4, li_5, li_6, li_7, li_8, li_9, li_10, li_11, li_12, li_13, li_14, li_15, li_16, li_17, li_18, li_19, li_20, li_21, li_31, li_32, li_33, li_40, li_41, li_43, li_48, li_57, li_59, li_60, li_61, li_62, li_64, li_97, li_99, li_100, li_101, li_102, li_112, li_119, li_126, li_189, li_255, li_300, li_369, li_400, li_999, li_5000, li_9999, li_12345, li_99999, li_1103515245, i2_add, i2_sub, i2_mul, i2_neg, i2_le, i2_lt, i2_eq, r_rz, r_ci, r_cx, r_cv, r_vx, r_cr, r_rx, dr_ci', dr_cv', dr_cr', dr_gr', dr_x0, ↓reduceIte, Int.reduceLE, Int.reduceLT, Int.reduceEq, Int.reduceNeg, Int.reduceAdd, Int.reduceSub, Int.reduceMul, vT_k hT, vT_r0 hT, vT_g1 hT, vT_p1 hT, vT_g2 hT, vT_p2 hT, vT_g3 hT, vT_p3 hT, vT_n3 hT, vT_a3 hT, vT_s3 hT, xe, xa, k1]
        · rw [f_M_read_60]
          simp (disch := omega) only [li_0, li_1, li_2, li_3, li_4, li_5, li_6, li_7, li_8, li_9, li_10, li_11, li_12, li_13, li_14, li_15, li_16, li_17, li_18, li_19, li_20, li_21, li_31, li_32, li_33, li_40, li_41, li_43, li_48, li_57, li_59, li_60, li_61, li_62, li_64, li_97, li_99, li_100, li_101, li_102, li_112, li_119, li_126, li_189, li_255, li_300, li_369, li_400, li_999, li_5000, li_9999, li_12345, li_99999, li_1103515245, i2_add, i2_sub, i2_mul, i2_neg, i2_le, i2_lt, i2_eq, r_rz, r_ci, r_cx, r_cv, r_vx, r_cr, r_rx, dr_ci', dr_cv', dr_cr', dr_gr', dr_x0, ↓reduceIte, Int.reduceLE, Int.reduceLT, Int.reduceEq, Int.reduceNeg, Int.reduceAdd, Int.reduceSub, Int.reduceMul, vM_k hm, vM_g0 hm, vM_p0 hm, vM_g1 hm, vM_p1 hm, vM_g2 hm, vM_p2 hm, vM_r3 hm, vM_g4 hm, vM_p4 hm, vM_g5 hm, vM_p5 hm, vM_g6 hm, vM_p6 hm, vM_r7 hm, vM_r8 hm, vM_r9 hm, vM_r10 hm, vM_r11 hm, vM_r12 hm, vM_r13 hm, vM_r14 hm, vM_r15 hm, vM_r16 hm, vM_r17 hm, vM_r18 hm, vM_g19 hm, vM_p19 hm, vM_r20 hm, vM_r21 hm, vM_r22 hm, vM_r23 hm, vM_r24 hm, vM_r25 hm, vM_r26 hm, vM_g27 hm, vM_p27 hm, vM_r28 hm, vM_r29 hm, vM_r30 hm, vM_r31 hm, vM_n32 hm, vM_a32 hm, vM_s32 hm, vM_n33 hm, vM_a33 hm, vM_s33 hm, vM_n34 hm, vM_a34 hm, vM_s34 hm, vM_n35 hm, vM_a35 hm, vM_s35 hm, vM_n36 hm, vM_a36 hm, vM_s36 hm, vM_n37 hm, vM_a37 hm, vM_s37 hm, vM_n38 hm, vM_a38 hm, vM_s38 hm, vM_n39 hm, vM_a39 hm, vM_s39 hm, vM_n40 hm, vM_a40 hm, vM_s40 hm, vM_n41 hm, vM_a41 hm, vM_s41 hm, vM_n42 hm, vM_a42 hm, vM_s42 hm, vM_n43 hm, vM_a43 hm, vM_s43 hm, vM_n44 hm, vM_a44 hm, vM_s44 hm, vM_n45 hm, vM_a45 hm, vM_s45 hm, vM_n46 hm, vM_a46 hm, vM_s46 hm, vM_n47 hm, vM_a47 hm, vM_s47 hm, vM_n48 hm, vM_a48 hm, vM_s48 hm, vM_n49 hm, vM_a49 hm, vM_s49 hm, vM_n50 hm, vM_a50 hm, vM_s50 hm, vM_n51 hm, vM_a51 hm, vM_s51 hm, vM_n52 hm, vM_a52 hm, vM_s52 hm, vM_n53 hm, vM_a53 hm, vM_s53 hm, vM_n54 hm, vM_a54 hm, vM_s54 hm, vM_n55 hm, vM_a55 hm, vM_s55 hm, mP_6, see, en2, ye, ya, k2]
      · rw [if_neg ea] at xa ya
        dsimp only at xa ya
        have ef : fl (-1) p = p := rfl
        refine fin c p p c' p ⟨rfl, fun _ => rfl, by omega, by omega, by omega, by omega, by omega, by omega⟩ (fun _ _ _ => rfl) (fun _ _ _ => rfl) hb (fun hh => by omega) ?_ ?_
        · unfold f_T_parseRow
          simp (disch := omega) only [li_0, li_1, li_2, li_3, li_4, li_5, li_6, li_7, li_8, li_9, li_10, li_11, li_12, li_13, li_14, li_15, li_16, li_17, li_18, li_19, li_20, li_21, li_31, li_32, li_33, li_40, li_41, li_43, li_48, li_57, li_59, li_60, li_61, li_62, li_64, li_97, li_99, li_100, li_101, li_102, li_112, li_119, li_126, li_189, li_255, li_300, li_369, li_400, li_999, li_5000, li_9999, li_12345, li_99999, li_1103515245, i2_add, i2_sub, i2_mul, i2_neg, i2_le, i2_lt, i2_eq, r_rz, r_ci, r_cx, r_cv, r_vx, r_cr, r_rx, dr_ci', dr_cv', dr_cr', dr_gr', dr_x0, ↓reduceIte, Int.reduceLE, Int.reduceLT, Int.reduceEq, Int.reduceNeg, Int.reduceAdd, Int.reduceSub, Int.reduceMul, vT_k hT, vT_r0 hT, vT_g1 hT, vT_p1 hT, vT_g2 hT, vT_p2 hT, vT_g3 hT, vT_p3 hT, vT_n3 hT, vT_a3 hT, vT_s3 hT, xe, xa, tP_2, t_fail hT, ef]
        · rw [f_M_read_60]
          simp (disch := omega) only [li_0, li_1, li_2, li_3, li_4, li_5, li_6, li_7, li_8, li_9, li_10, li_11, li_12, li_13, li_14, li_15, li_16, li_17, li_18, li_19, li_20, li_21, li_31, li_32, li_33, li_40, li_41, li_43, li_48, li_57, li_59, li_60, li_61, li_62, li_64, li_97, li_99, li_100, li_101, li_102, li_112, li_119, li_126, li_189, li_255, li_300, li_369, li_400, li_999, li_5000, li_9999, li_12345, li_99999, li_1103515245, i2_add, i2_sub, i2_mul, i2_neg, i2_le, i2_lt, i2_eq, r_rz, r_ci, r_cx, r_cv, r_vx, r_cr, r_rx, dr_ci', dr_cv', dr_cr', dr_gr', dr_x0, ↓reduceIte, Int.reduceLE, Int.reduceLT, Int.reduceEq, Int.reduceNeg, Int.reduceAdd, Int.reduceSub, Int.reduceMul, vM_k hm, vM_g0 hm, vM_p0 hm, vM_g1 hm, vM_p1 hm, vM_g2 hm, vM_p2 hm, vM_r3 hm, vM_g4 hm, vM_p4 hm, vM_g5 hm, vM_p5 hm, vM_g6 hm, vM_p6 hm, vM_r7 hm, vM_r8 hm, vM_r9 hm, vM_r10 hm, vM_r11 hm, vM_r12 hm, vM_r13 hm, vM_r14 hm, vM_r15 hm, vM_r16 hm, vM_r17 hm, vM_r18 hm, vM_g19 hm, vM_p19 hm, vM_r20 hm, vM_r21 hm, vM_r22 hm, vM_r23 hm, vM_r24 hm, vM_r25 hm, vM_r26 hm, vM_g27 hm, vM_p27 hm, vM_r28 hm, vM_r29 hm, vM_r30 hm, vM_r31 hm, vM_n32 hm, vM_a32 hm, vM_s32 hm, vM_n33 hm, vM_a33 hm, vM_s33 hm, vM_n34 hm, vM_a34 hm, vM_s34 hm, vM_n35 hm, vM_a35 hm, vM_s35 hm, vM_n36 hm, vM_a36 hm, vM_s36 hm, vM_n37 hm, vM_a37 hm, vM_s37 hm, vM_n38 hm, vM_a38 hm, vM_s38 hm, vM_n39 hm, vM_a39 hm, vM_s39 hm, vM_n40 hm, vM_a40 hm, vM_s40 hm, vM_n41 hm, vM_a41 hm, vM_s41 hm, vM_n42 hm, vM_a42 hm, vM_s42 hm, vM_n43 hm, vM_a43 hm, vM_s43 hm, vM_n44 hm, vM_a44 hm, vM_s44 hm, vM_n45 hm, vM_a45 hm, vM_s45 hm, vM_n46 hm, vM_a46 hm, vM_s46 hm, vM_n47 hm, vM_a47 hm, vM_s47 hm, vM_n48 hm, vM_a48 hm, vM_s48 hm, vM_n49 hm, vM_a49 hm, vM_s49 hm, vM_n50 hm, vM_a50 hm, vM_s50 hm, vM_n51 hm, vM_a51 hm, vM_s51 hm, vM_n52 hm, vM_a52 hm, vM_s52 hm, vM_n53 hm, vM_a53 hm, vM_s53 hm, vM_n54 hm, vM_a54 hm, vM_s54 hm, vM_n55 hm, vM_a55 hm, vM_s55 hm, mP_6, see, en2, ye, ya, mP_5, m_fail hm, ef]
theorem rd_loop {h : dr_AH} {h' : dr_AH} {t : Int → Int} {l : Int} {s : Nat} (hT : LaT h) (hS : LaS h s) (hs : 4 ≤ s) (hm : LaM h') :
    ∀ (f n m : Nat) (r p w q : Int) (c c' : Nat → Int → Int), tTL c t l → mTL c' t l → mB c' → -1 ≤ w → w ≤ 300 → 0 ≤ p → p ≤ l → 0 ≤ q → q ≤ l → 0 ≤ r → r ≤ 61 → (w < 0 → SRel c s c' 369 189 ∧ r ≤ KK c s ∧ 60 - KK c s ≤ f ∧ p = sk t l 300 q) → f + 1 < n → f + 1 < m → rdC h h' s n m r p w q c c' := by
  intro f
  induction f with
  | zero =>
    intro n m r p w q c c' tl ml hb w1 w2 p1 p2 q1 q2 r1 r2 hw hn hm'
    obtain ⟨n, rfl⟩ : ∃ k, n = k + 2 := ⟨n - 2, by omega⟩
    obtain ⟨m, rfl⟩ : ∃ k, m = k + 2 := ⟨m - 2, by omega⟩
    by_cases ew : 0 ≤ w
    · exact rd_err hT hm tl hb ew w2 p1 p2 r1 r2
    · obtain ⟨hr, k1, k2, k3⟩ := hw (by omega)
      have hK := KK_b hr
      have ew2 : w = -1 := by omega
      subst ew2
      refine rd_step hT hS hs hm tl ml hb q1 q2 r1 r2 hr k3 (fun p' w' q' c2 c2' tl' ml' hb' w1' w2' p1' p2' q1' q2' hR => ?_)
      by_cases ew' : 0 ≤ w'
      · exact rd_err hT hm tl' hb' ew' w2' p1' p2' (by omega) (by omega)
      · obtain ⟨hr', k1', k2'⟩ := hR (by omega)
        have hK' := KK_b hr'
        omega
  | succ f ih =>
    intro n m r p w q c c' tl ml hb w1 w2 p1 p2 q1 q2 r1 r2 hw hn hm'
    obtain ⟨n, rfl⟩ : ∃ k, n = k + 2 := ⟨n - 2, by omega⟩
    obtain ⟨m, rfl⟩ : ∃ k, m = k + 2 := ⟨m - 2, by omega⟩
    by_cases ew : 0 ≤ w
    · exact rd_err hT hm tl hb ew w2 p1 p2 r1 r2
    · obtain ⟨hr, k1, k2, k3⟩ := hw (by omega)
      have hK := KK_b hr
      have ew2 : w = -1 := by omega
      subst ew2
      refine rd_step hT hS hs hm tl ml hb q1 q2 r1 r2 hr k3 (fun p' w' q' c2 c2' tl' ml' hb' w1' w2' p1' p2' q1' q2' hR => ?_)
      refine ih (n + 1) (m + 1) (r + 1) p' w' q' c2 c2' tl' ml' hb' w1' w2' p1' p2' q1' q2' (by omega) (by omega) (fun hh => ?_) (by omega) (by omega)
      obtain ⟨hr', k1', k2'⟩ := hR hh
      exact ⟨hr', by omega, by omega, k2'⟩
