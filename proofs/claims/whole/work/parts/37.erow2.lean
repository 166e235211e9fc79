/-! ===== a row of an event, whole ===== -/
theorem tTL_tP {c : Nat → Int → Int} {t : Int → Int} {l : Int} (h : tTL c t l) : tTL c t l := h
theorem c26_c {h : dr_AH} {c : Nat → Int → Int} {t : Int → Int} {l : Int} {s : Nat} (hT : LaT h) (tl : tTL c t l) {p w : Int} (hp : 0 ≤ p) (hp2 : p ≤ l) (hw : 0 ≤ w) (hw2 : w ≤ 300) (K : Int32 → Int32 → dr_AH → Option (dr_RS × dr_AH)) :
    ∃ A B p5, 0 ≤ p5 ∧ p5 ≤ l ∧ (dr_ci' (f_T_parseNumber 2 0 19 (wr h (tP c p w))) fun x8 h7 => (dr_k h7 2 2 (dr_cv' (f_T_expect 2 43 h7) fun h9 => (dr_k h9 2 2 (dr_ci' (f_T_parseNumber 2 0 999 h9) fun x11 h10 => (dr_k h10 2 2 (dr_cv' (f_T_expect 2 126 h10) fun h12 => K x8 x11 h12))))))) = K (i2 A) (i2 B) (wr h (tP c p5 w)) := by
  have x1 := t_number (a := 0) (b := 19) (w := w) hT tl hp hp2 (by omega) hw2 (by omega) (by omega) (by omega)
  have g1 := cnu_e (t := t) (a := 0) (b := 19) hp hp2 hw
  generalize cnu t l 0 19 p w = C1 at x1 g1
  obtain ⟨v1, p1, w1⟩ := C1
  dsimp only at x1 g1
  obtain ⟨k1, k2, k3, _, _⟩ := g1
  subst k1
  have x2 := t_expect (ch := 43) (w := w1) hT tl k2 k3 (by omega) hw2 (by omega) (by omega)
  have g2 := cex_e (t := t) (ch := 43) k2 k3 (by omega) hw
  generalize cex t l 43 p1 w1 = C2 at x2 g2
  obtain ⟨p2, w2⟩ := C2
  dsimp only at x2 g2
  obtain ⟨k4, k5, k6⟩ := g2
  subst k4
  have x3 := t_number (a := 0) (b := 999) (w := w2) hT tl k5 k6 (by omega) hw2 (by omega) (by omega) (by omega)
  have g3 := cnu_e (t := t) (a := 0) (b := 999) k5 k6 hw
  generalize cnu t l 0 999 p2 w2 = C3 at x3 g3
  obtain ⟨v3, p3, w3⟩ := C3
  dsimp only at x3 g3
  obtain ⟨k7, k8, k9, _, _⟩ := g3
  subst k7
  have x4 := t_expect (ch := 126) (w := w3) hT tl k8 k9 (by omega) hw2 (by omega) (by omega)
  have g4 := cex_e (t := t) (ch := 126) k8 k9 (by omega) hw
  generalize cex t l 126 p3 w3 = C4 at x4 g4
  obtain ⟨p4, w4⟩ := C4
  dsimp only at x4 g4
  obtain ⟨k10, k11, k12⟩ := g4
  subst k10
  refine ⟨v1, v3, p4, k11, k12, ?_⟩
  simp (disch := omega) only [li_0, li_1, li_2, li_3, li_4, li_5, li_6, li_7, li_8, li_9, li_10, li_11, li_12, li_13, li_14, li_15, li_16, li_17, li_18, li_19, li_20, li_21, li_31, li_32, li_33, li_40, li_41, li_43, li_48, li_57, li_59, li_60, li_61, li_62, li_64, li_97, li_99, li_100, li_101, li_102, li_112, li_119, li_126, li_189, li_255, li_300, li_369, li_400, li_999, li_5000, li_9999, li_12345, li_99999, li_1103515245, i2_add, i2_sub, i2_mul, i2_neg, i2_le, i2_lt, i2_eq, r_rz, r_ci, r_cx, r_cv, r_vx, r_cr, r_rx, dr_ci', dr_cv', dr_cr', dr_gr', dr_x0, ↓reduceIte, Int.reduceLE, Int.reduceLT, Int.reduceEq, Int.reduceNeg, Int.reduceAdd, Int.reduceSub, Int.reduceMul, vT_k hT, vT_r0 hT, vT_g1 hT, vT_p1 hT, vT_g2 hT, vT_p2 hT, vT_g3 hT, vT_p3 hT, vT_n3 hT, vT_a3 hT, vT_s3 hT, x1, x2, x3, x4]
theorem e_mid {h : dr_AH} {c : Nat → Int → Int} {h' : dr_AH} {c' : Nat → Int → Int} {t : Int → Int} {l : Int} {s : Nat} (hT : LaT h) (hS : LaS h s) (hs : s ≠ 2) (hs2 : 2 ∉ [s + 1, s + 2, s + 3, s + 4, s + 5, s + 6, s + 7]) (tl : tTL c t l) (hm : LaM h') (ml : mTL c' t l)
    {n k p w q v : Int} (hk : 369 ≤ k) (hk2 : k < 410) (hp : PR l p w q v) (hn : w < 0 → 1 ≤ n ∧ n ≤ 40) :
    ∃ c2 p2 w2 c2' q2, f_T_parseEvent_26 2 s (i2 n) (wr h (tP c p w)) = some (.inl none, wr h (tP c2 p2 w2))
      ∧ f_M_eventRow_40 31 (i2 k) (wr h' (mP c' q v)) = some (.inl none, wr h' (mP c2' q2 w2))
      ∧ PR l p2 w2 q2 w2 ∧ (0 ≤ w → w2 = w) ∧ (0 ≤ w2 → c2 = c) ∧ (∀ a j, a < 33 ∨ 39 < a ∨ j ≠ k → c2' a j = c' a j) ∧ (∀ j, 0 ≤ c' 33 j ∧ c' 33 j < 2 → 0 ≤ c2' 33 j ∧ c2' 33 j < 2) ∧ (∀ j, 0 ≤ c' 38 j ∧ c' 38 j < 2 → 0 ≤ c2' 38 j ∧ c2' 38 j < 2)
      ∧ (w2 < 0 → w < 0 ∧ ∃ A B L P S F, c2 = deE (adE c s n A B L) s n P S F ∧ c2' 33 k = 1 ∧ c2' 34 k = L ∧ c2' 35 k = A ∧ c2' 36 k = B ∧ c2' 37 k = P ∧ c2' 38 k = S ∧ c2' 39 k = F ∧ (-1 ≤ A ∧ A ≤ 19) ∧ (0 ≤ B ∧ B ≤ 999) ∧ (0 ≤ L ∧ L ≤ 9999) ∧ (0 ≤ P ∧ P ≤ 9) ∧ (0 ≤ S ∧ S < 2) ∧ (0 ≤ F ∧ F ≤ 9)) := by
  have hl := tl.2.2.2.1
  obtain ⟨z1, z2, z3, z4, z5, z6, z7, z8⟩ := id hp
  subst z1
  have xa := t_accept (ch := 64) (w := w) hT tl z5 z6 (by omega) (by omega)
  have ra := cac_r (t := t) (ch := 64) z5 z6 (by omega)
  by_cases hw : 0 ≤ w
  · have hm40 : f_M_eventRow_40 31 (i2 k) (wr h' (mP c' q w)) = some (.inl none, wr h' (mP c' q w)) := by
      unfold f_M_eventRow_40
      have e2 : ¬ (w < 0) := by omega
      simp (disch := omega) only [li_0, li_1, li_2, li_3, li_4, li_5, li_6, li_7, li_8, li_9, li_10, li_11, li_12, li_13, li_14, li_15, li_16, li_17, li_18, li_19, li_20, li_21, li_31, li_32, li_33, li_40, li_41, li_43, li_48, li_57, li_59, li_60, li_61, li_62, li_64, li_97, li_99, li_100, li_101, li_102, li_112, li_119, li_126, li_189, li_255, li_300, li_369, li_400, li_999, li_5000, li_9999, li_12345, li_99999, li_1103515245, i2_add, i2_sub, i2_mul, i2_neg, i2_le, i2_lt, i2_eq, r_rz, r_ci, r_cx, r_cv, r_vx, r_cr, r_rx, dr_ci', dr_cv', dr_cr', dr_gr', dr_x0, ↓reduceIte, Int.reduceLE, Int.reduceLT, Int.reduceEq, Int.reduceNeg, Int.reduceAdd, Int.reduceSub, Int.reduceMul, vM_k hm, vM_g0 hm, vM_p0 hm, vM_g1 hm, vM_p1 hm, vM_g2 hm, vM_p2 hm, vM_r3 hm, vM_g4 hm, vM_p4 hm, vM_g5 hm, vM_p5 hm, vM_g6 hm, vM_p6 hm, vM_r7 hm, vM_r8 hm, vM_r9 hm, vM_r10 hm, vM_r11 hm, vM_r12 hm, vM_r13 hm, vM_r14 hm, vM_r15 hm, vM_r16 hm, vM_r17 hm, vM_r18 hm, vM_g19 hm, vM_p19 hm, vM_r20 hm, vM_r21 hm, vM_r22 hm, vM_r23 hm, vM_r24 hm, vM_r25 hm, vM_r26 hm, vM_g27 hm, vM_p27 hm, vM_r28 hm, vM_r29 hm, vM_r30 hm, vM_r31 hm, vM_n32 hm, vM_a32 hm, vM_s32 hm, vM_n33 hm, vM_a33 hm, vM_s33 hm, vM_n34 hm, vM_a34 hm, vM_s34 hm, vM_n35 hm, vM_a35 hm, vM_s35 hm, vM_n36 hm, vM_a36 hm, vM_s36 hm, vM_n37 hm, vM_a37 hm, vM_s37 hm, vM_n38 hm, vM_a38 hm, vM_s38 hm, vM_n39 hm, vM_a39 hm, vM_s39 hm, vM_n40 hm, vM_a40 hm, vM_s40 hm, vM_n41 hm, vM_a41 hm, vM_s41 hm, vM_n42 hm, vM_a42 hm, vM_s42 hm, vM_n43 hm, vM_a43 hm, vM_s43 hm, vM_n44 hm, vM_a44 hm, vM_s44 hm, vM_n45 hm, vM_a45 hm, vM_s45 hm, vM_n46 hm, vM_a46 hm, vM_s46 hm, vM_n47 hm, vM_a47 hm, vM_s47 hm, vM_n48 hm, vM_a48 hm, vM_s48 hm, vM_n49 hm, vM_a49 hm, vM_s49 hm, vM_n50 hm, vM_a50 hm, vM_s50 hm, vM_n51 hm, vM_a51 hm, vM_s51 hm, vM_n52 hm, vM_a52 hm, vM_s52 hm, vM_n53 hm, vM_a53 hm, vM_s53 hm, vM_n54 hm, vM_a54 hm, vM_s54 hm, vM_n55 hm, vM_a55 hm, vM_s55 hm, mP_6, e2]
    have h76 : ∃ A B p5, 0 ≤ p5 ∧ p5 ≤ l ∧ f_T_parseEvent_26 2 s (i2 n) (wr h (tP c p w)) = f_T_parseEvent_76 2 s (i2 n) (i2 A) (i2 B) (wr h (tP c p5 w)) := by
      by_cases eb : (cac t l 64 p).1 = 0
      · have x1 := t_expect (ch := 62) (w := w) hT tl ra.1 ra.2.1 (by omega) z4 (by omega) (by omega)
        have g1 := cex_e (t := t) (ch := 62) ra.1 ra.2.1 (by omega) hw
        obtain ⟨A, B, p5, k1, k2, k3⟩ := c26_c (s := s) hT tl g1.2.1 g1.2.2 hw z4 (fun x y g => f_T_parseEvent_76 2 s (i2 n) x y g)
        refine ⟨A, B, p5, k1, k2, ?_⟩
        rw [← k3]
        rw [g1.1] at x1
        unfold f_T_parseEvent_26
        simp (disch := omega) only [li_0, li_1, li_2, li_3, li_4, li_5, li_6, li_7, li_8, li_9, li_10, li_11, li_12, li_13, li_14, li_15, li_16, li_17, li_18, li_19, li_20, li_21, li_31, li_32, li_33, li_40, li_41, li_43, li_48, li_57, li_59, li_60, li_61, li_62, li_64, li_97, li_99, li_100, li_101, li_102, li_112, li_119, li_126, li_189, li_255, li_300, li_369, li_400, li_999, li_5000, li_9999, li_12345, li_99999, li_1103515245, i2_add, i2_sub, i2_mul, i2_neg, i2_le, i2_lt, i2_eq, r_rz, r_ci, r_cx, r_cv, r_vx, r_cr, r_rx, dr_ci', dr_cv', dr_cr', dr_gr', dr_x0, ↓reduceIte, Int.reduceLE, Int.reduceLT, Int.reduceEq, Int.reduceNeg, Int.reduceAdd, Int.reduceSub, Int.reduceMul, vT_k hT, vT_r0 hT, vT_g1 hT, vT_p1 hT, vT_g2 hT, vT_p2 hT, vT_g3 hT, vT_p3 hT, vT_n3 hT, vT_a3 hT, vT_s3 hT, xa, eb, x1]
      · refine ⟨-1, 0, (cac t l 64 p).2, ra.1, ra.2.1, ?_⟩
        unfold f_T_parseEvent_26
        simp (disch := omega) only [li_0, li_1, li_2, li_3, li_4, li_5, li_6, li_7, li_8, li_9, li_10, li_11, li_12, li_13, li_14, li_15, li_16, li_17, li_18, li_19, li_20, li_21, li_31, li_32, li_33, li_40, li_41, li_43, li_48, li_57, li_59, li_60, li_61, li_62, li_64, li_97, li_99, li_100, li_101, li_102, li_112, li_119, li_126, li_189, li_255, li_300, li_369, li_400, li_999, li_5000, li_9999, li_12345, li_99999, li_1103515245, i2_add, i2_sub, i2_mul, i2_neg, i2_le, i2_lt, i2_eq, r_rz, r_ci, r_cx, r_cv, r_vx, r_cr, r_rx, dr_ci', dr_cv', dr_cr', dr_gr', dr_x0, ↓reduceIte, Int.reduceLE, Int.reduceLT, Int.reduceEq, Int.reduceNeg, Int.reduceAdd, Int.reduceSub, Int.reduceMul, vT_k hT, vT_r0 hT, vT_g1 hT, vT_p1 hT, vT_g2 hT, vT_p2 hT, vT_g3 hT, vT_p3 hT, vT_n3 hT, vT_a3 hT, vT_s3 hT, xa, eb]
    obtain ⟨A, B, p5, k1, k2, k3⟩ := h76
    obtain ⟨L, P, S, F, p2, w2, L', P', S', F', q2, y1, y2, y3, y4, y5⟩ := e_tail (n := n) (A := A) (B := B) (k := k) hT hS hs hs2 tl hm ml hk hk2 (show PR l p5 w q w from ⟨rfl, fun _ => by omega, z3, z4, k1, k2, z7, z8⟩) hn
    have y6 := y4 hw
    subst y6
    rw [if_neg (by omega)] at y1
    refine ⟨c, p2, w2, c', q, by rw [k3, y1], hm40, ⟨rfl, fun _ => by omega, z3, z4, y3.2.2.2.2.1, y3.2.2.2.2.2.1, z7, z8⟩, fun _ => rfl, fun _ => rfl, fun _ _ _ => rfl, fun _ hh => hh, fun _ hh => hh, fun hh => by omega⟩
  · have ew : w = -1 := by omega
    have ep := z2 (by omega)
    subst ep
    subst ew
    have hS0 := sk_rr (t := t) z5 z6
    have hne := sk_ne (t := t) (l := l) 300 p (by omega)
    have hid := sk_id hne
    have ml2 : mTL (up (up c' 35 k (-1)) 36 k 0) t l := mTL_up (mTL_up ml (by decide) (by decide)) (by decide) (by decide)
    have yt := m_takes (ch := 62) (w := -1) hm ml2 z7 z8 (by omega) (by omega) (by omega) (by omega)
    have hlt : ((-1 : Int) < 0) = True := by simp
    by_cases e64 : nb t l (sk t l 300 p) = 64
    · have ec : cac t l 64 p = (1, sk t l 300 p + 1) := by unfold cac; rw [if_pos e64]
      have em : mts t l 62 p (-1) = (0, sk t l 300 p) := by unfold mts; rw [if_neg (by omega), if_neg (by omega)]
      have em2 : mtk t l 64 (sk t l 300 p) (-1) = (sk t l 300 p + 1, -1) := by unfold mtk; rw [hid, if_neg (by omega), if_pos e64]
      have hlt2 := nb_in e64 (by omega)
      rw [ec] at xa
      rw [em] at yt
      dsimp only at xa yt
      have y1 := m_take (ch := 64) (w := -1) hm ml2 hS0.1 hS0.2 (by omega) (by omega) (by omega) (by omega)
      rw [em2] at y1
      dsimp only at y1
      obtain ⟨L, P, S, F, p2, w2, L', P', S', F', q2, b1, b2, b3, b4, b5, b6, b7, b8, b9⟩ := e_tail (n := n) (A := -1) (B := 0) (k := k) hT hS hs hs2 tl hm ml2 hk hk2 (show PR l (sk t l 300 p + 1) (-1) (sk t l 300 p + 1) (-1) from ⟨rfl, fun _ => rfl, by omega, by omega, by omega, by omega, by omega, by omega⟩) hn
      refine ⟨if w2 < 0 then deE (adE c s n (-1) 0 L) s n P S F else c, p2, w2, m7 (up (up c' 35 k (-1)) 36 k 0) k L' P' S' F', q2, ?_, ?_, b3, fun hh => by omega, ?_, ?_, ?_, ?_, ?_⟩
      · unfold f_T_parseEvent_26
        simp (disch := omega) only [li_0, li_1, li_2, li_3, li_4, li_5, li_6, li_7, li_8, li_9, li_10, li_11, li_12, li_13, li_14, li_15, li_16, li_17, li_18, li_19, li_20, li_21, li_31, li_32, li_33, li_40, li_41, li_43, li_48, li_57, li_59, li_60, li_61, li_62, li_64, li_97, li_99, li_100, li_101, li_102, li_112, li_119, li_126, li_189, li_255, li_300, li_369, li_400, li_999, li_5000, li_9999, li_12345, li_99999, li_1103515245, i2_add, i2_sub, i2_mul, i2_neg, i2_le, i2_lt, i2_eq, r_rz, r_ci, r_cx, r_cv, r_vx, r_cr, r_rx, dr_ci', dr_cv', dr_cr', dr_gr', dr_x0, ↓reduceIte, Int.reduceLE, Int.reduceLT, Int.reduceEq, Int.reduceNeg, Int.reduceAdd, Int.reduceSub, Int.reduceMul, vT_k hT, vT_r0 hT, vT_g1 hT, vT_p1 hT, vT_g2 hT, vT_p2 hT, vT_g3 hT, vT_p3 hT, vT_n3 hT, vT_a3 hT, vT_s3 hT, xa]
        exact b1
      · unfold f_M_eventRow_40
        simp (disch := omega) only [li_0, li_1, li_2, li_3, li_4, li_5, li_6, li_7, li_8, li_9, li_10, li_11, li_12, li_13, li_14, li_15, li_16, li_17, li_18, li_19, li_20, li_21, li_31, li_32, li_33, li_40, li_41, li_43, li_48, li_57, li_59, li_60, li_61, li_62, li_64, li_97, li_99, li_100, li_101, li_102, li_112, li_119, li_126, li_189, li_255, li_300, li_369, li_400, li_999, li_5000, li_9999, li_12345, li_99999, li_1103515245, i2_add, i2_sub, i2_mul, i2_neg, i2_le, i2_lt, i2_eq, r_rz, r_ci, r_cx, r_cv, r_vx, r_cr, r_rx, dr_ci', dr_cv', dr_cr', dr_gr', dr_x0, ↓reduceIte, Int.reduceLE, Int.reduceLT, Int.reduceEq, Int.reduceNeg, Int.reduceAdd, Int.reduceSub, Int.reduceMul, vM_k hm, vM_g0 hm, vM_p0 hm, vM_g1 hm, vM_p1 hm, vM_g2 hm, vM_p2 hm, vM_r3 hm, vM_g4 hm, vM_p4 hm, vM_g5 hm, vM_p5 hm, vM_g6 hm, vM_p6 hm, vM_r7 hm, vM_r8 hm, vM_r9 hm, vM_r10 hm, vM_r11 hm, vM_r12 hm, vM_r13 hm, vM_r14 hm, vM_r15 hm, vM_r16 hm, vM_r17 hm, vM_r18 hm, vM_g19 hm, vM_p19 hm, vM_r20 hm, vM_r21 hm, vM_r22 hm, vM_r23 hm, vM_r24 hm, vM_r25 hm, vM_r26 hm, vM_g27 hm, vM_p27 hm, vM_r28 hm, vM_r29 hm, vM_r30 hm, vM_r31 hm, vM_n32 hm, vM_a32 hm, vM_s32 hm, vM_n33 hm, vM_a33 hm, vM_s33 hm, vM_n34 hm, vM_a34 hm, vM_s34 hm, vM_n35 hm, vM_a35 hm, vM_s35 hm, vM_n36 hm, vM_a36 hm, vM_s36 hm, vM_n37 hm, vM_a37 hm, vM_s37 hm, vM_n38 hm, vM_a38 hm, vM_s38 hm, vM_n39 hm, vM_a39 hm, vM_s39 hm, vM_n40 hm, vM_a40 hm, vM_s40 hm, vM_n41 hm, vM_a41 hm, vM_s41 hm, vM_n42 hm, vM_a42 hm, vM_s42 hm, vM_n43 hm, vM_a43 hm, vM_s43 hm, vM_n44 hm, vM_a44 hm, vM_s44 hm, vM_n45 hm, vM_a45 hm, vM_s45 hm, vM_n46 hm, vM_a46 hm, vM_s46 hm, vM_n47 hm, vM_a47 hm, vM_s47 hm, vM_n48 hm, vM_a48 hm, vM_s48 hm, vM_n49 hm, vM_a49 hm, vM_s49 hm, vM_n50 hm, vM_a50 hm, vM_s50 hm, vM_n51 hm, vM_a51 hm, vM_s51 hm, vM_n52 hm, vM_a52 hm, vM_s52 hm, vM_n53 hm, vM_a53 hm, vM_s53 hm, vM_n54 hm, vM_a54 hm, vM_s54 hm, vM_n55 hm, vM_a55 hm, vM_s55 hm, mP_6, mP_u, yt, y1]
        exact b2
      · intro hh; rw [if_neg (by omega)]
      · intro a j hh
        unfold m7 up
        repeat' rw [if_neg (by omega)]
      · intro j hh; unfold m7 up; simp; split <;> omega
      · intro j hh; unfold m7 up; simp; split <;> omega
      · intro hh
        obtain ⟨_, e1, e2, e3, e4⟩ := b5 hh
        refine ⟨by omega, -1, 0, L, P, S, F, by rw [if_pos hh], ?_, ?_, ?_, ?_, ?_, ?_, ?_, by omega, by omega, by omega, by omega, by omega, by omega⟩ <;> simp [m7, up, e1, e2, e3, e4]
    · have ec : cac t l 64 p = (0, sk t l 300 p) := by unfold cac; rw [if_neg e64]
      rw [ec] at xa
      dsimp only at xa
      have x1 := t_expect (ch := 62) (w := -1) hT tl hS0.1 hS0.2 (by omega) (by omega) (by omega) (by omega)
      by_cases e62 : nb t l (sk t l 300 p) = 62
      · have hlt2 := nb_in e62 (by omega)
        have em : mts t l 62 p (-1) = (1, sk t l 300 p + 1) := by unfold mts; rw [if_neg (by omega), if_pos e62]
        have ex : cex t l 62 (sk t l 300 p) (-1) = (sk t l 300 p + 1, -1) := by unfold cex; rw [hid, if_pos e62]
        rw [ex] at x1
        rw [em] at yt
        dsimp only at x1 yt
        have a1 := pr_num (t := t) (a := 0) (b := 19) hl (by omega) (show PR l (sk t l 300 p + 1) (-1) (sk t l 300 p + 1) (-1) from ⟨rfl, fun _ => rfl, by omega, by omega, by omega, by omega, by omega, by omega⟩)
        have x2 := t_number (a := 0) (b := 19) (p := sk t l 300 p + 1) (w := -1) hT tl (by omega) (by omega) (by omega) (by omega) (by omega) (by omega) (by omega)
        have y2 := m_number (a := 0) (b := 19) (p := sk t l 300 p + 1) (w := -1) hm ml2 (by omega) (by omega) (by omega) (by omega) (by omega) (by omega) (by omega)
        generalize cnu t l 0 19 (sk t l 300 p + 1) (-1) = C2 at a1 x2
        generalize mnu t l 0 19 (sk t l 300 p + 1) (-1) = M2 at a1 y2
        obtain ⟨A, p2, w2⟩ := C2
        obtain ⟨A', q2, v2⟩ := M2
        dsimp only at a1 x2 y2
        obtain ⟨a2, b2, d1, d2, d3⟩ := a1
        have d3 := d3 (by omega)
        have ml3 : mTL (up (up (up c' 35 k (-1)) 36 k 0) 35 k A') t l := mTL_up ml2 (by decide) (by decide)
        obtain ⟨s1, s2, s3, s4, s5, s6, s7, s8⟩ := id a2
        have a3 := pr_ex (t := t) (ch := 43) hl (by omega) a2
        have x3 := t_expect (ch := 43) (w := w2) hT tl s5 s6 s3 s4 (by omega) (by omega)
        have y3 := m_take (ch := 43) (w := v2) hm ml3 s7 s8 (by omega) (by omega) (by omega) (by omega)
        generalize cex t l 43 p2 w2 = C3 at a3 x3
        generalize mtk t l 43 q2 v2 = M3 at a3 y3
        obtain ⟨p3, w3⟩ := C3
        obtain ⟨q3, v3⟩ := M3
        dsimp only at a3 x3 y3
        obtain ⟨a3, b3⟩ := a3
        obtain ⟨s1, s2, s3, s4, s5, s6, s7, s8⟩ := id a3
        have a4 := pr_num (t := t) (a := 0) (b := 999) hl (by omega) a3
        have x4 := t_number (a := 0) (b := 999) (w := w3) hT tl s5 s6 (by omega) (by omega) (by omega) (by omega) (by omega)
        have y4 := m_number (a := 0) (b := 999) (w := v3) hm ml3 s7 s8 (by omega) (by omega) (by omega) (by omega) (by omega)
        generalize cnu t l 0 999 p3 w3 = C4 at a4 x4
        generalize mnu t l 0 999 q3 v3 = M4 at a4 y4
        obtain ⟨B, p4, w4⟩ := C4
        obtain ⟨B', q4, v4⟩ := M4
        dsimp only at a4 x4 y4
        obtain ⟨a4, b4, d4, d5, d6⟩ := a4
        have d6 := d6 (by omega)
        have ml4 : mTL (up (up (up (up c' 35 k (-1)) 36 k 0) 35 k A') 36 k B') t l := mTL_up ml3 (by decide) (by decide)
        obtain ⟨s1, s2, s3, s4, s5, s6, s7, s8⟩ := id a4
        have a5 := pr_ex (t := t) (ch := 126) hl (by omega) a4
        have x5 := t_expect (ch := 126) (w := w4) hT tl s5 s6 s3 s4 (by omega) (by omega)
        have y5 := m_take (ch := 126) (w := v4) hm ml4 s7 s8 (by omega) (by omega) (by omega) (by omega)
        generalize cex t l 126 p4 w4 = C5 at a5 x5
        generalize mtk t l 126 q4 v4 = M5 at a5 y5
        obtain ⟨p5, w5⟩ := C5
        obtain ⟨q5, v5⟩ := M5
        dsimp only at a5 x5 y5
        obtain ⟨a5, b5⟩ := a5
        obtain ⟨L, P, S, F, p6, w6, L', P', S', F', q6, f1, f2, f3, f4, f5, f6, f7, f8, f9⟩ := e_tail (n := n) (A := A) (B := B) (k := k) hT hS hs hs2 tl hm ml4 hk hk2 a5 (fun _ => hn (by omega))
        refine ⟨if w6 < 0 then deE (adE c s n A B L) s n P S F else c, p6, w6, m7 (up (up (up (up c' 35 k (-1)) 36 k 0) 35 k A') 36 k B') k L' P' S' F', q6, ?_, ?_, f3, fun hh => by omega, ?_, ?_, ?_, ?_, ?_⟩
        · unfold f_T_parseEvent_26
          simp (disch := omega) only [li_0, li_1, li_2, li_3, li_4, li_5, li_6, li_7, li_8, li_9, li_10, li_11, li_12, li_13, li_14, li_15, li_16, li_17, li_18, li_19, li_20, li_21, li_31, li_32, li_33, li_40, li_41, li_43, li_48, li_57, li_59, li_60, li_61, li_62, li_64, li_97, li_99, li_100, li_101, li_102, li_112, li_119, li_126, li_189, li_255, li_300, li_369, li_400, li_999, li_5000, li_9999, li_12345, li_99999, li_1103515245, i2_add, i2_sub, i2_mul, i2_neg, i2_le, i2_lt, i2_eq, r_rz, r_ci, r_cx, r_cv, r_vx, r_cr, r_rx, dr_ci', dr_cv', dr_cr', dr_gr', dr_x0, ↓reduceIte, Int.reduceLE, Int.reduceLT, Int.reduceEq, Int.reduceNeg, Int.reduceAdd, Int.reduceSub, Int.reduceMul, vT_k hT, vT_r0 hT, vT_g1 hT, vT_p1 hT, vT_g2 hT, vT_p2 hT, vT_g3 hT, vT_p3 hT, vT_n3 hT, vT_a3 hT, vT_s3 hT, xa, x1, x2, x3, x4, x5]
          exact f1
        · unfold f_M_eventRow_40
          simp (disch := omega) only [li_0, li_1, li_2, li_3, li_4, li_5, li_6, li_7, li_8, li_9, li_10, li_11, li_12, li_13, li_14, li_15, li_16, li_17, li_18, li_19, li_20, li_21, li_31, li_32, li_33, li_40, li_41, li_43, li_48, li_57, li_59, li_60, li_61, li_62, li_64, li_97, li_99, li_100, li_101, li_102, li_112, li_119, li_126, li_189, li_255, li_300, li_369, li_400, li_999, li_5000, li_9999, li_12345, li_99999, li_1103515245, i2_add, i2_sub, i2_mul, i2_neg, i2_le, i2_lt, i2_eq, r_rz, r_ci, r_cx, r_cv, r_vx, r_cr, r_rx, dr_ci', dr_cv', dr_cr', dr_gr', dr_x0, ↓reduceIte, Int.reduceLE, Int.reduceLT, Int.reduceEq, Int.reduceNeg, Int.reduceAdd, Int.reduceSub, Int.reduceMul, vM_k hm, vM_g0 hm, vM_p0 hm, vM_g1 hm, vM_p1 hm, vM_g2 hm, vM_p2 hm, vM_r3 hm, vM_g4 hm, vM_p4 hm, vM_g5 hm, vM_p5 hm, vM_g6 hm, vM_p6 hm, vM_r7 hm, vM_r8 hm, vM_r9 hm, vM_r10 hm, vM_r11 hm, vM_r12 hm, vM_r13 hm, vM_r14 hm, vM_r15 hm, vM_r16 hm, vM_r17 hm, vM_r18 hm, vM_g19 hm, vM_p19 hm, vM_r20 hm, vM_r21 hm, vM_r22 hm, vM_r23 hm, vM_r24 hm, vM_r25 hm, vM_r26 hm, vM_g27 hm, vM_p27 hm, vM_r28 hm, vM_r29 hm, vM_r30 hm, vM_r31 hm, vM_n32 hm, vM_a32 hm, vM_s32 hm, vM_n33 hm, vM_a33 hm, vM_s33 hm, vM_n34 hm, vM_a34 hm, vM_s34 hm, vM_n35 hm, vM_a35 hm, vM_s35 hm, vM_n36 hm, vM_a36 hm, vM_s36 hm, vM_n37 hm, vM_a37 hm, vM_s37 hm, vM_n38 hm, vM_a38 hm, vM_s38 hm, vM_n39 hm, vM_a39 hm, vM_s39 hm, vM_n40 hm, vM_a40 hm, vM_s40 hm, vM_n41 hm, vM_a41 hm, vM_s41 hm, vM_n42 hm, vM_a42 hm, vM_s42 hm, vM_n43 hm, vM_a43 hm, vM_s43 hm, vM_n44 hm, vM_a44 hm, vM_s44 hm, vM_n45 hm, vM_a45 hm, vM_s45 hm, vM_n46 hm, vM_a46 hm, vM_s46 hm, vM_n47 hm, vM_a47 hm, vM_s47 hm, vM_n48 hm, vM_a48 hm, vM_s48 hm, vM_n49 hm, vM_a49 hm, vM_s49 hm, vM_n50 hm, vM_a50 hm, vM_s50 hm, vM_n51 hm, vM_a51 hm, vM_s51 hm, vM_n52 hm, vM_a52 hm, vM_s52 hm, vM_n53 hm, vM_a53 hm, vM_s53 hm, vM_n54 hm, vM_a54 hm, vM_s54 hm, vM_n55 hm, vM_a55 hm, vM_s55 hm, mP_6, mP_u, yt, y2, y3, y4, y5]
          exact f2
        · intro hh; rw [if_neg (by omega)]
        · intro a j hh
          unfold m7 up
          repeat' rw [if_neg (by omega)]
        · intro j hh; unfold m7 up; simp; split <;> omega
        · intro j hh; unfold m7 up; simp; split <;> omega
        · intro hh
          obtain ⟨e0, e1, e2, e3, e4⟩ := f5 hh
          have g5 := b5 e0
          have g4 := b4 g5
          have g3 := b3 g4.1
          have g2 := b2 g3
          refine ⟨by omega, A, B, L, P, S, F, by rw [if_pos hh], ?_, ?_, ?_, ?_, ?_, ?_, ?_, by omega, by omega, by omega, by omega, by omega, by omega⟩ <;> simp [m7, up, e1, e2, e3, e4, g4, g2]
      · have em : mts t l 62 p (-1) = (0, sk t l 300 p) := by unfold mts; rw [if_neg (by omega), if_neg e62]
        have em2 : mtk t l 64 (sk t l 300 p) (-1) = (sk t l 300 p, sk t l 300 p) := by unfold mtk; rw [hid, if_neg (by omega), if_neg e64]
        have ex : cex t l 62 (sk t l 300 p) (-1) = (sk t l 300 p, sk t l 300 p) := by unfold cex; rw [hid, if_neg e62]; rfl
        rw [ex] at x1
        rw [em] at yt
        dsimp only at x1 yt
        have y1 := m_take (ch := 64) (w := -1) hm ml2 hS0.1 hS0.2 (by omega) (by omega) (by omega) (by omega)
        rw [em2] at y1
        dsimp only at y1
        obtain ⟨A, B, p5, k1, k2, k3⟩ := c26_c (s := s) (w := sk t l 300 p) hT tl hS0.1 hS0.2 hS0.1 (by omega) (fun x y g => f_T_parseEvent_76 2 s (i2 n) x y g)
        obtain ⟨L, P, S, F, p6, w6, L', P', S', F', q6, f1, f2, f3, f4, f5, f6, f7, f8, f9⟩ := e_tail (n := n) (A := A) (B := B) (k := k) hT hS hs hs2 tl hm ml2 hk hk2 (show PR l p5 (sk t l 300 p) (sk t l 300 p) (sk t l 300 p) from ⟨rfl, fun _ => by omega, by omega, by omega, by omega, by omega, by omega, by omega⟩) (fun _ => hn (by omega))
        have f4' := f4 hS0.1
        rw [if_neg (by omega)] at f1
        refine ⟨c, p6, w6, m7 (up (up c' 35 k (-1)) 36 k 0) k L' P' S' F', q6, ?_, ?_, f3, fun hh => by omega, fun _ => rfl, ?_, ?_, ?_, ?_⟩
        · unfold f_T_parseEvent_26
          rw [← f1, ← k3]
          simp (disch := omega) only [li_0, li_1, li_2, li_3, li_4, li_5, li_6, li_7, li_8, li_9, li_10, li_11, li_12, li_13, li_14, li_15, li_16, li_17, li_18, li_19, li_20, li_21, li_31, li_32, li_33, li_40, li_41, li_43, li_48, li_57, li_59, li_60, li_61, li_62, li_64, li_97, li_99, li_100, li_101, li_102, li_112, li_119, li_126, li_189, li_255, li_300, li_369, li_400, li_999, li_5000, li_9999, li_12345, li_99999, li_1103515245, i2_add, i2_sub, i2_mul, i2_neg, i2_le, i2_lt, i2_eq, r_rz, r_ci, r_cx, r_cv, r_vx, r_cr, r_rx, dr_ci', dr_cv', dr_cr', dr_gr', dr_x0, ↓reduceIte, Int.reduceLE, Int.reduceLT, Int.reduceEq, Int.reduceNeg, Int.reduceAdd, Int.reduceSub, Int.reduceMul, vT_k hT, vT_r0 hT, vT_g1 hT, vT_p1 hT, vT_g2 hT, vT_p2 hT, vT_g3 hT, vT_p3 hT, vT_n3 hT, vT_a3 hT, vT_s3 hT, xa, x1]
        · unfold f_M_eventRow_40
          simp (disch := omega) only [li_0, li_1, li_2, li_3, li_4, li_5, li_6, li_7, li_8, li_9, li_10, li_11, li_12, li_13, li_14, li_15, li_16, li_17, li_18, li_19, li_20, li_21, li_31, li_32, li_33, li_40, li_41, li_43, li_48, li_57, li_59, li_60, li_61, li_62, li_64, li_97, li_99, li_100, li_101, li_102, li_112, li_119, li_126, li_189, li_255, li_300, li_369, li_400, li_999, li_5000, li_9999, li_12345, li_99999, li_1103515245, i2_add, i2_sub, i2_mul, i2_neg, i2_le, i2_lt, i2_eq, r_rz, r_ci, r_cx, r_cv, r_vx, r_cr, r_rx, dr_ci', dr_cv', dr_cr', dr_gr', dr_x0, ↓reduceIte, Int.reduceLE, Int.reduceLT, Int.reduceEq, Int.reduceNeg, Int.reduceAdd, Int.reduceSub, Int.reduceMul, vM_k hm, vM_g0 hm, vM_p0 hm, vM_g1 hm, vM_p1 hm, vM_g2 hm, vM_p2 hm, vM_r3 hm, vM_g4 hm, vM_p4 hm, vM_g5 hm, vM_p5 hm, vM_g6 hm, vM_p6 hm, vM_r7 hm, vM_r8 hm, vM_r9 hm, vM_r10 hm, vM_r11 hm, vM_r12 hm, vM_r13 hm, vM_r14 hm, vM_r15 hm, vM_r16 hm, vM_r17 hm, vM_r18 hm, vM_g19 hm, vM_p19 hm, vM_r20 hm, vM_r21 hm, vM_r22 hm, vM_r23 hm, vM_r24 hm, vM_r25 hm, vM_r26 hm, vM_g27 hm, vM_p27 hm, vM_r28 hm, vM_r29 hm, vM_r30 hm, vM_r31 hm, vM_n32 hm, vM_a32 hm, vM_s32 hm, vM_n33 hm, vM_a33 hm, vM_s33 hm, vM_n34 hm, vM_a34 hm, vM_s34 hm, vM_n35 hm, vM_a35 hm, vM_s35 hm, vM_n36 hm, vM_a36 hm, vM_s36 hm, vM_n37 hm, vM_a37 hm, vM_s37 hm, vM_n38 hm, vM_a38 hm, vM_s38 hm, vM_n39 hm, vM_a39 hm, vM_s39 hm, vM_n40 hm, vM_a40 hm, vM_s40 hm, vM_n41 hm, vM_a41 hm, vM_s41 hm, vM_n42 hm, vM_a42 hm, vM_s42 hm, vM_n43 hm, vM_a43 hm, vM_s43 hm, vM_n44 hm, vM_a44 hm, vM_s44 hm, vM_n45 hm, vM_a45 hm, vM_s45 hm, vM_n46 hm, vM_a46 hm, vM_s46 hm, vM_n47 hm, vM_a47 hm, vM_s47 hm, vM_n48 hm, vM_a48 hm, vM_s48 hm, vM_n49 hm, vM_a49 hm, vM_s49 hm, vM_n50 hm, vM_a50 hm, vM_s50 hm, vM_n51 hm, vM_a51 hm, vM_s51 hm, vM_n52 hm, vM_a52 hm, vM_s52 hm, vM_n53 hm, vM_a53 hm, vM_s53 hm, vM_n54 hm, vM_a54 hm, vM_s54 hm, vM_n55 hm, vM_a55 hm, vM_s55 hm, mP_6, mP_u, yt, y1]
          exact f2
        · intro a j hh
          unfold m7 up
          repeat' rw [if_neg (by omega)]
        · intro j hh; unfold m7 up; simp; split <;> omega
        · intro j hh; unfold m7 up; simp; split <;> omega
        · intro hh; omega
