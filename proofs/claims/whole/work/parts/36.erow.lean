/-! ===== a row of an event: the class and the reference side by side ===== -/
def cfa (t : Int → Int) (l p w : Int) : Int × Int × Int := if (cac t l 102 p).1 = 0 then (0, (cac t l 102 p).2, w) else cnu t l 1 9 (cac t l 102 p).2 w
def mfa (t : Int → Int) (l q v : Int) : Int × Int × Int := if (mts t l 102 q v).1 = 0 then (0, (mts t l 102 q v).2, v) else mnu t l 1 9 (mts t l 102 q v).2 v
theorem pr_f {t : Int → Int} {l p w q v : Int} (hl : l ≤ 300) (h : PR l p w q v) :
    PR l (cfa t l p w).2.1 (cfa t l p w).2.2 (mfa t l q v).2.1 (mfa t l q v).2.2 ∧ ((cfa t l p w).2.2 < 0 → w < 0 ∧ (cfa t l p w).1 = (mfa t l q v).1) ∧ 0 ≤ (cfa t l p w).1 ∧ (cfa t l p w).1 ≤ 9999 ∧ 0 ≤ (mfa t l q v).1 ∧ (mfa t l q v).1 ≤ 9 := by
  have ha := pr_ac (t := t) (ch := 102) hl (by omega) h
  have hn := pr_num (t := t) (a := 1) (b := 9) hl (by omega) ha.1
  unfold cfa mfa
  by_cases hw : 0 ≤ w
  · have hv : 0 ≤ v := by have := h.1; omega
    have e1 : mts t l 102 q v = (0, q) := mts_e hv
    rw [e1]
    dsimp only
    rw [if_pos rfl]
    have hr := ha.1
    rw [e1] at hr
    obtain ⟨r1, r2, r3, r4, r5, r6, r7, r8⟩ := hr
    by_cases e2 : (cac t l 102 p).1 = 0
    · rw [if_pos e2]
      exact ⟨⟨r1, r2, r3, r4, r5, r6, r7, r8⟩, fun k => ⟨k, rfl⟩, by dsimp only; omega, by dsimp only; omega, by omega, by omega⟩
    · rw [if_neg e2]
      dsimp only
      have k := cnu_e (t := t) (a := 1) (b := 9) r5 r6 hw
      refine ⟨⟨by omega, by omega, by omega, by omega, by omega, by omega, by omega, by omega⟩, fun _ => by omega, by omega, by omega, by omega, by omega⟩
  · have e := ha.2.1 (by omega)
    rw [← e]
    by_cases e2 : (cac t l 102 p).1 = 0
    · rw [if_pos e2, if_pos e2]
      exact ⟨ha.1, fun k => ⟨k, rfl⟩, by dsimp only; omega, by dsimp only; omega, by dsimp only; omega, by dsimp only; omega⟩
    · rw [if_neg e2, if_neg e2]
      obtain ⟨n1, n2, n3, n4, n5⟩ := hn
      have n6 := n5 (by omega)
      exact ⟨n1, fun k => ⟨(n2 k).1, (n2 k).2.1⟩, n3, n4, by omega, by omega⟩
theorem cfa_e {t : Int → Int} {l p w : Int} (h0 : 0 ≤ p) (h1 : p ≤ l) (hw : 0 ≤ w) : (cfa t l p w).2.2 = w := by
  have ha := cac_r (t := t) (ch := 102) h0 h1 (by omega)
  unfold cfa
  split
  · rfl
  · exact (cnu_e ha.1 ha.2.1 hw).1
theorem sk_ne {t : Int → Int} {l : Int} : ∀ (f : Nat) (p : Int), l - p ≤ f → nb t l (sk t l f p) ≠ 32 := by
  intro f
  induction f with
  | zero => intro p h; unfold sk nb; rw [if_neg (by omega)]; omega
  | succ f ih =>
    intro p h
    unfold sk
    by_cases e : nb t l p = 32
    · rw [if_pos e]; exact ih (p + 1) (by omega)
    · rw [if_neg e]; exact e
theorem sk_id {t : Int → Int} {l p : Int} (e : nb t l p ≠ 32) : sk t l 300 p = p := by
  show sk t l (299 + 1) p = p
  unfold sk
  rw [if_neg e]
theorem mTL_up {c : Nat → Int → Int} {t : Int → Int} {l : Int} (h : mTL c t l) {a : Nat} {j x : Int} (h1 : a ≠ 31) (h2 : a ≠ 32) : mTL (up c a j x) t l := by
  obtain ⟨t1, t2, t3⟩ := h
  exact ⟨by rw [up_a _ _ _ _ (Ne.symm h1)]; exact t1, fun i i1 i2 => by rw [up_a _ _ _ _ (Ne.symm h2)]; exact t2 i i1 i2, t3⟩
def m7 (c : Nat → Int → Int) (k A B S F : Int) : Nat → Int → Int := up (up (up (up (up c 34 k A) 37 k B) 38 k S) 39 k F) 33 k 1
theorem e_tail {h : dr_AH} {c : Nat → Int → Int} {h' : dr_AH} {c' : Nat → Int → Int} {t : Int → Int} {l : Int} {s : Nat} (hT : LaT h) (hS : LaS h s) (hs : s ≠ 2) (hs2 : 2 ∉ [s + 1, s + 2, s + 3, s + 4, s + 5, s + 6, s + 7]) (tl : tTL c t l) (hm : LaM h') (ml : mTL c' t l)
    {n A B k p w q v : Int} (hk : 369 ≤ k) (hk2 : k < 410) (hp : PR l p w q v) (hn : w < 0 → 1 ≤ n ∧ n ≤ 40) :
    ∃ L P S F p2 w2 L' P' S' F' q2, f_T_parseEvent_76 2 s (i2 n) (i2 A) (i2 B) (wr h (tP c p w)) = some (.inl none, wr h (tP (if w2 < 0 then deE (adE c s n A B L) s n P S F else c) p2 w2))
      ∧ f_M_eventRow_119 31 (i2 k) (wr h' (mP c' q v)) = some (.inl none, wr h' (mP (m7 c' k L' P' S' F') q2 w2))
      ∧ PR l p2 w2 q2 w2 ∧ (0 ≤ w → w2 = w) ∧ (w2 < 0 → w < 0 ∧ L = L' ∧ P = P' ∧ S = S' ∧ F = F') ∧ (0 ≤ L' ∧ L' ≤ 9999) ∧ (0 ≤ P' ∧ P' ≤ 9) ∧ (0 ≤ S' ∧ S' < 2) ∧ (0 ≤ F' ∧ F' ≤ 9) := by
  have hl := tl.2.2.2.1
  obtain ⟨z1, z2, z3, z4, z5, z6, z7, z8⟩ := hp
  have a1 := pr_num4 (t := t) (ch := 112) hl (by omega) (by omega) (show PR l p w q v from ⟨z1, z2, z3, z4, z5, z6, z7, z8⟩)
  have x1 := t_number (a := 0) (b := 9999) hT tl z5 z6 z3 z4 (by omega) (by omega) (by omega)
  have y1 := m_number (a := 0) (b := 9999) hm ml z7 z8 (w := v) (by omega) (by omega) (by omega) (by omega) (by omega)
  have g1 := fun hw => (cnu_e (t := t) (a := 0) (b := 9999) z5 z6 (hw : 0 ≤ w)).1
  generalize cnu t l 0 9999 p w = C1 at a1 x1 g1
  generalize mnu t l 0 9999 q v = M1 at a1 y1
  obtain ⟨L, p1, w1⟩ := C1
  obtain ⟨L', q1, v1⟩ := M1
  dsimp only at a1 x1 y1 g1
  obtain ⟨a1, b1, d1, d2, d3, d4, d5, d6⟩ := a1
  have x2 := t_expect (ch := 112) hT tl d5.1 d5.2.1 d5.2.2.1 d5.2.2.2 (by omega) (by omega)
  have y2 := m_take (ch := 112) hm (mTL_up (a := 34) (j := k) (x := L') ml (by decide) (by decide)) d6.1 d6.2.1 d6.2.2.1 d6.2.2.2 (by omega) (by omega)
  have g2 := fun hw => (cex_e (t := t) (ch := 112) d5.1 d5.2.1 (by omega) (hw : 0 ≤ w1)).1
  generalize cex t l 112 p1 w1 = C2 at a1 b1 x2 g2
  generalize mtk t l 112 q1 v1 = M2 at a1 y2
  obtain ⟨p2, w2⟩ := C2
  obtain ⟨q2, v2⟩ := M2
  dsimp only at a1 b1 x2 y2 g2
  obtain ⟨z1, z2, z3, z4, z5, z6, z7, z8⟩ := id a1
  have a3 := pr_num (t := t) (a := 0) (b := 9) hl (by omega) a1
  have x3 := t_number (a := 0) (b := 9) hT tl z5 z6 z3 z4 (by omega) (by omega) (by omega)
  have y3 := m_number (a := 0) (b := 9) hm (mTL_up (a := 34) (j := k) (x := L') ml (by decide) (by decide)) z7 z8 (w := v2) (by omega) (by omega) (by omega) (by omega) (by omega)
  have g3 := fun hw => (cnu_e (t := t) (a := 0) (b := 9) z5 z6 (hw : 0 ≤ w2)).1
  generalize cnu t l 0 9 p2 w2 = C3 at a3 x3 g3
  generalize mnu t l 0 9 q2 v2 = M3 at a3 y3
  obtain ⟨P, p3, w3⟩ := C3
  obtain ⟨P', q3, v3⟩ := M3
  dsimp only at a3 x3 y3 g3
  obtain ⟨a3, b3, d7, d8, d9⟩ := a3
  have d9 := d9 (by omega)
  obtain ⟨z1, z2, z3, z4, z5, z6, z7, z8⟩ := id a3
  have a4 := pr_ac (t := t) (ch := 33) hl (by omega) a3
  have x4 := t_accept (ch := 33) (w := w3) hT tl z5 z6 (by omega) (by omega)
  have y4 := m_takes (ch := 33) (w := v3) hm (mTL_up (a := 37) (j := k) (x := P') (mTL_up (a := 34) (j := k) (x := L') ml (by decide) (by decide)) (by decide) (by decide)) z7 z8 (by omega) (by omega) (by omega) (by omega)
  generalize cac t l 33 p3 = C4 at a4 x4
  generalize mts t l 33 q3 v3 = M4 at a4 y4
  obtain ⟨S, p4⟩ := C4
  obtain ⟨S', q4⟩ := M4
  dsimp only at a4 x4 y4
  obtain ⟨a4, b4, d10, d11, d12, d13⟩ := a4
  obtain ⟨z1, z2, z3, z4, z5, z6, z7, z8⟩ := id a4
  have ml4 : mTL (up (up (up c' 34 k L') 37 k P') 38 k S') t l := mTL_up (mTL_up (mTL_up ml (by decide) (by decide)) (by decide) (by decide)) (by decide) (by decide)
  have a5 := pr_f (t := t) hl a4
  have a6 := pr_ac (t := t) (ch := 102) hl (by omega) a4
  have a7 := pr_num (t := t) (a := 1) (b := 9) hl (by omega) a6.1
  have x5 := t_accept (ch := 102) (w := w3) hT tl z5 z6 (by omega) (by omega)
  have y5 := m_takes (ch := 102) (w := v3) hm ml4 z7 z8 (by omega) (by omega) (by omega) (by omega)
  have x6 := t_number (a := 1) (b := 9) (p := (cac t l 102 p4).2) (w := w3) hT tl (by have := a6.1; unfold PR at this; omega) (by have := a6.1; unfold PR at this; omega) (by omega) (by omega) (by omega) (by omega) (by omega)
  have y6 := m_number (a := 1) (b := 9) (p := (mts t l 102 q4 v3).2) (w := v3) hm ml4 (by have := a6.1; unfold PR at this; omega) (by have := a6.1; unfold PR at this; omega) (by omega) (by omega) (by omega) (by omega) (by omega)
  have g5 := fun hw => cfa_e (t := t) z5 z6 (hw : 0 ≤ w3)
  obtain ⟨a5, b5, d14, d15, d16, d17⟩ := a5
  obtain ⟨z1, z2, z3, z4, z5, z6, z7, z8⟩ := id a5
  have a8 := pr_ex (t := t) (ch := 59) hl (by omega) a5
  have x8 := t_expect (ch := 59) hT tl z5 z6 z3 z4 (by omega) (by omega)
  have ml5 : mTL (up (up (up (up c' 34 k L') 37 k P') 38 k S') 39 k (mfa t l q4 v3).1) t l := mTL_up ml4 (by decide) (by decide)
  have y8 := m_take (ch := 59) (w := (mfa t l q4 v3).2.2) hm ml5 z7 z8 (by omega) (by omega) (by omega) (by omega)
  have g8 := fun hw => (cex_e (t := t) (ch := 59) z5 z6 (by omega) (hw : 0 ≤ (cfa t l p4 w3).2.2)).1
  obtain ⟨a8, b8⟩ := a8
  obtain ⟨z1, z2, z3, z4, z5, z6, z7, z8⟩ := id a8
  refine ⟨L, P, S, (cfa t l p4 w3).1, (cex t l 59 (cfa t l p4 w3).2.1 (cfa t l p4 w3).2.2).1, (cex t l 59 (cfa t l p4 w3).2.1 (cfa t l p4 w3).2.2).2, L', P', S', (mfa t l q4 v3).1, (mtk t l 59 (mfa t l q4 v3).2.1 (mfa t l q4 v3).2.2).1, ?_, ?_, ⟨rfl, z2, z3, z4, z5, z6, z7, z8⟩, fun hw => by
    have k1 := g1 hw
    have k2 := g2 (by omega)
    have k3 := g3 (by omega)
    have k5 := g5 (by omega)
    have k8 := g8 (by omega)
    omega, ?_, ?_, ?_, ?_, ?_⟩
  · have e129 : ∀ (F : Int) (q5 w5 : Int), F = (cfa t l p4 w3).1 → q5 = (cfa t l p4 w3).2.1 → w5 = (cfa t l p4 w3).2.2 → f_T_parseEvent_129 2 s (i2 n) (i2 A) (i2 B) (i2 L) (i2 P) (i2 S) (i2 F) (wr h (tP c q5 w5)) = some (.inl none, wr h (tP (if (cex t l 59 (cfa t l p4 w3).2.1 (cfa t l p4 w3).2.2).2 < 0 then deE (adE c s n A B L) s n P S (cfa t l p4 w3).1 else c) (cex t l 59 (cfa t l p4 w3).2.1 (cfa t l p4 w3).2.2).1 (cex t l 59 (cfa t l p4 w3).2.1 (cfa t l p4 w3).2.2).2)) := by
      intro F q5 w5 e1 e2 e3
      subst e1
      subst e2
      subst e3
      unfold f_T_parseEvent_129
      simp (disch := omega) only [li_0, li_1, li_2, li_3, li_4, li_5, li_6, li_7, li_8, li_9, li_10, li_11, li_12, li_13, li_14, li_15, li_16, li_17, li_18, li_19, li_20, li_21, li_31, li_32, li_33, li_40, li_41, li_43, li_48, li_57, li_59, li_60, li_61, li_62, li_64, li_97, li_99, li_100, li_101, li_102, li_112, li_119, li_126, li_189, li_255, li_300, li_369, li_400, li_999, li_5000, li_9999, li_12345, li_99999, li_1103515245, i2_add, i2_sub, i2_mul, i2_neg, i2_le, i2_lt, i2_eq, r_rz, r_ci, r_cx, r_cv, r_vx, r_cr, r_rx, dr_ci', dr_cv', dr_cr', dr_gr', dr_x0, ↓reduceIte, Int.reduceLE, Int.reduceLT, Int.reduceEq, Int.reduceNeg, Int.reduceAdd, Int.reduceSub, Int.reduceMul, vT_k hT, vT_r0 hT, vT_g1 hT, vT_p1 hT, vT_g2 hT, vT_p2 hT, vT_g3 hT, vT_p3 hT, vT_n3 hT, vT_a3 hT, vT_s3 hT, x8, tP_3]
      by_cases ew : (cex t l 59 (cfa t l p4 w3).2.1 (cfa t l p4 w3).2.2).2 < 0
      · have ew2 : (cex t l 59 (cfa t l p4 w3).2.1 (cfa t l p4 w3).2.2).2 = -1 := by omega
        have ew3 := hn (b1 (b3 ((b5 (b8 ew)).1)).1).1
        simp at hs2
        rw [if_pos ew, if_pos ew2]
        simp (disch := omega) only [li_0, li_1, li_2, li_3, li_4, li_5, li_6, li_7, li_8, li_9, li_10, li_11, li_12, li_13, li_14, li_15, li_16, li_17, li_18, li_19, li_20, li_21, li_31, li_32, li_33, li_40, li_41, li_43, li_48, li_57, li_59, li_60, li_61, li_62, li_64, li_97, li_99, li_100, li_101, li_102, li_112, li_119, li_126, li_189, li_255, li_300, li_369, li_400, li_999, li_5000, li_9999, li_12345, li_99999, li_1103515245, i2_add, i2_sub, i2_mul, i2_neg, i2_le, i2_lt, i2_eq, r_rz, r_ci, r_cx, r_cv, r_vx, r_cr, r_rx, dr_ci', dr_cv', dr_cr', dr_gr', dr_x0, ↓reduceIte, Int.reduceLE, Int.reduceLT, Int.reduceEq, Int.reduceNeg, Int.reduceAdd, Int.reduceSub, Int.reduceMul, vS_k hS, vS_r0 hS, vS_r1 hS, vS_r2 hS, vS_r3 hS, vS_r4 hS, vS_r5 hS, vS_r6 hS, vS_g7 hS, vS_p7 hS, vS_r8 hS, vS_r9 hS, vS_r10 hS, vS_r11 hS, vS_g12 hS, vS_p12 hS, vS_n1 hS, vS_a1 hS, vS_s1 hS, vS_n2 hS, vS_a2 hS, vS_s2 hS, vS_n3 hS, vS_a3 hS, vS_s3 hS, vS_n4 hS, vS_a4 hS, vS_s4 hS, vS_n5 hS, vS_a5 hS, vS_s5 hS, vS_n6 hS, vS_a6 hS, vS_s6 hS, vS_n7 hS, vS_a7 hS, vS_s7 hS, vS_n8 hS, vS_a8 hS, vS_s8 hS, vS_n9 hS, vS_a9 hS, vS_s9 hS, vS_n10 hS, vS_a10 hS, vS_s10 hS, vS_n11 hS, vS_a11 hS, vS_s11 hS, s_addEvent hS, s_describeEvent hS]
        refine congrArg (fun z => some (Sum.inl none, wr h z)) ?_
        unfold deE adE
        rw [tP_a _ _ _ _ hs]
        rw [tP_u _ _ _ _ _ (by omega), tP_u _ _ _ _ _ (by omega), tP_u _ _ _ _ _ (by omega), tP_u _ _ _ _ _ (by omega), tP_u _ _ _ _ _ (by omega), tP_u _ _ _ _ _ (by omega), tP_u _ _ _ _ _ (by omega), tP_u _ _ _ _ _ (by omega)]
      · have ew2 : ¬ ((cex t l 59 (cfa t l p4 w3).2.1 (cfa t l p4 w3).2.2).2 = -1) := by omega
        rw [if_neg ew, if_neg ew2]
    unfold f_T_parseEvent_76
    by_cases ef : (cac t l 102 p4).1 = 0
    · have ec : cfa t l p4 w3 = (0, (cac t l 102 p4).2, w3) := by unfold cfa; rw [if_pos ef]
      simp (disch := omega) only [li_0, li_1, li_2, li_3, li_4, li_5, li_6, li_7, li_8, li_9, li_10, li_11, li_12, li_13, li_14, li_15, li_16, li_17, li_18, li_19, li_20, li_21, li_31, li_32, li_33, li_40, li_41, li_43, li_48, li_57, li_59, li_60, li_61, li_62, li_64, li_97, li_99, li_100, li_101, li_102, li_112, li_119, li_126, li_189, li_255, li_300, li_369, li_400, li_999, li_5000, li_9999, li_12345, li_99999, li_1103515245, i2_add, i2_sub, i2_mul, i2_neg, i2_le, i2_lt, i2_eq, r_rz, r_ci, r_cx, r_cv, r_vx, r_cr, r_rx, dr_ci', dr_cv', dr_cr', dr_gr', dr_x0, ↓reduceIte, Int.reduceLE, Int.reduceLT, Int.reduceEq, Int.reduceNeg, Int.reduceAdd, Int.reduceSub, Int.reduceMul, vT_k hT, vT_r0 hT, vT_g1 hT, vT_p1 hT, vT_g2 hT, vT_p2 hT, vT_g3 hT, vT_p3 hT, vT_n3 hT, vT_a3 hT, vT_s3 hT, x1, x2, x3, x4, x5, ef]
      exact e129 0 _ _ (by rw [ec]) (by rw [ec]) (by rw [ec])
    · have ec : cfa t l p4 w3 = cnu t l 1 9 (cac t l 102 p4).2 w3 := by unfold cfa; rw [if_neg ef]
      simp (disch := omega) only [li_0, li_1, li_2, li_3, li_4, li_5, li_6, li_7, li_8, li_9, li_10, li_11, li_12, li_13, li_14, li_15, li_16, li_17, li_18, li_19, li_20, li_21, li_31, li_32, li_33, li_40, li_41, li_43, li_48, li_57, li_59, li_60, li_61, li_62, li_64, li_97, li_99, li_100, li_101, li_102, li_112, li_119, li_126, li_189, li_255, li_300, li_369, li_400, li_999, li_5000, li_9999, li_12345, li_99999, li_1103515245, i2_add, i2_sub, i2_mul, i2_neg, i2_le, i2_lt, i2_eq, r_rz, r_ci, r_cx, r_cv, r_vx, r_cr, r_rx, dr_ci', dr_cv', dr_cr', dr_gr', dr_x0, ↓reduceIte, Int.reduceLE, Int.reduceLT, Int.reduceEq, Int.reduceNeg, Int.reduceAdd, Int.reduceSub, Int.reduceMul, vT_k hT, vT_r0 hT, vT_g1 hT, vT_p1 hT, vT_g2 hT, vT_p2 hT, vT_g3 hT, vT_p3 hT, vT_n3 hT, vT_a3 hT, vT_s3 hT, x1, x2, x3, x4, x5, ef, x6]
      exact e129 _ _ _ (by rw [ec]) (by rw [ec]) (by rw [ec])
  · unfold f_M_eventRow_119 m7
    by_cases ef : (mts t l 102 q4 v3).1 = 0
    · have ec : mfa t l q4 v3 = (0, (mts t l 102 q4 v3).2, v3) := by unfold mfa; rw [if_pos ef]
      rw [ec] at y8
      dsimp only at y8
      simp (disch := omega) only [li_0, li_1, li_2, li_3, li_4, li_5, li_6, li_7, li_8, li_9, li_10, li_11, li_12, li_13, li_14, li_15, li_16, li_17, li_18, li_19, li_20, li_21, li_31, li_32, li_33, li_40, li_41, li_43, li_48, li_57, li_59, li_60, li_61, li_62, li_64, li_97, li_99, li_100, li_101, li_102, li_112, li_119, li_126, li_189, li_255, li_300, li_369, li_400, li_999, li_5000, li_9999, li_12345, li_99999, li_1103515245, i2_add, i2_sub, i2_mul, i2_neg, i2_le, i2_lt, i2_eq, r_rz, r_ci, r_cx, r_cv, r_vx, r_cr, r_rx, dr_ci', dr_cv', dr_cr', dr_gr', dr_x0, ↓reduceIte, Int.reduceLE, Int.reduceLT, Int.reduceEq, Int.reduceNeg, Int.reduceAdd, Int.reduceSub, Int.reduceMul, vM_k hm, vM_g0 hm, vM_p0 hm, vM_g1 hm, vM_p1 hm, vM_g2 hm, vM_p2 hm, vM_r3 hm, vM_g4 hm, vM_p4 hm, vM_g5 hm, vM_p5 hm, vM_g6 hm, vM_p6 hm, vM_r7 hm, vM_r8 hm, vM_r9 hm, vM_r10 hm, vM_r11 hm, vM_r12 hm, vM_r13 hm, vM_r14 hm, vM_r15 hm, vM_r16 hm, vM_r17 hm, vM_r18 hm, vM_g19 hm, vM_p19 hm, vM_r20 hm, vM_r21 hm, vM_r22 hm, vM_r23 hm, vM_r24 hm, vM_r25 hm, vM_r26 hm, vM_g27 hm, vM_p27 hm, vM_r28 hm, vM_r29 hm, vM_r30 hm, vM_r31 hm, vM_n32 hm, vM_a32 hm, vM_s32 hm, vM_n33 hm, vM_a33 hm, vM_s33 hm, vM_n34 hm, vM_a34 hm, vM_s34 hm, vM_n35 hm, vM_a35 hm, vM_s35 hm, vM_n36 hm, vM_a36 hm, vM_s36 hm, vM_n37 hm, vM_a37 hm, vM_s37 hm, vM_n38 hm, vM_a38 hm, vM_s38 hm, vM_n39 hm, vM_a39 hm, vM_s39 hm, vM_n40 hm, vM_a40 hm, vM_s40 hm, vM_n41 hm, vM_a41 hm, vM_s41 hm, vM_n42 hm, vM_a42 hm, vM_s42 hm, vM_n43 hm, vM_a43 hm, vM_s43 hm, vM_n44 hm, vM_a44 hm, vM_s44 hm, vM_n45 hm, vM_a45 hm, vM_s45 hm, vM_n46 hm, vM_a46 hm, vM_s46 hm, vM_n47 hm, vM_a47 hm, vM_s47 hm, vM_n48 hm, vM_a48 hm, vM_s48 hm, vM_n49 hm, vM_a49 hm, vM_s49 hm, vM_n50 hm, vM_a50 hm, vM_s50 hm, vM_n51 hm, vM_a51 hm, vM_s51 hm, vM_n52 hm, vM_a52 hm, vM_s52 hm, vM_n53 hm, vM_a53 hm, vM_s53 hm, vM_n54 hm, vM_a54 hm, vM_s54 hm, vM_n55 hm, vM_a55 hm, vM_s55 hm, y1, mP_u, y2, y3, y4, y5, ef, y8]
      rw [z1, ec]
    · have ec : mfa t l q4 v3 = mnu t l 1 9 (mts t l 102 q4 v3).2 v3 := by unfold mfa; rw [if_neg ef]
      rw [ec] at y8
      simp (disch := omega) only [li_0, li_1, li_2, li_3, li_4, li_5, li_6, li_7, li_8, li_9, li_10, li_11, li_12, li_13, li_14, li_15, li_16, li_17, li_18, li_19, li_20, li_21, li_31, li_32, li_33, li_40, li_41, li_43, li_48, li_57, li_59, li_60, li_61, li_62, li_64, li_97, li_99, li_100, li_101, li_102, li_112, li_119, li_126, li_189, li_255, li_300, li_369, li_400, li_999, li_5000, li_9999, li_12345, li_99999, li_1103515245, i2_add, i2_sub, i2_mul, i2_neg, i2_le, i2_lt, i2_eq, r_rz, r_ci, r_cx, r_cv, r_vx, r_cr, r_rx, dr_ci', dr_cv', dr_cr', dr_gr', dr_x0, ↓reduceIte, Int.reduceLE, Int.reduceLT, Int.reduceEq, Int.reduceNeg, Int.reduceAdd, Int.reduceSub, Int.reduceMul, vM_k hm, vM_g0 hm, vM_p0 hm, vM_g1 hm, vM_p1 hm, vM_g2 hm, vM_p2 hm, vM_r3 hm, vM_g4 hm, vM_p4 hm, vM_g5 hm, vM_p5 hm, vM_g6 hm, vM_p6 hm, vM_r7 hm, vM_r8 hm, vM_r9 hm, vM_r10 hm, vM_r11 hm, vM_r12 hm, vM_r13 hm, vM_r14 hm, vM_r15 hm, vM_r16 hm, vM_r17 hm, vM_r18 hm, vM_g19 hm, vM_p19 hm, vM_r20 hm, vM_r21 hm, vM_r22 hm, vM_r23 hm, vM_r24 hm, vM_r25 hm, vM_r26 hm, vM_g27 hm, vM_p27 hm, vM_r28 hm, vM_r29 hm, vM_r30 hm, vM_r31 hm, vM_n32 hm, vM_a32 hm, vM_s32 hm, vM_n33 hm, vM_a33 hm, vM_s33 hm, vM_n34 hm, vM_a34 hm, vM_s34 hm, vM_n35 hm, vM_a35 hm, vM_s35 hm, vM_n36 hm, vM_a36 hm, vM_s36 hm, vM_n37 hm, vM_a37 hm, vM_s37 hm, vM_n38 hm, vM_a38 hm, vM_s38 hm, vM_n39 hm, vM_a39 hm, vM_s39 hm, vM_n40 hm, vM_a40 hm, vM_s40 hm, vM_n41 hm, vM_a41 hm, vM_s41 hm, vM_n42 hm, vM_a42 hm, vM_s42 hm, vM_n43 hm, vM_a43 hm, vM_s43 hm, vM_n44 hm, vM_a44 hm, vM_s44 hm, vM_n45 hm, vM_a45 hm, vM_s45 hm, vM_n46 hm, vM_a46 hm, vM_s46 hm, vM_n47 hm, vM_a47 hm, vM_s47 hm, vM_n48 hm, vM_a48 hm, vM_s48 hm, vM_n49 hm, vM_a49 hm, vM_s49 hm, vM_n50 hm, vM_a50 hm, vM_s50 hm, vM_n51 hm, vM_a51 hm, vM_s51 hm, vM_n52 hm, vM_a52 hm, vM_s52 hm, vM_n53 hm, vM_a53 hm, vM_s53 hm, vM_n54 hm, vM_a54 hm, vM_s54 hm, vM_n55 hm, vM_a55 hm, vM_s55 hm, y1, mP_u, y2, y3, y4, y5, ef, y6, y8]
      rw [z1, ec]
  · intro ew
    have k1 := b8 ew
    have k2 := b5 k1
    have k3 := b3 k2.1
    have k4 := b1 k3.1
    exact ⟨k4.1, k4.2, k3.2.1, b4 k2.1, k2.2⟩
  · exact ⟨d3, d4⟩
  · exact d9
  · exact ⟨d12, d13⟩
  · exact ⟨d16, d17⟩
