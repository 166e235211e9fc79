/-! ===== read, as a call ===== -/
theorem Lay_r {L nd : Nat} {h h' : dr_AH} {da sa : Nat → Nat} {cs sp cs' sp' : Nat} (hA : Adr h.1 nd da sa cs sp) (hl : Lay L h nd da sa cs sp) (e : ∀ a, a ≤ h.1 → a ≠ 1 → h'.2.2 a = h.2.2 a) (r : LaR h' cs' sp') (s1 : LaS h' cs') (s2 : LaS h' sp') : Lay L h' nd da sa cs' sp' := by
  obtain ⟨a0, a1, a2, a3, a4, a5, a6⟩ := hA
  obtain ⟨l1, l2, l3, l4, l5, l6, l7, l8, l9⟩ := hl
  refine ⟨LaM_f (fun a h1 h2 => e a (by omega) (by omega)) l1, LaT_f (fun a h1 h2 => e a (by omega) (by omega)) l2, r, s1, s2, ?_, fun i hi => ?_, ?_, ?_⟩
  · rw [e 28 (by omega) (by omega)]; exact l6
  · have := a4 i hi
    unfold sad at this
    exact ⟨LaD_f (fun a h1 h2 => e a (by omega) (by omega)) (l7 i hi).1, LaS_f (fun a h1 h2 => e a (by omega) (by omega)) (l7 i hi).2⟩
  · rw [e 56 (by omega) (by omega)]; exact l8
  · unfold sA sI at l9 ⊢
    rw [e 0 (by omega) (by omega)]; exact l9
theorem LaR_p1 {h : dr_AH} {s t u : Nat} (hl : LaR h s t) : LaR (dr_put h 1 1 (.ref u)) u t := by
  unfold LaR sA sI sR at hl ⊢
  rw [put_eq, put_ne (show (29 : Nat) ≠ 1 by decide), put_ne (show (30 : Nat) ≠ 1 by decide)]
  unfold dr_set
  obtain ⟨q1, q2, q3, q4⟩ := hl
  exact ⟨q1, q2, rfl, q4⟩
theorem LaR_p2 {h : dr_AH} {s t u : Nat} (hl : LaR h s t) : LaR (dr_put h 1 2 (.ref u)) s u := by
  unfold LaR sA sI sR at hl ⊢
  rw [put_eq, put_ne (show (29 : Nat) ≠ 1 by decide), put_ne (show (30 : Nat) ≠ 1 by decide)]
  unfold dr_set
  obtain ⟨q1, q2, q3, q4, q5⟩ := hl
  exact ⟨q1, q2, q3, rfl, q5⟩
theorem LaS_p {h : dr_AH} {s k : Nat} {v : Value} (hl : LaS h s) (hs : 4 ≤ s) : LaS (dr_put h 1 k v) s := LaS_f (fun a h1 _ => put_ne (by omega)) hl
theorem nS_0 : ∀ j y, defaultValue (nt_S j) = .int y → y = 0 := by
  intro j y
  unfold nt_S
  split <;> (intro e; first | (injection e with e; exact e.symm) | (exact absurd e (by simp [defaultValue])))
section OR
variable {L k nd : Nat} {h : dr_AH} {c : Nat → Int → Int} {da sa : Nat → Nat} {cs sp : Nat}
theorem rd_C {A : Nat → Int → Int} {p w : Int} (hs : 4 ≤ sp) (hf : fS sp c A) {q : Nat} {j : Int} (h1 : ¬ (q = 1 ∧ j = 3)) (h2 : q ≠ 2) (h3 : ¬ (sp ≤ q ∧ q ≤ sp + 11 ∧ (q = sp → j = 7))) : up (up (tP A p w) 2 1 0) 1 3 w q j = c q j := by
  rw [up_c31 _ h1, up_c31 _ (by omega)]
  unfold tP
  rw [if_neg h2]
  exact hf q j (by omega)
theorem rd_A {A : Nat → Int → Int} {p w : Int} {q : Nat} {j : Int} (h1 : 4 ≤ q) : up (up (tP A p w) 2 1 0) 1 3 w q j = A q j := by
  rw [up_c31 _ (by omega), up_c31 _ (by omega)]
  unfold tP
  rw [if_neg (by omega)]
theorem rd_fin (S : St L k h c nd da sa cs sp) {A : Nat → Int → Int} {p w : Int} (hf : fS sp c A) (hw : w < 0) (hw1 : -1 ≤ w) {h1 : dr_AH} {c1 c2' : Nat → Int → Int} {q2 : Int} {sp' : Nat}
    (x1 : ∀ q j, q ≤ h.1 → c1 q j = up (up (tP A p w) 2 1 0) 1 3 w q j) (x2 : c1 sp' 12 = 0) (x3 : Lay L h1 nd da sa sp sp') (x4 : Adr h1.1 nd da sa sp sp') (x5 : h1.1 ≤ h.1 + 12) (x6 : h1.2.1 ≤ h.2.1 + 400)
    (g6 : f9 c1 c2') (g7 : mB c2') (g8 : SRel A sp c2' 369 189) (v : Int) :
    Sx L (k + 1) (hE 0 v h1) (cpa (cpe (up (up (up (mP c2' q2 w) 31 2 0) 31 4 w) 31 0 0) 9 8 41) 9 8 21) := by
  obtain ⟨hl, hA, hI, hT, hU, hW, b1, b2⟩ := S
  obtain ⟨y0, y1, y2, y3, y4, y5, y6⟩ := hA
  unfold sad at y1 y2
  obtain ⟨i1, i2', i3, i4, i5, i6, i7, i8, i9⟩ := hI
  have FC : ∀ (q : Nat) (j : Int), q < 31 ∨ 55 < q → cpa (cpe (up (up (up (mP c2' q2 w) 31 2 0) 31 4 w) 31 0 0) 9 8 41) 9 8 21 q j = c1 q j := by
    intro q j hq
    rw [cp_n _ (by omega) (by omega), rd_n _ (by omega)]
    exact g6 q j (by omega)
  have F2 : ∀ (q : Nat) (j : Int), q ≤ h.1 → ¬ (q = 1 ∧ j = 3) → q ≠ 2 → ¬ (sp ≤ q ∧ q ≤ sp + 11 ∧ (q = sp → j = 7)) → ¬ (q = 31 ∧ (j = 0 ∨ j = 2 ∨ j = 4 ∨ j = 5 ∨ j = 6)) → ¬ (33 ≤ q ∧ q ≤ 39 ∧ 328 ≤ j) → ¬ (40 ≤ q ∧ q ≤ 44 ∧ 168 ≤ j) → cpa (cpe (up (up (up (mP c2' q2 w) 31 2 0) 31 4 w) 31 0 0) 9 8 41) 9 8 21 q j = c q j := by
    intro q j f0 f1 f2 f3 f4 f5 f6
    rw [cp_n _ (by omega) (by omega), rd_n _ f4, g6 q j (by omega), x1 q j f0, rd_C (by omega) hf f1 f2 f3]
  have h2 := hE_1 (h := h1) (k := 0) (v := v)
  refine ⟨nd, da, sa, sp, sp', Lay_hE x4 x3, Adr_le x4 h2.1, ⟨?_, ?_, SRel_f g8 (fun q j q1 q2 q3 => ?_) (fun q n q1 q2 n1 n2 => ?_) (fun q n q1 q2 n1 n2 => ?_), cp_B ?_, fun j j1 j2 => ?_, fun i hi => ?_, ?_, fun _ i hi => (y4 i hi).2.2.2.2, fun j => ?_⟩, ⟨?_, ?_⟩, IU_f hU (fun q j hq => ?_), IW_f hW (fun q j hq => ?_), by omega, by omega⟩
  · rw [F2 1 6 (by omega) (by omega) (by omega) (by omega) (by omega) (by omega) (by omega), F2 31 19 (by omega) (by omega) (by omega) (by omega) (by omega) (by omega) (by omega)]; exact i1
  · rw [F2 1 4 (by omega) (by omega) (by omega) (by omega) (by omega) (by omega) (by omega), F2 31 1 (by omega) (by omega) (by omega) (by omega) (by omega) (by omega) (by omega)]; exact i2'
  · rw [FC q j (by omega), x1 q j (by omega), rd_A (by omega)]
  · rw [cp_e _ (by omega) (by omega) (by omega), rd_n _ (by omega)]
  · rw [cp_a _ (by omega) (by omega) (by omega), rd_n _ (by omega)]
  · intro j
    rw [rd_n _ (by omega), rd_n _ (by omega), rd_n _ (by omega)]
    exact g7 j
  · rw [F2 46 j (by omega) (by omega) (by omega) (by omega) (by omega) (by omega) (by omega), F2 48 j (by omega) (by omega) (by omega) (by omega) (by omega) (by omega) (by omega)]; exact i5 j j1 j2
  · have w4 := y4 i hi
    have w5 := w4.2.2.2.1
    have w6 := w4.2.2.2.2
    have w7 := w4.2.1
    unfold sad at w7
    unfold DS at w5
    unfold SD at w6
    refine DR_f (i6 i hi) w4.1.1 w7.1 (y5 i i hi hi) (fun q j hq => F2 q j ?_ ?_ ?_ ?_ ?_ ?_ ?_)
    all_goals (unfold RD at hq; omega)
  · rw [FC sp 12 (by omega), x1 sp 12 (by omega), rd_C (by omega) hf (by omega) (by omega) (by omega), FC sp' 12 (by have := x4.2.2.1; unfold sad at this; omega), x2]
    omega
  · rw [F2 0 j (by omega) (by omega) (by omega) (by omega) (by omega) (by omega) (by omega)]; exact i9 j
  · rw [FC 1 3 (by omega), x1 1 3 (by omega), up_same, cp_n _ (by omega) (by omega), up_c31 _ (by omega), up_same]
    omega
  · have q1 : cpa (cpe (up (up (up (mP c2' q2 w) 31 2 0) 31 4 w) 31 0 0) 9 8 41) 9 8 21 31 2 = 0 := by
      rw [cp_n _ (by omega) (by omega), up_c31 _ (by omega), up_c31 _ (by omega), up_same]
    rw [FC 2 1 (by omega), x1 2 1 (by omega), up_c31 _ (by omega), up_same, q1]
    exact ⟨rfl, by omega, by omega, fun j j1 j2 => by omega⟩
  · unfold RU at hq
    exact F2 q j (by omega) (by omega) (by omega) (by omega) (by omega) (by omega) (by omega)
  · unfold RW at hq
    exact F2 q j (by omega) (by omega) (by omega) (by omega) (by omega) (by omega) (by omega)
theorem o_read (S : St L k h c nd da sa cs sp) (hk : k ≤ 600) : OPK (f_L_read 1 56) (f_M_read 31) L k h c := by
  have S0 := S
  obtain ⟨hl, hA, hI, hT, hU, hW, b1, b2⟩ := S
  have hm0 := hl.1
  have hTt := hl.2.1
  have hR := hl.2.2.1
  have hSc := hl.2.2.2.1
  have hSp := hl.2.2.2.2.1
  have h5 := hl.2.2.2.2.2.2.2.1
  obtain ⟨y0, y1, y2, y3, y4, y5, y6⟩ := id hA
  unfold sad at y1 y2
  unfold SD at y3
  obtain ⟨i1, i2', i3, i4, i5, i6, i7, i8, i9⟩ := id hI
  obtain ⟨g1, g2, g3, g4, g5⟩ := id hT
  obtain ⟨A, p, w, k1, k2, k3, k4, k5⟩ := rd_two (s := sp) (c := c) (t := c 32) (l := c 31 2) hTt hSp (by omega) hm0 ⟨g2, fun j j1 j2 => (g5 j j1 j2).1, g3, g4, fun j j1 j2 => (g5 j j1 j2).2⟩ ⟨rfl, fun _ _ _ => rfl, g3, g4, fun j j1 j2 => (g5 j j1 j2).2⟩ i4
  have C2n := fun (q : Nat) (j : Int) => rd_C (p := p) (w := w) (q := q) (j := j) (sp := sp) (by omega) k4
  have mT : ∀ c1 : Nat → Int → Int, (∀ q j, q ≤ h.1 → c1 q j = up (up (tP A p w) 2 1 0) 1 3 w q j) → mTL c1 (c 32) (c 31 2) ∧ mB c1 := by
    intro c1 x1
    refine ⟨⟨?_, fun j j1 j2 => ?_, g3, g4, fun j j1 j2 => (g5 j j1 j2).2⟩, fun j => ?_⟩
    · rw [x1 31 2 (by omega), C2n 31 2 (by omega) (by omega) (by omega)]
    · rw [x1 32 j (by omega), C2n 32 j (by omega) (by omega) (by omega)]
    · rw [x1 33 j (by omega), C2n 33 j (by omega) (by omega) (by omega), x1 38 j (by omega), C2n 38 j (by omega) (by omega) (by omega), x1 40 j (by omega), C2n 40 j (by omega) (by omega) (by omega)]
      exact i4 j
  have ok : w < 0 → ∀ (h1 : dr_AH) (c1 : Nat → Int → Int) (sp' : Nat), f_R_read 1 (wr h c) = some (.inl (some (.int (i2 (A sp 7)))), wr h1 c1) → (∀ q j, q ≤ h.1 → c1 q j = up (up (tP A p w) 2 1 0) 1 3 w q j) → c1 sp' 12 = 0 → Lay L h1 nd da sa sp sp' → Adr h1.1 nd da sa sp sp' → h1.1 ≤ h.1 + 12 → h1.2.1 ≤ h.2.1 + 400 → OPK (f_L_read 1 56) (f_M_read 31) L k h c := by
    intro hw h1 c1 sp' r1 x1 x2 x3 x4 x5 x6
    have hm1 : LaM (hE 0 (A sp 7) h1) := (Lay_hE x4 x3).1
    obtain ⟨c2', q2, z1, z2, z3, z4⟩ := k5 (hE 0 (A sp 7) h1) c1 hm1 (mT c1 x1).1 (mT c1 x1).2
    have z4' := z4 hw
    have z5 := (m_read117 (q := q2) hm1 z3 k2 k3).2 hw
    have hsum : sm (fun n => c2' 33 (369 + n)) 40 = A sp 7 := by
      rw [z4'.2.2.1]
      exact sm_c 40 (fun n n1 n2 => ((z4'.1 n n1 (by omega)).1).symm)
    have h56 := x3.2.2.2.2.2.2.2.1
    refine ⟨0, A sp 7, A sp 7, h1, c1, cpa (cpe (up (up (up (mP c2' q2 w) 31 2 0) 31 4 w) 31 0 0) 9 8 41) 9 8 21, by omega, ?_, ?_, ?_, fun _ => rfl, rd_fin S0 k4 hw k2 x1 x2 x3 x4 x5 x6 z2 z3 z4' (A sp 7), fun j => ?_⟩
    · unfold f_L_read
      rw [hE_0]
      simp (disch := omega) only [li_0, li_1, li_2, li_3, li_4, li_5, li_6, li_7, li_8, li_9, li_10, li_11, li_12, li_13, li_14, li_15, li_16, li_17, li_18, li_19, li_20, li_21, li_31, li_32, li_33, li_40, li_41, li_43, li_48, li_57, li_59, li_60, li_61, li_62, li_64, li_97, li_99, li_100, li_101, li_102, li_112, li_119, li_126, li_189, li_255, li_300, li_369, li_400, li_999, li_5000, li_9999, li_12345, li_99999, li_1103515245, i2_add, i2_sub, i2_mul, i2_neg, i2_le, i2_lt, i2_eq, r_rz, r_ci, r_cx, r_cv, r_vx, r_cr, r_rx, dr_ci', dr_cv', dr_cr', dr_gr', dr_x0, ↓reduceIte, Int.reduceLE, Int.reduceLT, Int.reduceEq, Int.reduceNeg, Int.reduceAdd, Int.reduceSub, Int.reduceMul, vR_k hR, vR_r0 hR, vR_r1 hR, vR_r2 hR, vR_g3 hR, vR_p3 hR, vR_g4 hR, vR_p4 hR, vR_r5 hR, vR_g6 hR, vR_p6 hR, vR_r7 hR, vR_r8 hR, vR_g9 hR, vR_p9 hR, vR_n29 hR, vR_a29 hR, vR_s29 hR, vR_n30 hR, vR_a30 hR, vR_s30 hR, r1, r_sl h56.1 h56.2]
    · rw [z1, z5, hsum]
    · rw [cp_n _ (by omega) (by omega), up_same]
    · rw [x1 0 j (by omega), C2n 0 j (by omega) (by omega) (by omega)]
  by_cases hw : w < 0
  · have ew : w = -1 := by omega
    have hl1 : ∀ u, LaS h u → 4 ≤ u → LaS (dr_put h 1 1 (.ref sp)) u := fun u hu h4 => LaS_p hu h4
    have hR1 : LaR (dr_put h 1 1 (.ref sp)) sp sp := LaR_p1 hR
    have q13 : up (up (tP A p w) 2 1 0) 1 3 w 1 3 = -1 := by rw [up_same, ew]
    have q12 : up (up (tP A p w) 2 1 0) 1 3 w cs 12 = c cs 12 := C2n cs 12 (by omega) (by omega) (by omega)
    have q7 : up (up (tP A p w) 2 1 0) 1 3 w sp 7 = A sp 7 := rd_A (by omega)
    by_cases ep : c cs 12 = 0
    · have hR2 : LaR (dr_put (dr_put h 1 1 (.ref sp)) 1 2 (.ref cs)) sp cs := LaR_p2 hR1
      have hSp2 : LaS (dr_put (dr_put h 1 1 (.ref sp)) 1 2 (.ref cs)) sp := LaS_p (hl1 sp hSp (by omega)) (by omega)
      have hSc2 : LaS (dr_put (dr_put h 1 1 (.ref sp)) 1 2 (.ref cs)) cs := LaS_p (hl1 cs hSc (by omega)) (by omega)
      have hSc1 := hl1 cs hSc (by omega)
      refine ok hw (dr_put (dr_put h 1 1 (.ref sp)) 1 2 (.ref cs)) (up (up (tP A p w) 2 1 0) 1 3 w) cs ?_ (fun _ _ _ => rfl) (by rw [q12]; exact ep) (Lay_r hA hl (fun a a1 a2 => by rw [put_ne a2, put_ne a2]) hR2 hSp2 hSc2) ⟨y0, y2, y1, by unfold SD; omega, fun i hi => ?_, y5, y6⟩ (show h.1 ≤ h.1 + 12 by omega) (show h.2.1 ≤ h.2.1 + 400 by omega)
      · unfold f_R_read
        simp (disch := omega) only [li_0, li_1, li_2, li_3, li_4, li_5, li_6, li_7, li_8, li_9, li_10, li_11, li_12, li_13, li_14, li_15, li_16, li_17, li_18, li_19, li_20, li_21, li_31, li_32, li_33, li_40, li_41, li_43, li_48, li_57, li_59, li_60, li_61, li_62, li_64, li_97, li_99, li_100, li_101, li_102, li_112, li_119, li_126, li_189, li_255, li_300, li_369, li_400, li_999, li_5000, li_9999, li_12345, li_99999, li_1103515245, i2_add, i2_sub, i2_mul, i2_neg, i2_le, i2_lt, i2_eq, r_rz, r_ci, r_cx, r_cv, r_vx, r_cr, r_rx, dr_ci', dr_cv', dr_cr', dr_gr', dr_x0, ↓reduceIte, Int.reduceLE, Int.reduceLT, Int.reduceEq, Int.reduceNeg, Int.reduceAdd, Int.reduceSub, Int.reduceMul, vR_k hR, vR_r0 hR, vR_r1 hR, vR_r2 hR, vR_g3 hR, vR_p3 hR, vR_g4 hR, vR_p4 hR, vR_r5 hR, vR_g6 hR, vR_p6 hR, vR_r7 hR, vR_r8 hR, vR_g9 hR, vR_p9 hR, vR_n29 hR, vR_a29 hR, vR_s29 hR, vR_n30 hR, vR_a30 hR, vR_s30 hR, vT_k hTt, vT_r0 hTt, vT_g1 hTt, vT_p1 hTt, vT_g2 hTt, vT_p2 hTt, vT_g3 hTt, vT_p3 hTt, vT_n3 hTt, vT_a3 hTt, vT_s3 hTt, k1, q13, r_pr hR.1, vS_g12 hSc1, q12, ep, r_pr hR1.1, vR_r1 hR2, vS_g7 hSp2, q7]
      · have := y4 i hi
        exact ⟨this.1, this.2.1, this.2.2.2.1, this.2.2.1, i8 ep i hi⟩
    · have e1' : c cs 12 = 1 := by omega
      have hSc1 := hl1 cs hSc (by omega)
      have hlo : ∀ a, a ≤ h.1 → (dr_push (dr_put h 1 1 (.ref sp)) (1, 13, fun k => defaultValue (nt_S k))).2.2 a = (dr_put h 1 1 (.ref sp)).2.2 a := fun a ha => push_lo ha
      have hhi : (dr_push (dr_put h 1 1 (.ref sp)) (1, 13, fun k => defaultValue (nt_S k))).2.2 (h.1 + 1) = (1, 13, fun k => defaultValue (nt_S k)) := push_hi
      obtain ⟨h', c', s1, s2, s3, s4, s5, s6, s7, s8, s9⟩ := s_init (h := dr_push (dr_put h 1 1 (.ref sp)) (1, 13, fun k => defaultValue (nt_S k))) (c := zer (up (up (tP A p w) 2 1 0) 1 3 w) (h.1 + 1)) (s := h.1 + 1) rfl (by rw [hhi]) (by unfold sI; rw [hhi]; exact ⟨0, rfl⟩) (by unfold sI; rw [hhi]; exact ⟨0, rfl⟩) (show h.1 + 1 + 11 < 601024 by omega) (show h.2.1 + 13 + 371 ≤ 7293034 by omega)
      have lo2 : ∀ a, a ≤ h.1 → h'.2.2 a = (dr_put h 1 1 (.ref sp)).2.2 a := fun a ha => by rw [s5 a (by omega), hlo a ha]
      have hR' : LaR h' sp sp := LaR_f (fun a ha => lo2 a (by omega)) hR1
      have hR2 : LaR (dr_put h' 1 2 (.ref (h.1 + 1))) sp (h.1 + 1) := LaR_p2 hR'
      have hSp' : LaS h' sp := LaS_f (fun a a1 a2 => lo2 a (by omega)) (hl1 sp hSp (by omega))
      have hSp2 : LaS (dr_put h' 1 2 (.ref (h.1 + 1))) sp := LaS_p hSp' (by omega)
      have hSn2 : LaS (dr_put h' 1 2 (.ref (h.1 + 1))) (h.1 + 1) := LaS_p s4 (by omega)
      have x1 : ∀ q j, q ≤ h.1 → c' q j = up (up (tP A p w) 2 1 0) 1 3 w q j := fun q j hq => by rw [s6 q j (by omega), zer_n _ (by omega)]
      have q7' : c' sp 7 = A sp 7 := by rw [x1 sp 7 (by omega), q7]
      refine ok hw (dr_put h' 1 2 (.ref (h.1 + 1))) c' (h.1 + 1) ?_ x1 s9 (Lay_r hA hl (fun a a1 a2 => by rw [put_ne a2, lo2 a a1, put_ne a2]) hR2 hSp2 hSn2) ?_ ?_ ?_
      · have hnw := fun (K : Nat → dr_AH → Option (dr_RS × dr_AH)) => r_nw (h := dr_put h 1 1 (.ref sp)) (c := up (up (tP A p w) 2 1 0) 1 3 w) (ci := 1) (N := 13) (f := fun k => defaultValue (nt_S k)) (K := K) (show h.1 < 601024 by omega) (show h.2.1 + 13 ≤ 7293034 by omega) nS_0
        unfold f_R_read
        simp (disch := omega) only [li_0, li_1, li_2, li_3, li_4, li_5, li_6, li_7, li_8, li_9, li_10, li_11, li_12, li_13, li_14, li_15, li_16, li_17, li_18, li_19, li_20, li_21, li_31, li_32, li_33, li_40, li_41, li_43, li_48, li_57, li_59, li_60, li_61, li_62, li_64, li_97, li_99, li_100, li_101, li_102, li_112, li_119, li_126, li_189, li_255, li_300, li_369, li_400, li_999, li_5000, li_9999, li_12345, li_99999, li_1103515245, i2_add, i2_sub, i2_mul, i2_neg, i2_le, i2_lt, i2_eq, r_rz, r_ci, r_cx, r_cv, r_vx, r_cr, r_rx, dr_ci', dr_cv', dr_cr', dr_gr', dr_x0, ↓reduceIte, Int.reduceLE, Int.reduceLT, Int.reduceEq, Int.reduceNeg, Int.reduceAdd, Int.reduceSub, Int.reduceMul, vR_k hR, vR_r0 hR, vR_r1 hR, vR_r2 hR, vR_g3 hR, vR_p3 hR, vR_g4 hR, vR_p4 hR, vR_r5 hR, vR_g6 hR, vR_p6 hR, vR_r7 hR, vR_r8 hR, vR_g9 hR, vR_p9 hR, vR_n29 hR, vR_a29 hR, vR_s29 hR, vR_n30 hR, vR_a30 hR, vR_s30 hR, vT_k hTt, vT_r0 hTt, vT_g1 hTt, vT_p1 hTt, vT_g2 hTt, vT_p2 hTt, vT_g3 hTt, vT_p3 hTt, vT_n3 hTt, vT_a3 hTt, vT_s3 hTt, k1, q13, r_pr hR.1, vS_g12 hSc1, q12, e1', hnw]
        have s1' : f_S_init ((dr_put h 1 1 (.ref sp)).1 + 1) (wr (dr_push (dr_put h 1 1 (.ref sp)) (1, 13, fun k => defaultValue (nt_S k))) (zer (up (up (tP A p w) 2 1 0) 1 3 w) ((dr_put h 1 1 (.ref sp)).1 + 1))) = some (.inl none, wr h' c') := s1
        rw [s1']
        have put_11 : (dr_put h 1 1 (.ref sp)).1 = h.1 := rfl
        simp (disch := omega) only [li_0, li_1, li_2, li_3, li_4, li_5, li_6, li_7, li_8, li_9, li_10, li_11, li_12, li_13, li_14, li_15, li_16, li_17, li_18, li_19, li_20, li_21, li_31, li_32, li_33, li_40, li_41, li_43, li_48, li_57, li_59, li_60, li_61, li_62, li_64, li_97, li_99, li_100, li_101, li_102, li_112, li_119, li_126, li_189, li_255, li_300, li_369, li_400, li_999, li_5000, li_9999, li_12345, li_99999, li_1103515245, i2_add, i2_sub, i2_mul, i2_neg, i2_le, i2_lt, i2_eq, r_rz, r_ci, r_cx, r_cv, r_vx, r_cr, r_rx, dr_ci', dr_cv', dr_cr', dr_gr', dr_x0, ↓reduceIte, Int.reduceLE, Int.reduceLT, Int.reduceEq, Int.reduceNeg, Int.reduceAdd, Int.reduceSub, Int.reduceMul, put_11, r_pr hR'.1, vR_r1 hR2, vS_g7 hSp2, q7']
      · show Adr h'.1 nd da sa sp (h.1 + 1)
        rw [s2]
        refine ⟨by omega, ⟨y2.1, by omega⟩, ⟨by omega, by omega⟩, by unfold SD; omega, fun i hi => ?_, y5, y6⟩
        have := y4 i hi
        have w7 := this.2.1
        unfold sad at w7
        exact ⟨⟨this.1.1, by omega⟩, ⟨w7.1, by omega⟩, this.2.2.2.1, by unfold DS; omega, by unfold SD; omega⟩
      · show h'.1 ≤ h.1 + 12
        omega
      · show h'.2.1 ≤ h.2.1 + 400
        have : h'.2.1 = h.2.1 + 13 + 371 := s3
        omega
  · have hm1 : LaM (hE 1 0 h) := (Lay_hE hA hl).1
    obtain ⟨c2', q2, z1, z2, z3, z4⟩ := k5 (hE 1 0 h) (up (up (tP A p w) 2 1 0) 1 3 w) hm1 (mT _ (fun _ _ _ => rfl)).1 (mT _ (fun _ _ _ => rfl)).2
    have z5 := (m_read117 (q := q2) hm1 z3 k2 k3).1 (by omega)
    have hth := r_th (h := h) (c := up (up (tP A p w) 2 1 0) 1 3 w) (E := "java/lang/IllegalStateException") (by omega) (by omega)
    have F2 : ∀ (q : Nat) (j : Int), ¬ (q = 1 ∧ j = 3) → q ≠ 2 → ¬ (sp ≤ q ∧ q ≤ sp + 11 ∧ (q = sp → j = 7)) → ¬ (q = 31 ∧ (j = 0 ∨ j = 2 ∨ j = 4 ∨ j = 5 ∨ j = 6)) → ¬ (33 ≤ q ∧ q ≤ 39 ∧ 369 ≤ j) → ¬ (40 ≤ q ∧ q ≤ 44 ∧ 189 ≤ j) → up (up (up (mP c2' q2 w) 31 2 0) 31 4 w) 31 0 1 q j = c q j := by
      intro q j f1 f2 f3 f4 f5 f6
      rw [rd_n _ f4, z2 q j (by omega), C2n q j f1 f2 f3]
    refine ⟨1, 0, 0, h, up (up (tP A p w) 2 1 0) 1 3 w, up (up (up (mP c2' q2 w) 31 2 0) 31 4 w) 31 0 1, by omega, ?_, ?_, up_same _ _ _ _, fun _ => rfl, St_m S0 1 0 ⟨?_, ?_, SRel_f i3 (fun q j q1 q2 q3 => F2 q j (by omega) (by omega) (by omega) (by omega) (by omega) (by omega)) (fun q n q1 q2 n1 n2 => F2 q _ (by omega) (by omega) (by omega) (by omega) (by omega) (by omega)) (fun q n q1 q2 n1 n2 => F2 q _ (by omega) (by omega) (by omega) (by omega) (by omega) (by omega)), fun j => ?_, fun j j1 j2 => ?_, fun i hi => ?_, ?_, ?_, fun j => ?_⟩ ⟨?_, ?_⟩ (IU_f hU (fun q j hq => ?_)) (IW_f hW (fun q j hq => ?_)), fun j => C2n 0 j (by omega) (by omega) (by omega)⟩
    · unfold f_L_read f_R_read
      rw [hE_x (by omega)]
      simp (disch := omega) only [li_0, li_1, li_2, li_3, li_4, li_5, li_6, li_7, li_8, li_9, li_10, li_11, li_12, li_13, li_14, li_15, li_16, li_17, li_18, li_19, li_20, li_21, li_31, li_32, li_33, li_40, li_41, li_43, li_48, li_57, li_59, li_60, li_61, li_62, li_64, li_97, li_99, li_100, li_101, li_102, li_112, li_119, li_126, li_189, li_255, li_300, li_369, li_400, li_999, li_5000, li_9999, li_12345, li_99999, li_1103515245, i2_add, i2_sub, i2_mul, i2_neg, i2_le, i2_lt, i2_eq, r_rz, r_ci, r_cx, r_cv, r_vx, r_cr, r_rx, dr_ci', dr_cv', dr_cr', dr_gr', dr_x0, ↓reduceIte, Int.reduceLE, Int.reduceLT, Int.reduceEq, Int.reduceNeg, Int.reduceAdd, Int.reduceSub, Int.reduceMul, dl_t, dl_f, dle_t, dle_f, deq_t, deq_f, vR_k hR, vR_r0 hR, vR_r1 hR, vR_r2 hR, vR_g3 hR, vR_p3 hR, vR_g4 hR, vR_p4 hR, vR_r5 hR, vR_g6 hR, vR_p6 hR, vR_r7 hR, vR_r8 hR, vR_g9 hR, vR_p9 hR, vR_n29 hR, vR_a29 hR, vR_s29 hR, vR_n30 hR, vR_a30 hR, vR_s30 hR, vT_k hTt, vT_r0 hTt, vT_g1 hTt, vT_p1 hTt, vT_g2 hTt, vT_p2 hTt, vT_g3 hTt, vT_p3 hTt, vT_n3 hTt, vT_a3 hTt, vT_s3 hTt, k1, up_same, hth]
    · rw [z1, z5]
    · rw [F2 1 6 (by omega) (by omega) (by omega) (by omega) (by omega) (by omega), F2 31 19 (by omega) (by omega) (by omega) (by omega) (by omega) (by omega)]; exact i1
    · rw [F2 1 4 (by omega) (by omega) (by omega) (by omega) (by omega) (by omega), F2 31 1 (by omega) (by omega) (by omega) (by omega) (by omega) (by omega)]; exact i2'
    · rw [rd_n _ (by omega), rd_n _ (by omega), rd_n _ (by omega)]
      exact z3 j
    · rw [F2 46 j (by omega) (by omega) (by omega) (by omega) (by omega) (by omega), F2 48 j (by omega) (by omega) (by omega) (by omega) (by omega) (by omega)]; exact i5 j j1 j2
    · have w4 := y4 i hi
      have w5 := w4.2.2.2.1
      have w6 := w4.2.2.2.2
      have w7 := w4.2.1
      unfold sad at w7
      unfold DS at w5
      unfold SD at w6
      refine DR_f (i6 i hi) w4.1.1 w7.1 (y5 i i hi hi) (fun q j hq => F2 q j ?_ ?_ ?_ ?_ ?_ ?_)
      all_goals (unfold RD at hq; omega)
    · rw [F2 cs 12 (by omega) (by omega) (by omega) (by omega) (by omega) (by omega), F2 sp 12 (by omega) (by omega) (by omega) (by omega) (by omega) (by omega)]; exact i7
    · rw [F2 cs 12 (by omega) (by omega) (by omega) (by omega) (by omega) (by omega)]; exact i8
    · rw [F2 0 j (by omega) (by omega) (by omega) (by omega) (by omega) (by omega)]; exact i9 j
    · have q1 : up (up (up (mP c2' q2 w) 31 2 0) 31 4 w) 31 0 1 1 3 = w := by
        rw [rd_n _ (by omega), z2 1 3 (by omega), up_same]
      have q2' : up (up (up (mP c2' q2 w) 31 2 0) 31 4 w) 31 0 1 31 4 = w := by
        rw [up_c31 _ (by omega), up_same]
      rw [q1, q2']
      omega
    · have q1 : up (up (up (mP c2' q2 w) 31 2 0) 31 4 w) 31 0 1 31 2 = 0 := by
        rw [up_c31 _ (by omega), up_c31 _ (by omega), up_same]
      have q2' : up (up (up (mP c2' q2 w) 31 2 0) 31 4 w) 31 0 1 2 1 = 0 := by
        rw [rd_n _ (by omega), z2 2 1 (by omega), up_c31 _ (by omega), up_same]
      rw [q1, q2']
      exact ⟨rfl, by omega, by omega, fun j j1 j2 => by omega⟩
    · unfold RU at hq
      exact F2 q j (by omega) (by omega) (by omega) (by omega) (by omega) (by omega)
    · unfold RW at hq
      exact F2 q j (by omega) (by omega) (by omega) (by omega) (by omega) (by omega)
end OR
