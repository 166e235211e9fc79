/-! ===== the class's tick ===== -/
def tg (c : Nat → Int → Int) (da sa : Nat → Nat) (T : Int) (j : Nat) : Int := if c 46 j = 0 then sm (fun n => bz (cev c (da j) (sa j) (T - c (da j) 1) n)) 40 else 0
def CI (c e : Nat → Int → Int) (da sa : Nat → Nat) (j : Nat) (T : Int) : Prop := e 1 4 = T ∧ (∀ q w, ¬ (q = 1 ∧ w = 4) → (∀ i, i < j → ¬ (da i ≤ q ∧ q ≤ da i + 4)) → e q w = c q w) ∧
  (∀ i : Nat, i < j → (c 46 i = 0 → (∀ n, 1 ≤ n → n ≤ 40 → e (da i + 1) n = if cev c (da i) (sa i) (T - c (da i) 1) n then cdu c (da i) (sa i) n else c (da i + 1) n) ∧ e (da i) 4 = c (da i) 4 + sm (fun n => bz (cev c (da i) (sa i) (T - c (da i) 1) n)) 40 ∧ (∀ q w, da i ≤ q → q ≤ da i + 4 → q ≠ da i + 1 → ¬ (q = da i ∧ w = 4) → e q w = c q w)) ∧ (c 46 i ≠ 0 → ∀ q w, da i ≤ q → q ≤ da i + 4 → e q w = c q w))
theorem CH_c {c c' : Nat → Int → Int} {d s : Nat} (H : CH c d s) (e : ∀ q, (s ≤ q ∧ q ≤ s + 11) ∨ (d ≤ q ∧ q ≤ d + 4) → c' q = c q) : CH c' d s := by
  unfold CH at H ⊢
  rw [e d (by omega), e (s + 1) (by omega), e (d + 1) (by omega), e (s + 2) (by omega), e (s + 3) (by omega), e (s + 4) (by omega), e (d + 2) (by omega), e (d + 3) (by omega), e (d + 4) (by omega)]
  exact H
section CT
variable {L k nd : Nat} {h : dr_AH} {c : Nat → Int → Int} {da sa : Nat → Nat} {cs sp : Nat}
theorem CI_eq {e : Nat → Int → Int} {top : Nat} (hA : Adr top nd da sa cs sp) {j : Nat} {T : Int} (H : CI c e da sa j T) (hj : j < nd) (q : Nat) (hq : (sa j ≤ q ∧ q ≤ sa j + 11) ∨ (da j ≤ q ∧ q ≤ da j + 4)) : e q = c q := by
  obtain ⟨a0, a1, a2, a3, a4, a5, a6⟩ := hA
  have w4 := a4 j hj
  have w7 := w4.2.1
  unfold sad at w7
  funext w
  refine H.2.1 q w (by omega) (fun i hi => ?_)
  have w5 := a5 i j (by omega) hj
  have w6 := a6 i j (by omega) hj (by omega)
  unfold DS at w5
  omega
theorem CI_on {e : Nat → Int → Int} {top : Nat} (hA : Adr top nd da sa cs sp) {j : Nat} {T : Int} (H : CI c e da sa j T) (hj : j < nd) (on : c 46 j = 0) :
    CI c (up (bdc e (da j) (sa j) (T - c (da j) 1) 40) (da j) 4 (e (da j) 4 + sm (fun n => bz (cev e (da j) (sa j) (T - c (da j) 1) n)) 40)) da sa (j + 1) T
    ∧ sm (fun n => bz (cev e (da j) (sa j) (T - c (da j) 1) n)) 40 = tg c da sa T j := by
  have E := CI_eq hA H hj
  obtain ⟨a0, a1, a2, a3, a4, a5, a6⟩ := hA
  have w4 := a4 j hj
  have w7 := w4.2.1
  unfold sad at w7
  obtain ⟨g1, g2, g3⟩ := H
  have cec := cev_c (E (sa j + 1) (by omega)) (E (da j + 1) (by omega)) (E (sa j + 2) (by omega)) (E (sa j + 3) (by omega)) (E (sa j + 4) (by omega)) (E (da j + 2) (by omega)) (T - c (da j) 1)
  have cdc := cdu_c (E (sa j + 2) (by omega)) (E (sa j + 3) (by omega)) (E (sa j + 4) (by omega)) (E (da j + 2) (by omega))
  have csm : sm (fun n => bz (cev e (da j) (sa j) (T - c (da j) 1) n)) 40 = sm (fun n => bz (cev c (da j) (sa j) (T - c (da j) 1) n)) 40 := sm_c 40 (fun n _ _ => by
    unfold bz
    by_cases ee : cev c (da j) (sa j) (T - c (da j) 1) n
    · rw [if_pos ee, if_pos ((cec n).mpr ee)]
    · rw [if_neg ee, if_neg (fun hh => ee ((cec n).mp hh))])
  have N : ∀ q w, ¬ (da j ≤ q ∧ q ≤ da j + 4) → up (bdc e (da j) (sa j) (T - c (da j) 1) 40) (da j) 4 (e (da j) 4 + sm (fun n => bz (cev e (da j) (sa j) (T - c (da j) 1) n)) 40) q w = e q w := by
    intro q w hq
    rw [up_c31 _ (by omega), bdc_n' _ (by omega)]
  refine ⟨⟨by rw [N 1 4 (by omega)]; exact g1, fun q w hq hi => ?_, fun i hi => ?_⟩, by unfold tg; rw [if_pos on]; exact csm⟩
  · rw [N q w (hi j (by omega))]
    exact g2 q w hq (fun i hi' => hi i (by omega))
  · by_cases ei : i = j
    · subst ei
      refine ⟨fun _ => ⟨fun n n1 n2 => ?_, ?_, fun q w q1 q2 q3 q4 => ?_⟩, fun off => absurd on off⟩
      · rw [up_c31 _ (by omega), bdc_y _ n1 n2]
        by_cases ee : cev c (da i) (sa i) (T - c (da i) 1) n
        · rw [if_pos ee, if_pos ((cec n).mpr ee), cdc n]
        · rw [if_neg ee, if_neg (fun hh => ee ((cec n).mp hh)), E (da i + 1) (by omega)]
      · rw [up_same, csm, E (da i) (by omega)]
      · rw [up_c31 _ q4, bdc_n' _ (by omega), E q (by omega)]
    · have w6 := a6 i j (by omega) hj ei
      have g := g3 i (by omega)
      refine ⟨fun on' => ⟨fun n n1 n2 => ?_, ?_, fun q w q1 q2 q3 q4 => ?_⟩, fun off q w q1 q2 => ?_⟩
      · rw [N _ _ (by omega)]; exact (g.1 on').1 n n1 n2
      · rw [N _ _ (by omega)]; exact (g.1 on').2.1
      · rw [N _ _ (by omega)]; exact (g.1 on').2.2 q w q1 q2 q3 q4
      · rw [N _ _ (by omega)]; exact g.2 off q w q1 q2
theorem CI_off {e : Nat → Int → Int} {top : Nat} (hA : Adr top nd da sa cs sp) {j : Nat} {T : Int} (H : CI c e da sa j T) (hj : j < nd) (off : c 46 j ≠ 0) : CI c e da sa (j + 1) T := by
  have E := CI_eq hA H hj
  obtain ⟨g1, g2, g3⟩ := H
  refine ⟨g1, fun q w hq hi => g2 q w hq (fun i hi' => hi i (by omega)), fun i hi => ?_⟩
  by_cases ei : i = j
  · subst ei
    exact ⟨fun on => absurd on off, fun _ q w q1 q2 => by rw [E q (by omega)]⟩
  · exact g3 i (by omega)
theorem c_ti57 (S : St L k h c nd da sa cs sp) {T : Int} (T1 : c 31 1 ≤ T) (T2 : T ≤ 99999) : ∀ (f m x : Nat) (e : Nat → Int → Int) (X y : Int), X = x → x ≤ 8 → 8 - x ≤ f → f < m → CI c e da sa (min x nd) T → y = ts (tg c da sa T) (min x nd) →
    ∃ e', f_R_tick_57 m 1 (i2 y) 28 (i2 8) (i2 X) (wr h e) = some (.inl (some (.int (i2 (ts (tg c da sa T) nd)))), wr h e') ∧ CI c e' da sa nd T := by
  obtain ⟨hl, hA, hI, hT, hU, hW, b1, b2⟩ := S
  have hR := hl.2.2.1
  obtain ⟨i1, i2', i3, i4, i5, i6, i7, i8, i9⟩ := id hI
  intro f
  induction f with
  | zero =>
    intro m x e X y hX h1 h2 h3 H hy
    obtain ⟨m, rfl⟩ : ∃ k, m = k + 1 := ⟨m - 1, by omega⟩
    rw [show min x nd = nd by omega] at H hy
    refine ⟨e, ?_, H⟩
    rw [f_R_tick_57]
    simp (disch := omega) only [li_0, li_1, li_2, li_3, li_4, li_5, li_6, li_7, li_8, li_9, li_10, li_11, li_12, li_13, li_14, li_15, li_16, li_17, li_18, li_19, li_20, li_21, li_31, li_32, li_33, li_40, li_41, li_43, li_48, li_57, li_59, li_60, li_61, li_62, li_64, li_97, li_99, li_100, li_101, li_102, li_112, li_119, li_126, li_189, li_255, li_300, li_369, li_400, li_999, li_5000, li_9999, li_12345, li_99999, li_1103515245, i2_add, i2_sub, i2_mul, i2_neg, i2_le, i2_lt, i2_eq, r_rz, r_ci, r_cx, r_cv, r_vx, r_cr, r_rx, dr_ci', dr_cv', dr_cr', dr_gr', dr_x0, ↓reduceIte, Int.reduceLE, Int.reduceLT, Int.reduceEq, Int.reduceNeg, Int.reduceAdd, Int.reduceSub, Int.reduceMul, dl_t, dl_f, dle_t, dle_f, deq_t, deq_f]
    rw [hy]
  | succ f ih =>
    intro m x e X y hX h1 h2 h3 H hy
    obtain ⟨m, rfl⟩ : ∃ k, m = k + 1 := ⟨m - 1, by omega⟩
    by_cases hx8 : x = 8
    · rw [show min x nd = nd by omega] at H hy
      refine ⟨e, ?_, H⟩
      rw [f_R_tick_57]
      simp (disch := omega) only [li_0, li_1, li_2, li_3, li_4, li_5, li_6, li_7, li_8, li_9, li_10, li_11, li_12, li_13, li_14, li_15, li_16, li_17, li_18, li_19, li_20, li_21, li_31, li_32, li_33, li_40, li_41, li_43, li_48, li_57, li_59, li_60, li_61, li_62, li_64, li_97, li_99, li_100, li_101, li_102, li_112, li_119, li_126, li_189, li_255, li_300, li_369, li_400, li_999, li_5000, li_9999, li_12345, li_99999, li_1103515245, i2_add, i2_sub, i2_mul, i2_neg, i2_le, i2_lt, i2_eq, r_rz, r_ci, r_cx, r_cv, r_vx, r_cr, r_rx, dr_ci', dr_cv', dr_cr', dr_gr', dr_x0, ↓reduceIte, Int.reduceLE, Int.reduceLT, Int.reduceEq, Int.reduceNeg, Int.reduceAdd, Int.reduceSub, Int.reduceMul, dl_t, dl_f, dle_t, dle_f, deq_t, deq_f]
      rw [hy]
    · by_cases hx : x < nd
      · rw [show min x nd = x by omega] at H hy
        have hmn : min (x + 1) nd = x + 1 := by omega
        have D := IAd hI hx
        have hD := (hl.2.2.2.2.2.2.1 x hx).1
        have hS := (hl.2.2.2.2.2.2.1 x hx).2
        have k2 := D.2.1
        have k3 := D.2.2.1
        have E := CI_eq hA H hx
        have q2 : e (da x) 2 = c (da x) 2 := by rw [E (da x) (by omega)]
        have qd1 : e (da x) 1 = c (da x) 1 := by rw [E (da x) (by omega)]
        have q14 := H.1
        by_cases on : c 46 x = 0
        · obtain ⟨H', hc⟩ := CI_on hA H hx on
          have hbe := c_begin hD hS (hA.2.2.2.2.2.1 x x hx hx) (CH_c (DR_CH D (by omega) (by omega) i2'.2.2) E) (t := T) (by rw [qd1]; omega) T2
          rw [qd1, hc] at hbe
          rw [hc] at H'
          obtain ⟨e', p1, p2⟩ := ih m (x + 1) _ (X + 1) (y + tg c da sa T x) (by omega) (by omega) (by omega) (by omega) (by rw [hmn]; exact H') (by rw [hmn, ts, hy])
          refine ⟨e', ?_, p2⟩
          rw [f_R_tick_57]
          simp (disch := omega) only [li_0, li_1, li_2, li_3, li_4, li_5, li_6, li_7, li_8, li_9, li_10, li_11, li_12, li_13, li_14, li_15, li_16, li_17, li_18, li_19, li_20, li_21, li_31, li_32, li_33, li_40, li_41, li_43, li_48, li_57, li_59, li_60, li_61, li_62, li_64, li_97, li_99, li_100, li_101, li_102, li_112, li_119, li_126, li_189, li_255, li_300, li_369, li_400, li_999, li_5000, li_9999, li_12345, li_99999, li_1103515245, i2_add, i2_sub, i2_mul, i2_neg, i2_le, i2_lt, i2_eq, r_rz, r_ci, r_cx, r_cv, r_vx, r_cr, r_rx, dr_ci', dr_cv', dr_cr', dr_gr', dr_x0, ↓reduceIte, Int.reduceLE, Int.reduceLT, Int.reduceEq, Int.reduceNeg, Int.reduceAdd, Int.reduceSub, Int.reduceMul, dl_t, dl_f, dle_t, dle_f, deq_t, deq_f, vR_k hR, vR_r0 hR, vR_r1 hR, vR_r2 hR, vR_g3 hR, vR_p3 hR, vR_g4 hR, vR_p4 hR, vR_r5 hR, vR_g6 hR, vR_p6 hR, vR_r7 hR, vR_r8 hR, vR_g9 hR, vR_p9 hR, vR_n29 hR, vR_a29 hR, vR_s29 hR, vR_n30 hR, vR_a30 hR, vR_s30 hR, vD_k hD, vD_r0 hD, vD_g1 hD, vD_p1 hD, vD_g2 hD, vD_p2 hD, vD_r3 hD, vD_g4 hD, vD_p4 hD, vD_r5 hD, vD_r6 hD, vD_r7 hD, vD_g8 hD, vD_p8 hD, vD_n1 hD, vD_a1 hD, vD_s1 hD, vD_n2 hD, vD_a2 hD, vD_s2 hD, vD_n3 hD, vD_a3 hD, vD_s3 hD, vD_n4 hD, vD_a4 hD, vD_s4 hD, r_d28r hl hX hx i1.1, q2, q14, hbe, p1]
        · obtain ⟨e', p1, p2⟩ := ih m (x + 1) e (X + 1) y (by omega) (by omega) (by omega) (by omega) (by rw [hmn]; exact CI_off hA H hx on) (by rw [hmn, ts, hy]; unfold tg; rw [if_neg on]; omega)
          refine ⟨e', ?_, p2⟩
          rw [f_R_tick_57]
          simp (disch := omega) only [li_0, li_1, li_2, li_3, li_4, li_5, li_6, li_7, li_8, li_9, li_10, li_11, li_12, li_13, li_14, li_15, li_16, li_17, li_18, li_19, li_20, li_21, li_31, li_32, li_33, li_40, li_41, li_43, li_48, li_57, li_59, li_60, li_61, li_62, li_64, li_97, li_99, li_100, li_101, li_102, li_112, li_119, li_126, li_189, li_255, li_300, li_369, li_400, li_999, li_5000, li_9999, li_12345, li_99999, li_1103515245, i2_add, i2_sub, i2_mul, i2_neg, i2_le, i2_lt, i2_eq, r_rz, r_ci, r_cx, r_cv, r_vx, r_cr, r_rx, dr_ci', dr_cv', dr_cr', dr_gr', dr_x0, ↓reduceIte, Int.reduceLE, Int.reduceLT, Int.reduceEq, Int.reduceNeg, Int.reduceAdd, Int.reduceSub, Int.reduceMul, dl_t, dl_f, dle_t, dle_f, deq_t, deq_f, vR_k hR, vR_r0 hR, vR_r1 hR, vR_r2 hR, vR_g3 hR, vR_p3 hR, vR_g4 hR, vR_p4 hR, vR_r5 hR, vR_g6 hR, vR_p6 hR, vR_r7 hR, vR_r8 hR, vR_g9 hR, vR_p9 hR, vR_n29 hR, vR_a29 hR, vR_s29 hR, vR_n30 hR, vR_a30 hR, vR_s30 hR, vD_k hD, vD_r0 hD, vD_g1 hD, vD_p1 hD, vD_g2 hD, vD_p2 hD, vD_r3 hD, vD_g4 hD, vD_p4 hD, vD_r5 hD, vD_r6 hD, vD_r7 hD, vD_g8 hD, vD_p8 hD, vD_n1 hD, vD_a1 hD, vD_s1 hD, vD_n2 hD, vD_a2 hD, vD_s2 hD, vD_n3 hD, vD_a3 hD, vD_s3 hD, vD_n4 hD, vD_a4 hD, vD_s4 hD, r_d28r hl hX hx i1.1, q2, p1]
      · rw [show min x nd = nd by omega] at H hy
        obtain ⟨e', p1, p2⟩ := ih m (x + 1) e (X + 1) y (by omega) (by omega) (by omega) (by omega) (by rw [show min (x + 1) nd = nd by omega]; exact H) (by rw [show min (x + 1) nd = nd by omega]; exact hy)
        refine ⟨e', ?_, p2⟩
        rw [f_R_tick_57]
        simp (disch := omega) only [li_0, li_1, li_2, li_3, li_4, li_5, li_6, li_7, li_8, li_9, li_10, li_11, li_12, li_13, li_14, li_15, li_16, li_17, li_18, li_19, li_20, li_21, li_31, li_32, li_33, li_40, li_41, li_43, li_48, li_57, li_59, li_60, li_61, li_62, li_64, li_97, li_99, li_100, li_101, li_102, li_112, li_119, li_126, li_189, li_255, li_300, li_369, li_400, li_999, li_5000, li_9999, li_12345, li_99999, li_1103515245, i2_add, i2_sub, i2_mul, i2_neg, i2_le, i2_lt, i2_eq, r_rz, r_ci, r_cx, r_cv, r_vx, r_cr, r_rx, dr_ci', dr_cv', dr_cr', dr_gr', dr_x0, ↓reduceIte, Int.reduceLE, Int.reduceLT, Int.reduceEq, Int.reduceNeg, Int.reduceAdd, Int.reduceSub, Int.reduceMul, dl_t, dl_f, dle_t, dle_f, deq_t, deq_f, vR_k hR, vR_r0 hR, vR_r1 hR, vR_r2 hR, vR_g3 hR, vR_p3 hR, vR_g4 hR, vR_p4 hR, vR_r5 hR, vR_g6 hR, vR_p6 hR, vR_r7 hR, vR_r8 hR, vR_g9 hR, vR_p9 hR, vR_n29 hR, vR_a29 hR, vR_s29 hR, vR_n30 hR, vR_a30 hR, vR_s30 hR, r_d28n hl hX (by omega) (by omega), p1]
end CT
