/-! ===== tick, as a call ===== -/
theorem D9_t {c : Nat → Int → Int} {i : Int} {d s : Nat} (H : D9 c i d s) (hd : 57 ≤ d) (hs : s = 4 ∨ s = 16 ∨ 57 ≤ s) {T : Int} (hT : c 31 1 ≤ T) : D9 (up c 31 1 T) i d s := by
  obtain ⟨h1, h2, h3, h4, h5, h6, h7, h8, h9⟩ := H
  have u : ∀ q : Nat, q ≠ 31 → up c 31 1 T q = c q := fun q hq => funext fun j => up_a _ _ _ _ hq
  have hft : ∀ a fr, mft (up c 31 1 T) i a fr = mft c i a fr := fun a fr => by
    unfold mft
    rw [u 48 (by omega), u 49 (by omega), u 50 (by omega)]
  refine ⟨SRel_f h1 (fun q j q1 q2 q3 => by rw [u q (by omega)]) (fun q n q1 q2 n1 n2 => by rw [u q (by omega)]) (fun q n q1 q2 n1 n2 => by rw [u q (by omega)]), ?_, ?_, fun n n1 n2 => ?_, ?_, ?_, fun k k1 k2 => ?_, fun k k' k1 k2 k3 => ?_, fun a a1 a2 => ?_⟩
  · rw [up_same, u d (by omega), u 45 (by omega)]; omega
  · rw [u d (by omega), u 46 (by omega)]; exact h3
  · rw [u (d + 1) (by omega), u 47 (by omega), u 33 (by omega)]; exact h4 n n1 n2
  · rw [u d (by omega), mbc_c (c := c) (fun n _ _ => by rw [u 47 (by omega)])]; exact h5
  · rw [u d (by omega), u 48 (by omega)]; exact h6
  · rw [u 48 (by omega)] at k2
    have := h7 k k1 k2
    rw [up_same, u (d + 3) (by omega), u (d + 4) (by omega), u 49 (by omega), u 50 (by omega), u 45 (by omega)]
    omega
  · rw [u 48 (by omega)] at k3
    rw [u 50 (by omega)]; exact h8 k k' k1 k2 k3
  · rw [u (d + 2) (by omega), hft]; exact h9 a a1 a2
section OT
variable {L k nd : Nat} {h : dr_AH} {c : Nat → Int → Int} {da sa : Nat → Nat} {cs sp : Nat}
theorem o_tick (S : St L k h c nd da sa cs sp) (hk : k ≤ 600) {n : Int} (n1 : -2147483648 ≤ n) (n2 : n < 2147483648) : OPK (f_L_tick 1 (i2 n) 56) (f_M_tick 31 (i2 n)) L k h c := by
  have S0 := S
  obtain ⟨hl, hA, hI, hT, hU, hW, b1, b2⟩ := S
  have hR := hl.2.2.1
  have h5 := hl.2.2.2.2.2.2.2.1
  obtain ⟨i1, i2', i3, i4, i5, i6, i7, i8, i9⟩ := id hI
  have hth := r_th (h := h) (c := c) (E := "java/lang/IndexOutOfBoundsException") (by omega) (by omega)
  by_cases e1 : 1 ≤ n ∧ n ≤ 5000
  · by_cases e2 : c 31 1 + n ≤ 99999
    · obtain ⟨y0, y1, y2, y3, y4, y5, y6⟩ := id hA
      have CI0 : CI c (up c 1 4 (c 31 1 + n)) da sa (min 0 nd) (c 31 1 + n) := by
        rw [show min 0 nd = 0 by omega]
        exact ⟨up_same _ _ _ _, fun q w hq _ => up_c31 _ hq, fun i hi => absurd hi (by omega)⟩
      obtain ⟨c1, p1, p2⟩ := c_ti57 S0 (T := c 31 1 + n) (by omega) e2 8 dr_fu 0 (up c 1 4 (c 31 1 + n)) 0 0 rfl (by omega) (by omega) (by decide) CI0 (by rw [show min 0 nd = 0 by omega]; rfl)
      have m1 : ∀ q w, q ≤ 56 → ¬ (q = 1 ∧ w = 4) → c1 q w = c q w := fun q w hq hw => p2.2.1 q w hw (fun i hi => by have := (y4 i hi).1; omega)
      have B31 : up c1 31 0 0 31 1 = c 31 1 := by rw [up_c31 _ (by omega), m1 31 1 (by omega) (by omega)]
      have mB' : ∀ q, 31 ≤ q → q ≤ 55 → ∀ j, ¬ (q = 31 ∧ j = 0) → up c1 31 0 0 q j = c q j := fun q q1 q2 j hj => by rw [up_c31 _ hj, m1 q j (by omega) (by omega)]
      have B : TB (up c1 31 0 0) nd := by
        refine ⟨i1.1, by rw [mB' 31 (by omega) (by omega) 19 (by omega)]; exact i1.2.2, by rw [B31]; omega, fun d hd => ⟨MH_c (DR_MH (i6 d hd) (by omega) (by omega) i2'.2.2) mB', by rw [mB' 46 (by omega) (by omega) _ (by omega)]; exact (i6 d hd).2.2.1.2, fun on m m1' m2' g1 g2 => ?_⟩⟩
        rw [mB' 46 (by omega) (by omega) _ (by omega)] at on
        rw [mB' 33 (by omega) (by omega) _ (by omega)] at g1
        rw [mB' 47 (by omega) (by omega) _ (by omega)] at g2
        rw [B31, mB' 45 (by omega) (by omega) _ (by omega), (mev_c mB' d m).1]
        exact (i6 d hd).2.2.2.2.2.2.2.2.2 on m m1' m2' g1 g2
      have TI0 : TI (up c1 31 0 0) (up c1 31 0 0) nd (fun _ => up c1 31 0 0 31 1 + 0) (up c1 31 0 0 31 1 + 0) := by
        refine ⟨by omega, fun _ _ _ _ => rfl, fun d hd m m1' m2' => ?_⟩
        unfold tV
        rw [if_neg (fun hh => by
          have := (B.2.2.2 d hd).2.2 hh.1 m m1' m2' hh.2.1 hh.2.2.1
          have h9 : mdu (up c1 31 0 0) d m ≤ up c1 31 0 0 31 1 + 0 - up c1 31 0 0 45 d := hh.2.2.2
          omega)]
      have hm : ∀ v, LaM (hE 0 v h) := fun v => (Lay_hE hA hl).1
      obtain ⟨F, p3, p4⟩ := m_ti42 (hm (ts (tg c da sa (c 31 1 + n)) nd)) B (N := n) (by omega) (by omega) (by rw [B31]; exact e2) n.toNat dr_fu 0 (up c1 31 0 0) 0 (by omega) (by omega) (show n.toNat < 10000 by omega) TI0 (by
          rw [ts_0 nd (fun i hi => by omega)])
      rw [B31] at p4
      obtain ⟨t1, t2, t3⟩ := p4
      have F1 : ∀ q w, q ≠ 47 → ¬ (q = 31 ∧ (w = 0 ∨ w = 1)) → F q w = c1 q w := fun q w hq hw => by rw [t2 q w hq (by omega), up_c31 _ (by omega)]
      have F2 : ∀ q w, q ≤ 56 → q ≠ 47 → ¬ (q = 31 ∧ (w = 0 ∨ w = 1)) → ¬ (q = 1 ∧ w = 4) → F q w = c q w := fun q w h1 h2 h3 h4 => by rw [F1 q w h2 h3, m1 q w h1 h4]
      have F3 : ∀ q w, (∀ i, i < nd → ¬ (da i ≤ q ∧ q ≤ da i + 4)) → q ≠ 47 → ¬ (q = 31 ∧ (w = 0 ∨ w = 1)) → ¬ (q = 1 ∧ w = 4) → F q w = c q w := fun q w h1 h2 h3 h4 => by rw [F1 q w h2 h3, p2.2.1 q w h4 h1]
      have F47 : ∀ d : Nat, d < nd → ∀ m, 1 ≤ m → m ≤ 40 → F 47 (d * 41 + m) = tV c d m (c 31 1 + n - c 45 d) := by
        intro d hd m m1' m2'
        rw [t3 d hd m m1' m2']
        unfold tV
        have := mev_c mB' d m
        rw [this.1, mB' 46 (by omega) (by omega) _ (by omega), mB' 33 (by omega) (by omega) _ (by omega), mB' 47 (by omega) (by omega) _ (by omega), mB' 45 (by omega) (by omega) _ (by omega)]
      have DRF : ∀ i : Nat, i < nd → DR F i (da i) (sa i) := by
        intro i hi
        have w4 := y4 i hi
        have w7 := w4.2.1
        unfold sad at w7
        have w5 := y5 i i hi hi
        have D := i6 i hi
        have hd : 57 ≤ da i := w4.1.1
        have D9' := D9_t (DR_D9 D) hd w7.1 (T := c 31 1 + n) (by omega)
        have g := p2.2.2 i hi
        have k2 := D.2.1
        have u : ∀ q : Nat, q ≠ 31 → up c 31 1 (c 31 1 + n) q = c q := fun q hq => funext fun j => up_a _ _ _ _ hq
        have fs : ∀ q w, sa i ≤ q → q ≤ sa i + 11 → F q w = c q w := by
          intro q w q1 q2
          refine F3 q w (fun i' hi' => ?_) (by omega) (by omega) (by omega)
          have := y5 i' i hi' hi
          unfold DS at this
          omega
        by_cases on : c 46 i = 0
        · have g' := g.1 on
          have eT : c 31 1 + n - c (da i) 1 = up c 31 1 (c 31 1 + n) 31 1 - up c 31 1 (c 31 1 + n) 45 i := by rw [up_same, u 45 (by omega), k2.1]
          have cec := fun m => cev_c (u (sa i + 1) (by omega)) (u (da i + 1) (by omega)) (u (sa i + 2) (by omega)) (u (sa i + 3) (by omega)) (u (sa i + 4) (by omega)) (u (da i + 2) (by omega)) (c 31 1 + n - c (da i) 1) m
          have cdc := cdu_c (u (sa i + 2) (by omega)) (u (sa i + 3) (by omega)) (u (sa i + 4) (by omega)) (u (da i + 2) (by omega))
          have mdc : ∀ m, mdu (up c 31 1 (c 31 1 + n)) i m = mdu c i m := fun m => mdu_c (fun a => mft_c (by rw [u 48 (by omega)]) (fun k _ _ => by rw [u 49 (by omega), u 50 (by omega)]; exact ⟨rfl, rfl⟩) a 0) (by rw [u 34 (by omega)]) (by rw [u 35 (by omega)]) (by rw [u 36 (by omega)])
          refine PL D9' (by omega) (by omega) (by rw [up_same]; exact e2) hd w7.1 w5 eT (fun q w hq h1 h2 h3 => ?_) (fun m m1' m2' => ?_) (fun m m1' m2' => ?_) ?_
          · unfold RD at hq
            rcases hq with hq | hq | hq | hq | hq | hq | hq | hq
            · rw [fs q w hq.1 hq.2.1, u q (by omega)]
            · rw [F1 q w h3 (by omega), g'.2.2 q w hq.1 hq.2 h1 h2, u q (by omega)]
            · rw [F2 q w (by omega) (by omega) (by omega) (by omega), u q (by omega)]
            · rw [F2 q w (by omega) (by omega) (by omega) (by omega), u q (by omega)]
            · rw [F2 q w (by omega) (by omega) (by omega) (by omega), u q (by omega)]
            · omega
            · rw [F2 q w (by omega) (by omega) (by omega) (by omega), u q (by omega)]
            · rw [hq.1, hq.2, t1, up_same]
          · rw [F1 (da i + 1) m (by omega) (by omega), g'.1 m m1' m2']
            by_cases ee : cev c (da i) (sa i) (c 31 1 + n - c (da i) 1) m
            · rw [if_pos ee, if_pos ((cec m).mpr ee), cdc m]
            · rw [if_neg ee, if_neg (fun hh => ee ((cec m).mp hh)), u (da i + 1) (by omega)]
          · have hme : mev (up c 31 1 (c 31 1 + n)) i m ↔ (c 46 i = 0 ∧ c 33 (i * 41 + m) = 1 ∧ c 47 (i * 41 + m) < 0 ∧ mdu c i m ≤ c 31 1 + n - c 45 i) := by
              unfold mev
              rw [mdc m, u 33 (by omega), u 47 (by omega), u 45 (by omega), up_same]
              exact ⟨fun hh => ⟨on, hh⟩, fun hh => hh.2⟩
            rw [F47 i hi m m1' m2']
            unfold tV
            by_cases ee : c 46 i = 0 ∧ c 33 (i * 41 + m) = 1 ∧ c 47 (i * 41 + m) < 0 ∧ mdu c i m ≤ c 31 1 + n - c 45 i
            · rw [if_pos ee, if_pos (hme.mpr ee), mdc m]
            · rw [if_neg ee, if_neg (fun hh => ee (hme.mp hh)), u 47 (by omega)]
          · rw [F1 (da i) 4 (by omega) (by omega), g'.2.1, u (da i) (by omega)]
            congr 1
            refine sm_c 40 (fun m _ _ => ?_)
            unfold bz
            by_cases ee : cev c (da i) (sa i) (c 31 1 + n - c (da i) 1) m
            · rw [if_pos ee, if_pos ((cec m).mpr ee)]
            · rw [if_neg ee, if_neg (fun hh => ee ((cec m).mp hh))]
        · have g' := g.2 on
          have Dt : DR (up c 31 1 (c 31 1 + n)) i (da i) (sa i) := D9_DR D9' (fun on' => by rw [u 46 (by omega)] at on'; exact absurd on' on)
          refine DR_f Dt hd w7.1 w5 (fun q w hq => ?_)
          unfold RD at hq
          rcases hq with hq | hq | hq | hq | hq | hq | hq | hq
          · rw [fs q w hq.1 hq.2.1, u q (by omega)]
          · rw [F1 q w (by omega) (by omega), g' q w hq.1 hq.2, u q (by omega)]
          · rw [F2 q w (by omega) (by omega) (by omega) (by omega), u q (by omega)]
          · rw [F2 q w (by omega) (by omega) (by omega) (by omega), u q (by omega)]
          · rw [F2 q w (by omega) (by omega) (by omega) (by omega), u q (by omega)]
          · have := F47 i hi (w - i * 41) (by omega) (by omega)
            rw [show (i : Int) * 41 + (w - i * 41) = w by omega] at this
            rw [hq.1, this, u 47 (by omega)]
            unfold tV
            rw [if_neg (fun hh => on hh.1), show (i : Int) * 41 + (w - i * 41) = w by omega]
          · rw [F2 q w (by omega) (by omega) (by omega) (by omega), u q (by omega)]
          · rw [hq.1, hq.2, t1, up_same]
      have hcnt : ts (fun d => mbc F d - mbc (up c1 31 0 0) d) nd = ts (tg c da sa (c 31 1 + n)) nd := by
        refine ts_c nd (fun i hi => ?_)
        have D := i6 i hi
        have D' := DRF i hi
        have g := p2.2.2 i hi
        have w4 := y4 i hi
        rw [← D'.2.2.2.2.1, mbc_c (c := c) (c' := up c1 31 0 0) (fun m _ _ => mB' 47 (by omega) (by omega) _ (by omega)), ← D.2.2.2.2.1, F1 (da i) 4 (by omega) (by omega)]
        unfold tg
        by_cases on : c 46 i = 0
        · rw [if_pos on, (g.1 on).2.1]; omega
        · rw [if_neg on, g.2 on (da i) 4 (by omega) (by omega)]; omega
      rw [hcnt] at p3
      refine ⟨0, ts (tg c da sa (c 31 1 + n)) nd, ts (tg c da sa (c 31 1 + n)) nd, h, c1, F, by omega, ?_, ?_, ?_, fun _ => rfl, ?_, fun j => m1 0 j (by omega) (by omega)⟩
      · have e14 : c 1 4 + n = c 31 1 + n := by omega
        unfold f_L_tick f_R_tick
        rw [hE_0]
        simp (disch := omega) only [li_0, li_1, li_2, li_3, li_4, li_5, li_6, li_7, li_8, li_9, li_10, li_11, li_12, li_13, li_14, li_15, li_16, li_17, li_18, li_19, li_20, li_21, li_31, li_32, li_33, li_40, li_41, li_43, li_48, li_57, li_59, li_60, li_61, li_62, li_64, li_97, li_99, li_100, li_101, li_102, li_112, li_119, li_126, li_189, li_255, li_300, li_369, li_400, li_999, li_5000, li_9999, li_12345, li_99999, li_1103515245, i2_add, i2_sub, i2_mul, i2_neg, i2_le, i2_lt, i2_eq, r_rz, r_ci, r_cx, r_cv, r_vx, r_cr, r_rx, dr_ci', dr_cv', dr_cr', dr_gr', dr_x0, ↓reduceIte, Int.reduceLE, Int.reduceLT, Int.reduceEq, Int.reduceNeg, Int.reduceAdd, Int.reduceSub, Int.reduceMul, dl_t, dl_f, dle_t, dle_f, deq_t, deq_f, vR_k hR, vR_r0 hR, vR_r1 hR, vR_r2 hR, vR_g3 hR, vR_p3 hR, vR_g4 hR, vR_p4 hR, vR_r5 hR, vR_g6 hR, vR_p6 hR, vR_r7 hR, vR_r8 hR, vR_g9 hR, vR_p9 hR, vR_n29 hR, vR_a29 hR, vR_s29 hR, vR_n30 hR, vR_a30 hR, vR_s30 hR, e14, r_d28 hl, p1, r_sl h5.1 h5.2]
      · have hm' := hm (ts (tg c da sa (c 31 1 + n)) nd)
        have q31 := m1 31 1 (by omega) (by omega)
        unfold f_M_tick
        simp (disch := omega) only [li_0, li_1, li_2, li_3, li_4, li_5, li_6, li_7, li_8, li_9, li_10, li_11, li_12, li_13, li_14, li_15, li_16, li_17, li_18, li_19, li_20, li_21, li_31, li_32, li_33, li_40, li_41, li_43, li_48, li_57, li_59, li_60, li_61, li_62, li_64, li_97, li_99, li_100, li_101, li_102, li_112, li_119, li_126, li_189, li_255, li_300, li_369, li_400, li_999, li_5000, li_9999, li_12345, li_99999, li_1103515245, i2_add, i2_sub, i2_mul, i2_neg, i2_le, i2_lt, i2_eq, r_rz, r_ci, r_cx, r_cv, r_vx, r_cr, r_rx, dr_ci', dr_cv', dr_cr', dr_gr', dr_x0, ↓reduceIte, Int.reduceLE, Int.reduceLT, Int.reduceEq, Int.reduceNeg, Int.reduceAdd, Int.reduceSub, Int.reduceMul, dl_t, dl_f, dle_t, dle_f, deq_t, deq_f, vM_k hm', vM_g0 hm', vM_p0 hm', vM_g1 hm', vM_p1 hm', vM_g2 hm', vM_p2 hm', vM_r3 hm', vM_g4 hm', vM_p4 hm', vM_g5 hm', vM_p5 hm', vM_g6 hm', vM_p6 hm', vM_r7 hm', vM_r8 hm', vM_r9 hm', vM_r10 hm', vM_r11 hm', vM_r12 hm', vM_r13 hm', vM_r14 hm', vM_r15 hm', vM_r16 hm', vM_r17 hm', vM_r18 hm', vM_g19 hm', vM_p19 hm', vM_r20 hm', vM_r21 hm', vM_r22 hm', vM_r23 hm', vM_r24 hm', vM_r25 hm', vM_r26 hm', vM_g27 hm', vM_p27 hm', vM_r28 hm', vM_r29 hm', vM_r30 hm', vM_r31 hm', vM_n32 hm', vM_a32 hm', vM_s32 hm', vM_n33 hm', vM_a33 hm', vM_s33 hm', vM_n34 hm', vM_a34 hm', vM_s34 hm', vM_n35 hm', vM_a35 hm', vM_s35 hm', vM_n36 hm', vM_a36 hm', vM_s36 hm', vM_n37 hm', vM_a37 hm', vM_s37 hm', vM_n38 hm', vM_a38 hm', vM_s38 hm', vM_n39 hm', vM_a39 hm', vM_s39 hm', vM_n40 hm', vM_a40 hm', vM_s40 hm', vM_n41 hm', vM_a41 hm', vM_s41 hm', vM_n42 hm', vM_a42 hm', vM_s42 hm', vM_n43 hm', vM_a43 hm', vM_s43 hm', vM_n44 hm', vM_a44 hm', vM_s44 hm', vM_n45 hm', vM_a45 hm', vM_s45 hm', vM_n46 hm', vM_a46 hm', vM_s46 hm', vM_n47 hm', vM_a47 hm', vM_s47 hm', vM_n48 hm', vM_a48 hm', vM_s48 hm', vM_n49 hm', vM_a49 hm', vM_s49 hm', vM_n50 hm', vM_a50 hm', vM_s50 hm', vM_n51 hm', vM_a51 hm', vM_s51 hm', vM_n52 hm', vM_a52 hm', vM_s52 hm', vM_n53 hm', vM_a53 hm', vM_s53 hm', vM_n54 hm', vM_a54 hm', vM_s54 hm', vM_n55 hm', vM_a55 hm', vM_s55 hm', in_y, q31, g_000 hm', g_001 hm', g_010 hm', g_011 hm', g_100 hm', g_101 hm', g_110 hm', g_111 hm', p3]
      · rw [t2 31 0 (by omega) (by omega), up_same]
      · have v1 := y1
        have v2 := y2
        unfold sad at v1 v2
        have fcs : ∀ q w, cs ≤ q → q ≤ cs + 11 → F q w = c q w := fun q w q1 q2 => F3 q w (fun i hi => by have := (y4 i hi).2.2.1; unfold DS at this; omega) (by omega) (by omega) (by omega)
        have fsp : ∀ q w, sp ≤ q → q ≤ sp + 11 → F q w = c q w := fun q w q1 q2 => F3 q w (fun i hi => by have := (y4 i hi).2.2.2.1; unfold DS at this; omega) (by omega) (by omega) (by omega)
        refine St_m S0 0 _ ⟨?_, ?_, SRel_f i3 (fun q j q1 q2 q3 => fcs q j q1 q2) (fun q m q1 q2 _ _ => F2 q _ (by omega) (by omega) (by omega) (by omega)) (fun q m q1 q2 _ _ => F2 q _ (by omega) (by omega) (by omega) (by omega)), fun j => ?_, fun j j1 j2 => ?_, DRF, ?_, ?_, fun j => ?_⟩ (IT_f hT (fun q j hq => F2 q j ?_ ?_ ?_ ?_)) (IU_f hU (fun q j hq => F2 q j ?_ ?_ ?_ ?_)) (IW_f hW (fun q j hq => F2 q j ?_ ?_ ?_ ?_))
        · rw [F2 1 6 (by omega) (by omega) (by omega) (by omega), F2 31 19 (by omega) (by omega) (by omega) (by omega)]; exact i1
        · rw [F1 1 4 (by omega) (by omega), p2.1, t1]; omega
        · rw [F2 33 j (by omega) (by omega) (by omega) (by omega), F2 38 j (by omega) (by omega) (by omega) (by omega), F2 40 j (by omega) (by omega) (by omega) (by omega)]; exact i4 j
        · rw [F2 46 j (by omega) (by omega) (by omega) (by omega), F2 48 j (by omega) (by omega) (by omega) (by omega)]; exact i5 j j1 j2
        · rw [fcs cs 12 (by omega) (by omega), fsp sp 12 (by omega) (by omega)]; exact i7
        · rw [fcs cs 12 (by omega) (by omega)]; exact i8
        · rw [F2 0 j (by omega) (by omega) (by omega) (by omega)]; exact i9 j
        all_goals first | (unfold RT at hq; omega) | (unfold RU at hq; omega) | (unfold RW at hq; omega)
    · refine Q_OP ⟨nd, da, sa, cs, sp, S0⟩ ⟨1, 0, by omega, ?_, fun h' hm => ?_⟩
      · unfold f_L_tick f_R_tick
        rw [hE_x (by omega)]
        simp (disch := omega) only [li_0, li_1, li_2, li_3, li_4, li_5, li_6, li_7, li_8, li_9, li_10, li_11, li_12, li_13, li_14, li_15, li_16, li_17, li_18, li_19, li_20, li_21, li_31, li_32, li_33, li_40, li_41, li_43, li_48, li_57, li_59, li_60, li_61, li_62, li_64, li_97, li_99, li_100, li_101, li_102, li_112, li_119, li_126, li_189, li_255, li_300, li_369, li_400, li_999, li_5000, li_9999, li_12345, li_99999, li_1103515245, i2_add, i2_sub, i2_mul, i2_neg, i2_le, i2_lt, i2_eq, r_rz, r_ci, r_cx, r_cv, r_vx, r_cr, r_rx, dr_ci', dr_cv', dr_cr', dr_gr', dr_x0, ↓reduceIte, Int.reduceLE, Int.reduceLT, Int.reduceEq, Int.reduceNeg, Int.reduceAdd, Int.reduceSub, Int.reduceMul, dl_t, dl_f, dle_t, dle_f, deq_t, deq_f, vR_k hR, vR_r0 hR, vR_r1 hR, vR_r2 hR, vR_g3 hR, vR_p3 hR, vR_g4 hR, vR_p4 hR, vR_r5 hR, vR_g6 hR, vR_p6 hR, vR_r7 hR, vR_r8 hR, vR_g9 hR, vR_p9 hR, vR_n29 hR, vR_a29 hR, vR_s29 hR, vR_n30 hR, vR_a30 hR, vR_s30 hR, hth]
      · unfold f_M_tick f_M_tick_27
        simp (disch := omega) only [li_0, li_1, li_2, li_3, li_4, li_5, li_6, li_7, li_8, li_9, li_10, li_11, li_12, li_13, li_14, li_15, li_16, li_17, li_18, li_19, li_20, li_21, li_31, li_32, li_33, li_40, li_41, li_43, li_48, li_57, li_59, li_60, li_61, li_62, li_64, li_97, li_99, li_100, li_101, li_102, li_112, li_119, li_126, li_189, li_255, li_300, li_369, li_400, li_999, li_5000, li_9999, li_12345, li_99999, li_1103515245, i2_add, i2_sub, i2_mul, i2_neg, i2_le, i2_lt, i2_eq, r_rz, r_ci, r_cx, r_cv, r_vx, r_cr, r_rx, dr_ci', dr_cv', dr_cr', dr_gr', dr_x0, ↓reduceIte, Int.reduceLE, Int.reduceLT, Int.reduceEq, Int.reduceNeg, Int.reduceAdd, Int.reduceSub, Int.reduceMul, dl_t, dl_f, dle_t, dle_f, deq_t, deq_f, vM_k hm, vM_g0 hm, vM_p0 hm, vM_g1 hm, vM_p1 hm, vM_g2 hm, vM_p2 hm, vM_r3 hm, vM_g4 hm, vM_p4 hm, vM_g5 hm, vM_p5 hm, vM_g6 hm, vM_p6 hm, vM_r7 hm, vM_r8 hm, vM_r9 hm, vM_r10 hm, vM_r11 hm, vM_r12 hm, vM_r13 hm, vM_r14 hm, vM_r15 hm, vM_r16 hm, vM_r17 hm, vM_r18 hm, vM_g19 hm, vM_p19 hm, vM_r20 hm, vM_r21 hm, vM_r22 hm, vM_r23 hm, vM_r24 hm, vM_r25 hm, vM_r26 hm, vM_g27 hm, vM_p27 hm, vM_r28 hm, vM_r29 hm, vM_r30 hm, vM_r31 hm, vM_n32 hm, vM_a32 hm, vM_s32 hm, vM_n33 hm, vM_a33 hm, vM_s33 hm, vM_n34 hm, vM_a34 hm, vM_s34 hm, vM_n35 hm, vM_a35 hm, vM_s35 hm, vM_n36 hm, vM_a36 hm, vM_s36 hm, vM_n37 hm, vM_a37 hm, vM_s37 hm, vM_n38 hm, vM_a38 hm, vM_s38 hm, vM_n39 hm, vM_a39 hm, vM_s39 hm, vM_n40 hm, vM_a40 hm, vM_s40 hm, vM_n41 hm, vM_a41 hm, vM_s41 hm, vM_n42 hm, vM_a42 hm, vM_s42 hm, vM_n43 hm, vM_a43 hm, vM_s43 hm, vM_n44 hm, vM_a44 hm, vM_s44 hm, vM_n45 hm, vM_a45 hm, vM_s45 hm, vM_n46 hm, vM_a46 hm, vM_s46 hm, vM_n47 hm, vM_a47 hm, vM_s47 hm, vM_n48 hm, vM_a48 hm, vM_s48 hm, vM_n49 hm, vM_a49 hm, vM_s49 hm, vM_n50 hm, vM_a50 hm, vM_s50 hm, vM_n51 hm, vM_a51 hm, vM_s51 hm, vM_n52 hm, vM_a52 hm, vM_s52 hm, vM_n53 hm, vM_a53 hm, vM_s53 hm, vM_n54 hm, vM_a54 hm, vM_s54 hm, vM_n55 hm, vM_a55 hm, vM_s55 hm, in_y, g_000 hm, g_001 hm, g_010 hm, g_011 hm, g_100 hm, g_101 hm, g_110 hm, g_111 hm]
  · refine Q_OP ⟨nd, da, sa, cs, sp, S0⟩ ⟨1, 0, by omega, ?_, fun h' hm => ?_⟩
    · unfold f_L_tick f_R_tick
      rw [hE_x (by omega)]
      by_cases e3 : n < 1
      · simp (disch := omega) only [li_0, li_1, li_2, li_3, li_4, li_5, li_6, li_7, li_8, li_9, li_10, li_11, li_12, li_13, li_14, li_15, li_16, li_17, li_18, li_19, li_20, li_21, li_31, li_32, li_33, li_40, li_41, li_43, li_48, li_57, li_59, li_60, li_61, li_62, li_64, li_97, li_99, li_100, li_101, li_102, li_112, li_119, li_126, li_189, li_255, li_300, li_369, li_400, li_999, li_5000, li_9999, li_12345, li_99999, li_1103515245, i2_add, i2_sub, i2_mul, i2_neg, i2_le, i2_lt, i2_eq, r_rz, r_ci, r_cx, r_cv, r_vx, r_cr, r_rx, dr_ci', dr_cv', dr_cr', dr_gr', dr_x0, ↓reduceIte, Int.reduceLE, Int.reduceLT, Int.reduceEq, Int.reduceNeg, Int.reduceAdd, Int.reduceSub, Int.reduceMul, dl_t, dl_f, dle_t, dle_f, deq_t, deq_f, vR_k hR, vR_r0 hR, vR_r1 hR, vR_r2 hR, vR_g3 hR, vR_p3 hR, vR_g4 hR, vR_p4 hR, vR_r5 hR, vR_g6 hR, vR_p6 hR, vR_r7 hR, vR_r8 hR, vR_g9 hR, vR_p9 hR, vR_n29 hR, vR_a29 hR, vR_s29 hR, vR_n30 hR, vR_a30 hR, vR_s30 hR, hth]
      · simp (disch := omega) only [li_0, li_1, li_2, li_3, li_4, li_5, li_6, li_7, li_8, li_9, li_10, li_11, li_12, li_13, li_14, li_15, li_16, li_17, li_18, li_19, li_20, li_21, li_31, li_32, li_33, li_40, li_41, li_43, li_48, li_57, li_59, li_60, li_61, li_62, li_64, li_97, li_99, li_100, li_101, li_102, li_112, li_119, li_126, li_189, li_255, li_300, li_369, li_400, li_999, li_5000, li_9999, li_12345, li_99999, li_1103515245, i2_add, i2_sub, i2_mul, i2_neg, i2_le, i2_lt, i2_eq, r_rz, r_ci, r_cx, r_cv, r_vx, r_cr, r_rx, dr_ci', dr_cv', dr_cr', dr_gr', dr_x0, ↓reduceIte, Int.reduceLE, Int.reduceLT, Int.reduceEq, Int.reduceNeg, Int.reduceAdd, Int.reduceSub, Int.reduceMul, dl_t, dl_f, dle_t, dle_f, deq_t, deq_f, vR_k hR, vR_r0 hR, vR_r1 hR, vR_r2 hR, vR_g3 hR, vR_p3 hR, vR_g4 hR, vR_p4 hR, vR_r5 hR, vR_g6 hR, vR_p6 hR, vR_r7 hR, vR_r8 hR, vR_g9 hR, vR_p9 hR, vR_n29 hR, vR_a29 hR, vR_s29 hR, vR_n30 hR, vR_a30 hR, vR_s30 hR, hth]
    · unfold f_M_tick f_M_tick_27
      simp (disch := omega) only [li_0, li_1, li_2, li_3, li_4, li_5, li_6, li_7, li_8, li_9, li_10, li_11, li_12, li_13, li_14, li_15, li_16, li_17, li_18, li_19, li_20, li_21, li_31, li_32, li_33, li_40, li_41, li_43, li_48, li_57, li_59, li_60, li_61, li_62, li_64, li_97, li_99, li_100, li_101, li_102, li_112, li_119, li_126, li_189, li_255, li_300, li_369, li_400, li_999, li_5000, li_9999, li_12345, li_99999, li_1103515245, i2_add, i2_sub, i2_mul, i2_neg, i2_le, i2_lt, i2_eq, r_rz, r_ci, r_cx, r_cv, r_vx, r_cr, r_rx, dr_ci', dr_cv', dr_cr', dr_gr', dr_x0, ↓reduceIte, Int.reduceLE, Int.reduceLT, Int.reduceEq, Int.reduceNeg, Int.reduceAdd, Int.reduceSub, Int.reduceMul, dl_t, dl_f, dle_t, dle_f, deq_t, deq_f, vM_k hm, vM_g0 hm, vM_p0 hm, vM_g1 hm, vM_p1 hm, vM_g2 hm, vM_p2 hm, vM_r3 hm, vM_g4 hm, vM_p4 hm, vM_g5 hm, vM_p5 hm, vM_g6 hm, vM_p6 hm, vM_r7 hm, vM_r8 hm, vM_r9 hm, vM_r10 hm, vM_r11 hm, vM_r12 hm, vM_r13 hm, vM_r14 hm, vM_r15 hm, vM_r16 hm, vM_r17 hm, vM_r18 hm, vM_g19 hm, vM_p19 hm, vM_r20 hm, vM_r21 hm, vM_r22 hm, vM_r23 hm, vM_r24 hm, vM_r25 hm, vM_r26 hm, vM_g27 hm, vM_p27 hm, vM_r28 hm, vM_r29 hm, vM_r30 hm, vM_r31 hm, vM_n32 hm, vM_a32 hm, vM_s32 hm, vM_n33 hm, vM_a33 hm, vM_s33 hm, vM_n34 hm, vM_a34 hm, vM_s34 hm, vM_n35 hm, vM_a35 hm, vM_s35 hm, vM_n36 hm, vM_a36 hm, vM_s36 hm, vM_n37 hm, vM_a37 hm, vM_s37 hm, vM_n38 hm, vM_a38 hm, vM_s38 hm, vM_n39 hm, vM_a39 hm, vM_s39 hm, vM_n40 hm, vM_a40 hm, vM_s40 hm, vM_n41 hm, vM_a41 hm, vM_s41 hm, vM_n42 hm, vM_a42 hm, vM_s42 hm, vM_n43 hm, vM_a43 hm, vM_s43 hm, vM_n44 hm, vM_a44 hm, vM_s44 hm, vM_n45 hm, vM_a45 hm, vM_s45 hm, vM_n46 hm, vM_a46 hm, vM_s46 hm, vM_n47 hm, vM_a47 hm, vM_s47 hm, vM_n48 hm, vM_a48 hm, vM_s48 hm, vM_n49 hm, vM_a49 hm, vM_s49 hm, vM_n50 hm, vM_a50 hm, vM_s50 hm, vM_n51 hm, vM_a51 hm, vM_s51 hm, vM_n52 hm, vM_a52 hm, vM_s52 hm, vM_n53 hm, vM_a53 hm, vM_s53 hm, vM_n54 hm, vM_a54 hm, vM_s54 hm, vM_n55 hm, vM_a55 hm, vM_s55 hm, in_n, g_000 hm, g_001 hm, g_010 hm, g_011 hm, g_100 hm, g_101 hm, g_110 hm, g_111 hm]
end OT
