/-! ===== begin: the parts ===== -/
theorem r_sr {h : dr_AH} {c : Nat → Int → Int} {ci a j x n : Nat} {y : Int} {K : dr_AH → Option (dr_RS × dr_AH)} (hy : y = (j : Int)) (e1 : (h.2.2 a).1 = 110 + ci) (e2 : (h.2.2 a).2.1 = n) (hn : n ≤ 100000) (ha : a ≠ 0) (hj : j < n) (hx : (h.2.2 x).1 = ci) : dr_sr (wr h c) ci a (i2 y) x K = K (wr (dr_put h a j (.ref x)) c) := by
  subst hy
  unfold dr_sr
  rw [if_pos (show ((dr_in (wr h c) (10 + ci) a (i2 (j : Int)) ∧ a ≠ 0) ∧ ((wr h c).2.2 x).1 = ci) from ⟨⟨⟨by rw [wr_k, e1]; omega, by rw [i2_in (by omega) (by omega)]; omega, by rw [i2_in (by omega) (by omega), wr_n, e2]; omega⟩, ha⟩, hx⟩), i2_nat (by omega) (by omega), show ((j : Int)).toNat = j by omega, wr_pv (fun x => by simp)]
/-- the reference's begin, but for the look -/
def bM (X : Nat → Int → Int) (n now : Int) : Nat → Int → Int := up (filo (up (cpa (cpe (up X 31 0 0) 8 n 41) 8 n 21) 45 n now) 47 (n * 41) 41 (-1)) 31 19 (n + 1)
section BM
variable {X X' : Nat → Int → Int} {n now : Int}
theorem bM_n {q : Nat} {j : Int} (h1 : ¬ (33 ≤ q ∧ q ≤ 39 ∧ n * 41 ≤ j ∧ j < n * 41 + 41)) (h2 : ¬ (40 ≤ q ∧ q ≤ 44 ∧ n * 21 ≤ j ∧ j < n * 21 + 21)) (h3 : ¬ (q = 45 ∧ j = n)) (h4 : ¬ (q = 47 ∧ n * 41 ≤ j ∧ j < n * 41 + 41)) (h5 : ¬ (q = 31 ∧ (j = 0 ∨ j = 19))) : bM X n now q j = X q j := by
  unfold bM
  rw [up_c31 _ (by omega)]
  unfold filo
  rw [if_neg h4, up_c31 _ h3]
  unfold cpa cpe
  rw [if_neg h2, if_neg h1, up_c31 _ (by omega)]
theorem bM_e {q : Nat} {k : Int} (h : 33 ≤ q ∧ q ≤ 39) (k1 : 0 ≤ k) (k2 : k ≤ 40) : bM X n now q (n * 41 + k) = X q (328 + k) := by
  unfold bM
  rw [up_c31 _ (by omega)]
  unfold filo
  rw [if_neg (by omega), up_c31 _ (by omega)]
  unfold cpa cpe
  rw [if_neg (by omega), if_pos (by omega), up_c31 _ (by omega)]
  congr 1
  omega
theorem bM_a {q : Nat} {k : Int} (h : 40 ≤ q ∧ q ≤ 44) (k1 : 0 ≤ k) (k2 : k ≤ 20) : bM X n now q (n * 21 + k) = X q (168 + k) := by
  unfold bM
  rw [up_c31 _ (by omega)]
  unfold filo
  rw [if_neg (by omega), up_c31 _ (by omega)]
  unfold cpa cpe
  rw [if_pos (by omega), if_neg (by omega), up_c31 _ (by omega)]
  congr 1
  omega
theorem bM_45 : bM X n now 45 n = now := by
  unfold bM
  rw [up_c31 _ (by omega)]
  unfold filo
  rw [if_neg (by omega), up_same]
theorem bM_47 {k : Int} (k1 : 0 ≤ k) (k2 : k ≤ 40) : bM X n now 47 (n * 41 + k) = -1 := by
  unfold bM
  rw [up_c31 _ (by omega)]
  unfold filo
  rw [if_pos (by omega)]
theorem bM_19 : bM X n now 31 19 = n + 1 := by
  unfold bM
  rw [up_same]
theorem bM_0 : bM X n now 31 0 = 0 := by
  unfold bM
  rw [up_c31 _ (by omega)]
  unfold filo
  rw [if_neg (by omega), up_c31 _ (by omega)]
  unfold cpa cpe
  rw [if_neg (by omega), if_neg (by omega), up_same]
theorem bM_X (e : ∀ q, 31 ≤ q → q ≤ 55 → ∀ j, ¬ (q = 31 ∧ j = 0) → X q j = X' q j) {q : Nat} (q1 : 31 ≤ q) (q2 : q ≤ 55) (j : Int) : bM X n now q j = bM X' n now q j := by
  by_cases h0 : q = 31 ∧ j = 0
  · rw [h0.1, h0.2, bM_0, bM_0]
  · by_cases h1 : 33 ≤ q ∧ q ≤ 39 ∧ n * 41 ≤ j ∧ j < n * 41 + 41
    · rw [show j = n * 41 + (j - n * 41) by omega, bM_e (by omega) (by omega) (by omega), bM_e (by omega) (by omega) (by omega)]
      exact e q q1 q2 _ (by omega)
    · by_cases h2 : 40 ≤ q ∧ q ≤ 44 ∧ n * 21 ≤ j ∧ j < n * 21 + 21
      · rw [show j = n * 21 + (j - n * 21) by omega, bM_a (by omega) (by omega) (by omega), bM_a (by omega) (by omega) (by omega)]
        exact e q q1 q2 _ (by omega)
      · by_cases h3 : q = 45 ∧ j = n
        · rw [h3.1, h3.2, bM_45, bM_45]
        · by_cases h4 : q = 47 ∧ n * 41 ≤ j ∧ j < n * 41 + 41
          · rw [h4.1, show j = n * 41 + (j - n * 41) by omega, bM_47 (by omega) (by omega), bM_47 (by omega) (by omega)]
          · by_cases h5 : q = 31 ∧ j = 19
            · rw [h5.1, h5.2, bM_19, bM_19]
            · rw [bM_n h1 h2 h3 h4 (by omega), bM_n h1 h2 h3 h4 (by omega)]
              exact e q q1 q2 j h0
end BM
theorem m_beg63 {h : dr_AH} {c : Nat → Int → Int} (hm : LaM h) {n : Int} (n0 : 0 ≤ n) (n1 : n < 8) (h19 : c 31 19 = n) (hM : MH (up (filo c 47 (n * 41) 41 (-1)) 31 19 (n + 1)) n) : ∀ (f m : Nat) (j : Int), 0 ≤ j → j + f = 41 → f < m →
    f_M_begin_63 m 31 (i2 j) (wr h (filo c 47 (n * 41) j (-1))) = some (.inl (some (.int (i2 n))), wr h (lkc (up (filo c 47 (n * 41) 41 (-1)) 31 19 (n + 1)) n 40)) := by
  have hlk := m_look hm hM
  have q19 : ∀ j, filo c 47 (n * 41) j (-1) 31 19 = n := by
    intro j
    unfold filo
    rw [if_neg (by omega)]
    exact h19
  have qe : n + 1 - 1 = n := by omega
  have q19' : lkc (up (filo c 47 (n * 41) 41 (-1)) 31 19 (n + 1)) n 40 31 19 = n + 1 := by rw [lkc_n' _ (by omega), up_same]
  intro f
  induction f with
  | zero =>
    intro m j j0 hj hf
    obtain ⟨m, rfl⟩ : ∃ k, m = k + 1 := ⟨m - 1, by omega⟩
    have e : j = 41 := by omega
    subst e
    rw [f_M_begin_63]
    simp (disch := omega) only [li_0, li_1, li_2, li_3, li_4, li_5, li_6, li_7, li_8, li_9, li_10, li_11, li_12, li_13, li_14, li_15, li_16, li_17, li_18, li_19, li_20, li_21, li_31, li_32, li_33, li_40, li_41, li_43, li_48, li_57, li_59, li_60, li_61, li_62, li_64, li_97, li_99, li_100, li_101, li_102, li_112, li_119, li_126, li_189, li_255, li_300, li_369, li_400, li_999, li_5000, li_9999, li_12345, li_99999, li_1103515245, i2_add, i2_sub, i2_mul, i2_neg, i2_le, i2_lt, i2_eq, r_rz, r_ci, r_cx, r_cv, r_vx, r_cr, r_rx, dr_ci', dr_cv', dr_cr', dr_gr', dr_x0, ↓reduceIte, Int.reduceLE, Int.reduceLT, Int.reduceEq, Int.reduceNeg, Int.reduceAdd, Int.reduceSub, Int.reduceMul, vM_k hm, vM_g0 hm, vM_p0 hm, vM_g1 hm, vM_p1 hm, vM_g2 hm, vM_p2 hm, vM_r3 hm, vM_g4 hm, vM_p4 hm, vM_g5 hm, vM_p5 hm, vM_g6 hm, vM_p6 hm, vM_r7 hm, vM_r8 hm, vM_r9 hm, vM_r10 hm, vM_r11 hm, vM_r12 hm, vM_r13 hm, vM_r14 hm, vM_r15 hm, vM_r16 hm, vM_r17 hm, vM_r18 hm, vM_g19 hm, vM_p19 hm, vM_r20 hm, vM_r21 hm, vM_r22 hm, vM_r23 hm, vM_r24 hm, vM_r25 hm, vM_r26 hm, vM_g27 hm, vM_p27 hm, vM_r28 hm, vM_r29 hm, vM_r30 hm, vM_r31 hm, vM_n32 hm, vM_a32 hm, vM_s32 hm, vM_n33 hm, vM_a33 hm, vM_s33 hm, vM_n34 hm, vM_a34 hm, vM_s34 hm, vM_n35 hm, vM_a35 hm, vM_s35 hm, vM_n36 hm, vM_a36 hm, vM_s36 hm, vM_n37 hm, vM_a37 hm, vM_s37 hm, vM_n38 hm, vM_a38 hm, vM_s38 hm, vM_n39 hm, vM_a39 hm, vM_s39 hm, vM_n40 hm, vM_a40 hm, vM_s40 hm, vM_n41 hm, vM_a41 hm, vM_s41 hm, vM_n42 hm, vM_a42 hm, vM_s42 hm, vM_n43 hm, vM_a43 hm, vM_s43 hm, vM_n44 hm, vM_a44 hm, vM_s44 hm, vM_n45 hm, vM_a45 hm, vM_s45 hm, vM_n46 hm, vM_a46 hm, vM_s46 hm, vM_n47 hm, vM_a47 hm, vM_s47 hm, vM_n48 hm, vM_a48 hm, vM_s48 hm, vM_n49 hm, vM_a49 hm, vM_s49 hm, vM_n50 hm, vM_a50 hm, vM_s50 hm, vM_n51 hm, vM_a51 hm, vM_s51 hm, vM_n52 hm, vM_a52 hm, vM_s52 hm, vM_n53 hm, vM_a53 hm, vM_s53 hm, vM_n54 hm, vM_a54 hm, vM_s54 hm, vM_n55 hm, vM_a55 hm, vM_s55 hm, q19, up_same, qe, hlk, q19']
  | succ f ih =>
    intro m j j0 hj hf
    obtain ⟨m, rfl⟩ : ∃ k, m = k + 1 := ⟨m - 1, by omega⟩
    have e2 : ¬ ((41 : Int) ≤ j) := by omega
    rw [f_M_begin_63]
    simp (disch := omega) only [li_0, li_1, li_2, li_3, li_4, li_5, li_6, li_7, li_8, li_9, li_10, li_11, li_12, li_13, li_14, li_15, li_16, li_17, li_18, li_19, li_20, li_21, li_31, li_32, li_33, li_40, li_41, li_43, li_48, li_57, li_59, li_60, li_61, li_62, li_64, li_97, li_99, li_100, li_101, li_102, li_112, li_119, li_126, li_189, li_255, li_300, li_369, li_400, li_999, li_5000, li_9999, li_12345, li_99999, li_1103515245, i2_add, i2_sub, i2_mul, i2_neg, i2_le, i2_lt, i2_eq, r_rz, r_ci, r_cx, r_cv, r_vx, r_cr, r_rx, dr_ci', dr_cv', dr_cr', dr_gr', dr_x0, ↓reduceIte, Int.reduceLE, Int.reduceLT, Int.reduceEq, Int.reduceNeg, Int.reduceAdd, Int.reduceSub, Int.reduceMul, vM_k hm, vM_g0 hm, vM_p0 hm, vM_g1 hm, vM_p1 hm, vM_g2 hm, vM_p2 hm, vM_r3 hm, vM_g4 hm, vM_p4 hm, vM_g5 hm, vM_p5 hm, vM_g6 hm, vM_p6 hm, vM_r7 hm, vM_r8 hm, vM_r9 hm, vM_r10 hm, vM_r11 hm, vM_r12 hm, vM_r13 hm, vM_r14 hm, vM_r15 hm, vM_r16 hm, vM_r17 hm, vM_r18 hm, vM_g19 hm, vM_p19 hm, vM_r20 hm, vM_r21 hm, vM_r22 hm, vM_r23 hm, vM_r24 hm, vM_r25 hm, vM_r26 hm, vM_g27 hm, vM_p27 hm, vM_r28 hm, vM_r29 hm, vM_r30 hm, vM_r31 hm, vM_n32 hm, vM_a32 hm, vM_s32 hm, vM_n33 hm, vM_a33 hm, vM_s33 hm, vM_n34 hm, vM_a34 hm, vM_s34 hm, vM_n35 hm, vM_a35 hm, vM_s35 hm, vM_n36 hm, vM_a36 hm, vM_s36 hm, vM_n37 hm, vM_a37 hm, vM_s37 hm, vM_n38 hm, vM_a38 hm, vM_s38 hm, vM_n39 hm, vM_a39 hm, vM_s39 hm, vM_n40 hm, vM_a40 hm, vM_s40 hm, vM_n41 hm, vM_a41 hm, vM_s41 hm, vM_n42 hm, vM_a42 hm, vM_s42 hm, vM_n43 hm, vM_a43 hm, vM_s43 hm, vM_n44 hm, vM_a44 hm, vM_s44 hm, vM_n45 hm, vM_a45 hm, vM_s45 hm, vM_n46 hm, vM_a46 hm, vM_s46 hm, vM_n47 hm, vM_a47 hm, vM_s47 hm, vM_n48 hm, vM_a48 hm, vM_s48 hm, vM_n49 hm, vM_a49 hm, vM_s49 hm, vM_n50 hm, vM_a50 hm, vM_s50 hm, vM_n51 hm, vM_a51 hm, vM_s51 hm, vM_n52 hm, vM_a52 hm, vM_s52 hm, vM_n53 hm, vM_a53 hm, vM_s53 hm, vM_n54 hm, vM_a54 hm, vM_s54 hm, vM_n55 hm, vM_a55 hm, vM_s55 hm, e2, q19, filo_s, ih]
theorem m_begok {h : dr_AH} {c : Nat → Int → Int} (hm : LaM h) (hb : mB c) {n now : Int} (n0 : 0 ≤ n) (n1 : n < 8) (h19 : c 31 19 = n) (hnow : c 31 1 = now) (hsz : 0 < sm (fun k => c 33 (328 + k)) 40) (hsz2 : sm (fun k => c 33 (328 + k)) 40 ≤ 40) (hM : MH (bM c n now) n) :
    f_M_begin 31 (wr h c) = some (.inl (some (.int (i2 n))), wr h (lkc (bM c n now) n 40)) := by
  have hs := m_size hm hb (s := 8) (by omega) (by omega)
  rw [show (fun k => c 33 (8 * 41 + k)) = (fun k => c 33 (328 + k)) from rfl] at hs
  have hb0 : mB (up c 31 0 0) := by
    intro j
    rw [u31 c 0 (show (33 : Nat) ≠ 31 by decide), u31 c 0 (show (38 : Nat) ≠ 31 by decide), u31 c 0 (show (40 : Nat) ≠ 31 by decide)]
    exact hb j
  have hcp := m_copy hm hb0 (f := 8) (t := n) (by omega) (by omega) (by omega) n0 (by omega)
  have q31 : ∀ j, j ≠ 0 → cpa (cpe (up c 31 0 0) 8 n 41) 8 n 21 31 j = c 31 j := by
    intro j hj
    unfold cpa cpe
    rw [if_neg (by omega), if_neg (by omega), up_c31 _ (by omega)]
  have q19 : up (cpa (cpe (up c 31 0 0) 8 n 41) 8 n 21) 45 n now 31 19 = n := by rw [up_c31 _ (by omega), q31 19 (by omega), h19]
  have q19a : up c 31 0 0 31 19 = n := by rw [up_c31 _ (by omega), h19]
  have q19b : cpa (cpe (up c 31 0 0) 8 n 41) 8 n 21 31 19 = n := by rw [q31 19 (by omega), h19]
  have q1b : cpa (cpe (up c 31 0 0) 8 n 41) 8 n 21 31 1 = now := by rw [q31 1 (by omega), hnow]
  have h63 := m_beg63 hm n0 n1 q19 hM 41 dr_fu 0 (by omega) (by omega) (by decide)
  rw [filo_0] at h63
  unfold f_M_begin f_M_begin_15 f_M_begin_29
  simp (disch := omega) only [li_0, li_1, li_2, li_3, li_4, li_5, li_6, li_7, li_8, li_9, li_10, li_11, li_12, li_13, li_14, li_15, li_16, li_17, li_18, li_19, li_20, li_21, li_31, li_32, li_33, li_40, li_41, li_43, li_48, li_57, li_59, li_60, li_61, li_62, li_64, li_97, li_99, li_100, li_101, li_102, li_112, li_119, li_126, li_189, li_255, li_300, li_369, li_400, li_999, li_5000, li_9999, li_12345, li_99999, li_1103515245, i2_add, i2_sub, i2_mul, i2_neg, i2_le, i2_lt, i2_eq, r_rz, r_ci, r_cx, r_cv, r_vx, r_cr, r_rx, dr_ci', dr_cv', dr_cr', dr_gr', dr_x0, ↓reduceIte, Int.reduceLE, Int.reduceLT, Int.reduceEq, Int.reduceNeg, Int.reduceAdd, Int.reduceSub, Int.reduceMul, dl_t, dl_f, dle_t, dle_f, deq_t, deq_f, vM_k hm, vM_g0 hm, vM_p0 hm, vM_g1 hm, vM_p1 hm, vM_g2 hm, vM_p2 hm, vM_r3 hm, vM_g4 hm, vM_p4 hm, vM_g5 hm, vM_p5 hm, vM_g6 hm, vM_p6 hm, vM_r7 hm, vM_r8 hm, vM_r9 hm, vM_r10 hm, vM_r11 hm, vM_r12 hm, vM_r13 hm, vM_r14 hm, vM_r15 hm, vM_r16 hm, vM_r17 hm, vM_r18 hm, vM_g19 hm, vM_p19 hm, vM_r20 hm, vM_r21 hm, vM_r22 hm, vM_r23 hm, vM_r24 hm, vM_r25 hm, vM_r26 hm, vM_g27 hm, vM_p27 hm, vM_r28 hm, vM_r29 hm, vM_r30 hm, vM_r31 hm, vM_n32 hm, vM_a32 hm, vM_s32 hm, vM_n33 hm, vM_a33 hm, vM_s33 hm, vM_n34 hm, vM_a34 hm, vM_s34 hm, vM_n35 hm, vM_a35 hm, vM_s35 hm, vM_n36 hm, vM_a36 hm, vM_s36 hm, vM_n37 hm, vM_a37 hm, vM_s37 hm, vM_n38 hm, vM_a38 hm, vM_s38 hm, vM_n39 hm, vM_a39 hm, vM_s39 hm, vM_n40 hm, vM_a40 hm, vM_s40 hm, vM_n41 hm, vM_a41 hm, vM_s41 hm, vM_n42 hm, vM_a42 hm, vM_s42 hm, vM_n43 hm, vM_a43 hm, vM_s43 hm, vM_n44 hm, vM_a44 hm, vM_s44 hm, vM_n45 hm, vM_a45 hm, vM_s45 hm, vM_n46 hm, vM_a46 hm, vM_s46 hm, vM_n47 hm, vM_a47 hm, vM_s47 hm, vM_n48 hm, vM_a48 hm, vM_s48 hm, vM_n49 hm, vM_a49 hm, vM_s49 hm, vM_n50 hm, vM_a50 hm, vM_s50 hm, vM_n51 hm, vM_a51 hm, vM_s51 hm, vM_n52 hm, vM_a52 hm, vM_s52 hm, vM_n53 hm, vM_a53 hm, vM_s53 hm, vM_n54 hm, vM_a54 hm, vM_s54 hm, vM_n55 hm, vM_a55 hm, vM_s55 hm, hs, h19, g_000 hm, g_001 hm, g_010 hm, g_011 hm, g_100 hm, g_101 hm, g_110 hm, g_111 hm, q19a, hcp, q19b, q1b, h63]
  rfl
