/-! ===== the score ===== -/
theorem nat_rem (U K : Nat) : (U : Int) - (U : Int).tdiv (K : Int) * (K : Int) = ((U % K : Nat) : Int) := by
  rw [Int.tdiv_eq_ediv_of_nonneg (Int.natCast_nonneg U)]
  have := Int.emod_def (U : Int) (K : Int)
  rw [Int.mul_comm] at this
  rw [← this]
  exact (Int.natCast_emod U K).symm
theorem nat_div (U K : Nat) : (U : Int).tdiv (K : Int) = ((U / K : Nat) : Int) := by
  rw [Int.tdiv_eq_ediv_of_nonneg (Int.natCast_nonneg U)]
  exact (Int.natCast_ediv U K).symm
theorem nat_rem2 (U K : Nat) : (U : Int) - ((U / K : Nat) : Int) * (K : Int) = ((U % K : Nat) : Int) := by
  rw [← nat_div, nat_rem]
theorem c_low2 {g : dr_AH} {V U L : Nat} (hV : V ≤ 1000) (hU : U ≤ 1000) (hL : L ≤ 1000) (hL0 : 0 < L) : ∀ (f m K : Nat), Nat.gcd U L ≤ K → K ≤ f → f ≤ 1000 → f < m →
    f_R_inLowestTerms_2 m (i2 V) (i2 U) (i2 L) (i2 K) g = some (.inl (some (.int (i2 ((V / Nat.gcd U L : Nat) : Int)))), g) := by
  have hg := Nat.gcd_pos_of_pos_right U hL0
  intro f
  induction f with
  | zero => intro m K h1 h2 h3 h4; omega
  | succ f ih =>
    intro m K h1 h2 h3 h4
    obtain ⟨m, rfl⟩ : ∃ k, m = k + 1 := ⟨m - 1, by omega⟩
    unfold f_R_inLowestTerms_2
    by_cases e1 : (K : Int) ≤ 1
    · have eg : Nat.gcd U L = 1 := by omega
      simp (disch := omega) only [li_0, li_1, li_2, li_3, li_4, li_5, li_6, li_7, li_8, li_9, li_10, li_11, li_12, li_13, li_14, li_15, li_16, li_17, li_18, li_19, li_20, li_21, li_31, li_32, li_33, li_40, li_41, li_43, li_48, li_57, li_59, li_60, li_61, li_62, li_64, li_97, li_99, li_100, li_101, li_102, li_112, li_119, li_126, li_189, li_255, li_300, li_369, li_400, li_999, li_5000, li_9999, li_12345, li_99999, li_1103515245, i2_add, i2_sub, i2_mul, i2_neg, i2_le, i2_lt, i2_eq, r_rz, r_ci, r_cx, r_cv, r_vx, r_cr, r_rx, dr_ci', dr_cv', dr_cr', dr_gr', dr_x0, ↓reduceIte, Int.reduceLE, Int.reduceLT, Int.reduceEq, Int.reduceNeg, Int.reduceAdd, Int.reduceSub, Int.reduceMul, e1, eg, Nat.div_one]
    · have e0 : ¬ ((K : Int) = 0) := by omega
      have hu := Nat.mod_lt U (show 0 < K by omega)
      have hl := Nat.mod_lt L (show 0 < K by omega)
      have h5 : i2 (K : Int) + i2 (-1) = i2 ((K - 1 : Nat) : Int) := by rw [i2_add]; congr 1; omega
      by_cases e2 : ((U % K : Nat) : Int) = 0
      · by_cases e3 : ((L % K : Nat) : Int) = 0
        · have ek : K = Nat.gcd U L := by
            have d1 : K ∣ Nat.gcd U L := Nat.dvd_gcd (Nat.dvd_of_mod_eq_zero (by omega)) (Nat.dvd_of_mod_eq_zero (by omega))
            have := Nat.le_of_dvd hg d1
            omega
          simp (disch := omega) only [li_0, li_1, li_2, li_3, li_4, li_5, li_6, li_7, li_8, li_9, li_10, li_11, li_12, li_13, li_14, li_15, li_16, li_17, li_18, li_19, li_20, li_21, li_31, li_32, li_33, li_40, li_41, li_43, li_48, li_57, li_59, li_60, li_61, li_62, li_64, li_97, li_99, li_100, li_101, li_102, li_112, li_119, li_126, li_189, li_255, li_300, li_369, li_400, li_999, li_5000, li_9999, li_12345, li_99999, li_1103515245, i2_add, i2_sub, i2_mul, i2_neg, i2_le, i2_lt, i2_eq, r_rz, r_ci, r_cx, r_cv, r_vx, r_cr, r_rx, dr_ci', dr_cv', dr_cr', dr_gr', dr_x0, ↓reduceIte, Int.reduceLE, Int.reduceLT, Int.reduceEq, Int.reduceNeg, Int.reduceAdd, Int.reduceSub, Int.reduceMul, e1, e0, i2_div, nat_rem2, e2, e3, nat_div]
          rw [ek]
        · have en : Nat.gcd U L ≠ K := fun e => e3 (by
            have := Nat.mod_eq_zero_of_dvd (Nat.gcd_dvd_right U L)
            rw [e] at this; omega)
          simp (disch := omega) only [li_0, li_1, li_2, li_3, li_4, li_5, li_6, li_7, li_8, li_9, li_10, li_11, li_12, li_13, li_14, li_15, li_16, li_17, li_18, li_19, li_20, li_21, li_31, li_32, li_33, li_40, li_41, li_43, li_48, li_57, li_59, li_60, li_61, li_62, li_64, li_97, li_99, li_100, li_101, li_102, li_112, li_119, li_126, li_189, li_255, li_300, li_369, li_400, li_999, li_5000, li_9999, li_12345, li_99999, li_1103515245, i2_add, i2_sub, i2_mul, i2_neg, i2_le, i2_lt, i2_eq, r_rz, r_ci, r_cx, r_cv, r_vx, r_cr, r_rx, dr_ci', dr_cv', dr_cr', dr_gr', dr_x0, ↓reduceIte, Int.reduceLE, Int.reduceLT, Int.reduceEq, Int.reduceNeg, Int.reduceAdd, Int.reduceSub, Int.reduceMul, e1, e0, i2_div, nat_rem, e2, e3]
          rw [show (K : Int) + -1 = ((K - 1 : Nat) : Int) by omega]
          exact ih m (K - 1) (by omega) (by omega) (by omega) (by omega)
      · have en : Nat.gcd U L ≠ K := fun e => e2 (by
          have := Nat.mod_eq_zero_of_dvd (Nat.gcd_dvd_left U L)
          rw [e] at this; omega)
        simp (disch := omega) only [li_0, li_1, li_2, li_3, li_4, li_5, li_6, li_7, li_8, li_9, li_10, li_11, li_12, li_13, li_14, li_15, li_16, li_17, li_18, li_19, li_20, li_21, li_31, li_32, li_33, li_40, li_41, li_43, li_48, li_57, li_59, li_60, li_61, li_62, li_64, li_97, li_99, li_100, li_101, li_102, li_112, li_119, li_126, li_189, li_255, li_300, li_369, li_400, li_999, li_5000, li_9999, li_12345, li_99999, li_1103515245, i2_add, i2_sub, i2_mul, i2_neg, i2_le, i2_lt, i2_eq, r_rz, r_ci, r_cx, r_cv, r_vx, r_cr, r_rx, dr_ci', dr_cv', dr_cr', dr_gr', dr_x0, ↓reduceIte, Int.reduceLE, Int.reduceLT, Int.reduceEq, Int.reduceNeg, Int.reduceAdd, Int.reduceSub, Int.reduceMul, e1, e0, i2_div, nat_rem, e2]
        rw [show (K : Int) + -1 = ((K - 1 : Nat) : Int) by omega]
        exact ih m (K - 1) (by omega) (by omega) (by omega) (by omega)
theorem c_low {g : dr_AH} {V U L : Nat} (hV : V ≤ 1000) (hU : U ≤ 1000) (hL : L ≤ 1000) (hL0 : 0 < L) : f_R_inLowestTerms (i2 V) (i2 U) (i2 L) g = some (.inl (some (.int (i2 ((V / Nat.gcd U L : Nat) : Int)))), g) := by
  unfold f_R_inLowestTerms
  have hfu : dr_fu = 10000 := rfl
  exact c_low2 hV hU hL hL0 L dr_fu L (Nat.le_of_dvd hL0 (Nat.gcd_dvd_right U L)) (by omega) (by omega) (by omega)
theorem m_euc {g : dr_AH} {M A : Nat} {w : Int} (hM : M ≤ 1000) (hA : A ≤ 1000) (w0 : 0 ≤ w) (w1 : w ≤ 1) : ∀ (f m X Y : Nat), 0 < X → X ≤ 1000 → Y ≤ f → f ≤ 1000 → f < m →
    f_M_score_141 m (i2 w) (i2 M) (i2 A) (i2 X) (i2 Y) g = some (.inl (some (.int (i2 (((if w = 0 then M else A) / Nat.gcd X Y : Nat) : Int)))), g) := by
  intro f
  induction f with
  | zero =>
    intro m X Y h1 h2 h3 h4 h5
    obtain ⟨m, rfl⟩ : ∃ k, m = k + 1 := ⟨m - 1, by omega⟩
    have e1 : (Y : Int) ≤ 0 := by omega
    have eY : Y = 0 := by omega
    have e0 : ¬ ((X : Int) = 0) := by omega
    subst eY
    unfold f_M_score_141
    by_cases e2 : w = 0
    · rw [if_pos e2]
      simp (disch := omega) only [li_0, li_1, li_2, li_3, li_4, li_5, li_6, li_7, li_8, li_9, li_10, li_11, li_12, li_13, li_14, li_15, li_16, li_17, li_18, li_19, li_20, li_21, li_31, li_32, li_33, li_40, li_41, li_43, li_48, li_57, li_59, li_60, li_61, li_62, li_64, li_97, li_99, li_100, li_101, li_102, li_112, li_119, li_126, li_189, li_255, li_300, li_369, li_400, li_999, li_5000, li_9999, li_12345, li_99999, li_1103515245, i2_add, i2_sub, i2_mul, i2_neg, i2_le, i2_lt, i2_eq, r_rz, r_ci, r_cx, r_cv, r_vx, r_cr, r_rx, dr_ci', dr_cv', dr_cr', dr_gr', dr_x0, ↓reduceIte, Int.reduceLE, Int.reduceLT, Int.reduceEq, Int.reduceNeg, Int.reduceAdd, Int.reduceSub, Int.reduceMul, e1, e2, e0, i2_div, nat_div, Nat.gcd_zero_right]
    · rw [if_neg e2]
      simp (disch := omega) only [li_0, li_1, li_2, li_3, li_4, li_5, li_6, li_7, li_8, li_9, li_10, li_11, li_12, li_13, li_14, li_15, li_16, li_17, li_18, li_19, li_20, li_21, li_31, li_32, li_33, li_40, li_41, li_43, li_48, li_57, li_59, li_60, li_61, li_62, li_64, li_97, li_99, li_100, li_101, li_102, li_112, li_119, li_126, li_189, li_255, li_300, li_369, li_400, li_999, li_5000, li_9999, li_12345, li_99999, li_1103515245, i2_add, i2_sub, i2_mul, i2_neg, i2_le, i2_lt, i2_eq, r_rz, r_ci, r_cx, r_cv, r_vx, r_cr, r_rx, dr_ci', dr_cv', dr_cr', dr_gr', dr_x0, ↓reduceIte, Int.reduceLE, Int.reduceLT, Int.reduceEq, Int.reduceNeg, Int.reduceAdd, Int.reduceSub, Int.reduceMul, e1, e2, e0, i2_div, nat_div, Nat.gcd_zero_right]
  | succ f ih =>
    intro m X Y h1 h2 h3 h4 h5
    obtain ⟨m, rfl⟩ : ∃ k, m = k + 1 := ⟨m - 1, by omega⟩
    have e0 : ¬ ((X : Int) = 0) := by omega
    unfold f_M_score_141
    by_cases e1 : (Y : Int) ≤ 0
    · have eY : Y = 0 := by omega
      subst eY
      by_cases e2 : w = 0
      · rw [if_pos e2]
        simp (disch := omega) only [li_0, li_1, li_2, li_3, li_4, li_5, li_6, li_7, li_8, li_9, li_10, li_11, li_12, li_13, li_14, li_15, li_16, li_17, li_18, li_19, li_20, li_21, li_31, li_32, li_33, li_40, li_41, li_43, li_48, li_57, li_59, li_60, li_61, li_62, li_64, li_97, li_99, li_100, li_101, li_102, li_112, li_119, li_126, li_189, li_255, li_300, li_369, li_400, li_999, li_5000, li_9999, li_12345, li_99999, li_1103515245, i2_add, i2_sub, i2_mul, i2_neg, i2_le, i2_lt, i2_eq, r_rz, r_ci, r_cx, r_cv, r_vx, r_cr, r_rx, dr_ci', dr_cv', dr_cr', dr_gr', dr_x0, ↓reduceIte, Int.reduceLE, Int.reduceLT, Int.reduceEq, Int.reduceNeg, Int.reduceAdd, Int.reduceSub, Int.reduceMul, e1, e2, e0, i2_div, nat_div, Nat.gcd_zero_right]
      · rw [if_neg e2]
        simp (disch := omega) only [li_0, li_1, li_2, li_3, li_4, li_5, li_6, li_7, li_8, li_9, li_10, li_11, li_12, li_13, li_14, li_15, li_16, li_17, li_18, li_19, li_20, li_21, li_31, li_32, li_33, li_40, li_41, li_43, li_48, li_57, li_59, li_60, li_61, li_62, li_64, li_97, li_99, li_100, li_101, li_102, li_112, li_119, li_126, li_189, li_255, li_300, li_369, li_400, li_999, li_5000, li_9999, li_12345, li_99999, li_1103515245, i2_add, i2_sub, i2_mul, i2_neg, i2_le, i2_lt, i2_eq, r_rz, r_ci, r_cx, r_cv, r_vx, r_cr, r_rx, dr_ci', dr_cv', dr_cr', dr_gr', dr_x0, ↓reduceIte, Int.reduceLE, Int.reduceLT, Int.reduceEq, Int.reduceNeg, Int.reduceAdd, Int.reduceSub, Int.reduceMul, e1, e2, e0, i2_div, nat_div, Nat.gcd_zero_right]
    · have e3 : ¬ ((Y : Int) = 0) := by omega
      have hlt := Nat.mod_lt X (show 0 < Y by omega)
      simp (disch := omega) only [li_0, li_1, li_2, li_3, li_4, li_5, li_6, li_7, li_8, li_9, li_10, li_11, li_12, li_13, li_14, li_15, li_16, li_17, li_18, li_19, li_20, li_21, li_31, li_32, li_33, li_40, li_41, li_43, li_48, li_57, li_59, li_60, li_61, li_62, li_64, li_97, li_99, li_100, li_101, li_102, li_112, li_119, li_126, li_189, li_255, li_300, li_369, li_400, li_999, li_5000, li_9999, li_12345, li_99999, li_1103515245, i2_add, i2_sub, i2_mul, i2_neg, i2_le, i2_lt, i2_eq, r_rz, r_ci, r_cx, r_cv, r_vx, r_cr, r_rx, dr_ci', dr_cv', dr_cr', dr_gr', dr_x0, ↓reduceIte, Int.reduceLE, Int.reduceLT, Int.reduceEq, Int.reduceNeg, Int.reduceAdd, Int.reduceSub, Int.reduceMul, e1, e3, i2_div, nat_rem]
      rw [ih m Y (X % Y) (by omega) (by omega) (by omega) (by omega) (by omega)]
      rw [show Nat.gcd Y (X % Y) = Nat.gcd X Y by rw [Nat.gcd_comm Y (X % Y), ← Nat.gcd_rec Y X, Nat.gcd_comm]]
theorem sm_sh {F : Int → Int} : ∀ k : Nat, sm (fun n => F (n - 1)) (k + 1) = F 0 + sm F k := by
  intro k
  induction k with
  | zero => unfold sm; unfold sm; simp
  | succ k ih =>
    rw [sm, ih]
    show F 0 + sm F k + F (((k + 1 : Nat) : Int) + 1 - 1) = F 0 + (sm F k + F ((k : Int) + 1))
    rw [show ((k + 1 : Nat) : Int) + 1 - 1 = (k : Int) + 1 by omega]
    omega
theorem c_woa13 {h : dr_AH} {c : Nat → Int → Int} {a : Nat} (hA : sA h a 100 21) : ∀ (f m j : Nat) (x y : Int), x = (j : Int) → y = sm (fun n => c a (n - 1)) j → j ≤ 21 → 21 - j ≤ f → f < m →
    f_S_weightOfAims_13 m (i2 y) a (i2 21) (i2 x) (wr h c) = some (.inl (some (.int (i2 (sm (fun n => c a (n - 1)) 21)))), wr h c) := by
  intro f
  induction f with
  | zero =>
    intro m j x y hx hy h1 h2 h3
    obtain ⟨m, rfl⟩ : ∃ k, m = k + 1 := ⟨m - 1, by omega⟩
    have e : j = 21 := by omega
    have e1 : (21 : Int) ≤ x := by omega
    subst e
    unfold f_S_weightOfAims_13
    simp (disch := omega) only [li_0, li_1, li_2, li_3, li_4, li_5, li_6, li_7, li_8, li_9, li_10, li_11, li_12, li_13, li_14, li_15, li_16, li_17, li_18, li_19, li_20, li_21, li_31, li_32, li_33, li_40, li_41, li_43, li_48, li_57, li_59, li_60, li_61, li_62, li_64, li_97, li_99, li_100, li_101, li_102, li_112, li_119, li_126, li_189, li_255, li_300, li_369, li_400, li_999, li_5000, li_9999, li_12345, li_99999, li_1103515245, i2_add, i2_sub, i2_mul, i2_neg, i2_le, i2_lt, i2_eq, r_rz, r_ci, r_cx, r_cv, r_vx, r_cr, r_rx, dr_ci', dr_cv', dr_cr', dr_gr', dr_x0, ↓reduceIte, Int.reduceLE, Int.reduceLT, Int.reduceEq, Int.reduceNeg, Int.reduceAdd, Int.reduceSub, Int.reduceMul, e1, hy]
  | succ f ih =>
    intro m j x y hx hy h1 h2 h3
    obtain ⟨m, rfl⟩ : ∃ k, m = k + 1 := ⟨m - 1, by omega⟩
    unfold f_S_weightOfAims_13
    by_cases e : j = 21
    · have e1 : (21 : Int) ≤ x := by omega
      subst e
      simp (disch := omega) only [li_0, li_1, li_2, li_3, li_4, li_5, li_6, li_7, li_8, li_9, li_10, li_11, li_12, li_13, li_14, li_15, li_16, li_17, li_18, li_19, li_20, li_21, li_31, li_32, li_33, li_40, li_41, li_43, li_48, li_57, li_59, li_60, li_61, li_62, li_64, li_97, li_99, li_100, li_101, li_102, li_112, li_119, li_126, li_189, li_255, li_300, li_369, li_400, li_999, li_5000, li_9999, li_12345, li_99999, li_1103515245, i2_add, i2_sub, i2_mul, i2_neg, i2_le, i2_lt, i2_eq, r_rz, r_ci, r_cx, r_cv, r_vx, r_cr, r_rx, dr_ci', dr_cv', dr_cr', dr_gr', dr_x0, ↓reduceIte, Int.reduceLE, Int.reduceLT, Int.reduceEq, Int.reduceNeg, Int.reduceAdd, Int.reduceSub, Int.reduceMul, e1, hy]
    · have e1 : ¬ ((21 : Int) ≤ x) := by omega
      have hs : sm (fun n => c a (n - 1)) (j + 1) = sm (fun n => c a (n - 1)) j + c a x := by rw [sm, show (j : Int) + 1 - 1 = x by omega]
      simp (disch := omega) only [li_0, li_1, li_2, li_3, li_4, li_5, li_6, li_7, li_8, li_9, li_10, li_11, li_12, li_13, li_14, li_15, li_16, li_17, li_18, li_19, li_20, li_21, li_31, li_32, li_33, li_40, li_41, li_43, li_48, li_57, li_59, li_60, li_61, li_62, li_64, li_97, li_99, li_100, li_101, li_102, li_112, li_119, li_126, li_189, li_255, li_300, li_369, li_400, li_999, li_5000, li_9999, li_12345, li_99999, li_1103515245, i2_add, i2_sub, i2_mul, i2_neg, i2_le, i2_lt, i2_eq, r_rz, r_ci, r_cx, r_cv, r_vx, r_cr, r_rx, dr_ci', dr_cv', dr_cr', dr_gr', dr_x0, ↓reduceIte, Int.reduceLE, Int.reduceLT, Int.reduceEq, Int.reduceNeg, Int.reduceAdd, Int.reduceSub, Int.reduceMul, e1, r_ai hA (show (21 : Nat) ≤ 100000 by decide)]
      exact ih m (j + 1) (x + 1) (y + c a x) (by omega) (by rw [hs, hy]) (by omega) (by omega) (by omega)
theorem c_woa {h : dr_AH} {c : Nat → Int → Int} {s : Nat} (hS : LaS h s) (h0 : c (s + 11) 0 = 0) : f_S_weightOfAims s (wr h c) = some (.inl (some (.int (i2 (sm (c (s + 11)) 20)))), wr h c) := by
  have hA : sA h (s + 11) 100 21 := by unfold LaS at hS; simp only [hS]
  have := c_woa13 (c := c) hA 21 dr_fu 0 0 0 rfl rfl (by omega) (by omega) (by decide)
  rw [sm_sh (F := c (s + 11)) 20, h0] at this
  unfold f_S_weightOfAims
  simp (disch := omega) only [li_0, li_1, li_2, li_3, li_4, li_5, li_6, li_7, li_8, li_9, li_10, li_11, li_12, li_13, li_14, li_15, li_16, li_17, li_18, li_19, li_20, li_21, li_31, li_32, li_33, li_40, li_41, li_43, li_48, li_57, li_59, li_60, li_61, li_62, li_64, li_97, li_99, li_100, li_101, li_102, li_112, li_119, li_126, li_189, li_255, li_300, li_369, li_400, li_999, li_5000, li_9999, li_12345, li_99999, li_1103515245, i2_add, i2_sub, i2_mul, i2_neg, i2_le, i2_lt, i2_eq, r_rz, r_ci, r_cx, r_cv, r_vx, r_cr, r_rx, dr_ci', dr_cv', dr_cr', dr_gr', dr_x0, ↓reduceIte, Int.reduceLE, Int.reduceLT, Int.reduceEq, Int.reduceNeg, Int.reduceAdd, Int.reduceSub, Int.reduceMul, vS_k hS, vS_r0 hS, vS_r1 hS, vS_r2 hS, vS_r3 hS, vS_r4 hS, vS_r5 hS, vS_r6 hS, vS_g7 hS, vS_p7 hS, vS_r8 hS, vS_r9 hS, vS_r10 hS, vS_r11 hS, vS_g12 hS, vS_p12 hS, vS_n1 hS, vS_a1 hS, vS_s1 hS, vS_n2 hS, vS_a2 hS, vS_s2 hS, vS_n3 hS, vS_a3 hS, vS_s3 hS, vS_n4 hS, vS_a4 hS, vS_s4 hS, vS_n5 hS, vS_a5 hS, vS_s5 hS, vS_n6 hS, vS_a6 hS, vS_s6 hS, vS_n7 hS, vS_a7 hS, vS_s7 hS, vS_n8 hS, vS_a8 hS, vS_s8 hS, vS_n9 hS, vS_a9 hS, vS_s9 hS, vS_n10 hS, vS_a10 hS, vS_s10 hS, vS_n11 hS, vS_a11 hS, vS_s11 hS, this]
  rw [Int.zero_add]
def cM (c : Nat → Int → Int) (d s : Nat) (r n : Int) : Int := if 0 < c (s + 11) n then (if cis c d s r n = 1 then c (s + 11) n else 0) else 0
/-- what the aims of the class's script must keep -/
def CA (c : Nat → Int → Int) (s : Nat) : Prop := ∀ n, 1 ≤ n → n ≤ 20 → (0 ≤ c (s + 11) n ∧ c (s + 11) n ≤ 9) ∧ (0 < c (s + 11) n → sA1 c s n)
theorem cis_r (c : Nat → Int → Int) (d s : Nat) (r n : Int) : 0 ≤ cis c d s r n ∧ cis c d s r n ≤ 2 := by
  unfold cis
  repeat' split
  all_goals omega
theorem mis_r (c : Nat → Int → Int) (d n : Int) : 0 ≤ mis c d n ∧ mis c d n ≤ 2 := by
  unfold mis
  repeat' split
  all_goals omega
theorem c_wom4 {h : dr_AH} {c : Nat → Int → Int} {d s : Nat} (hD : LaD h d s) (hS : LaS h s) (H : CH c d s) (HA : CA c s) {t : Int} (t1 : 0 ≤ t) (t2 : t ≤ 99999) : ∀ (f m j : Nat) (x y : Int), x = (j : Int) + 1 → y = sm (cM c d s (t - c d 1)) j → j ≤ 20 → 20 - j ≤ f → f < m →
    f_D_weightOfMetAims_4 m d (i2 t) (i2 y) (i2 x) (wr h c) = some (.inl (some (.int (i2 (sm (cM c d s (t - c d 1)) 20)))), wr h c) := by
  intro f
  induction f with
  | zero =>
    intro m j x y hx hy h1 h2 h3
    obtain ⟨m, rfl⟩ : ∃ k, m = k + 1 := ⟨m - 1, by omega⟩
    have e : j = 20 := by omega
    have e1 : (20 : Int) < x := by omega
    subst e
    unfold f_D_weightOfMetAims_4
    simp (disch := omega) only [li_0, li_1, li_2, li_3, li_4, li_5, li_6, li_7, li_8, li_9, li_10, li_11, li_12, li_13, li_14, li_15, li_16, li_17, li_18, li_19, li_20, li_21, li_31, li_32, li_33, li_40, li_41, li_43, li_48, li_57, li_59, li_60, li_61, li_62, li_64, li_97, li_99, li_100, li_101, li_102, li_112, li_119, li_126, li_189, li_255, li_300, li_369, li_400, li_999, li_5000, li_9999, li_12345, li_99999, li_1103515245, i2_add, i2_sub, i2_mul, i2_neg, i2_le, i2_lt, i2_eq, r_rz, r_ci, r_cx, r_cv, r_vx, r_cr, r_rx, dr_ci', dr_cv', dr_cr', dr_gr', dr_x0, ↓reduceIte, Int.reduceLE, Int.reduceLT, Int.reduceEq, Int.reduceNeg, Int.reduceAdd, Int.reduceSub, Int.reduceMul, e1, hy]
  | succ f ih =>
    intro m j x y hx hy h1 h2 h3
    obtain ⟨m, rfl⟩ : ∃ k, m = k + 1 := ⟨m - 1, by omega⟩
    unfold f_D_weightOfMetAims_4
    by_cases e : j = 20
    · have e1 : (20 : Int) < x := by omega
      subst e
      simp (disch := omega) only [li_0, li_1, li_2, li_3, li_4, li_5, li_6, li_7, li_8, li_9, li_10, li_11, li_12, li_13, li_14, li_15, li_16, li_17, li_18, li_19, li_20, li_21, li_31, li_32, li_33, li_40, li_41, li_43, li_48, li_57, li_59, li_60, li_61, li_62, li_64, li_97, li_99, li_100, li_101, li_102, li_112, li_119, li_126, li_189, li_255, li_300, li_369, li_400, li_999, li_5000, li_9999, li_12345, li_99999, li_1103515245, i2_add, i2_sub, i2_mul, i2_neg, i2_le, i2_lt, i2_eq, r_rz, r_ci, r_cx, r_cv, r_vx, r_cr, r_rx, dr_ci', dr_cv', dr_cr', dr_gr', dr_x0, ↓reduceIte, Int.reduceLE, Int.reduceLT, Int.reduceEq, Int.reduceNeg, Int.reduceAdd, Int.reduceSub, Int.reduceMul, e1, hy]
    · have e1 : ¬ ((20 : Int) < x) := by omega
      have hs : sm (cM c d s (t - c d 1)) (j + 1) = sm (cM c d s (t - c d 1)) j + cM c d s (t - c d 1) x := by rw [sm, hx]
      have ha := HA x (by omega) (by omega)
      have hE := s_hasAim (c := c) (n := x) hS (by omega) (by omega) (fun _ _ => ha.1)
      by_cases e2 : 0 < c (s + 11) x
      · have eb : bz (1 ≤ x ∧ x ≤ 20 ∧ 0 < c (s + 11) x) = 1 := by unfold bz; rw [if_pos (by omega)]
        rw [eb] at hE
        have hst := c_state hD hS H (n := x) (t := t) (by omega) (by omega) (ha.2 e2) t1 t2
        have hr := cis_r c d s (t - c d 1) x
        by_cases e3 : cis c d s (t - c d 1) x = 1
        · have eM : cM c d s (t - c d 1) x = c (s + 11) x := by unfold cM; rw [if_pos e2, if_pos e3]
          simp (disch := omega) only [li_0, li_1, li_2, li_3, li_4, li_5, li_6, li_7, li_8, li_9, li_10, li_11, li_12, li_13, li_14, li_15, li_16, li_17, li_18, li_19, li_20, li_21, li_31, li_32, li_33, li_40, li_41, li_43, li_48, li_57, li_59, li_60, li_61, li_62, li_64, li_97, li_99, li_100, li_101, li_102, li_112, li_119, li_126, li_189, li_255, li_300, li_369, li_400, li_999, li_5000, li_9999, li_12345, li_99999, li_1103515245, i2_add, i2_sub, i2_mul, i2_neg, i2_le, i2_lt, i2_eq, r_rz, r_ci, r_cx, r_cv, r_vx, r_cr, r_rx, dr_ci', dr_cv', dr_cr', dr_gr', dr_x0, ↓reduceIte, Int.reduceLE, Int.reduceLT, Int.reduceEq, Int.reduceNeg, Int.reduceAdd, Int.reduceSub, Int.reduceMul, vD_k hD, vD_r0 hD, vD_g1 hD, vD_p1 hD, vD_g2 hD, vD_p2 hD, vD_r3 hD, vD_g4 hD, vD_p4 hD, vD_r5 hD, vD_r6 hD, vD_r7 hD, vD_g8 hD, vD_p8 hD, vD_n1 hD, vD_a1 hD, vD_s1 hD, vD_n2 hD, vD_a2 hD, vD_s2 hD, vD_n3 hD, vD_a3 hD, vD_s3 hD, vD_n4 hD, vD_a4 hD, vD_s4 hD, vS_k hS, vS_r0 hS, vS_r1 hS, vS_r2 hS, vS_r3 hS, vS_r4 hS, vS_r5 hS, vS_r6 hS, vS_g7 hS, vS_p7 hS, vS_r8 hS, vS_r9 hS, vS_r10 hS, vS_r11 hS, vS_g12 hS, vS_p12 hS, vS_n1 hS, vS_a1 hS, vS_s1 hS, vS_n2 hS, vS_a2 hS, vS_s2 hS, vS_n3 hS, vS_a3 hS, vS_s3 hS, vS_n4 hS, vS_a4 hS, vS_s4 hS, vS_n5 hS, vS_a5 hS, vS_s5 hS, vS_n6 hS, vS_a6 hS, vS_s6 hS, vS_n7 hS, vS_a7 hS, vS_s7 hS, vS_n8 hS, vS_a8 hS, vS_s8 hS, vS_n9 hS, vS_a9 hS, vS_s9 hS, vS_n10 hS, vS_a10 hS, vS_s10 hS, vS_n11 hS, vS_a11 hS, vS_s11 hS, e1, hE, hst, e3]
          exact ih m (j + 1) (x + 1) (y + c (s + 11) x) (by omega) (by rw [hs, hy, eM]) (by omega) (by omega) (by omega)
        · have eM : cM c d s (t - c d 1) x = 0 := by unfold cM; rw [if_pos e2, if_neg e3]
          simp (disch := omega) only [li_0, li_1, li_2, li_3, li_4, li_5, li_6, li_7, li_8, li_9, li_10, li_11, li_12, li_13, li_14, li_15, li_16, li_17, li_18, li_19, li_20, li_21, li_31, li_32, li_33, li_40, li_41, li_43, li_48, li_57, li_59, li_60, li_61, li_62, li_64, li_97, li_99, li_100, li_101, li_102, li_112, li_119, li_126, li_189, li_255, li_300, li_369, li_400, li_999, li_5000, li_9999, li_12345, li_99999, li_1103515245, i2_add, i2_sub, i2_mul, i2_neg, i2_le, i2_lt, i2_eq, r_rz, r_ci, r_cx, r_cv, r_vx, r_cr, r_rx, dr_ci', dr_cv', dr_cr', dr_gr', dr_x0, ↓reduceIte, Int.reduceLE, Int.reduceLT, Int.reduceEq, Int.reduceNeg, Int.reduceAdd, Int.reduceSub, Int.reduceMul, vD_k hD, vD_r0 hD, vD_g1 hD, vD_p1 hD, vD_g2 hD, vD_p2 hD, vD_r3 hD, vD_g4 hD, vD_p4 hD, vD_r5 hD, vD_r6 hD, vD_r7 hD, vD_g8 hD, vD_p8 hD, vD_n1 hD, vD_a1 hD, vD_s1 hD, vD_n2 hD, vD_a2 hD, vD_s2 hD, vD_n3 hD, vD_a3 hD, vD_s3 hD, vD_n4 hD, vD_a4 hD, vD_s4 hD, vS_k hS, vS_r0 hS, vS_r1 hS, vS_r2 hS, vS_r3 hS, vS_r4 hS, vS_r5 hS, vS_r6 hS, vS_g7 hS, vS_p7 hS, vS_r8 hS, vS_r9 hS, vS_r10 hS, vS_r11 hS, vS_g12 hS, vS_p12 hS, vS_n1 hS, vS_a1 hS, vS_s1 hS, vS_n2 hS, vS_a2 hS, vS_s2 hS, vS_n3 hS, vS_a3 hS, vS_s3 hS, vS_n4 hS, vS_a4 hS, vS_s4 hS, vS_n5 hS, vS_a5 hS, vS_s5 hS, vS_n6 hS, vS_a6 hS, vS_s6 hS, vS_n7 hS, vS_a7 hS, vS_s7 hS, vS_n8 hS, vS_a8 hS, vS_s8 hS, vS_n9 hS, vS_a9 hS, vS_s9 hS, vS_n10 hS, vS_a10 hS, vS_s10 hS, vS_n11 hS, vS_a11 hS, vS_s11 hS, e1, hE, hst, e3]
          exact ih m (j + 1) (x + 1) y (by omega) (by rw [hs, hy, eM]; omega) (by omega) (by omega) (by omega)
      · have eb : bz (1 ≤ x ∧ x ≤ 20 ∧ 0 < c (s + 11) x) = 0 := by unfold bz; rw [if_neg (by omega)]
        rw [eb] at hE
        have eM : cM c d s (t - c d 1) x = 0 := by unfold cM; rw [if_neg e2]
        simp (disch := omega) only [li_0, li_1, li_2, li_3, li_4, li_5, li_6, li_7, li_8, li_9, li_10, li_11, li_12, li_13, li_14, li_15, li_16, li_17, li_18, li_19, li_20, li_21, li_31, li_32, li_33, li_40, li_41, li_43, li_48, li_57, li_59, li_60, li_61, li_62, li_64, li_97, li_99, li_100, li_101, li_102, li_112, li_119, li_126, li_189, li_255, li_300, li_369, li_400, li_999, li_5000, li_9999, li_12345, li_99999, li_1103515245, i2_add, i2_sub, i2_mul, i2_neg, i2_le, i2_lt, i2_eq, r_rz, r_ci, r_cx, r_cv, r_vx, r_cr, r_rx, dr_ci', dr_cv', dr_cr', dr_gr', dr_x0, ↓reduceIte, Int.reduceLE, Int.reduceLT, Int.reduceEq, Int.reduceNeg, Int.reduceAdd, Int.reduceSub, Int.reduceMul, vD_k hD, vD_r0 hD, vD_g1 hD, vD_p1 hD, vD_g2 hD, vD_p2 hD, vD_r3 hD, vD_g4 hD, vD_p4 hD, vD_r5 hD, vD_r6 hD, vD_r7 hD, vD_g8 hD, vD_p8 hD, vD_n1 hD, vD_a1 hD, vD_s1 hD, vD_n2 hD, vD_a2 hD, vD_s2 hD, vD_n3 hD, vD_a3 hD, vD_s3 hD, vD_n4 hD, vD_a4 hD, vD_s4 hD, vS_k hS, vS_r0 hS, vS_r1 hS, vS_r2 hS, vS_r3 hS, vS_r4 hS, vS_r5 hS, vS_r6 hS, vS_g7 hS, vS_p7 hS, vS_r8 hS, vS_r9 hS, vS_r10 hS, vS_r11 hS, vS_g12 hS, vS_p12 hS, vS_n1 hS, vS_a1 hS, vS_s1 hS, vS_n2 hS, vS_a2 hS, vS_s2 hS, vS_n3 hS, vS_a3 hS, vS_s3 hS, vS_n4 hS, vS_a4 hS, vS_s4 hS, vS_n5 hS, vS_a5 hS, vS_s5 hS, vS_n6 hS, vS_a6 hS, vS_s6 hS, vS_n7 hS, vS_a7 hS, vS_s7 hS, vS_n8 hS, vS_a8 hS, vS_s8 hS, vS_n9 hS, vS_a9 hS, vS_s9 hS, vS_n10 hS, vS_a10 hS, vS_s10 hS, vS_n11 hS, vS_a11 hS, vS_s11 hS, e1, hE]
        exact ih m (j + 1) (x + 1) y (by omega) (by rw [hs, hy, eM]; omega) (by omega) (by omega) (by omega)
theorem c_wom {h : dr_AH} {c : Nat → Int → Int} {d s : Nat} (hD : LaD h d s) (hS : LaS h s) (H : CH c d s) (HA : CA c s) {t : Int} (t1 : 0 ≤ t) (t2 : t ≤ 99999) :
    f_D_weightOfMetAims d (i2 t) (wr h c) = some (.inl (some (.int (i2 (sm (cM c d s (t - c d 1)) 20)))), wr h c) :=
  c_wom4 hD hS H HA t1 t2 20 dr_fu 0 1 0 (by omega) rfl (by omega) (by omega) (by decide)
def mW (c : Nat → Int → Int) (d n : Int) : Int := if c 40 (d * 21 + n) = 0 then 0 else c 44 (d * 21 + n)
def mM (c : Nat → Int → Int) (d n : Int) : Int := if c 40 (d * 21 + n) = 0 then 0 else if mis c d n = 1 then c 44 (d * 21 + n) else 0
def MA (c : Nat → Int → Int) (d : Int) : Prop := ∀ n, 1 ≤ n → n ≤ 20 → (0 ≤ c 40 (d * 21 + n) ∧ c 40 (d * 21 + n) < 2) ∧ (c 40 (d * 21 + n) = 1 → mA1 c d n ∧ 1 ≤ c 44 (d * 21 + n) ∧ c 44 (d * 21 + n) ≤ 9)
theorem m_score32 {h : dr_AH} {c : Nat → Int → Int} (hm : LaM h) {d : Int} (H : MH c d) (HA : MA c d) {w : Int} (K : dr_AH → Option (dr_RS × dr_AH)) : ∀ (f m j : Nat) (x y z : Int), x = (j : Int) + 1 → y = sm (mM c d) j → z = sm (mW c d) j → j ≤ 20 → 20 - j ≤ f → f < m →
    f_M_score_32 m 31 (i2 d) (i2 w) (i2 1) (i2 y) (i2 z) (i2 x) (wr h c) = f_M_score_112 31 (i2 w) (i2 1) (i2 (sm (mM c d) 20)) (i2 (sm (mW c d) 20)) (wr h c) := by
  have hd := H.1
  intro f
  induction f with
  | zero =>
    intro m j x y z hx hy hz h1 h2 h3
    obtain ⟨m, rfl⟩ : ∃ k, m = k + 1 := ⟨m - 1, by omega⟩
    have e : j = 20 := by omega
    have e1 : (21 : Int) ≤ x := by omega
    subst e
    unfold f_M_score_32
    simp (disch := omega) only [li_0, li_1, li_2, li_3, li_4, li_5, li_6, li_7, li_8, li_9, li_10, li_11, li_12, li_13, li_14, li_15, li_16, li_17, li_18, li_19, li_20, li_21, li_31, li_32, li_33, li_40, li_41, li_43, li_48, li_57, li_59, li_60, li_61, li_62, li_64, li_97, li_99, li_100, li_101, li_102, li_112, li_119, li_126, li_189, li_255, li_300, li_369, li_400, li_999, li_5000, li_9999, li_12345, li_99999, li_1103515245, i2_add, i2_sub, i2_mul, i2_neg, i2_le, i2_lt, i2_eq, r_rz, r_ci, r_cx, r_cv, r_vx, r_cr, r_rx, dr_ci', dr_cv', dr_cr', dr_gr', dr_x0, ↓reduceIte, Int.reduceLE, Int.reduceLT, Int.reduceEq, Int.reduceNeg, Int.reduceAdd, Int.reduceSub, Int.reduceMul, e1, hy, hz]
  | succ f ih =>
    intro m j x y z hx hy hz h1 h2 h3
    obtain ⟨m, rfl⟩ : ∃ k, m = k + 1 := ⟨m - 1, by omega⟩
    unfold f_M_score_32
    by_cases e : j = 20
    · have e1 : (21 : Int) ≤ x := by omega
      subst e
      simp (disch := omega) only [li_0, li_1, li_2, li_3, li_4, li_5, li_6, li_7, li_8, li_9, li_10, li_11, li_12, li_13, li_14, li_15, li_16, li_17, li_18, li_19, li_20, li_21, li_31, li_32, li_33, li_40, li_41, li_43, li_48, li_57, li_59, li_60, li_61, li_62, li_64, li_97, li_99, li_100, li_101, li_102, li_112, li_119, li_126, li_189, li_255, li_300, li_369, li_400, li_999, li_5000, li_9999, li_12345, li_99999, li_1103515245, i2_add, i2_sub, i2_mul, i2_neg, i2_le, i2_lt, i2_eq, r_rz, r_ci, r_cx, r_cv, r_vx, r_cr, r_rx, dr_ci', dr_cv', dr_cr', dr_gr', dr_x0, ↓reduceIte, Int.reduceLE, Int.reduceLT, Int.reduceEq, Int.reduceNeg, Int.reduceAdd, Int.reduceSub, Int.reduceMul, e1, hy, hz]
    · have e1 : ¬ ((21 : Int) ≤ x) := by omega
      have hs : sm (mM c d) (j + 1) = sm (mM c d) j + mM c d x := by rw [sm, hx]
      have hs' : sm (mW c d) (j + 1) = sm (mW c d) j + mW c d x := by rw [sm, hx]
      have ha := HA x (by omega) (by omega)
      by_cases e2 : c 40 (d * 21 + x) = 0
      · have eM : mM c d x = 0 := by unfold mM; rw [if_pos e2]
        have eW : mW c d x = 0 := by unfold mW; rw [if_pos e2]
        simp (disch := omega) only [li_0, li_1, li_2, li_3, li_4, li_5, li_6, li_7, li_8, li_9, li_10, li_11, li_12, li_13, li_14, li_15, li_16, li_17, li_18, li_19, li_20, li_21, li_31, li_32, li_33, li_40, li_41, li_43, li_48, li_57, li_59, li_60, li_61, li_62, li_64, li_97, li_99, li_100, li_101, li_102, li_112, li_119, li_126, li_189, li_255, li_300, li_369, li_400, li_999, li_5000, li_9999, li_12345, li_99999, li_1103515245, i2_add, i2_sub, i2_mul, i2_neg, i2_le, i2_lt, i2_eq, r_rz, r_ci, r_cx, r_cv, r_vx, r_cr, r_rx, dr_ci', dr_cv', dr_cr', dr_gr', dr_x0, ↓reduceIte, Int.reduceLE, Int.reduceLT, Int.reduceEq, Int.reduceNeg, Int.reduceAdd, Int.reduceSub, Int.reduceMul, vM_k hm, vM_g0 hm, vM_p0 hm, vM_g1 hm, vM_p1 hm, vM_g2 hm, vM_p2 hm, vM_r3 hm, vM_g4 hm, vM_p4 hm, vM_g5 hm, vM_p5 hm, vM_g6 hm, vM_p6 hm, vM_r7 hm, vM_r8 hm, vM_r9 hm, vM_r10 hm, vM_r11 hm, vM_r12 hm, vM_r13 hm, vM_r14 hm, vM_r15 hm, vM_r16 hm, vM_r17 hm, vM_r18 hm, vM_g19 hm, vM_p19 hm, vM_r20 hm, vM_r21 hm, vM_r22 hm, vM_r23 hm, vM_r24 hm, vM_r25 hm, vM_r26 hm, vM_g27 hm, vM_p27 hm, vM_r28 hm, vM_r29 hm, vM_r30 hm, vM_r31 hm, vM_n32 hm, vM_a32 hm, vM_s32 hm, vM_n33 hm, vM_a33 hm, vM_s33 hm, vM_n34 hm, vM_a34 hm, vM_s34 hm, vM_n35 hm, vM_a35 hm, vM_s35 hm, vM_n36 hm, vM_a36 hm, vM_s36 hm, vM_n37 hm, vM_a37 hm, vM_s37 hm, vM_n38 hm, vM_a38 hm, vM_s38 hm, vM_n39 hm, vM_a39 hm, vM_s39 hm, vM_n40 hm, vM_a40 hm, vM_s40 hm, vM_n41 hm, vM_a41 hm, vM_s41 hm, vM_n42 hm, vM_a42 hm, vM_s42 hm, vM_n43 hm, vM_a43 hm, vM_s43 hm, vM_n44 hm, vM_a44 hm, vM_s44 hm, vM_n45 hm, vM_a45 hm, vM_s45 hm, vM_n46 hm, vM_a46 hm, vM_s46 hm, vM_n47 hm, vM_a47 hm, vM_s47 hm, vM_n48 hm, vM_a48 hm, vM_s48 hm, vM_n49 hm, vM_a49 hm, vM_s49 hm, vM_n50 hm, vM_a50 hm, vM_s50 hm, vM_n51 hm, vM_a51 hm, vM_s51 hm, vM_n52 hm, vM_a52 hm, vM_s52 hm, vM_n53 hm, vM_a53 hm, vM_s53 hm, vM_n54 hm, vM_a54 hm, vM_s54 hm, vM_n55 hm, vM_a55 hm, vM_s55 hm, e1, e2]
        exact ih m (j + 1) (x + 1) y z (by omega) (by rw [hs, hy, eM]; omega) (by rw [hs', hz, eW]; omega) (by omega) (by omega) (by omega)
      · have ha' := ha.2 (by omega)
        have eW : mW c d x = c 44 (d * 21 + x) := by unfold mW; rw [if_neg e2]
        have hst := m_is hm H (n := x) (by omega) (by omega) ha'.1
        have hr := mis_r c d x
        by_cases e3 : mis c d x = 1
        · have eM : mM c d x = c 44 (d * 21 + x) := by unfold mM; rw [if_neg e2, if_pos e3]
          simp (disch := omega) only [li_0, li_1, li_2, li_3, li_4, li_5, li_6, li_7, li_8, li_9, li_10, li_11, li_12, li_13, li_14, li_15, li_16, li_17, li_18, li_19, li_20, li_21, li_31, li_32, li_33, li_40, li_41, li_43, li_48, li_57, li_59, li_60, li_61, li_62, li_64, li_97, li_99, li_100, li_101, li_102, li_112, li_119, li_126, li_189, li_255, li_300, li_369, li_400, li_999, li_5000, li_9999, li_12345, li_99999, li_1103515245, i2_add, i2_sub, i2_mul, i2_neg, i2_le, i2_lt, i2_eq, r_rz, r_ci, r_cx, r_cv, r_vx, r_cr, r_rx, dr_ci', dr_cv', dr_cr', dr_gr', dr_x0, ↓reduceIte, Int.reduceLE, Int.reduceLT, Int.reduceEq, Int.reduceNeg, Int.reduceAdd, Int.reduceSub, Int.reduceMul, vM_k hm, vM_g0 hm, vM_p0 hm, vM_g1 hm, vM_p1 hm, vM_g2 hm, vM_p2 hm, vM_r3 hm, vM_g4 hm, vM_p4 hm, vM_g5 hm, vM_p5 hm, vM_g6 hm, vM_p6 hm, vM_r7 hm, vM_r8 hm, vM_r9 hm, vM_r10 hm, vM_r11 hm, vM_r12 hm, vM_r13 hm, vM_r14 hm, vM_r15 hm, vM_r16 hm, vM_r17 hm, vM_r18 hm, vM_g19 hm, vM_p19 hm, vM_r20 hm, vM_r21 hm, vM_r22 hm, vM_r23 hm, vM_r24 hm, vM_r25 hm, vM_r26 hm, vM_g27 hm, vM_p27 hm, vM_r28 hm, vM_r29 hm, vM_r30 hm, vM_r31 hm, vM_n32 hm, vM_a32 hm, vM_s32 hm, vM_n33 hm, vM_a33 hm, vM_s33 hm, vM_n34 hm, vM_a34 hm, vM_s34 hm, vM_n35 hm, vM_a35 hm, vM_s35 hm, vM_n36 hm, vM_a36 hm, vM_s36 hm, vM_n37 hm, vM_a37 hm, vM_s37 hm, vM_n38 hm, vM_a38 hm, vM_s38 hm, vM_n39 hm, vM_a39 hm, vM_s39 hm, vM_n40 hm, vM_a40 hm, vM_s40 hm, vM_n41 hm, vM_a41 hm, vM_s41 hm, vM_n42 hm, vM_a42 hm, vM_s42 hm, vM_n43 hm, vM_a43 hm, vM_s43 hm, vM_n44 hm, vM_a44 hm, vM_s44 hm, vM_n45 hm, vM_a45 hm, vM_s45 hm, vM_n46 hm, vM_a46 hm, vM_s46 hm, vM_n47 hm, vM_a47 hm, vM_s47 hm, vM_n48 hm, vM_a48 hm, vM_s48 hm, vM_n49 hm, vM_a49 hm, vM_s49 hm, vM_n50 hm, vM_a50 hm, vM_s50 hm, vM_n51 hm, vM_a51 hm, vM_s51 hm, vM_n52 hm, vM_a52 hm, vM_s52 hm, vM_n53 hm, vM_a53 hm, vM_s53 hm, vM_n54 hm, vM_a54 hm, vM_s54 hm, vM_n55 hm, vM_a55 hm, vM_s55 hm, e1, e2, hst, e3]
          exact ih m (j + 1) (x + 1) _ _ (by omega) (by rw [hs, hy, eM]) (by rw [hs', hz, eW]) (by omega) (by omega) (by omega)
        · have eM : mM c d x = 0 := by unfold mM; rw [if_neg e2, if_neg e3]
          simp (disch := omega) only [li_0, li_1, li_2, li_3, li_4, li_5, li_6, li_7, li_8, li_9, li_10, li_11, li_12, li_13, li_14, li_15, li_16, li_17, li_18, li_19, li_20, li_21, li_31, li_32, li_33, li_40, li_41, li_43, li_48, li_57, li_59, li_60, li_61, li_62, li_64, li_97, li_99, li_100, li_101, li_102, li_112, li_119, li_126, li_189, li_255, li_300, li_369, li_400, li_999, li_5000, li_9999, li_12345, li_99999, li_1103515245, i2_add, i2_sub, i2_mul, i2_neg, i2_le, i2_lt, i2_eq, r_rz, r_ci, r_cx, r_cv, r_vx, r_cr, r_rx, dr_ci', dr_cv', dr_cr', dr_gr', dr_x0, ↓reduceIte, Int.reduceLE, Int.reduceLT, Int.reduceEq, Int.reduceNeg, Int.reduceAdd, Int.reduceSub, Int.reduceMul, vM_k hm, vM_g0 hm, vM_p0 hm, vM_g1 hm, vM_p1 hm, vM_g2 hm, vM_p2 hm, vM_r3 hm, vM_g4 hm, vM_p4 hm, vM_g5 hm, vM_p5 hm, vM_g6 hm, vM_p6 hm, vM_r7 hm, vM_r8 hm, vM_r9 hm, vM_r10 hm, vM_r11 hm, vM_r12 hm, vM_r13 hm, vM_r14 hm, vM_r15 hm, vM_r16 hm, vM_r17 hm, vM_r18 hm, vM_g19 hm, vM_p19 hm, vM_r20 hm, vM_r21 hm, vM_r22 hm, vM_r23 hm, vM_r24 hm, vM_r25 hm, vM_r26 hm, vM_g27 hm, vM_p27 hm, vM_r28 hm, vM_r29 hm, vM_r30 hm, vM_r31 hm, vM_n32 hm, vM_a32 hm, vM_s32 hm, vM_n33 hm, vM_a33 hm, vM_s33 hm, vM_n34 hm, vM_a34 hm, vM_s34 hm, vM_n35 hm, vM_a35 hm, vM_s35 hm, vM_n36 hm, vM_a36 hm, vM_s36 hm, vM_n37 hm, vM_a37 hm, vM_s37 hm, vM_n38 hm, vM_a38 hm, vM_s38 hm, vM_n39 hm, vM_a39 hm, vM_s39 hm, vM_n40 hm, vM_a40 hm, vM_s40 hm, vM_n41 hm, vM_a41 hm, vM_s41 hm, vM_n42 hm, vM_a42 hm, vM_s42 hm, vM_n43 hm, vM_a43 hm, vM_s43 hm, vM_n44 hm, vM_a44 hm, vM_s44 hm, vM_n45 hm, vM_a45 hm, vM_s45 hm, vM_n46 hm, vM_a46 hm, vM_s46 hm, vM_n47 hm, vM_a47 hm, vM_s47 hm, vM_n48 hm, vM_a48 hm, vM_s48 hm, vM_n49 hm, vM_a49 hm, vM_s49 hm, vM_n50 hm, vM_a50 hm, vM_s50 hm, vM_n51 hm, vM_a51 hm, vM_s51 hm, vM_n52 hm, vM_a52 hm, vM_s52 hm, vM_n53 hm, vM_a53 hm, vM_s53 hm, vM_n54 hm, vM_a54 hm, vM_s54 hm, vM_n55 hm, vM_a55 hm, vM_s55 hm, e1, e2, hst, e3]
          exact ih m (j + 1) (x + 1) _ _ (by omega) (by rw [hs, hy, eM]; omega) (by rw [hs', hz, eW]) (by omega) (by omega) (by omega)
/-! ===== drills compared ===== -/
def cC (c : Nat → Int → Int) (d s d' s' : Nat) (r r' n : Int) : Int := bz (0 < c (s + 11) n ∧ 0 < c (s' + 11) n ∧ cis c d s r n ≠ cis c d' s' r' n)
theorem c_cmp {h : dr_AH} {c : Nat → Int → Int} {d s d' s' u v : Nat} (hR : LaR h u v) (hD : LaD h d s) (hS : LaS h s) (H : CH c d s) (HA : CA c s) (hD' : LaD h d' s') (hS' : LaS h s') (H' : CH c d' s') (HA' : CA c s') (t1 : 0 ≤ c 1 4) (t2 : c 1 4 ≤ 99999) : ∀ (f m j : Nat) (x y : Int), x = (j : Int) + 1 → y = sm (cC c d s d' s' (c 1 4 - c d 1) (c 1 4 - c d' 1)) j → j ≤ 20 → 20 - j ≤ f → f < m →
    f_R_compare_19 m 1 d d' (i2 y) (i2 x) (wr h c) = some (.inl (some (.int (i2 (sm (cC c d s d' s' (c 1 4 - c d 1) (c 1 4 - c d' 1)) 20)))), wr h c) := by
  intro f
  induction f with
  | zero =>
    intro m j x y hx hy h1 h2 h3
    obtain ⟨m, rfl⟩ : ∃ k, m = k + 1 := ⟨m - 1, by omega⟩
    have e : j = 20 := by omega
    have e1 : (20 : Int) < x := by omega
    subst e
    unfold f_R_compare_19
    simp (disch := omega) only [li_0, li_1, li_2, li_3, li_4, li_5, li_6, li_7, li_8, li_9, li_10, li_11, li_12, li_13, li_14, li_15, li_16, li_17, li_18, li_19, li_20, li_21, li_31, li_32, li_33, li_40, li_41, li_43, li_48, li_57, li_59, li_60, li_61, li_62, li_64, li_97, li_99, li_100, li_101, li_102, li_112, li_119, li_126, li_189, li_255, li_300, li_369, li_400, li_999, li_5000, li_9999, li_12345, li_99999, li_1103515245, i2_add, i2_sub, i2_mul, i2_neg, i2_le, i2_lt, i2_eq, r_rz, r_ci, r_cx, r_cv, r_vx, r_cr, r_rx, dr_ci', dr_cv', dr_cr', dr_gr', dr_x0, ↓reduceIte, Int.reduceLE, Int.reduceLT, Int.reduceEq, Int.reduceNeg, Int.reduceAdd, Int.reduceSub, Int.reduceMul, e1, hy]
  | succ f ih =>
    intro m j x y hx hy h1 h2 h3
    obtain ⟨m, rfl⟩ : ∃ k, m = k + 1 := ⟨m - 1, by omega⟩
    unfold f_R_compare_19
    by_cases e : j = 20
    · have e1 : (20 : Int) < x := by omega
      subst e
      simp (disch := omega) only [li_0, li_1, li_2, li_3, li_4, li_5, li_6, li_7, li_8, li_9, li_10, li_11, li_12, li_13, li_14, li_15, li_16, li_17, li_18, li_19, li_20, li_21, li_31, li_32, li_33, li_40, li_41, li_43, li_48, li_57, li_59, li_60, li_61, li_62, li_64, li_97, li_99, li_100, li_101, li_102, li_112, li_119, li_126, li_189, li_255, li_300, li_369, li_400, li_999, li_5000, li_9999, li_12345, li_99999, li_1103515245, i2_add, i2_sub, i2_mul, i2_neg, i2_le, i2_lt, i2_eq, r_rz, r_ci, r_cx, r_cv, r_vx, r_cr, r_rx, dr_ci', dr_cv', dr_cr', dr_gr', dr_x0, ↓reduceIte, Int.reduceLE, Int.reduceLT, Int.reduceEq, Int.reduceNeg, Int.reduceAdd, Int.reduceSub, Int.reduceMul, e1, hy]
    · have e1 : ¬ ((20 : Int) < x) := by omega
      have hs : sm (cC c d s d' s' (c 1 4 - c d 1) (c 1 4 - c d' 1)) (j + 1) = sm (cC c d s d' s' (c 1 4 - c d 1) (c 1 4 - c d' 1)) j + cC c d s d' s' (c 1 4 - c d 1) (c 1 4 - c d' 1) x := by rw [sm, hx]
      have ha := HA x (by omega) (by omega)
      have ha' := HA' x (by omega) (by omega)
      have hE := s_hasAim (c := c) (n := x) hS (by omega) (by omega) (fun _ _ => ha.1)
      have hE' := s_hasAim (c := c) (n := x) hS' (by omega) (by omega) (fun _ _ => ha'.1)
      have no : cC c d s d' s' (c 1 4 - c d 1) (c 1 4 - c d' 1) x = 0 → f_R_compare_19 m 1 d d' (i2 y) (i2 (x + 1)) (wr h c) = some (.inl (some (.int (i2 (sm (cC c d s d' s' (c 1 4 - c d 1) (c 1 4 - c d' 1)) 20)))), wr h c) := fun e0 =>
        ih m (j + 1) (x + 1) y (by omega) (by rw [hs, hy, e0]; omega) (by omega) (by omega) (by omega)
      by_cases e2 : 0 < c (s + 11) x
      · have eb : bz (1 ≤ x ∧ x ≤ 20 ∧ 0 < c (s + 11) x) = 1 := by unfold bz; rw [if_pos (by omega)]
        rw [eb] at hE
        by_cases e2' : 0 < c (s' + 11) x
        · have eb' : bz (1 ≤ x ∧ x ≤ 20 ∧ 0 < c (s' + 11) x) = 1 := by unfold bz; rw [if_pos (by omega)]
          rw [eb'] at hE'
          have hst := c_state hD hS H (n := x) (t := c 1 4) (by omega) (by omega) (ha.2 e2) t1 t2
          have hst' := c_state hD' hS' H' (n := x) (t := c 1 4) (by omega) (by omega) (ha'.2 e2') t1 t2
          have hr := cis_r c d s (c 1 4 - c d 1) x
          have hr' := cis_r c d' s' (c 1 4 - c d' 1) x
          by_cases e3 : cis c d s (c 1 4 - c d 1) x = cis c d' s' (c 1 4 - c d' 1) x
          · simp (disch := omega) only [li_0, li_1, li_2, li_3, li_4, li_5, li_6, li_7, li_8, li_9, li_10, li_11, li_12, li_13, li_14, li_15, li_16, li_17, li_18, li_19, li_20, li_21, li_31, li_32, li_33, li_40, li_41, li_43, li_48, li_57, li_59, li_60, li_61, li_62, li_64, li_97, li_99, li_100, li_101, li_102, li_112, li_119, li_126, li_189, li_255, li_300, li_369, li_400, li_999, li_5000, li_9999, li_12345, li_99999, li_1103515245, i2_add, i2_sub, i2_mul, i2_neg, i2_le, i2_lt, i2_eq, r_rz, r_ci, r_cx, r_cv, r_vx, r_cr, r_rx, dr_ci', dr_cv', dr_cr', dr_gr', dr_x0, ↓reduceIte, Int.reduceLE, Int.reduceLT, Int.reduceEq, Int.reduceNeg, Int.reduceAdd, Int.reduceSub, Int.reduceMul, vR_k hR, vR_r0 hR, vR_r1 hR, vR_r2 hR, vR_g3 hR, vR_p3 hR, vR_g4 hR, vR_p4 hR, vR_r5 hR, vR_g6 hR, vR_p6 hR, vR_r7 hR, vR_r8 hR, vR_g9 hR, vR_p9 hR, vR_n29 hR, vR_a29 hR, vR_s29 hR, vR_n30 hR, vR_a30 hR, vR_s30 hR, vD_k hD, vD_r0 hD, vD_g1 hD, vD_p1 hD, vD_g2 hD, vD_p2 hD, vD_r3 hD, vD_g4 hD, vD_p4 hD, vD_r5 hD, vD_r6 hD, vD_r7 hD, vD_g8 hD, vD_p8 hD, vD_n1 hD, vD_a1 hD, vD_s1 hD, vD_n2 hD, vD_a2 hD, vD_s2 hD, vD_n3 hD, vD_a3 hD, vD_s3 hD, vD_n4 hD, vD_a4 hD, vD_s4 hD, vS_k hS, vS_r0 hS, vS_r1 hS, vS_r2 hS, vS_r3 hS, vS_r4 hS, vS_r5 hS, vS_r6 hS, vS_g7 hS, vS_p7 hS, vS_r8 hS, vS_r9 hS, vS_r10 hS, vS_r11 hS, vS_g12 hS, vS_p12 hS, vS_n1 hS, vS_a1 hS, vS_s1 hS, vS_n2 hS, vS_a2 hS, vS_s2 hS, vS_n3 hS, vS_a3 hS, vS_s3 hS, vS_n4 hS, vS_a4 hS, vS_s4 hS, vS_n5 hS, vS_a5 hS, vS_s5 hS, vS_n6 hS, vS_a6 hS, vS_s6 hS, vS_n7 hS, vS_a7 hS, vS_s7 hS, vS_n8 hS, vS_a8 hS, vS_s8 hS, vS_n9 hS, vS_a9 hS, vS_s9 hS, vS_n10 hS, vS_a10 hS, vS_s10 hS, vS_n11 hS, vS_a11 hS, vS_s11 hS, vD_k hD', vD_r0 hD', vD_g1 hD', vD_p1 hD', vD_g2 hD', vD_p2 hD', vD_r3 hD', vD_g4 hD', vD_p4 hD', vD_r5 hD', vD_r6 hD', vD_r7 hD', vD_g8 hD', vD_p8 hD', vD_n1 hD', vD_a1 hD', vD_s1 hD', vD_n2 hD', vD_a2 hD', vD_s2 hD', vD_n3 hD', vD_a3 hD', vD_s3 hD', vD_n4 hD', vD_a4 hD', vD_s4 hD', vS_k hS', vS_r0 hS', vS_r1 hS', vS_r2 hS', vS_r3 hS', vS_r4 hS', vS_r5 hS', vS_r6 hS', vS_g7 hS', vS_p7 hS', vS_r8 hS', vS_r9 hS', vS_r10 hS', vS_r11 hS', vS_g12 hS', vS_p12 hS', vS_n1 hS', vS_a1 hS', vS_s1 hS', vS_n2 hS', vS_a2 hS', vS_s2 hS', vS_n3 hS', vS_a3 hS', vS_s3 hS', vS_n4 hS', vS_a4 hS', vS_s4 hS', vS_n5 hS', vS_a5 hS', vS_s5 hS', vS_n6 hS', vS_a6 hS', vS_s6 hS', vS_n7 hS', vS_a7 hS', vS_s7 hS', vS_n8 hS', vS_a8 hS', vS_s8 hS', vS_n9 hS', vS_a9 hS', vS_s9 hS', vS_n10 hS', vS_a10 hS', vS_s10 hS', vS_n11 hS', vS_a11 hS', vS_s11 hS', e1, hE, hE', f_R_compare_56, hst, hst', e3]
            exact no (by unfold cC bz; rw [if_neg (fun hh => hh.2.2 e3)])
          · simp (disch := omega) only [li_0, li_1, li_2, li_3, li_4, li_5, li_6, li_7, li_8, li_9, li_10, li_11, li_12, li_13, li_14, li_15, li_16, li_17, li_18, li_19, li_20, li_21, li_31, li_32, li_33, li_40, li_41, li_43, li_48, li_57, li_59, li_60, li_61, li_62, li_64, li_97, li_99, li_100, li_101, li_102, li_112, li_119, li_126, li_189, li_255, li_300, li_369, li_400, li_999, li_5000, li_9999, li_12345, li_99999, li_1103515245, i2_add, i2_sub, i2_mul, i2_neg, i2_le, i2_lt, i2_eq, r_rz, r_ci, r_cx, r_cv, r_vx, r_cr, r_rx, dr_ci', dr_cv', dr_cr', dr_gr', dr_x0, ↓reduceIte, Int.reduceLE, Int.reduceLT, Int.reduceEq, Int.reduceNeg, Int.reduceAdd, Int.reduceSub, Int.reduceMul, vR_k hR, vR_r0 hR, vR_r1 hR, vR_r2 hR, vR_g3 hR, vR_p3 hR, vR_g4 hR, vR_p4 hR, vR_r5 hR, vR_g6 hR, vR_p6 hR, vR_r7 hR, vR_r8 hR, vR_g9 hR, vR_p9 hR, vR_n29 hR, vR_a29 hR, vR_s29 hR, vR_n30 hR, vR_a30 hR, vR_s30 hR, vD_k hD, vD_r0 hD, vD_g1 hD, vD_p1 hD, vD_g2 hD, vD_p2 hD, vD_r3 hD, vD_g4 hD, vD_p4 hD, vD_r5 hD, vD_r6 hD, vD_r7 hD, vD_g8 hD, vD_p8 hD, vD_n1 hD, vD_a1 hD, vD_s1 hD, vD_n2 hD, vD_a2 hD, vD_s2 hD, vD_n3 hD, vD_a3 hD, vD_s3 hD, vD_n4 hD, vD_a4 hD, vD_s4 hD, vS_k hS, vS_r0 hS, vS_r1 hS, vS_r2 hS, vS_r3 hS, vS_r4 hS, vS_r5 hS, vS_r6 hS, vS_g7 hS, vS_p7 hS, vS_r8 hS, vS_r9 hS, vS_r10 hS, vS_r11 hS, vS_g12 hS, vS_p12 hS, vS_n1 hS, vS_a1 hS, vS_s1 hS, vS_n2 hS, vS_a2 hS, vS_s2 hS, vS_n3 hS, vS_a3 hS, vS_s3 hS, vS_n4 hS, vS_a4 hS, vS_s4 hS, vS_n5 hS, vS_a5 hS, vS_s5 hS, vS_n6 hS, vS_a6 hS, vS_s6 hS, vS_n7 hS, vS_a7 hS, vS_s7 hS, vS_n8 hS, vS_a8 hS, vS_s8 hS, vS_n9 hS, vS_a9 hS, vS_s9 hS, vS_n10 hS, vS_a10 hS, vS_s10 hS, vS_n11 hS, vS_a11 hS, vS_s11 hS, vD_k hD', vD_r0 hD', vD_g1 hD', vD_p1 hD', vD_g2 hD', vD_p2 hD', vD_r3 hD', vD_g4 hD', vD_p4 hD', vD_r5 hD', vD_r6 hD', vD_r7 hD', vD_g8 hD', vD_p8 hD', vD_n1 hD', vD_a1 hD', vD_s1 hD', vD_n2 hD', vD_a2 hD', vD_s2 hD', vD_n3 hD', vD_a3 hD', vD_s3 hD', vD_n4 hD', vD_a4 hD', vD_s4 hD', vS_k hS', vS_r0 hS', vS_r1 hS', vS_r2 hS', vS_r3 hS', vS_r4 hS', vS_r5 hS', vS_r6 hS', vS_g7 hS', vS_p7 hS', vS_r8 hS', vS_r9 hS', vS_r10 hS', vS_r11 hS', vS_g12 hS', vS_p12 hS', vS_n1 hS', vS_a1 hS', vS_s1 hS', vS_n2 hS', vS_a2 hS', vS_s2 hS', vS_n3 hS', vS_a3 hS', vS_s3 hS', vS_n4 hS', vS_a4 hS', vS_s4 hS', vS_n5 hS', vS_a5 hS', vS_s5 hS', vS_n6 hS', vS_a6 hS', vS_s6 hS', vS_n7 hS', vS_a7 hS', vS_s7 hS', vS_n8 hS', vS_a8 hS', vS_s8 hS', vS_n9 hS', vS_a9 hS', vS_s9 hS', vS_n10 hS', vS_a10 hS', vS_s10 hS', vS_n11 hS', vS_a11 hS', vS_s11 hS', e1, hE, hE', f_R_compare_56, hst, hst', e3]
            refine ih m (j + 1) (x + 1) (y + 1) (by omega) ?_ (by omega) (by omega) (by omega)
            rw [hs, hy, show cC c d s d' s' (c 1 4 - c d 1) (c 1 4 - c d' 1) x = 1 by unfold cC bz; rw [if_pos ⟨e2, e2', e3⟩]]
        · have eb' : bz (1 ≤ x ∧ x ≤ 20 ∧ 0 < c (s' + 11) x) = 0 := by unfold bz; rw [if_neg (by omega)]
          rw [eb'] at hE'
          simp (disch := omega) only [li_0, li_1, li_2, li_3, li_4, li_5, li_6, li_7, li_8, li_9, li_10, li_11, li_12, li_13, li_14, li_15, li_16, li_17, li_18, li_19, li_20, li_21, li_31, li_32, li_33, li_40, li_41, li_43, li_48, li_57, li_59, li_60, li_61, li_62, li_64, li_97, li_99, li_100, li_101, li_102, li_112, li_119, li_126, li_189, li_255, li_300, li_369, li_400, li_999, li_5000, li_9999, li_12345, li_99999, li_1103515245, i2_add, i2_sub, i2_mul, i2_neg, i2_le, i2_lt, i2_eq, r_rz, r_ci, r_cx, r_cv, r_vx, r_cr, r_rx, dr_ci', dr_cv', dr_cr', dr_gr', dr_x0, ↓reduceIte, Int.reduceLE, Int.reduceLT, Int.reduceEq, Int.reduceNeg, Int.reduceAdd, Int.reduceSub, Int.reduceMul, vR_k hR, vR_r0 hR, vR_r1 hR, vR_r2 hR, vR_g3 hR, vR_p3 hR, vR_g4 hR, vR_p4 hR, vR_r5 hR, vR_g6 hR, vR_p6 hR, vR_r7 hR, vR_r8 hR, vR_g9 hR, vR_p9 hR, vR_n29 hR, vR_a29 hR, vR_s29 hR, vR_n30 hR, vR_a30 hR, vR_s30 hR, vD_k hD, vD_r0 hD, vD_g1 hD, vD_p1 hD, vD_g2 hD, vD_p2 hD, vD_r3 hD, vD_g4 hD, vD_p4 hD, vD_r5 hD, vD_r6 hD, vD_r7 hD, vD_g8 hD, vD_p8 hD, vD_n1 hD, vD_a1 hD, vD_s1 hD, vD_n2 hD, vD_a2 hD, vD_s2 hD, vD_n3 hD, vD_a3 hD, vD_s3 hD, vD_n4 hD, vD_a4 hD, vD_s4 hD, vS_k hS, vS_r0 hS, vS_r1 hS, vS_r2 hS, vS_r3 hS, vS_r4 hS, vS_r5 hS, vS_r6 hS, vS_g7 hS, vS_p7 hS, vS_r8 hS, vS_r9 hS, vS_r10 hS, vS_r11 hS, vS_g12 hS, vS_p12 hS, vS_n1 hS, vS_a1 hS, vS_s1 hS, vS_n2 hS, vS_a2 hS, vS_s2 hS, vS_n3 hS, vS_a3 hS, vS_s3 hS, vS_n4 hS, vS_a4 hS, vS_s4 hS, vS_n5 hS, vS_a5 hS, vS_s5 hS, vS_n6 hS, vS_a6 hS, vS_s6 hS, vS_n7 hS, vS_a7 hS, vS_s7 hS, vS_n8 hS, vS_a8 hS, vS_s8 hS, vS_n9 hS, vS_a9 hS, vS_s9 hS, vS_n10 hS, vS_a10 hS, vS_s10 hS, vS_n11 hS, vS_a11 hS, vS_s11 hS, vD_k hD', vD_r0 hD', vD_g1 hD', vD_p1 hD', vD_g2 hD', vD_p2 hD', vD_r3 hD', vD_g4 hD', vD_p4 hD', vD_r5 hD', vD_r6 hD', vD_r7 hD', vD_g8 hD', vD_p8 hD', vD_n1 hD', vD_a1 hD', vD_s1 hD', vD_n2 hD', vD_a2 hD', vD_s2 hD', vD_n3 hD', vD_a3 hD', vD_s3 hD', vD_n4 hD', vD_a4 hD', vD_s4 hD', vS_k hS', vS_r0 hS', vS_r1 hS', vS_r2 hS', vS_r3 hS', vS_r4 hS', vS_r5 hS', vS_r6 hS', vS_g7 hS', vS_p7 hS', vS_r8 hS', vS_r9 hS', vS_r10 hS', vS_r11 hS', vS_g12 hS', vS_p12 hS', vS_n1 hS', vS_a1 hS', vS_s1 hS', vS_n2 hS', vS_a2 hS', vS_s2 hS', vS_n3 hS', vS_a3 hS', vS_s3 hS', vS_n4 hS', vS_a4 hS', vS_s4 hS', vS_n5 hS', vS_a5 hS', vS_s5 hS', vS_n6 hS', vS_a6 hS', vS_s6 hS', vS_n7 hS', vS_a7 hS', vS_s7 hS', vS_n8 hS', vS_a8 hS', vS_s8 hS', vS_n9 hS', vS_a9 hS', vS_s9 hS', vS_n10 hS', vS_a10 hS', vS_s10 hS', vS_n11 hS', vS_a11 hS', vS_s11 hS', e1, hE, hE', f_R_compare_55, f_R_compare_56]
          exact no (by unfold cC bz; rw [if_neg (fun hh => e2' hh.2.1)])
      · have eb : bz (1 ≤ x ∧ x ≤ 20 ∧ 0 < c (s + 11) x) = 0 := by unfold bz; rw [if_neg (by omega)]
        rw [eb] at hE
        simp (disch := omega) only [li_0, li_1, li_2, li_3, li_4, li_5, li_6, li_7, li_8, li_9, li_10, li_11, li_12, li_13, li_14, li_15, li_16, li_17, li_18, li_19, li_20, li_21, li_31, li_32, li_33, li_40, li_41, li_43, li_48, li_57, li_59, li_60, li_61, li_62, li_64, li_97, li_99, li_100, li_101, li_102, li_112, li_119, li_126, li_189, li_255, li_300, li_369, li_400, li_999, li_5000, li_9999, li_12345, li_99999, li_1103515245, i2_add, i2_sub, i2_mul, i2_neg, i2_le, i2_lt, i2_eq, r_rz, r_ci, r_cx, r_cv, r_vx, r_cr, r_rx, dr_ci', dr_cv', dr_cr', dr_gr', dr_x0, ↓reduceIte, Int.reduceLE, Int.reduceLT, Int.reduceEq, Int.reduceNeg, Int.reduceAdd, Int.reduceSub, Int.reduceMul, vR_k hR, vR_r0 hR, vR_r1 hR, vR_r2 hR, vR_g3 hR, vR_p3 hR, vR_g4 hR, vR_p4 hR, vR_r5 hR, vR_g6 hR, vR_p6 hR, vR_r7 hR, vR_r8 hR, vR_g9 hR, vR_p9 hR, vR_n29 hR, vR_a29 hR, vR_s29 hR, vR_n30 hR, vR_a30 hR, vR_s30 hR, vD_k hD, vD_r0 hD, vD_g1 hD, vD_p1 hD, vD_g2 hD, vD_p2 hD, vD_r3 hD, vD_g4 hD, vD_p4 hD, vD_r5 hD, vD_r6 hD, vD_r7 hD, vD_g8 hD, vD_p8 hD, vD_n1 hD, vD_a1 hD, vD_s1 hD, vD_n2 hD, vD_a2 hD, vD_s2 hD, vD_n3 hD, vD_a3 hD, vD_s3 hD, vD_n4 hD, vD_a4 hD, vD_s4 hD, vS_k hS, vS_r0 hS, vS_r1 hS, vS_r2 hS, vS_r3 hS, vS_r4 hS, vS_r5 hS, vS_r6 hS, vS_g7 hS, vS_p7 hS, vS_r8 hS, vS_r9 hS, vS_r10 hS, vS_r11 hS, vS_g12 hS, vS_p12 hS, vS_n1 hS, vS_a1 hS, vS_s1 hS, vS_n2 hS, vS_a2 hS, vS_s2 hS, vS_n3 hS, vS_a3 hS, vS_s3 hS, vS_n4 hS, vS_a4 hS, vS_s4 hS, vS_n5 hS, vS_a5 hS, vS_s5 hS, vS_n6 hS, vS_a6 hS, vS_s6 hS, vS_n7 hS, vS_a7 hS, vS_s7 hS, vS_n8 hS, vS_a8 hS, vS_s8 hS, vS_n9 hS, vS_a9 hS, vS_s9 hS, vS_n10 hS, vS_a10 hS, vS_s10 hS, vS_n11 hS, vS_a11 hS, vS_s11 hS, e1, hE, f_R_compare_55, f_R_compare_56]
        exact no (by unfold cC bz; rw [if_neg (fun hh => e2 hh.1)])
def mC (c : Nat → Int → Int) (d e n : Int) : Int := bz (c 40 (d * 21 + n) = 1 ∧ c 40 (e * 21 + n) = 1 ∧ mis c d n ≠ mis c e n)
theorem m_cmp {h : dr_AH} {c : Nat → Int → Int} (hm : LaM h) {d e : Int} (H : MH c d) (HA : MA c d) (H' : MH c e) (HA' : MA c e) : ∀ (f m j : Nat) (x y : Int), x = (j : Int) + 1 → y = sm (mC c d e) j → j ≤ 20 → 20 - j ≤ f → f < m →
    f_M_compare_37 m 31 (i2 d) (i2 e) (i2 y) (i2 x) (wr h c) = some (.inl (some (.int (i2 (sm (mC c d e) 20)))), wr h c) := by
  have hd := H.1
  have he := H'.1
  intro f
  induction f with
  | zero =>
    intro m j x y hx hy h1 h2 h3
    obtain ⟨m, rfl⟩ : ∃ k, m = k + 1 := ⟨m - 1, by omega⟩
    have e : j = 20 := by omega
    have e1 : (21 : Int) ≤ x := by omega
    subst e
    unfold f_M_compare_37
    simp (disch := omega) only [li_0, li_1, li_2, li_3, li_4, li_5, li_6, li_7, li_8, li_9, li_10, li_11, li_12, li_13, li_14, li_15, li_16, li_17, li_18, li_19, li_20, li_21, li_31, li_32, li_33, li_40, li_41, li_43, li_48, li_57, li_59, li_60, li_61, li_62, li_64, li_97, li_99, li_100, li_101, li_102, li_112, li_119, li_126, li_189, li_255, li_300, li_369, li_400, li_999, li_5000, li_9999, li_12345, li_99999, li_1103515245, i2_add, i2_sub, i2_mul, i2_neg, i2_le, i2_lt, i2_eq, r_rz, r_ci, r_cx, r_cv, r_vx, r_cr, r_rx, dr_ci', dr_cv', dr_cr', dr_gr', dr_x0, ↓reduceIte, Int.reduceLE, Int.reduceLT, Int.reduceEq, Int.reduceNeg, Int.reduceAdd, Int.reduceSub, Int.reduceMul, e1, hy]
  | succ f ih =>
    intro m j x y hx hy h1 h2 h3
    obtain ⟨m, rfl⟩ : ∃ k, m = k + 1 := ⟨m - 1, by omega⟩
    unfold f_M_compare_37
    by_cases ej : j = 20
    · have e1 : (21 : Int) ≤ x := by omega
      subst ej
      simp (disch := omega) only [li_0, li_1, li_2, li_3, li_4, li_5, li_6, li_7, li_8, li_9, li_10, li_11, li_12, li_13, li_14, li_15, li_16, li_17, li_18, li_19, li_20, li_21, li_31, li_32, li_33, li_40, li_41, li_43, li_48, li_57, li_59, li_60, li_61, li_62, li_64, li_97, li_99, li_100, li_101, li_102, li_112, li_119, li_126, li_189, li_255, li_300, li_369, li_400, li_999, li_5000, li_9999, li_12345, li_99999, li_1103515245, i2_add, i2_sub, i2_mul, i2_neg, i2_le, i2_lt, i2_eq, r_rz, r_ci, r_cx, r_cv, r_vx, r_cr, r_rx, dr_ci', dr_cv', dr_cr', dr_gr', dr_x0, ↓reduceIte, Int.reduceLE, Int.reduceLT, Int.reduceEq, Int.reduceNeg, Int.reduceAdd, Int.reduceSub, Int.reduceMul, e1, hy]
    · have e1 : ¬ ((21 : Int) ≤ x) := by omega
      have hs : sm (mC c d e) (j + 1) = sm (mC c d e) j + mC c d e x := by rw [sm, hx]
      have ha := HA x (by omega) (by omega)
      have ha' := HA' x (by omega) (by omega)
      have no : mC c d e x = 0 → f_M_compare_37 m 31 (i2 d) (i2 e) (i2 y) (i2 (x + 1)) (wr h c) = some (.inl (some (.int (i2 (sm (mC c d e) 20)))), wr h c) := fun e0 =>
        ih m (j + 1) (x + 1) y (by omega) (by rw [hs, hy, e0]; omega) (by omega) (by omega) (by omega)
      by_cases e2 : c 40 (d * 21 + x) = 0
      · simp (disch := omega) only [li_0, li_1, li_2, li_3, li_4, li_5, li_6, li_7, li_8, li_9, li_10, li_11, li_12, li_13, li_14, li_15, li_16, li_17, li_18, li_19, li_20, li_21, li_31, li_32, li_33, li_40, li_41, li_43, li_48, li_57, li_59, li_60, li_61, li_62, li_64, li_97, li_99, li_100, li_101, li_102, li_112, li_119, li_126, li_189, li_255, li_300, li_369, li_400, li_999, li_5000, li_9999, li_12345, li_99999, li_1103515245, i2_add, i2_sub, i2_mul, i2_neg, i2_le, i2_lt, i2_eq, r_rz, r_ci, r_cx, r_cv, r_vx, r_cr, r_rx, dr_ci', dr_cv', dr_cr', dr_gr', dr_x0, ↓reduceIte, Int.reduceLE, Int.reduceLT, Int.reduceEq, Int.reduceNeg, Int.reduceAdd, Int.reduceSub, Int.reduceMul, vM_k hm, vM_g0 hm, vM_p0 hm, vM_g1 hm, vM_p1 hm, vM_g2 hm, vM_p2 hm, vM_r3 hm, vM_g4 hm, vM_p4 hm, vM_g5 hm, vM_p5 hm, vM_g6 hm, vM_p6 hm, vM_r7 hm, vM_r8 hm, vM_r9 hm, vM_r10 hm, vM_r11 hm, vM_r12 hm, vM_r13 hm, vM_r14 hm, vM_r15 hm, vM_r16 hm, vM_r17 hm, vM_r18 hm, vM_g19 hm, vM_p19 hm, vM_r20 hm, vM_r21 hm, vM_r22 hm, vM_r23 hm, vM_r24 hm, vM_r25 hm, vM_r26 hm, vM_g27 hm, vM_p27 hm, vM_r28 hm, vM_r29 hm, vM_r30 hm, vM_r31 hm, vM_n32 hm, vM_a32 hm, vM_s32 hm, vM_n33 hm, vM_a33 hm, vM_s33 hm, vM_n34 hm, vM_a34 hm, vM_s34 hm, vM_n35 hm, vM_a35 hm, vM_s35 hm, vM_n36 hm, vM_a36 hm, vM_s36 hm, vM_n37 hm, vM_a37 hm, vM_s37 hm, vM_n38 hm, vM_a38 hm, vM_s38 hm, vM_n39 hm, vM_a39 hm, vM_s39 hm, vM_n40 hm, vM_a40 hm, vM_s40 hm, vM_n41 hm, vM_a41 hm, vM_s41 hm, vM_n42 hm, vM_a42 hm, vM_s42 hm, vM_n43 hm, vM_a43 hm, vM_s43 hm, vM_n44 hm, vM_a44 hm, vM_s44 hm, vM_n45 hm, vM_a45 hm, vM_s45 hm, vM_n46 hm, vM_a46 hm, vM_s46 hm, vM_n47 hm, vM_a47 hm, vM_s47 hm, vM_n48 hm, vM_a48 hm, vM_s48 hm, vM_n49 hm, vM_a49 hm, vM_s49 hm, vM_n50 hm, vM_a50 hm, vM_s50 hm, vM_n51 hm, vM_a51 hm, vM_s51 hm, vM_n52 hm, vM_a52 hm, vM_s52 hm, vM_n53 hm, vM_a53 hm, vM_s53 hm, vM_n54 hm, vM_a54 hm, vM_s54 hm, vM_n55 hm, vM_a55 hm, vM_s55 hm, e1, e2]
        exact no (by unfold mC bz; rw [if_neg (fun hh => by have := hh.1; omega)])
      · by_cases e2' : c 40 (e * 21 + x) = 0
        · simp (disch := omega) only [li_0, li_1, li_2, li_3, li_4, li_5, li_6, li_7, li_8, li_9, li_10, li_11, li_12, li_13, li_14, li_15, li_16, li_17, li_18, li_19, li_20, li_21, li_31, li_32, li_33, li_40, li_41, li_43, li_48, li_57, li_59, li_60, li_61, li_62, li_64, li_97, li_99, li_100, li_101, li_102, li_112, li_119, li_126, li_189, li_255, li_300, li_369, li_400, li_999, li_5000, li_9999, li_12345, li_99999, li_1103515245, i2_add, i2_sub, i2_mul, i2_neg, i2_le, i2_lt, i2_eq, r_rz, r_ci, r_cx, r_cv, r_vx, r_cr, r_rx, dr_ci', dr_cv', dr_cr', dr_gr', dr_x0, ↓reduceIte, Int.reduceLE, Int.reduceLT, Int.reduceEq, Int.reduceNeg, Int.reduceAdd, Int.reduceSub, Int.reduceMul, vM_k hm, vM_g0 hm, vM_p0 hm, vM_g1 hm, vM_p1 hm, vM_g2 hm, vM_p2 hm, vM_r3 hm, vM_g4 hm, vM_p4 hm, vM_g5 hm, vM_p5 hm, vM_g6 hm, vM_p6 hm, vM_r7 hm, vM_r8 hm, vM_r9 hm, vM_r10 hm, vM_r11 hm, vM_r12 hm, vM_r13 hm, vM_r14 hm, vM_r15 hm, vM_r16 hm, vM_r17 hm, vM_r18 hm, vM_g19 hm, vM_p19 hm, vM_r20 hm, vM_r21 hm, vM_r22 hm, vM_r23 hm, vM_r24 hm, vM_r25 hm, vM_r26 hm, vM_g27 hm, vM_p27 hm, vM_r28 hm, vM_r29 hm, vM_r30 hm, vM_r31 hm, vM_n32 hm, vM_a32 hm, vM_s32 hm, vM_n33 hm, vM_a33 hm, vM_s33 hm, vM_n34 hm, vM_a34 hm, vM_s34 hm, vM_n35 hm, vM_a35 hm, vM_s35 hm, vM_n36 hm, vM_a36 hm, vM_s36 hm, vM_n37 hm, vM_a37 hm, vM_s37 hm, vM_n38 hm, vM_a38 hm, vM_s38 hm, vM_n39 hm, vM_a39 hm, vM_s39 hm, vM_n40 hm, vM_a40 hm, vM_s40 hm, vM_n41 hm, vM_a41 hm, vM_s41 hm, vM_n42 hm, vM_a42 hm, vM_s42 hm, vM_n43 hm, vM_a43 hm, vM_s43 hm, vM_n44 hm, vM_a44 hm, vM_s44 hm, vM_n45 hm, vM_a45 hm, vM_s45 hm, vM_n46 hm, vM_a46 hm, vM_s46 hm, vM_n47 hm, vM_a47 hm, vM_s47 hm, vM_n48 hm, vM_a48 hm, vM_s48 hm, vM_n49 hm, vM_a49 hm, vM_s49 hm, vM_n50 hm, vM_a50 hm, vM_s50 hm, vM_n51 hm, vM_a51 hm, vM_s51 hm, vM_n52 hm, vM_a52 hm, vM_s52 hm, vM_n53 hm, vM_a53 hm, vM_s53 hm, vM_n54 hm, vM_a54 hm, vM_s54 hm, vM_n55 hm, vM_a55 hm, vM_s55 hm, e1, e2, e2']
          exact no (by unfold mC bz; rw [if_neg (fun hh => by have := hh.2.1; omega)])
        · have hst := m_is hm H (n := x) (by omega) (by omega) (ha.2 (by omega)).1
          have hst' := m_is hm H' (n := x) (by omega) (by omega) (ha'.2 (by omega)).1
          have hr := mis_r c d x
          have hr' := mis_r c e x
          by_cases e3 : mis c d x = mis c e x
          · simp (disch := omega) only [li_0, li_1, li_2, li_3, li_4, li_5, li_6, li_7, li_8, li_9, li_10, li_11, li_12, li_13, li_14, li_15, li_16, li_17, li_18, li_19, li_20, li_21, li_31, li_32, li_33, li_40, li_41, li_43, li_48, li_57, li_59, li_60, li_61, li_62, li_64, li_97, li_99, li_100, li_101, li_102, li_112, li_119, li_126, li_189, li_255, li_300, li_369, li_400, li_999, li_5000, li_9999, li_12345, li_99999, li_1103515245, i2_add, i2_sub, i2_mul, i2_neg, i2_le, i2_lt, i2_eq, r_rz, r_ci, r_cx, r_cv, r_vx, r_cr, r_rx, dr_ci', dr_cv', dr_cr', dr_gr', dr_x0, ↓reduceIte, Int.reduceLE, Int.reduceLT, Int.reduceEq, Int.reduceNeg, Int.reduceAdd, Int.reduceSub, Int.reduceMul, vM_k hm, vM_g0 hm, vM_p0 hm, vM_g1 hm, vM_p1 hm, vM_g2 hm, vM_p2 hm, vM_r3 hm, vM_g4 hm, vM_p4 hm, vM_g5 hm, vM_p5 hm, vM_g6 hm, vM_p6 hm, vM_r7 hm, vM_r8 hm, vM_r9 hm, vM_r10 hm, vM_r11 hm, vM_r12 hm, vM_r13 hm, vM_r14 hm, vM_r15 hm, vM_r16 hm, vM_r17 hm, vM_r18 hm, vM_g19 hm, vM_p19 hm, vM_r20 hm, vM_r21 hm, vM_r22 hm, vM_r23 hm, vM_r24 hm, vM_r25 hm, vM_r26 hm, vM_g27 hm, vM_p27 hm, vM_r28 hm, vM_r29 hm, vM_r30 hm, vM_r31 hm, vM_n32 hm, vM_a32 hm, vM_s32 hm, vM_n33 hm, vM_a33 hm, vM_s33 hm, vM_n34 hm, vM_a34 hm, vM_s34 hm, vM_n35 hm, vM_a35 hm, vM_s35 hm, vM_n36 hm, vM_a36 hm, vM_s36 hm, vM_n37 hm, vM_a37 hm, vM_s37 hm, vM_n38 hm, vM_a38 hm, vM_s38 hm, vM_n39 hm, vM_a39 hm, vM_s39 hm, vM_n40 hm, vM_a40 hm, vM_s40 hm, vM_n41 hm, vM_a41 hm, vM_s41 hm, vM_n42 hm, vM_a42 hm, vM_s42 hm, vM_n43 hm, vM_a43 hm, vM_s43 hm, vM_n44 hm, vM_a44 hm, vM_s44 hm, vM_n45 hm, vM_a45 hm, vM_s45 hm, vM_n46 hm, vM_a46 hm, vM_s46 hm, vM_n47 hm, vM_a47 hm, vM_s47 hm, vM_n48 hm, vM_a48 hm, vM_s48 hm, vM_n49 hm, vM_a49 hm, vM_s49 hm, vM_n50 hm, vM_a50 hm, vM_s50 hm, vM_n51 hm, vM_a51 hm, vM_s51 hm, vM_n52 hm, vM_a52 hm, vM_s52 hm, vM_n53 hm, vM_a53 hm, vM_s53 hm, vM_n54 hm, vM_a54 hm, vM_s54 hm, vM_n55 hm, vM_a55 hm, vM_s55 hm, e1, e2, e2', hst, hst', e3]
            exact no (by unfold mC bz; rw [if_neg (fun hh => hh.2.2 e3)])
          · simp (disch := omega) only [li_0, li_1, li_2, li_3, li_4, li_5, li_6, li_7, li_8, li_9, li_10, li_11, li_12, li_13, li_14, li_15, li_16, li_17, li_18, li_19, li_20, li_21, li_31, li_32, li_33, li_40, li_41, li_43, li_48, li_57, li_59, li_60, li_61, li_62, li_64, li_97, li_99, li_100, li_101, li_102, li_112, li_119, li_126, li_189, li_255, li_300, li_369, li_400, li_999, li_5000, li_9999, li_12345, li_99999, li_1103515245, i2_add, i2_sub, i2_mul, i2_neg, i2_le, i2_lt, i2_eq, r_rz, r_ci, r_cx, r_cv, r_vx, r_cr, r_rx, dr_ci', dr_cv', dr_cr', dr_gr', dr_x0, ↓reduceIte, Int.reduceLE, Int.reduceLT, Int.reduceEq, Int.reduceNeg, Int.reduceAdd, Int.reduceSub, Int.reduceMul, vM_k hm, vM_g0 hm, vM_p0 hm, vM_g1 hm, vM_p1 hm, vM_g2 hm, vM_p2 hm, vM_r3 hm, vM_g4 hm, vM_p4 hm, vM_g5 hm, vM_p5 hm, vM_g6 hm, vM_p6 hm, vM_r7 hm, vM_r8 hm, vM_r9 hm, vM_r10 hm, vM_r11 hm, vM_r12 hm, vM_r13 hm, vM_r14 hm, vM_r15 hm, vM_r16 hm, vM_r17 hm, vM_r18 hm, vM_g19 hm, vM_p19 hm, vM_r20 hm, vM_r21 hm, vM_r22 hm, vM_r23 hm, vM_r24 hm, vM_r25 hm, vM_r26 hm, vM_g27 hm, vM_p27 hm, vM_r28 hm, vM_r29 hm, vM_r30 hm, vM_r31 hm, vM_n32 hm, vM_a32 hm, vM_s32 hm, vM_n33 hm, vM_a33 hm, vM_s33 hm, vM_n34 hm, vM_a34 hm, vM_s34 hm, vM_n35 hm, vM_a35 hm, vM_s35 hm, vM_n36 hm, vM_a36 hm, vM_s36 hm, vM_n37 hm, vM_a37 hm, vM_s37 hm, vM_n38 hm, vM_a38 hm, vM_s38 hm, vM_n39 hm, vM_a39 hm, vM_s39 hm, vM_n40 hm, vM_a40 hm, vM_s40 hm, vM_n41 hm, vM_a41 hm, vM_s41 hm, vM_n42 hm, vM_a42 hm, vM_s42 hm, vM_n43 hm, vM_a43 hm, vM_s43 hm, vM_n44 hm, vM_a44 hm, vM_s44 hm, vM_n45 hm, vM_a45 hm, vM_s45 hm, vM_n46 hm, vM_a46 hm, vM_s46 hm, vM_n47 hm, vM_a47 hm, vM_s47 hm, vM_n48 hm, vM_a48 hm, vM_s48 hm, vM_n49 hm, vM_a49 hm, vM_s49 hm, vM_n50 hm, vM_a50 hm, vM_s50 hm, vM_n51 hm, vM_a51 hm, vM_s51 hm, vM_n52 hm, vM_a52 hm, vM_s52 hm, vM_n53 hm, vM_a53 hm, vM_s53 hm, vM_n54 hm, vM_a54 hm, vM_s54 hm, vM_n55 hm, vM_a55 hm, vM_s55 hm, e1, e2, e2', hst, hst', e3]
            refine ih m (j + 1) (x + 1) (y + 1) (by omega) ?_ (by omega) (by omega) (by omega)
            rw [hs, hy, show mC c d e x = 1 by unfold mC bz; rw [if_pos ⟨by omega, by omega, e3⟩]]
