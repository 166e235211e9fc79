/-! ===== the bytes of sign ===== -/
theorem bits255 : ∀ i : Fin 32, (255#32).getLsbD i.val = decide (i.val < 8) := by decide
theorem and255 (x : Int32) : ∃ b : Int, x &&& 255 = i2 b ∧ 0 ≤ b ∧ b ≤ 255 := by
  have h1 : (x &&& 255).toBitVec = x.toBitVec &&& 255#32 := rfl
  have h2 : (x &&& 255).toBitVec.toNat ≤ 255 := by
    rw [h1, BitVec.toNat_and]
    exact Nat.and_le_right
  refine ⟨(x &&& 255).toInt, (i2_to _).symm, ?_⟩
  have h3 : (x &&& 255).toInt = (x &&& 255).toBitVec.toInt := rfl
  rw [h3, BitVec.toInt_eq_toNat_of_lt (by omega)]
  omega
theorem sh_eq (v : BitVec 64) (s : Nat) (hs : s ≤ 56) : (v >>> s).signExtend 32 &&& 255#32 = (v.sshiftRight s).signExtend 32 &&& 255#32 := by
  apply BitVec.eq_of_getLsbD_eq
  intro i hi
  rw [BitVec.getLsbD_and, BitVec.getLsbD_and, bits255 ⟨i, hi⟩]
  by_cases e : i < 8
  · rw [BitVec.getLsbD_signExtend, BitVec.getLsbD_signExtend]
    simp [hi, show i < 64 by omega, BitVec.getElem_sshiftRight, show s + i < 64 by omega]
  · simp [e]
theorem byte_eq (y : Int64) {k : Int} (h0 : 0 ≤ k) (h1 : k < 8) : (Int64.toInt32 (dr_lushr y (i2 (8 * k)))) &&& i2 255 = (Int64.toInt32 (y >>> (Int32.toInt64 (i2 (8 * k)) &&& 63))) &&& i2 255 := by
  have : k = 0 ∨ k = 1 ∨ k = 2 ∨ k = 3 ∨ k = 4 ∨ k = 5 ∨ k = 6 ∨ k = 7 := by omega
  rcases this with e | e | e | e | e | e | e | e <;> subst e
  · exact Int32.toBitVec_inj.mp (sh_eq y.toBitVec 0 (by decide))
  · exact Int32.toBitVec_inj.mp (sh_eq y.toBitVec 8 (by decide))
  · exact Int32.toBitVec_inj.mp (sh_eq y.toBitVec 16 (by decide))
  · exact Int32.toBitVec_inj.mp (sh_eq y.toBitVec 24 (by decide))
  · exact Int32.toBitVec_inj.mp (sh_eq y.toBitVec 32 (by decide))
  · exact Int32.toBitVec_inj.mp (sh_eq y.toBitVec 40 (by decide))
  · exact Int32.toBitVec_inj.mp (sh_eq y.toBitVec 48 (by decide))
  · exact Int32.toBitVec_inj.mp (sh_eq y.toBitVec 56 (by decide))
def byt (y : Int64) (k : Int) : Int := ((Int64.toInt32 (y >>> (Int32.toInt64 (i2 (8 * k)) &&& 63))) &&& i2 255).toInt
theorem byt_r (y : Int64) (k : Int) : 0 ≤ byt y k ∧ byt y k ≤ 255 := by
  obtain ⟨b, e, h1, h2⟩ := and255 (Int64.toInt32 (y >>> (Int32.toInt64 (i2 (8 * k)) &&& 63)))
  unfold byt
  rw [← li_255, e, i2_in (by omega) (by omega)]
  exact ⟨h1, h2⟩
theorem byt_m (y : Int64) (k : Int) : (Int64.toInt32 (y >>> (Int32.toInt64 (i2 (8 * k)) &&& 63))) &&& i2 255 = i2 (byt y k) := (i2_to _).symm
theorem byt_t (y : Int64) {k : Int} (h0 : 0 ≤ k) (h1 : k < 8) : (Int64.toInt32 (dr_lushr y (i2 (8 * k)))) &&& i2 255 = i2 (byt y k) := by
  rw [byte_eq y h0 h1, byt_m]
/-- n bytes of y (the last is byte 0) written behind place p of the array a -/
def wby (c : Nat → Int → Int) (a : Nat) (y : Int64) (p n : Int) (k : Int) : Nat → Int → Int := fun b i => if b = a ∧ p ≤ i ∧ i < p + n - k then byt y (p + n - 1 - i) else c b i
theorem wby_0 (c : Nat → Int → Int) (a : Nat) (y : Int64) (p n : Int) : wby c a y p n n = c := by
  funext b i; unfold wby; rw [if_neg (by omega)]
theorem wby_s (c : Nat → Int → Int) (a : Nat) (y : Int64) (p n : Int) {k : Int} (h : 0 < k) (h2 : k ≤ n) : up (wby c a y p n k) a (p + n - k) (byt y (k - 1)) = wby c a y p n (k - 1) := by
  funext b i
  unfold up wby
  by_cases e : b = a ∧ i = p + n - k
  · rw [if_pos e, if_pos ⟨e.1, by omega, by omega⟩, show p + n - 1 - i = k - 1 by omega]
  · rw [if_neg e]
    by_cases e2 : b = a ∧ p ≤ i ∧ i < p + n - k
    · rw [if_pos e2, if_pos ⟨e2.1, by omega, by omega⟩]
    · rw [if_neg e2, if_neg (fun hh => by
        have := hh.1
        omega)]
theorem wby_a (c : Nat → Int → Int) (a : Nat) (y : Int64) (p n k : Int) {b : Nat} (i : Int) (h : b ≠ a) : wby c a y p n k b i = c b i := by
  unfold wby; rw [if_neg (fun hh => h hh.1)]
theorem t_app5 {h : dr_AH} {c : Nat → Int → Int} (hT : LaT h) {y : Int64} {p n : Int} (n1 : 1 ≤ n) (n2 : n ≤ 8) (p1 : 0 ≤ p) (p2 : p + n ≤ 300) : ∀ (f m : Nat) (k : Int), k = (f : Int) → k ≤ n → f < m →
    f_T_append_5 m 2 y (i2 (k - 1)) (wr h (up (wby c 3 y p n k) 2 1 (p + n - k))) = some (.inl (some (.int (i2 (p + n)))), wr h (up (wby c 3 y p n 0) 2 1 (p + n))) := by
  intro f
  induction f with
  | zero =>
    intro m k hk h1 h2
    obtain ⟨m, rfl⟩ : ∃ k, m = k + 1 := ⟨m - 1, by omega⟩
    have e : k = 0 := by omega
    subst e
    unfold f_T_append_5
    simp (disch := omega) only [li_0, li_1, li_2, li_3, li_4, li_5, li_6, li_7, li_8, li_9, li_10, li_11, li_12, li_13, li_14, li_15, li_16, li_17, li_18, li_19, li_20, li_21, li_31, li_32, li_33, li_40, li_41, li_43, li_48, li_57, li_59, li_60, li_61, li_62, li_64, li_97, li_99, li_100, li_101, li_102, li_112, li_119, li_126, li_189, li_255, li_300, li_369, li_400, li_999, li_5000, li_9999, li_12345, li_99999, li_1103515245, i2_add, i2_sub, i2_mul, i2_neg, i2_le, i2_lt, i2_eq, r_rz, r_ci, r_cx, r_cv, r_vx, r_cr, r_rx, dr_ci', dr_cv', dr_cr', dr_gr', dr_x0, ↓reduceIte, Int.reduceLE, Int.reduceLT, Int.reduceEq, Int.reduceNeg, Int.reduceAdd, Int.reduceSub, Int.reduceMul, vT_k hT, vT_r0 hT, vT_g1 hT, vT_p1 hT, vT_g2 hT, vT_p2 hT, vT_g3 hT, vT_p3 hT, vT_n3 hT, vT_a3 hT, vT_s3 hT, up_same]
    rw [show p + n - 0 = p + n by omega]
  | succ f ih =>
    intro m k hk h1 h2
    obtain ⟨m, rfl⟩ : ∃ k, m = k + 1 := ⟨m - 1, by omega⟩
    have e1 : ¬ (k - 1 < 0) := by omega
    have e2 : ¬ (300 ≤ p + n - k) := by omega
    have hu : up (up (up (wby c 3 y p n k) 2 1 (p + n - k)) 3 (p + n - k) (byt y (k - 1))) 2 1 (p + n - k + 1) = up (wby c 3 y p n (k - 1)) 2 1 (p + n - (k - 1)) := by
      rw [← wby_s c 3 y p n (k := k) (by omega) h1]
      funext b i
      unfold up
      by_cases q1 : b = 2 ∧ i = 1
      · rw [if_pos q1, if_pos q1]; omega
      · rw [if_neg q1, if_neg q1]
        by_cases q2 : b = 3 ∧ i = p + n - k
        · rw [if_pos q2, if_neg q1]
        · rw [if_neg q2, if_neg q1]
    have hl : up (up (wby c 3 y p n k) 2 1 (p + n - k)) 3 (p + n - k) (byt y (k - 1)) 2 1 = p + n - k := by rw [up_a _ _ _ _ (by decide), up_same]
    unfold f_T_append_5
    simp (disch := omega) only [li_0, li_1, li_2, li_3, li_4, li_5, li_6, li_7, li_8, li_9, li_10, li_11, li_12, li_13, li_14, li_15, li_16, li_17, li_18, li_19, li_20, li_21, li_31, li_32, li_33, li_40, li_41, li_43, li_48, li_57, li_59, li_60, li_61, li_62, li_64, li_97, li_99, li_100, li_101, li_102, li_112, li_119, li_126, li_189, li_255, li_300, li_369, li_400, li_999, li_5000, li_9999, li_12345, li_99999, li_1103515245, i2_add, i2_sub, i2_mul, i2_neg, i2_le, i2_lt, i2_eq, r_rz, r_ci, r_cx, r_cv, r_vx, r_cr, r_rx, dr_ci', dr_cv', dr_cr', dr_gr', dr_x0, ↓reduceIte, Int.reduceLE, Int.reduceLT, Int.reduceEq, Int.reduceNeg, Int.reduceAdd, Int.reduceSub, Int.reduceMul, vT_k hT, vT_r0 hT, vT_g1 hT, vT_p1 hT, vT_g2 hT, vT_p2 hT, vT_g3 hT, vT_p3 hT, vT_n3 hT, vT_a3 hT, vT_s3 hT, e1, e2, up_same, byt_t, hl, hu]
    rw [show k - 1 + -1 = (k - 1) - 1 by omega]
    exact ih m (k - 1) (by omega) (by omega) (by omega)
theorem t_append {h : dr_AH} {c : Nat → Int → Int} (hT : LaT h) {y : Int64} {n : Int} (n1 : 1 ≤ n) (n2 : n ≤ 8) (p1 : 0 ≤ c 2 1) (p2 : c 2 1 + n ≤ 300) :
    f_T_append 2 y (i2 n) (wr h c) = some (.inl (some (.int (i2 (c 2 1 + n)))), wr h (up (wby c 3 y (c 2 1) n 0) 2 1 (c 2 1 + n))) := by
  have hfu : dr_fu = 10000 := rfl
  have := t_app5 (c := c) (y := y) (p := c 2 1) hT n1 n2 p1 p2 n.toNat dr_fu n (by omega) (by omega) (by omega)
  rw [wby_0, show c 2 1 + n - n = c 2 1 by omega, show up c 2 1 (c 2 1) = c by funext b i; unfold up; split <;> simp_all] at this
  unfold f_T_append
  rw [li_1, i2_sub, this]
theorem m_sig39 {h : dr_AH} {c : Nat → Int → Int} (hm : LaM h) {y : Int64} {p n : Int} (n1 : 1 ≤ n) (n2 : n ≤ 8) (p1 : 0 ≤ p) (p2 : p + n ≤ 300) : ∀ (f m : Nat) (k : Int), k = (f : Int) → k ≤ n → f < m →
    f_M_sign_39 m 31 y (i2 (k - 1)) (wr h (up (wby c 32 y p n k) 31 2 (p + n - k))) = some (.inl (some (.int (i2 (p + n)))), wr h (up (wby c 32 y p n 0) 31 2 (p + n))) := by
  intro f
  induction f with
  | zero =>
    intro m k hk h1 h2
    obtain ⟨m, rfl⟩ : ∃ k, m = k + 1 := ⟨m - 1, by omega⟩
    have e : k = 0 := by omega
    subst e
    unfold f_M_sign_39
    simp (disch := omega) only [li_0, li_1, li_2, li_3, li_4, li_5, li_6, li_7, li_8, li_9, li_10, li_11, li_12, li_13, li_14, li_15, li_16, li_17, li_18, li_19, li_20, li_21, li_31, li_32, li_33, li_40, li_41, li_43, li_48, li_57, li_59, li_60, li_61, li_62, li_64, li_97, li_99, li_100, li_101, li_102, li_112, li_119, li_126, li_189, li_255, li_300, li_369, li_400, li_999, li_5000, li_9999, li_12345, li_99999, li_1103515245, i2_add, i2_sub, i2_mul, i2_neg, i2_le, i2_lt, i2_eq, r_rz, r_ci, r_cx, r_cv, r_vx, r_cr, r_rx, dr_ci', dr_cv', dr_cr', dr_gr', dr_x0, ↓reduceIte, Int.reduceLE, Int.reduceLT, Int.reduceEq, Int.reduceNeg, Int.reduceAdd, Int.reduceSub, Int.reduceMul, vM_k hm, vM_g0 hm, vM_p0 hm, vM_g1 hm, vM_p1 hm, vM_g2 hm, vM_p2 hm, vM_r3 hm, vM_g4 hm, vM_p4 hm, vM_g5 hm, vM_p5 hm, vM_g6 hm, vM_p6 hm, vM_r7 hm, vM_r8 hm, vM_r9 hm, vM_r10 hm, vM_r11 hm, vM_r12 hm, vM_r13 hm, vM_r14 hm, vM_r15 hm, vM_r16 hm, vM_r17 hm, vM_r18 hm, vM_g19 hm, vM_p19 hm, vM_r20 hm, vM_r21 hm, vM_r22 hm, vM_r23 hm, vM_r24 hm, vM_r25 hm, vM_r26 hm, vM_g27 hm, vM_p27 hm, vM_r28 hm, vM_r29 hm, vM_r30 hm, vM_r31 hm, vM_n32 hm, vM_a32 hm, vM_s32 hm, vM_n33 hm, vM_a33 hm, vM_s33 hm, vM_n34 hm, vM_a34 hm, vM_s34 hm, vM_n35 hm, vM_a35 hm, vM_s35 hm, vM_n36 hm, vM_a36 hm, vM_s36 hm, vM_n37 hm, vM_a37 hm, vM_s37 hm, vM_n38 hm, vM_a38 hm, vM_s38 hm, vM_n39 hm, vM_a39 hm, vM_s39 hm, vM_n40 hm, vM_a40 hm, vM_s40 hm, vM_n41 hm, vM_a41 hm, vM_s41 hm, vM_n42 hm, vM_a42 hm, vM_s42 hm, vM_n43 hm, vM_a43 hm, vM_s43 hm, vM_n44 hm, vM_a44 hm, vM_s44 hm, vM_n45 hm, vM_a45 hm, vM_s45 hm, vM_n46 hm, vM_a46 hm, vM_s46 hm, vM_n47 hm, vM_a47 hm, vM_s47 hm, vM_n48 hm, vM_a48 hm, vM_s48 hm, vM_n49 hm, vM_a49 hm, vM_s49 hm, vM_n50 hm, vM_a50 hm, vM_s50 hm, vM_n51 hm, vM_a51 hm, vM_s51 hm, vM_n52 hm, vM_a52 hm, vM_s52 hm, vM_n53 hm, vM_a53 hm, vM_s53 hm, vM_n54 hm, vM_a54 hm, vM_s54 hm, vM_n55 hm, vM_a55 hm, vM_s55 hm, up_same]
    rw [show p + n - 0 = p + n by omega]
  | succ f ih =>
    intro m k hk h1 h2
    obtain ⟨m, rfl⟩ : ∃ k, m = k + 1 := ⟨m - 1, by omega⟩
    have e1 : ¬ (k - 1 < 0) := by omega
    have hu : up (up (up (wby c 32 y p n k) 31 2 (p + n - k)) 32 (p + n - k) (byt y (k - 1))) 31 2 (p + n - k + 1) = up (wby c 32 y p n (k - 1)) 31 2 (p + n - (k - 1)) := by
      rw [← wby_s c 32 y p n (k := k) (by omega) h1]
      funext b i
      unfold up
      by_cases q1 : b = 31 ∧ i = 2
      · rw [if_pos q1, if_pos q1]; omega
      · rw [if_neg q1, if_neg q1]
        by_cases q2 : b = 32 ∧ i = p + n - k
        · rw [if_pos q2, if_neg q1]
        · rw [if_neg q2, if_neg q1]
    have hl : up (up (wby c 32 y p n k) 31 2 (p + n - k)) 32 (p + n - k) (byt y (k - 1)) 31 2 = p + n - k := by rw [up_a _ _ _ _ (by decide), up_same]
    unfold f_M_sign_39
    simp (disch := omega) only [li_0, li_1, li_2, li_3, li_4, li_5, li_6, li_7, li_8, li_9, li_10, li_11, li_12, li_13, li_14, li_15, li_16, li_17, li_18, li_19, li_20, li_21, li_31, li_32, li_33, li_40, li_41, li_43, li_48, li_57, li_59, li_60, li_61, li_62, li_64, li_97, li_99, li_100, li_101, li_102, li_112, li_119, li_126, li_189, li_255, li_300, li_369, li_400, li_999, li_5000, li_9999, li_12345, li_99999, li_1103515245, i2_add, i2_sub, i2_mul, i2_neg, i2_le, i2_lt, i2_eq, r_rz, r_ci, r_cx, r_cv, r_vx, r_cr, r_rx, dr_ci', dr_cv', dr_cr', dr_gr', dr_x0, ↓reduceIte, Int.reduceLE, Int.reduceLT, Int.reduceEq, Int.reduceNeg, Int.reduceAdd, Int.reduceSub, Int.reduceMul, vM_k hm, vM_g0 hm, vM_p0 hm, vM_g1 hm, vM_p1 hm, vM_g2 hm, vM_p2 hm, vM_r3 hm, vM_g4 hm, vM_p4 hm, vM_g5 hm, vM_p5 hm, vM_g6 hm, vM_p6 hm, vM_r7 hm, vM_r8 hm, vM_r9 hm, vM_r10 hm, vM_r11 hm, vM_r12 hm, vM_r13 hm, vM_r14 hm, vM_r15 hm, vM_r16 hm, vM_r17 hm, vM_r18 hm, vM_g19 hm, vM_p19 hm, vM_r20 hm, vM_r21 hm, vM_r22 hm, vM_r23 hm, vM_r24 hm, vM_r25 hm, vM_r26 hm, vM_g27 hm, vM_p27 hm, vM_r28 hm, vM_r29 hm, vM_r30 hm, vM_r31 hm, vM_n32 hm, vM_a32 hm, vM_s32 hm, vM_n33 hm, vM_a33 hm, vM_s33 hm, vM_n34 hm, vM_a34 hm, vM_s34 hm, vM_n35 hm, vM_a35 hm, vM_s35 hm, vM_n36 hm, vM_a36 hm, vM_s36 hm, vM_n37 hm, vM_a37 hm, vM_s37 hm, vM_n38 hm, vM_a38 hm, vM_s38 hm, vM_n39 hm, vM_a39 hm, vM_s39 hm, vM_n40 hm, vM_a40 hm, vM_s40 hm, vM_n41 hm, vM_a41 hm, vM_s41 hm, vM_n42 hm, vM_a42 hm, vM_s42 hm, vM_n43 hm, vM_a43 hm, vM_s43 hm, vM_n44 hm, vM_a44 hm, vM_s44 hm, vM_n45 hm, vM_a45 hm, vM_s45 hm, vM_n46 hm, vM_a46 hm, vM_s46 hm, vM_n47 hm, vM_a47 hm, vM_s47 hm, vM_n48 hm, vM_a48 hm, vM_s48 hm, vM_n49 hm, vM_a49 hm, vM_s49 hm, vM_n50 hm, vM_a50 hm, vM_s50 hm, vM_n51 hm, vM_a51 hm, vM_s51 hm, vM_n52 hm, vM_a52 hm, vM_s52 hm, vM_n53 hm, vM_a53 hm, vM_s53 hm, vM_n54 hm, vM_a54 hm, vM_s54 hm, vM_n55 hm, vM_a55 hm, vM_s55 hm, e1, up_same, byt_m, hl, hu]
    rw [show k - 1 + -1 = (k - 1) - 1 by omega]
    exact ih m (k - 1) (by omega) (by omega) (by omega)
theorem m_sig {h : dr_AH} {c : Nat → Int → Int} (hm : LaM h) {y : Int64} {n : Int} (n1 : 1 ≤ n) (n2 : n ≤ 8) (p1 : 0 ≤ c 31 2) (p2 : c 31 2 + n ≤ 300) :
    f_M_sign_39 dr_fu 31 y (i2 (n - 1)) (wr h c) = some (.inl (some (.int (i2 (c 31 2 + n)))), wr h (up (wby c 32 y (c 31 2) n 0) 31 2 (c 31 2 + n))) := by
  have hfu : dr_fu = 10000 := rfl
  have := m_sig39 (c := c) (y := y) (p := c 31 2) hm n1 n2 p1 p2 n.toNat dr_fu n (by omega) (by omega) (by omega)
  rw [wby_0, show c 31 2 + n - n = c 31 2 by omega, show up c 31 2 (c 31 2) = c by funext b i; unfold up; split <;> simp_all] at this
  exact this
