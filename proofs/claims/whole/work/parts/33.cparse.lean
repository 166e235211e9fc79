/-! ===== the class's tape ===== -/
def tP (c : Nat → Int → Int) (p w : Int) : Nat → Int → Int := fun b i => if b = 2 then (if i = 2 then p else if i = 3 then w else c b i) else c b i
theorem tP_2 (c : Nat → Int → Int) (p w : Int) : tP c p w 2 2 = p := rfl
theorem tP_3 (c : Nat → Int → Int) (p w : Int) : tP c p w 2 3 = w := rfl
theorem tP_1 (c : Nat → Int → Int) (p w : Int) : tP c p w 2 1 = c 2 1 := rfl
theorem tP_a (c : Nat → Int → Int) (p w : Int) {a : Nat} (j : Int) (e : a ≠ 2) : tP c p w a j = c a j := by simp [tP, e]
theorem tP_33 (c : Nat → Int → Int) (p w : Int) (j : Int) : tP c p w 3 j = c 3 j := rfl
theorem tP_u2 (c : Nat → Int → Int) (p w q : Int) : up (tP c p w) 2 2 q = tP c q w := by
  funext b i; unfold up tP; by_cases e : b = 2 <;> by_cases e2 : i = 2 <;> simp [e, e2]
theorem tP_u3 (c : Nat → Int → Int) (p w q : Int) : up (tP c p w) 2 3 q = tP c p q := by
  funext b i; unfold up tP; by_cases e : b = 2 <;> by_cases e2 : i = 2 <;> by_cases e3 : i = 3 <;> simp [e, e2, e3] <;> omega
theorem tP_self (c : Nat → Int → Int) : tP c (c 2 2) (c 2 3) = c := by
  funext b i; unfold tP; by_cases e : b = 2 <;> by_cases e2 : i = 2 <;> by_cases e3 : i = 3 <;> simp [e, e2, e3]
theorem tP_u (c : Nat → Int → Int) (p w : Int) {a : Nat} (j x : Int) (e : a ≠ 2) : up (tP c p w) a j x = tP (up c a j x) p w := by
  funext b i; unfold up tP
  by_cases e1 : b = 2
  · subst e1; simp [Ne.symm e]
  · simp [e1]
def tTL (c : Nat → Int → Int) (t : Int → Int) (l : Int) : Prop := c 2 1 = l ∧ (∀ j, 0 ≤ j → j < l → c 3 j = t j) ∧ 0 ≤ l ∧ l ≤ 300 ∧ ∀ j, 0 ≤ j → j < l → 0 ≤ t j ∧ t j ≤ 255
theorem t_next {h : dr_AH} {c : Nat → Int → Int} (hT : LaT h) {t : Int → Int} {l : Int} (tl : tTL c t l) {p w : Int} (h1 : 0 ≤ p) (h2 : p ≤ 300) : f_T_nextByte 2 (wr h (tP c p w)) = some (.inl (some (.int (i2 (nb t l p)))), wr h (tP c p w)) := by
  obtain ⟨t1, t2, t3, t4, t5⟩ := tl
  unfold f_T_nextByte nb
  have e0 : ¬ (p < 0) := by omega
  by_cases e : p < l
  · rw [if_pos e]
    have e1 : ¬ (l ≤ p) := by omega
    have e2 : ¬ (300 ≤ p) := by omega
    simp (disch := omega) only [li_0, li_1, li_2, li_3, li_4, li_5, li_6, li_7, li_8, li_9, li_10, li_11, li_12, li_13, li_14, li_15, li_16, li_17, li_18, li_19, li_20, li_21, li_31, li_32, li_33, li_40, li_41, li_43, li_48, li_57, li_59, li_60, li_61, li_62, li_64, li_97, li_99, li_100, li_101, li_102, li_112, li_119, li_126, li_189, li_255, li_300, li_369, li_400, li_999, li_5000, li_9999, li_12345, li_99999, li_1103515245, i2_add, i2_sub, i2_mul, i2_neg, i2_le, i2_lt, i2_eq, r_rz, r_ci, r_cx, r_cv, r_vx, r_cr, r_rx, dr_ci', dr_cv', dr_cr', dr_gr', dr_x0, ↓reduceIte, Int.reduceLE, Int.reduceLT, Int.reduceEq, Int.reduceNeg, Int.reduceAdd, Int.reduceSub, Int.reduceMul, vT_k hT, vT_r0 hT, vT_g1 hT, vT_p1 hT, vT_g2 hT, vT_p2 hT, vT_g3 hT, vT_p3 hT, vT_n3 hT, vT_a3 hT, vT_s3 hT, tP_2, tP_1, tP_33, e0, e1, e2, t1, t2]
  · rw [if_neg e]
    have e1 : l ≤ p := by omega
    simp (disch := omega) only [li_0, li_1, li_2, li_3, li_4, li_5, li_6, li_7, li_8, li_9, li_10, li_11, li_12, li_13, li_14, li_15, li_16, li_17, li_18, li_19, li_20, li_21, li_31, li_32, li_33, li_40, li_41, li_43, li_48, li_57, li_59, li_60, li_61, li_62, li_64, li_97, li_99, li_100, li_101, li_102, li_112, li_119, li_126, li_189, li_255, li_300, li_369, li_400, li_999, li_5000, li_9999, li_12345, li_99999, li_1103515245, i2_add, i2_sub, i2_mul, i2_neg, i2_le, i2_lt, i2_eq, r_rz, r_ci, r_cx, r_cv, r_vx, r_cr, r_rx, dr_ci', dr_cv', dr_cr', dr_gr', dr_x0, ↓reduceIte, Int.reduceLE, Int.reduceLT, Int.reduceEq, Int.reduceNeg, Int.reduceAdd, Int.reduceSub, Int.reduceMul, vT_k hT, vT_r0 hT, vT_g1 hT, vT_p1 hT, vT_g2 hT, vT_p2 hT, vT_g3 hT, vT_p3 hT, vT_n3 hT, vT_a3 hT, vT_s3 hT, tP_2, tP_1, tP_33, e0, e1, t1, t2]
theorem t_skip_0 {h : dr_AH} {c : Nat → Int → Int} (hT : LaT h) {t : Int → Int} {l : Int} (tl : tTL c t l) {w : Int} : ∀ (f n : Nat) (p : Int), 0 ≤ p → p ≤ l → l - p ≤ f → f < n →
    f_T_skipBlanks_0 n 2 (wr h (tP c p w)) = some (.inl none, wr h (tP c (sk t l f p) w)) := by
  have t1 := tl.1
  have t3 := tl.2.2.1
  have t4 := tl.2.2.2.1
  intro f
  induction f with
  | zero =>
    intro n p h1 h2 h3 h4
    obtain ⟨m, rfl⟩ : ∃ m, n = m + 1 := ⟨n - 1, by omega⟩
    have e : l ≤ p := by omega
    unfold f_T_skipBlanks_0 sk
    simp (disch := omega) only [li_0, li_1, li_2, li_3, li_4, li_5, li_6, li_7, li_8, li_9, li_10, li_11, li_12, li_13, li_14, li_15, li_16, li_17, li_18, li_19, li_20, li_21, li_31, li_32, li_33, li_40, li_41, li_43, li_48, li_57, li_59, li_60, li_61, li_62, li_64, li_97, li_99, li_100, li_101, li_102, li_112, li_119, li_126, li_189, li_255, li_300, li_369, li_400, li_999, li_5000, li_9999, li_12345, li_99999, li_1103515245, i2_add, i2_sub, i2_mul, i2_neg, i2_le, i2_lt, i2_eq, r_rz, r_ci, r_cx, r_cv, r_vx, r_cr, r_rx, dr_ci', dr_cv', dr_cr', dr_gr', dr_x0, ↓reduceIte, Int.reduceLE, Int.reduceLT, Int.reduceEq, Int.reduceNeg, Int.reduceAdd, Int.reduceSub, Int.reduceMul, vT_k hT, vT_r0 hT, vT_g1 hT, vT_p1 hT, vT_g2 hT, vT_p2 hT, vT_g3 hT, vT_p3 hT, vT_n3 hT, vT_a3 hT, vT_s3 hT, tP_2, tP_1, t1, e]
  | succ f ih =>
    intro n p h1 h2 h3 h4
    obtain ⟨m, rfl⟩ : ∃ m, n = m + 1 := ⟨n - 1, by omega⟩
    unfold f_T_skipBlanks_0 sk
    by_cases e : p < l
    · have hb' := tl.2.2.2.2 p h1 e
      have en : nb t l p = t p := by unfold nb; rw [if_pos e]
      have e1 : ¬ (l ≤ p) := by omega
      by_cases e2 : t p = 32
      · rw [en, if_pos e2]
        simp (disch := omega) only [li_0, li_1, li_2, li_3, li_4, li_5, li_6, li_7, li_8, li_9, li_10, li_11, li_12, li_13, li_14, li_15, li_16, li_17, li_18, li_19, li_20, li_21, li_31, li_32, li_33, li_40, li_41, li_43, li_48, li_57, li_59, li_60, li_61, li_62, li_64, li_97, li_99, li_100, li_101, li_102, li_112, li_119, li_126, li_189, li_255, li_300, li_369, li_400, li_999, li_5000, li_9999, li_12345, li_99999, li_1103515245, i2_add, i2_sub, i2_mul, i2_neg, i2_le, i2_lt, i2_eq, r_rz, r_ci, r_cx, r_cv, r_vx, r_cr, r_rx, dr_ci', dr_cv', dr_cr', dr_gr', dr_x0, ↓reduceIte, Int.reduceLE, Int.reduceLT, Int.reduceEq, Int.reduceNeg, Int.reduceAdd, Int.reduceSub, Int.reduceMul, vT_k hT, vT_r0 hT, vT_g1 hT, vT_p1 hT, vT_g2 hT, vT_p2 hT, vT_g3 hT, vT_p3 hT, vT_n3 hT, vT_a3 hT, vT_s3 hT, t_next hT tl, en, e1, e2, tP_1, tP_2, tP_u2, t1, ih]
      · rw [en, if_neg e2]
        simp (disch := omega) only [li_0, li_1, li_2, li_3, li_4, li_5, li_6, li_7, li_8, li_9, li_10, li_11, li_12, li_13, li_14, li_15, li_16, li_17, li_18, li_19, li_20, li_21, li_31, li_32, li_33, li_40, li_41, li_43, li_48, li_57, li_59, li_60, li_61, li_62, li_64, li_97, li_99, li_100, li_101, li_102, li_112, li_119, li_126, li_189, li_255, li_300, li_369, li_400, li_999, li_5000, li_9999, li_12345, li_99999, li_1103515245, i2_add, i2_sub, i2_mul, i2_neg, i2_le, i2_lt, i2_eq, r_rz, r_ci, r_cx, r_cv, r_vx, r_cr, r_rx, dr_ci', dr_cv', dr_cr', dr_gr', dr_x0, ↓reduceIte, Int.reduceLE, Int.reduceLT, Int.reduceEq, Int.reduceNeg, Int.reduceAdd, Int.reduceSub, Int.reduceMul, vT_k hT, vT_r0 hT, vT_g1 hT, vT_p1 hT, vT_g2 hT, vT_p2 hT, vT_g3 hT, vT_p3 hT, vT_n3 hT, vT_a3 hT, vT_s3 hT, t_next hT tl, en, e1, e2, tP_1, tP_2, tP_u2, t1]
    · have en : nb t l p = -1 := by unfold nb; rw [if_neg e]
      have e1 : l ≤ p := by omega
      rw [en]
      simp (disch := omega) only [li_0, li_1, li_2, li_3, li_4, li_5, li_6, li_7, li_8, li_9, li_10, li_11, li_12, li_13, li_14, li_15, li_16, li_17, li_18, li_19, li_20, li_21, li_31, li_32, li_33, li_40, li_41, li_43, li_48, li_57, li_59, li_60, li_61, li_62, li_64, li_97, li_99, li_100, li_101, li_102, li_112, li_119, li_126, li_189, li_255, li_300, li_369, li_400, li_999, li_5000, li_9999, li_12345, li_99999, li_1103515245, i2_add, i2_sub, i2_mul, i2_neg, i2_le, i2_lt, i2_eq, r_rz, r_ci, r_cx, r_cv, r_vx, r_cr, r_rx, dr_ci', dr_cv', dr_cr', dr_gr', dr_x0, ↓reduceIte, Int.reduceLE, Int.reduceLT, Int.reduceEq, Int.reduceNeg, Int.reduceAdd, Int.reduceSub, Int.reduceMul, vT_k hT, vT_r0 hT, vT_g1 hT, vT_p1 hT, vT_g2 hT, vT_p2 hT, vT_g3 hT, vT_p3 hT, vT_n3 hT, vT_a3 hT, vT_s3 hT, tP_1, tP_2, t1, e1]
theorem t_skip {h : dr_AH} {c : Nat → Int → Int} (hT : LaT h) {t : Int → Int} {l : Int} (tl : tTL c t l) {w p : Int} (h1 : 0 ≤ p) (h2 : p ≤ l) :
    f_T_skipBlanks 2 (wr h (tP c p w)) = some (.inl none, wr h (tP c (sk t l 300 p) w)) :=
  t_skip_0 hT tl 300 dr_fu p h1 h2 (by have := tl.2.2.2.1; omega) (by decide)
theorem t_fail {h : dr_AH} {c : Nat → Int → Int} (hT : LaT h) {p w e : Int} (h1 : -1 ≤ w) (h2 : w ≤ 300) : f_T_fail 2 (i2 e) (wr h (tP c p w)) = some (.inl none, wr h (tP c p (fl w e))) := by
  unfold f_T_fail fl
  by_cases e1 : w < 0
  · rw [if_pos e1]
    have e2 : w = -1 := by omega
    simp (disch := omega) only [li_0, li_1, li_2, li_3, li_4, li_5, li_6, li_7, li_8, li_9, li_10, li_11, li_12, li_13, li_14, li_15, li_16, li_17, li_18, li_19, li_20, li_21, li_31, li_32, li_33, li_40, li_41, li_43, li_48, li_57, li_59, li_60, li_61, li_62, li_64, li_97, li_99, li_100, li_101, li_102, li_112, li_119, li_126, li_189, li_255, li_300, li_369, li_400, li_999, li_5000, li_9999, li_12345, li_99999, li_1103515245, i2_add, i2_sub, i2_mul, i2_neg, i2_le, i2_lt, i2_eq, r_rz, r_ci, r_cx, r_cv, r_vx, r_cr, r_rx, dr_ci', dr_cv', dr_cr', dr_gr', dr_x0, ↓reduceIte, Int.reduceLE, Int.reduceLT, Int.reduceEq, Int.reduceNeg, Int.reduceAdd, Int.reduceSub, Int.reduceMul, vT_k hT, vT_r0 hT, vT_g1 hT, vT_p1 hT, vT_g2 hT, vT_p2 hT, vT_g3 hT, vT_p3 hT, vT_n3 hT, vT_a3 hT, vT_s3 hT, tP_3, tP_u3, e2]
  · rw [if_neg e1]
    have e2 : ¬ (w = -1) := by omega
    simp (disch := omega) only [li_0, li_1, li_2, li_3, li_4, li_5, li_6, li_7, li_8, li_9, li_10, li_11, li_12, li_13, li_14, li_15, li_16, li_17, li_18, li_19, li_20, li_21, li_31, li_32, li_33, li_40, li_41, li_43, li_48, li_57, li_59, li_60, li_61, li_62, li_64, li_97, li_99, li_100, li_101, li_102, li_112, li_119, li_126, li_189, li_255, li_300, li_369, li_400, li_999, li_5000, li_9999, li_12345, li_99999, li_1103515245, i2_add, i2_sub, i2_mul, i2_neg, i2_le, i2_lt, i2_eq, r_rz, r_ci, r_cx, r_cv, r_vx, r_cr, r_rx, dr_ci', dr_cv', dr_cr', dr_gr', dr_x0, ↓reduceIte, Int.reduceLE, Int.reduceLT, Int.reduceEq, Int.reduceNeg, Int.reduceAdd, Int.reduceSub, Int.reduceMul, vT_k hT, vT_r0 hT, vT_g1 hT, vT_p1 hT, vT_g2 hT, vT_p2 hT, vT_g3 hT, vT_p3 hT, vT_n3 hT, vT_a3 hT, vT_s3 hT, tP_3, tP_u3, e2]
def cac (t : Int → Int) (l ch p : Int) : Int × Int := if nb t l (sk t l 300 p) = ch then (1, sk t l 300 p + 1) else (0, sk t l 300 p)
def cex (t : Int → Int) (l ch p w : Int) : Int × Int := if nb t l (sk t l 300 p) = ch then (sk t l 300 p + 1, w) else (sk t l 300 p, fl w (sk t l 300 p))
def cnu (t : Int → Int) (l a b p w : Int) : Int × Int × Int :=
  ((dg t l 5 (sk t l 300 p) 0 0).2.1, (dg t l 5 (sk t l 300 p) 0 0).1,
    if (dg t l 5 (sk t l 300 p) 0 0).2.2 = 0 then fl w (dg t l 5 (sk t l 300 p) 0 0).1
    else if a ≤ (dg t l 5 (sk t l 300 p) 0 0).2.1 ∧ (dg t l 5 (sk t l 300 p) 0 0).2.1 ≤ b then w else fl w ((dg t l 5 (sk t l 300 p) 0 0).1 - 1))
theorem t_accept {h : dr_AH} {c : Nat → Int → Int} (hT : LaT h) {t : Int → Int} {l : Int} (tl : tTL c t l) {ch p w : Int} (h1 : 0 ≤ p) (h2 : p ≤ l) (h5 : 0 ≤ ch) (h6 : ch ≤ 255) :
    f_T_accept 2 (i2 ch) (wr h (tP c p w)) = some (.inl (some (.int (i2 (cac t l ch p).1))), wr h (tP c (cac t l ch p).2 w)) := by
  have t4 := tl.2.2.2.1
  have hs := sk_r (t := t) (l := l) 300 p
  have hs2 := hs.2 h2
  have hn := nb_r tl.2.2.2.2 (p := sk t l 300 p) (by omega)
  unfold f_T_accept cac
  by_cases e3 : nb t l (sk t l 300 p) = ch
  · rw [if_pos e3]
    simp (disch := omega) only [li_0, li_1, li_2, li_3, li_4, li_5, li_6, li_7, li_8, li_9, li_10, li_11, li_12, li_13, li_14, li_15, li_16, li_17, li_18, li_19, li_20, li_21, li_31, li_32, li_33, li_40, li_41, li_43, li_48, li_57, li_59, li_60, li_61, li_62, li_64, li_97, li_99, li_100, li_101, li_102, li_112, li_119, li_126, li_189, li_255, li_300, li_369, li_400, li_999, li_5000, li_9999, li_12345, li_99999, li_1103515245, i2_add, i2_sub, i2_mul, i2_neg, i2_le, i2_lt, i2_eq, r_rz, r_ci, r_cx, r_cv, r_vx, r_cr, r_rx, dr_ci', dr_cv', dr_cr', dr_gr', dr_x0, ↓reduceIte, Int.reduceLE, Int.reduceLT, Int.reduceEq, Int.reduceNeg, Int.reduceAdd, Int.reduceSub, Int.reduceMul, vT_k hT, vT_r0 hT, vT_g1 hT, vT_p1 hT, vT_g2 hT, vT_p2 hT, vT_g3 hT, vT_p3 hT, vT_n3 hT, vT_a3 hT, vT_s3 hT, t_skip hT tl h1 h2, t_next hT tl, e3, tP_2, tP_u2]
  · rw [if_neg e3]
    simp (disch := omega) only [li_0, li_1, li_2, li_3, li_4, li_5, li_6, li_7, li_8, li_9, li_10, li_11, li_12, li_13, li_14, li_15, li_16, li_17, li_18, li_19, li_20, li_21, li_31, li_32, li_33, li_40, li_41, li_43, li_48, li_57, li_59, li_60, li_61, li_62, li_64, li_97, li_99, li_100, li_101, li_102, li_112, li_119, li_126, li_189, li_255, li_300, li_369, li_400, li_999, li_5000, li_9999, li_12345, li_99999, li_1103515245, i2_add, i2_sub, i2_mul, i2_neg, i2_le, i2_lt, i2_eq, r_rz, r_ci, r_cx, r_cv, r_vx, r_cr, r_rx, dr_ci', dr_cv', dr_cr', dr_gr', dr_x0, ↓reduceIte, Int.reduceLE, Int.reduceLT, Int.reduceEq, Int.reduceNeg, Int.reduceAdd, Int.reduceSub, Int.reduceMul, vT_k hT, vT_r0 hT, vT_g1 hT, vT_p1 hT, vT_g2 hT, vT_p2 hT, vT_g3 hT, vT_p3 hT, vT_n3 hT, vT_a3 hT, vT_s3 hT, t_skip hT tl h1 h2, t_next hT tl, e3, tP_2, tP_u2]
theorem t_expect {h : dr_AH} {c : Nat → Int → Int} (hT : LaT h) {t : Int → Int} {l : Int} (tl : tTL c t l) {ch p w : Int} (h1 : 0 ≤ p) (h2 : p ≤ l) (h3 : -1 ≤ w) (h4 : w ≤ 300) (h5 : 0 ≤ ch) (h6 : ch ≤ 255) :
    f_T_expect 2 (i2 ch) (wr h (tP c p w)) = some (.inl none, wr h (tP c (cex t l ch p w).1 (cex t l ch p w).2)) := by
  have t4 := tl.2.2.2.1
  unfold f_T_expect cex
  have ha := t_accept (w := w) hT tl h1 h2 h5 h6
  unfold cac at ha
  by_cases e3 : nb t l (sk t l 300 p) = ch
  · rw [if_pos e3] at ha ⊢
    simp (disch := omega) only [li_0, li_1, li_2, li_3, li_4, li_5, li_6, li_7, li_8, li_9, li_10, li_11, li_12, li_13, li_14, li_15, li_16, li_17, li_18, li_19, li_20, li_21, li_31, li_32, li_33, li_40, li_41, li_43, li_48, li_57, li_59, li_60, li_61, li_62, li_64, li_97, li_99, li_100, li_101, li_102, li_112, li_119, li_126, li_189, li_255, li_300, li_369, li_400, li_999, li_5000, li_9999, li_12345, li_99999, li_1103515245, i2_add, i2_sub, i2_mul, i2_neg, i2_le, i2_lt, i2_eq, r_rz, r_ci, r_cx, r_cv, r_vx, r_cr, r_rx, dr_ci', dr_cv', dr_cr', dr_gr', dr_x0, ↓reduceIte, Int.reduceLE, Int.reduceLT, Int.reduceEq, Int.reduceNeg, Int.reduceAdd, Int.reduceSub, Int.reduceMul, vT_k hT, vT_r0 hT, vT_g1 hT, vT_p1 hT, vT_g2 hT, vT_p2 hT, vT_g3 hT, vT_p3 hT, vT_n3 hT, vT_a3 hT, vT_s3 hT, ha, tP_2, tP_u2]
  · rw [if_neg e3] at ha ⊢
    simp (disch := omega) only [li_0, li_1, li_2, li_3, li_4, li_5, li_6, li_7, li_8, li_9, li_10, li_11, li_12, li_13, li_14, li_15, li_16, li_17, li_18, li_19, li_20, li_21, li_31, li_32, li_33, li_40, li_41, li_43, li_48, li_57, li_59, li_60, li_61, li_62, li_64, li_97, li_99, li_100, li_101, li_102, li_112, li_119, li_126, li_189, li_255, li_300, li_369, li_400, li_999, li_5000, li_9999, li_12345, li_99999, li_1103515245, i2_add, i2_sub, i2_mul, i2_neg, i2_le, i2_lt, i2_eq, r_rz, r_ci, r_cx, r_cv, r_vx, r_cr, r_rx, dr_ci', dr_cv', dr_cr', dr_gr', dr_x0, ↓reduceIte, Int.reduceLE, Int.reduceLT, Int.reduceEq, Int.reduceNeg, Int.reduceAdd, Int.reduceSub, Int.reduceMul, vT_k hT, vT_r0 hT, vT_g1 hT, vT_p1 hT, vT_g2 hT, vT_p2 hT, vT_g3 hT, vT_p3 hT, vT_n3 hT, vT_a3 hT, vT_s3 hT, ha, tP_2, tP_u2, t_fail hT]
theorem t_isDigit {g : dr_AH} {x : Int} (h1 : -1 ≤ x) (h2 : x ≤ 255) : f_T_isDigit (i2 x) g = some (.inl (some (.int (i2 (bz (48 ≤ x ∧ x ≤ 57))))), g) := by
  unfold f_T_isDigit bz
  simp (disch := omega) only [li_0, li_1, li_2, li_3, li_4, li_5, li_6, li_7, li_8, li_9, li_10, li_11, li_12, li_13, li_14, li_15, li_16, li_17, li_18, li_19, li_20, li_21, li_31, li_32, li_33, li_40, li_41, li_43, li_48, li_57, li_59, li_60, li_61, li_62, li_64, li_97, li_99, li_100, li_101, li_102, li_112, li_119, li_126, li_189, li_255, li_300, li_369, li_400, li_999, li_5000, li_9999, li_12345, li_99999, li_1103515245, i2_add, i2_sub, i2_mul, i2_neg, i2_le, i2_lt, i2_eq, r_rz, r_ci, r_cx, r_cv, r_vx, r_cr, r_rx, dr_ci', dr_cv', dr_cr', dr_gr', dr_x0, ↓reduceIte, Int.reduceLE, Int.reduceLT, Int.reduceEq, Int.reduceNeg, Int.reduceAdd, Int.reduceSub, Int.reduceMul]
  by_cases e1 : x < 48
  · rw [if_pos e1, if_neg (by omega)]
  · by_cases e2 : 57 < x
    · rw [if_neg e1, if_pos e2, if_neg (by omega)]
    · rw [if_neg e1, if_neg e2, if_pos (by omega)]
theorem t_num63 {h : dr_AH} {c : Nat → Int → Int} (hT : LaT h) {p w a b v d : Int} (h1 : 0 ≤ p) (h2 : p ≤ 300) (h3 : -1 ≤ w) (h4 : w ≤ 300) (h5 : 0 ≤ d) (h6 : d ≤ 4) (h7 : 0 ≤ v) (h8 : v ≤ 9999) (h9 : 0 ≤ a) (h10 : a ≤ b) (h11 : b ≤ 9999) :
    f_T_parseNumber_63 2 (i2 a) (i2 b) (i2 v) (i2 d) (wr h (tP c p w)) = some (.inl (some (.int (i2 v))), wr h (tP c p (if d = 0 then fl w p else if a ≤ v ∧ v ≤ b then w else fl w (p - 1)))) := by
  unfold f_T_parseNumber_63
  by_cases e1 : d = 0
  · rw [if_pos e1]
    simp (disch := omega) only [li_0, li_1, li_2, li_3, li_4, li_5, li_6, li_7, li_8, li_9, li_10, li_11, li_12, li_13, li_14, li_15, li_16, li_17, li_18, li_19, li_20, li_21, li_31, li_32, li_33, li_40, li_41, li_43, li_48, li_57, li_59, li_60, li_61, li_62, li_64, li_97, li_99, li_100, li_101, li_102, li_112, li_119, li_126, li_189, li_255, li_300, li_369, li_400, li_999, li_5000, li_9999, li_12345, li_99999, li_1103515245, i2_add, i2_sub, i2_mul, i2_neg, i2_le, i2_lt, i2_eq, r_rz, r_ci, r_cx, r_cv, r_vx, r_cr, r_rx, dr_ci', dr_cv', dr_cr', dr_gr', dr_x0, ↓reduceIte, Int.reduceLE, Int.reduceLT, Int.reduceEq, Int.reduceNeg, Int.reduceAdd, Int.reduceSub, Int.reduceMul, vT_k hT, vT_r0 hT, vT_g1 hT, vT_p1 hT, vT_g2 hT, vT_p2 hT, vT_g3 hT, vT_p3 hT, vT_n3 hT, vT_a3 hT, vT_s3 hT, e1, tP_2, t_fail hT]
  · rw [if_neg e1]
    by_cases e2 : v < a
    · rw [if_neg (show ¬ (a ≤ v ∧ v ≤ b) by omega)]
      simp (disch := omega) only [li_0, li_1, li_2, li_3, li_4, li_5, li_6, li_7, li_8, li_9, li_10, li_11, li_12, li_13, li_14, li_15, li_16, li_17, li_18, li_19, li_20, li_21, li_31, li_32, li_33, li_40, li_41, li_43, li_48, li_57, li_59, li_60, li_61, li_62, li_64, li_97, li_99, li_100, li_101, li_102, li_112, li_119, li_126, li_189, li_255, li_300, li_369, li_400, li_999, li_5000, li_9999, li_12345, li_99999, li_1103515245, i2_add, i2_sub, i2_mul, i2_neg, i2_le, i2_lt, i2_eq, r_rz, r_ci, r_cx, r_cv, r_vx, r_cr, r_rx, dr_ci', dr_cv', dr_cr', dr_gr', dr_x0, ↓reduceIte, Int.reduceLE, Int.reduceLT, Int.reduceEq, Int.reduceNeg, Int.reduceAdd, Int.reduceSub, Int.reduceMul, vT_k hT, vT_r0 hT, vT_g1 hT, vT_p1 hT, vT_g2 hT, vT_p2 hT, vT_g3 hT, vT_p3 hT, vT_n3 hT, vT_a3 hT, vT_s3 hT, e1, e2, tP_2, t_fail hT]
    · by_cases e3 : v ≤ b
      · rw [if_pos (show (a ≤ v ∧ v ≤ b) by omega)]
        simp (disch := omega) only [li_0, li_1, li_2, li_3, li_4, li_5, li_6, li_7, li_8, li_9, li_10, li_11, li_12, li_13, li_14, li_15, li_16, li_17, li_18, li_19, li_20, li_21, li_31, li_32, li_33, li_40, li_41, li_43, li_48, li_57, li_59, li_60, li_61, li_62, li_64, li_97, li_99, li_100, li_101, li_102, li_112, li_119, li_126, li_189, li_255, li_300, li_369, li_400, li_999, li_5000, li_9999, li_12345, li_99999, li_1103515245, i2_add, i2_sub, i2_mul, i2_neg, i2_le, i2_lt, i2_eq, r_rz, r_ci, r_cx, r_cv, r_vx, r_cr, r_rx, dr_ci', dr_cv', dr_cr', dr_gr', dr_x0, ↓reduceIte, Int.reduceLE, Int.reduceLT, Int.reduceEq, Int.reduceNeg, Int.reduceAdd, Int.reduceSub, Int.reduceMul, vT_k hT, vT_r0 hT, vT_g1 hT, vT_p1 hT, vT_g2 hT, vT_p2 hT, vT_g3 hT, vT_p3 hT, vT_n3 hT, vT_a3 hT, vT_s3 hT, e1, e2, e3, tP_2, t_fail hT]
      · rw [if_neg (show ¬ (a ≤ v ∧ v ≤ b) by omega)]
        simp (disch := omega) only [li_0, li_1, li_2, li_3, li_4, li_5, li_6, li_7, li_8, li_9, li_10, li_11, li_12, li_13, li_14, li_15, li_16, li_17, li_18, li_19, li_20, li_21, li_31, li_32, li_33, li_40, li_41, li_43, li_48, li_57, li_59, li_60, li_61, li_62, li_64, li_97, li_99, li_100, li_101, li_102, li_112, li_119, li_126, li_189, li_255, li_300, li_369, li_400, li_999, li_5000, li_9999, li_12345, li_99999, li_1103515245, i2_add, i2_sub, i2_mul, i2_neg, i2_le, i2_lt, i2_eq, r_rz, r_ci, r_cx, r_cv, r_vx, r_cr, r_rx, dr_ci', dr_cv', dr_cr', dr_gr', dr_x0, ↓reduceIte, Int.reduceLE, Int.reduceLT, Int.reduceEq, Int.reduceNeg, Int.reduceAdd, Int.reduceSub, Int.reduceMul, vT_k hT, vT_r0 hT, vT_g1 hT, vT_p1 hT, vT_g2 hT, vT_p2 hT, vT_g3 hT, vT_p3 hT, vT_n3 hT, vT_a3 hT, vT_s3 hT, e1, e2, e3, tP_2, t_fail hT]
theorem t_num9 {h : dr_AH} {c : Nat → Int → Int} (hT : LaT h) {t : Int → Int} {l : Int} (tl : tTL c t l) {a b w : Int} (h12 : -1 ≤ w) (h13 : w ≤ 300) (h9 : 0 ≤ a) (h10 : a ≤ b) (h11 : b ≤ 9999) : ∀ (f n : Nat) (p v d : Int), 0 ≤ p → p ≤ l → 0 ≤ v → v ≤ 9999 → 0 ≤ d → d ≤ 4 → (d = 0 → v = 0) → (d = 1 → v ≤ 9) → (d = 2 → 10 ≤ v ∧ v ≤ 99) → (d = 3 → 100 ≤ v ∧ v ≤ 999) → (d = 4 → 1000 ≤ v ∧ v ≤ 9999) → 4 - d ≤ f → f < n →
    f_T_parseNumber_9 n 2 (i2 a) (i2 b) (i2 v) (i2 d) (wr h (tP c p w)) = some (.inl (some (.int (i2 (dg t l f p v d).2.1))), wr h (tP c (dg t l f p v d).1 (if (dg t l f p v d).2.2 = 0 then fl w (dg t l f p v d).1 else if a ≤ (dg t l f p v d).2.1 ∧ (dg t l f p v d).2.1 ≤ b then w else fl w ((dg t l f p v d).1 - 1)))) := by
  have t4 := tl.2.2.2.1
  intro f
  induction f with
  | zero =>
    intro n p v d h1 h2 h3 h4 h5 h6 g0 g1 g2 g3 g4 h7 h8
    obtain ⟨m, rfl⟩ : ∃ m, n = m + 1 := ⟨n - 1, by omega⟩
    have e4 : 4 ≤ d := by omega
    unfold f_T_parseNumber_9 dg
    simp (disch := omega) only [li_0, li_1, li_2, li_3, li_4, li_5, li_6, li_7, li_8, li_9, li_10, li_11, li_12, li_13, li_14, li_15, li_16, li_17, li_18, li_19, li_20, li_21, li_31, li_32, li_33, li_40, li_41, li_43, li_48, li_57, li_59, li_60, li_61, li_62, li_64, li_97, li_99, li_100, li_101, li_102, li_112, li_119, li_126, li_189, li_255, li_300, li_369, li_400, li_999, li_5000, li_9999, li_12345, li_99999, li_1103515245, i2_add, i2_sub, i2_mul, i2_neg, i2_le, i2_lt, i2_eq, r_rz, r_ci, r_cx, r_cv, r_vx, r_cr, r_rx, dr_ci', dr_cv', dr_cr', dr_gr', dr_x0, ↓reduceIte, Int.reduceLE, Int.reduceLT, Int.reduceEq, Int.reduceNeg, Int.reduceAdd, Int.reduceSub, Int.reduceMul, e4, t_num63 hT]
  | succ f ih =>
    intro n p v d h1 h2 h3 h4 h5 h6 g0 g1 g2 g3 g4 h7 h8
    obtain ⟨m, rfl⟩ : ∃ m, n = m + 1 := ⟨n - 1, by omega⟩
    have hn := nb_r tl.2.2.2.2 (p := p) (by omega)
    unfold f_T_parseNumber_9 dg
    by_cases e : d < 4 ∧ (48 ≤ nb t l p ∧ nb t l p ≤ 57) ∧ (d = 0 ∨ 0 < v)
    · rw [if_pos e]
      obtain ⟨e1, e2, e3⟩ := e
      have hp := nb_d e2
      have eb : bz (48 ≤ nb t l p ∧ nb t l p ≤ 57) = 1 := by unfold bz; rw [if_pos e2]
      have e5 : ¬ (4 ≤ d) := by omega
      have ih2 := ih m (p + 1) (10 * v + nb t l p - 48) (d + 1) (by omega) (by omega) (by omega) (by omega) (by omega) (by omega) (by omega) (by omega) (by omega) (by omega) (by omega) (by omega) (by omega)
      have ev : v * 10 + nb t l p - 48 = 10 * v + nb t l p - 48 := by omega
      by_cases e6 : d = 0
      · have e8 := g0 e6
        subst e6
        subst e8
        simp (disch := omega) only [li_0, li_1, li_2, li_3, li_4, li_5, li_6, li_7, li_8, li_9, li_10, li_11, li_12, li_13, li_14, li_15, li_16, li_17, li_18, li_19, li_20, li_21, li_31, li_32, li_33, li_40, li_41, li_43, li_48, li_57, li_59, li_60, li_61, li_62, li_64, li_97, li_99, li_100, li_101, li_102, li_112, li_119, li_126, li_189, li_255, li_300, li_369, li_400, li_999, li_5000, li_9999, li_12345, li_99999, li_1103515245, i2_add, i2_sub, i2_mul, i2_neg, i2_le, i2_lt, i2_eq, r_rz, r_ci, r_cx, r_cv, r_vx, r_cr, r_rx, dr_ci', dr_cv', dr_cr', dr_gr', dr_x0, ↓reduceIte, Int.reduceLE, Int.reduceLT, Int.reduceEq, Int.reduceNeg, Int.reduceAdd, Int.reduceSub, Int.reduceMul, vT_k hT, vT_r0 hT, vT_g1 hT, vT_p1 hT, vT_g2 hT, vT_p2 hT, vT_g3 hT, vT_p3 hT, vT_n3 hT, vT_a3 hT, vT_s3 hT, t_next hT tl, t_isDigit, eb, f_T_parseNumber_34, tP_2, tP_u2]
        exact ih2
      · have e7 : ¬ (v ≤ 0) := by omega
        simp (disch := omega) only [li_0, li_1, li_2, li_3, li_4, li_5, li_6, li_7, li_8, li_9, li_10, li_11, li_12, li_13, li_14, li_15, li_16, li_17, li_18, li_19, li_20, li_21, li_31, li_32, li_33, li_40, li_41, li_43, li_48, li_57, li_59, li_60, li_61, li_62, li_64, li_97, li_99, li_100, li_101, li_102, li_112, li_119, li_126, li_189, li_255, li_300, li_369, li_400, li_999, li_5000, li_9999, li_12345, li_99999, li_1103515245, i2_add, i2_sub, i2_mul, i2_neg, i2_le, i2_lt, i2_eq, r_rz, r_ci, r_cx, r_cv, r_vx, r_cr, r_rx, dr_ci', dr_cv', dr_cr', dr_gr', dr_x0, ↓reduceIte, Int.reduceLE, Int.reduceLT, Int.reduceEq, Int.reduceNeg, Int.reduceAdd, Int.reduceSub, Int.reduceMul, vT_k hT, vT_r0 hT, vT_g1 hT, vT_p1 hT, vT_g2 hT, vT_p2 hT, vT_g3 hT, vT_p3 hT, vT_n3 hT, vT_a3 hT, vT_s3 hT, t_next hT tl, t_isDigit, eb, e5, e6, e7, f_T_parseNumber_34, tP_2, tP_u2, ev]
        exact ih2
    · rw [if_neg e]
      by_cases e2 : 48 ≤ nb t l p ∧ nb t l p ≤ 57
      · have eb : bz (48 ≤ nb t l p ∧ nb t l p ≤ 57) = 1 := by unfold bz; rw [if_pos e2]
        by_cases e5 : 4 ≤ d
        · simp (disch := omega) only [li_0, li_1, li_2, li_3, li_4, li_5, li_6, li_7, li_8, li_9, li_10, li_11, li_12, li_13, li_14, li_15, li_16, li_17, li_18, li_19, li_20, li_21, li_31, li_32, li_33, li_40, li_41, li_43, li_48, li_57, li_59, li_60, li_61, li_62, li_64, li_97, li_99, li_100, li_101, li_102, li_112, li_119, li_126, li_189, li_255, li_300, li_369, li_400, li_999, li_5000, li_9999, li_12345, li_99999, li_1103515245, i2_add, i2_sub, i2_mul, i2_neg, i2_le, i2_lt, i2_eq, r_rz, r_ci, r_cx, r_cv, r_vx, r_cr, r_rx, dr_ci', dr_cv', dr_cr', dr_gr', dr_x0, ↓reduceIte, Int.reduceLE, Int.reduceLT, Int.reduceEq, Int.reduceNeg, Int.reduceAdd, Int.reduceSub, Int.reduceMul, e5, t_num63 hT]
        · have e6 : ¬ (d = 0) := by omega
          have e7 : v ≤ 0 := by omega
          simp (disch := omega) only [li_0, li_1, li_2, li_3, li_4, li_5, li_6, li_7, li_8, li_9, li_10, li_11, li_12, li_13, li_14, li_15, li_16, li_17, li_18, li_19, li_20, li_21, li_31, li_32, li_33, li_40, li_41, li_43, li_48, li_57, li_59, li_60, li_61, li_62, li_64, li_97, li_99, li_100, li_101, li_102, li_112, li_119, li_126, li_189, li_255, li_300, li_369, li_400, li_999, li_5000, li_9999, li_12345, li_99999, li_1103515245, i2_add, i2_sub, i2_mul, i2_neg, i2_le, i2_lt, i2_eq, r_rz, r_ci, r_cx, r_cv, r_vx, r_cr, r_rx, dr_ci', dr_cv', dr_cr', dr_gr', dr_x0, ↓reduceIte, Int.reduceLE, Int.reduceLT, Int.reduceEq, Int.reduceNeg, Int.reduceAdd, Int.reduceSub, Int.reduceMul, vT_k hT, vT_r0 hT, vT_g1 hT, vT_p1 hT, vT_g2 hT, vT_p2 hT, vT_g3 hT, vT_p3 hT, vT_n3 hT, vT_a3 hT, vT_s3 hT, t_next hT tl, t_isDigit, eb, e5, e6, e7, t_num63 hT]
      · have eb : bz (48 ≤ nb t l p ∧ nb t l p ≤ 57) = 0 := by unfold bz; rw [if_neg e2]
        by_cases e5 : 4 ≤ d
        · simp (disch := omega) only [li_0, li_1, li_2, li_3, li_4, li_5, li_6, li_7, li_8, li_9, li_10, li_11, li_12, li_13, li_14, li_15, li_16, li_17, li_18, li_19, li_20, li_21, li_31, li_32, li_33, li_40, li_41, li_43, li_48, li_57, li_59, li_60, li_61, li_62, li_64, li_97, li_99, li_100, li_101, li_102, li_112, li_119, li_126, li_189, li_255, li_300, li_369, li_400, li_999, li_5000, li_9999, li_12345, li_99999, li_1103515245, i2_add, i2_sub, i2_mul, i2_neg, i2_le, i2_lt, i2_eq, r_rz, r_ci, r_cx, r_cv, r_vx, r_cr, r_rx, dr_ci', dr_cv', dr_cr', dr_gr', dr_x0, ↓reduceIte, Int.reduceLE, Int.reduceLT, Int.reduceEq, Int.reduceNeg, Int.reduceAdd, Int.reduceSub, Int.reduceMul, e5, t_num63 hT]
        · simp (disch := omega) only [li_0, li_1, li_2, li_3, li_4, li_5, li_6, li_7, li_8, li_9, li_10, li_11, li_12, li_13, li_14, li_15, li_16, li_17, li_18, li_19, li_20, li_21, li_31, li_32, li_33, li_40, li_41, li_43, li_48, li_57, li_59, li_60, li_61, li_62, li_64, li_97, li_99, li_100, li_101, li_102, li_112, li_119, li_126, li_189, li_255, li_300, li_369, li_400, li_999, li_5000, li_9999, li_12345, li_99999, li_1103515245, i2_add, i2_sub, i2_mul, i2_neg, i2_le, i2_lt, i2_eq, r_rz, r_ci, r_cx, r_cv, r_vx, r_cr, r_rx, dr_ci', dr_cv', dr_cr', dr_gr', dr_x0, ↓reduceIte, Int.reduceLE, Int.reduceLT, Int.reduceEq, Int.reduceNeg, Int.reduceAdd, Int.reduceSub, Int.reduceMul, vT_k hT, vT_r0 hT, vT_g1 hT, vT_p1 hT, vT_g2 hT, vT_p2 hT, vT_g3 hT, vT_p3 hT, vT_n3 hT, vT_a3 hT, vT_s3 hT, t_next hT tl, t_isDigit, eb, e5, t_num63 hT]
theorem t_number {h : dr_AH} {c : Nat → Int → Int} (hT : LaT h) {t : Int → Int} {l : Int} (tl : tTL c t l) {a b p w : Int} (h1 : 0 ≤ p) (h2 : p ≤ l) (h3 : -1 ≤ w) (h4 : w ≤ 300) (h9 : 0 ≤ a) (h10 : a ≤ b) (h11 : b ≤ 9999) :
    f_T_parseNumber 2 (i2 a) (i2 b) (wr h (tP c p w)) = some (.inl (some (.int (i2 (cnu t l a b p w).1))), wr h (tP c (cnu t l a b p w).2.1 (cnu t l a b p w).2.2)) := by
  have hs := sk_r (t := t) (l := l) 300 p
  have hs2 := hs.2 h2
  have := t_num9 (w := w) hT tl h3 h4 h9 h10 h11 5 dr_fu (sk t l 300 p) 0 0 (by omega) (by omega) (by omega) (by omega) (by omega) (by omega) (by omega) (by omega) (by omega) (by omega) (by omega) (by omega) (by decide)
  unfold f_T_parseNumber cnu
  simp (disch := omega) only [li_0, li_1, li_2, li_3, li_4, li_5, li_6, li_7, li_8, li_9, li_10, li_11, li_12, li_13, li_14, li_15, li_16, li_17, li_18, li_19, li_20, li_21, li_31, li_32, li_33, li_40, li_41, li_43, li_48, li_57, li_59, li_60, li_61, li_62, li_64, li_97, li_99, li_100, li_101, li_102, li_112, li_119, li_126, li_189, li_255, li_300, li_369, li_400, li_999, li_5000, li_9999, li_12345, li_99999, li_1103515245, i2_add, i2_sub, i2_mul, i2_neg, i2_le, i2_lt, i2_eq, r_rz, r_ci, r_cx, r_cv, r_vx, r_cr, r_rx, dr_ci', dr_cv', dr_cr', dr_gr', dr_x0, ↓reduceIte, Int.reduceLE, Int.reduceLT, Int.reduceEq, Int.reduceNeg, Int.reduceAdd, Int.reduceSub, Int.reduceMul, vT_k hT, vT_r0 hT, vT_g1 hT, vT_p1 hT, vT_g2 hT, vT_p2 hT, vT_g3 hT, vT_p3 hT, vT_n3 hT, vT_a3 hT, vT_s3 hT, t_skip hT tl h1 h2]
  exact this
