/-! ===== rows that decide, and the law's cases out of one call's pair ===== -/
theorem dl_t {a b : Int} (h : a < b) : (a < b) = True := eq_true h
theorem dl_f {a b : Int} (h : ¬ (a < b)) : (a < b) = False := eq_false h
theorem dle_t {a b : Int} (h : a ≤ b) : (a ≤ b) = True := eq_true h
theorem dle_f {a b : Int} (h : ¬ (a ≤ b)) : (a ≤ b) = False := eq_false h
theorem deq_t {a b : Int} (h : a = b) : (a = b) = True := eq_true h
theorem deq_f {a b : Int} (h : ¬ (a = b)) : (a = b) = False := eq_false h
theorem sx_A_B : ("java/lang/IllegalArgumentException" = "java/lang/IllegalStateException") = False := eq_false (by decide)
theorem sx_A_C : ("java/lang/IllegalArgumentException" = "java/lang/IndexOutOfBoundsException") = False := eq_false (by decide)
theorem sx_A_D : ("java/lang/IllegalArgumentException" = "java/lang/UnsupportedOperationException") = False := eq_false (by decide)
theorem sx_A_E : ("java/lang/IllegalArgumentException" = "java/lang/ArithmeticException") = False := eq_false (by decide)
theorem sx_B_A : ("java/lang/IllegalStateException" = "java/lang/IllegalArgumentException") = False := eq_false (by decide)
theorem sx_B_C : ("java/lang/IllegalStateException" = "java/lang/IndexOutOfBoundsException") = False := eq_false (by decide)
theorem sx_B_D : ("java/lang/IllegalStateException" = "java/lang/UnsupportedOperationException") = False := eq_false (by decide)
theorem sx_B_E : ("java/lang/IllegalStateException" = "java/lang/ArithmeticException") = False := eq_false (by decide)
theorem sx_C_A : ("java/lang/IndexOutOfBoundsException" = "java/lang/IllegalArgumentException") = False := eq_false (by decide)
theorem sx_C_B : ("java/lang/IndexOutOfBoundsException" = "java/lang/IllegalStateException") = False := eq_false (by decide)
theorem sx_C_D : ("java/lang/IndexOutOfBoundsException" = "java/lang/UnsupportedOperationException") = False := eq_false (by decide)
theorem sx_C_E : ("java/lang/IndexOutOfBoundsException" = "java/lang/ArithmeticException") = False := eq_false (by decide)
theorem sx_D_A : ("java/lang/UnsupportedOperationException" = "java/lang/IllegalArgumentException") = False := eq_false (by decide)
theorem sx_D_B : ("java/lang/UnsupportedOperationException" = "java/lang/IllegalStateException") = False := eq_false (by decide)
theorem sx_D_C : ("java/lang/UnsupportedOperationException" = "java/lang/IndexOutOfBoundsException") = False := eq_false (by decide)
theorem sx_D_E : ("java/lang/UnsupportedOperationException" = "java/lang/ArithmeticException") = False := eq_false (by decide)
theorem sx_E_A : ("java/lang/ArithmeticException" = "java/lang/IllegalArgumentException") = False := eq_false (by decide)
theorem sx_E_B : ("java/lang/ArithmeticException" = "java/lang/IllegalStateException") = False := eq_false (by decide)
theorem sx_E_C : ("java/lang/ArithmeticException" = "java/lang/IndexOutOfBoundsException") = False := eq_false (by decide)
theorem sx_E_D : ("java/lang/ArithmeticException" = "java/lang/UnsupportedOperationException") = False := eq_false (by decide)
theorem g_000 {h : dr_AH} {c : Nat → Int → Int} (hm : LaM h) : f_M_goes 31 (i2 0) (i2 0) (i2 0) (wr h c) = some (.inl (some (.int (i2 0))), wr h (up c 31 0 1)) := m_goes hm (by omega) (by omega) (by omega) (by omega) (by omega) (by omega)
theorem g_001 {h : dr_AH} {c : Nat → Int → Int} (hm : LaM h) : f_M_goes 31 (i2 0) (i2 0) (i2 1) (wr h c) = some (.inl (some (.int (i2 0))), wr h (up c 31 0 1)) := m_goes hm (by omega) (by omega) (by omega) (by omega) (by omega) (by omega)
theorem g_010 {h : dr_AH} {c : Nat → Int → Int} (hm : LaM h) : f_M_goes 31 (i2 0) (i2 1) (i2 0) (wr h c) = some (.inl (some (.int (i2 0))), wr h (up c 31 0 1)) := m_goes hm (by omega) (by omega) (by omega) (by omega) (by omega) (by omega)
theorem g_011 {h : dr_AH} {c : Nat → Int → Int} (hm : LaM h) : f_M_goes 31 (i2 0) (i2 1) (i2 1) (wr h c) = some (.inl (some (.int (i2 0))), wr h (up c 31 0 1)) := m_goes hm (by omega) (by omega) (by omega) (by omega) (by omega) (by omega)
theorem g_100 {h : dr_AH} {c : Nat → Int → Int} (hm : LaM h) : f_M_goes 31 (i2 1) (i2 0) (i2 0) (wr h c) = some (.inl (some (.int (i2 0))), wr h (up c 31 0 2)) := m_goes hm (by omega) (by omega) (by omega) (by omega) (by omega) (by omega)
theorem g_101 {h : dr_AH} {c : Nat → Int → Int} (hm : LaM h) : f_M_goes 31 (i2 1) (i2 0) (i2 1) (wr h c) = some (.inl (some (.int (i2 0))), wr h (up c 31 0 2)) := m_goes hm (by omega) (by omega) (by omega) (by omega) (by omega) (by omega)
theorem g_110 {h : dr_AH} {c : Nat → Int → Int} (hm : LaM h) : f_M_goes 31 (i2 1) (i2 1) (i2 0) (wr h c) = some (.inl (some (.int (i2 0))), wr h (up c 31 0 3)) := m_goes hm (by omega) (by omega) (by omega) (by omega) (by omega) (by omega)
theorem g_111 {h : dr_AH} {c : Nat → Int → Int} (hm : LaM h) : f_M_goes 31 (i2 1) (i2 1) (i2 1) (wr h c) = some (.inl (some (.int (i2 1))), wr h (up c 31 0 0)) := m_goes hm (by omega) (by omega) (by omega) (by omega) (by omega) (by omega)
theorem in_y {g : dr_AH} {x a b : Int} (h1 : -2147483648 ≤ x) (h2 : x < 2147483648) (h3 : -2147483648 ≤ a) (h4 : a < 2147483648) (h5 : -2147483648 ≤ b) (h6 : b < 2147483648) (h7 : a ≤ x) (h8 : x ≤ b) : f_M_in (i2 x) (i2 a) (i2 b) g = some (.inl (some (.int (i2 1))), g) := by
  rw [m_in h1 h2 h3 h4 h5 h6]; unfold bz; rw [if_pos ⟨h7, h8⟩]
theorem in_n {g : dr_AH} {x a b : Int} (h1 : -2147483648 ≤ x) (h2 : x < 2147483648) (h3 : -2147483648 ≤ a) (h4 : a < 2147483648) (h5 : -2147483648 ≤ b) (h6 : b < 2147483648) (h7 : x < a ∨ b < x) : f_M_in (i2 x) (i2 a) (i2 b) g = some (.inl (some (.int (i2 0))), g) := by
  rw [m_in h1 h2 h3 h4 h5 h6]; unfold bz; rw [if_neg (by omega)]
theorem is_y {h : dr_AH} {c : Nat → Int → Int} (hm : LaM h) {d : Int} (hn : c 31 19 ≤ 8) (h1 : 0 ≤ d) (h2 : d < c 31 19) : f_M_isDrill 31 (i2 d) (wr h c) = some (.inl (some (.int (i2 1))), wr h c) := by
  rw [m_isDrill hm (by omega) (by omega) (by omega)]; unfold bz; rw [if_pos (by omega)]
theorem is_n {h : dr_AH} {c : Nat → Int → Int} (hm : LaM h) {d : Int} (h1 : -2147483648 ≤ d) (h2 : d < 2147483648) (hn : 0 ≤ c 31 19 ∧ c 31 19 ≤ 8) (h3 : d < 0 ∨ c 31 19 ≤ d) : f_M_isDrill 31 (i2 d) (wr h c) = some (.inl (some (.int (i2 0))), wr h c) := by
  rw [m_isDrill hm h1 h2 hn]; unfold bz; rw [if_neg (by omega)]
/-- what a call of the class and its like of the reference come to: the same answer or the same throw, and a good state -/
def OPK (fL fM : dr_AH → Option (dr_RS × dr_AH)) (L k : Nat) (h : dr_AH) (c : Nat → Int → Int) : Prop := ∃ (kk v v' : Int) (h1 : dr_AH) (c1 c2 : Nat → Int → Int), (0 ≤ kk ∧ kk ≤ 3) ∧ fL (wr h c) = some (.inl (some (.int (i2 kk))), wr (hE kk v h1) c1) ∧ fM (wr (hE kk v h1) c1) = some (.inl (some (.int (i2 v'))), wr (hE kk v h1) c2) ∧ c2 31 0 = kk ∧ (kk = 0 → v' = v) ∧ Sx L (k + 1) (hE kk v h1) c2 ∧ (∀ j, c1 0 j = c 0 j)
def OPV (fL fM : dr_AH → Option (dr_RS × dr_AH)) (L k : Nat) (h : dr_AH) (c : Nat → Int → Int) : Prop := ∃ (kk : Int) (h1 : dr_AH) (c1 c2 : Nat → Int → Int), fL (wr h c) = some (.inl (some (.int (i2 kk))), wr h1 c1) ∧ fM (wr h1 c1) = some (.inl none, wr h1 c2) ∧ c2 31 0 = kk ∧ Sx L (k + 1) h1 c2 ∧ (∀ j, c1 0 j = c 0 j)
def QOK (fL fM : dr_AH → Option (dr_RS × dr_AH)) (h : dr_AH) (c : Nat → Int → Int) : Prop := ∃ kk v : Int, (0 ≤ kk ∧ kk ≤ 3) ∧ fL (wr h c) = some (.inl (some (.int (i2 kk))), wr (hE kk v h) c) ∧ ∀ h', LaM h' → fM (wr h' c) = some (.inl (some (.int (i2 v))), wr h' (up c 31 0 kk))
theorem Q_OP {fL fM : dr_AH → Option (dr_RS × dr_AH)} {L k : Nat} {h : dr_AH} {c : Nat → Int → Int} (S : Sx L k h c) (H : QOK fL fM h c) : OPK fL fM L k h c := by
  obtain ⟨kk, v, h1, h2, h3⟩ := H
  obtain ⟨nd, da, sa, cs, sp, S⟩ := S
  have S' := St_q S kk v
  exact ⟨kk, v, v, h, c, up c 31 0 kk, h1, h2, h3 _ S'.1.1, up_same _ _ _ _, fun _ => rfl, ⟨nd, da, sa, cs, sp, S'⟩, fun _ => rfl⟩
theorem Sx_M {L k : Nat} {h : dr_AH} {c : Nat → Int → Int} (S : Sx L k h c) : LaM h := by obtain ⟨nd, da, sa, cs, sp, S⟩ := S; exact S.1.1
theorem Sx_0 {L k : Nat} {h : dr_AH} {c : Nat → Int → Int} (S : Sx L k h c) : sA h 0 100 L := by obtain ⟨nd, da, sa, cs, sp, S⟩ := S; exact S.1.2.2.2.2.2.2.2.2
theorem Sx_5 {L k : Nat} {h : dr_AH} {c : Nat → Int → Int} (S : Sx L k h c) : (h.2.2 56).1 = 101 ∧ (h.2.2 56).2.1 = 1 := by obtain ⟨nd, da, sa, cs, sp, S⟩ := S; exact S.1.2.2.2.2.2.2.2.1
theorem Sx_r {L k : Nat} {h : dr_AH} {c : Nat → Int → Int} (S : Sx L k h c) (j : Int) : -2147483648 ≤ c 0 j ∧ c 0 j < 2147483648 := by obtain ⟨nd, da, sa, cs, sp, S⟩ := S; exact S.2.2.1.2.2.2.2.2.2.2.2 j
theorem law_413 {L k : Nat} {h : dr_AH} {c : Nat → Int → Int} (S : Sx L k h c) (hL : L ≤ 2048) {x : Int} (x0 : 0 ≤ x) (x1 : x + 4 ≤ L) (rc : Nat → Nat → Nat → Nat → Int32 → dr_AH → Option (dr_RS × dr_AH)) (H : OPK (f_L_real 1 (i2 (c 0 (x + 1))) 56) (f_M_real 31 (i2 (c 0 (x + 1)))) L k h c) : ∃ h' c', f_L_law_413 rc 0 1 31 56 (i2 x) (wr h c) = rc 0 1 31 56 (i2 (x + 4)) (wr h' c') ∧ Sx L (k + 1) h' c' := by
  obtain ⟨kk, v, v', h1, c1, c2, k0, e1, e2, e3, e4, S', e5⟩ := H
  refine ⟨_, _, ?_, S'⟩
  have a0 := Sx_0 S
  have a1 := Sx_0 S'
  have hm := Sx_M S'
  have h5 := Sx_5 S'
  unfold f_L_law_413 f_L_law_1316
  simp (disch := omega) only [li_1, li_2, li_3, li_4, i2_add, r_ai a0, r_ai a1, e5, e1, e2, dr_ci', r_ci, vM_k hm, m_thrown hm, e3]
  rw [if_pos trivial]
  exact tl_i k0.1 k0.2 h5.1 h5.2 e4
theorem law_469 {L k : Nat} {h : dr_AH} {c : Nat → Int → Int} (S : Sx L k h c) (hL : L ≤ 2048) {x : Int} (x0 : 0 ≤ x) (x1 : x + 4 ≤ L) (rc : Nat → Nat → Nat → Nat → Int32 → dr_AH → Option (dr_RS × dr_AH)) (H : OPK (f_L_act 1 (i2 (c 0 (x + 1))) (i2 (c 0 (x + 2))) 56) (f_M_act 31 (i2 (c 0 (x + 1))) (i2 (c 0 (x + 2)))) L k h c) : ∃ h' c', f_L_law_469 rc 0 1 31 56 (i2 x) (wr h c) = rc 0 1 31 56 (i2 (x + 4)) (wr h' c') ∧ Sx L (k + 1) h' c' := by
  obtain ⟨kk, v, v', h1, c1, c2, k0, e1, e2, e3, e4, S', e5⟩ := H
  refine ⟨_, _, ?_, S'⟩
  have a0 := Sx_0 S
  have a1 := Sx_0 S'
  have hm := Sx_M S'
  have h5 := Sx_5 S'
  unfold f_L_law_469 f_L_law_1316
  simp (disch := omega) only [li_1, li_2, li_3, li_4, i2_add, r_ai a0, r_ai a1, e5, e1, e2, dr_ci', r_ci, vM_k hm, m_thrown hm, e3]
  rw [if_pos trivial]
  exact tl_i k0.1 k0.2 h5.1 h5.2 e4
theorem law_537 {L k : Nat} {h : dr_AH} {c : Nat → Int → Int} (S : Sx L k h c) (hL : L ≤ 2048) {x : Int} (x0 : 0 ≤ x) (x1 : x + 4 ≤ L) (rc : Nat → Nat → Nat → Nat → Int32 → dr_AH → Option (dr_RS × dr_AH)) (H : OPK (f_L_tick 1 (i2 (c 0 (x + 1))) 56) (f_M_tick 31 (i2 (c 0 (x + 1)))) L k h c) : ∃ h' c', f_L_law_537 rc 0 1 31 56 (i2 x) (wr h c) = rc 0 1 31 56 (i2 (x + 4)) (wr h' c') ∧ Sx L (k + 1) h' c' := by
  obtain ⟨kk, v, v', h1, c1, c2, k0, e1, e2, e3, e4, S', e5⟩ := H
  refine ⟨_, _, ?_, S'⟩
  have a0 := Sx_0 S
  have a1 := Sx_0 S'
  have hm := Sx_M S'
  have h5 := Sx_5 S'
  unfold f_L_law_537 f_L_law_1316
  simp (disch := omega) only [li_1, li_2, li_3, li_4, i2_add, r_ai a0, r_ai a1, e5, e1, e2, dr_ci', r_ci, vM_k hm, m_thrown hm, e3]
  rw [if_pos trivial]
  exact tl_i k0.1 k0.2 h5.1 h5.2 e4
theorem law_593 {L k : Nat} {h : dr_AH} {c : Nat → Int → Int} (S : Sx L k h c) (hL : L ≤ 2048) {x : Int} (x0 : 0 ≤ x) (x1 : x + 4 ≤ L) (rc : Nat → Nat → Nat → Nat → Int32 → dr_AH → Option (dr_RS × dr_AH)) (H : OPK (f_L_event 1 (i2 (c 0 (x + 1))) (i2 (c 0 (x + 2))) (i2 (c 0 (x + 3))) 56) (f_M_event 31 (i2 (c 0 (x + 1))) (i2 (c 0 (x + 2))) (i2 (c 0 (x + 3)))) L k h c) : ∃ h' c', f_L_law_593 rc 0 1 31 56 (i2 x) (wr h c) = rc 0 1 31 56 (i2 (x + 4)) (wr h' c') ∧ Sx L (k + 1) h' c' := by
  obtain ⟨kk, v, v', h1, c1, c2, k0, e1, e2, e3, e4, S', e5⟩ := H
  refine ⟨_, _, ?_, S'⟩
  have a0 := Sx_0 S
  have a1 := Sx_0 S'
  have hm := Sx_M S'
  have h5 := Sx_5 S'
  unfold f_L_law_593 f_L_law_1316
  simp (disch := omega) only [li_1, li_2, li_3, li_4, i2_add, r_ai a0, r_ai a1, e5, e1, e2, dr_ci', r_ci, vM_k hm, m_thrown hm, e3]
  rw [if_pos trivial]
  exact tl_i k0.1 k0.2 h5.1 h5.2 e4
theorem law_673 {L k : Nat} {h : dr_AH} {c : Nat → Int → Int} (S : Sx L k h c) (hL : L ≤ 2048) {x : Int} (x0 : 0 ≤ x) (x1 : x + 4 ≤ L) (rc : Nat → Nat → Nat → Nat → Int32 → dr_AH → Option (dr_RS × dr_AH)) (H : OPK (f_L_seen 1 (i2 (c 0 (x + 1))) (i2 (c 0 (x + 2))) (i2 (c 0 (x + 3))) 56) (f_M_seen 31 (i2 (c 0 (x + 1))) (i2 (c 0 (x + 2))) (i2 (c 0 (x + 3)))) L k h c) : ∃ h' c', f_L_law_673 rc 0 1 31 56 (i2 x) (wr h c) = rc 0 1 31 56 (i2 (x + 4)) (wr h' c') ∧ Sx L (k + 1) h' c' := by
  obtain ⟨kk, v, v', h1, c1, c2, k0, e1, e2, e3, e4, S', e5⟩ := H
  refine ⟨_, _, ?_, S'⟩
  have a0 := Sx_0 S
  have a1 := Sx_0 S'
  have hm := Sx_M S'
  have h5 := Sx_5 S'
  unfold f_L_law_673 f_L_law_1316
  simp (disch := omega) only [li_1, li_2, li_3, li_4, i2_add, r_ai a0, r_ai a1, e5, e1, e2, dr_ci', r_ci, vM_k hm, m_thrown hm, e3]
  rw [if_pos trivial]
  exact tl_i k0.1 k0.2 h5.1 h5.2 e4
theorem law_828 {L k : Nat} {h : dr_AH} {c : Nat → Int → Int} (S : Sx L k h c) (hL : L ≤ 2048) {x : Int} (x0 : 0 ≤ x) (x1 : x + 4 ≤ L) (rc : Nat → Nat → Nat → Nat → Int32 → dr_AH → Option (dr_RS × dr_AH)) (H : OPK (f_L_aim 1 (i2 (c 0 (x + 1))) (i2 (c 0 (x + 2))) 56) (f_M_aim 31 (i2 (c 0 (x + 1))) (i2 (c 0 (x + 2)))) L k h c) : ∃ h' c', f_L_law_828 rc 0 1 31 56 (i2 x) (wr h c) = rc 0 1 31 56 (i2 (x + 4)) (wr h' c') ∧ Sx L (k + 1) h' c' := by
  obtain ⟨kk, v, v', h1, c1, c2, k0, e1, e2, e3, e4, S', e5⟩ := H
  refine ⟨_, _, ?_, S'⟩
  have a0 := Sx_0 S
  have a1 := Sx_0 S'
  have hm := Sx_M S'
  have h5 := Sx_5 S'
  unfold f_L_law_828 f_L_law_1316
  simp (disch := omega) only [li_1, li_2, li_3, li_4, i2_add, r_ai a0, r_ai a1, e5, e1, e2, dr_ci', r_ci, vM_k hm, m_thrown hm, e3]
  rw [if_pos trivial]
  exact tl_i k0.1 k0.2 h5.1 h5.2 e4
theorem law_896 {L k : Nat} {h : dr_AH} {c : Nat → Int → Int} (S : Sx L k h c) (hL : L ≤ 2048) {x : Int} (x0 : 0 ≤ x) (x1 : x + 4 ≤ L) (rc : Nat → Nat → Nat → Nat → Int32 → dr_AH → Option (dr_RS × dr_AH)) (H : OPK (f_L_score 1 (i2 (c 0 (x + 1))) (i2 (c 0 (x + 2))) 56) (f_M_score 31 (i2 (c 0 (x + 1))) (i2 (c 0 (x + 2)))) L k h c) : ∃ h' c', f_L_law_896 rc 0 1 31 56 (i2 x) (wr h c) = rc 0 1 31 56 (i2 (x + 4)) (wr h' c') ∧ Sx L (k + 1) h' c' := by
  obtain ⟨kk, v, v', h1, c1, c2, k0, e1, e2, e3, e4, S', e5⟩ := H
  refine ⟨_, _, ?_, S'⟩
  have a0 := Sx_0 S
  have a1 := Sx_0 S'
  have hm := Sx_M S'
  have h5 := Sx_5 S'
  unfold f_L_law_896 f_L_law_1316
  simp (disch := omega) only [li_1, li_2, li_3, li_4, i2_add, r_ai a0, r_ai a1, e5, e1, e2, dr_ci', r_ci, vM_k hm, m_thrown hm, e3]
  rw [if_pos trivial]
  exact tl_i k0.1 k0.2 h5.1 h5.2 e4
theorem law_964 {L k : Nat} {h : dr_AH} {c : Nat → Int → Int} (S : Sx L k h c) (hL : L ≤ 2048) {x : Int} (x0 : 0 ≤ x) (x1 : x + 4 ≤ L) (rc : Nat → Nat → Nat → Nat → Int32 → dr_AH → Option (dr_RS × dr_AH)) (H : OPK (f_L_compare 1 (i2 (c 0 (x + 1))) (i2 (c 0 (x + 2))) 56) (f_M_compare 31 (i2 (c 0 (x + 1))) (i2 (c 0 (x + 2)))) L k h c) : ∃ h' c', f_L_law_964 rc 0 1 31 56 (i2 x) (wr h c) = rc 0 1 31 56 (i2 (x + 4)) (wr h' c') ∧ Sx L (k + 1) h' c' := by
  obtain ⟨kk, v, v', h1, c1, c2, k0, e1, e2, e3, e4, S', e5⟩ := H
  refine ⟨_, _, ?_, S'⟩
  have a0 := Sx_0 S
  have a1 := Sx_0 S'
  have hm := Sx_M S'
  have h5 := Sx_5 S'
  unfold f_L_law_964 f_L_law_1316
  simp (disch := omega) only [li_1, li_2, li_3, li_4, i2_add, r_ai a0, r_ai a1, e5, e1, e2, dr_ci', r_ci, vM_k hm, m_thrown hm, e3]
  rw [if_pos trivial]
  exact tl_i k0.1 k0.2 h5.1 h5.2 e4
theorem law_1032 {L k : Nat} {h : dr_AH} {c : Nat → Int → Int} (S : Sx L k h c) (hL : L ≤ 2048) {x : Int} (x0 : 0 ≤ x) (x1 : x + 4 ≤ L) (rc : Nat → Nat → Nat → Nat → Int32 → dr_AH → Option (dr_RS × dr_AH)) (H : OPK (f_L_observe 1 (i2 (c 0 (x + 1))) (i2 (c 0 (x + 2))) (i2 (c 0 (x + 3))) 56) (f_M_observe 31 (i2 (c 0 (x + 1))) (i2 (c 0 (x + 2))) (i2 (c 0 (x + 3)))) L k h c) : ∃ h' c', f_L_law_1032 rc 0 1 31 56 (i2 x) (wr h c) = rc 0 1 31 56 (i2 (x + 4)) (wr h' c') ∧ Sx L (k + 1) h' c' := by
  obtain ⟨kk, v, v', h1, c1, c2, k0, e1, e2, e3, e4, S', e5⟩ := H
  refine ⟨_, _, ?_, S'⟩
  have a0 := Sx_0 S
  have a1 := Sx_0 S'
  have hm := Sx_M S'
  have h5 := Sx_5 S'
  unfold f_L_law_1032 f_L_law_1316
  simp (disch := omega) only [li_1, li_2, li_3, li_4, i2_add, r_ai a0, r_ai a1, e5, e1, e2, dr_ci', r_ci, vM_k hm, m_thrown hm, e3]
  rw [if_pos trivial]
  exact tl_i k0.1 k0.2 h5.1 h5.2 e4
theorem law_1112 {L k : Nat} {h : dr_AH} {c : Nat → Int → Int} (S : Sx L k h c) (hL : L ≤ 2048) {x : Int} (x0 : 0 ≤ x) (x1 : x + 4 ≤ L) (rc : Nat → Nat → Nat → Nat → Int32 → dr_AH → Option (dr_RS × dr_AH)) (H : OPK (f_L_row 1 (i2 (c 0 (x + 1))) (i2 (c 0 (x + 2))) 56) (f_M_row 31 (i2 (c 0 (x + 1))) (i2 (c 0 (x + 2)))) L k h c) : ∃ h' c', f_L_law_1112 rc 0 1 31 56 (i2 x) (wr h c) = rc 0 1 31 56 (i2 (x + 4)) (wr h' c') ∧ Sx L (k + 1) h' c' := by
  obtain ⟨kk, v, v', h1, c1, c2, k0, e1, e2, e3, e4, S', e5⟩ := H
  refine ⟨_, _, ?_, S'⟩
  have a0 := Sx_0 S
  have a1 := Sx_0 S'
  have hm := Sx_M S'
  have h5 := Sx_5 S'
  unfold f_L_law_1112 f_L_law_1316
  simp (disch := omega) only [li_1, li_2, li_3, li_4, i2_add, r_ai a0, r_ai a1, e5, e1, e2, dr_ci', r_ci, vM_k hm, m_thrown hm, e3]
  rw [if_pos trivial]
  exact tl_i k0.1 k0.2 h5.1 h5.2 e4
theorem law_1180 {L k : Nat} {h : dr_AH} {c : Nat → Int → Int} (S : Sx L k h c) (hL : L ≤ 2048) {x : Int} (x0 : 0 ≤ x) (x1 : x + 4 ≤ L) (rc : Nat → Nat → Nat → Nat → Int32 → dr_AH → Option (dr_RS × dr_AH)) (H : OPK (f_L_play 1 (i2 (c 0 (x + 1))) (i2 (c 0 (x + 2))) 56) (f_M_play 31 (i2 (c 0 (x + 1))) (i2 (c 0 (x + 2)))) L k h c) : ∃ h' c', f_L_law_1180 rc 0 1 31 56 (i2 x) (wr h c) = rc 0 1 31 56 (i2 (x + 4)) (wr h' c') ∧ Sx L (k + 1) h' c' := by
  obtain ⟨kk, v, v', h1, c1, c2, k0, e1, e2, e3, e4, S', e5⟩ := H
  refine ⟨_, _, ?_, S'⟩
  have a0 := Sx_0 S
  have a1 := Sx_0 S'
  have hm := Sx_M S'
  have h5 := Sx_5 S'
  unfold f_L_law_1180 f_L_law_1316
  simp (disch := omega) only [li_1, li_2, li_3, li_4, i2_add, r_ai a0, r_ai a1, e5, e1, e2, dr_ci', r_ci, vM_k hm, m_thrown hm, e3]
  rw [if_pos trivial]
  exact tl_i k0.1 k0.2 h5.1 h5.2 e4
theorem law_1248 {L k : Nat} {h : dr_AH} {c : Nat → Int → Int} (S : Sx L k h c) (hL : L ≤ 2048) {x : Int} (x0 : 0 ≤ x) (x1 : x + 4 ≤ L) (rc : Nat → Nat → Nat → Nat → Int32 → dr_AH → Option (dr_RS × dr_AH)) (H : OPK (f_L_drill 1 (i2 (c 0 (x + 1))) (i2 (c 0 (x + 2))) 56) (f_M_drill 31 (i2 (c 0 (x + 1))) (i2 (c 0 (x + 2)))) L k h c) : ∃ h' c', f_L_law_1248 rc 0 1 31 56 (i2 x) (wr h c) = rc 0 1 31 56 (i2 (x + 4)) (wr h' c') ∧ Sx L (k + 1) h' c' := by
  obtain ⟨kk, v, v', h1, c1, c2, k0, e1, e2, e3, e4, S', e5⟩ := H
  refine ⟨_, _, ?_, S'⟩
  have a0 := Sx_0 S
  have a1 := Sx_0 S'
  have hm := Sx_M S'
  have h5 := Sx_5 S'
  unfold f_L_law_1248 f_L_law_1316
  simp (disch := omega) only [li_1, li_2, li_3, li_4, i2_add, r_ai a0, r_ai a1, e5, e1, e2, dr_ci', r_ci, vM_k hm, m_thrown hm, e3]
  rw [if_pos trivial]
  exact tl_i k0.1 k0.2 h5.1 h5.2 e4
theorem law_228 {L k : Nat} {h : dr_AH} {c : Nat → Int → Int} (S : Sx L k h c) (hL : L ≤ 2048) {x : Int} (x0 : 0 ≤ x) (x1 : x + 4 ≤ L) (rc : Nat → Nat → Nat → Nat → Int32 → dr_AH → Option (dr_RS × dr_AH)) (H : OPK (f_L_read 1  56) (f_M_read 31 ) L k h c) : ∃ h' c', f_L_law_228 rc 0 1 31 56 (i2 x) (wr h c) = rc 0 1 31 56 (i2 (x + 4)) (wr h' c') ∧ Sx L (k + 1) h' c' := by
  obtain ⟨kk, v, v', h1, c1, c2, k0, e1, e2, e3, e4, S', e5⟩ := H
  refine ⟨_, _, ?_, S'⟩
  have a0 := Sx_0 S
  have a1 := Sx_0 S'
  have hm := Sx_M S'
  have h5 := Sx_5 S'
  unfold f_L_law_228 f_L_law_1316
  simp (disch := omega) only [li_1, li_2, li_3, li_4, i2_add, r_ai a0, r_ai a1, e5, e1, e2, dr_ci', r_ci, vM_k hm, m_thrown hm, e3]
  rw [if_pos trivial]
  exact tl_i k0.1 k0.2 h5.1 h5.2 e4
theorem law_285 {L k : Nat} {h : dr_AH} {c : Nat → Int → Int} (S : Sx L k h c) (hL : L ≤ 2048) {x : Int} (x0 : 0 ≤ x) (x1 : x + 4 ≤ L) (rc : Nat → Nat → Nat → Nat → Int32 → dr_AH → Option (dr_RS × dr_AH)) (H : OPK (f_L_begin 1  56) (f_M_begin 31 ) L k h c) : ∃ h' c', f_L_law_285 rc 0 1 31 56 (i2 x) (wr h c) = rc 0 1 31 56 (i2 (x + 4)) (wr h' c') ∧ Sx L (k + 1) h' c' := by
  obtain ⟨kk, v, v', h1, c1, c2, k0, e1, e2, e3, e4, S', e5⟩ := H
  refine ⟨_, _, ?_, S'⟩
  have a0 := Sx_0 S
  have a1 := Sx_0 S'
  have hm := Sx_M S'
  have h5 := Sx_5 S'
  unfold f_L_law_285 f_L_law_1316
  simp (disch := omega) only [li_1, li_2, li_3, li_4, i2_add, r_ai a0, r_ai a1, e5, e1, e2, dr_ci', r_ci, vM_k hm, m_thrown hm, e3]
  rw [if_pos trivial]
  exact tl_i k0.1 k0.2 h5.1 h5.2 e4
/-- the faults' call answers a truth value -/
def OPB (fL fM : dr_AH → Option (dr_RS × dr_AH)) (L k : Nat) (h : dr_AH) (c : Nat → Int → Int) : Prop := ∃ (kk v : Int), (0 ≤ kk ∧ kk ≤ 3) ∧ (0 ≤ v ∧ v < 2) ∧ fL (wr h c) = some (.inl (some (.int (i2 kk))), wr (hE kk v h) c) ∧ ∀ h', LaM h' → fM (wr h' c) = some (.inl (some (.int (i2 v))), wr h' (up c 31 0 kk))
theorem law_753 {L k : Nat} {h : dr_AH} {c : Nat → Int → Int} (S : Sx L k h c) (hL : L ≤ 2048) {x : Int} (x0 : 0 ≤ x) (x1 : x + 4 ≤ L) (rc : Nat → Nat → Nat → Nat → Int32 → dr_AH → Option (dr_RS × dr_AH)) (H : OPB (f_L_fault 1 (i2 (c 0 (x + 1))) (i2 (c 0 (x + 2))) 56) (f_M_fault 31 (i2 (c 0 (x + 1))) (i2 (c 0 (x + 2)))) L k h c) : ∃ h' c', f_L_law_753 rc 0 1 31 56 (i2 x) (wr h c) = rc 0 1 31 56 (i2 (x + 4)) (wr h' c') ∧ Sx L (k + 1) h' c' := by
  obtain ⟨kk, v, k0, v0, e1, e2⟩ := H
  have S2 := S
  obtain ⟨nd, da, sa, cs, sp, S2⟩ := S2
  have S' : Sx L (k + 1) (hE kk v h) (up c 31 0 kk) := ⟨nd, da, sa, cs, sp, St_q S2 kk v⟩
  refine ⟨_, _, ?_, S'⟩
  have a0 := Sx_0 S
  have a1 := Sx_0 S'
  have hm := Sx_M S'
  have h5 := Sx_5 S'
  unfold f_L_law_753 f_L_law_1316
  simp (disch := omega) only [li_1, li_2, li_3, li_4, i2_add, r_ai a0, r_ai a1, e1, e2 _ hm, dr_ci', r_ci, vM_k hm, m_thrown hm, up_same]
  rw [if_pos trivial]
  exact tl_b k0.1 k0.2 v0.1 v0.2 h5.1 h5.2
theorem law_128 {L k : Nat} {h : dr_AH} {c : Nat → Int → Int} (S : Sx L k h c) (hL : L ≤ 2048) {x : Int} (x0 : 0 ≤ x) (x1 : x + 4 ≤ L) (rc : Nat → Nat → Nat → Nat → Int32 → dr_AH → Option (dr_RS × dr_AH)) (H : OPK (f_L_sign 1 (((Int32.toInt64 (i2 (c 0 (x + 1)))) <<< (Int32.toInt64 32 &&& 63)) ||| ((Int32.toInt64 (i2 (c 0 (x + 2)))) &&& 4294967295)) (i2 (c 0 (x + 3))) 56) (f_M_sign 31 (((Int32.toInt64 (i2 (c 0 (x + 1)))) <<< (Int32.toInt64 32 &&& 63)) ||| ((Int32.toInt64 (i2 (c 0 (x + 2)))) &&& 4294967295)) (i2 (c 0 (x + 3)))) L k h c) : ∃ h' c', f_L_law_128 rc 0 1 31 56 (i2 x) (wr h c) = rc 0 1 31 56 (i2 (x + 4)) (wr h' c') ∧ Sx L (k + 1) h' c' := by
  obtain ⟨kk, v, v', h1, c1, c2, k0, e1, e2, e3, e4, S', e5⟩ := H
  refine ⟨_, _, ?_, S'⟩
  have a0 := Sx_0 S
  have a1 := Sx_0 S'
  have hm := Sx_M S'
  have h5 := Sx_5 S'
  unfold f_L_law_128 f_L_law_1316
  simp (disch := omega) only [li_1, li_2, li_3, li_4, i2_add, r_ai a0, r_ai a1, e5, e1, e2, dr_ci', r_ci, vM_k hm, m_thrown hm, e3]
  rw [if_pos trivial]
  exact tl_i k0.1 k0.2 h5.1 h5.2 e4
theorem law_329 {L k : Nat} {h : dr_AH} {c : Nat → Int → Int} (S : Sx L k h c) (hL : L ≤ 2048) {x : Int} (x0 : 0 ≤ x) (x1 : x + 4 ≤ L) (rc : Nat → Nat → Nat → Nat → Int32 → dr_AH → Option (dr_RS × dr_AH)) (H : OPV (f_L_stop 1 (i2 (c 0 (x + 1)))) (f_M_stop 31 (i2 (c 0 (x + 1)))) L k h c) : ∃ h' c', f_L_law_329 rc 0 1 31 56 (i2 x) (wr h c) = rc 0 1 31 56 (i2 (x + 4)) (wr h' c') ∧ Sx L (k + 1) h' c' := by
  obtain ⟨kk, h1, c1, c2, e1, e2, e3, S', e5⟩ := H
  refine ⟨_, _, ?_, S'⟩
  have a0 := Sx_0 S
  have a1 := Sx_0 S'
  have hm := Sx_M S'
  unfold f_L_law_329 f_L_law_1316
  simp (disch := omega) only [li_1, li_2, li_3, li_4, i2_add, r_ai a0, r_ai a1, e5, e1, e2, dr_ci', dr_cv', r_cv, r_ci, vM_k hm, m_thrown hm, e3, ↓reduceIte]
theorem law_365 {L k : Nat} {h : dr_AH} {c : Nat → Int → Int} (S : Sx L k h c) (hL : L ≤ 2048) {x : Int} (x0 : 0 ≤ x) (x1 : x + 4 ≤ L) (rc : Nat → Nat → Nat → Nat → Int32 → dr_AH → Option (dr_RS × dr_AH)) (H : OPV (f_L_unit 1 (i2 (c 0 (x + 1))) (i2 (c 0 (x + 2)))) (f_M_unit 31 (i2 (c 0 (x + 1))) (i2 (c 0 (x + 2)))) L k h c) : ∃ h' c', f_L_law_365 rc 0 1 31 56 (i2 x) (wr h c) = rc 0 1 31 56 (i2 (x + 4)) (wr h' c') ∧ Sx L (k + 1) h' c' := by
  obtain ⟨kk, h1, c1, c2, e1, e2, e3, S', e5⟩ := H
  refine ⟨_, _, ?_, S'⟩
  have a0 := Sx_0 S
  have a1 := Sx_0 S'
  have hm := Sx_M S'
  unfold f_L_law_365 f_L_law_1316
  simp (disch := omega) only [li_1, li_2, li_3, li_4, i2_add, r_ai a0, r_ai a1, e5, e1, e2, dr_ci', dr_cv', r_cv, r_ci, vM_k hm, m_thrown hm, e3, ↓reduceIte]
theorem law_272 {L k : Nat} {h : dr_AH} {c : Nat → Int → Int} (S : Sx L k h c) (hL : L ≤ 2048) {x : Int} (x0 : 0 ≤ x) (x1 : x + 4 ≤ L) (rc : Nat → Nat → Nat → Nat → Int32 → dr_AH → Option (dr_RS × dr_AH)) : ∃ h' c', f_L_law_272 rc 0 1 31 56 (i2 x) (wr h c) = rc 0 1 31 56 (i2 (x + 4)) (wr h' c') ∧ Sx L (k + 1) h' c' := by
  have S2 := S
  obtain ⟨nd, da, sa, cs, sp, S2⟩ := S2
  have hR := S2.1.2.2.1
  have hT := S2.2.2.2.1.1
  have S' := St_q S2 0 0
  obtain ⟨s1, s2, s3, s4, s5, s6, s7, s8⟩ := S'
  have hm := Sx_M S
  refine ⟨h, up c 31 0 0, ?_, ⟨nd, da, sa, cs, sp, S2.1, S2.2.1, s3, s4, s5, s6, by have := S2.2.2.2.2.2.2.1; omega, by have := S2.2.2.2.2.2.2.2; omega⟩⟩
  unfold f_L_law_272 f_L_law_1316 f_R_place
  simp (disch := omega) only [li_4, i2_add, vR_k hR, vR_g3 hR, dr_ci', r_ci, vM_k hm, m_place hm, hT.1, ↓reduceIte]
theorem law_1316 {L k : Nat} {h : dr_AH} {c : Nat → Int → Int} (S : Sx L k h c) (hL : L ≤ 2048) {x : Int} (x0 : 0 ≤ x) (x1 : x + 4 ≤ L) (rc : Nat → Nat → Nat → Nat → Int32 → dr_AH → Option (dr_RS × dr_AH)) : ∃ h' c', f_L_law_1316 rc 0 1 31 56 (i2 x) (wr h c) = rc 0 1 31 56 (i2 (x + 4)) (wr h' c') ∧ Sx L (k + 1) h' c' := by
  obtain ⟨nd, da, sa, cs, sp, S2⟩ := S
  refine ⟨h, c, ?_, ⟨nd, da, sa, cs, sp, S2.1, S2.2.1, S2.2.2.1, S2.2.2.2.1, S2.2.2.2.2.1, S2.2.2.2.2.2.1, by have := S2.2.2.2.2.2.2.1; omega, by have := S2.2.2.2.2.2.2.2; omega⟩⟩
  unfold f_L_law_1316
  simp (disch := omega) only [li_4, i2_add]
