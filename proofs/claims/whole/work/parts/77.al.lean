/-! ===== by program (wip/whole/gen/init2.py): the reference's constructor ===== -/
theorem li_210 : (210 : Int32) = i2 210 := rfl
theorem li_328 : (328 : Int32) = i2 328 := rfl
theorem li_410 : (410 : Int32) = i2 410 := rfl
theorem li_480 : (480 : Int32) = i2 480 := rfl
theorem al_s2 {h : dr_AH} {c : Nat → Int → Int} {s ci slot k n a B : Nat} {x : Int} (hx : x = (n : Int)) (hk : (h.2.2 s).1 = ci) (ha : h.1 + 1 = a) (hb : h.2.1 = B) (hs : s < a) (hn : n ≤ 100000) (r1 : a ≤ 601024) (r2 : B + n ≤ 7293034) :
    ∃ h' : dr_AH, (∀ K : dr_AH → Option (dr_RS × dr_AH), dr_na (wr h c) k (.int (i2 0)) (i2 x) (fun a h3 => dr_pf h3 ci s slot (.ref a) K) = K (wr h' (zer c a))) ∧ h'.1 + 1 = a + 1 ∧ h'.2.1 = B + n ∧ (∀ b, b < a → b ≠ s → h'.2.2 b = h.2.2 b) ∧ h'.2.2 a = (100 + k, n, fun _ => .int 0) ∧ (h'.2.2 s).1 = ci ∧ (∀ j, j ≠ slot → (h'.2.2 s).2.2 j = (h.2.2 s).2.2 j) ∧ (h'.2.2 s).2.2 slot = .ref a := by
  subst hx
  obtain ⟨h', e, p, q, f, n', k', o, v⟩ := al_st (c := c) (slot := slot) (k := k) (n := n) hk (by omega) hn (by omega) (by omega)
  rw [ha] at e n' v
  exact ⟨h', e, by omega, by omega, fun b b1 b2 => f b (by omega) b2, n', k', o, v⟩
theorem al_s3 {h : dr_AH} {c : Nat → Int → Int} {s ci slot k n a B C : Nat} {x : Int} (hx : x = (n : Int)) (hk : (h.2.2 s).1 = ci) (ha : h.1 + 1 = a) (hb : h.2.1 ≤ B) (hs : s < a) (hn : n ≤ 100000) (r1 : a ≤ 601024) (hC : B + n ≤ C) (r2 : C ≤ 7293034) :
    ∃ h' : dr_AH, (∀ K : dr_AH → Option (dr_RS × dr_AH), dr_na (wr h c) k (.int (i2 0)) (i2 x) (fun a h3 => dr_pf h3 ci s slot (.ref a) K) = K (wr h' (zer c a))) ∧ h'.1 + 1 = a + 1 ∧ h'.2.1 ≤ C ∧ (∀ b, b < a → b ≠ s → h'.2.2 b = h.2.2 b) ∧ h'.2.2 a = (100 + k, n, fun _ => .int 0) ∧ (h'.2.2 s).1 = ci ∧ (∀ j, j ≠ slot → (h'.2.2 s).2.2 j = (h.2.2 s).2.2 j) ∧ (h'.2.2 s).2.2 slot = .ref a := by
  obtain ⟨h', e, p, q, f, n', k', o, v⟩ := al_s2 (c := c) (slot := slot) (k := k) (n := n) (a := a) hx hk ha rfl hs hn r1 (by omega)
  exact ⟨h', e, p, by omega, f, n', k', o, v⟩
theorem zer_l (c : Nat → Int → Int) (a q : Nat) (j : Int) : zer c a q j = if q = a then 0 else c q j := rfl
theorem m_i219 {h : dr_AH} {c : Nat → Int → Int} (hm : LaM h) : ∀ (f m : Nat) (j : Int), 0 ≤ j → j + f = 20 → f < m → f_M_init_219 m 31 (i2 j) (wr h (fil c 51 j (-1))) = some (.inl none, wr h (fil c 51 20 (-1))) := by
  intro f
  induction f with
  | zero =>
    intro m j h1 h2 h3
    obtain ⟨m, rfl⟩ : ∃ k, m = k + 1 := ⟨m - 1, by omega⟩
    have e : j = 20 := by omega
    subst e
    rw [f_M_init_219]
    simp (disch := omega) only [li_0, li_1, li_2, li_3, li_4, li_5, li_6, li_7, li_8, li_9, li_10, li_11, li_12, li_13, li_14, li_15, li_16, li_17, li_18, li_19, li_20, li_21, li_31, li_32, li_33, li_40, li_41, li_43, li_48, li_57, li_59, li_60, li_61, li_62, li_64, li_97, li_99, li_100, li_101, li_102, li_112, li_119, li_126, li_189, li_255, li_300, li_369, li_400, li_999, li_5000, li_9999, li_12345, li_99999, li_1103515245, i2_add, i2_sub, i2_mul, i2_neg, i2_le, i2_lt, i2_eq, r_rz, r_ci, r_cx, r_cv, r_vx, r_cr, r_rx, dr_ci', dr_cv', dr_cr', dr_gr', dr_x0, ↓reduceIte, Int.reduceLE, Int.reduceLT, Int.reduceEq, Int.reduceNeg, Int.reduceAdd, Int.reduceSub, Int.reduceMul]
  | succ f ih =>
    intro m j h1 h2 h3
    obtain ⟨m, rfl⟩ : ∃ k, m = k + 1 := ⟨m - 1, by omega⟩
    have e2 : ¬ ((20 : Int) ≤ j) := by omega
    rw [f_M_init_219]
    simp (disch := omega) only [li_0, li_1, li_2, li_3, li_4, li_5, li_6, li_7, li_8, li_9, li_10, li_11, li_12, li_13, li_14, li_15, li_16, li_17, li_18, li_19, li_20, li_21, li_31, li_32, li_33, li_40, li_41, li_43, li_48, li_57, li_59, li_60, li_61, li_62, li_64, li_97, li_99, li_100, li_101, li_102, li_112, li_119, li_126, li_189, li_255, li_300, li_369, li_400, li_999, li_5000, li_9999, li_12345, li_99999, li_1103515245, i2_add, i2_sub, i2_mul, i2_neg, i2_le, i2_lt, i2_eq, r_rz, r_ci, r_cx, r_cv, r_vx, r_cr, r_rx, dr_ci', dr_cv', dr_cr', dr_gr', dr_x0, ↓reduceIte, Int.reduceLE, Int.reduceLT, Int.reduceEq, Int.reduceNeg, Int.reduceAdd, Int.reduceSub, Int.reduceMul, vM_k hm, vM_g0 hm, vM_p0 hm, vM_g1 hm, vM_p1 hm, vM_g2 hm, vM_p2 hm, vM_r3 hm, vM_g4 hm, vM_p4 hm, vM_g5 hm, vM_p5 hm, vM_g6 hm, vM_p6 hm, vM_r7 hm, vM_r8 hm, vM_r9 hm, vM_r10 hm, vM_r11 hm, vM_r12 hm, vM_r13 hm, vM_r14 hm, vM_r15 hm, vM_r16 hm, vM_r17 hm, vM_r18 hm, vM_g19 hm, vM_p19 hm, vM_r20 hm, vM_r21 hm, vM_r22 hm, vM_r23 hm, vM_r24 hm, vM_r25 hm, vM_r26 hm, vM_g27 hm, vM_p27 hm, vM_r28 hm, vM_r29 hm, vM_r30 hm, vM_r31 hm, vM_n32 hm, vM_a32 hm, vM_s32 hm, vM_n33 hm, vM_a33 hm, vM_s33 hm, vM_n34 hm, vM_a34 hm, vM_s34 hm, vM_n35 hm, vM_a35 hm, vM_s35 hm, vM_n36 hm, vM_a36 hm, vM_s36 hm, vM_n37 hm, vM_a37 hm, vM_s37 hm, vM_n38 hm, vM_a38 hm, vM_s38 hm, vM_n39 hm, vM_a39 hm, vM_s39 hm, vM_n40 hm, vM_a40 hm, vM_s40 hm, vM_n41 hm, vM_a41 hm, vM_s41 hm, vM_n42 hm, vM_a42 hm, vM_s42 hm, vM_n43 hm, vM_a43 hm, vM_s43 hm, vM_n44 hm, vM_a44 hm, vM_s44 hm, vM_n45 hm, vM_a45 hm, vM_s45 hm, vM_n46 hm, vM_a46 hm, vM_s46 hm, vM_n47 hm, vM_a47 hm, vM_s47 hm, vM_n48 hm, vM_a48 hm, vM_s48 hm, vM_n49 hm, vM_a49 hm, vM_s49 hm, vM_n50 hm, vM_a50 hm, vM_s50 hm, vM_n51 hm, vM_a51 hm, vM_s51 hm, vM_n52 hm, vM_a52 hm, vM_s52 hm, vM_n53 hm, vM_a53 hm, vM_s53 hm, vM_n54 hm, vM_a54 hm, vM_s54 hm, vM_n55 hm, vM_a55 hm, vM_s55 hm, e2, fil_s, ih]
theorem an_st {h : dr_AH} {c : Nat → Int → Int} {s ci slot k n a B : Nat} (hk : (h.2.2 s).1 = ci) (ha : h.1 + 1 = a) (hb : h.2.1 = B) (hs : s < a) (hn : n ≤ 100000) (r1 : a ≤ 601024) (r2 : B + n ≤ 7293034) :
    ∃ h' : dr_AH, (∀ K : dr_AH → Option (dr_RS × dr_AH), dr_na (wr h c) k .null (i2 (n : Int)) (fun a h3 => dr_pf h3 ci s slot (.ref a) K) = K (wr h' c)) ∧ h'.1 + 1 = a + 1 ∧ h'.2.1 = B + n ∧ (∀ b, b < a → b ≠ s → h'.2.2 b = h.2.2 b) ∧ h'.2.2 a = (100 + k, n, fun _ => .null) ∧ (h'.2.2 s).1 = ci ∧ (∀ j, j ≠ slot → (h'.2.2 s).2.2 j = (h.2.2 s).2.2 j) ∧ (h'.2.2 s).2.2 slot = .ref a := by
  have e1 : (i2 (n : Int)).toInt = n := i2_in (by omega) (by omega)
  have e2 : (i2 (n : Int)).toNatClampNeg = n := by rw [i2_nat (by omega) (by omega)]; omega
  have e0 : (dr_push h (100 + k, n, fun _ => .null)).2.2 s = h.2.2 s := push_lo (by omega)
  refine ⟨dr_put (dr_push h (100 + k, n, fun _ => .null)) s slot (.ref a), fun K => ?_, by show h.1 + 1 + 1 = a + 1; omega, by show h.2.1 + n = B + n; omega, fun b b1 b2 => ?_, ?_, ?_, fun j hj => ?_, ?_⟩
  · unfold dr_na
    rw [cc_n, sc_n, if_pos (show ((0 ≤ (i2 (n : Int)).toInt ∧ (i2 (n : Int)).toInt ≤ 100000) ∧ (wr h c).1 < 601024 ∧ (wr h c).2.1 + (i2 (n : Int)).toNatClampNeg ≤ 7293034) by rw [e1, e2]; exact ⟨⟨by omega, by omega⟩, by show h.1 < 601024; omega, by show h.2.1 + n ≤ 7293034; omega⟩), e2, wr_push (fun j y => by simp)]
    show dr_pf (wr (dr_push h (100 + k, n, fun _ => .null)) c) ci s slot (.ref (h.1 + 1)) K = _
    rw [r_pr (by rw [e0]; exact hk), ha]
  · rw [put_ne b2, push_lo (by omega)]
  · rw [put_ne (by omega), ← ha, push_hi]
  · rw [put_eq, e0]; exact hk
  · rw [put_eq, e0]; exact if_neg hj
  · rw [put_eq, e0]; exact if_pos rfl
/-- a new object -/
theorem nw_st {h : dr_AH} {c : Nat → Int → Int} {ci N a B : Nat} {f : Nat → Value} (ha : h.1 + 1 = a) (hb : h.2.1 = B) (r1 : a ≤ 601024) (r2 : B + N ≤ 7293034) (hf : ∀ j y, f j = .int y → y = 0) :
    ∃ h' : dr_AH, (∀ K : Nat → dr_AH → Option (dr_RS × dr_AH), dr_nw (wr h c) ci N f K = K a (wr h' (zer c a))) ∧ h'.1 = a ∧ h'.2.1 = B + N ∧ (∀ b, b < a → h'.2.2 b = h.2.2 b) ∧ h'.2.2 a = (ci, N, f) := by
  refine ⟨dr_push h (ci, N, f), fun K => ?_, ha, by show h.2.1 + N = B + N; omega, fun b hb' => push_lo (by omega), ?_⟩
  · rw [r_nw (by omega) (by omega) hf, ha]
  · rw [← ha, push_hi]
theorem nT_0 : ∀ j y, defaultValue (nt_T j) = .int y → y = 0 := by
  intro j y
  unfold nt_T
  split <;> (intro e; first | (injection e with e; exact e.symm) | (exact absurd e (by simp [defaultValue])))
theorem nR_0 : ∀ j y, defaultValue (nt_R j) = .int y → y = 0 := by
  intro j y
  unfold nt_R
  split <;> (intro e; first | (injection e with e; exact e.symm) | (exact absurd e (by simp [defaultValue])))
theorem nM_0 : ∀ j y, defaultValue (nt_M j) = .int y → y = 0 := by
  intro j y
  unfold nt_M
  split <;> (intro e; first | (injection e with e; exact e.symm) | (exact absurd e (by simp [defaultValue])))
