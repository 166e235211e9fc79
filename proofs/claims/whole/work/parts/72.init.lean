/-! ===== by program (wip/whole/gen/init.py): what is made anew ===== -/
theorem al_st {h : dr_AH} {c : Nat → Int → Int} {s ci slot k n : Nat} (hk : (h.2.2 s).1 = ci) (hs : s ≤ h.1) (hn : n ≤ 100000) (r1 : h.1 < 601024) (r2 : h.2.1 + n ≤ 7293034) :
    ∃ h' : dr_AH, (∀ K : dr_AH → Option (dr_RS × dr_AH), dr_na (wr h c) k (.int 0) (i2 (n : Int)) (fun a h3 => dr_pf h3 ci s slot (.ref a) K) = K (wr h' (zer c (h.1 + 1)))) ∧ h'.1 = h.1 + 1 ∧ h'.2.1 = h.2.1 + n ∧ (∀ b, b ≤ h.1 → b ≠ s → h'.2.2 b = h.2.2 b) ∧ h'.2.2 (h.1 + 1) = (100 + k, n, fun _ => .int 0) ∧ (h'.2.2 s).1 = ci ∧ (∀ j, j ≠ slot → (h'.2.2 s).2.2 j = (h.2.2 s).2.2 j) ∧ (h'.2.2 s).2.2 slot = .ref (h.1 + 1) := by
  have e0 : (dr_push h (100 + k, n, fun _ => .int 0)).2.2 s = h.2.2 s := push_lo hs
  refine ⟨dr_put (dr_push h (100 + k, n, fun _ => .int 0)) s slot (.ref (h.1 + 1)), fun K => ?_, rfl, rfl, fun b b1 b2 => ?_, ?_, ?_, fun j hj => ?_, ?_⟩
  · rw [r_na rfl hn r1 r2, r_pr (by rw [e0]; exact hk)]
  · rw [put_ne b2, push_lo b1]
  · rw [put_ne (by omega), push_hi]
  · rw [put_eq, e0]; exact hk
  · rw [put_eq, e0]
    exact if_neg hj
  · rw [put_eq, e0]
    exact if_pos rfl
theorem rp_st {h : dr_AH} {c : Nat → Int → Int} {s ci slot b : Nat} (hk : (h.2.2 s).1 = ci) :
    ∃ h' : dr_AH, (∀ K : dr_AH → Option (dr_RS × dr_AH), dr_pf (wr h c) ci s slot (.ref b) K = K (wr h' c)) ∧ h'.1 = h.1 ∧ h'.2.1 = h.2.1 ∧ (∀ b, b ≠ s → h'.2.2 b = h.2.2 b) ∧ (h'.2.2 s).1 = ci ∧ (∀ j, j ≠ slot → (h'.2.2 s).2.2 j = (h.2.2 s).2.2 j) ∧ (h'.2.2 s).2.2 slot = .ref b := by
  refine ⟨dr_put h s slot (.ref b), fun K => r_pr hk, rfl, rfl, fun b b2 => put_ne b2, ?_, fun j hj => ?_, ?_⟩
  · rw [put_eq]; exact hk
  · rw [put_eq]; exact if_neg hj
  · rw [put_eq]; exact if_pos rfl
theorem sA_o {h : dr_AH} {a k n : Nat} (e : h.2.2 a = (k, n, fun _ => .int 0)) : sA h a k n := by
  unfold sA sI
  rw [e]
  exact ⟨rfl, rfl, fun j _ => ⟨0, rfl⟩⟩
theorem zer_n (c : Nat → Int → Int) {a q : Nat} {j : Int} (h : q ≠ a) : zer c a q j = c q j := if_neg h
theorem zer_y (c : Nat → Int → Int) (a : Nat) (j : Int) : zer c a a j = 0 := if_pos rfl
theorem fil_n (c : Nat → Int → Int) {a b : Nat} {j x i : Int} (h : ¬ (b = a ∧ 0 ≤ i ∧ i < j)) : fil c a j x b i = c b i := if_neg h
theorem fil_y (c : Nat → Int → Int) {a : Nat} {j x i : Int} (h1 : 0 ≤ i) (h2 : i < j) : fil c a j x a i = x := if_pos ⟨rfl, h1, h2⟩
theorem s_init {h : dr_AH} {c : Nat → Int → Int} {s : Nat} (hs : h.1 = s) (hk : (h.2.2 s).1 = 1) (z7 : sI h s 7) (z12 : sI h s 12) (r1 : h.1 + 11 < 601024) (r2 : h.2.1 + 371 ≤ 7293034) :
    ∃ (h' : dr_AH) (c' : Nat → Int → Int), f_S_init s (wr h c) = some (.inl none, wr h' c') ∧ h'.1 = s + 11 ∧ h'.2.1 = h.2.1 + 371 ∧ LaS h' s ∧ (∀ a, a < s → h'.2.2 a = h.2.2 a) ∧ (∀ q j, q < s ∨ s + 11 < q → c' q j = c q j) ∧ (∀ q j, s < q → q ≤ s + 11 → c' q j = 0) ∧ c' s 7 = 0 ∧ c' s 12 = 0 := by
  obtain ⟨h1, e1, p1, q1, f1, n1, k1, o1, v1⟩ := al_st (c := c) (slot := 0) (k := 2) (n := 41) hk (by omega) (by omega) (by omega) (by omega)
  obtain ⟨h2, e2, p2, q2, f2, n2, k2, o2, v2⟩ := al_st (c := (zer c (h.1 + 1))) (slot := 1) (k := 0) (n := 41) k1 (by omega) (by omega) (by omega) (by omega)
  obtain ⟨h3, e3, p3, q3, f3, n3, k3, o3, v3⟩ := al_st (c := (zer (zer c (h.1 + 1)) (h1.1 + 1))) (slot := 2) (k := 0) (n := 41) k2 (by omega) (by omega) (by omega) (by omega)
  obtain ⟨h4, e4, p4, q4, f4, n4, k4, o4, v4⟩ := al_st (c := (zer (zer (zer c (h.1 + 1)) (h1.1 + 1)) (h2.1 + 1))) (slot := 3) (k := 0) (n := 41) k3 (by omega) (by omega) (by omega) (by omega)
  obtain ⟨h5, e5, p5, q5, f5, n5, k5, o5, v5⟩ := al_st (c := (zer (zer (zer (zer c (h.1 + 1)) (h1.1 + 1)) (h2.1 + 1)) (h3.1 + 1))) (slot := 4) (k := 0) (n := 41) k4 (by omega) (by omega) (by omega) (by omega)
  obtain ⟨h6, e6, p6, q6, f6, n6, k6, o6, v6⟩ := al_st (c := (zer (zer (zer (zer (zer c (h.1 + 1)) (h1.1 + 1)) (h2.1 + 1)) (h3.1 + 1)) (h4.1 + 1))) (slot := 5) (k := 2) (n := 41) k5 (by omega) (by omega) (by omega) (by omega)
  obtain ⟨h7, e7, p7, q7, f7, n7, k7, o7, v7⟩ := al_st (c := (zer (zer (zer (zer (zer (zer c (h.1 + 1)) (h1.1 + 1)) (h2.1 + 1)) (h3.1 + 1)) (h4.1 + 1)) (h5.1 + 1))) (slot := 6) (k := 0) (n := 41) k6 (by omega) (by omega) (by omega) (by omega)
  have y7_7 : sI h7 s 7 := by
    unfold sI
    rw [o7 7 (by decide), o6 7 (by decide), o5 7 (by decide), o4 7 (by decide), o3 7 (by decide), o2 7 (by decide), o1 7 (by decide)]
    exact z7
  have w7_7 : ∀ K : dr_AH → Option (dr_RS × dr_AH), dr_pf (wr h7 (zer (zer (zer (zer (zer (zer (zer c (h.1 + 1)) (h1.1 + 1)) (h2.1 + 1)) (h3.1 + 1)) (h4.1 + 1)) (h5.1 + 1)) (h6.1 + 1))) 1 s 7 (.int (i2 0)) K = K (wr h7 (up (zer (zer (zer (zer (zer (zer (zer c (h.1 + 1)) (h1.1 + 1)) (h2.1 + 1)) (h3.1 + 1)) (h4.1 + 1)) (h5.1 + 1)) (h6.1 + 1)) s 7 0)) := fun K => r_pf k7 y7_7
  obtain ⟨h8, e8, p8, q8, f8, n8, k8, o8, v8⟩ := al_st (c := (up (zer (zer (zer (zer (zer (zer (zer c (h.1 + 1)) (h1.1 + 1)) (h2.1 + 1)) (h3.1 + 1)) (h4.1 + 1)) (h5.1 + 1)) (h6.1 + 1)) s 7 0)) (slot := 8) (k := 0) (n := 21) k7 (by omega) (by omega) (by omega) (by omega)
  obtain ⟨h9, e9, p9, q9, f9, n9, k9, o9, v9⟩ := al_st (c := (zer (up (zer (zer (zer (zer (zer (zer (zer c (h.1 + 1)) (h1.1 + 1)) (h2.1 + 1)) (h3.1 + 1)) (h4.1 + 1)) (h5.1 + 1)) (h6.1 + 1)) s 7 0) (h7.1 + 1))) (slot := 9) (k := 0) (n := 21) k8 (by omega) (by omega) (by omega) (by omega)
  obtain ⟨h10, e10, p10, q10, f10, n10, k10, o10, v10⟩ := al_st (c := (zer (zer (up (zer (zer (zer (zer (zer (zer (zer c (h.1 + 1)) (h1.1 + 1)) (h2.1 + 1)) (h3.1 + 1)) (h4.1 + 1)) (h5.1 + 1)) (h6.1 + 1)) s 7 0) (h7.1 + 1)) (h8.1 + 1))) (slot := 10) (k := 0) (n := 21) k9 (by omega) (by omega) (by omega) (by omega)
  obtain ⟨h11, e11, p11, q11, f11, n11, k11, o11, v11⟩ := al_st (c := (zer (zer (zer (up (zer (zer (zer (zer (zer (zer (zer c (h.1 + 1)) (h1.1 + 1)) (h2.1 + 1)) (h3.1 + 1)) (h4.1 + 1)) (h5.1 + 1)) (h6.1 + 1)) s 7 0) (h7.1 + 1)) (h8.1 + 1)) (h9.1 + 1))) (slot := 11) (k := 0) (n := 21) k10 (by omega) (by omega) (by omega) (by omega)
  have y12_11 : sI h11 s 12 := by
    unfold sI
    rw [o11 12 (by decide), o10 12 (by decide), o9 12 (by decide), o8 12 (by decide), o7 12 (by decide), o6 12 (by decide), o5 12 (by decide), o4 12 (by decide), o3 12 (by decide), o2 12 (by decide), o1 12 (by decide)]
    exact z12
  have w12_11 : ∀ K : dr_AH → Option (dr_RS × dr_AH), dr_pf (wr h11 (zer (zer (zer (zer (up (zer (zer (zer (zer (zer (zer (zer c (h.1 + 1)) (h1.1 + 1)) (h2.1 + 1)) (h3.1 + 1)) (h4.1 + 1)) (h5.1 + 1)) (h6.1 + 1)) s 7 0) (h7.1 + 1)) (h8.1 + 1)) (h9.1 + 1)) (h10.1 + 1))) 1 s 12 (.int (i2 0)) K = K (wr h11 (up (zer (zer (zer (zer (up (zer (zer (zer (zer (zer (zer (zer c (h.1 + 1)) (h1.1 + 1)) (h2.1 + 1)) (h3.1 + 1)) (h4.1 + 1)) (h5.1 + 1)) (h6.1 + 1)) s 7 0) (h7.1 + 1)) (h8.1 + 1)) (h9.1 + 1)) (h10.1 + 1)) s 12 0)) := fun K => r_pf k11 y12_11
  refine ⟨h11, (up (zer (zer (zer (zer (up (zer (zer (zer (zer (zer (zer (zer c (h.1 + 1)) (h1.1 + 1)) (h2.1 + 1)) (h3.1 + 1)) (h4.1 + 1)) (h5.1 + 1)) (h6.1 + 1)) s 7 0) (h7.1 + 1)) (h8.1 + 1)) (h9.1 + 1)) (h10.1 + 1)) s 12 0), ?_, by omega, by omega, ?_, fun a ha => ?_, fun q j hq => ?_, ?_, ?_, ?_⟩
  · unfold f_S_init
    simp only [li_0, li_21, li_41]
    refine (e1 _).trans ?_
    refine (e2 _).trans ?_
    refine (e3 _).trans ?_
    refine (e4 _).trans ?_
    refine (e5 _).trans ?_
    refine (e6 _).trans ?_
    refine (e7 _).trans ?_
    refine (w7_7 _).trans ?_
    refine (e8 _).trans ?_
    refine (e9 _).trans ?_
    refine (e10 _).trans ?_
    refine (e11 _).trans ?_
    refine (w12_11 _).trans ?_
    rfl
  · have A0 := k11
    have S0 : sR h11 s 0 (s + 1) := by
      unfold sR
      rw [o11 0 (by decide), o10 0 (by decide), o9 0 (by decide), o8 0 (by decide), o7 0 (by decide), o6 0 (by decide), o5 0 (by decide), o4 0 (by decide), o3 0 (by decide), o2 0 (by decide), v1, show h.1 + 1 = s + 1 by omega]
    have S1 : sR h11 s 1 (s + 2) := by
      unfold sR
      rw [o11 1 (by decide), o10 1 (by decide), o9 1 (by decide), o8 1 (by decide), o7 1 (by decide), o6 1 (by decide), o5 1 (by decide), o4 1 (by decide), o3 1 (by decide), v2, show h1.1 + 1 = s + 2 by omega]
    have S2 : sR h11 s 2 (s + 3) := by
      unfold sR
      rw [o11 2 (by decide), o10 2 (by decide), o9 2 (by decide), o8 2 (by decide), o7 2 (by decide), o6 2 (by decide), o5 2 (by decide), o4 2 (by decide), v3, show h2.1 + 1 = s + 3 by omega]
    have S3 : sR h11 s 3 (s + 4) := by
      unfold sR
      rw [o11 3 (by decide), o10 3 (by decide), o9 3 (by decide), o8 3 (by decide), o7 3 (by decide), o6 3 (by decide), o5 3 (by decide), v4, show h3.1 + 1 = s + 4 by omega]
    have S4 : sR h11 s 4 (s + 5) := by
      unfold sR
      rw [o11 4 (by decide), o10 4 (by decide), o9 4 (by decide), o8 4 (by decide), o7 4 (by decide), o6 4 (by decide), v5, show h4.1 + 1 = s + 5 by omega]
    have S5 : sR h11 s 5 (s + 6) := by
      unfold sR
      rw [o11 5 (by decide), o10 5 (by decide), o9 5 (by decide), o8 5 (by decide), o7 5 (by decide), v6, show h5.1 + 1 = s + 6 by omega]
    have S6 : sR h11 s 6 (s + 7) := by
      unfold sR
      rw [o11 6 (by decide), o10 6 (by decide), o9 6 (by decide), o8 6 (by decide), v7, show h6.1 + 1 = s + 7 by omega]
    have S8 : sR h11 s 8 (s + 8) := by
      unfold sR
      rw [o11 8 (by decide), o10 8 (by decide), o9 8 (by decide), v8, show h7.1 + 1 = s + 8 by omega]
    have S9 : sR h11 s 9 (s + 9) := by
      unfold sR
      rw [o11 9 (by decide), o10 9 (by decide), v9, show h8.1 + 1 = s + 9 by omega]
    have S10 : sR h11 s 10 (s + 10) := by
      unfold sR
      rw [o11 10 (by decide), v10, show h9.1 + 1 = s + 10 by omega]
    have S11 : sR h11 s 11 (s + 11) := by
      unfold sR
      rw [v11, show h10.1 + 1 = s + 11 by omega]
    have I7 : sI h11 s 7 := by
      unfold sI
      rw [o11 7 (by decide), o10 7 (by decide), o9 7 (by decide), o8 7 (by decide), o7 7 (by decide), o6 7 (by decide), o5 7 (by decide), o4 7 (by decide), o3 7 (by decide), o2 7 (by decide), o1 7 (by decide)]
      exact z7
    have I12 : sI h11 s 12 := by
      unfold sI
      rw [o11 12 (by decide), o10 12 (by decide), o9 12 (by decide), o8 12 (by decide), o7 12 (by decide), o6 12 (by decide), o5 12 (by decide), o4 12 (by decide), o3 12 (by decide), o2 12 (by decide), o1 12 (by decide)]
      exact z12
    have A1 : sA h11 (s + 1) 102 41 := by
      refine sA_o ?_
      rw [f11 _ (by omega) (by omega), f10 _ (by omega) (by omega), f9 _ (by omega) (by omega), f8 _ (by omega) (by omega), f7 _ (by omega) (by omega), f6 _ (by omega) (by omega), f5 _ (by omega) (by omega), f4 _ (by omega) (by omega), f3 _ (by omega) (by omega), f2 _ (by omega) (by omega), show s + 1 = h.1 + 1 by omega, n1]
    have A2 : sA h11 (s + 2) 100 41 := by
      refine sA_o ?_
      rw [f11 _ (by omega) (by omega), f10 _ (by omega) (by omega), f9 _ (by omega) (by omega), f8 _ (by omega) (by omega), f7 _ (by omega) (by omega), f6 _ (by omega) (by omega), f5 _ (by omega) (by omega), f4 _ (by omega) (by omega), f3 _ (by omega) (by omega), show s + 2 = h1.1 + 1 by omega, n2]
    have A3 : sA h11 (s + 3) 100 41 := by
      refine sA_o ?_
      rw [f11 _ (by omega) (by omega), f10 _ (by omega) (by omega), f9 _ (by omega) (by omega), f8 _ (by omega) (by omega), f7 _ (by omega) (by omega), f6 _ (by omega) (by omega), f5 _ (by omega) (by omega), f4 _ (by omega) (by omega), show s + 3 = h2.1 + 1 by omega, n3]
    have A4 : sA h11 (s + 4) 100 41 := by
      refine sA_o ?_
      rw [f11 _ (by omega) (by omega), f10 _ (by omega) (by omega), f9 _ (by omega) (by omega), f8 _ (by omega) (by omega), f7 _ (by omega) (by omega), f6 _ (by omega) (by omega), f5 _ (by omega) (by omega), show s + 4 = h3.1 + 1 by omega, n4]
    have A5 : sA h11 (s + 5) 100 41 := by
      refine sA_o ?_
      rw [f11 _ (by omega) (by omega), f10 _ (by omega) (by omega), f9 _ (by omega) (by omega), f8 _ (by omega) (by omega), f7 _ (by omega) (by omega), f6 _ (by omega) (by omega), show s + 5 = h4.1 + 1 by omega, n5]
    have A6 : sA h11 (s + 6) 102 41 := by
      refine sA_o ?_
      rw [f11 _ (by omega) (by omega), f10 _ (by omega) (by omega), f9 _ (by omega) (by omega), f8 _ (by omega) (by omega), f7 _ (by omega) (by omega), show s + 6 = h5.1 + 1 by omega, n6]
    have A7 : sA h11 (s + 7) 100 41 := by
      refine sA_o ?_
      rw [f11 _ (by omega) (by omega), f10 _ (by omega) (by omega), f9 _ (by omega) (by omega), f8 _ (by omega) (by omega), show s + 7 = h6.1 + 1 by omega, n7]
    have A8 : sA h11 (s + 8) 100 21 := by
      refine sA_o ?_
      rw [f11 _ (by omega) (by omega), f10 _ (by omega) (by omega), f9 _ (by omega) (by omega), show s + 8 = h7.1 + 1 by omega, n8]
    have A9 : sA h11 (s + 9) 100 21 := by
      refine sA_o ?_
      rw [f11 _ (by omega) (by omega), f10 _ (by omega) (by omega), show s + 9 = h8.1 + 1 by omega, n9]
    have A10 : sA h11 (s + 10) 100 21 := by
      refine sA_o ?_
      rw [f11 _ (by omega) (by omega), show s + 10 = h9.1 + 1 by omega, n10]
    have A11 : sA h11 (s + 11) 100 21 := by
      refine sA_o ?_
      rw [show s + 11 = h10.1 + 1 by omega, n11]
    exact ⟨A0, S0, S1, S2, S3, S4, S5, S6, I7, S8, S9, S10, S11, I12, A1, A2, A3, A4, A5, A6, A7, A8, A9, A10, A11⟩
  · rw [f11 _ (by omega) (by omega), f10 _ (by omega) (by omega), f9 _ (by omega) (by omega), f8 _ (by omega) (by omega), f7 _ (by omega) (by omega), f6 _ (by omega) (by omega), f5 _ (by omega) (by omega), f4 _ (by omega) (by omega), f3 _ (by omega) (by omega), f2 _ (by omega) (by omega), f1 _ (by omega) (by omega)]
  · simp (disch := omega) only [zer_n, up_c31, fil_n]
  · intro q j q1 q2
    have : q = s + 1 ∨ q = s + 2 ∨ q = s + 3 ∨ q = s + 4 ∨ q = s + 5 ∨ q = s + 6 ∨ q = s + 7 ∨ q = s + 8 ∨ q = s + 9 ∨ q = s + 10 ∨ q = s + 11 := by omega
    rw [p11, p10, p9, p8, p7, p6, p5, p4, p3, p2, p1, hs] at *
    rcases this with e | e | e | e | e | e | e | e | e | e | e <;> subst e <;> simp (disch := omega) only [zer_n, up_c31, zer_y]
  · simp (disch := omega) only [zer_n, up_c31, up_same]
  · simp (disch := omega) only [zer_n, up_c31, up_same]
theorem d_init {h : dr_AH} {c : Nat → Int → Int} {s : Nat} {u : Nat} {v : Int} (hs : h.1 = s) (hk : (h.2.2 s).1 = 0) (z1 : sI h s 1) (z2 : sI h s 2) (z4 : sI h s 4) (z8 : sI h s 8) (r1 : h.1 + 4 < 601024) (r2 : h.2.1 + 181 ≤ 7293034) :
    ∃ (h' : dr_AH) (c' : Nat → Int → Int), f_D_init s u (i2 v) (wr h c) = some (.inl none, wr h' c') ∧ h'.1 = s + 4 ∧ h'.2.1 = h.2.1 + 181 ∧ LaD h' s u ∧ (∀ a, a < s → h'.2.2 a = h.2.2 a) ∧ (∀ q j, q < s ∨ s + 4 < q → c' q j = c q j) ∧ (c' s 1 = v ∧ c' s 2 = 1 ∧ c' s 4 = 0 ∧ c' s 8 = 0) ∧ (∀ j, 0 ≤ j → j < 41 → c' (s + 1) j = -1) ∧ (∀ j, 0 ≤ j → j < 20 → c' (s + 2) j = -1) := by
  have y2_0 : sI h s 2 := by
    unfold sI
    exact z2
  have w2_0 : ∀ K : dr_AH → Option (dr_RS × dr_AH), dr_pf (wr h c) 0 s 2 (.int (i2 1)) K = K (wr h (up c s 2 1)) := fun K => r_pf hk y2_0
  obtain ⟨h1, e1, p1, q1, f1, n1, k1, o1, v1⟩ := al_st (c := (up c s 2 1)) (slot := 3) (k := 0) (n := 41) hk (by omega) (by omega) (by omega) (by omega)
  have y4_1 : sI h1 s 4 := by
    unfold sI
    rw [o1 4 (by decide)]
    exact z4
  have w4_1 : ∀ K : dr_AH → Option (dr_RS × dr_AH), dr_pf (wr h1 (zer (up c s 2 1) (h.1 + 1))) 0 s 4 (.int (i2 0)) K = K (wr h1 (up (zer (up c s 2 1) (h.1 + 1)) s 4 0)) := fun K => r_pf k1 y4_1
  obtain ⟨h2, e2, p2, q2, f2, n2, k2, o2, v2⟩ := al_st (c := (up (zer (up c s 2 1) (h.1 + 1)) s 4 0)) (slot := 5) (k := 0) (n := 20) k1 (by omega) (by omega) (by omega) (by omega)
  obtain ⟨h3, e3, p3, q3, f3, n3, k3, o3, v3⟩ := al_st (c := (zer (up (zer (up c s 2 1) (h.1 + 1)) s 4 0) (h1.1 + 1))) (slot := 6) (k := 0) (n := 60) k2 (by omega) (by omega) (by omega) (by omega)
  obtain ⟨h4, e4, p4, q4, f4, n4, k4, o4, v4⟩ := al_st (c := (zer (zer (up (zer (up c s 2 1) (h.1 + 1)) s 4 0) (h1.1 + 1)) (h2.1 + 1))) (slot := 7) (k := 0) (n := 60) k3 (by omega) (by omega) (by omega) (by omega)
  have y8_4 : sI h4 s 8 := by
    unfold sI
    rw [o4 8 (by decide), o3 8 (by decide), o2 8 (by decide), o1 8 (by decide)]
    exact z8
  have w8_4 : ∀ K : dr_AH → Option (dr_RS × dr_AH), dr_pf (wr h4 (zer (zer (zer (up (zer (up c s 2 1) (h.1 + 1)) s 4 0) (h1.1 + 1)) (h2.1 + 1)) (h3.1 + 1))) 0 s 8 (.int (i2 0)) K = K (wr h4 (up (zer (zer (zer (up (zer (up c s 2 1) (h.1 + 1)) s 4 0) (h1.1 + 1)) (h2.1 + 1)) (h3.1 + 1)) s 8 0)) := fun K => r_pf k4 y8_4
  obtain ⟨h5, e5, p5, q5, f5, k5, o5, v5⟩ := rp_st (c := (up (zer (zer (zer (up (zer (up c s 2 1) (h.1 + 1)) s 4 0) (h1.1 + 1)) (h2.1 + 1)) (h3.1 + 1)) s 8 0)) (slot := 0) (b := u) k4
  have y1_5 : sI h5 s 1 := by
    unfold sI
    rw [o5 1 (by decide), o4 1 (by decide), o3 1 (by decide), o2 1 (by decide), o1 1 (by decide)]
    exact z1
  have w1_5 : ∀ K : dr_AH → Option (dr_RS × dr_AH), dr_pf (wr h5 (up (zer (zer (zer (up (zer (up c s 2 1) (h.1 + 1)) s 4 0) (h1.1 + 1)) (h2.1 + 1)) (h3.1 + 1)) s 8 0)) 0 s 1 (.int (i2 v)) K = K (wr h5 (up (up (zer (zer (zer (up (zer (up c s 2 1) (h.1 + 1)) s 4 0) (h1.1 + 1)) (h2.1 + 1)) (h3.1 + 1)) s 8 0) s 1 v)) := fun K => r_pf k5 y1_5
  have g1 : sA h5 (s + 1) 100 41 := by
    refine sA_o ?_
    rw [f5 _ (by omega), f4 _ (by omega) (by omega), f3 _ (by omega) (by omega), f2 _ (by omega) (by omega), show s + 1 = h.1 + 1 by omega, n1]
  have w1f : f_A_fill (s + 1) (i2 (-1)) (wr h5 (up (up (zer (zer (zer (up (zer (up c s 2 1) (h.1 + 1)) s 4 0) (h1.1 + 1)) (h2.1 + 1)) (h3.1 + 1)) s 8 0) s 1 v)) = some (.inl none, wr h5 (fil (up (up (zer (zer (zer (up (zer (up c s 2 1) (h.1 + 1)) s 4 0) (h1.1 + 1)) (h2.1 + 1)) (h3.1 + 1)) s 8 0) s 1 v) (s + 1) 41 (-1))) := a_fill g1 (by omega) (by omega)
  have x1 : sR h5 s 3 (s + 1) := by
    unfold sR
    rw [o5 3 (by decide), o4 3 (by decide), o3 3 (by decide), o2 3 (by decide), v1, show h.1 + 1 = s + 1 by omega]
  have u1 := fun (K : Nat → Option (dr_RS × dr_AH)) (K0 : Option (dr_RS × dr_AH)) => r_gr (c := (up (up (zer (zer (zer (up (zer (up c s 2 1) (h.1 + 1)) s 4 0) (h1.1 + 1)) (h2.1 + 1)) (h3.1 + 1)) s 8 0) s 1 v)) (K := K) (K0 := K0) k5 x1
  have g2 : sA h5 (s + 2) 100 20 := by
    refine sA_o ?_
    rw [f5 _ (by omega), f4 _ (by omega) (by omega), f3 _ (by omega) (by omega), show s + 2 = h1.1 + 1 by omega, n2]
  have w2f : f_A_fill (s + 2) (i2 (-1)) (wr h5 (fil (up (up (zer (zer (zer (up (zer (up c s 2 1) (h.1 + 1)) s 4 0) (h1.1 + 1)) (h2.1 + 1)) (h3.1 + 1)) s 8 0) s 1 v) (s + 1) 41 (-1))) = some (.inl none, wr h5 (fil (fil (up (up (zer (zer (zer (up (zer (up c s 2 1) (h.1 + 1)) s 4 0) (h1.1 + 1)) (h2.1 + 1)) (h3.1 + 1)) s 8 0) s 1 v) (s + 1) 41 (-1)) (s + 2) 20 (-1))) := a_fill g2 (by omega) (by omega)
  have x2 : sR h5 s 5 (s + 2) := by
    unfold sR
    rw [o5 5 (by decide), o4 5 (by decide), o3 5 (by decide), v2, show h1.1 + 1 = s + 2 by omega]
  have u2 := fun (K : Nat → Option (dr_RS × dr_AH)) (K0 : Option (dr_RS × dr_AH)) => r_gr (c := (fil (up (up (zer (zer (zer (up (zer (up c s 2 1) (h.1 + 1)) s 4 0) (h1.1 + 1)) (h2.1 + 1)) (h3.1 + 1)) s 8 0) s 1 v) (s + 1) 41 (-1))) (K := K) (K0 := K0) k5 x2
  refine ⟨h5, (fil (fil (up (up (zer (zer (zer (up (zer (up c s 2 1) (h.1 + 1)) s 4 0) (h1.1 + 1)) (h2.1 + 1)) (h3.1 + 1)) s 8 0) s 1 v) (s + 1) 41 (-1)) (s + 2) 20 (-1)), ?_, by omega, by omega, ?_, fun a ha => ?_, fun q j hq => ?_, ?_, ?_, ?_⟩
  · unfold f_D_init
    simp only [i2_neg, li_0, li_1, li_20, li_41, li_60]
    refine (w2_0 _).trans ?_
    refine (e1 _).trans ?_
    refine (w4_1 _).trans ?_
    refine (e2 _).trans ?_
    refine (e3 _).trans ?_
    refine (e4 _).trans ?_
    refine (w8_4 _).trans ?_
    refine (e5 _).trans ?_
    refine (w1_5 _).trans ?_
    refine (u1 _ _).trans ?_
    rw [w1f]
    refine r_cv.trans ?_
    refine (u2 _ _).trans ?_
    rw [w2f]
    refine r_cv.trans ?_
    rfl
  · have A0 := k5
    have S0 : sR h5 s 0 u := by
      unfold sR
      rw [v5]
    have S3 : sR h5 s 3 (s + 1) := by
      unfold sR
      rw [o5 3 (by decide), o4 3 (by decide), o3 3 (by decide), o2 3 (by decide), v1, show h.1 + 1 = s + 1 by omega]
    have S5 : sR h5 s 5 (s + 2) := by
      unfold sR
      rw [o5 5 (by decide), o4 5 (by decide), o3 5 (by decide), v2, show h1.1 + 1 = s + 2 by omega]
    have S6 : sR h5 s 6 (s + 3) := by
      unfold sR
      rw [o5 6 (by decide), o4 6 (by decide), v3, show h2.1 + 1 = s + 3 by omega]
    have S7 : sR h5 s 7 (s + 4) := by
      unfold sR
      rw [o5 7 (by decide), v4, show h3.1 + 1 = s + 4 by omega]
    have I1 : sI h5 s 1 := by
      unfold sI
      rw [o5 1 (by decide), o4 1 (by decide), o3 1 (by decide), o2 1 (by decide), o1 1 (by decide)]
      exact z1
    have I2 : sI h5 s 2 := by
      unfold sI
      rw [o5 2 (by decide), o4 2 (by decide), o3 2 (by decide), o2 2 (by decide), o1 2 (by decide)]
      exact z2
    have I4 : sI h5 s 4 := by
      unfold sI
      rw [o5 4 (by decide), o4 4 (by decide), o3 4 (by decide), o2 4 (by decide), o1 4 (by decide)]
      exact z4
    have I8 : sI h5 s 8 := by
      unfold sI
      rw [o5 8 (by decide), o4 8 (by decide), o3 8 (by decide), o2 8 (by decide), o1 8 (by decide)]
      exact z8
    have A1 : sA h5 (s + 1) 100 41 := by
      refine sA_o ?_
      rw [f5 _ (by omega), f4 _ (by omega) (by omega), f3 _ (by omega) (by omega), f2 _ (by omega) (by omega), show s + 1 = h.1 + 1 by omega, n1]
    have A2 : sA h5 (s + 2) 100 20 := by
      refine sA_o ?_
      rw [f5 _ (by omega), f4 _ (by omega) (by omega), f3 _ (by omega) (by omega), show s + 2 = h1.1 + 1 by omega, n2]
    have A3 : sA h5 (s + 3) 100 60 := by
      refine sA_o ?_
      rw [f5 _ (by omega), f4 _ (by omega) (by omega), show s + 3 = h2.1 + 1 by omega, n3]
    have A4 : sA h5 (s + 4) 100 60 := by
      refine sA_o ?_
      rw [f5 _ (by omega), show s + 4 = h3.1 + 1 by omega, n4]
    exact ⟨A0, S0, I1, I2, S3, I4, S5, S6, S7, I8, A1, A2, A3, A4⟩
  · rw [f5 _ (by omega), f4 _ (by omega) (by omega), f3 _ (by omega) (by omega), f2 _ (by omega) (by omega), f1 _ (by omega) (by omega)]
  · simp (disch := omega) only [zer_n, up_c31, fil_n]
  · simp (disch := omega) only [zer_n, up_c31, up_same, fil_n, and_self]
  · intro j j1 j2
    simp (disch := omega) only [fil_n, fil_y]
  · intro j j1 j2
    simp (disch := omega) only [fil_n, fil_y]
theorem t_init {h : dr_AH} {c : Nat → Int → Int} {s : Nat} (hs : h.1 = s) (hk : (h.2.2 s).1 = 2) (z1 : sI h s 1) (z2 : sI h s 2) (z3 : sI h s 3) (r1 : h.1 + 1 < 601024) (r2 : h.2.1 + 300 ≤ 7293034) :
    ∃ (h' : dr_AH) (c' : Nat → Int → Int), f_T_init s (wr h c) = some (.inl none, wr h' c') ∧ h'.1 = s + 1 ∧ h'.2.1 = h.2.1 + 300 ∧ (s = 2 → LaT h') ∧ (∀ a, a < s → h'.2.2 a = h.2.2 a) ∧ (∀ q j, q < s ∨ s + 1 < q → c' q j = c q j) ∧ c' s 1 = 0 := by
  obtain ⟨h1, e1, p1, q1, f1, n1, k1, o1, v1⟩ := al_st (c := c) (slot := 0) (k := 0) (n := 300) hk (by omega) (by omega) (by omega) (by omega)
  have y1_1 : sI h1 s 1 := by
    unfold sI
    rw [o1 1 (by decide)]
    exact z1
  have w1_1 : ∀ K : dr_AH → Option (dr_RS × dr_AH), dr_pf (wr h1 (zer c (h.1 + 1))) 2 s 1 (.int (i2 0)) K = K (wr h1 (up (zer c (h.1 + 1)) s 1 0)) := fun K => r_pf k1 y1_1
  have y2_1 : sI h1 s 2 := by
    unfold sI
    rw [o1 2 (by decide)]
    exact z2
  have w2_1 : ∀ K : dr_AH → Option (dr_RS × dr_AH), dr_pf (wr h1 (up (zer c (h.1 + 1)) s 1 0)) 2 s 2 (.int (i2 0)) K = K (wr h1 (up (up (zer c (h.1 + 1)) s 1 0) s 2 0)) := fun K => r_pf k1 y2_1
  have y3_1 : sI h1 s 3 := by
    unfold sI
    rw [o1 3 (by decide)]
    exact z3
  have w3_1 : ∀ K : dr_AH → Option (dr_RS × dr_AH), dr_pf (wr h1 (up (up (zer c (h.1 + 1)) s 1 0) s 2 0)) 2 s 3 (.int (i2 (-1))) K = K (wr h1 (up (up (up (zer c (h.1 + 1)) s 1 0) s 2 0) s 3 (-1))) := fun K => r_pf k1 y3_1
  refine ⟨h1, (up (up (up (zer c (h.1 + 1)) s 1 0) s 2 0) s 3 (-1)), ?_, by omega, by omega, ?_, fun a ha => ?_, fun q j hq => ?_, ?_⟩
  · unfold f_T_init
    simp only [i2_neg, li_0, li_1, li_300]
    refine (e1 _).trans ?_
    refine (w1_1 _).trans ?_
    refine (w2_1 _).trans ?_
    refine (w3_1 _).trans ?_
    rfl
  · have A0 := k1
    have S0 : sR h1 s 0 (s + 1) := by
      unfold sR
      rw [v1, show h.1 + 1 = s + 1 by omega]
    have I1 : sI h1 s 1 := by
      unfold sI
      rw [o1 1 (by decide)]
      exact z1
    have I2 : sI h1 s 2 := by
      unfold sI
      rw [o1 2 (by decide)]
      exact z2
    have I3 : sI h1 s 3 := by
      unfold sI
      rw [o1 3 (by decide)]
      exact z3
    have A1 : sA h1 (s + 1) 100 300 := by
      refine sA_o ?_
      rw [show s + 1 = h.1 + 1 by omega, n1]
    exact fun e31 => by subst e31; exact ⟨A0, S0, I1, I2, I3, A1⟩
  · rw [f1 _ (by omega) (by omega)]
  · simp (disch := omega) only [zer_n, up_c31, fil_n]
  · simp (disch := omega) only [zer_n, up_c31, up_same]
