/-! ===== by program (wip/whole/gen/init2.py): the reference's constructor ===== -/
set_option maxHeartbeats 20000000 in
theorem m_init {h : dr_AH} {c : Nat → Int → Int} (hs : h.1 + 1 = 32) (hb : h.2.1 ≤ 2100) (hk : (h.2.2 31).1 = 4) (z0 : sI h 31 0) (z1 : sI h 31 1) (z2 : sI h 31 2) (z4 : sI h 31 4) (z5 : sI h 31 5) (z6 : sI h 31 6) (z19 : sI h 31 19) (z27 : sI h 31 27) :
    ∃ (h' : dr_AH) (c' : Nat → Int → Int), f_M_init 31 (wr h c) = some (.inl none, wr h' c') ∧ h'.1 + 1 = 56 ∧ h'.2.1 ≤ 8052 ∧ LaM h' ∧ (∀ a, a < 31 → h'.2.2 a = h.2.2 a) ∧ (∀ q j, q < 31 ∨ 55 < q → c' q j = c q j) ∧ c' 31 4 = -1 ∧ (∀ j, j ≠ 4 → c' 31 j = c 31 j) ∧ (∀ q j, 32 ≤ q → q ≤ 55 → q ≠ 51 → c' q j = 0) ∧ (∀ j, 0 ≤ j → j < 20 → c' 51 j = -1) := by
  obtain ⟨h1, e1, p1, q1, f1, n1, k1, o1, v1⟩ := al_s3 (c := c) (s := 31) (slot := 3) (k := 0) (n := 300) (a := 32) (C := 2400) (x := 300) rfl hk hs hb (by decide) (by decide) (by decide) (by decide) (by decide)
  have y4 : sI h1 31 4 := by
    unfold sI
    rw [o1 4 (by decide)]
    exact z4
  have w4 : ∀ K : dr_AH → Option (dr_RS × dr_AH), dr_pf (wr h1 (zer c 32)) 4 31 4 (.int (i2 (-1))) K = K (wr h1 (up (zer c 32) 31 4 (-1))) := fun K => r_pf k1 y4
  obtain ⟨h2, e2, p2, q2, f2, n2, k2, o2, v2⟩ := al_s3 (c := (up (zer c 32) 31 4 (-1))) (s := 31) (slot := 7) (k := 2) (n := 410) (a := 33) (C := 2810) (x := 410) rfl k1 p1 q1 (by decide) (by decide) (by decide) (by decide) (by decide)
  obtain ⟨h3, e3, p3, q3, f3, n3, k3, o3, v3⟩ := al_s3 (c := (zer (up (zer c 32) 31 4 (-1)) 33)) (s := 31) (slot := 8) (k := 0) (n := 410) (a := 34) (C := 3220) (x := 410) rfl k2 p2 q2 (by decide) (by decide) (by decide) (by decide) (by decide)
  obtain ⟨h4, e4, p4, q4, f4, n4, k4, o4, v4⟩ := al_s3 (c := (zer (zer (up (zer c 32) 31 4 (-1)) 33) 34)) (s := 31) (slot := 9) (k := 0) (n := 410) (a := 35) (C := 3630) (x := 410) rfl k3 p3 q3 (by decide) (by decide) (by decide) (by decide) (by decide)
  obtain ⟨h5, e5, p5, q5, f5, n5, k5, o5, v5⟩ := al_s3 (c := (zer (zer (zer (up (zer c 32) 31 4 (-1)) 33) 34) 35)) (s := 31) (slot := 10) (k := 0) (n := 410) (a := 36) (C := 4040) (x := 410) rfl k4 p4 q4 (by decide) (by decide) (by decide) (by decide) (by decide)
  obtain ⟨h6, e6, p6, q6, f6, n6, k6, o6, v6⟩ := al_s3 (c := (zer (zer (zer (zer (up (zer c 32) 31 4 (-1)) 33) 34) 35) 36)) (s := 31) (slot := 11) (k := 0) (n := 410) (a := 37) (C := 4450) (x := 410) rfl k5 p5 q5 (by decide) (by decide) (by decide) (by decide) (by decide)
  obtain ⟨h7, e7, p7, q7, f7, n7, k7, o7, v7⟩ := al_s3 (c := (zer (zer (zer (zer (zer (up (zer c 32) 31 4 (-1)) 33) 34) 35) 36) 37)) (s := 31) (slot := 12) (k := 2) (n := 410) (a := 38) (C := 4860) (x := 410) rfl k6 p6 q6 (by decide) (by decide) (by decide) (by decide) (by decide)
  obtain ⟨h8, e8, p8, q8, f8, n8, k8, o8, v8⟩ := al_s3 (c := (zer (zer (zer (zer (zer (zer (up (zer c 32) 31 4 (-1)) 33) 34) 35) 36) 37) 38)) (s := 31) (slot := 13) (k := 0) (n := 410) (a := 39) (C := 5270) (x := 410) rfl k7 p7 q7 (by decide) (by decide) (by decide) (by decide) (by decide)
  obtain ⟨h9, e9, p9, q9, f9, n9, k9, o9, v9⟩ := al_s3 (c := (zer (zer (zer (zer (zer (zer (zer (up (zer c 32) 31 4 (-1)) 33) 34) 35) 36) 37) 38) 39)) (s := 31) (slot := 14) (k := 2) (n := 210) (a := 40) (C := 5480) (x := 210) rfl k8 p8 q8 (by decide) (by decide) (by decide) (by decide) (by decide)
  obtain ⟨h10, e10, p10, q10, f10, n10, k10, o10, v10⟩ := al_s3 (c := (zer (zer (zer (zer (zer (zer (zer (zer (up (zer c 32) 31 4 (-1)) 33) 34) 35) 36) 37) 38) 39) 40)) (s := 31) (slot := 15) (k := 0) (n := 210) (a := 41) (C := 5690) (x := 210) rfl k9 p9 q9 (by decide) (by decide) (by decide) (by decide) (by decide)
  obtain ⟨h11, e11, p11, q11, f11, n11, k11, o11, v11⟩ := al_s3 (c := (zer (zer (zer (zer (zer (zer (zer (zer (zer (up (zer c 32) 31 4 (-1)) 33) 34) 35) 36) 37) 38) 39) 40) 41)) (s := 31) (slot := 16) (k := 0) (n := 210) (a := 42) (C := 5900) (x := 210) rfl k10 p10 q10 (by decide) (by decide) (by decide) (by decide) (by decide)
  obtain ⟨h12, e12, p12, q12, f12, n12, k12, o12, v12⟩ := al_s3 (c := (zer (zer (zer (zer (zer (zer (zer (zer (zer (zer (up (zer c 32) 31 4 (-1)) 33) 34) 35) 36) 37) 38) 39) 40) 41) 42)) (s := 31) (slot := 17) (k := 0) (n := 210) (a := 43) (C := 6110) (x := 210) rfl k11 p11 q11 (by decide) (by decide) (by decide) (by decide) (by decide)
  obtain ⟨h13, e13, p13, q13, f13, n13, k13, o13, v13⟩ := al_s3 (c := (zer (zer (zer (zer (zer (zer (zer (zer (zer (zer (zer (up (zer c 32) 31 4 (-1)) 33) 34) 35) 36) 37) 38) 39) 40) 41) 42) 43)) (s := 31) (slot := 18) (k := 0) (n := 210) (a := 44) (C := 6320) (x := 210) rfl k12 p12 q12 (by decide) (by decide) (by decide) (by decide) (by decide)
  obtain ⟨h14, e14, p14, q14, f14, n14, k14, o14, v14⟩ := al_s3 (c := (zer (zer (zer (zer (zer (zer (zer (zer (zer (zer (zer (zer (up (zer c 32) 31 4 (-1)) 33) 34) 35) 36) 37) 38) 39) 40) 41) 42) 43) 44)) (s := 31) (slot := 20) (k := 0) (n := 8) (a := 45) (C := 6328) (x := 8) rfl k13 p13 q13 (by decide) (by decide) (by decide) (by decide) (by decide)
  obtain ⟨h15, e15, p15, q15, f15, n15, k15, o15, v15⟩ := al_s3 (c := (zer (zer (zer (zer (zer (zer (zer (zer (zer (zer (zer (zer (zer (up (zer c 32) 31 4 (-1)) 33) 34) 35) 36) 37) 38) 39) 40) 41) 42) 43) 44) 45)) (s := 31) (slot := 21) (k := 2) (n := 8) (a := 46) (C := 6336) (x := 8) rfl k14 p14 q14 (by decide) (by decide) (by decide) (by decide) (by decide)
  obtain ⟨h16, e16, p16, q16, f16, n16, k16, o16, v16⟩ := al_s3 (c := (zer (zer (zer (zer (zer (zer (zer (zer (zer (zer (zer (zer (zer (zer (up (zer c 32) 31 4 (-1)) 33) 34) 35) 36) 37) 38) 39) 40) 41) 42) 43) 44) 45) 46)) (s := 31) (slot := 22) (k := 0) (n := 328) (a := 47) (C := 6664) (x := 328) rfl k15 p15 q15 (by decide) (by decide) (by decide) (by decide) (by decide)
  obtain ⟨h17, e17, p17, q17, f17, n17, k17, o17, v17⟩ := al_s3 (c := (zer (zer (zer (zer (zer (zer (zer (zer (zer (zer (zer (zer (zer (zer (zer (up (zer c 32) 31 4 (-1)) 33) 34) 35) 36) 37) 38) 39) 40) 41) 42) 43) 44) 45) 46) 47)) (s := 31) (slot := 23) (k := 0) (n := 8) (a := 48) (C := 6672) (x := 8) rfl k16 p16 q16 (by decide) (by decide) (by decide) (by decide) (by decide)
  obtain ⟨h18, e18, p18, q18, f18, n18, k18, o18, v18⟩ := al_s3 (c := (zer (zer (zer (zer (zer (zer (zer (zer (zer (zer (zer (zer (zer (zer (zer (zer (up (zer c 32) 31 4 (-1)) 33) 34) 35) 36) 37) 38) 39) 40) 41) 42) 43) 44) 45) 46) 47) 48)) (s := 31) (slot := 24) (k := 0) (n := 480) (a := 49) (C := 7152) (x := 480) rfl k17 p17 q17 (by decide) (by decide) (by decide) (by decide) (by decide)
  obtain ⟨h19, e19, p19, q19, f19, n19, k19, o19, v19⟩ := al_s3 (c := (zer (zer (zer (zer (zer (zer (zer (zer (zer (zer (zer (zer (zer (zer (zer (zer (zer (up (zer c 32) 31 4 (-1)) 33) 34) 35) 36) 37) 38) 39) 40) 41) 42) 43) 44) 45) 46) 47) 48) 49)) (s := 31) (slot := 25) (k := 0) (n := 480) (a := 50) (C := 7632) (x := 480) rfl k18 p18 q18 (by decide) (by decide) (by decide) (by decide) (by decide)
  obtain ⟨h20, e20, p20, q20, f20, n20, k20, o20, v20⟩ := al_s3 (c := (zer (zer (zer (zer (zer (zer (zer (zer (zer (zer (zer (zer (zer (zer (zer (zer (zer (zer (up (zer c 32) 31 4 (-1)) 33) 34) 35) 36) 37) 38) 39) 40) 41) 42) 43) 44) 45) 46) 47) 48) 49) 50)) (s := 31) (slot := 26) (k := 0) (n := 20) (a := 51) (C := 7652) (x := 20) rfl k19 p19 q19 (by decide) (by decide) (by decide) (by decide) (by decide)
  obtain ⟨h21, e21, p21, q21, f21, n21, k21, o21, v21⟩ := al_s3 (c := (zer (zer (zer (zer (zer (zer (zer (zer (zer (zer (zer (zer (zer (zer (zer (zer (zer (zer (zer (up (zer c 32) 31 4 (-1)) 33) 34) 35) 36) 37) 38) 39) 40) 41) 42) 43) 44) 45) 46) 47) 48) 49) 50) 51)) (s := 31) (slot := 28) (k := 0) (n := 100) (a := 52) (C := 7752) (x := 100) rfl k20 p20 q20 (by decide) (by decide) (by decide) (by decide) (by decide)
  obtain ⟨h22, e22, p22, q22, f22, n22, k22, o22, v22⟩ := al_s3 (c := (zer (zer (zer (zer (zer (zer (zer (zer (zer (zer (zer (zer (zer (zer (zer (zer (zer (zer (zer (zer (up (zer c 32) 31 4 (-1)) 33) 34) 35) 36) 37) 38) 39) 40) 41) 42) 43) 44) 45) 46) 47) 48) 49) 50) 51) 52)) (s := 31) (slot := 29) (k := 0) (n := 100) (a := 53) (C := 7852) (x := 100) rfl k21 p21 q21 (by decide) (by decide) (by decide) (by decide) (by decide)
  obtain ⟨h23, e23, p23, q23, f23, n23, k23, o23, v23⟩ := al_s3 (c := (zer (zer (zer (zer (zer (zer (zer (zer (zer (zer (zer (zer (zer (zer (zer (zer (zer (zer (zer (zer (zer (up (zer c 32) 31 4 (-1)) 33) 34) 35) 36) 37) 38) 39) 40) 41) 42) 43) 44) 45) 46) 47) 48) 49) 50) 51) 52) 53)) (s := 31) (slot := 30) (k := 0) (n := 100) (a := 54) (C := 7952) (x := 100) rfl k22 p22 q22 (by decide) (by decide) (by decide) (by decide) (by decide)
  obtain ⟨h24, e24, p24, q24, f24, n24, k24, o24, v24⟩ := al_s3 (c := (zer (zer (zer (zer (zer (zer (zer (zer (zer (zer (zer (zer (zer (zer (zer (zer (zer (zer (zer (zer (zer (zer (up (zer c 32) 31 4 (-1)) 33) 34) 35) 36) 37) 38) 39) 40) 41) 42) 43) 44) 45) 46) 47) 48) 49) 50) 51) 52) 53) 54)) (s := 31) (slot := 31) (k := 2) (n := 100) (a := 55) (C := 8052) (x := 100) rfl k23 p23 q23 (by decide) (by decide) (by decide) (by decide) (by decide)
  have hLM : LaM h24 := by
    have S3 : sR h24 31 3 32 := by
      unfold sR
      rw [o24 3 (by decide), o23 3 (by decide), o22 3 (by decide), o21 3 (by decide), o20 3 (by decide), o19 3 (by decide), o18 3 (by decide), o17 3 (by decide), o16 3 (by decide), o15 3 (by decide), o14 3 (by decide), o13 3 (by decide), o12 3 (by decide), o11 3 (by decide), o10 3 (by decide), o9 3 (by decide), o8 3 (by decide), o7 3 (by decide), o6 3 (by decide), o5 3 (by decide), o4 3 (by decide), o3 3 (by decide), o2 3 (by decide), v1]
    have S7 : sR h24 31 7 33 := by
      unfold sR
      rw [o24 7 (by decide), o23 7 (by decide), o22 7 (by decide), o21 7 (by decide), o20 7 (by decide), o19 7 (by decide), o18 7 (by decide), o17 7 (by decide), o16 7 (by decide), o15 7 (by decide), o14 7 (by decide), o13 7 (by decide), o12 7 (by decide), o11 7 (by decide), o10 7 (by decide), o9 7 (by decide), o8 7 (by decide), o7 7 (by decide), o6 7 (by decide), o5 7 (by decide), o4 7 (by decide), o3 7 (by decide), v2]
    have S8 : sR h24 31 8 34 := by
      unfold sR
      rw [o24 8 (by decide), o23 8 (by decide), o22 8 (by decide), o21 8 (by decide), o20 8 (by decide), o19 8 (by decide), o18 8 (by decide), o17 8 (by decide), o16 8 (by decide), o15 8 (by decide), o14 8 (by decide), o13 8 (by decide), o12 8 (by decide), o11 8 (by decide), o10 8 (by decide), o9 8 (by decide), o8 8 (by decide), o7 8 (by decide), o6 8 (by decide), o5 8 (by decide), o4 8 (by decide), v3]
    have S9 : sR h24 31 9 35 := by
      unfold sR
      rw [o24 9 (by decide), o23 9 (by decide), o22 9 (by decide), o21 9 (by decide), o20 9 (by decide), o19 9 (by decide), o18 9 (by decide), o17 9 (by decide), o16 9 (by decide), o15 9 (by decide), o14 9 (by decide), o13 9 (by decide), o12 9 (by decide), o11 9 (by decide), o10 9 (by decide), o9 9 (by decide), o8 9 (by decide), o7 9 (by decide), o6 9 (by decide), o5 9 (by decide), v4]
    have S10 : sR h24 31 10 36 := by
      unfold sR
      rw [o24 10 (by decide), o23 10 (by decide), o22 10 (by decide), o21 10 (by decide), o20 10 (by decide), o19 10 (by decide), o18 10 (by decide), o17 10 (by decide), o16 10 (by decide), o15 10 (by decide), o14 10 (by decide), o13 10 (by decide), o12 10 (by decide), o11 10 (by decide), o10 10 (by decide), o9 10 (by decide), o8 10 (by decide), o7 10 (by decide), o6 10 (by decide), v5]
    have S11 : sR h24 31 11 37 := by
      unfold sR
      rw [o24 11 (by decide), o23 11 (by decide), o22 11 (by decide), o21 11 (by decide), o20 11 (by decide), o19 11 (by decide), o18 11 (by decide), o17 11 (by decide), o16 11 (by decide), o15 11 (by decide), o14 11 (by decide), o13 11 (by decide), o12 11 (by decide), o11 11 (by decide), o10 11 (by decide), o9 11 (by decide), o8 11 (by decide), o7 11 (by decide), v6]
    have S12 : sR h24 31 12 38 := by
      unfold sR
      rw [o24 12 (by decide), o23 12 (by decide), o22 12 (by decide), o21 12 (by decide), o20 12 (by decide), o19 12 (by decide), o18 12 (by decide), o17 12 (by decide), o16 12 (by decide), o15 12 (by decide), o14 12 (by decide), o13 12 (by decide), o12 12 (by decide), o11 12 (by decide), o10 12 (by decide), o9 12 (by decide), o8 12 (by decide), v7]
    have S13 : sR h24 31 13 39 := by
      unfold sR
      rw [o24 13 (by decide), o23 13 (by decide), o22 13 (by decide), o21 13 (by decide), o20 13 (by decide), o19 13 (by decide), o18 13 (by decide), o17 13 (by decide), o16 13 (by decide), o15 13 (by decide), o14 13 (by decide), o13 13 (by decide), o12 13 (by decide), o11 13 (by decide), o10 13 (by decide), o9 13 (by decide), v8]
    have S14 : sR h24 31 14 40 := by
      unfold sR
      rw [o24 14 (by decide), o23 14 (by decide), o22 14 (by decide), o21 14 (by decide), o20 14 (by decide), o19 14 (by decide), o18 14 (by decide), o17 14 (by decide), o16 14 (by decide), o15 14 (by decide), o14 14 (by decide), o13 14 (by decide), o12 14 (by decide), o11 14 (by decide), o10 14 (by decide), v9]
    have S15 : sR h24 31 15 41 := by
      unfold sR
      rw [o24 15 (by decide), o23 15 (by decide), o22 15 (by decide), o21 15 (by decide), o20 15 (by decide), o19 15 (by decide), o18 15 (by decide), o17 15 (by decide), o16 15 (by decide), o15 15 (by decide), o14 15 (by decide), o13 15 (by decide), o12 15 (by decide), o11 15 (by decide), v10]
    have S16 : sR h24 31 16 42 := by
      unfold sR
      rw [o24 16 (by decide), o23 16 (by decide), o22 16 (by decide), o21 16 (by decide), o20 16 (by decide), o19 16 (by decide), o18 16 (by decide), o17 16 (by decide), o16 16 (by decide), o15 16 (by decide), o14 16 (by decide), o13 16 (by decide), o12 16 (by decide), v11]
    have S17 : sR h24 31 17 43 := by
      unfold sR
      rw [o24 17 (by decide), o23 17 (by decide), o22 17 (by decide), o21 17 (by decide), o20 17 (by decide), o19 17 (by decide), o18 17 (by decide), o17 17 (by decide), o16 17 (by decide), o15 17 (by decide), o14 17 (by decide), o13 17 (by decide), v12]
    have S18 : sR h24 31 18 44 := by
      unfold sR
      rw [o24 18 (by decide), o23 18 (by decide), o22 18 (by decide), o21 18 (by decide), o20 18 (by decide), o19 18 (by decide), o18 18 (by decide), o17 18 (by decide), o16 18 (by decide), o15 18 (by decide), o14 18 (by decide), v13]
    have S20 : sR h24 31 20 45 := by
      unfold sR
      rw [o24 20 (by decide), o23 20 (by decide), o22 20 (by decide), o21 20 (by decide), o20 20 (by decide), o19 20 (by decide), o18 20 (by decide), o17 20 (by decide), o16 20 (by decide), o15 20 (by decide), v14]
    have S21 : sR h24 31 21 46 := by
      unfold sR
      rw [o24 21 (by decide), o23 21 (by decide), o22 21 (by decide), o21 21 (by decide), o20 21 (by decide), o19 21 (by decide), o18 21 (by decide), o17 21 (by decide), o16 21 (by decide), v15]
    have S22 : sR h24 31 22 47 := by
      unfold sR
      rw [o24 22 (by decide), o23 22 (by decide), o22 22 (by decide), o21 22 (by decide), o20 22 (by decide), o19 22 (by decide), o18 22 (by decide), o17 22 (by decide), v16]
    have S23 : sR h24 31 23 48 := by
      unfold sR
      rw [o24 23 (by decide), o23 23 (by decide), o22 23 (by decide), o21 23 (by decide), o20 23 (by decide), o19 23 (by decide), o18 23 (by decide), v17]
    have S24 : sR h24 31 24 49 := by
      unfold sR
      rw [o24 24 (by decide), o23 24 (by decide), o22 24 (by decide), o21 24 (by decide), o20 24 (by decide), o19 24 (by decide), v18]
    have S25 : sR h24 31 25 50 := by
      unfold sR
      rw [o24 25 (by decide), o23 25 (by decide), o22 25 (by decide), o21 25 (by decide), o20 25 (by decide), v19]
    have S26 : sR h24 31 26 51 := by
      unfold sR
      rw [o24 26 (by decide), o23 26 (by decide), o22 26 (by decide), o21 26 (by decide), v20]
    have S28 : sR h24 31 28 52 := by
      unfold sR
      rw [o24 28 (by decide), o23 28 (by decide), o22 28 (by decide), v21]
    have S29 : sR h24 31 29 53 := by
      unfold sR
      rw [o24 29 (by decide), o23 29 (by decide), v22]
    have S30 : sR h24 31 30 54 := by
      unfold sR
      rw [o24 30 (by decide), v23]
    have S31 : sR h24 31 31 55 := by
      unfold sR
      rw [v24]
    have I0 : sI h24 31 0 := by
      unfold sI
      rw [o24 0 (by decide), o23 0 (by decide), o22 0 (by decide), o21 0 (by decide), o20 0 (by decide), o19 0 (by decide), o18 0 (by decide), o17 0 (by decide), o16 0 (by decide), o15 0 (by decide), o14 0 (by decide), o13 0 (by decide), o12 0 (by decide), o11 0 (by decide), o10 0 (by decide), o9 0 (by decide), o8 0 (by decide), o7 0 (by decide), o6 0 (by decide), o5 0 (by decide), o4 0 (by decide), o3 0 (by decide), o2 0 (by decide), o1 0 (by decide)]
      exact z0
    have I1 : sI h24 31 1 := by
      unfold sI
      rw [o24 1 (by decide), o23 1 (by decide), o22 1 (by decide), o21 1 (by decide), o20 1 (by decide), o19 1 (by decide), o18 1 (by decide), o17 1 (by decide), o16 1 (by decide), o15 1 (by decide), o14 1 (by decide), o13 1 (by decide), o12 1 (by decide), o11 1 (by decide), o10 1 (by decide), o9 1 (by decide), o8 1 (by decide), o7 1 (by decide), o6 1 (by decide), o5 1 (by decide), o4 1 (by decide), o3 1 (by decide), o2 1 (by decide), o1 1 (by decide)]
      exact z1
    have I2 : sI h24 31 2 := by
      unfold sI
      rw [o24 2 (by decide), o23 2 (by decide), o22 2 (by decide), o21 2 (by decide), o20 2 (by decide), o19 2 (by decide), o18 2 (by decide), o17 2 (by decide), o16 2 (by decide), o15 2 (by decide), o14 2 (by decide), o13 2 (by decide), o12 2 (by decide), o11 2 (by decide), o10 2 (by decide), o9 2 (by decide), o8 2 (by decide), o7 2 (by decide), o6 2 (by decide), o5 2 (by decide), o4 2 (by decide), o3 2 (by decide), o2 2 (by decide), o1 2 (by decide)]
      exact z2
    have I4 : sI h24 31 4 := by
      unfold sI
      rw [o24 4 (by decide), o23 4 (by decide), o22 4 (by decide), o21 4 (by decide), o20 4 (by decide), o19 4 (by decide), o18 4 (by decide), o17 4 (by decide), o16 4 (by decide), o15 4 (by decide), o14 4 (by decide), o13 4 (by decide), o12 4 (by decide), o11 4 (by decide), o10 4 (by decide), o9 4 (by decide), o8 4 (by decide), o7 4 (by decide), o6 4 (by decide), o5 4 (by decide), o4 4 (by decide), o3 4 (by decide), o2 4 (by decide), o1 4 (by decide)]
      exact z4
    have I5 : sI h24 31 5 := by
      unfold sI
      rw [o24 5 (by decide), o23 5 (by decide), o22 5 (by decide), o21 5 (by decide), o20 5 (by decide), o19 5 (by decide), o18 5 (by decide), o17 5 (by decide), o16 5 (by decide), o15 5 (by decide), o14 5 (by decide), o13 5 (by decide), o12 5 (by decide), o11 5 (by decide), o10 5 (by decide), o9 5 (by decide), o8 5 (by decide), o7 5 (by decide), o6 5 (by decide), o5 5 (by decide), o4 5 (by decide), o3 5 (by decide), o2 5 (by decide), o1 5 (by decide)]
      exact z5
    have I6 : sI h24 31 6 := by
      unfold sI
      rw [o24 6 (by decide), o23 6 (by decide), o22 6 (by decide), o21 6 (by decide), o20 6 (by decide), o19 6 (by decide), o18 6 (by decide), o17 6 (by decide), o16 6 (by decide), o15 6 (by decide), o14 6 (by decide), o13 6 (by decide), o12 6 (by decide), o11 6 (by decide), o10 6 (by decide), o9 6 (by decide), o8 6 (by decide), o7 6 (by decide), o6 6 (by decide), o5 6 (by decide), o4 6 (by decide), o3 6 (by decide), o2 6 (by decide), o1 6 (by decide)]
      exact z6
    have I19 : sI h24 31 19 := by
      unfold sI
      rw [o24 19 (by decide), o23 19 (by decide), o22 19 (by decide), o21 19 (by decide), o20 19 (by decide), o19 19 (by decide), o18 19 (by decide), o17 19 (by decide), o16 19 (by decide), o15 19 (by decide), o14 19 (by decide), o13 19 (by decide), o12 19 (by decide), o11 19 (by decide), o10 19 (by decide), o9 19 (by decide), o8 19 (by decide), o7 19 (by decide), o6 19 (by decide), o5 19 (by decide), o4 19 (by decide), o3 19 (by decide), o2 19 (by decide), o1 19 (by decide)]
      exact z19
    have I27 : sI h24 31 27 := by
      unfold sI
      rw [o24 27 (by decide), o23 27 (by decide), o22 27 (by decide), o21 27 (by decide), o20 27 (by decide), o19 27 (by decide), o18 27 (by decide), o17 27 (by decide), o16 27 (by decide), o15 27 (by decide), o14 27 (by decide), o13 27 (by decide), o12 27 (by decide), o11 27 (by decide), o10 27 (by decide), o9 27 (by decide), o8 27 (by decide), o7 27 (by decide), o6 27 (by decide), o5 27 (by decide), o4 27 (by decide), o3 27 (by decide), o2 27 (by decide), o1 27 (by decide)]
      exact z27
    have A1 : sA h24 32 100 300 := by
      refine sA_o ?_
      rw [f24 32 (by decide) (by decide), f23 32 (by decide) (by decide), f22 32 (by decide) (by decide), f21 32 (by decide) (by decide), f20 32 (by decide) (by decide), f19 32 (by decide) (by decide), f18 32 (by decide) (by decide), f17 32 (by decide) (by decide), f16 32 (by decide) (by decide), f15 32 (by decide) (by decide), f14 32 (by decide) (by decide), f13 32 (by decide) (by decide), f12 32 (by decide) (by decide), f11 32 (by decide) (by decide), f10 32 (by decide) (by decide), f9 32 (by decide) (by decide), f8 32 (by decide) (by decide), f7 32 (by decide) (by decide), f6 32 (by decide) (by decide), f5 32 (by decide) (by decide), f4 32 (by decide) (by decide), f3 32 (by decide) (by decide), f2 32 (by decide) (by decide), n1]
    have A2 : sA h24 33 102 410 := by
      refine sA_o ?_
      rw [f24 33 (by decide) (by decide), f23 33 (by decide) (by decide), f22 33 (by decide) (by decide), f21 33 (by decide) (by decide), f20 33 (by decide) (by decide), f19 33 (by decide) (by decide), f18 33 (by decide) (by decide), f17 33 (by decide) (by decide), f16 33 (by decide) (by decide), f15 33 (by decide) (by decide), f14 33 (by decide) (by decide), f13 33 (by decide) (by decide), f12 33 (by decide) (by decide), f11 33 (by decide) (by decide), f10 33 (by decide) (by decide), f9 33 (by decide) (by decide), f8 33 (by decide) (by decide), f7 33 (by decide) (by decide), f6 33 (by decide) (by decide), f5 33 (by decide) (by decide), f4 33 (by decide) (by decide), f3 33 (by decide) (by decide), n2]
    have A3 : sA h24 34 100 410 := by
      refine sA_o ?_
      rw [f24 34 (by decide) (by decide), f23 34 (by decide) (by decide), f22 34 (by decide) (by decide), f21 34 (by decide) (by decide), f20 34 (by decide) (by decide), f19 34 (by decide) (by decide), f18 34 (by decide) (by decide), f17 34 (by decide) (by decide), f16 34 (by decide) (by decide), f15 34 (by decide) (by decide), f14 34 (by decide) (by decide), f13 34 (by decide) (by decide), f12 34 (by decide) (by decide), f11 34 (by decide) (by decide), f10 34 (by decide) (by decide), f9 34 (by decide) (by decide), f8 34 (by decide) (by decide), f7 34 (by decide) (by decide), f6 34 (by decide) (by decide), f5 34 (by decide) (by decide), f4 34 (by decide) (by decide), n3]
    have A4 : sA h24 35 100 410 := by
      refine sA_o ?_
      rw [f24 35 (by decide) (by decide), f23 35 (by decide) (by decide), f22 35 (by decide) (by decide), f21 35 (by decide) (by decide), f20 35 (by decide) (by decide), f19 35 (by decide) (by decide), f18 35 (by decide) (by decide), f17 35 (by decide) (by decide), f16 35 (by decide) (by decide), f15 35 (by decide) (by decide), f14 35 (by decide) (by decide), f13 35 (by decide) (by decide), f12 35 (by decide) (by decide), f11 35 (by decide) (by decide), f10 35 (by decide) (by decide), f9 35 (by decide) (by decide), f8 35 (by decide) (by decide), f7 35 (by decide) (by decide), f6 35 (by decide) (by decide), f5 35 (by decide) (by decide), n4]
    have A5 : sA h24 36 100 410 := by
      refine sA_o ?_
      rw [f24 36 (by decide) (by decide), f23 36 (by decide) (by decide), f22 36 (by decide) (by decide), f21 36 (by decide) (by decide), f20 36 (by decide) (by decide), f19 36 (by decide) (by decide), f18 36 (by decide) (by decide), f17 36 (by decide) (by decide), f16 36 (by decide) (by decide), f15 36 (by decide) (by decide), f14 36 (by decide) (by decide), f13 36 (by decide) (by decide), f12 36 (by decide) (by decide), f11 36 (by decide) (by decide), f10 36 (by decide) (by decide), f9 36 (by decide) (by decide), f8 36 (by decide) (by decide), f7 36 (by decide) (by decide), f6 36 (by decide) (by decide), n5]
    have A6 : sA h24 37 100 410 := by
      refine sA_o ?_
      rw [f24 37 (by decide) (by decide), f23 37 (by decide) (by decide), f22 37 (by decide) (by decide), f21 37 (by decide) (by decide), f20 37 (by decide) (by decide), f19 37 (by decide) (by decide), f18 37 (by decide) (by decide), f17 37 (by decide) (by decide), f16 37 (by decide) (by decide), f15 37 (by decide) (by decide), f14 37 (by decide) (by decide), f13 37 (by decide) (by decide), f12 37 (by decide) (by decide), f11 37 (by decide) (by decide), f10 37 (by decide) (by decide), f9 37 (by decide) (by decide), f8 37 (by decide) (by decide), f7 37 (by decide) (by decide), n6]
    have A7 : sA h24 38 102 410 := by
      refine sA_o ?_
      rw [f24 38 (by decide) (by decide), f23 38 (by decide) (by decide), f22 38 (by decide) (by decide), f21 38 (by decide) (by decide), f20 38 (by decide) (by decide), f19 38 (by decide) (by decide), f18 38 (by decide) (by decide), f17 38 (by decide) (by decide), f16 38 (by decide) (by decide), f15 38 (by decide) (by decide), f14 38 (by decide) (by decide), f13 38 (by decide) (by decide), f12 38 (by decide) (by decide), f11 38 (by decide) (by decide), f10 38 (by decide) (by decide), f9 38 (by decide) (by decide), f8 38 (by decide) (by decide), n7]
    have A8 : sA h24 39 100 410 := by
      refine sA_o ?_
      rw [f24 39 (by decide) (by decide), f23 39 (by decide) (by decide), f22 39 (by decide) (by decide), f21 39 (by decide) (by decide), f20 39 (by decide) (by decide), f19 39 (by decide) (by decide), f18 39 (by decide) (by decide), f17 39 (by decide) (by decide), f16 39 (by decide) (by decide), f15 39 (by decide) (by decide), f14 39 (by decide) (by decide), f13 39 (by decide) (by decide), f12 39 (by decide) (by decide), f11 39 (by decide) (by decide), f10 39 (by decide) (by decide), f9 39 (by decide) (by decide), n8]
    have A9 : sA h24 40 102 210 := by
      refine sA_o ?_
      rw [f24 40 (by decide) (by decide), f23 40 (by decide) (by decide), f22 40 (by decide) (by decide), f21 40 (by decide) (by decide), f20 40 (by decide) (by decide), f19 40 (by decide) (by decide), f18 40 (by decide) (by decide), f17 40 (by decide) (by decide), f16 40 (by decide) (by decide), f15 40 (by decide) (by decide), f14 40 (by decide) (by decide), f13 40 (by decide) (by decide), f12 40 (by decide) (by decide), f11 40 (by decide) (by decide), f10 40 (by decide) (by decide), n9]
    have A10 : sA h24 41 100 210 := by
      refine sA_o ?_
      rw [f24 41 (by decide) (by decide), f23 41 (by decide) (by decide), f22 41 (by decide) (by decide), f21 41 (by decide) (by decide), f20 41 (by decide) (by decide), f19 41 (by decide) (by decide), f18 41 (by decide) (by decide), f17 41 (by decide) (by decide), f16 41 (by decide) (by decide), f15 41 (by decide) (by decide), f14 41 (by decide) (by decide), f13 41 (by decide) (by decide), f12 41 (by decide) (by decide), f11 41 (by decide) (by decide), n10]
    have A11 : sA h24 42 100 210 := by
      refine sA_o ?_
      rw [f24 42 (by decide) (by decide), f23 42 (by decide) (by decide), f22 42 (by decide) (by decide), f21 42 (by decide) (by decide), f20 42 (by decide) (by decide), f19 42 (by decide) (by decide), f18 42 (by decide) (by decide), f17 42 (by decide) (by decide), f16 42 (by decide) (by decide), f15 42 (by decide) (by decide), f14 42 (by decide) (by decide), f13 42 (by decide) (by decide), f12 42 (by decide) (by decide), n11]
    have A12 : sA h24 43 100 210 := by
      refine sA_o ?_
      rw [f24 43 (by decide) (by decide), f23 43 (by decide) (by decide), f22 43 (by decide) (by decide), f21 43 (by decide) (by decide), f20 43 (by decide) (by decide), f19 43 (by decide) (by decide), f18 43 (by decide) (by decide), f17 43 (by decide) (by decide), f16 43 (by decide) (by decide), f15 43 (by decide) (by decide), f14 43 (by decide) (by decide), f13 43 (by decide) (by decide), n12]
    have A13 : sA h24 44 100 210 := by
      refine sA_o ?_
      rw [f24 44 (by decide) (by decide), f23 44 (by decide) (by decide), f22 44 (by decide) (by decide), f21 44 (by decide) (by decide), f20 44 (by decide) (by decide), f19 44 (by decide) (by decide), f18 44 (by decide) (by decide), f17 44 (by decide) (by decide), f16 44 (by decide) (by decide), f15 44 (by decide) (by decide), f14 44 (by decide) (by decide), n13]
    have A14 : sA h24 45 100 8 := by
      refine sA_o ?_
      rw [f24 45 (by decide) (by decide), f23 45 (by decide) (by decide), f22 45 (by decide) (by decide), f21 45 (by decide) (by decide), f20 45 (by decide) (by decide), f19 45 (by decide) (by decide), f18 45 (by decide) (by decide), f17 45 (by decide) (by decide), f16 45 (by decide) (by decide), f15 45 (by decide) (by decide), n14]
    have A15 : sA h24 46 102 8 := by
      refine sA_o ?_
      rw [f24 46 (by decide) (by decide), f23 46 (by decide) (by decide), f22 46 (by decide) (by decide), f21 46 (by decide) (by decide), f20 46 (by decide) (by decide), f19 46 (by decide) (by decide), f18 46 (by decide) (by decide), f17 46 (by decide) (by decide), f16 46 (by decide) (by decide), n15]
    have A16 : sA h24 47 100 328 := by
      refine sA_o ?_
      rw [f24 47 (by decide) (by decide), f23 47 (by decide) (by decide), f22 47 (by decide) (by decide), f21 47 (by decide) (by decide), f20 47 (by decide) (by decide), f19 47 (by decide) (by decide), f18 47 (by decide) (by decide), f17 47 (by decide) (by decide), n16]
    have A17 : sA h24 48 100 8 := by
      refine sA_o ?_
      rw [f24 48 (by decide) (by decide), f23 48 (by decide) (by decide), f22 48 (by decide) (by decide), f21 48 (by decide) (by decide), f20 48 (by decide) (by decide), f19 48 (by decide) (by decide), f18 48 (by decide) (by decide), n17]
    have A18 : sA h24 49 100 480 := by
      refine sA_o ?_
      rw [f24 49 (by decide) (by decide), f23 49 (by decide) (by decide), f22 49 (by decide) (by decide), f21 49 (by decide) (by decide), f20 49 (by decide) (by decide), f19 49 (by decide) (by decide), n18]
    have A19 : sA h24 50 100 480 := by
      refine sA_o ?_
      rw [f24 50 (by decide) (by decide), f23 50 (by decide) (by decide), f22 50 (by decide) (by decide), f21 50 (by decide) (by decide), f20 50 (by decide) (by decide), n19]
    have A20 : sA h24 51 100 20 := by
      refine sA_o ?_
      rw [f24 51 (by decide) (by decide), f23 51 (by decide) (by decide), f22 51 (by decide) (by decide), f21 51 (by decide) (by decide), n20]
    have A21 : sA h24 52 100 100 := by
      refine sA_o ?_
      rw [f24 52 (by decide) (by decide), f23 52 (by decide) (by decide), f22 52 (by decide) (by decide), n21]
    have A22 : sA h24 53 100 100 := by
      refine sA_o ?_
      rw [f24 53 (by decide) (by decide), f23 53 (by decide) (by decide), n22]
    have A23 : sA h24 54 100 100 := by
      refine sA_o ?_
      rw [f24 54 (by decide) (by decide), n23]
    have A24 : sA h24 55 102 100 := by
      refine sA_o ?_
      rw [n24]
    exact ⟨k24, I0, I1, I2, S3, I4, I5, I6, S7, S8, S9, S10, S11, S12, S13, S14, S15, S16, S17, S18, I19, S20, S21, S22, S23, S24, S25, S26, I27, S28, S29, S30, S31, A1, A2, A3, A4, A5, A6, A7, A8, A9, A10, A11, A12, A13, A14, A15, A16, A17, A18, A19, A20, A21, A22, A23, A24⟩
  refine ⟨h24, fil (zer (zer (zer (zer (zer (zer (zer (zer (zer (zer (zer (zer (zer (zer (zer (zer (zer (zer (zer (zer (zer (zer (zer (up (zer c 32) 31 4 (-1)) 33) 34) 35) 36) 37) 38) 39) 40) 41) 42) 43) 44) 45) 46) 47) 48) 49) 50) 51) 52) 53) 54) 55) 51 20 (-1), ?_, p24, q24, hLM, fun a ha => ?_, fun q j hq => ?_, ?_, fun j hj => ?_, fun q j q1 q2 q3 => ?_, fun j j1 j2 => ?_⟩
  · unfold f_M_init
    simp only [li_0, li_1, i2_neg, li_8, li_20, li_100, li_300, li_210, li_328, li_410, li_480]
    refine (e1 _).trans ?_
    refine (w4 _).trans ?_
    refine (e2 _).trans ?_
    refine (e3 _).trans ?_
    refine (e4 _).trans ?_
    refine (e5 _).trans ?_
    refine (e6 _).trans ?_
    refine (e7 _).trans ?_
    refine (e8 _).trans ?_
    refine (e9 _).trans ?_
    refine (e10 _).trans ?_
    refine (e11 _).trans ?_
    refine (e12 _).trans ?_
    refine (e13 _).trans ?_
    refine (e14 _).trans ?_
    refine (e15 _).trans ?_
    refine (e16 _).trans ?_
    refine (e17 _).trans ?_
    refine (e18 _).trans ?_
    refine (e19 _).trans ?_
    refine (e20 _).trans ?_
    refine (e21 _).trans ?_
    refine (e22 _).trans ?_
    refine (e23 _).trans ?_
    refine (e24 _).trans ?_
    have hL := m_i219 (c := (zer (zer (zer (zer (zer (zer (zer (zer (zer (zer (zer (zer (zer (zer (zer (zer (zer (zer (zer (zer (zer (zer (zer (up (zer c 32) 31 4 (-1)) 33) 34) 35) 36) 37) 38) 39) 40) 41) 42) 43) 44) 45) 46) 47) 48) 49) 50) 51) 52) 53) 54) 55)) hLM 20 dr_fu 0 (by omega) (by omega) (by decide)
    rw [fil_0] at hL
    exact hL
  · rw [f24 a (by omega) (by omega), f23 a (by omega) (by omega), f22 a (by omega) (by omega), f21 a (by omega) (by omega), f20 a (by omega) (by omega), f19 a (by omega) (by omega), f18 a (by omega) (by omega), f17 a (by omega) (by omega), f16 a (by omega) (by omega), f15 a (by omega) (by omega), f14 a (by omega) (by omega), f13 a (by omega) (by omega), f12 a (by omega) (by omega), f11 a (by omega) (by omega), f10 a (by omega) (by omega), f9 a (by omega) (by omega), f8 a (by omega) (by omega), f7 a (by omega) (by omega), f6 a (by omega) (by omega), f5 a (by omega) (by omega), f4 a (by omega) (by omega), f3 a (by omega) (by omega), f2 a (by omega) (by omega), f1 a (by omega) (by omega)]
  · rw [fil_n _ (by omega)]
    simp (disch := omega) only [zer_n, up_c31]
  · rw [fil_n _ (by omega)]
    simp only [zer_l, Nat.reduceEqDiff, ↓reduceIte, up_same]
  · rw [fil_n _ (by omega)]
    simp only [zer_l, Nat.reduceEqDiff, ↓reduceIte]
    exact up_j _ _ hj
  · rw [fil_n _ (by omega)]
    have : q = 32 ∨ q = 33 ∨ q = 34 ∨ q = 35 ∨ q = 36 ∨ q = 37 ∨ q = 38 ∨ q = 39 ∨ q = 40 ∨ q = 41 ∨ q = 42 ∨ q = 43 ∨ q = 44 ∨ q = 45 ∨ q = 46 ∨ q = 47 ∨ q = 48 ∨ q = 49 ∨ q = 50 ∨ q = 52 ∨ q = 53 ∨ q = 54 ∨ q = 55 := by omega
    rcases this with e | e | e | e | e | e | e | e | e | e | e | e | e | e | e | e | e | e | e | e | e | e | e <;> subst e <;> simp only [zer_l, Nat.reduceEqDiff, ↓reduceIte, up_c31 _ (show ¬ (32 = 31 ∧ j = 4) by omega)]
  · rw [fil_y _ j1 j2]
