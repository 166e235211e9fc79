/-! ===== acts and due seconds ===== -/
def ft (kd at' : Int → Int) (a fr : Int) : Nat → Int
  | 0 => -1
  | n + 1 => if 0 ≤ ft kd at' a fr n then ft kd at' a fr n else if kd n = a ∧ fr ≤ at' n then at' n else -1
theorem ft_st {kd at' : Int → Int} {a fr : Int} {n : Nat} (h : 0 ≤ ft kd at' a fr n) : ∀ m, ft kd at' a fr (n + m) = ft kd at' a fr n := by
  intro m
  induction m with
  | zero => rfl
  | succ m ih =>
    show ft kd at' a fr (n + m + 1) = _
    rw [ft, ih, if_pos h]
theorem ft_r {kd at' : Int → Int} {a fr B : Int} : ∀ n : Nat, (∀ k : Int, 0 ≤ k → k < n → 0 ≤ at' k ∧ at' k ≤ B) → -1 ≤ ft kd at' a fr n ∧ (0 ≤ ft kd at' a fr n → ft kd at' a fr n ≤ B) := by
  intro n
  induction n with
  | zero => intro _; unfold ft; omega
  | succ n ih =>
    intro h
    have h1 := ih (fun k k1 k2 => h k k1 (by omega))
    have h2 := h n (by omega) (by omega)
    unfold ft
    split
    · omega
    · split <;> omega
theorem ft_c {kd at' kd' at'' : Int → Int} {a fr : Int} : ∀ n : Nat, (∀ k : Int, 0 ≤ k → k < n → kd k = kd' k ∧ at' k = at'' k) → ft kd at' a fr n = ft kd' at'' a fr n := by
  intro n
  induction n with
  | zero => intro _; rfl
  | succ n ih =>
    intro h
    have h2 := h n (by omega) (by omega)
    unfold ft
    rw [ih (fun k k1 k2 => h k k1 (by omega)), h2.1, h2.2]
theorem ft_w {kd at' : Int → Int} {a fr to' : Int} (hf : 0 ≤ fr) : ∀ n : Nat, (∀ k : Int, 0 ≤ k → k < n → 0 ≤ at' k) → (∀ k k' : Int, 0 ≤ k → k ≤ k' → k' < n → at' k ≤ at' k') → ((∃ k : Int, 0 ≤ k ∧ k < n ∧ kd k = a ∧ fr ≤ at' k ∧ at' k ≤ to') ↔ (0 ≤ ft kd at' a fr n ∧ ft kd at' a fr n ≤ to')) := by
  intro n
  induction n with
  | zero => intro _ _; unfold ft; constructor
            · intro ⟨k, h1, h2, _⟩; omega
            · intro ⟨h1, _⟩; omega
  | succ n ih =>
    intro h0 h1
    have ih' := ih (fun k k1 k2 => h0 k k1 (by omega)) (fun k k' k1 k2 k3 => h1 k k' k1 k2 (by omega))
    have hb := ft_r (kd := kd) (at' := at') (a := a) (fr := fr) (B := at' n) n (fun k k1 k2 => ⟨h0 k k1 (by omega), h1 k n k1 (by omega) (by omega)⟩)
    have hn := h0 n (by omega) (by omega)
    unfold ft
    by_cases e : 0 ≤ ft kd at' a fr n
    · rw [if_pos e]
      constructor
      · intro ⟨k, k1, k2, k3, k4, k5⟩
        by_cases ek : k = n
        · subst ek; exact ⟨e, by have := hb.2 e; omega⟩
        · exact ih'.mp ⟨k, k1, by omega, k3, k4, k5⟩
      · intro hh
        obtain ⟨k, k1, k2, k3⟩ := ih'.mpr hh
        exact ⟨k, k1, by omega, k3⟩
    · rw [if_neg e]
      by_cases e2 : kd n = a ∧ fr ≤ at' n
      · rw [if_pos e2]
        constructor
        · intro ⟨k, k1, k2, k3, k4, k5⟩
          by_cases ek : k = n
          · subst ek; exact ⟨hn, k5⟩
          · exact absurd (ih'.mp ⟨k, k1, by omega, k3, k4, k5⟩).1 e
        · intro hh
          exact ⟨n, by omega, by omega, e2.1, e2.2, hh.2⟩
      · rw [if_neg e2]
        constructor
        · intro ⟨k, k1, k2, k3, k4, k5⟩
          by_cases ek : k = n
          · subst ek; exact absurd ⟨k3, k4⟩ e2
          · exact absurd (ih'.mp ⟨k, k1, by omega, k3, k4, k5⟩).1 e
        · intro hh; omega
/-- what the reference's drill d must keep for its methods to go on -/
def MH (c : Nat → Int → Int) (d : Int) : Prop := (0 ≤ d ∧ d < 8) ∧ (0 ≤ c 45 d ∧ c 45 d ≤ c 31 1 ∧ c 31 1 ≤ 99999) ∧ (∀ n, 1 ≤ n → n ≤ 40 → (0 ≤ c 33 (d * 41 + n) ∧ c 33 (d * 41 + n) < 2) ∧ (-1 ≤ c 47 (d * 41 + n) ∧ c 47 (d * 41 + n) ≤ 99999) ∧ (c 33 (d * 41 + n) = 1 → (-1 ≤ c 35 (d * 41 + n) ∧ c 35 (d * 41 + n) ≤ 19) ∧ (0 ≤ c 36 (d * 41 + n) ∧ c 36 (d * 41 + n) ≤ 999) ∧ (0 ≤ c 34 (d * 41 + n) ∧ c 34 (d * 41 + n) ≤ 9999)))
  ∧ (0 ≤ c 48 d ∧ c 48 d ≤ 60) ∧ (∀ k, 0 ≤ k → k < c 48 d → (0 ≤ c 49 (d * 60 + k) ∧ c 49 (d * 60 + k) ≤ 19) ∧ (0 ≤ c 50 (d * 60 + k) ∧ c 50 (d * 60 + k) ≤ 99999))
def mft (c : Nat → Int → Int) (d a fr : Int) : Int := ft (fun k => c 49 (d * 60 + k)) (fun k => c 50 (d * 60 + k)) a fr (c 48 d).toNat
theorem mft_r {c : Nat → Int → Int} {d : Int} (H : MH c d) (a fr : Int) : -1 ≤ mft c d a fr ∧ mft c d a fr ≤ 99999 := by
  have h5 := H.2.2.2.2
  have h4 := H.2.2.2.1
  have := ft_r (kd := fun k => c 49 (d * 60 + k)) (at' := fun k => c 50 (d * 60 + k)) (a := a) (fr := fr) (B := 99999) (c 48 d).toNat (fun k k1 k2 => (h5 k k1 (by omega)).2)
  unfold mft
  omega
theorem m_first3 {h : dr_AH} {c : Nat → Int → Int} (hm : LaM h) {d : Int} (H : MH c d) {a fr : Int} (a1 : -1 ≤ a) (a2 : a ≤ 19) (f1 : 0 ≤ fr) (f2 : fr ≤ 99999) : ∀ (k m j : Nat) (x : Int), x = (j : Int) → ft (fun k => c 49 (d * 60 + k)) (fun k => c 50 (d * 60 + k)) a fr j = -1 → j ≤ c 48 d → c 48 d - j ≤ k → k < m →
    f_M_first_3 m 31 (i2 d) (i2 a) (i2 fr) (i2 x) (wr h c) = some (.inl (some (.int (i2 (mft c d a fr)))), wr h c) := by
  obtain ⟨⟨d1, d2⟩, _, _, ⟨n1, n2⟩, hk⟩ := H
  intro k
  induction k with
  | zero =>
    intro m j x hx hj h1 h2 h3
    obtain ⟨m, rfl⟩ : ∃ k, m = k + 1 := ⟨m - 1, by omega⟩
    have e : c 48 d = j := by omega
    have e2 : mft c d a fr = -1 := by unfold mft; rw [e]; exact hj
    unfold f_M_first_3
    simp (disch := omega) only [li_0, li_1, li_2, li_3, li_4, li_5, li_6, li_7, li_8, li_9, li_10, li_11, li_12, li_13, li_14, li_15, li_16, li_17, li_18, li_19, li_20, li_21, li_31, li_32, li_33, li_40, li_41, li_43, li_48, li_57, li_59, li_60, li_61, li_62, li_64, li_97, li_99, li_100, li_101, li_102, li_112, li_119, li_126, li_189, li_255, li_300, li_369, li_400, li_999, li_5000, li_9999, li_12345, li_99999, li_1103515245, i2_add, i2_sub, i2_mul, i2_neg, i2_le, i2_lt, i2_eq, r_rz, r_ci, r_cx, r_cv, r_vx, r_cr, r_rx, dr_ci', dr_cv', dr_cr', dr_gr', dr_x0, ↓reduceIte, Int.reduceLE, Int.reduceLT, Int.reduceEq, Int.reduceNeg, Int.reduceAdd, Int.reduceSub, Int.reduceMul, vM_k hm, vM_g0 hm, vM_p0 hm, vM_g1 hm, vM_p1 hm, vM_g2 hm, vM_p2 hm, vM_r3 hm, vM_g4 hm, vM_p4 hm, vM_g5 hm, vM_p5 hm, vM_g6 hm, vM_p6 hm, vM_r7 hm, vM_r8 hm, vM_r9 hm, vM_r10 hm, vM_r11 hm, vM_r12 hm, vM_r13 hm, vM_r14 hm, vM_r15 hm, vM_r16 hm, vM_r17 hm, vM_r18 hm, vM_g19 hm, vM_p19 hm, vM_r20 hm, vM_r21 hm, vM_r22 hm, vM_r23 hm, vM_r24 hm, vM_r25 hm, vM_r26 hm, vM_g27 hm, vM_p27 hm, vM_r28 hm, vM_r29 hm, vM_r30 hm, vM_r31 hm, vM_n32 hm, vM_a32 hm, vM_s32 hm, vM_n33 hm, vM_a33 hm, vM_s33 hm, vM_n34 hm, vM_a34 hm, vM_s34 hm, vM_n35 hm, vM_a35 hm, vM_s35 hm, vM_n36 hm, vM_a36 hm, vM_s36 hm, vM_n37 hm, vM_a37 hm, vM_s37 hm, vM_n38 hm, vM_a38 hm, vM_s38 hm, vM_n39 hm, vM_a39 hm, vM_s39 hm, vM_n40 hm, vM_a40 hm, vM_s40 hm, vM_n41 hm, vM_a41 hm, vM_s41 hm, vM_n42 hm, vM_a42 hm, vM_s42 hm, vM_n43 hm, vM_a43 hm, vM_s43 hm, vM_n44 hm, vM_a44 hm, vM_s44 hm, vM_n45 hm, vM_a45 hm, vM_s45 hm, vM_n46 hm, vM_a46 hm, vM_s46 hm, vM_n47 hm, vM_a47 hm, vM_s47 hm, vM_n48 hm, vM_a48 hm, vM_s48 hm, vM_n49 hm, vM_a49 hm, vM_s49 hm, vM_n50 hm, vM_a50 hm, vM_s50 hm, vM_n51 hm, vM_a51 hm, vM_s51 hm, vM_n52 hm, vM_a52 hm, vM_s52 hm, vM_n53 hm, vM_a53 hm, vM_s53 hm, vM_n54 hm, vM_a54 hm, vM_s54 hm, vM_n55 hm, vM_a55 hm, vM_s55 hm, e, hx, e2, Int.le_refl]
  | succ k ih =>
    intro m j x hx hj h1 h2 h3
    obtain ⟨m, rfl⟩ : ∃ k, m = k + 1 := ⟨m - 1, by omega⟩
    unfold f_M_first_3
    by_cases e : c 48 d = j
    · have e2 : mft c d a fr = -1 := by unfold mft; rw [e]; exact hj
      simp (disch := omega) only [li_0, li_1, li_2, li_3, li_4, li_5, li_6, li_7, li_8, li_9, li_10, li_11, li_12, li_13, li_14, li_15, li_16, li_17, li_18, li_19, li_20, li_21, li_31, li_32, li_33, li_40, li_41, li_43, li_48, li_57, li_59, li_60, li_61, li_62, li_64, li_97, li_99, li_100, li_101, li_102, li_112, li_119, li_126, li_189, li_255, li_300, li_369, li_400, li_999, li_5000, li_9999, li_12345, li_99999, li_1103515245, i2_add, i2_sub, i2_mul, i2_neg, i2_le, i2_lt, i2_eq, r_rz, r_ci, r_cx, r_cv, r_vx, r_cr, r_rx, dr_ci', dr_cv', dr_cr', dr_gr', dr_x0, ↓reduceIte, Int.reduceLE, Int.reduceLT, Int.reduceEq, Int.reduceNeg, Int.reduceAdd, Int.reduceSub, Int.reduceMul, vM_k hm, vM_g0 hm, vM_p0 hm, vM_g1 hm, vM_p1 hm, vM_g2 hm, vM_p2 hm, vM_r3 hm, vM_g4 hm, vM_p4 hm, vM_g5 hm, vM_p5 hm, vM_g6 hm, vM_p6 hm, vM_r7 hm, vM_r8 hm, vM_r9 hm, vM_r10 hm, vM_r11 hm, vM_r12 hm, vM_r13 hm, vM_r14 hm, vM_r15 hm, vM_r16 hm, vM_r17 hm, vM_r18 hm, vM_g19 hm, vM_p19 hm, vM_r20 hm, vM_r21 hm, vM_r22 hm, vM_r23 hm, vM_r24 hm, vM_r25 hm, vM_r26 hm, vM_g27 hm, vM_p27 hm, vM_r28 hm, vM_r29 hm, vM_r30 hm, vM_r31 hm, vM_n32 hm, vM_a32 hm, vM_s32 hm, vM_n33 hm, vM_a33 hm, vM_s33 hm, vM_n34 hm, vM_a34 hm, vM_s34 hm, vM_n35 hm, vM_a35 hm, vM_s35 hm, vM_n36 hm, vM_a36 hm, vM_s36 hm, vM_n37 hm, vM_a37 hm, vM_s37 hm, vM_n38 hm, vM_a38 hm, vM_s38 hm, vM_n39 hm, vM_a39 hm, vM_s39 hm, vM_n40 hm, vM_a40 hm, vM_s40 hm, vM_n41 hm, vM_a41 hm, vM_s41 hm, vM_n42 hm, vM_a42 hm, vM_s42 hm, vM_n43 hm, vM_a43 hm, vM_s43 hm, vM_n44 hm, vM_a44 hm, vM_s44 hm, vM_n45 hm, vM_a45 hm, vM_s45 hm, vM_n46 hm, vM_a46 hm, vM_s46 hm, vM_n47 hm, vM_a47 hm, vM_s47 hm, vM_n48 hm, vM_a48 hm, vM_s48 hm, vM_n49 hm, vM_a49 hm, vM_s49 hm, vM_n50 hm, vM_a50 hm, vM_s50 hm, vM_n51 hm, vM_a51 hm, vM_s51 hm, vM_n52 hm, vM_a52 hm, vM_s52 hm, vM_n53 hm, vM_a53 hm, vM_s53 hm, vM_n54 hm, vM_a54 hm, vM_s54 hm, vM_n55 hm, vM_a55 hm, vM_s55 hm, e, hx, e2, Int.le_refl]
    · have e2 : ¬ (c 48 d ≤ x) := by omega
      have hk' := hk x (by omega) (by omega)
      have hf : ft (fun k => c 49 (d * 60 + k)) (fun k => c 50 (d * 60 + k)) a fr (j + 1) = if c 49 (d * 60 + x) = a ∧ fr ≤ c 50 (d * 60 + x) then c 50 (d * 60 + x) else -1 := by
        rw [ft, hj, if_neg (by omega), ← hx]
      by_cases e3 : c 49 (d * 60 + x) = a
      · by_cases e4 : c 50 (d * 60 + x) < fr
        · rw [if_neg (by omega)] at hf
          simp (disch := omega) only [li_0, li_1, li_2, li_3, li_4, li_5, li_6, li_7, li_8, li_9, li_10, li_11, li_12, li_13, li_14, li_15, li_16, li_17, li_18, li_19, li_20, li_21, li_31, li_32, li_33, li_40, li_41, li_43, li_48, li_57, li_59, li_60, li_61, li_62, li_64, li_97, li_99, li_100, li_101, li_102, li_112, li_119, li_126, li_189, li_255, li_300, li_369, li_400, li_999, li_5000, li_9999, li_12345, li_99999, li_1103515245, i2_add, i2_sub, i2_mul, i2_neg, i2_le, i2_lt, i2_eq, r_rz, r_ci, r_cx, r_cv, r_vx, r_cr, r_rx, dr_ci', dr_cv', dr_cr', dr_gr', dr_x0, ↓reduceIte, Int.reduceLE, Int.reduceLT, Int.reduceEq, Int.reduceNeg, Int.reduceAdd, Int.reduceSub, Int.reduceMul, vM_k hm, vM_g0 hm, vM_p0 hm, vM_g1 hm, vM_p1 hm, vM_g2 hm, vM_p2 hm, vM_r3 hm, vM_g4 hm, vM_p4 hm, vM_g5 hm, vM_p5 hm, vM_g6 hm, vM_p6 hm, vM_r7 hm, vM_r8 hm, vM_r9 hm, vM_r10 hm, vM_r11 hm, vM_r12 hm, vM_r13 hm, vM_r14 hm, vM_r15 hm, vM_r16 hm, vM_r17 hm, vM_r18 hm, vM_g19 hm, vM_p19 hm, vM_r20 hm, vM_r21 hm, vM_r22 hm, vM_r23 hm, vM_r24 hm, vM_r25 hm, vM_r26 hm, vM_g27 hm, vM_p27 hm, vM_r28 hm, vM_r29 hm, vM_r30 hm, vM_r31 hm, vM_n32 hm, vM_a32 hm, vM_s32 hm, vM_n33 hm, vM_a33 hm, vM_s33 hm, vM_n34 hm, vM_a34 hm, vM_s34 hm, vM_n35 hm, vM_a35 hm, vM_s35 hm, vM_n36 hm, vM_a36 hm, vM_s36 hm, vM_n37 hm, vM_a37 hm, vM_s37 hm, vM_n38 hm, vM_a38 hm, vM_s38 hm, vM_n39 hm, vM_a39 hm, vM_s39 hm, vM_n40 hm, vM_a40 hm, vM_s40 hm, vM_n41 hm, vM_a41 hm, vM_s41 hm, vM_n42 hm, vM_a42 hm, vM_s42 hm, vM_n43 hm, vM_a43 hm, vM_s43 hm, vM_n44 hm, vM_a44 hm, vM_s44 hm, vM_n45 hm, vM_a45 hm, vM_s45 hm, vM_n46 hm, vM_a46 hm, vM_s46 hm, vM_n47 hm, vM_a47 hm, vM_s47 hm, vM_n48 hm, vM_a48 hm, vM_s48 hm, vM_n49 hm, vM_a49 hm, vM_s49 hm, vM_n50 hm, vM_a50 hm, vM_s50 hm, vM_n51 hm, vM_a51 hm, vM_s51 hm, vM_n52 hm, vM_a52 hm, vM_s52 hm, vM_n53 hm, vM_a53 hm, vM_s53 hm, vM_n54 hm, vM_a54 hm, vM_s54 hm, vM_n55 hm, vM_a55 hm, vM_s55 hm, e2, e3, e4]
          exact ih m (j + 1) (x + 1) (by omega) hf (by omega) (by omega) (by omega)
        · rw [if_pos (by omega)] at hf
          have h5 := ft_st (n := j + 1) (show 0 ≤ ft (fun k => c 49 (d * 60 + k)) (fun k => c 50 (d * 60 + k)) a fr (j + 1) by omega) ((c 48 d).toNat - (j + 1))
          rw [show j + 1 + ((c 48 d).toNat - (j + 1)) = (c 48 d).toNat by omega, hf] at h5
          have h6 : mft c d a fr = c 50 (d * 60 + x) := h5
          rw [h6]
          simp (disch := omega) only [li_0, li_1, li_2, li_3, li_4, li_5, li_6, li_7, li_8, li_9, li_10, li_11, li_12, li_13, li_14, li_15, li_16, li_17, li_18, li_19, li_20, li_21, li_31, li_32, li_33, li_40, li_41, li_43, li_48, li_57, li_59, li_60, li_61, li_62, li_64, li_97, li_99, li_100, li_101, li_102, li_112, li_119, li_126, li_189, li_255, li_300, li_369, li_400, li_999, li_5000, li_9999, li_12345, li_99999, li_1103515245, i2_add, i2_sub, i2_mul, i2_neg, i2_le, i2_lt, i2_eq, r_rz, r_ci, r_cx, r_cv, r_vx, r_cr, r_rx, dr_ci', dr_cv', dr_cr', dr_gr', dr_x0, ↓reduceIte, Int.reduceLE, Int.reduceLT, Int.reduceEq, Int.reduceNeg, Int.reduceAdd, Int.reduceSub, Int.reduceMul, vM_k hm, vM_g0 hm, vM_p0 hm, vM_g1 hm, vM_p1 hm, vM_g2 hm, vM_p2 hm, vM_r3 hm, vM_g4 hm, vM_p4 hm, vM_g5 hm, vM_p5 hm, vM_g6 hm, vM_p6 hm, vM_r7 hm, vM_r8 hm, vM_r9 hm, vM_r10 hm, vM_r11 hm, vM_r12 hm, vM_r13 hm, vM_r14 hm, vM_r15 hm, vM_r16 hm, vM_r17 hm, vM_r18 hm, vM_g19 hm, vM_p19 hm, vM_r20 hm, vM_r21 hm, vM_r22 hm, vM_r23 hm, vM_r24 hm, vM_r25 hm, vM_r26 hm, vM_g27 hm, vM_p27 hm, vM_r28 hm, vM_r29 hm, vM_r30 hm, vM_r31 hm, vM_n32 hm, vM_a32 hm, vM_s32 hm, vM_n33 hm, vM_a33 hm, vM_s33 hm, vM_n34 hm, vM_a34 hm, vM_s34 hm, vM_n35 hm, vM_a35 hm, vM_s35 hm, vM_n36 hm, vM_a36 hm, vM_s36 hm, vM_n37 hm, vM_a37 hm, vM_s37 hm, vM_n38 hm, vM_a38 hm, vM_s38 hm, vM_n39 hm, vM_a39 hm, vM_s39 hm, vM_n40 hm, vM_a40 hm, vM_s40 hm, vM_n41 hm, vM_a41 hm, vM_s41 hm, vM_n42 hm, vM_a42 hm, vM_s42 hm, vM_n43 hm, vM_a43 hm, vM_s43 hm, vM_n44 hm, vM_a44 hm, vM_s44 hm, vM_n45 hm, vM_a45 hm, vM_s45 hm, vM_n46 hm, vM_a46 hm, vM_s46 hm, vM_n47 hm, vM_a47 hm, vM_s47 hm, vM_n48 hm, vM_a48 hm, vM_s48 hm, vM_n49 hm, vM_a49 hm, vM_s49 hm, vM_n50 hm, vM_a50 hm, vM_s50 hm, vM_n51 hm, vM_a51 hm, vM_s51 hm, vM_n52 hm, vM_a52 hm, vM_s52 hm, vM_n53 hm, vM_a53 hm, vM_s53 hm, vM_n54 hm, vM_a54 hm, vM_s54 hm, vM_n55 hm, vM_a55 hm, vM_s55 hm, e2, e3, e4]
      · rw [if_neg (fun hh => e3 hh.1)] at hf
        simp (disch := omega) only [li_0, li_1, li_2, li_3, li_4, li_5, li_6, li_7, li_8, li_9, li_10, li_11, li_12, li_13, li_14, li_15, li_16, li_17, li_18, li_19, li_20, li_21, li_31, li_32, li_33, li_40, li_41, li_43, li_48, li_57, li_59, li_60, li_61, li_62, li_64, li_97, li_99, li_100, li_101, li_102, li_112, li_119, li_126, li_189, li_255, li_300, li_369, li_400, li_999, li_5000, li_9999, li_12345, li_99999, li_1103515245, i2_add, i2_sub, i2_mul, i2_neg, i2_le, i2_lt, i2_eq, r_rz, r_ci, r_cx, r_cv, r_vx, r_cr, r_rx, dr_ci', dr_cv', dr_cr', dr_gr', dr_x0, ↓reduceIte, Int.reduceLE, Int.reduceLT, Int.reduceEq, Int.reduceNeg, Int.reduceAdd, Int.reduceSub, Int.reduceMul, vM_k hm, vM_g0 hm, vM_p0 hm, vM_g1 hm, vM_p1 hm, vM_g2 hm, vM_p2 hm, vM_r3 hm, vM_g4 hm, vM_p4 hm, vM_g5 hm, vM_p5 hm, vM_g6 hm, vM_p6 hm, vM_r7 hm, vM_r8 hm, vM_r9 hm, vM_r10 hm, vM_r11 hm, vM_r12 hm, vM_r13 hm, vM_r14 hm, vM_r15 hm, vM_r16 hm, vM_r17 hm, vM_r18 hm, vM_g19 hm, vM_p19 hm, vM_r20 hm, vM_r21 hm, vM_r22 hm, vM_r23 hm, vM_r24 hm, vM_r25 hm, vM_r26 hm, vM_g27 hm, vM_p27 hm, vM_r28 hm, vM_r29 hm, vM_r30 hm, vM_r31 hm, vM_n32 hm, vM_a32 hm, vM_s32 hm, vM_n33 hm, vM_a33 hm, vM_s33 hm, vM_n34 hm, vM_a34 hm, vM_s34 hm, vM_n35 hm, vM_a35 hm, vM_s35 hm, vM_n36 hm, vM_a36 hm, vM_s36 hm, vM_n37 hm, vM_a37 hm, vM_s37 hm, vM_n38 hm, vM_a38 hm, vM_s38 hm, vM_n39 hm, vM_a39 hm, vM_s39 hm, vM_n40 hm, vM_a40 hm, vM_s40 hm, vM_n41 hm, vM_a41 hm, vM_s41 hm, vM_n42 hm, vM_a42 hm, vM_s42 hm, vM_n43 hm, vM_a43 hm, vM_s43 hm, vM_n44 hm, vM_a44 hm, vM_s44 hm, vM_n45 hm, vM_a45 hm, vM_s45 hm, vM_n46 hm, vM_a46 hm, vM_s46 hm, vM_n47 hm, vM_a47 hm, vM_s47 hm, vM_n48 hm, vM_a48 hm, vM_s48 hm, vM_n49 hm, vM_a49 hm, vM_s49 hm, vM_n50 hm, vM_a50 hm, vM_s50 hm, vM_n51 hm, vM_a51 hm, vM_s51 hm, vM_n52 hm, vM_a52 hm, vM_s52 hm, vM_n53 hm, vM_a53 hm, vM_s53 hm, vM_n54 hm, vM_a54 hm, vM_s54 hm, vM_n55 hm, vM_a55 hm, vM_s55 hm, e2, e3]
        exact ih m (j + 1) (x + 1) (by omega) hf (by omega) (by omega) (by omega)
theorem m_first {h : dr_AH} {c : Nat → Int → Int} (hm : LaM h) {d : Int} (H : MH c d) {a fr : Int} (a1 : -1 ≤ a) (a2 : a ≤ 19) (f1 : 0 ≤ fr) (f2 : fr ≤ 99999) :
    f_M_first 31 (i2 d) (i2 a) (i2 fr) (wr h c) = some (.inl (some (.int (i2 (mft c d a fr)))), wr h c) :=
  m_first3 hm H a1 a2 f1 f2 60 dr_fu 0 0 rfl rfl H.2.2.2.1.1 (by have := H.2.2.2.1; omega) (by decide)
/-- the second at which event n of drill d is due -/
def mdu (c : Nat → Int → Int) (d n : Int) : Int := if c 35 (d * 41 + n) < 0 then c 34 (d * 41 + n) else if mft c d (c 35 (d * 41 + n)) 0 < 0 then c 34 (d * 41 + n) else if mft c d (c 35 (d * 41 + n)) 0 + c 36 (d * 41 + n) ≤ c 34 (d * 41 + n) then mft c d (c 35 (d * 41 + n)) 0 + c 36 (d * 41 + n) else c 34 (d * 41 + n)
theorem mdu_r {c : Nat → Int → Int} {d : Int} (H : MH c d) {n : Int} (n1 : 1 ≤ n) (n2 : n ≤ 40) (ht : c 33 (d * 41 + n) = 1) : 0 ≤ mdu c d n ∧ mdu c d n ≤ 9999 := by
  have h1 := (H.2.2.1 n n1 n2).2.2 ht
  unfold mdu
  split
  · omega
  · split
    · omega
    · split <;> omega
theorem m_isDue {h : dr_AH} {c : Nat → Int → Int} (hm : LaM h) {d : Int} (H : MH c d) {n : Int} (n1 : 1 ≤ n) (n2 : n ≤ 40) (ht : c 33 (d * 41 + n) = 1) :
    f_M_isDue 31 (i2 d) (i2 n) (wr h c) = some (.inl (some (.int (i2 (bz (mdu c d n ≤ c 31 1 - c 45 d))))), wr h c) := by
  have h1 := (H.2.2.1 n n1 n2).2.2 ht
  obtain ⟨⟨d1, d2⟩, ⟨t1, t2, t3⟩, _⟩ := id H
  have hr := mft_r H (c 35 (d * 41 + n)) 0
  unfold f_M_isDue bz
  by_cases e1 : c 31 1 - c 45 d < c 34 (d * 41 + n)
  · by_cases e2 : 0 ≤ c 35 (d * 41 + n)
    · have hf := m_first hm H (a := c 35 (d * 41 + n)) (fr := 0) (by omega) (by omega) (by omega) (by omega)
      by_cases e3 : mft c d (c 35 (d * 41 + n)) 0 < 0
      · rw [if_neg (show ¬ (mdu c d n ≤ c 31 1 - c 45 d) by unfold mdu; rw [if_neg (by omega), if_pos e3]; omega)]
        simp (disch := omega) only [li_0, li_1, li_2, li_3, li_4, li_5, li_6, li_7, li_8, li_9, li_10, li_11, li_12, li_13, li_14, li_15, li_16, li_17, li_18, li_19, li_20, li_21, li_31, li_32, li_33, li_40, li_41, li_43, li_48, li_57, li_59, li_60, li_61, li_62, li_64, li_97, li_99, li_100, li_101, li_102, li_112, li_119, li_126, li_189, li_255, li_300, li_369, li_400, li_999, li_5000, li_9999, li_12345, li_99999, li_1103515245, i2_add, i2_sub, i2_mul, i2_neg, i2_le, i2_lt, i2_eq, r_rz, r_ci, r_cx, r_cv, r_vx, r_cr, r_rx, dr_ci', dr_cv', dr_cr', dr_gr', dr_x0, ↓reduceIte, Int.reduceLE, Int.reduceLT, Int.reduceEq, Int.reduceNeg, Int.reduceAdd, Int.reduceSub, Int.reduceMul, vM_k hm, vM_g0 hm, vM_p0 hm, vM_g1 hm, vM_p1 hm, vM_g2 hm, vM_p2 hm, vM_r3 hm, vM_g4 hm, vM_p4 hm, vM_g5 hm, vM_p5 hm, vM_g6 hm, vM_p6 hm, vM_r7 hm, vM_r8 hm, vM_r9 hm, vM_r10 hm, vM_r11 hm, vM_r12 hm, vM_r13 hm, vM_r14 hm, vM_r15 hm, vM_r16 hm, vM_r17 hm, vM_r18 hm, vM_g19 hm, vM_p19 hm, vM_r20 hm, vM_r21 hm, vM_r22 hm, vM_r23 hm, vM_r24 hm, vM_r25 hm, vM_r26 hm, vM_g27 hm, vM_p27 hm, vM_r28 hm, vM_r29 hm, vM_r30 hm, vM_r31 hm, vM_n32 hm, vM_a32 hm, vM_s32 hm, vM_n33 hm, vM_a33 hm, vM_s33 hm, vM_n34 hm, vM_a34 hm, vM_s34 hm, vM_n35 hm, vM_a35 hm, vM_s35 hm, vM_n36 hm, vM_a36 hm, vM_s36 hm, vM_n37 hm, vM_a37 hm, vM_s37 hm, vM_n38 hm, vM_a38 hm, vM_s38 hm, vM_n39 hm, vM_a39 hm, vM_s39 hm, vM_n40 hm, vM_a40 hm, vM_s40 hm, vM_n41 hm, vM_a41 hm, vM_s41 hm, vM_n42 hm, vM_a42 hm, vM_s42 hm, vM_n43 hm, vM_a43 hm, vM_s43 hm, vM_n44 hm, vM_a44 hm, vM_s44 hm, vM_n45 hm, vM_a45 hm, vM_s45 hm, vM_n46 hm, vM_a46 hm, vM_s46 hm, vM_n47 hm, vM_a47 hm, vM_s47 hm, vM_n48 hm, vM_a48 hm, vM_s48 hm, vM_n49 hm, vM_a49 hm, vM_s49 hm, vM_n50 hm, vM_a50 hm, vM_s50 hm, vM_n51 hm, vM_a51 hm, vM_s51 hm, vM_n52 hm, vM_a52 hm, vM_s52 hm, vM_n53 hm, vM_a53 hm, vM_s53 hm, vM_n54 hm, vM_a54 hm, vM_s54 hm, vM_n55 hm, vM_a55 hm, vM_s55 hm, m_relative hm, e1, e2, hf, e3]
      · by_cases e4 : c 31 1 - c 45 d < mft c d (c 35 (d * 41 + n)) 0 + c 36 (d * 41 + n)
        · rw [if_neg (show ¬ (mdu c d n ≤ c 31 1 - c 45 d) by unfold mdu; rw [if_neg (by omega), if_neg e3]; split <;> omega)]
          simp (disch := omega) only [li_0, li_1, li_2, li_3, li_4, li_5, li_6, li_7, li_8, li_9, li_10, li_11, li_12, li_13, li_14, li_15, li_16, li_17, li_18, li_19, li_20, li_21, li_31, li_32, li_33, li_40, li_41, li_43, li_48, li_57, li_59, li_60, li_61, li_62, li_64, li_97, li_99, li_100, li_101, li_102, li_112, li_119, li_126, li_189, li_255, li_300, li_369, li_400, li_999, li_5000, li_9999, li_12345, li_99999, li_1103515245, i2_add, i2_sub, i2_mul, i2_neg, i2_le, i2_lt, i2_eq, r_rz, r_ci, r_cx, r_cv, r_vx, r_cr, r_rx, dr_ci', dr_cv', dr_cr', dr_gr', dr_x0, ↓reduceIte, Int.reduceLE, Int.reduceLT, Int.reduceEq, Int.reduceNeg, Int.reduceAdd, Int.reduceSub, Int.reduceMul, vM_k hm, vM_g0 hm, vM_p0 hm, vM_g1 hm, vM_p1 hm, vM_g2 hm, vM_p2 hm, vM_r3 hm, vM_g4 hm, vM_p4 hm, vM_g5 hm, vM_p5 hm, vM_g6 hm, vM_p6 hm, vM_r7 hm, vM_r8 hm, vM_r9 hm, vM_r10 hm, vM_r11 hm, vM_r12 hm, vM_r13 hm, vM_r14 hm, vM_r15 hm, vM_r16 hm, vM_r17 hm, vM_r18 hm, vM_g19 hm, vM_p19 hm, vM_r20 hm, vM_r21 hm, vM_r22 hm, vM_r23 hm, vM_r24 hm, vM_r25 hm, vM_r26 hm, vM_g27 hm, vM_p27 hm, vM_r28 hm, vM_r29 hm, vM_r30 hm, vM_r31 hm, vM_n32 hm, vM_a32 hm, vM_s32 hm, vM_n33 hm, vM_a33 hm, vM_s33 hm, vM_n34 hm, vM_a34 hm, vM_s34 hm, vM_n35 hm, vM_a35 hm, vM_s35 hm, vM_n36 hm, vM_a36 hm, vM_s36 hm, vM_n37 hm, vM_a37 hm, vM_s37 hm, vM_n38 hm, vM_a38 hm, vM_s38 hm, vM_n39 hm, vM_a39 hm, vM_s39 hm, vM_n40 hm, vM_a40 hm, vM_s40 hm, vM_n41 hm, vM_a41 hm, vM_s41 hm, vM_n42 hm, vM_a42 hm, vM_s42 hm, vM_n43 hm, vM_a43 hm, vM_s43 hm, vM_n44 hm, vM_a44 hm, vM_s44 hm, vM_n45 hm, vM_a45 hm, vM_s45 hm, vM_n46 hm, vM_a46 hm, vM_s46 hm, vM_n47 hm, vM_a47 hm, vM_s47 hm, vM_n48 hm, vM_a48 hm, vM_s48 hm, vM_n49 hm, vM_a49 hm, vM_s49 hm, vM_n50 hm, vM_a50 hm, vM_s50 hm, vM_n51 hm, vM_a51 hm, vM_s51 hm, vM_n52 hm, vM_a52 hm, vM_s52 hm, vM_n53 hm, vM_a53 hm, vM_s53 hm, vM_n54 hm, vM_a54 hm, vM_s54 hm, vM_n55 hm, vM_a55 hm, vM_s55 hm, m_relative hm, e1, e2, hf, e3, e4]
        · rw [if_pos (show (mdu c d n ≤ c 31 1 - c 45 d) by unfold mdu; rw [if_neg (by omega), if_neg e3]; split <;> omega)]
          simp (disch := omega) only [li_0, li_1, li_2, li_3, li_4, li_5, li_6, li_7, li_8, li_9, li_10, li_11, li_12, li_13, li_14, li_15, li_16, li_17, li_18, li_19, li_20, li_21, li_31, li_32, li_33, li_40, li_41, li_43, li_48, li_57, li_59, li_60, li_61, li_62, li_64, li_97, li_99, li_100, li_101, li_102, li_112, li_119, li_126, li_189, li_255, li_300, li_369, li_400, li_999, li_5000, li_9999, li_12345, li_99999, li_1103515245, i2_add, i2_sub, i2_mul, i2_neg, i2_le, i2_lt, i2_eq, r_rz, r_ci, r_cx, r_cv, r_vx, r_cr, r_rx, dr_ci', dr_cv', dr_cr', dr_gr', dr_x0, ↓reduceIte, Int.reduceLE, Int.reduceLT, Int.reduceEq, Int.reduceNeg, Int.reduceAdd, Int.reduceSub, Int.reduceMul, vM_k hm, vM_g0 hm, vM_p0 hm, vM_g1 hm, vM_p1 hm, vM_g2 hm, vM_p2 hm, vM_r3 hm, vM_g4 hm, vM_p4 hm, vM_g5 hm, vM_p5 hm, vM_g6 hm, vM_p6 hm, vM_r7 hm, vM_r8 hm, vM_r9 hm, vM_r10 hm, vM_r11 hm, vM_r12 hm, vM_r13 hm, vM_r14 hm, vM_r15 hm, vM_r16 hm, vM_r17 hm, vM_r18 hm, vM_g19 hm, vM_p19 hm, vM_r20 hm, vM_r21 hm, vM_r22 hm, vM_r23 hm, vM_r24 hm, vM_r25 hm, vM_r26 hm, vM_g27 hm, vM_p27 hm, vM_r28 hm, vM_r29 hm, vM_r30 hm, vM_r31 hm, vM_n32 hm, vM_a32 hm, vM_s32 hm, vM_n33 hm, vM_a33 hm, vM_s33 hm, vM_n34 hm, vM_a34 hm, vM_s34 hm, vM_n35 hm, vM_a35 hm, vM_s35 hm, vM_n36 hm, vM_a36 hm, vM_s36 hm, vM_n37 hm, vM_a37 hm, vM_s37 hm, vM_n38 hm, vM_a38 hm, vM_s38 hm, vM_n39 hm, vM_a39 hm, vM_s39 hm, vM_n40 hm, vM_a40 hm, vM_s40 hm, vM_n41 hm, vM_a41 hm, vM_s41 hm, vM_n42 hm, vM_a42 hm, vM_s42 hm, vM_n43 hm, vM_a43 hm, vM_s43 hm, vM_n44 hm, vM_a44 hm, vM_s44 hm, vM_n45 hm, vM_a45 hm, vM_s45 hm, vM_n46 hm, vM_a46 hm, vM_s46 hm, vM_n47 hm, vM_a47 hm, vM_s47 hm, vM_n48 hm, vM_a48 hm, vM_s48 hm, vM_n49 hm, vM_a49 hm, vM_s49 hm, vM_n50 hm, vM_a50 hm, vM_s50 hm, vM_n51 hm, vM_a51 hm, vM_s51 hm, vM_n52 hm, vM_a52 hm, vM_s52 hm, vM_n53 hm, vM_a53 hm, vM_s53 hm, vM_n54 hm, vM_a54 hm, vM_s54 hm, vM_n55 hm, vM_a55 hm, vM_s55 hm, m_relative hm, e1, e2, hf, e3, e4]
    · rw [if_neg (show ¬ (mdu c d n ≤ c 31 1 - c 45 d) by unfold mdu; rw [if_pos (by omega)]; omega)]
      simp (disch := omega) only [li_0, li_1, li_2, li_3, li_4, li_5, li_6, li_7, li_8, li_9, li_10, li_11, li_12, li_13, li_14, li_15, li_16, li_17, li_18, li_19, li_20, li_21, li_31, li_32, li_33, li_40, li_41, li_43, li_48, li_57, li_59, li_60, li_61, li_62, li_64, li_97, li_99, li_100, li_101, li_102, li_112, li_119, li_126, li_189, li_255, li_300, li_369, li_400, li_999, li_5000, li_9999, li_12345, li_99999, li_1103515245, i2_add, i2_sub, i2_mul, i2_neg, i2_le, i2_lt, i2_eq, r_rz, r_ci, r_cx, r_cv, r_vx, r_cr, r_rx, dr_ci', dr_cv', dr_cr', dr_gr', dr_x0, ↓reduceIte, Int.reduceLE, Int.reduceLT, Int.reduceEq, Int.reduceNeg, Int.reduceAdd, Int.reduceSub, Int.reduceMul, vM_k hm, vM_g0 hm, vM_p0 hm, vM_g1 hm, vM_p1 hm, vM_g2 hm, vM_p2 hm, vM_r3 hm, vM_g4 hm, vM_p4 hm, vM_g5 hm, vM_p5 hm, vM_g6 hm, vM_p6 hm, vM_r7 hm, vM_r8 hm, vM_r9 hm, vM_r10 hm, vM_r11 hm, vM_r12 hm, vM_r13 hm, vM_r14 hm, vM_r15 hm, vM_r16 hm, vM_r17 hm, vM_r18 hm, vM_g19 hm, vM_p19 hm, vM_r20 hm, vM_r21 hm, vM_r22 hm, vM_r23 hm, vM_r24 hm, vM_r25 hm, vM_r26 hm, vM_g27 hm, vM_p27 hm, vM_r28 hm, vM_r29 hm, vM_r30 hm, vM_r31 hm, vM_n32 hm, vM_a32 hm, vM_s32 hm, vM_n33 hm, vM_a33 hm, vM_s33 hm, vM_n34 hm, vM_a34 hm, vM_s34 hm, vM_n35 hm, vM_a35 hm, vM_s35 hm, vM_n36 hm, vM_a36 hm, vM_s36 hm, vM_n37 hm, vM_a37 hm, vM_s37 hm, vM_n38 hm, vM_a38 hm, vM_s38 hm, vM_n39 hm, vM_a39 hm, vM_s39 hm, vM_n40 hm, vM_a40 hm, vM_s40 hm, vM_n41 hm, vM_a41 hm, vM_s41 hm, vM_n42 hm, vM_a42 hm, vM_s42 hm, vM_n43 hm, vM_a43 hm, vM_s43 hm, vM_n44 hm, vM_a44 hm, vM_s44 hm, vM_n45 hm, vM_a45 hm, vM_s45 hm, vM_n46 hm, vM_a46 hm, vM_s46 hm, vM_n47 hm, vM_a47 hm, vM_s47 hm, vM_n48 hm, vM_a48 hm, vM_s48 hm, vM_n49 hm, vM_a49 hm, vM_s49 hm, vM_n50 hm, vM_a50 hm, vM_s50 hm, vM_n51 hm, vM_a51 hm, vM_s51 hm, vM_n52 hm, vM_a52 hm, vM_s52 hm, vM_n53 hm, vM_a53 hm, vM_s53 hm, vM_n54 hm, vM_a54 hm, vM_s54 hm, vM_n55 hm, vM_a55 hm, vM_s55 hm, m_relative hm, e1, e2]
  · rw [if_pos (show (mdu c d n ≤ c 31 1 - c 45 d) by
      unfold mdu
      split
      · omega
      · split
        · omega
        · split <;> omega)]
    simp (disch := omega) only [li_0, li_1, li_2, li_3, li_4, li_5, li_6, li_7, li_8, li_9, li_10, li_11, li_12, li_13, li_14, li_15, li_16, li_17, li_18, li_19, li_20, li_21, li_31, li_32, li_33, li_40, li_41, li_43, li_48, li_57, li_59, li_60, li_61, li_62, li_64, li_97, li_99, li_100, li_101, li_102, li_112, li_119, li_126, li_189, li_255, li_300, li_369, li_400, li_999, li_5000, li_9999, li_12345, li_99999, li_1103515245, i2_add, i2_sub, i2_mul, i2_neg, i2_le, i2_lt, i2_eq, r_rz, r_ci, r_cx, r_cv, r_vx, r_cr, r_rx, dr_ci', dr_cv', dr_cr', dr_gr', dr_x0, ↓reduceIte, Int.reduceLE, Int.reduceLT, Int.reduceEq, Int.reduceNeg, Int.reduceAdd, Int.reduceSub, Int.reduceMul, vM_k hm, vM_g0 hm, vM_p0 hm, vM_g1 hm, vM_p1 hm, vM_g2 hm, vM_p2 hm, vM_r3 hm, vM_g4 hm, vM_p4 hm, vM_g5 hm, vM_p5 hm, vM_g6 hm, vM_p6 hm, vM_r7 hm, vM_r8 hm, vM_r9 hm, vM_r10 hm, vM_r11 hm, vM_r12 hm, vM_r13 hm, vM_r14 hm, vM_r15 hm, vM_r16 hm, vM_r17 hm, vM_r18 hm, vM_g19 hm, vM_p19 hm, vM_r20 hm, vM_r21 hm, vM_r22 hm, vM_r23 hm, vM_r24 hm, vM_r25 hm, vM_r26 hm, vM_g27 hm, vM_p27 hm, vM_r28 hm, vM_r29 hm, vM_r30 hm, vM_r31 hm, vM_n32 hm, vM_a32 hm, vM_s32 hm, vM_n33 hm, vM_a33 hm, vM_s33 hm, vM_n34 hm, vM_a34 hm, vM_s34 hm, vM_n35 hm, vM_a35 hm, vM_s35 hm, vM_n36 hm, vM_a36 hm, vM_s36 hm, vM_n37 hm, vM_a37 hm, vM_s37 hm, vM_n38 hm, vM_a38 hm, vM_s38 hm, vM_n39 hm, vM_a39 hm, vM_s39 hm, vM_n40 hm, vM_a40 hm, vM_s40 hm, vM_n41 hm, vM_a41 hm, vM_s41 hm, vM_n42 hm, vM_a42 hm, vM_s42 hm, vM_n43 hm, vM_a43 hm, vM_s43 hm, vM_n44 hm, vM_a44 hm, vM_s44 hm, vM_n45 hm, vM_a45 hm, vM_s45 hm, vM_n46 hm, vM_a46 hm, vM_s46 hm, vM_n47 hm, vM_a47 hm, vM_s47 hm, vM_n48 hm, vM_a48 hm, vM_s48 hm, vM_n49 hm, vM_a49 hm, vM_s49 hm, vM_n50 hm, vM_a50 hm, vM_s50 hm, vM_n51 hm, vM_a51 hm, vM_s51 hm, vM_n52 hm, vM_a52 hm, vM_s52 hm, vM_n53 hm, vM_a53 hm, vM_s53 hm, vM_n54 hm, vM_a54 hm, vM_s54 hm, vM_n55 hm, vM_a55 hm, vM_s55 hm, m_relative hm, e1]
abbrev mev (c : Nat → Int → Int) (d n : Int) : Prop := c 33 (d * 41 + n) = 1 ∧ c 47 (d * 41 + n) < 0 ∧ mdu c d n ≤ c 31 1 - c 45 d
def lkc (c : Nat → Int → Int) (d j : Int) : Nat → Int → Int := fun a i => if a = 47 ∧ d * 41 + 1 ≤ i ∧ i ≤ d * 41 + j ∧ mev c d (i - d * 41) then c 31 1 - c 45 d else c a i
theorem lkc_a (c : Nat → Int → Int) (d j : Int) {a : Nat} (h : a ≠ 47) : lkc c d j a = c a := by
  funext i; unfold lkc; rw [if_neg (fun hh => h hh.1)]
theorem lkc_0 (c : Nat → Int → Int) (d : Int) : lkc c d 0 = c := by
  funext a i; unfold lkc; rw [if_neg (by omega)]
theorem lkc_n (c : Nat → Int → Int) {d j n : Int} (h : j < n) : lkc c d j 47 (d * 41 + n) = c 47 (d * 41 + n) := by
  unfold lkc; rw [if_neg (by omega)]
theorem lkc_s1 (c : Nat → Int → Int) {d j : Int} (h0 : 0 ≤ j) (h : mev c d (j + 1)) : up (lkc c d j) 47 (d * 41 + (j + 1)) (c 31 1 - c 45 d) = lkc c d (j + 1) := by
  funext a i
  unfold up lkc
  by_cases e : a = 47 ∧ i = d * 41 + (j + 1)
  · rw [if_pos e, if_pos ⟨e.1, by omega, by omega, by rw [show i - d * 41 = j + 1 by omega]; exact h⟩]
  · rw [if_neg e]
    by_cases e2 : a = 47 ∧ d * 41 + 1 ≤ i ∧ i ≤ d * 41 + j ∧ mev c d (i - d * 41)
    · rw [if_pos e2, if_pos ⟨e2.1, e2.2.1, by omega, e2.2.2.2⟩]
    · rw [if_neg e2, if_neg (fun hh => e2 ⟨hh.1, hh.2.1, by omega, hh.2.2.2⟩)]
theorem lkc_s0 (c : Nat → Int → Int) {d j : Int} (h : ¬ mev c d (j + 1)) : lkc c d j = lkc c d (j + 1) := by
  funext a i
  unfold lkc
  by_cases e2 : a = 47 ∧ d * 41 + 1 ≤ i ∧ i ≤ d * 41 + j ∧ mev c d (i - d * 41)
  · rw [if_pos e2, if_pos ⟨e2.1, e2.2.1, by omega, e2.2.2.2⟩]
  · rw [if_neg e2, if_neg (fun hh => e2 ⟨hh.1, hh.2.1, by
      have h3 : i ≠ d * 41 + (j + 1) := fun e => h (by have := hh.2.2.2; rw [show i - d * 41 = j + 1 by omega] at this; exact this)
      omega, hh.2.2.2⟩)]
theorem lkc_mft (c : Nat → Int → Int) (d j d' a fr : Int) : mft (lkc c d j) d' a fr = mft c d' a fr := by
  unfold mft
  rw [lkc_a c d j (show (49 : Nat) ≠ 47 by decide), lkc_a c d j (show (50 : Nat) ≠ 47 by decide), lkc_a c d j (show (48 : Nat) ≠ 47 by decide)]
theorem lkc_mdu (c : Nat → Int → Int) (d j d' n : Int) : mdu (lkc c d j) d' n = mdu c d' n := by
  unfold mdu
  rw [lkc_mft, lkc_a c d j (show (35 : Nat) ≠ 47 by decide), lkc_a c d j (show (34 : Nat) ≠ 47 by decide), lkc_a c d j (show (36 : Nat) ≠ 47 by decide)]
theorem lkc_MH {c : Nat → Int → Int} {d j : Int} (H : MH c d) : MH (lkc c d j) d := by
  obtain ⟨h1, h2, h3, h4, h5⟩ := H
  unfold MH
  rw [lkc_a c d j (show (45 : Nat) ≠ 47 by decide), lkc_a c d j (show (31 : Nat) ≠ 47 by decide), lkc_a c d j (show (33 : Nat) ≠ 47 by decide), lkc_a c d j (show (35 : Nat) ≠ 47 by decide), lkc_a c d j (show (34 : Nat) ≠ 47 by decide), lkc_a c d j (show (36 : Nat) ≠ 47 by decide), lkc_a c d j (show (49 : Nat) ≠ 47 by decide), lkc_a c d j (show (50 : Nat) ≠ 47 by decide), lkc_a c d j (show (48 : Nat) ≠ 47 by decide)]
  refine ⟨h1, h2, fun n n1 n2 => ⟨(h3 n n1 n2).1, ?_, (h3 n n1 n2).2.2⟩, h4, h5⟩
  have := (h3 n n1 n2).2.1
  unfold lkc
  split <;> omega
theorem m_look4 {h : dr_AH} {c : Nat → Int → Int} (hm : LaM h) {d : Int} (H : MH c d) : ∀ (k m j : Nat) (x y : Int), x = (j : Int) + 1 → y = sm (fun n => bz (mev c d n)) j → j ≤ 40 → 40 - j ≤ k → k < m →
    f_M_look_4 m 31 (i2 d) (i2 y) (i2 x) (wr h (lkc c d j)) = some (.inl (some (.int (i2 (sm (fun n => bz (mev c d n)) 40)))), wr h (lkc c d 40)) := by
  obtain ⟨⟨d1, d2⟩, ⟨t1, t2, t3⟩, h3, _⟩ := id H
  intro k
  induction k with
  | zero =>
    intro m j x y hx hy h1 h2 h4
    obtain ⟨m, rfl⟩ : ∃ k, m = k + 1 := ⟨m - 1, by omega⟩
    have e : j = 40 := by omega
    have e1 : (41 : Int) ≤ x := by omega
    subst e
    unfold f_M_look_4
    simp (disch := omega) only [li_0, li_1, li_2, li_3, li_4, li_5, li_6, li_7, li_8, li_9, li_10, li_11, li_12, li_13, li_14, li_15, li_16, li_17, li_18, li_19, li_20, li_21, li_31, li_32, li_33, li_40, li_41, li_43, li_48, li_57, li_59, li_60, li_61, li_62, li_64, li_97, li_99, li_100, li_101, li_102, li_112, li_119, li_126, li_189, li_255, li_300, li_369, li_400, li_999, li_5000, li_9999, li_12345, li_99999, li_1103515245, i2_add, i2_sub, i2_mul, i2_neg, i2_le, i2_lt, i2_eq, r_rz, r_ci, r_cx, r_cv, r_vx, r_cr, r_rx, dr_ci', dr_cv', dr_cr', dr_gr', dr_x0, ↓reduceIte, Int.reduceLE, Int.reduceLT, Int.reduceEq, Int.reduceNeg, Int.reduceAdd, Int.reduceSub, Int.reduceMul, e1, hy]
    rfl
  | succ k ih =>
    intro m j x y hx hy h1 h2 h4
    obtain ⟨m, rfl⟩ : ∃ k, m = k + 1 := ⟨m - 1, by omega⟩
    unfold f_M_look_4
    by_cases e : j = 40
    · have e1 : (41 : Int) ≤ x := by omega
      subst e
      simp (disch := omega) only [li_0, li_1, li_2, li_3, li_4, li_5, li_6, li_7, li_8, li_9, li_10, li_11, li_12, li_13, li_14, li_15, li_16, li_17, li_18, li_19, li_20, li_21, li_31, li_32, li_33, li_40, li_41, li_43, li_48, li_57, li_59, li_60, li_61, li_62, li_64, li_97, li_99, li_100, li_101, li_102, li_112, li_119, li_126, li_189, li_255, li_300, li_369, li_400, li_999, li_5000, li_9999, li_12345, li_99999, li_1103515245, i2_add, i2_sub, i2_mul, i2_neg, i2_le, i2_lt, i2_eq, r_rz, r_ci, r_cx, r_cv, r_vx, r_cr, r_rx, dr_ci', dr_cv', dr_cr', dr_gr', dr_x0, ↓reduceIte, Int.reduceLE, Int.reduceLT, Int.reduceEq, Int.reduceNeg, Int.reduceAdd, Int.reduceSub, Int.reduceMul, e1, hy]
      rfl
    · have e2 : ¬ ((41 : Int) ≤ x) := by omega
      have b1 := h3 x (by omega) (by omega)
      have hs : sm (fun n => bz (mev c d n)) (j + 1) = sm (fun n => bz (mev c d n)) j + bz (mev c d x) := by rw [sm, hx]
      have l33 : lkc c d j 33 (d * 41 + x) = c 33 (d * 41 + x) := by rw [lkc_a _ _ _ (by decide)]
      have l47 : lkc c d j 47 (d * 41 + x) = c 47 (d * 41 + x) := lkc_n c (by omega)
      have l31 : lkc c d j 31 1 = c 31 1 := by rw [lkc_a _ _ _ (by decide)]
      have l45 : lkc c d j 45 d = c 45 d := by rw [lkc_a _ _ _ (by decide)]
      have no : ¬ mev c d x → ∀ y', y' = y → f_M_look_4 m 31 (i2 d) (i2 y') (i2 (x + 1)) (wr h (lkc c d j)) = some (.inl (some (.int (i2 (sm (fun n => bz (mev c d n)) 40)))), wr h (lkc c d 40)) := by
        intro hn y' hy'
        have hl : lkc c d j = lkc c d ((j + 1 : Nat) : Int) := by
          rw [lkc_s0 c (j := j) (by rw [← hx]; exact hn)]; rfl
        rw [hl]
        refine ih m (j + 1) (x + 1) y' (by omega) ?_ (by omega) (by omega) (by omega)
        rw [hs, hy', hy, show bz (mev c d x) = 0 by unfold bz; rw [if_neg hn]]; omega
      by_cases e3 : c 33 (d * 41 + x) = 0
      · have hn : ¬ mev c d x := fun hh => by have := hh.1; omega
        simp (disch := omega) only [li_0, li_1, li_2, li_3, li_4, li_5, li_6, li_7, li_8, li_9, li_10, li_11, li_12, li_13, li_14, li_15, li_16, li_17, li_18, li_19, li_20, li_21, li_31, li_32, li_33, li_40, li_41, li_43, li_48, li_57, li_59, li_60, li_61, li_62, li_64, li_97, li_99, li_100, li_101, li_102, li_112, li_119, li_126, li_189, li_255, li_300, li_369, li_400, li_999, li_5000, li_9999, li_12345, li_99999, li_1103515245, i2_add, i2_sub, i2_mul, i2_neg, i2_le, i2_lt, i2_eq, r_rz, r_ci, r_cx, r_cv, r_vx, r_cr, r_rx, dr_ci', dr_cv', dr_cr', dr_gr', dr_x0, ↓reduceIte, Int.reduceLE, Int.reduceLT, Int.reduceEq, Int.reduceNeg, Int.reduceAdd, Int.reduceSub, Int.reduceMul, vM_k hm, vM_g0 hm, vM_p0 hm, vM_g1 hm, vM_p1 hm, vM_g2 hm, vM_p2 hm, vM_r3 hm, vM_g4 hm, vM_p4 hm, vM_g5 hm, vM_p5 hm, vM_g6 hm, vM_p6 hm, vM_r7 hm, vM_r8 hm, vM_r9 hm, vM_r10 hm, vM_r11 hm, vM_r12 hm, vM_r13 hm, vM_r14 hm, vM_r15 hm, vM_r16 hm, vM_r17 hm, vM_r18 hm, vM_g19 hm, vM_p19 hm, vM_r20 hm, vM_r21 hm, vM_r22 hm, vM_r23 hm, vM_r24 hm, vM_r25 hm, vM_r26 hm, vM_g27 hm, vM_p27 hm, vM_r28 hm, vM_r29 hm, vM_r30 hm, vM_r31 hm, vM_n32 hm, vM_a32 hm, vM_s32 hm, vM_n33 hm, vM_a33 hm, vM_s33 hm, vM_n34 hm, vM_a34 hm, vM_s34 hm, vM_n35 hm, vM_a35 hm, vM_s35 hm, vM_n36 hm, vM_a36 hm, vM_s36 hm, vM_n37 hm, vM_a37 hm, vM_s37 hm, vM_n38 hm, vM_a38 hm, vM_s38 hm, vM_n39 hm, vM_a39 hm, vM_s39 hm, vM_n40 hm, vM_a40 hm, vM_s40 hm, vM_n41 hm, vM_a41 hm, vM_s41 hm, vM_n42 hm, vM_a42 hm, vM_s42 hm, vM_n43 hm, vM_a43 hm, vM_s43 hm, vM_n44 hm, vM_a44 hm, vM_s44 hm, vM_n45 hm, vM_a45 hm, vM_s45 hm, vM_n46 hm, vM_a46 hm, vM_s46 hm, vM_n47 hm, vM_a47 hm, vM_s47 hm, vM_n48 hm, vM_a48 hm, vM_s48 hm, vM_n49 hm, vM_a49 hm, vM_s49 hm, vM_n50 hm, vM_a50 hm, vM_s50 hm, vM_n51 hm, vM_a51 hm, vM_s51 hm, vM_n52 hm, vM_a52 hm, vM_s52 hm, vM_n53 hm, vM_a53 hm, vM_s53 hm, vM_n54 hm, vM_a54 hm, vM_s54 hm, vM_n55 hm, vM_a55 hm, vM_s55 hm, e2, l33, e3]
        exact no hn y rfl
      · have e3' : c 33 (d * 41 + x) = 1 := by omega
        by_cases e4 : 0 ≤ c 47 (d * 41 + x)
        · have hn : ¬ mev c d x := fun hh => by have := hh.2.1; omega
          simp (disch := omega) only [li_0, li_1, li_2, li_3, li_4, li_5, li_6, li_7, li_8, li_9, li_10, li_11, li_12, li_13, li_14, li_15, li_16, li_17, li_18, li_19, li_20, li_21, li_31, li_32, li_33, li_40, li_41, li_43, li_48, li_57, li_59, li_60, li_61, li_62, li_64, li_97, li_99, li_100, li_101, li_102, li_112, li_119, li_126, li_189, li_255, li_300, li_369, li_400, li_999, li_5000, li_9999, li_12345, li_99999, li_1103515245, i2_add, i2_sub, i2_mul, i2_neg, i2_le, i2_lt, i2_eq, r_rz, r_ci, r_cx, r_cv, r_vx, r_cr, r_rx, dr_ci', dr_cv', dr_cr', dr_gr', dr_x0, ↓reduceIte, Int.reduceLE, Int.reduceLT, Int.reduceEq, Int.reduceNeg, Int.reduceAdd, Int.reduceSub, Int.reduceMul, vM_k hm, vM_g0 hm, vM_p0 hm, vM_g1 hm, vM_p1 hm, vM_g2 hm, vM_p2 hm, vM_r3 hm, vM_g4 hm, vM_p4 hm, vM_g5 hm, vM_p5 hm, vM_g6 hm, vM_p6 hm, vM_r7 hm, vM_r8 hm, vM_r9 hm, vM_r10 hm, vM_r11 hm, vM_r12 hm, vM_r13 hm, vM_r14 hm, vM_r15 hm, vM_r16 hm, vM_r17 hm, vM_r18 hm, vM_g19 hm, vM_p19 hm, vM_r20 hm, vM_r21 hm, vM_r22 hm, vM_r23 hm, vM_r24 hm, vM_r25 hm, vM_r26 hm, vM_g27 hm, vM_p27 hm, vM_r28 hm, vM_r29 hm, vM_r30 hm, vM_r31 hm, vM_n32 hm, vM_a32 hm, vM_s32 hm, vM_n33 hm, vM_a33 hm, vM_s33 hm, vM_n34 hm, vM_a34 hm, vM_s34 hm, vM_n35 hm, vM_a35 hm, vM_s35 hm, vM_n36 hm, vM_a36 hm, vM_s36 hm, vM_n37 hm, vM_a37 hm, vM_s37 hm, vM_n38 hm, vM_a38 hm, vM_s38 hm, vM_n39 hm, vM_a39 hm, vM_s39 hm, vM_n40 hm, vM_a40 hm, vM_s40 hm, vM_n41 hm, vM_a41 hm, vM_s41 hm, vM_n42 hm, vM_a42 hm, vM_s42 hm, vM_n43 hm, vM_a43 hm, vM_s43 hm, vM_n44 hm, vM_a44 hm, vM_s44 hm, vM_n45 hm, vM_a45 hm, vM_s45 hm, vM_n46 hm, vM_a46 hm, vM_s46 hm, vM_n47 hm, vM_a47 hm, vM_s47 hm, vM_n48 hm, vM_a48 hm, vM_s48 hm, vM_n49 hm, vM_a49 hm, vM_s49 hm, vM_n50 hm, vM_a50 hm, vM_s50 hm, vM_n51 hm, vM_a51 hm, vM_s51 hm, vM_n52 hm, vM_a52 hm, vM_s52 hm, vM_n53 hm, vM_a53 hm, vM_s53 hm, vM_n54 hm, vM_a54 hm, vM_s54 hm, vM_n55 hm, vM_a55 hm, vM_s55 hm, e2, l33, e3', l47, e4]
          exact no hn y rfl
        · have hdue := m_isDue hm (lkc_MH (j := j) H) (n := x) (by omega) (by omega) (by rw [l33]; exact e3')
          rw [lkc_mdu, l31, l45] at hdue
          by_cases e5 : mdu c d x ≤ c 31 1 - c 45 d
          · have hy' : mev c d x := ⟨e3', by omega, e5⟩
            have eb : bz (mdu c d x ≤ c 31 1 - c 45 d) = 1 := by unfold bz; rw [if_pos e5]
            have hu := lkc_s1 c (d := d) (j := j) (by omega) (by rw [← hx]; exact hy')
            rw [← hx] at hu
            simp (disch := omega) only [li_0, li_1, li_2, li_3, li_4, li_5, li_6, li_7, li_8, li_9, li_10, li_11, li_12, li_13, li_14, li_15, li_16, li_17, li_18, li_19, li_20, li_21, li_31, li_32, li_33, li_40, li_41, li_43, li_48, li_57, li_59, li_60, li_61, li_62, li_64, li_97, li_99, li_100, li_101, li_102, li_112, li_119, li_126, li_189, li_255, li_300, li_369, li_400, li_999, li_5000, li_9999, li_12345, li_99999, li_1103515245, i2_add, i2_sub, i2_mul, i2_neg, i2_le, i2_lt, i2_eq, r_rz, r_ci, r_cx, r_cv, r_vx, r_cr, r_rx, dr_ci', dr_cv', dr_cr', dr_gr', dr_x0, ↓reduceIte, Int.reduceLE, Int.reduceLT, Int.reduceEq, Int.reduceNeg, Int.reduceAdd, Int.reduceSub, Int.reduceMul, vM_k hm, vM_g0 hm, vM_p0 hm, vM_g1 hm, vM_p1 hm, vM_g2 hm, vM_p2 hm, vM_r3 hm, vM_g4 hm, vM_p4 hm, vM_g5 hm, vM_p5 hm, vM_g6 hm, vM_p6 hm, vM_r7 hm, vM_r8 hm, vM_r9 hm, vM_r10 hm, vM_r11 hm, vM_r12 hm, vM_r13 hm, vM_r14 hm, vM_r15 hm, vM_r16 hm, vM_r17 hm, vM_r18 hm, vM_g19 hm, vM_p19 hm, vM_r20 hm, vM_r21 hm, vM_r22 hm, vM_r23 hm, vM_r24 hm, vM_r25 hm, vM_r26 hm, vM_g27 hm, vM_p27 hm, vM_r28 hm, vM_r29 hm, vM_r30 hm, vM_r31 hm, vM_n32 hm, vM_a32 hm, vM_s32 hm, vM_n33 hm, vM_a33 hm, vM_s33 hm, vM_n34 hm, vM_a34 hm, vM_s34 hm, vM_n35 hm, vM_a35 hm, vM_s35 hm, vM_n36 hm, vM_a36 hm, vM_s36 hm, vM_n37 hm, vM_a37 hm, vM_s37 hm, vM_n38 hm, vM_a38 hm, vM_s38 hm, vM_n39 hm, vM_a39 hm, vM_s39 hm, vM_n40 hm, vM_a40 hm, vM_s40 hm, vM_n41 hm, vM_a41 hm, vM_s41 hm, vM_n42 hm, vM_a42 hm, vM_s42 hm, vM_n43 hm, vM_a43 hm, vM_s43 hm, vM_n44 hm, vM_a44 hm, vM_s44 hm, vM_n45 hm, vM_a45 hm, vM_s45 hm, vM_n46 hm, vM_a46 hm, vM_s46 hm, vM_n47 hm, vM_a47 hm, vM_s47 hm, vM_n48 hm, vM_a48 hm, vM_s48 hm, vM_n49 hm, vM_a49 hm, vM_s49 hm, vM_n50 hm, vM_a50 hm, vM_s50 hm, vM_n51 hm, vM_a51 hm, vM_s51 hm, vM_n52 hm, vM_a52 hm, vM_s52 hm, vM_n53 hm, vM_a53 hm, vM_s53 hm, vM_n54 hm, vM_a54 hm, vM_s54 hm, vM_n55 hm, vM_a55 hm, vM_s55 hm, e2, l33, e3', l47, e4, hdue, eb, m_relative hm, l31, l45, hu]
            have := ih m (j + 1) (x + 1) (y + 1) (by omega) (by rw [hs, hy, show bz (mev c d x) = 1 by unfold bz; rw [if_pos hy']]) (by omega) (by omega) (by omega)
            rw [show ((j + 1 : Nat) : Int) = x by omega] at this
            exact this
          · have hn : ¬ mev c d x := fun hh => e5 hh.2.2
            have eb : bz (mdu c d x ≤ c 31 1 - c 45 d) = 0 := by unfold bz; rw [if_neg e5]
            simp (disch := omega) only [li_0, li_1, li_2, li_3, li_4, li_5, li_6, li_7, li_8, li_9, li_10, li_11, li_12, li_13, li_14, li_15, li_16, li_17, li_18, li_19, li_20, li_21, li_31, li_32, li_33, li_40, li_41, li_43, li_48, li_57, li_59, li_60, li_61, li_62, li_64, li_97, li_99, li_100, li_101, li_102, li_112, li_119, li_126, li_189, li_255, li_300, li_369, li_400, li_999, li_5000, li_9999, li_12345, li_99999, li_1103515245, i2_add, i2_sub, i2_mul, i2_neg, i2_le, i2_lt, i2_eq, r_rz, r_ci, r_cx, r_cv, r_vx, r_cr, r_rx, dr_ci', dr_cv', dr_cr', dr_gr', dr_x0, ↓reduceIte, Int.reduceLE, Int.reduceLT, Int.reduceEq, Int.reduceNeg, Int.reduceAdd, Int.reduceSub, Int.reduceMul, vM_k hm, vM_g0 hm, vM_p0 hm, vM_g1 hm, vM_p1 hm, vM_g2 hm, vM_p2 hm, vM_r3 hm, vM_g4 hm, vM_p4 hm, vM_g5 hm, vM_p5 hm, vM_g6 hm, vM_p6 hm, vM_r7 hm, vM_r8 hm, vM_r9 hm, vM_r10 hm, vM_r11 hm, vM_r12 hm, vM_r13 hm, vM_r14 hm, vM_r15 hm, vM_r16 hm, vM_r17 hm, vM_r18 hm, vM_g19 hm, vM_p19 hm, vM_r20 hm, vM_r21 hm, vM_r22 hm, vM_r23 hm, vM_r24 hm, vM_r25 hm, vM_r26 hm, vM_g27 hm, vM_p27 hm, vM_r28 hm, vM_r29 hm, vM_r30 hm, vM_r31 hm, vM_n32 hm, vM_a32 hm, vM_s32 hm, vM_n33 hm, vM_a33 hm, vM_s33 hm, vM_n34 hm, vM_a34 hm, vM_s34 hm, vM_n35 hm, vM_a35 hm, vM_s35 hm, vM_n36 hm, vM_a36 hm, vM_s36 hm, vM_n37 hm, vM_a37 hm, vM_s37 hm, vM_n38 hm, vM_a38 hm, vM_s38 hm, vM_n39 hm, vM_a39 hm, vM_s39 hm, vM_n40 hm, vM_a40 hm, vM_s40 hm, vM_n41 hm, vM_a41 hm, vM_s41 hm, vM_n42 hm, vM_a42 hm, vM_s42 hm, vM_n43 hm, vM_a43 hm, vM_s43 hm, vM_n44 hm, vM_a44 hm, vM_s44 hm, vM_n45 hm, vM_a45 hm, vM_s45 hm, vM_n46 hm, vM_a46 hm, vM_s46 hm, vM_n47 hm, vM_a47 hm, vM_s47 hm, vM_n48 hm, vM_a48 hm, vM_s48 hm, vM_n49 hm, vM_a49 hm, vM_s49 hm, vM_n50 hm, vM_a50 hm, vM_s50 hm, vM_n51 hm, vM_a51 hm, vM_s51 hm, vM_n52 hm, vM_a52 hm, vM_s52 hm, vM_n53 hm, vM_a53 hm, vM_s53 hm, vM_n54 hm, vM_a54 hm, vM_s54 hm, vM_n55 hm, vM_a55 hm, vM_s55 hm, e2, l33, e3', l47, e4, hdue, eb]
            exact no hn y rfl
theorem m_look {h : dr_AH} {c : Nat → Int → Int} (hm : LaM h) {d : Int} (H : MH c d) : f_M_look 31 (i2 d) (wr h c) = some (.inl (some (.int (i2 (sm (fun n => bz (mev c d n)) 40)))), wr h (lkc c d 40)) := by
  have := m_look4 hm H 40 dr_fu 0 1 0 (by omega) rfl (by omega) (by omega) (by decide)
  rw [show (((0 : Nat) : Int)) = 0 from rfl, lkc_0] at this
  unfold f_M_look
  rw [li_0, li_1]
  exact this
theorem sm_add {f g : Int → Int} : ∀ n : Nat, sm (fun i => f i + g i) n = sm f n + sm g n := by
  intro n
  induction n with
  | zero => rfl
  | succ n ih => unfold sm; rw [ih]; omega
def mbc (c : Nat → Int → Int) (d : Int) : Int := sm (fun n => bz (0 ≤ c 47 (d * 41 + n))) 40
theorem lkc_mbc {c : Nat → Int → Int} {d : Int} (H : MH c d) : mbc (lkc c d 40) d = mbc c d + sm (fun n => bz (mev c d n)) 40 := by
  unfold mbc
  rw [← sm_add]
  refine sm_c 40 (fun i i1 i2 => ?_)
  have h2 := H.2.1
  by_cases e : mev c d i
  · have e1 : lkc c d 40 47 (d * 41 + i) = c 31 1 - c 45 d := by
      unfold lkc; rw [if_pos ⟨rfl, by omega, by omega, by rw [show d * 41 + i - d * 41 = i by omega]; exact e⟩]
    have e2 := e.2.1
    rw [e1]
    unfold bz
    rw [if_pos (by omega), if_neg (by omega), if_pos e]
    omega
  · have e1 : lkc c d 40 47 (d * 41 + i) = c 47 (d * 41 + i) := by
      unfold lkc; rw [if_neg (fun hh => e (by have := hh.2.2.2; rw [show d * 41 + i - d * 41 = i by omega] at this; exact this))]
    have e3 : bz (mev c d i) = 0 := by unfold bz; rw [if_neg e]
    rw [e1, e3]
    omega
