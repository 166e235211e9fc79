/-! ===== the law's loop ===== -/
theorem law_go {L k : Nat} {h : dr_AH} {c : Nat → Int → Int} (S : Sx L k h c) (hL : L ≤ 2048) {x : Int} (hx : x = 4 * (k : Int)) (x1 : x + 4 ≤ L) (n : Nat) (G : ∀ h' c', Sx L (k + 1) h' c' → ∃ g, f_L_law_23 n 0 1 31 56 (i2 (x + 4)) (wr h' c') = some (.inl (some (.int 1)), g)) :
    ∃ g, f_L_law_23 (n + 1) 0 1 31 56 (i2 x) (wr h c) = some (.inl (some (.int 1)), g) := by
  have x0 : 0 ≤ x := by omega
  have hk : k ≤ 600 := by omega
  have a0 := Sx_0 S
  have rg := Sx_r S
  have S' := S
  obtain ⟨nd, da, sa, cs, sp, S0⟩ := S'
  have fin : ∀ A : Option (dr_RS × dr_AH), (∃ h' c', A = f_L_law_23 n 0 1 31 56 (i2 (x + 4)) (wr h' c') ∧ Sx L (k + 1) h' c') → ∃ g, A = some (.inl (some (.int 1)), g) := by
    intro A ⟨h', c', e, s⟩
    rw [e]
    exact G h' c' s
  rw [f_L_law_23, r_ln (k := 0) a0, if_neg (by rw [li_4, i2_sub, i2_lt (by omega) (by omega) (by omega) (by omega)]; omega), r_ai a0 (by omega) (by omega) (by omega)]
  generalize i2 (c 0 x) &&& 31 = z
  by_cases e0 : z = 0
  · rw [if_pos e0]
    exact fin _ (law_128 S hL x0 x1 _ (o_sign S0 hk _ (rg _).1 (rg _).2))
  rw [if_neg e0]
  by_cases e1 : z = 1
  · rw [if_pos e1]
    exact fin _ (law_228 S hL x0 x1 _ (o_read S0 hk))
  rw [if_neg e1]
  by_cases e2 : z = 2
  · rw [if_pos e2]
    exact fin _ (law_272 S hL x0 x1 _)
  rw [if_neg e2]
  by_cases e3 : z = 3
  · rw [if_pos e3]
    exact fin _ (law_285 S hL x0 x1 _ (o_begin S0 hk))
  rw [if_neg e3]
  by_cases e4 : z = 4
  · rw [if_pos e4]
    exact fin _ (law_329 S hL x0 x1 _ (o_stop S0 hk (rg _).1 (rg _).2))
  rw [if_neg e4]
  by_cases e5 : z = 5
  · rw [if_pos e5]
    exact fin _ (law_365 S hL x0 x1 _ (o_unit S0 hk (rg _).1 (rg _).2 (rg _).1 (rg _).2))
  rw [if_neg e5]
  by_cases e6 : z = 6
  · rw [if_pos e6]
    exact fin _ (law_413 S hL x0 x1 _ (o_real S0 hk (rg _).1 (rg _).2))
  rw [if_neg e6]
  by_cases e7 : z = 7
  · rw [if_pos e7]
    exact fin _ (law_469 S hL x0 x1 _ (o_act S0 hk (rg _).1 (rg _).2 (rg _).1 (rg _).2))
  rw [if_neg e7]
  by_cases e8 : z = 8
  · rw [if_pos e8]
    exact fin _ (law_537 S hL x0 x1 _ (o_tick S0 hk (rg _).1 (rg _).2))
  rw [if_neg e8]
  by_cases e9 : z = 9
  · rw [if_pos e9]
    exact fin _ (law_593 S hL x0 x1 _ (Q_OP S (q_event S0 hk (rg _).1 (rg _).2 (rg _).1 (rg _).2 (rg _).1 (rg _).2)))
  rw [if_neg e9]
  by_cases e10 : z = 10
  · rw [if_pos e10]
    exact fin _ (law_673 S hL x0 x1 _ (Q_OP S (q_seen S0 hk (rg _).1 (rg _).2 (rg _).1 (rg _).2 (rg _).1 (rg _).2)))
  rw [if_neg e10]
  by_cases e11 : z = 11
  · rw [if_pos e11]
    exact fin _ (law_753 S hL x0 x1 _ (q_fault S0 hk (rg _).1 (rg _).2 (rg _).1 (rg _).2))
  rw [if_neg e11]
  by_cases e12 : z = 12
  · rw [if_pos e12]
    exact fin _ (law_828 S hL x0 x1 _ (Q_OP S (q_aim S0 hk (rg _).1 (rg _).2 (rg _).1 (rg _).2)))
  rw [if_neg e12]
  by_cases e13 : z = 13
  · rw [if_pos e13]
    exact fin _ (law_896 S hL x0 x1 _ (Q_OP S (q_score S0 hk (rg _).1 (rg _).2 (rg _).1 (rg _).2)))
  rw [if_neg e13]
  by_cases e14 : z = 14
  · rw [if_pos e14]
    exact fin _ (law_964 S hL x0 x1 _ (Q_OP S (q_compare S0 hk (rg _).1 (rg _).2 (rg _).1 (rg _).2)))
  rw [if_neg e14]
  by_cases e15 : z = 15
  · rw [if_pos e15]
    exact fin _ (law_1032 S hL x0 x1 _ (o_observe S0 hk (rg _).1 (rg _).2 (rg _).1 (rg _).2 (rg _).1 (rg _).2))
  rw [if_neg e15]
  by_cases e16 : z = 16
  · rw [if_pos e16]
    exact fin _ (law_1112 S hL x0 x1 _ (Q_OP S (q_row S0 hk (rg _).1 (rg _).2 (rg _).1 (rg _).2)))
  rw [if_neg e16]
  by_cases e17 : z = 17
  · rw [if_pos e17]
    exact fin _ (law_1180 S hL x0 x1 _ (o_play S0 hk (rg _).1 (rg _).2))
  rw [if_neg e17]
  by_cases e18 : z = 18
  · rw [if_pos e18]
    exact fin _ (law_1248 S hL x0 x1 _ (Q_OP S (q_drill S0 hk (rg _).1 (rg _).2 (rg _).1 (rg _).2)))
  rw [if_neg e18]
  exact fin _ (law_1316 S hL x0 x1 _)
theorem law_all {L : Nat} (hL : L ≤ 2048) : ∀ (f m k : Nat) (x : Int) (h : dr_AH) (c : Nat → Int → Int), Sx L k h c → x = 4 * (k : Int) → L ≤ 4 * k + 4 * f → k ≤ 600 → f < m → ∃ g, f_L_law_23 m 0 1 31 56 (i2 x) (wr h c) = some (.inl (some (.int 1)), g) := by
  have stop : ∀ (m k : Nat) (x : Int) (h : dr_AH) (c : Nat → Int → Int), Sx L k h c → x = 4 * (k : Int) → k ≤ 600 → (L : Int) < x + 4 → ∃ g, f_L_law_23 (m + 1) 0 1 31 56 (i2 x) (wr h c) = some (.inl (some (.int 1)), g) := by
    intro m k x h c S hx hk h1
    have a0 := Sx_0 S
    rw [f_L_law_23, r_ln (k := 0) a0, if_pos (by rw [li_4, i2_sub, i2_lt (by omega) (by omega) (by omega) (by omega)]; omega)]
    rw [li_1]
    exact ⟨_, r_rz (by omega) (by omega)⟩
  intro f
  induction f with
  | zero =>
    intro m k x h c S hx h1 h2 h3
    obtain ⟨m, rfl⟩ : ∃ k, m = k + 1 := ⟨m - 1, by omega⟩
    exact stop m k x h c S hx h2 (by omega)
  | succ f ih =>
    intro m k x h c S hx h1 h2 h3
    obtain ⟨m, rfl⟩ : ∃ k, m = k + 1 := ⟨m - 1, by omega⟩
    by_cases e : (L : Int) < x + 4
    · exact stop m k x h c S hx h2 e
    · exact law_go S hL hx (by omega) m (fun h' c' S' => ih m (k + 1) (x + 4) h' c' S' (by omega) (by omega) (by omega) (by omega))
