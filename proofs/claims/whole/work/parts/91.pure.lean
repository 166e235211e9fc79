/-! ===== from the law's start ===== -/
theorem h0_wr (L : Nat) (xs : Nat → Int32) : dr_h0 L xs = wr (dr_h0 L xs) (fun a j => if a = 0 then (xs j.toNat).toInt else 0) := by
  unfold wr
  refine Prod.ext rfl (Prod.ext rfl (funext fun a => ?_))
  by_cases e : a = 0
  · subst e
    refine Prod.ext rfl (Prod.ext rfl (funext fun j => ?_))
    show Value.int (xs j) = Value.int (i2 ((xs ((j : Int)).toNat).toInt))
    rw [show ((j : Int)).toNat = j by omega, i2_to]
  · have h1 : (dr_h0 L xs).2.2 a = (200, 0, fun _ => .null) := if_neg e
    show (dr_h0 L xs).2.2 a = (((dr_h0 L xs).2.2 a).1, ((dr_h0 L xs).2.2 a).2.1, fun j => match ((dr_h0 L xs).2.2 a).2.2 j with
      | .int _ => Value.int (i2 ((fun (a : Nat) (j : Int) => if a = 0 then (xs j.toNat).toInt else 0) a j))
      | v => v)
    rw [h1]
theorem nl_st {h : dr_AH} {c : Nat → Int → Int} {K : Nat → dr_AH → Option (dr_RS × dr_AH)} {a : Nat} (ha : h.1 + 1 = a) (r1 : a ≤ 601024) (r2 : h.2.1 + 1 ≤ 7293034) : dr_na (wr h c) 1 (.long 0) 1 K = K a (wr (dr_push h (101, 1, fun _ => .long 0)) c) := by
  unfold dr_na
  rw [cc_n, sc_n, if_pos (show ((0 ≤ (1 : Int32).toInt ∧ (1 : Int32).toInt ≤ 100000) ∧ (wr h c).1 < 601024 ∧ (wr h c).2.1 + (1 : Int32).toNatClampNeg ≤ 7293034) from ⟨⟨by decide, by decide⟩, by show h.1 < 601024; omega, by show h.2.1 + 1 ≤ 7293034; omega⟩), show (1 : Int32).toNatClampNeg = 1 from rfl, wr_push (fun j y => by simp)]
  show K (h.1 + 1) _ = _
  rw [ha]
theorem lw_pure : lw_Pure := by
  intro L xs hL
  have go : ∀ A, f_L_law 0 (dr_h0 L xs) = A → (∃ g, A = some (.inl (some (.int 1)), g)) → dr_p (f_L_law 0 (dr_h0 L xs)) (fun r _ => r = .inl (some (.int 1))) := by
    intro A e ⟨g, e2⟩
    exact ⟨_, e.trans e2, rfl⟩
  obtain ⟨h1, e1, p1, q1, f1, n1⟩ := nw_st (h := dr_h0 L xs) (c := fun a j => if a = 0 then (xs j.toNat).toInt else 0) (ci := 3) (N := 10) (f := fun k => defaultValue (nt_R k)) (a := 1) (B := 0) rfl rfl (by decide) (by decide) nR_0
  obtain ⟨h2, c2, e2, p2, q2, l1, l2, l3, l4, l5, l6, m1, m2, m3, m4, m5, m6, m7, m8⟩ := r_init (h := h1) (c := zer (fun a j => if a = 0 then (xs j.toNat).toInt else 0) 1) (B := 10) p1 (by omega) (by rw [n1]) (by unfold sI; rw [n1]; exact ⟨0, rfl⟩) (by unfold sI; rw [n1]; exact ⟨0, rfl⟩) (by unfold sI; rw [n1]; exact ⟨0, rfl⟩) (by unfold sI; rw [n1]; exact ⟨0, rfl⟩) (by omega)
  obtain ⟨h3, e3, p3, q3, f3, n3⟩ := nw_st (h := h2) (c := c2) (ci := 4) (N := 32) (f := fun k => defaultValue (nt_M k)) (a := 31) (by omega) rfl (by decide) (by omega) nM_0
  obtain ⟨h4, c4, e4, p4, q4, k1, k2, k3, k4, k5, k6, k7⟩ := m_init (h := h3) (c := zer c2 31) (by omega) (by omega) (by rw [n3]) (by unfold sI; rw [n3]; exact ⟨0, rfl⟩) (by unfold sI; rw [n3]; exact ⟨0, rfl⟩) (by unfold sI; rw [n3]; exact ⟨0, rfl⟩) (by unfold sI; rw [n3]; exact ⟨0, rfl⟩) (by unfold sI; rw [n3]; exact ⟨0, rfl⟩) (by unfold sI; rw [n3]; exact ⟨0, rfl⟩) (by unfold sI; rw [n3]; exact ⟨0, rfl⟩) (by unfold sI; rw [n3]; exact ⟨0, rfl⟩)
  have e5 := fun (K : Nat → dr_AH → Option (dr_RS × dr_AH)) => nl_st (h := h4) (c := c4) (K := K) (a := 56) p4 (by decide) (by omega)
  have lo : ∀ a, a ≤ 55 → (dr_push h4 (101, 1, fun _ => .long 0)).2.2 a = h4.2.2 a := fun a ha => push_lo (by omega)
  have lo2 : ∀ a, a < 31 → (dr_push h4 (101, 1, fun _ => .long 0)).2.2 a = h2.2.2 a := fun a ha => by rw [lo a (by omega), k2 a ha, f3 a ha]
  have cl : ∀ q j, q < 31 → c4 q j = c2 q j := fun q j hq => by rw [k3 q j (by omega), zer_n _ (by omega)]
  have c31 : ∀ j, j ≠ 4 → c4 31 j = 0 := fun j hj => by rw [k5 j hj, zer_y]
  have hi5 : (dr_push h4 (101, 1, fun _ => .long 0)).2.2 56 = (101, 1, fun _ => .long 0) := by
    have := push_hi (h := h4) (o := (101, 1, fun _ => .long 0))
    rw [p4] at this
    exact this
  have S : St L 0 (dr_push h4 (101, 1, fun _ => .long 0)) c4 0 (fun _ => 0) (fun _ => 0) 4 16 := by
    have t1 : (dr_push h4 (101, 1, fun _ => .long 0)).1 = 56 := p4
    have t2 : (dr_push h4 (101, 1, fun _ => .long 0)).2.1 = h4.2.1 + 1 := rfl
    refine ⟨⟨LaM_f (fun a a1 a2 => lo a (by omega)) k1, LaT_f (fun a a1 a2 => lo2 a (by omega)) l1, LaR_f (fun a ha => lo2 a (by omega)) l2, LaS_f (fun a a1 a2 => lo2 a (by omega)) l3, LaS_f (fun a a1 a2 => lo2 a (by omega)) l4, ?_, fun i hi => absurd hi (by omega), by rw [hi5]; exact ⟨rfl, rfl⟩, ?_⟩, ⟨by omega, ⟨by omega, by omega⟩, ⟨by omega, by omega⟩, by unfold SD; omega, fun i hi => absurd hi (by omega), fun i j hi => absurd hi (by omega), fun i j hi => absurd hi (by omega)⟩, ⟨?_, ?_, ⟨fun n n1 n2 => ?_, fun n n1 n2 => ?_, ?_, ?_⟩, fun j => ?_, fun i i1 i2 => ?_, fun i hi => absurd hi (by omega), ?_, fun _ i hi => absurd hi (by omega), fun j => ?_⟩, ⟨?_, ?_⟩, fun u u1 u2 => ?_, ⟨?_, fun r r1 r2 => ?_⟩, by omega, by omega⟩
    · rw [lo2 28 (by omega), l5]
      exact ⟨rfl, rfl, fun i _ => rfl⟩
    · unfold sA sI
      rw [lo2 0 (by omega), l6, f1 0 (by omega)]
      exact ⟨rfl, rfl, fun j _ => ⟨xs j, rfl⟩⟩
    · rw [cl 1 6 (by omega), m2.2.2.1, c31 19 (by omega)]
      exact ⟨by omega, rfl, rfl⟩
    · rw [cl 1 4 (by omega), m2.2.1, c31 1 (by omega)]
      omega
    · unfold sE
      rw [cl _ n (by omega), m4 (4 + 1) n (by omega) (by omega), k6 33 _ (by omega) (by omega) (by omega)]
      exact ⟨rfl, by omega, by omega, fun g => by omega⟩
    · unfold sW
      rw [cl _ n (by omega), m4 (4 + 11) n (by omega) (by omega), k6 40 _ (by omega) (by omega) (by omega)]
      exact ⟨by omega, by omega, rfl, fun g => by omega⟩
    · rw [cl 4 7 (by omega), m5, sm_c (g := fun _ => 0) 40 (fun n n1 n2 => by rw [cl _ n (by omega), m4 (4 + 1) n (by omega) (by omega)])]
      rfl
    · rw [cl _ 0 (by omega), m4 (4 + 11) 0 (by omega) (by omega)]
    · rw [k6 33 j (by omega) (by omega) (by omega), k6 38 j (by omega) (by omega) (by omega), k6 40 j (by omega) (by omega) (by omega)]
      omega
    · rw [k6 46 i (by omega) (by omega) (by omega), k6 48 i (by omega) (by omega) (by omega)]
      omega
    · rw [cl 4 12 (by omega), m6, cl 16 12 (by omega), m7]
      omega
    · rw [cl 0 j (by omega), m1 j, zer_n _ (by omega)]
      rw [if_pos rfl]
      exact ⟨Int32.le_toInt _, Int32.toInt_lt _⟩
    · rw [cl 1 3 (by omega), m2.1, k4]
      omega
    · rw [cl 2 1 (by omega), m3, c31 2 (by omega)]
      exact ⟨rfl, by omega, by omega, fun j j1 j2 => by omega⟩
    · rw [cl 29 u (by omega), m8 u u1 u2, k7 u u1 u2]
      omega
    · rw [cl 1 9 (by omega), m2.2.2.2, c31 27 (by omega)]
      omega
    · rw [c31 27 (by omega)] at r2
      omega
  obtain ⟨g, hg⟩ := law_all hL 512 dr_fu 0 0 _ c4 ⟨0, fun _ => 0, fun _ => 0, 4, 16, S⟩ (by omega) (by omega) (by omega) (by decide)
  refine go _ ?_ ⟨g, hg⟩
  rw [h0_wr]
  unfold f_L_law
  refine (e1 _).trans ?_
  rw [e2]
  refine r_cv.trans ?_
  refine (e3 _).trans ?_
  rw [e4]
  refine r_cv.trans ?_
  refine (e5 _).trans ?_
  rfl
