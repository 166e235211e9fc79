/-! ===== layouts under a changed skeleton ===== -/
theorem LaM_f {h h' : dr_AH}  (e : ∀ a, 31 ≤ a → a ≤ 55 → h'.2.2 a = h.2.2 a) (hl : LaM h ) : LaM h'  := by
  unfold LaM sA sI sR at hl ⊢
  simp only [e (31) (by omega) (by omega), e (32) (by omega) (by omega), e (33) (by omega) (by omega), e (34) (by omega) (by omega), e (35) (by omega) (by omega), e (36) (by omega) (by omega), e (37) (by omega) (by omega), e (38) (by omega) (by omega), e (39) (by omega) (by omega), e (40) (by omega) (by omega), e (41) (by omega) (by omega), e (42) (by omega) (by omega), e (43) (by omega) (by omega), e (44) (by omega) (by omega), e (45) (by omega) (by omega), e (46) (by omega) (by omega), e (47) (by omega) (by omega), e (48) (by omega) (by omega), e (49) (by omega) (by omega), e (50) (by omega) (by omega), e (51) (by omega) (by omega), e (52) (by omega) (by omega), e (53) (by omega) (by omega), e (54) (by omega) (by omega), e (55) (by omega) (by omega)]
  exact hl
theorem LaT_f {h h' : dr_AH}  (e : ∀ a, 2 ≤ a → a ≤ 3 → h'.2.2 a = h.2.2 a) (hl : LaT h ) : LaT h'  := by
  unfold LaT sA sI sR at hl ⊢
  simp only [e (2) (by omega) (by omega), e (3) (by omega) (by omega)]
  exact hl
theorem LaS_f {h h' : dr_AH} {s : Nat} (e : ∀ a, s ≤ a → a ≤ s + 11 → h'.2.2 a = h.2.2 a) (hl : LaS h s) : LaS h' s := by
  unfold LaS sA sI sR at hl ⊢
  simp only [e (s) (by omega) (by omega), e (s + 1) (by omega) (by omega), e (s + 2) (by omega) (by omega), e (s + 3) (by omega) (by omega), e (s + 4) (by omega) (by omega), e (s + 5) (by omega) (by omega), e (s + 6) (by omega) (by omega), e (s + 7) (by omega) (by omega), e (s + 8) (by omega) (by omega), e (s + 9) (by omega) (by omega), e (s + 10) (by omega) (by omega), e (s + 11) (by omega) (by omega)]
  exact hl
theorem LaD_f {h h' : dr_AH} {d s : Nat} (e : ∀ a, d ≤ a → a ≤ d + 4 → h'.2.2 a = h.2.2 a) (hl : LaD h d s) : LaD h' d s := by
  unfold LaD sA sI sR at hl ⊢
  simp only [e (d) (by omega) (by omega), e (d + 1) (by omega) (by omega), e (d + 2) (by omega) (by omega), e (d + 3) (by omega) (by omega), e (d + 4) (by omega) (by omega)]
  exact hl
theorem LaR_f {h h' : dr_AH} {s t : Nat} (e : ∀ a, a = 1 ∨ a = 29 ∨ a = 30 → h'.2.2 a = h.2.2 a) (hl : LaR h s t) : LaR h' s t := by
  unfold LaR sA sI sR at hl ⊢
  simp only [e 1 (by omega), e 29 (by omega), e 30 (by omega)]
  exact hl

theorem push_lo {h : dr_AH} {o : dr_AO} {a : Nat} (e : a ≤ h.1) : (dr_push h o).2.2 a = h.2.2 a := by
  unfold dr_push dr_upd
  exact if_neg (by omega)
theorem push_hi {h : dr_AH} {o : dr_AO} : (dr_push h o).2.2 (h.1 + 1) = o := by
  unfold dr_push dr_upd
  exact if_pos rfl
theorem put_ne {h : dr_AH} {a b k : Nat} {v : Value} (e : b ≠ a) : (dr_put h a k v).2.2 b = h.2.2 b := by
  unfold dr_put dr_upd
  exact if_neg e
theorem put_eq {h : dr_AH} {a k : Nat} {v : Value} : (dr_put h a k v).2.2 a = dr_set (h.2.2 a) k v := by
  unfold dr_put dr_upd
  exact if_pos rfl
/-- the skeleton with the answer's long in it -/
def hL (h : dr_AH) (y : Int64) : dr_AH := dr_put h 56 0 (.long y)
def zer (c : Nat → Int → Int) (a : Nat) : Nat → Int → Int := fun b i => if b = a then 0 else c b i
theorem wr_pv {h : dr_AH} {c : Nat → Int → Int} {a k : Nat} {v : Value} (hv : ∀ x, v ≠ .int x) : dr_put (wr h c) a k v = wr (dr_put h a k v) c := by
  unfold dr_put wr dr_upd dr_set
  refine Prod.ext rfl (Prod.ext rfl (funext fun q => ?_))
  dsimp only
  by_cases eq : q = a
  · subst eq
    rw [if_pos rfl, if_pos rfl]
    refine Prod.ext rfl (Prod.ext rfl (funext fun i => ?_))
    dsimp only
    by_cases ei : i = k
    · rw [if_pos ei, if_pos ei]
      cases v with
      | int x => exact absurd rfl (hv x)
      | _ => rfl
    · rw [if_neg ei, if_neg ei]
  · rw [if_neg eq, if_neg eq]
theorem wr_pz {h : dr_AH} {c : Nat → Int → Int} {o : dr_AO} (ho : ∀ j y, o.2.2 j = .int y → y = 0) : dr_push (wr h c) o = wr (dr_push h o) (zer c (h.1 + 1)) := by
  unfold dr_push wr dr_upd zer
  refine Prod.ext rfl (Prod.ext rfl (funext fun q => ?_))
  dsimp only
  by_cases e : q = h.1 + 1
  · rw [if_pos e, if_pos e]
    refine Prod.ext rfl (Prod.ext rfl (funext fun i => ?_))
    dsimp only
    split
    · rename_i y ey; rw [ey, ho i y ey, if_pos e]; rfl
    · rfl
  · rw [if_neg e, if_neg e]
    refine Prod.ext rfl (Prod.ext rfl (funext fun i => ?_))
    dsimp only
    rw [if_neg e]
theorem r_pr {h : dr_AH} {c : Nat → Int → Int} {ci a k b : Nat} {K : dr_AH → Option (dr_RS × dr_AH)} (e : (h.2.2 a).1 = ci) : dr_pf (wr h c) ci a k (.ref b) K = K (wr (dr_put h a k (.ref b)) c) := by
  unfold dr_pf
  rw [if_pos (show ((wr h c).2.2 a).1 = ci from e), wr_pv (fun x => by simp)]
theorem cc_n : dr_CC = 601024 := rfl
theorem sc_n : dr_SC = 7293034 := rfl
theorem r_nw {h : dr_AH} {c : Nat → Int → Int} {ci N : Nat} {f : Nat → Value} {K : Nat → dr_AH → Option (dr_RS × dr_AH)} (h1 : h.1 < 601024) (h2 : h.2.1 + N ≤ 7293034) (hf : ∀ j y, f j = .int y → y = 0) : dr_nw (wr h c) ci N f K = K (h.1 + 1) (wr (dr_push h (ci, N, f)) (zer c (h.1 + 1))) := by
  unfold dr_nw
  rw [cc_n, sc_n, if_pos (show (wr h c).1 < 601024 ∧ (wr h c).2.1 + N ≤ 7293034 from ⟨h1, h2⟩), wr_pz hf]
  rfl
theorem r_na {h : dr_AH} {c : Nat → Int → Int} {k n : Nat} {x : Int} {K : Nat → dr_AH → Option (dr_RS × dr_AH)} (hx : x = (n : Int)) (hn : n ≤ 100000) (h1 : h.1 < 601024) (h2 : h.2.1 + n ≤ 7293034) : dr_na (wr h c) k (.int 0) (i2 x) K = K (h.1 + 1) (wr (dr_push h (100 + k, n, fun _ => .int 0)) (zer c (h.1 + 1))) := by
  subst hx
  have e1 : (i2 (n : Int)).toInt = n := i2_in (by omega) (by omega)
  have e2 : (i2 (n : Int)).toNatClampNeg = n := by rw [i2_nat (by omega) (by omega)]; omega
  unfold dr_na
  rw [cc_n, sc_n, if_pos (show ((0 ≤ (i2 (n : Int)).toInt ∧ (i2 (n : Int)).toInt ≤ 100000) ∧ (wr h c).1 < 601024 ∧ (wr h c).2.1 + (i2 (n : Int)).toNatClampNeg ≤ 7293034) by rw [e1, e2]; exact ⟨⟨by omega, by omega⟩, h1, h2⟩), e2, wr_pz (fun j y e => by injection e with e; exact e.symm)]
  rfl
theorem r_sl {h : dr_AH} {c : Nat → Int → Int} {y : Int64} {K : dr_AH → Option (dr_RS × dr_AH)} (e1 : (h.2.2 56).1 = 101) (e2 : (h.2.2 56).2.1 = 1) : dr_sl (wr h c) 56 (i2 0) y K = K (wr (hL h y) c) := by
  rw [← li_0]
  unfold dr_sl hL
  rw [if_pos ⟨⟨e1, by decide, by rw [wr_n, e2]; decide⟩, by decide⟩, wr_pv (fun x => by simp)]
  rfl
theorem r_al {h : dr_AH} {c : Nat → Int → Int} {y : Int64} {K : Int64 → Option (dr_RS × dr_AH)} (e1 : (h.2.2 56).1 = 101) (e2 : (h.2.2 56).2.1 = 1) (e3 : (h.2.2 56).2.2 0 = .long y) : dr_al (wr h c) 56 0 K = K y := by
  have e4 : ((wr h c).2.2 56).2.2 (0 : Int32).toNatClampNeg = .long y := by
    show (match (h.2.2 56).2.2 0 with
      | .int _ => Value.int (i2 (c 56 0))
      | v => v) = _
    rw [e3]
  unfold dr_al
  rw [if_pos ⟨e1, by decide, by rw [wr_n, e2]; decide⟩, e4]
theorem cmp_self (y : Int64) : lg_cmp y y = 0 := by
  unfold lg_cmp
  rw [if_neg (fun h => absurd h (Int64.lt_irrefl)), if_pos rfl]
/-! ===== the whole layout ===== -/
def sad (top s : Nat) : Prop := (s = 4 ∨ s = 16 ∨ 57 ≤ s) ∧ s + 11 ≤ top
def SD (s t : Nat) : Prop := s + 11 < t ∨ t + 11 < s
def Lay (L : Nat) (h : dr_AH) (nd : Nat) (da sa : Nat → Nat) (cs sp : Nat) : Prop := LaM h ∧ LaT h ∧ LaR h cs sp ∧ LaS h cs ∧ LaS h sp ∧ ((h.2.2 28).1 = 110 ∧ (h.2.2 28).2.1 = 8 ∧ ∀ i, i < 8 → (h.2.2 28).2.2 i = if i < nd then .ref (da i) else .null) ∧ (∀ i, i < nd → LaD h (da i) (sa i) ∧ LaS h (sa i)) ∧ ((h.2.2 56).1 = 101 ∧ (h.2.2 56).2.1 = 1) ∧ sA h 0 100 L
def Adr (top nd : Nat) (da sa : Nat → Nat) (cs sp : Nat) : Prop := 56 ≤ top ∧ sad top cs ∧ sad top sp ∧ SD sp cs ∧ (∀ i, i < nd → (57 ≤ da i ∧ da i + 4 ≤ top) ∧ sad top (sa i) ∧ DS (da i) cs ∧ DS (da i) sp ∧ SD sp (sa i)) ∧ (∀ i j, i < nd → j < nd → DS (da i) (sa j)) ∧ (∀ i j, i < nd → j < nd → i ≠ j → da i + 4 < da j ∨ da j + 4 < da i)
theorem Lay_f {L nd : Nat} {h h' : dr_AH} {da sa : Nat → Nat} {cs sp : Nat} (hA : Adr h.1 nd da sa cs sp) (e : ∀ a, a ≤ h.1 → a ≠ 56 → h'.2.2 a = h.2.2 a) (e5 : (h'.2.2 56).1 = (h.2.2 56).1 ∧ (h'.2.2 56).2.1 = (h.2.2 56).2.1) (hl : Lay L h nd da sa cs sp) : Lay L h' nd da sa cs sp := by
  obtain ⟨a0, a1, a2, a3, a4, a5, a6⟩ := hA
  unfold sad at a1 a2
  obtain ⟨l1, l2, l3, l4, l5, l6, l7, l8, l9⟩ := hl
  refine ⟨LaM_f (fun a h1 h2 => e a (by omega) (by omega)) l1, LaT_f (fun a h1 h2 => e a (by omega) (by omega)) l2, LaR_f (fun a h1 => e a (by omega) (by omega)) l3, LaS_f (fun a h1 h2 => e a (by omega) (by omega)) l4, LaS_f (fun a h1 h2 => e a (by omega) (by omega)) l5, ?_, fun i hi => ?_, ?_, ?_⟩
  · rw [e 28 (by omega) (by omega)]; exact l6
  · have := a4 i hi
    unfold sad at this
    exact ⟨LaD_f (fun a h1 h2 => e a (by omega) (by omega)) (l7 i hi).1, LaS_f (fun a h1 h2 => e a (by omega) (by omega)) (l7 i hi).2⟩
  · rw [e5.1, e5.2]; exact l8
  · unfold sA sI at l9 ⊢
    rw [e 0 (by omega) (by omega)]; exact l9
theorem Adr_le {nd t t' : Nat} {da sa : Nat → Nat} {cs sp : Nat} (hA : Adr t nd da sa cs sp) (h : t ≤ t') : Adr t' nd da sa cs sp := by
  obtain ⟨a0, a1, a2, a3, a4, a5, a6⟩ := hA
  unfold sad at a1 a2
  refine ⟨by omega, ⟨a1.1, by omega⟩, ⟨a2.1, by omega⟩, a3, fun i hi => ?_, a5, a6⟩
  obtain ⟨b1, b2, b3, b4, b5⟩ := a4 i hi
  exact ⟨⟨b1.1, by omega⟩, ⟨b2.1, by unfold sad at b2; omega⟩, b3, b4, b5⟩
theorem Lay_push {L nd : Nat} {h : dr_AH} {o : dr_AO} {da sa : Nat → Nat} {cs sp : Nat} (hA : Adr h.1 nd da sa cs sp) (hl : Lay L h nd da sa cs sp) : Lay L (dr_push h o) nd da sa cs sp :=
  Lay_f hA (fun a h1 _ => push_lo h1) ⟨by rw [push_lo hA.1], by rw [push_lo hA.1]⟩ hl
theorem Lay_hL {L nd : Nat} {h : dr_AH} {y : Int64} {da sa : Nat → Nat} {cs sp : Nat} (hA : Adr h.1 nd da sa cs sp) (hl : Lay L h nd da sa cs sp) : Lay L (hL h y) nd da sa cs sp := by
  unfold hL
  exact Lay_f hA (fun a _ h2 => put_ne h2) ⟨by rw [put_eq]; rfl, by rw [put_eq]; rfl⟩ hl
/-- the skeleton behind a call: the answer's long, or a thrown cell -/
def hE (k v : Int) (h : dr_AH) : dr_AH := if k = 0 then hL h (Int32.toInt64 (i2 v)) else hX h
theorem Lay_hE {L nd : Nat} {h : dr_AH} {k v : Int} {da sa : Nat → Nat} {cs sp : Nat} (hA : Adr h.1 nd da sa cs sp) (hl : Lay L h nd da sa cs sp) : Lay L (hE k v h) nd da sa cs sp := by
  unfold hE
  split
  · exact Lay_hL hA hl
  · exact Lay_push hA hl
theorem hE_1 {h : dr_AH} {k v : Int} : h.1 ≤ (hE k v h).1 ∧ (hE k v h).1 ≤ h.1 + 1 ∧ (hE k v h).2.1 ≤ h.2.1 + 6 := by
  unfold hE
  split
  · exact ⟨Nat.le_refl _, Nat.le_succ _, Nat.le_add_right _ 6⟩
  · exact ⟨Nat.le_succ _, Nat.le_refl _, Nat.le_refl _⟩
theorem hE_0 {h : dr_AH} {v : Int} : hE 0 v h = hL h (Int32.toInt64 (i2 v)) := if_pos rfl
theorem hE_x {h : dr_AH} {k v : Int} (e : k ≠ 0) : hE k v h = hX h := if_neg e
theorem tl_i {h : dr_AH} {c : Nat → Int → Int} {A B : Option (dr_RS × dr_AH)} {k v v' : Int} (k1 : 0 ≤ k) (k2 : k ≤ 3) (e1 : ((hE k v h).2.2 56).1 = 101) (e2 : ((hE k v h).2.2 56).2.1 = 1) (ev : k = 0 → v' = v) :
    (if i2 k = 0 then dr_al (wr (hE k v h) c) 56 0 (fun y => if lg_cmp y (Int32.toInt64 (i2 v')) = 0 then A else B) else A) = A := by
  by_cases e : k = 0
  · rw [ev e]
    subst e
    rw [hE_0] at e1 e2 ⊢
    rw [if_pos li_0.symm, r_al (y := Int32.toInt64 (i2 v)) e1 e2 (by unfold hL; rw [put_eq]; rfl), cmp_self, if_pos rfl]
  · rw [if_neg]
    rw [li_0, i2_eq (by omega) (by omega) (by omega) (by omega)]
    exact e
theorem tl_b {h : dr_AH} {c : Nat → Int → Int} {A B : Option (dr_RS × dr_AH)} {k v : Int} (k1 : 0 ≤ k) (k2 : k ≤ 3) (v1 : 0 ≤ v) (v2 : v < 2) (e1 : ((hE k v h).2.2 56).1 = 101) (e2 : ((hE k v h).2.2 56).2.1 = 1) :
    (if i2 k = 0 then dr_al (wr (hE k v h) c) 56 0 (fun y => if i2 v = 0 then if lg_cmp y 0 = 0 then A else B else if lg_cmp y 1 = 0 then A else B) else A) = A := by
  by_cases e : k = 0
  · subst e
    rw [hE_0] at e1 e2 ⊢
    rw [if_pos li_0.symm, r_al (y := Int32.toInt64 (i2 v)) e1 e2 (by unfold hL; rw [put_eq]; rfl)]
    have : v = 0 ∨ v = 1 := by omega
    rcases this with e | e
    · subst e
      rw [if_pos li_0.symm, show Int32.toInt64 (i2 0) = 0 from rfl, cmp_self, if_pos rfl]
    · subst e
      rw [if_neg (by decide), show Int32.toInt64 (i2 1) = 1 from rfl, cmp_self, if_pos rfl]
  · rw [if_neg]
    rw [li_0, i2_eq (by omega) (by omega) (by omega) (by omega)]
    exact e
/-! the drills' cells -/
theorem r_d28 {h : dr_AH} {c : Nat → Int → Int} {L nd : Nat} {da sa : Nat → Nat} {cs sp : Nat} (hl : Lay L h nd da sa cs sp) {K : Int32 → Option (dr_RS × dr_AH)} : dr_ln (wr h c) 10 28 K = K (i2 8) := by
  have := hl.2.2.2.2.2.1
  unfold dr_ln
  rw [if_pos (show ((wr h c).2.2 28).1 = 100 + 10 from this.1), wr_n, this.2.1, i2_nn]
  rfl
theorem r_d28r {h : dr_AH} {c : Nat → Int → Int} {L nd : Nat} {da sa : Nat → Nat} {cs sp : Nat} (hl : Lay L h nd da sa cs sp) {x : Int} {i : Nat} {K : Nat → Option (dr_RS × dr_AH)} {K0 : Option (dr_RS × dr_AH)} (hx : x = i) (h1 : i < nd) (h2 : nd ≤ 8) : dr_ar (wr h c) 0 28 (i2 x) K K0 = K (da i) := by
  have := hl.2.2.2.2.2.1
  have h4 := this.2.2 i (by omega)
  rw [if_pos h1] at h4
  subst hx
  unfold dr_ar
  rw [if_pos (show dr_in (wr h c) (10 + 0) 28 (i2 (i : Int)) from ⟨this.1, by rw [i2_in (by omega) (by omega)]; omega, by rw [i2_in (by omega) (by omega), wr_n, this.2.1]; omega⟩), i2_nat (by omega) (by omega), show ((i : Int)).toNat = i by omega, wr_r h4]
theorem r_d28n {h : dr_AH} {c : Nat → Int → Int} {L nd : Nat} {da sa : Nat → Nat} {cs sp : Nat} (hl : Lay L h nd da sa cs sp) {x : Int} {i : Nat} {K : Nat → Option (dr_RS × dr_AH)} {K0 : Option (dr_RS × dr_AH)} (hx : x = i) (h1 : nd ≤ i) (h2 : i < 8) : dr_ar (wr h c) 0 28 (i2 x) K K0 = K0 := by
  have := hl.2.2.2.2.2.1
  have h4 := this.2.2 i h2
  rw [if_neg (by omega)] at h4
  subst hx
  unfold dr_ar
  rw [if_pos (show dr_in (wr h c) (10 + 0) 28 (i2 (i : Int)) from ⟨this.1, by rw [i2_in (by omega) (by omega)]; omega, by rw [i2_in (by omega) (by omega), wr_n, this.2.1]; omega⟩), i2_nat (by omega) (by omega), show ((i : Int)).toNat = i by omega, wr_0 h4]
theorem k_yes {h : dr_AH} {c : Nat → Int → Int} {L nd : Nat} {da sa : Nat → Nat} {cs sp : Nat} (hl : Lay L h nd da sa cs sp) {x : Int} {i : Nat} (hx : x = i) (h1 : i < nd) (h2 : nd ≤ 8) : f_R_knownDrill 1 (i2 x) (wr h c) = some (.inl (some (.ref (da i))), wr h c) := by
  have e1 : ¬ (x < 0) := by omega
  have e2 : ¬ (8 ≤ x) := by omega
  unfold f_R_knownDrill
  simp (disch := omega) only [li_0, li_1, li_2, li_3, li_4, li_5, li_6, li_7, li_8, li_9, li_10, li_11, li_12, li_13, li_14, li_15, li_16, li_17, li_18, li_19, li_20, li_21, li_31, li_32, li_33, li_40, li_41, li_43, li_48, li_57, li_59, li_60, li_61, li_62, li_64, li_97, li_99, li_100, li_101, li_102, li_112, li_119, li_126, li_189, li_255, li_300, li_369, li_400, li_999, li_5000, li_9999, li_12345, li_99999, li_1103515245, i2_add, i2_sub, i2_mul, i2_neg, i2_le, i2_lt, i2_eq, r_rz, r_ci, r_cx, r_cv, r_vx, r_cr, r_rx, dr_ci', dr_cv', dr_cr', dr_gr', dr_x0, ↓reduceIte, Int.reduceLE, Int.reduceLT, Int.reduceEq, Int.reduceNeg, Int.reduceAdd, Int.reduceSub, Int.reduceMul, vR_k hl.2.2.1, vR_r0 hl.2.2.1, vR_r1 hl.2.2.1, vR_r2 hl.2.2.1, vR_g3 hl.2.2.1, vR_p3 hl.2.2.1, vR_g4 hl.2.2.1, vR_p4 hl.2.2.1, vR_r5 hl.2.2.1, vR_g6 hl.2.2.1, vR_p6 hl.2.2.1, vR_r7 hl.2.2.1, vR_r8 hl.2.2.1, vR_g9 hl.2.2.1, vR_p9 hl.2.2.1, vR_n29 hl.2.2.1, vR_a29 hl.2.2.1, vR_s29 hl.2.2.1, vR_n30 hl.2.2.1, vR_a30 hl.2.2.1, vR_s30 hl.2.2.1, e1, e2, r_d28 hl, r_d28r hl hx h1 h2]
theorem k_no {h : dr_AH} {c : Nat → Int → Int} {L nd : Nat} {da sa : Nat → Nat} {cs sp : Nat} (hl : Lay L h nd da sa cs sp) (h1 : h.1 < 601024) (h2 : h.2.1 + 6 ≤ 7293034) {x : Int} (x1 : -2147483648 ≤ x) (x2 : x < 2147483648) (hx : x < 0 ∨ nd ≤ x) : f_R_knownDrill 1 (i2 x) (wr h c) = some (.inr ("java/lang/IllegalArgumentException", h.1 + 1), wr (hX h) c) := by
  unfold f_R_knownDrill
  by_cases e1 : x < 0
  · simp (disch := omega) only [li_0, li_1, li_2, li_3, li_4, li_5, li_6, li_7, li_8, li_9, li_10, li_11, li_12, li_13, li_14, li_15, li_16, li_17, li_18, li_19, li_20, li_21, li_31, li_32, li_33, li_40, li_41, li_43, li_48, li_57, li_59, li_60, li_61, li_62, li_64, li_97, li_99, li_100, li_101, li_102, li_112, li_119, li_126, li_189, li_255, li_300, li_369, li_400, li_999, li_5000, li_9999, li_12345, li_99999, li_1103515245, i2_add, i2_sub, i2_mul, i2_neg, i2_le, i2_lt, i2_eq, r_rz, r_ci, r_cx, r_cv, r_vx, r_cr, r_rx, dr_ci', dr_cv', dr_cr', dr_gr', dr_x0, ↓reduceIte, Int.reduceLE, Int.reduceLT, Int.reduceEq, Int.reduceNeg, Int.reduceAdd, Int.reduceSub, Int.reduceMul, vR_k hl.2.2.1, vR_r0 hl.2.2.1, vR_r1 hl.2.2.1, vR_r2 hl.2.2.1, vR_g3 hl.2.2.1, vR_p3 hl.2.2.1, vR_g4 hl.2.2.1, vR_p4 hl.2.2.1, vR_r5 hl.2.2.1, vR_g6 hl.2.2.1, vR_p6 hl.2.2.1, vR_r7 hl.2.2.1, vR_r8 hl.2.2.1, vR_g9 hl.2.2.1, vR_p9 hl.2.2.1, vR_n29 hl.2.2.1, vR_a29 hl.2.2.1, vR_s29 hl.2.2.1, vR_n30 hl.2.2.1, vR_a30 hl.2.2.1, vR_s30 hl.2.2.1, e1, r_th h1 h2]
  · by_cases e2 : 8 ≤ x
    · simp (disch := omega) only [li_0, li_1, li_2, li_3, li_4, li_5, li_6, li_7, li_8, li_9, li_10, li_11, li_12, li_13, li_14, li_15, li_16, li_17, li_18, li_19, li_20, li_21, li_31, li_32, li_33, li_40, li_41, li_43, li_48, li_57, li_59, li_60, li_61, li_62, li_64, li_97, li_99, li_100, li_101, li_102, li_112, li_119, li_126, li_189, li_255, li_300, li_369, li_400, li_999, li_5000, li_9999, li_12345, li_99999, li_1103515245, i2_add, i2_sub, i2_mul, i2_neg, i2_le, i2_lt, i2_eq, r_rz, r_ci, r_cx, r_cv, r_vx, r_cr, r_rx, dr_ci', dr_cv', dr_cr', dr_gr', dr_x0, ↓reduceIte, Int.reduceLE, Int.reduceLT, Int.reduceEq, Int.reduceNeg, Int.reduceAdd, Int.reduceSub, Int.reduceMul, vR_k hl.2.2.1, vR_r0 hl.2.2.1, vR_r1 hl.2.2.1, vR_r2 hl.2.2.1, vR_g3 hl.2.2.1, vR_p3 hl.2.2.1, vR_g4 hl.2.2.1, vR_p4 hl.2.2.1, vR_r5 hl.2.2.1, vR_g6 hl.2.2.1, vR_p6 hl.2.2.1, vR_r7 hl.2.2.1, vR_r8 hl.2.2.1, vR_g9 hl.2.2.1, vR_p9 hl.2.2.1, vR_n29 hl.2.2.1, vR_a29 hl.2.2.1, vR_s29 hl.2.2.1, vR_n30 hl.2.2.1, vR_a30 hl.2.2.1, vR_s30 hl.2.2.1, e1, e2, r_d28 hl, r_th h1 h2]
    · simp (disch := omega) only [li_0, li_1, li_2, li_3, li_4, li_5, li_6, li_7, li_8, li_9, li_10, li_11, li_12, li_13, li_14, li_15, li_16, li_17, li_18, li_19, li_20, li_21, li_31, li_32, li_33, li_40, li_41, li_43, li_48, li_57, li_59, li_60, li_61, li_62, li_64, li_97, li_99, li_100, li_101, li_102, li_112, li_119, li_126, li_189, li_255, li_300, li_369, li_400, li_999, li_5000, li_9999, li_12345, li_99999, li_1103515245, i2_add, i2_sub, i2_mul, i2_neg, i2_le, i2_lt, i2_eq, r_rz, r_ci, r_cx, r_cv, r_vx, r_cr, r_rx, dr_ci', dr_cv', dr_cr', dr_gr', dr_x0, ↓reduceIte, Int.reduceLE, Int.reduceLT, Int.reduceEq, Int.reduceNeg, Int.reduceAdd, Int.reduceSub, Int.reduceMul, vR_k hl.2.2.1, vR_r0 hl.2.2.1, vR_r1 hl.2.2.1, vR_r2 hl.2.2.1, vR_g3 hl.2.2.1, vR_p3 hl.2.2.1, vR_g4 hl.2.2.1, vR_p4 hl.2.2.1, vR_r5 hl.2.2.1, vR_g6 hl.2.2.1, vR_p6 hl.2.2.1, vR_r7 hl.2.2.1, vR_r8 hl.2.2.1, vR_g9 hl.2.2.1, vR_p9 hl.2.2.1, vR_n29 hl.2.2.1, vR_a29 hl.2.2.1, vR_s29 hl.2.2.1, vR_n30 hl.2.2.1, vR_a30 hl.2.2.1, vR_s30 hl.2.2.1, e1, e2, r_d28 hl, r_d28n hl (show x = (x.toNat : Int) by omega) (show nd ≤ x.toNat by omega) (by omega), r_th h1 h2]

