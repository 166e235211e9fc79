/-! ===== by program (wip/whole/gen/over.py): a heap as its skeleton h and the ints c that lie in it ===== -/
def i2 (x : Int) : Int32 := Int32.ofInt x
def up (c : Nat → Int → Int) (a : Nat) (j x : Int) : Nat → Int → Int := fun b i => if b = a ∧ i = j then x else c b i
def wr (h : dr_AH) (c : Nat → Int → Int) : dr_AH := (h.1, h.2.1, fun a => ((h.2.2 a).1, (h.2.2 a).2.1, fun j => match (h.2.2 a).2.2 j with
  | .int _ => .int (i2 (c a j))
  | v => v))
def sI (h : dr_AH) (a j : Nat) : Prop := ∃ x, (h.2.2 a).2.2 j = .int x
def sR (h : dr_AH) (a j b : Nat) : Prop := (h.2.2 a).2.2 j = .ref b
def sA (h : dr_AH) (a k n : Nat) : Prop := (h.2.2 a).1 = k ∧ (h.2.2 a).2.1 = n ∧ ∀ j, j < n → sI h a j
theorem up_same (c : Nat → Int → Int) (a : Nat) (j x : Int) : up c a j x a j = x := by simp [up]
theorem up_a (c : Nat → Int → Int) {a b : Nat} (j x i : Int) (e : b ≠ a) : up c a j x b i = c b i := by simp [up, e]
theorem up_j (c : Nat → Int → Int) {a b : Nat} {j i : Int} (x : Int) (e : i ≠ j) : up c a j x b i = c b i := by simp [up, e]
theorem i2_in {x : Int} (h1 : -2147483648 ≤ x) (h2 : x < 2147483648) : (i2 x).toInt = x := Int32.toInt_ofInt_of_le h1 h2
theorem i2_to (x : Int32) : i2 x.toInt = x := Int32.ofInt_toInt x
theorem i2_add (a b : Int) : i2 a + i2 b = i2 (a + b) := (Int32.ofInt_add a b).symm
theorem i2_sub (a b : Int) : i2 a - i2 b = i2 (a - b) := (Int32.ofInt_sub a b).symm
theorem i2_mul (a b : Int) : i2 a * i2 b = i2 (a * b) := (Int32.ofInt_mul a b).symm
theorem i2_neg (a : Int) : -(i2 a) = i2 (-a) := (Int32.ofInt_neg a).symm
theorem i2_le {a b : Int} (h1 : -2147483648 ≤ a) (h2 : a < 2147483648) (h3 : -2147483648 ≤ b) (h4 : b < 2147483648) : (i2 a ≤ i2 b) = (a ≤ b) := by
  rw [Int32.le_iff_toInt_le, i2_in h1 h2, i2_in h3 h4]
theorem i2_lt {a b : Int} (h1 : -2147483648 ≤ a) (h2 : a < 2147483648) (h3 : -2147483648 ≤ b) (h4 : b < 2147483648) : (i2 a < i2 b) = (a < b) := by
  rw [Int32.lt_iff_toInt_lt, i2_in h1 h2, i2_in h3 h4]
theorem i2_eq {a b : Int} (h1 : -2147483648 ≤ a) (h2 : a < 2147483648) (h3 : -2147483648 ≤ b) (h4 : b < 2147483648) : (i2 a = i2 b) = (a = b) := by
  rw [← Int32.toInt_inj, i2_in h1 h2, i2_in h3 h4]
theorem i2_mod {a b : Int} (h1 : -2147483648 ≤ a) (h2 : a < 2147483648) (h3 : -2147483648 ≤ b) (h4 : b < 2147483648) : i2 a % i2 b = i2 (a.tmod b) := by
  refine Int32.toInt_inj.mp ?_
  have h5 := Int32.toInt_mod (i2 a) (i2 b)
  rw [i2_in h1 h2, i2_in h3 h4] at h5
  rw [h5, ← h5, i2_to]
theorem i2_div {a b : Int} (h1 : -2147483648 ≤ a) (h2 : a < 2147483648) (h3 : 0 < b) (h4 : b < 2147483648) : i2 a / i2 b = i2 (a.tdiv b) := by
  refine Int32.toInt_inj.mp ?_
  have h6 : i2 b ≠ -1 := by
    intro e
    have e2 := congrArg Int32.toInt e
    rw [i2_in (by omega) h4] at e2
    have : (-1 : Int32).toInt = -1 := rfl
    omega
  have h5 := Int32.toInt_div_of_ne_right (i2 a) (i2 b) h6
  rw [i2_in h1 h2, i2_in (by omega) h4] at h5
  rw [h5, ← h5, i2_to]
theorem i2_nat {x : Int} (h1 : 0 ≤ x) (h2 : x < 2147483648) : (i2 x).toNatClampNeg = x.toNat := by
  have : (i2 x).toNatClampNeg = (i2 x).toInt.toNat := rfl
  rw [this, i2_in (by omega) h2]
theorem i2_nn (n : Nat) : n.toInt32 = i2 (n : Int) := by
  unfold i2; exact Int32.ofInt_eq_ofNat.symm
theorem i2_w (x : Int32) : ∃ v : Int, x = i2 v ∧ -2147483648 ≤ v ∧ v < 2147483648 := ⟨x.toInt, (i2_to x).symm, Int32.le_toInt x, Int32.toInt_lt x⟩
section OV
variable {h : dr_AH} {c : Nat → Int → Int} {a k b n ci : Nat} {j x : Int}
theorem wr_1 : (wr h c).1 = h.1 := rfl
theorem wr_2 : (wr h c).2.1 = h.2.1 := rfl
theorem wr_k : ((wr h c).2.2 a).1 = (h.2.2 a).1 := rfl
theorem wr_n : ((wr h c).2.2 a).2.1 = (h.2.2 a).2.1 := rfl
theorem wr_i (e : sI h a k) : ((wr h c).2.2 a).2.2 k = .int (i2 (c a k)) := by
  obtain ⟨x, e⟩ := e
  show (match (h.2.2 a).2.2 k with
  | .int _ => Value.int (i2 (c a k))
  | v => v) = _
  rw [e]
theorem wr_r (e : sR h a k b) : ((wr h c).2.2 a).2.2 k = .ref b := by
  show (match (h.2.2 a).2.2 k with
  | .int _ => Value.int (i2 (c a k))
  | v => v) = _
  rw [show (h.2.2 a).2.2 k = .ref b from e]
theorem wr_0 (e : (h.2.2 a).2.2 k = .null) : ((wr h c).2.2 a).2.2 k = .null := by
  show (match (h.2.2 a).2.2 k with
  | .int _ => Value.int (i2 (c a k))
  | v => v) = _
  rw [e]
theorem wr_put (e : sI h a k) : dr_put (wr h c) a k (.int (i2 x)) = wr h (up c a k x) := by
  obtain ⟨y, e⟩ := e
  unfold dr_put wr dr_upd dr_set
  refine Prod.ext rfl (Prod.ext rfl (funext fun q => ?_))
  dsimp only
  by_cases eq : q = a
  · subst eq
    rw [if_pos rfl]
    refine Prod.ext rfl (Prod.ext rfl (funext fun i => ?_))
    dsimp only
    by_cases ei : i = k
    · subst ei; rw [if_pos rfl, e]; dsimp only; rw [up_same]
    · rw [if_neg ei]; rw [up_j _ _ (by omega)]
  · rw [if_neg eq]
    refine Prod.ext rfl (Prod.ext rfl (funext fun i => ?_))
    dsimp only
    rw [up_a _ _ _ _ eq]
theorem r_k {A : Option (dr_RS × dr_AH)} (e : (h.2.2 a).1 = ci) : dr_k (wr h c) a ci A = A := if_pos e
theorem r_gi {K : Int32 → Option (dr_RS × dr_AH)} (e : (h.2.2 a).1 = ci) (f : sI h a k) : dr_gi (wr h c) ci a k K = K (i2 (c a k)) := by
  unfold dr_gi; rw [if_pos (show ((wr h c).2.2 a).1 = ci from e), wr_i f]
theorem r_gr {K : Nat → Option (dr_RS × dr_AH)} {K0 : Option (dr_RS × dr_AH)} (e : (h.2.2 a).1 = ci) (f : sR h a k b) : dr_gr (wr h c) ci a k K K0 = K b := by
  unfold dr_gr; rw [if_pos (show ((wr h c).2.2 a).1 = ci from e), wr_r f]
theorem r_pf {K : dr_AH → Option (dr_RS × dr_AH)} (e : (h.2.2 a).1 = ci) (f : sI h a k) : dr_pf (wr h c) ci a k (.int (i2 x)) K = K (wr h (up c a k x)) := by
  unfold dr_pf; rw [if_pos (show ((wr h c).2.2 a).1 = ci from e), wr_put f]
theorem r_ln {K : Int32 → Option (dr_RS × dr_AH)} (e : sA h a (100 + k) n) : dr_ln (wr h c) k a K = K (i2 (n : Int)) := by
  unfold dr_ln; rw [if_pos (show ((wr h c).2.2 a).1 = 100 + k from e.1), wr_n, e.2.1, i2_nn]
theorem r_in (e : sA h a (100 + k) n) (h0 : 0 ≤ j) (h1 : j < n) (hn : n ≤ 100000) : dr_in (wr h c) k a (i2 j) := by
  refine ⟨e.1, ?_, ?_⟩
  · rw [i2_in (by omega) (by omega)]; exact h0
  · rw [i2_in (by omega) (by omega), wr_n, e.2.1]; exact h1
theorem r_ai {K : Int32 → Option (dr_RS × dr_AH)} (e : sA h a 100 n) (hn : n ≤ 100000) (h0 : 0 ≤ j) (h1 : j < n) : dr_ai (wr h c) a (i2 j) K = K (i2 (c a j)) := by
  unfold dr_ai; rw [if_pos (r_in (k := 0) e h0 h1 hn), i2_nat h0 (by omega), wr_i (e.2.2 _ (by omega)), Int.toNat_of_nonneg h0]
theorem r_az {K : Int32 → Option (dr_RS × dr_AH)} (e : sA h a 102 n) (hn : n ≤ 100000) (h0 : 0 ≤ j) (h1 : j < n) : dr_az (wr h c) a (i2 j) K = K (i2 (c a j)) := by
  unfold dr_az; rw [if_pos (r_in (k := 2) e h0 h1 hn), i2_nat h0 (by omega), wr_i (e.2.2 _ (by omega)), Int.toNat_of_nonneg h0]
theorem r_si {K : dr_AH → Option (dr_RS × dr_AH)} (e : sA h a 100 n) (hn : n ≤ 100000) (ha : a ≠ 0) (h0 : 0 ≤ j) (h1 : j < n) : dr_si (wr h c) a (i2 j) (i2 x) K = K (wr h (up c a j x)) := by
  unfold dr_si; rw [if_pos ⟨r_in (k := 0) e h0 h1 hn, ha⟩, i2_nat h0 (by omega), wr_put (e.2.2 _ (by omega)), Int.toNat_of_nonneg h0]
theorem i2_and (h0 : 0 ≤ x) (h1 : x < 2) : i2 x &&& 1 = i2 x := by
  have : x = 0 ∨ x = 1 := by omega
  rcases this with e | e <;> subst e <;> rfl
theorem r_sz {K : dr_AH → Option (dr_RS × dr_AH)} (e : sA h a 102 n) (hn : n ≤ 100000) (ha : a ≠ 0) (h0 : 0 ≤ j) (h1 : j < n) (h2 : 0 ≤ x) (h3 : x < 2) : dr_sz (wr h c) a (i2 j) (i2 x) K = K (wr h (up c a j x)) := by
  unfold dr_sz; rw [if_pos ⟨r_in (k := 2) e h0 h1 hn, ha⟩, i2_nat h0 (by omega), i2_and h2 h3, wr_put (e.2.2 _ (by omega)), Int.toNat_of_nonneg h0]
theorem r_rz {g : dr_AH} (h2 : 0 ≤ x) (h3 : x < 2) : dr_rz (i2 x) g = some (.inl (some (.int (i2 x))), g) := by
  unfold dr_rz; rw [if_pos (i2_and h2 h3)]
theorem r_ci {g : dr_AH} {y : Int32} {K : Int32 → dr_AH → Option (dr_RS × dr_AH)} {X : String → Nat → dr_AH → Option (dr_RS × dr_AH)} : dr_ci (some (.inl (some (.int y)), g)) K X = K y g := rfl
theorem r_cx {g : dr_AH} {E : String} {q : Nat} {K : Int32 → dr_AH → Option (dr_RS × dr_AH)} {X : String → Nat → dr_AH → Option (dr_RS × dr_AH)} : dr_ci (some (.inr (E, q), g)) K X = X E q g := rfl
theorem r_cv {g : dr_AH} {K : dr_AH → Option (dr_RS × dr_AH)} {X : String → Nat → dr_AH → Option (dr_RS × dr_AH)} : dr_cv (some (.inl none, g)) K X = K g := rfl
theorem r_vx {g : dr_AH} {E : String} {q : Nat} {K : dr_AH → Option (dr_RS × dr_AH)} {X : String → Nat → dr_AH → Option (dr_RS × dr_AH)} : dr_cv (some (.inr (E, q), g)) K X = X E q g := rfl
theorem r_cr {g : dr_AH} {q : Nat} {K : Nat → dr_AH → Option (dr_RS × dr_AH)} {X : String → Nat → dr_AH → Option (dr_RS × dr_AH)} : dr_cr (some (.inl (some (.ref q)), g)) K X = K q g := rfl
theorem r_rx {g : dr_AH} {E : String} {q : Nat} {K : Nat → dr_AH → Option (dr_RS × dr_AH)} {X : String → Nat → dr_AH → Option (dr_RS × dr_AH)} : dr_cr (some (.inr (E, q), g)) K X = X E q g := rfl
theorem wr_push {o : dr_AO} (ho : ∀ j y, o.2.2 j ≠ .int y) : dr_push (wr h c) o = wr (dr_push h o) c := by
  unfold dr_push wr dr_upd
  refine Prod.ext rfl (Prod.ext rfl (funext fun q => ?_))
  dsimp only
  by_cases e : q = h.1 + 1
  · rw [if_pos e, if_pos e]
    refine Prod.ext rfl (Prod.ext rfl (funext fun i => ?_))
    dsimp only
    split
    · rename_i y ey; exact absurd ey (ho i y)
    · rfl
  · rw [if_neg e, if_neg e]
def hX (h : dr_AH) : dr_AH := dr_push h (200, 6, fun _ => .null)
theorem r_th {E : String} (h1 : h.1 < 601024) (h2 : h.2.1 + 6 ≤ 7293034) : dr_th (wr h c) E = some (.inr (E, h.1 + 1), wr (hX h) c) := by
  unfold dr_th
  rw [if_pos ⟨(by have : dr_CC = 601024 := rfl
                  rw [this]; exact h1), (by have : dr_SC = 7293034 := rfl
                                            rw [this]; exact h2)⟩, wr_push (fun j y => by simp)]
  rfl
end OV
theorem li_0 : (0 : Int32) = i2 0 := rfl
theorem li_1 : (1 : Int32) = i2 1 := rfl
theorem li_2 : (2 : Int32) = i2 2 := rfl
theorem li_3 : (3 : Int32) = i2 3 := rfl
theorem li_4 : (4 : Int32) = i2 4 := rfl
theorem li_5 : (5 : Int32) = i2 5 := rfl
theorem li_6 : (6 : Int32) = i2 6 := rfl
theorem li_7 : (7 : Int32) = i2 7 := rfl
theorem li_8 : (8 : Int32) = i2 8 := rfl
theorem li_9 : (9 : Int32) = i2 9 := rfl
theorem li_10 : (10 : Int32) = i2 10 := rfl
theorem li_11 : (11 : Int32) = i2 11 := rfl
theorem li_12 : (12 : Int32) = i2 12 := rfl
theorem li_13 : (13 : Int32) = i2 13 := rfl
theorem li_14 : (14 : Int32) = i2 14 := rfl
theorem li_15 : (15 : Int32) = i2 15 := rfl
theorem li_16 : (16 : Int32) = i2 16 := rfl
theorem li_17 : (17 : Int32) = i2 17 := rfl
theorem li_18 : (18 : Int32) = i2 18 := rfl
theorem li_19 : (19 : Int32) = i2 19 := rfl
theorem li_20 : (20 : Int32) = i2 20 := rfl
theorem li_21 : (21 : Int32) = i2 21 := rfl
theorem li_31 : (31 : Int32) = i2 31 := rfl
theorem li_32 : (32 : Int32) = i2 32 := rfl
theorem li_33 : (33 : Int32) = i2 33 := rfl
theorem li_40 : (40 : Int32) = i2 40 := rfl
theorem li_41 : (41 : Int32) = i2 41 := rfl
theorem li_43 : (43 : Int32) = i2 43 := rfl
theorem li_48 : (48 : Int32) = i2 48 := rfl
theorem li_57 : (57 : Int32) = i2 57 := rfl
theorem li_59 : (59 : Int32) = i2 59 := rfl
theorem li_60 : (60 : Int32) = i2 60 := rfl
theorem li_61 : (61 : Int32) = i2 61 := rfl
theorem li_62 : (62 : Int32) = i2 62 := rfl
theorem li_64 : (64 : Int32) = i2 64 := rfl
theorem li_97 : (97 : Int32) = i2 97 := rfl
theorem li_99 : (99 : Int32) = i2 99 := rfl
theorem li_100 : (100 : Int32) = i2 100 := rfl
theorem li_101 : (101 : Int32) = i2 101 := rfl
theorem li_102 : (102 : Int32) = i2 102 := rfl
theorem li_112 : (112 : Int32) = i2 112 := rfl
theorem li_119 : (119 : Int32) = i2 119 := rfl
theorem li_126 : (126 : Int32) = i2 126 := rfl
theorem li_189 : (189 : Int32) = i2 189 := rfl
theorem li_255 : (255 : Int32) = i2 255 := rfl
theorem li_300 : (300 : Int32) = i2 300 := rfl
theorem li_369 : (369 : Int32) = i2 369 := rfl
theorem li_400 : (400 : Int32) = i2 400 := rfl
theorem li_999 : (999 : Int32) = i2 999 := rfl
theorem li_5000 : (5000 : Int32) = i2 5000 := rfl
theorem li_9999 : (9999 : Int32) = i2 9999 := rfl
theorem li_12345 : (12345 : Int32) = i2 12345 := rfl
theorem li_99999 : (99999 : Int32) = i2 99999 := rfl
theorem li_1103515245 : (1103515245 : Int32) = i2 1103515245 := rfl
def LaM (h : dr_AH)  : Prop := (h.2.2 31).1 = 4 ∧ sI h 31 0 ∧ sI h 31 1 ∧ sI h 31 2 ∧ sR h 31 3 32 ∧ sI h 31 4 ∧ sI h 31 5 ∧ sI h 31 6 ∧ sR h 31 7 33 ∧ sR h 31 8 34 ∧ sR h 31 9 35 ∧ sR h 31 10 36 ∧ sR h 31 11 37 ∧ sR h 31 12 38 ∧ sR h 31 13 39 ∧ sR h 31 14 40 ∧ sR h 31 15 41 ∧ sR h 31 16 42 ∧ sR h 31 17 43 ∧ sR h 31 18 44 ∧ sI h 31 19 ∧ sR h 31 20 45 ∧ sR h 31 21 46 ∧ sR h 31 22 47 ∧ sR h 31 23 48 ∧ sR h 31 24 49 ∧ sR h 31 25 50 ∧ sR h 31 26 51 ∧ sI h 31 27 ∧ sR h 31 28 52 ∧ sR h 31 29 53 ∧ sR h 31 30 54 ∧ sR h 31 31 55 ∧ sA h 32 100 300 ∧ sA h 33 102 410 ∧ sA h 34 100 410 ∧ sA h 35 100 410 ∧ sA h 36 100 410 ∧ sA h 37 100 410 ∧ sA h 38 102 410 ∧ sA h 39 100 410 ∧ sA h 40 102 210 ∧ sA h 41 100 210 ∧ sA h 42 100 210 ∧ sA h 43 100 210 ∧ sA h 44 100 210 ∧ sA h 45 100 8 ∧ sA h 46 102 8 ∧ sA h 47 100 328 ∧ sA h 48 100 8 ∧ sA h 49 100 480 ∧ sA h 50 100 480 ∧ sA h 51 100 20 ∧ sA h 52 100 100 ∧ sA h 53 100 100 ∧ sA h 54 100 100 ∧ sA h 55 102 100
theorem vM_k {h : dr_AH} {c : Nat → Int → Int}  (hl : LaM h ) {A : Option (dr_RS × dr_AH)} : dr_k (wr h c) 31 4 A = A := r_k hl.1
theorem vM_g0 {h : dr_AH} {c : Nat → Int → Int}  (hl : LaM h ) {K : Int32 → Option (dr_RS × dr_AH)} : dr_gi (wr h c) 4 31 0 K = K (i2 (c 31 0)) := r_gi hl.1 hl.2.1
theorem vM_p0 {h : dr_AH} {c : Nat → Int → Int}  (hl : LaM h ) {x : Int} {K : dr_AH → Option (dr_RS × dr_AH)} : dr_pf (wr h c) 4 31 0 (.int (i2 x)) K = K (wr h (up c 31 0 x)) := r_pf hl.1 hl.2.1
theorem vM_g1 {h : dr_AH} {c : Nat → Int → Int}  (hl : LaM h ) {K : Int32 → Option (dr_RS × dr_AH)} : dr_gi (wr h c) 4 31 1 K = K (i2 (c 31 1)) := r_gi hl.1 hl.2.2.1
theorem vM_p1 {h : dr_AH} {c : Nat → Int → Int}  (hl : LaM h ) {x : Int} {K : dr_AH → Option (dr_RS × dr_AH)} : dr_pf (wr h c) 4 31 1 (.int (i2 x)) K = K (wr h (up c 31 1 x)) := r_pf hl.1 hl.2.2.1
theorem vM_g2 {h : dr_AH} {c : Nat → Int → Int}  (hl : LaM h ) {K : Int32 → Option (dr_RS × dr_AH)} : dr_gi (wr h c) 4 31 2 K = K (i2 (c 31 2)) := r_gi hl.1 hl.2.2.2.1
theorem vM_p2 {h : dr_AH} {c : Nat → Int → Int}  (hl : LaM h ) {x : Int} {K : dr_AH → Option (dr_RS × dr_AH)} : dr_pf (wr h c) 4 31 2 (.int (i2 x)) K = K (wr h (up c 31 2 x)) := r_pf hl.1 hl.2.2.2.1
theorem vM_r3 {h : dr_AH} {c : Nat → Int → Int}  (hl : LaM h ) {K : Nat → Option (dr_RS × dr_AH)} {K0 : Option (dr_RS × dr_AH)} : dr_gr (wr h c) 4 31 3 K K0 = K 32 := r_gr hl.1 hl.2.2.2.2.1
theorem vM_g4 {h : dr_AH} {c : Nat → Int → Int}  (hl : LaM h ) {K : Int32 → Option (dr_RS × dr_AH)} : dr_gi (wr h c) 4 31 4 K = K (i2 (c 31 4)) := r_gi hl.1 hl.2.2.2.2.2.1
theorem vM_p4 {h : dr_AH} {c : Nat → Int → Int}  (hl : LaM h ) {x : Int} {K : dr_AH → Option (dr_RS × dr_AH)} : dr_pf (wr h c) 4 31 4 (.int (i2 x)) K = K (wr h (up c 31 4 x)) := r_pf hl.1 hl.2.2.2.2.2.1
theorem vM_g5 {h : dr_AH} {c : Nat → Int → Int}  (hl : LaM h ) {K : Int32 → Option (dr_RS × dr_AH)} : dr_gi (wr h c) 4 31 5 K = K (i2 (c 31 5)) := r_gi hl.1 hl.2.2.2.2.2.2.1
theorem vM_p5 {h : dr_AH} {c : Nat → Int → Int}  (hl : LaM h ) {x : Int} {K : dr_AH → Option (dr_RS × dr_AH)} : dr_pf (wr h c) 4 31 5 (.int (i2 x)) K = K (wr h (up c 31 5 x)) := r_pf hl.1 hl.2.2.2.2.2.2.1
theorem vM_g6 {h : dr_AH} {c : Nat → Int → Int}  (hl : LaM h ) {K : Int32 → Option (dr_RS × dr_AH)} : dr_gi (wr h c) 4 31 6 K = K (i2 (c 31 6)) := r_gi hl.1 hl.2.2.2.2.2.2.2.1
theorem vM_p6 {h : dr_AH} {c : Nat → Int → Int}  (hl : LaM h ) {x : Int} {K : dr_AH → Option (dr_RS × dr_AH)} : dr_pf (wr h c) 4 31 6 (.int (i2 x)) K = K (wr h (up c 31 6 x)) := r_pf hl.1 hl.2.2.2.2.2.2.2.1
theorem vM_r7 {h : dr_AH} {c : Nat → Int → Int}  (hl : LaM h ) {K : Nat → Option (dr_RS × dr_AH)} {K0 : Option (dr_RS × dr_AH)} : dr_gr (wr h c) 4 31 7 K K0 = K 33 := r_gr hl.1 hl.2.2.2.2.2.2.2.2.1
theorem vM_r8 {h : dr_AH} {c : Nat → Int → Int}  (hl : LaM h ) {K : Nat → Option (dr_RS × dr_AH)} {K0 : Option (dr_RS × dr_AH)} : dr_gr (wr h c) 4 31 8 K K0 = K 34 := r_gr hl.1 hl.2.2.2.2.2.2.2.2.2.1
theorem vM_r9 {h : dr_AH} {c : Nat → Int → Int}  (hl : LaM h ) {K : Nat → Option (dr_RS × dr_AH)} {K0 : Option (dr_RS × dr_AH)} : dr_gr (wr h c) 4 31 9 K K0 = K 35 := r_gr hl.1 hl.2.2.2.2.2.2.2.2.2.2.1
theorem vM_r10 {h : dr_AH} {c : Nat → Int → Int}  (hl : LaM h ) {K : Nat → Option (dr_RS × dr_AH)} {K0 : Option (dr_RS × dr_AH)} : dr_gr (wr h c) 4 31 10 K K0 = K 36 := r_gr hl.1 hl.2.2.2.2.2.2.2.2.2.2.2.1
theorem vM_r11 {h : dr_AH} {c : Nat → Int → Int}  (hl : LaM h ) {K : Nat → Option (dr_RS × dr_AH)} {K0 : Option (dr_RS × dr_AH)} : dr_gr (wr h c) 4 31 11 K K0 = K 37 := r_gr hl.1 hl.2.2.2.2.2.2.2.2.2.2.2.2.1
theorem vM_r12 {h : dr_AH} {c : Nat → Int → Int}  (hl : LaM h ) {K : Nat → Option (dr_RS × dr_AH)} {K0 : Option (dr_RS × dr_AH)} : dr_gr (wr h c) 4 31 12 K K0 = K 38 := r_gr hl.1 hl.2.2.2.2.2.2.2.2.2.2.2.2.2.1
theorem vM_r13 {h : dr_AH} {c : Nat → Int → Int}  (hl : LaM h ) {K : Nat → Option (dr_RS × dr_AH)} {K0 : Option (dr_RS × dr_AH)} : dr_gr (wr h c) 4 31 13 K K0 = K 39 := r_gr hl.1 hl.2.2.2.2.2.2.2.2.2.2.2.2.2.2.1
theorem vM_r14 {h : dr_AH} {c : Nat → Int → Int}  (hl : LaM h ) {K : Nat → Option (dr_RS × dr_AH)} {K0 : Option (dr_RS × dr_AH)} : dr_gr (wr h c) 4 31 14 K K0 = K 40 := r_gr hl.1 hl.2.2.2.2.2.2.2.2.2.2.2.2.2.2.2.1
theorem vM_r15 {h : dr_AH} {c : Nat → Int → Int}  (hl : LaM h ) {K : Nat → Option (dr_RS × dr_AH)} {K0 : Option (dr_RS × dr_AH)} : dr_gr (wr h c) 4 31 15 K K0 = K 41 := r_gr hl.1 hl.2.2.2.2.2.2.2.2.2.2.2.2.2.2.2.2.1
theorem vM_r16 {h : dr_AH} {c : Nat → Int → Int}  (hl : LaM h ) {K : Nat → Option (dr_RS × dr_AH)} {K0 : Option (dr_RS × dr_AH)} : dr_gr (wr h c) 4 31 16 K K0 = K 42 := r_gr hl.1 hl.2.2.2.2.2.2.2.2.2.2.2.2.2.2.2.2.2.1
theorem vM_r17 {h : dr_AH} {c : Nat → Int → Int}  (hl : LaM h ) {K : Nat → Option (dr_RS × dr_AH)} {K0 : Option (dr_RS × dr_AH)} : dr_gr (wr h c) 4 31 17 K K0 = K 43 := r_gr hl.1 hl.2.2.2.2.2.2.2.2.2.2.2.2.2.2.2.2.2.2.1
theorem vM_r18 {h : dr_AH} {c : Nat → Int → Int}  (hl : LaM h ) {K : Nat → Option (dr_RS × dr_AH)} {K0 : Option (dr_RS × dr_AH)} : dr_gr (wr h c) 4 31 18 K K0 = K 44 := r_gr hl.1 hl.2.2.2.2.2.2.2.2.2.2.2.2.2.2.2.2.2.2.2.1
theorem vM_g19 {h : dr_AH} {c : Nat → Int → Int}  (hl : LaM h ) {K : Int32 → Option (dr_RS × dr_AH)} : dr_gi (wr h c) 4 31 19 K = K (i2 (c 31 19)) := r_gi hl.1 hl.2.2.2.2.2.2.2.2.2.2.2.2.2.2.2.2.2.2.2.2.1
theorem vM_p19 {h : dr_AH} {c : Nat → Int → Int}  (hl : LaM h ) {x : Int} {K : dr_AH → Option (dr_RS × dr_AH)} : dr_pf (wr h c) 4 31 19 (.int (i2 x)) K = K (wr h (up c 31 19 x)) := r_pf hl.1 hl.2.2.2.2.2.2.2.2.2.2.2.2.2.2.2.2.2.2.2.2.1
theorem vM_r20 {h : dr_AH} {c : Nat → Int → Int}  (hl : LaM h ) {K : Nat → Option (dr_RS × dr_AH)} {K0 : Option (dr_RS × dr_AH)} : dr_gr (wr h c) 4 31 20 K K0 = K 45 := r_gr hl.1 hl.2.2.2.2.2.2.2.2.2.2.2.2.2.2.2.2.2.2.2.2.2.1
theorem vM_r21 {h : dr_AH} {c : Nat → Int → Int}  (hl : LaM h ) {K : Nat → Option (dr_RS × dr_AH)} {K0 : Option (dr_RS × dr_AH)} : dr_gr (wr h c) 4 31 21 K K0 = K 46 := r_gr hl.1 hl.2.2.2.2.2.2.2.2.2.2.2.2.2.2.2.2.2.2.2.2.2.2.1
theorem vM_r22 {h : dr_AH} {c : Nat → Int → Int}  (hl : LaM h ) {K : Nat → Option (dr_RS × dr_AH)} {K0 : Option (dr_RS × dr_AH)} : dr_gr (wr h c) 4 31 22 K K0 = K 47 := r_gr hl.1 hl.2.2.2.2.2.2.2.2.2.2.2.2.2.2.2.2.2.2.2.2.2.2.2.1
theorem vM_r23 {h : dr_AH} {c : Nat → Int → Int}  (hl : LaM h ) {K : Nat → Option (dr_RS × dr_AH)} {K0 : Option (dr_RS × dr_AH)} : dr_gr (wr h c) 4 31 23 K K0 = K 48 := r_gr hl.1 hl.2.2.2.2.2.2.2.2.2.2.2.2.2.2.2.2.2.2.2.2.2.2.2.2.1
theorem vM_r24 {h : dr_AH} {c : Nat → Int → Int}  (hl : LaM h ) {K : Nat → Option (dr_RS × dr_AH)} {K0 : Option (dr_RS × dr_AH)} : dr_gr (wr h c) 4 31 24 K K0 = K 49 := r_gr hl.1 hl.2.2.2.2.2.2.2.2.2.2.2.2.2.2.2.2.2.2.2.2.2.2.2.2.2.1
theorem vM_r25 {h : dr_AH} {c : Nat → Int → Int}  (hl : LaM h ) {K : Nat → Option (dr_RS × dr_AH)} {K0 : Option (dr_RS × dr_AH)} : dr_gr (wr h c) 4 31 25 K K0 = K 50 := r_gr hl.1 hl.2.2.2.2.2.2.2.2.2.2.2.2.2.2.2.2.2.2.2.2.2.2.2.2.2.2.1
theorem vM_r26 {h : dr_AH} {c : Nat → Int → Int}  (hl : LaM h ) {K : Nat → Option (dr_RS × dr_AH)} {K0 : Option (dr_RS × dr_AH)} : dr_gr (wr h c) 4 31 26 K K0 = K 51 := r_gr hl.1 hl.2.2.2.2.2.2.2.2.2.2.2.2.2.2.2.2.2.2.2.2.2.2.2.2.2.2.2.1
theorem vM_g27 {h : dr_AH} {c : Nat → Int → Int}  (hl : LaM h ) {K : Int32 → Option (dr_RS × dr_AH)} : dr_gi (wr h c) 4 31 27 K = K (i2 (c 31 27)) := r_gi hl.1 hl.2.2.2.2.2.2.2.2.2.2.2.2.2.2.2.2.2.2.2.2.2.2.2.2.2.2.2.2.1
theorem vM_p27 {h : dr_AH} {c : Nat → Int → Int}  (hl : LaM h ) {x : Int} {K : dr_AH → Option (dr_RS × dr_AH)} : dr_pf (wr h c) 4 31 27 (.int (i2 x)) K = K (wr h (up c 31 27 x)) := r_pf hl.1 hl.2.2.2.2.2.2.2.2.2.2.2.2.2.2.2.2.2.2.2.2.2.2.2.2.2.2.2.2.1
theorem vM_r28 {h : dr_AH} {c : Nat → Int → Int}  (hl : LaM h ) {K : Nat → Option (dr_RS × dr_AH)} {K0 : Option (dr_RS × dr_AH)} : dr_gr (wr h c) 4 31 28 K K0 = K 52 := r_gr hl.1 hl.2.2.2.2.2.2.2.2.2.2.2.2.2.2.2.2.2.2.2.2.2.2.2.2.2.2.2.2.2.1
theorem vM_r29 {h : dr_AH} {c : Nat → Int → Int}  (hl : LaM h ) {K : Nat → Option (dr_RS × dr_AH)} {K0 : Option (dr_RS × dr_AH)} : dr_gr (wr h c) 4 31 29 K K0 = K 53 := r_gr hl.1 hl.2.2.2.2.2.2.2.2.2.2.2.2.2.2.2.2.2.2.2.2.2.2.2.2.2.2.2.2.2.2.1
theorem vM_r30 {h : dr_AH} {c : Nat → Int → Int}  (hl : LaM h ) {K : Nat → Option (dr_RS × dr_AH)} {K0 : Option (dr_RS × dr_AH)} : dr_gr (wr h c) 4 31 30 K K0 = K 54 := r_gr hl.1 hl.2.2.2.2.2.2.2.2.2.2.2.2.2.2.2.2.2.2.2.2.2.2.2.2.2.2.2.2.2.2.2.1
theorem vM_r31 {h : dr_AH} {c : Nat → Int → Int}  (hl : LaM h ) {K : Nat → Option (dr_RS × dr_AH)} {K0 : Option (dr_RS × dr_AH)} : dr_gr (wr h c) 4 31 31 K K0 = K 55 := r_gr hl.1 hl.2.2.2.2.2.2.2.2.2.2.2.2.2.2.2.2.2.2.2.2.2.2.2.2.2.2.2.2.2.2.2.2.1
theorem vM_n32 {h : dr_AH} {c : Nat → Int → Int}  (hl : LaM h ) {K : Int32 → Option (dr_RS × dr_AH)} : dr_ln (wr h c) 0 32 K = K (i2 300) := r_ln (k := 0) hl.2.2.2.2.2.2.2.2.2.2.2.2.2.2.2.2.2.2.2.2.2.2.2.2.2.2.2.2.2.2.2.2.2.1
theorem vM_a32 {h : dr_AH} {c : Nat → Int → Int}  (hl : LaM h ) {j : Int} {K : Int32 → Option (dr_RS × dr_AH)} (h0 : 0 ≤ j) (h1 : j < 300) : dr_ai (wr h c) 32 (i2 j) K = K (i2 (c 32 j)) := r_ai hl.2.2.2.2.2.2.2.2.2.2.2.2.2.2.2.2.2.2.2.2.2.2.2.2.2.2.2.2.2.2.2.2.2.1 (by decide) h0 h1
theorem vM_s32 {h : dr_AH} {c : Nat → Int → Int}  (hl : LaM h ) {j x : Int} {K : dr_AH → Option (dr_RS × dr_AH)} (h0 : 0 ≤ j) (h1 : j < 300) : dr_si (wr h c) 32 (i2 j) (i2 x) K = K (wr h (up c 32 j x)) := r_si hl.2.2.2.2.2.2.2.2.2.2.2.2.2.2.2.2.2.2.2.2.2.2.2.2.2.2.2.2.2.2.2.2.2.1 (by decide) (by decide) h0 h1
theorem vM_n33 {h : dr_AH} {c : Nat → Int → Int}  (hl : LaM h ) {K : Int32 → Option (dr_RS × dr_AH)} : dr_ln (wr h c) 2 33 K = K (i2 410) := r_ln (k := 2) hl.2.2.2.2.2.2.2.2.2.2.2.2.2.2.2.2.2.2.2.2.2.2.2.2.2.2.2.2.2.2.2.2.2.2.1
theorem vM_a33 {h : dr_AH} {c : Nat → Int → Int}  (hl : LaM h ) {j : Int} {K : Int32 → Option (dr_RS × dr_AH)} (h0 : 0 ≤ j) (h1 : j < 410) : dr_az (wr h c) 33 (i2 j) K = K (i2 (c 33 j)) := r_az hl.2.2.2.2.2.2.2.2.2.2.2.2.2.2.2.2.2.2.2.2.2.2.2.2.2.2.2.2.2.2.2.2.2.2.1 (by decide) h0 h1
theorem vM_s33 {h : dr_AH} {c : Nat → Int → Int}  (hl : LaM h ) {j x : Int} {K : dr_AH → Option (dr_RS × dr_AH)} (h0 : 0 ≤ j) (h1 : j < 410) (h2 : 0 ≤ x) (h3 : x < 2) : dr_sz (wr h c) 33 (i2 j) (i2 x) K = K (wr h (up c 33 j x)) := r_sz hl.2.2.2.2.2.2.2.2.2.2.2.2.2.2.2.2.2.2.2.2.2.2.2.2.2.2.2.2.2.2.2.2.2.2.1 (by decide) (by decide) h0 h1 h2 h3
theorem vM_n34 {h : dr_AH} {c : Nat → Int → Int}  (hl : LaM h ) {K : Int32 → Option (dr_RS × dr_AH)} : dr_ln (wr h c) 0 34 K = K (i2 410) := r_ln (k := 0) hl.2.2.2.2.2.2.2.2.2.2.2.2.2.2.2.2.2.2.2.2.2.2.2.2.2.2.2.2.2.2.2.2.2.2.2.1
theorem vM_a34 {h : dr_AH} {c : Nat → Int → Int}  (hl : LaM h ) {j : Int} {K : Int32 → Option (dr_RS × dr_AH)} (h0 : 0 ≤ j) (h1 : j < 410) : dr_ai (wr h c) 34 (i2 j) K = K (i2 (c 34 j)) := r_ai hl.2.2.2.2.2.2.2.2.2.2.2.2.2.2.2.2.2.2.2.2.2.2.2.2.2.2.2.2.2.2.2.2.2.2.2.1 (by decide) h0 h1
theorem vM_s34 {h : dr_AH} {c : Nat → Int → Int}  (hl : LaM h ) {j x : Int} {K : dr_AH → Option (dr_RS × dr_AH)} (h0 : 0 ≤ j) (h1 : j < 410) : dr_si (wr h c) 34 (i2 j) (i2 x) K = K (wr h (up c 34 j x)) := r_si hl.2.2.2.2.2.2.2.2.2.2.2.2.2.2.2.2.2.2.2.2.2.2.2.2.2.2.2.2.2.2.2.2.2.2.2.1 (by decide) (by decide) h0 h1
theorem vM_n35 {h : dr_AH} {c : Nat → Int → Int}  (hl : LaM h ) {K : Int32 → Option (dr_RS × dr_AH)} : dr_ln (wr h c) 0 35 K = K (i2 410) := r_ln (k := 0) hl.2.2.2.2.2.2.2.2.2.2.2.2.2.2.2.2.2.2.2.2.2.2.2.2.2.2.2.2.2.2.2.2.2.2.2.2.1
theorem vM_a35 {h : dr_AH} {c : Nat → Int → Int}  (hl : LaM h ) {j : Int} {K : Int32 → Option (dr_RS × dr_AH)} (h0 : 0 ≤ j) (h1 : j < 410) : dr_ai (wr h c) 35 (i2 j) K = K (i2 (c 35 j)) := r_ai hl.2.2.2.2.2.2.2.2.2.2.2.2.2.2.2.2.2.2.2.2.2.2.2.2.2.2.2.2.2.2.2.2.2.2.2.2.1 (by decide) h0 h1
theorem vM_s35 {h : dr_AH} {c : Nat → Int → Int}  (hl : LaM h ) {j x : Int} {K : dr_AH → Option (dr_RS × dr_AH)} (h0 : 0 ≤ j) (h1 : j < 410) : dr_si (wr h c) 35 (i2 j) (i2 x) K = K (wr h (up c 35 j x)) := r_si hl.2.2.2.2.2.2.2.2.2.2.2.2.2.2.2.2.2.2.2.2.2.2.2.2.2.2.2.2.2.2.2.2.2.2.2.2.1 (by decide) (by decide) h0 h1
theorem vM_n36 {h : dr_AH} {c : Nat → Int → Int}  (hl : LaM h ) {K : Int32 → Option (dr_RS × dr_AH)} : dr_ln (wr h c) 0 36 K = K (i2 410) := r_ln (k := 0) hl.2.2.2.2.2.2.2.2.2.2.2.2.2.2.2.2.2.2.2.2.2.2.2.2.2.2.2.2.2.2.2.2.2.2.2.2.2.1
theorem vM_a36 {h : dr_AH} {c : Nat → Int → Int}  (hl : LaM h ) {j : Int} {K : Int32 → Option (dr_RS × dr_AH)} (h0 : 0 ≤ j) (h1 : j < 410) : dr_ai (wr h c) 36 (i2 j) K = K (i2 (c 36 j)) := r_ai hl.2.2.2.2.2.2.2.2.2.2.2.2.2.2.2.2.2.2.2.2.2.2.2.2.2.2.2.2.2.2.2.2.2.2.2.2.2.1 (by decide) h0 h1
theorem vM_s36 {h : dr_AH} {c : Nat → Int → Int}  (hl : LaM h ) {j x : Int} {K : dr_AH → Option (dr_RS × dr_AH)} (h0 : 0 ≤ j) (h1 : j < 410) : dr_si (wr h c) 36 (i2 j) (i2 x) K = K (wr h (up c 36 j x)) := r_si hl.2.2.2.2.2.2.2.2.2.2.2.2.2.2.2.2.2.2.2.2.2.2.2.2.2.2.2.2.2.2.2.2.2.2.2.2.2.1 (by decide) (by decide) h0 h1
theorem vM_n37 {h : dr_AH} {c : Nat → Int → Int}  (hl : LaM h ) {K : Int32 → Option (dr_RS × dr_AH)} : dr_ln (wr h c) 0 37 K = K (i2 410) := r_ln (k := 0) hl.2.2.2.2.2.2.2.2.2.2.2.2.2.2.2.2.2.2.2.2.2.2.2.2.2.2.2.2.2.2.2.2.2.2.2.2.2.2.1
theorem vM_a37 {h : dr_AH} {c : Nat → Int → Int}  (hl : LaM h ) {j : Int} {K : Int32 → Option (dr_RS × dr_AH)} (h0 : 0 ≤ j) (h1 : j < 410) : dr_ai (wr h c) 37 (i2 j) K = K (i2 (c 37 j)) := r_ai hl.2.2.2.2.2.2.2.2.2.2.2.2.2.2.2.2.2.2.2.2.2.2.2.2.2.2.2.2.2.2.2.2.2.2.2.2.2.2.1 (by decide) h0 h1
theorem vM_s37 {h : dr_AH} {c : Nat → Int → Int}  (hl : LaM h ) {j x : Int} {K : dr_AH → Option (dr_RS × dr_AH)} (h0 : 0 ≤ j) (h1 : j < 410) : dr_si (wr h c) 37 (i2 j) (i2 x) K = K (wr h (up c 37 j x)) := r_si hl.2.2.2.2.2.2.2.2.2.2.2.2.2.2.2.2.2.2.2.2.2.2.2.2.2.2.2.2.2.2.2.2.2.2.2.2.2.2.1 (by decide) (by decide) h0 h1
theorem vM_n38 {h : dr_AH} {c : Nat → Int → Int}  (hl : LaM h ) {K : Int32 → Option (dr_RS × dr_AH)} : dr_ln (wr h c) 2 38 K = K (i2 410) := r_ln (k := 2) hl.2.2.2.2.2.2.2.2.2.2.2.2.2.2.2.2.2.2.2.2.2.2.2.2.2.2.2.2.2.2.2.2.2.2.2.2.2.2.2.1
theorem vM_a38 {h : dr_AH} {c : Nat → Int → Int}  (hl : LaM h ) {j : Int} {K : Int32 → Option (dr_RS × dr_AH)} (h0 : 0 ≤ j) (h1 : j < 410) : dr_az (wr h c) 38 (i2 j) K = K (i2 (c 38 j)) := r_az hl.2.2.2.2.2.2.2.2.2.2.2.2.2.2.2.2.2.2.2.2.2.2.2.2.2.2.2.2.2.2.2.2.2.2.2.2.2.2.2.1 (by decide) h0 h1
theorem vM_s38 {h : dr_AH} {c : Nat → Int → Int}  (hl : LaM h ) {j x : Int} {K : dr_AH → Option (dr_RS × dr_AH)} (h0 : 0 ≤ j) (h1 : j < 410) (h2 : 0 ≤ x) (h3 : x < 2) : dr_sz (wr h c) 38 (i2 j) (i2 x) K = K (wr h (up c 38 j x)) := r_sz hl.2.2.2.2.2.2.2.2.2.2.2.2.2.2.2.2.2.2.2.2.2.2.2.2.2.2.2.2.2.2.2.2.2.2.2.2.2.2.2.1 (by decide) (by decide) h0 h1 h2 h3
theorem vM_n39 {h : dr_AH} {c : Nat → Int → Int}  (hl : LaM h ) {K : Int32 → Option (dr_RS × dr_AH)} : dr_ln (wr h c) 0 39 K = K (i2 410) := r_ln (k := 0) hl.2.2.2.2.2.2.2.2.2.2.2.2.2.2.2.2.2.2.2.2.2.2.2.2.2.2.2.2.2.2.2.2.2.2.2.2.2.2.2.2.1
theorem vM_a39 {h : dr_AH} {c : Nat → Int → Int}  (hl : LaM h ) {j : Int} {K : Int32 → Option (dr_RS × dr_AH)} (h0 : 0 ≤ j) (h1 : j < 410) : dr_ai (wr h c) 39 (i2 j) K = K (i2 (c 39 j)) := r_ai hl.2.2.2.2.2.2.2.2.2.2.2.2.2.2.2.2.2.2.2.2.2.2.2.2.2.2.2.2.2.2.2.2.2.2.2.2.2.2.2.2.1 (by decide) h0 h1
theorem vM_s39 {h : dr_AH} {c : Nat → Int → Int}  (hl : LaM h ) {j x : Int} {K : dr_AH → Option (dr_RS × dr_AH)} (h0 : 0 ≤ j) (h1 : j < 410) : dr_si (wr h c) 39 (i2 j) (i2 x) K = K (wr h (up c 39 j x)) := r_si hl.2.2.2.2.2.2.2.2.2.2.2.2.2.2.2.2.2.2.2.2.2.2.2.2.2.2.2.2.2.2.2.2.2.2.2.2.2.2.2.2.1 (by decide) (by decide) h0 h1
theorem vM_n40 {h : dr_AH} {c : Nat → Int → Int}  (hl : LaM h ) {K : Int32 → Option (dr_RS × dr_AH)} : dr_ln (wr h c) 2 40 K = K (i2 210) := r_ln (k := 2) hl.2.2.2.2.2.2.2.2.2.2.2.2.2.2.2.2.2.2.2.2.2.2.2.2.2.2.2.2.2.2.2.2.2.2.2.2.2.2.2.2.2.1
theorem vM_a40 {h : dr_AH} {c : Nat → Int → Int}  (hl : LaM h ) {j : Int} {K : Int32 → Option (dr_RS × dr_AH)} (h0 : 0 ≤ j) (h1 : j < 210) : dr_az (wr h c) 40 (i2 j) K = K (i2 (c 40 j)) := r_az hl.2.2.2.2.2.2.2.2.2.2.2.2.2.2.2.2.2.2.2.2.2.2.2.2.2.2.2.2.2.2.2.2.2.2.2.2.2.2.2.2.2.1 (by decide) h0 h1
theorem vM_s40 {h : dr_AH} {c : Nat → Int → Int}  (hl : LaM h ) {j x : Int} {K : dr_AH → Option (dr_RS × dr_AH)} (h0 : 0 ≤ j) (h1 : j < 210) (h2 : 0 ≤ x) (h3 : x < 2) : dr_sz (wr h c) 40 (i2 j) (i2 x) K = K (wr h (up c 40 j x)) := r_sz hl.2.2.2.2.2.2.2.2.2.2.2.2.2.2.2.2.2.2.2.2.2.2.2.2.2.2.2.2.2.2.2.2.2.2.2.2.2.2.2.2.2.1 (by decide) (by decide) h0 h1 h2 h3
theorem vM_n41 {h : dr_AH} {c : Nat → Int → Int}  (hl : LaM h ) {K : Int32 → Option (dr_RS × dr_AH)} : dr_ln (wr h c) 0 41 K = K (i2 210) := r_ln (k := 0) hl.2.2.2.2.2.2.2.2.2.2.2.2.2.2.2.2.2.2.2.2.2.2.2.2.2.2.2.2.2.2.2.2.2.2.2.2.2.2.2.2.2.2.1
theorem vM_a41 {h : dr_AH} {c : Nat → Int → Int}  (hl : LaM h ) {j : Int} {K : Int32 → Option (dr_RS × dr_AH)} (h0 : 0 ≤ j) (h1 : j < 210) : dr_ai (wr h c) 41 (i2 j) K = K (i2 (c 41 j)) := r_ai hl.2.2.2.2.2.2.2.2.2.2.2.2.2.2.2.2.2.2.2.2.2.2.2.2.2.2.2.2.2.2.2.2.2.2.2.2.2.2.2.2.2.2.1 (by decide) h0 h1
theorem vM_s41 {h : dr_AH} {c : Nat → Int → Int}  (hl : LaM h ) {j x : Int} {K : dr_AH → Option (dr_RS × dr_AH)} (h0 : 0 ≤ j) (h1 : j < 210) : dr_si (wr h c) 41 (i2 j) (i2 x) K = K (wr h (up c 41 j x)) := r_si hl.2.2.2.2.2.2.2.2.2.2.2.2.2.2.2.2.2.2.2.2.2.2.2.2.2.2.2.2.2.2.2.2.2.2.2.2.2.2.2.2.2.2.1 (by decide) (by decide) h0 h1
theorem vM_n42 {h : dr_AH} {c : Nat → Int → Int}  (hl : LaM h ) {K : Int32 → Option (dr_RS × dr_AH)} : dr_ln (wr h c) 0 42 K = K (i2 210) := r_ln (k := 0) hl.2.2.2.2.2.2.2.2.2.2.2.2.2.2.2.2.2.2.2.2.2.2.2.2.2.2.2.2.2.2.2.2.2.2.2.2.2.2.2.2.2.2.2.1
theorem vM_a42 {h : dr_AH} {c : Nat → Int → Int}  (hl : LaM h ) {j : Int} {K : Int32 → Option (dr_RS × dr_AH)} (h0 : 0 ≤ j) (h1 : j < 210) : dr_ai (wr h c) 42 (i2 j) K = K (i2 (c 42 j)) := r_ai hl.2.2.2.2.2.2.2.2.2.2.2.2.2.2.2.2.2.2.2.2.2.2.2.2.2.2.2.2.2.2.2.2.2.2.2.2.2.2.2.2.2.2.2.1 (by decide) h0 h1
theorem vM_s42 {h : dr_AH} {c : Nat → Int → Int}  (hl : LaM h ) {j x : Int} {K : dr_AH → Option (dr_RS × dr_AH)} (h0 : 0 ≤ j) (h1 : j < 210) : dr_si (wr h c) 42 (i2 j) (i2 x) K = K (wr h (up c 42 j x)) := r_si hl.2.2.2.2.2.2.2.2.2.2.2.2.2.2.2.2.2.2.2.2.2.2.2.2.2.2.2.2.2.2.2.2.2.2.2.2.2.2.2.2.2.2.2.1 (by decide) (by decide) h0 h1
theorem vM_n43 {h : dr_AH} {c : Nat → Int → Int}  (hl : LaM h ) {K : Int32 → Option (dr_RS × dr_AH)} : dr_ln (wr h c) 0 43 K = K (i2 210) := r_ln (k := 0) hl.2.2.2.2.2.2.2.2.2.2.2.2.2.2.2.2.2.2.2.2.2.2.2.2.2.2.2.2.2.2.2.2.2.2.2.2.2.2.2.2.2.2.2.2.1
theorem vM_a43 {h : dr_AH} {c : Nat → Int → Int}  (hl : LaM h ) {j : Int} {K : Int32 → Option (dr_RS × dr_AH)} (h0 : 0 ≤ j) (h1 : j < 210) : dr_ai (wr h c) 43 (i2 j) K = K (i2 (c 43 j)) := r_ai hl.2.2.2.2.2.2.2.2.2.2.2.2.2.2.2.2.2.2.2.2.2.2.2.2.2.2.2.2.2.2.2.2.2.2.2.2.2.2.2.2.2.2.2.2.1 (by decide) h0 h1
theorem vM_s43 {h : dr_AH} {c : Nat → Int → Int}  (hl : LaM h ) {j x : Int} {K : dr_AH → Option (dr_RS × dr_AH)} (h0 : 0 ≤ j) (h1 : j < 210) : dr_si (wr h c) 43 (i2 j) (i2 x) K = K (wr h (up c 43 j x)) := r_si hl.2.2.2.2.2.2.2.2.2.2.2.2.2.2.2.2.2.2.2.2.2.2.2.2.2.2.2.2.2.2.2.2.2.2.2.2.2.2.2.2.2.2.2.2.1 (by decide) (by decide) h0 h1
theorem vM_n44 {h : dr_AH} {c : Nat → Int → Int}  (hl : LaM h ) {K : Int32 → Option (dr_RS × dr_AH)} : dr_ln (wr h c) 0 44 K = K (i2 210) := r_ln (k := 0) hl.2.2.2.2.2.2.2.2.2.2.2.2.2.2.2.2.2.2.2.2.2.2.2.2.2.2.2.2.2.2.2.2.2.2.2.2.2.2.2.2.2.2.2.2.2.1
theorem vM_a44 {h : dr_AH} {c : Nat → Int → Int}  (hl : LaM h ) {j : Int} {K : Int32 → Option (dr_RS × dr_AH)} (h0 : 0 ≤ j) (h1 : j < 210) : dr_ai (wr h c) 44 (i2 j) K = K (i2 (c 44 j)) := r_ai hl.2.2.2.2.2.2.2.2.2.2.2.2.2.2.2.2.2.2.2.2.2.2.2.2.2.2.2.2.2.2.2.2.2.2.2.2.2.2.2.2.2.2.2.2.2.1 (by decide) h0 h1
theorem vM_s44 {h : dr_AH} {c : Nat → Int → Int}  (hl : LaM h ) {j x : Int} {K : dr_AH → Option (dr_RS × dr_AH)} (h0 : 0 ≤ j) (h1 : j < 210) : dr_si (wr h c) 44 (i2 j) (i2 x) K = K (wr h (up c 44 j x)) := r_si hl.2.2.2.2.2.2.2.2.2.2.2.2.2.2.2.2.2.2.2.2.2.2.2.2.2.2.2.2.2.2.2.2.2.2.2.2.2.2.2.2.2.2.2.2.2.1 (by decide) (by decide) h0 h1
theorem vM_n45 {h : dr_AH} {c : Nat → Int → Int}  (hl : LaM h ) {K : Int32 → Option (dr_RS × dr_AH)} : dr_ln (wr h c) 0 45 K = K (i2 8) := r_ln (k := 0) hl.2.2.2.2.2.2.2.2.2.2.2.2.2.2.2.2.2.2.2.2.2.2.2.2.2.2.2.2.2.2.2.2.2.2.2.2.2.2.2.2.2.2.2.2.2.2.1
theorem vM_a45 {h : dr_AH} {c : Nat → Int → Int}  (hl : LaM h ) {j : Int} {K : Int32 → Option (dr_RS × dr_AH)} (h0 : 0 ≤ j) (h1 : j < 8) : dr_ai (wr h c) 45 (i2 j) K = K (i2 (c 45 j)) := r_ai hl.2.2.2.2.2.2.2.2.2.2.2.2.2.2.2.2.2.2.2.2.2.2.2.2.2.2.2.2.2.2.2.2.2.2.2.2.2.2.2.2.2.2.2.2.2.2.1 (by decide) h0 h1
theorem vM_s45 {h : dr_AH} {c : Nat → Int → Int}  (hl : LaM h ) {j x : Int} {K : dr_AH → Option (dr_RS × dr_AH)} (h0 : 0 ≤ j) (h1 : j < 8) : dr_si (wr h c) 45 (i2 j) (i2 x) K = K (wr h (up c 45 j x)) := r_si hl.2.2.2.2.2.2.2.2.2.2.2.2.2.2.2.2.2.2.2.2.2.2.2.2.2.2.2.2.2.2.2.2.2.2.2.2.2.2.2.2.2.2.2.2.2.2.1 (by decide) (by decide) h0 h1
theorem vM_n46 {h : dr_AH} {c : Nat → Int → Int}  (hl : LaM h ) {K : Int32 → Option (dr_RS × dr_AH)} : dr_ln (wr h c) 2 46 K = K (i2 8) := r_ln (k := 2) hl.2.2.2.2.2.2.2.2.2.2.2.2.2.2.2.2.2.2.2.2.2.2.2.2.2.2.2.2.2.2.2.2.2.2.2.2.2.2.2.2.2.2.2.2.2.2.2.1
theorem vM_a46 {h : dr_AH} {c : Nat → Int → Int}  (hl : LaM h ) {j : Int} {K : Int32 → Option (dr_RS × dr_AH)} (h0 : 0 ≤ j) (h1 : j < 8) : dr_az (wr h c) 46 (i2 j) K = K (i2 (c 46 j)) := r_az hl.2.2.2.2.2.2.2.2.2.2.2.2.2.2.2.2.2.2.2.2.2.2.2.2.2.2.2.2.2.2.2.2.2.2.2.2.2.2.2.2.2.2.2.2.2.2.2.1 (by decide) h0 h1
theorem vM_s46 {h : dr_AH} {c : Nat → Int → Int}  (hl : LaM h ) {j x : Int} {K : dr_AH → Option (dr_RS × dr_AH)} (h0 : 0 ≤ j) (h1 : j < 8) (h2 : 0 ≤ x) (h3 : x < 2) : dr_sz (wr h c) 46 (i2 j) (i2 x) K = K (wr h (up c 46 j x)) := r_sz hl.2.2.2.2.2.2.2.2.2.2.2.2.2.2.2.2.2.2.2.2.2.2.2.2.2.2.2.2.2.2.2.2.2.2.2.2.2.2.2.2.2.2.2.2.2.2.2.1 (by decide) (by decide) h0 h1 h2 h3
theorem vM_n47 {h : dr_AH} {c : Nat → Int → Int}  (hl : LaM h ) {K : Int32 → Option (dr_RS × dr_AH)} : dr_ln (wr h c) 0 47 K = K (i2 328) := r_ln (k := 0) hl.2.2.2.2.2.2.2.2.2.2.2.2.2.2.2.2.2.2.2.2.2.2.2.2.2.2.2.2.2.2.2.2.2.2.2.2.2.2.2.2.2.2.2.2.2.2.2.2.1
theorem vM_a47 {h : dr_AH} {c : Nat → Int → Int}  (hl : LaM h ) {j : Int} {K : Int32 → Option (dr_RS × dr_AH)} (h0 : 0 ≤ j) (h1 : j < 328) : dr_ai (wr h c) 47 (i2 j) K = K (i2 (c 47 j)) := r_ai hl.2.2.2.2.2.2.2.2.2.2.2.2.2.2.2.2.2.2.2.2.2.2.2.2.2.2.2.2.2.2.2.2.2.2.2.2.2.2.2.2.2.2.2.2.2.2.2.2.1 (by decide) h0 h1
theorem vM_s47 {h : dr_AH} {c : Nat → Int → Int}  (hl : LaM h ) {j x : Int} {K : dr_AH → Option (dr_RS × dr_AH)} (h0 : 0 ≤ j) (h1 : j < 328) : dr_si (wr h c) 47 (i2 j) (i2 x) K = K (wr h (up c 47 j x)) := r_si hl.2.2.2.2.2.2.2.2.2.2.2.2.2.2.2.2.2.2.2.2.2.2.2.2.2.2.2.2.2.2.2.2.2.2.2.2.2.2.2.2.2.2.2.2.2.2.2.2.1 (by decide) (by decide) h0 h1
theorem vM_n48 {h : dr_AH} {c : Nat → Int → Int}  (hl : LaM h ) {K : Int32 → Option (dr_RS × dr_AH)} : dr_ln (wr h c) 0 48 K = K (i2 8) := r_ln (k := 0) hl.2.2.2.2.2.2.2.2.2.2.2.2.2.2.2.2.2.2.2.2.2.2.2.2.2.2.2.2.2.2.2.2.2.2.2.2.2.2.2.2.2.2.2.2.2.2.2.2.2.1
theorem vM_a48 {h : dr_AH} {c : Nat → Int → Int}  (hl : LaM h ) {j : Int} {K : Int32 → Option (dr_RS × dr_AH)} (h0 : 0 ≤ j) (h1 : j < 8) : dr_ai (wr h c) 48 (i2 j) K = K (i2 (c 48 j)) := r_ai hl.2.2.2.2.2.2.2.2.2.2.2.2.2.2.2.2.2.2.2.2.2.2.2.2.2.2.2.2.2.2.2.2.2.2.2.2.2.2.2.2.2.2.2.2.2.2.2.2.2.1 (by decide) h0 h1
theorem vM_s48 {h : dr_AH} {c : Nat → Int → Int}  (hl : LaM h ) {j x : Int} {K : dr_AH → Option (dr_RS × dr_AH)} (h0 : 0 ≤ j) (h1 : j < 8) : dr_si (wr h c) 48 (i2 j) (i2 x) K = K (wr h (up c 48 j x)) := r_si hl.2.2.2.2.2.2.2.2.2.2.2.2.2.2.2.2.2.2.2.2.2.2.2.2.2.2.2.2.2.2.2.2.2.2.2.2.2.2.2.2.2.2.2.2.2.2.2.2.2.1 (by decide) (by decide) h0 h1
theorem vM_n49 {h : dr_AH} {c : Nat → Int → Int}  (hl : LaM h ) {K : Int32 → Option (dr_RS × dr_AH)} : dr_ln (wr h c) 0 49 K = K (i2 480) := r_ln (k := 0) hl.2.2.2.2.2.2.2.2.2.2.2.2.2.2.2.2.2.2.2.2.2.2.2.2.2.2.2.2.2.2.2.2.2.2.2.2.2.2.2.2.2.2.2.2.2.2.2.2.2.2.1
theorem vM_a49 {h : dr_AH} {c : Nat → Int → Int}  (hl : LaM h ) {j : Int} {K : Int32 → Option (dr_RS × dr_AH)} (h0 : 0 ≤ j) (h1 : j < 480) : dr_ai (wr h c) 49 (i2 j) K = K (i2 (c 49 j)) := r_ai hl.2.2.2.2.2.2.2.2.2.2.2.2.2.2.2.2.2.2.2.2.2.2.2.2.2.2.2.2.2.2.2.2.2.2.2.2.2.2.2.2.2.2.2.2.2.2.2.2.2.2.1 (by decide) h0 h1
theorem vM_s49 {h : dr_AH} {c : Nat → Int → Int}  (hl : LaM h ) {j x : Int} {K : dr_AH → Option (dr_RS × dr_AH)} (h0 : 0 ≤ j) (h1 : j < 480) : dr_si (wr h c) 49 (i2 j) (i2 x) K = K (wr h (up c 49 j x)) := r_si hl.2.2.2.2.2.2.2.2.2.2.2.2.2.2.2.2.2.2.2.2.2.2.2.2.2.2.2.2.2.2.2.2.2.2.2.2.2.2.2.2.2.2.2.2.2.2.2.2.2.2.1 (by decide) (by decide) h0 h1
theorem vM_n50 {h : dr_AH} {c : Nat → Int → Int}  (hl : LaM h ) {K : Int32 → Option (dr_RS × dr_AH)} : dr_ln (wr h c) 0 50 K = K (i2 480) := r_ln (k := 0) hl.2.2.2.2.2.2.2.2.2.2.2.2.2.2.2.2.2.2.2.2.2.2.2.2.2.2.2.2.2.2.2.2.2.2.2.2.2.2.2.2.2.2.2.2.2.2.2.2.2.2.2.1
theorem vM_a50 {h : dr_AH} {c : Nat → Int → Int}  (hl : LaM h ) {j : Int} {K : Int32 → Option (dr_RS × dr_AH)} (h0 : 0 ≤ j) (h1 : j < 480) : dr_ai (wr h c) 50 (i2 j) K = K (i2 (c 50 j)) := r_ai hl.2.2.2.2.2.2.2.2.2.2.2.2.2.2.2.2.2.2.2.2.2.2.2.2.2.2.2.2.2.2.2.2.2.2.2.2.2.2.2.2.2.2.2.2.2.2.2.2.2.2.2.1 (by decide) h0 h1
theorem vM_s50 {h : dr_AH} {c : Nat → Int → Int}  (hl : LaM h ) {j x : Int} {K : dr_AH → Option (dr_RS × dr_AH)} (h0 : 0 ≤ j) (h1 : j < 480) : dr_si (wr h c) 50 (i2 j) (i2 x) K = K (wr h (up c 50 j x)) := r_si hl.2.2.2.2.2.2.2.2.2.2.2.2.2.2.2.2.2.2.2.2.2.2.2.2.2.2.2.2.2.2.2.2.2.2.2.2.2.2.2.2.2.2.2.2.2.2.2.2.2.2.2.1 (by decide) (by decide) h0 h1
theorem vM_n51 {h : dr_AH} {c : Nat → Int → Int}  (hl : LaM h ) {K : Int32 → Option (dr_RS × dr_AH)} : dr_ln (wr h c) 0 51 K = K (i2 20) := r_ln (k := 0) hl.2.2.2.2.2.2.2.2.2.2.2.2.2.2.2.2.2.2.2.2.2.2.2.2.2.2.2.2.2.2.2.2.2.2.2.2.2.2.2.2.2.2.2.2.2.2.2.2.2.2.2.2.1
theorem vM_a51 {h : dr_AH} {c : Nat → Int → Int}  (hl : LaM h ) {j : Int} {K : Int32 → Option (dr_RS × dr_AH)} (h0 : 0 ≤ j) (h1 : j < 20) : dr_ai (wr h c) 51 (i2 j) K = K (i2 (c 51 j)) := r_ai hl.2.2.2.2.2.2.2.2.2.2.2.2.2.2.2.2.2.2.2.2.2.2.2.2.2.2.2.2.2.2.2.2.2.2.2.2.2.2.2.2.2.2.2.2.2.2.2.2.2.2.2.2.1 (by decide) h0 h1
theorem vM_s51 {h : dr_AH} {c : Nat → Int → Int}  (hl : LaM h ) {j x : Int} {K : dr_AH → Option (dr_RS × dr_AH)} (h0 : 0 ≤ j) (h1 : j < 20) : dr_si (wr h c) 51 (i2 j) (i2 x) K = K (wr h (up c 51 j x)) := r_si hl.2.2.2.2.2.2.2.2.2.2.2.2.2.2.2.2.2.2.2.2.2.2.2.2.2.2.2.2.2.2.2.2.2.2.2.2.2.2.2.2.2.2.2.2.2.2.2.2.2.2.2.2.1 (by decide) (by decide) h0 h1
theorem vM_n52 {h : dr_AH} {c : Nat → Int → Int}  (hl : LaM h ) {K : Int32 → Option (dr_RS × dr_AH)} : dr_ln (wr h c) 0 52 K = K (i2 100) := r_ln (k := 0) hl.2.2.2.2.2.2.2.2.2.2.2.2.2.2.2.2.2.2.2.2.2.2.2.2.2.2.2.2.2.2.2.2.2.2.2.2.2.2.2.2.2.2.2.2.2.2.2.2.2.2.2.2.2.1
theorem vM_a52 {h : dr_AH} {c : Nat → Int → Int}  (hl : LaM h ) {j : Int} {K : Int32 → Option (dr_RS × dr_AH)} (h0 : 0 ≤ j) (h1 : j < 100) : dr_ai (wr h c) 52 (i2 j) K = K (i2 (c 52 j)) := r_ai hl.2.2.2.2.2.2.2.2.2.2.2.2.2.2.2.2.2.2.2.2.2.2.2.2.2.2.2.2.2.2.2.2.2.2.2.2.2.2.2.2.2.2.2.2.2.2.2.2.2.2.2.2.2.1 (by decide) h0 h1
theorem vM_s52 {h : dr_AH} {c : Nat → Int → Int}  (hl : LaM h ) {j x : Int} {K : dr_AH → Option (dr_RS × dr_AH)} (h0 : 0 ≤ j) (h1 : j < 100) : dr_si (wr h c) 52 (i2 j) (i2 x) K = K (wr h (up c 52 j x)) := r_si hl.2.2.2.2.2.2.2.2.2.2.2.2.2.2.2.2.2.2.2.2.2.2.2.2.2.2.2.2.2.2.2.2.2.2.2.2.2.2.2.2.2.2.2.2.2.2.2.2.2.2.2.2.2.1 (by decide) (by decide) h0 h1
theorem vM_n53 {h : dr_AH} {c : Nat → Int → Int}  (hl : LaM h ) {K : Int32 → Option (dr_RS × dr_AH)} : dr_ln (wr h c) 0 53 K = K (i2 100) := r_ln (k := 0) hl.2.2.2.2.2.2.2.2.2.2.2.2.2.2.2.2.2.2.2.2.2.2.2.2.2.2.2.2.2.2.2.2.2.2.2.2.2.2.2.2.2.2.2.2.2.2.2.2.2.2.2.2.2.2.1
theorem vM_a53 {h : dr_AH} {c : Nat → Int → Int}  (hl : LaM h ) {j : Int} {K : Int32 → Option (dr_RS × dr_AH)} (h0 : 0 ≤ j) (h1 : j < 100) : dr_ai (wr h c) 53 (i2 j) K = K (i2 (c 53 j)) := r_ai hl.2.2.2.2.2.2.2.2.2.2.2.2.2.2.2.2.2.2.2.2.2.2.2.2.2.2.2.2.2.2.2.2.2.2.2.2.2.2.2.2.2.2.2.2.2.2.2.2.2.2.2.2.2.2.1 (by decide) h0 h1
theorem vM_s53 {h : dr_AH} {c : Nat → Int → Int}  (hl : LaM h ) {j x : Int} {K : dr_AH → Option (dr_RS × dr_AH)} (h0 : 0 ≤ j) (h1 : j < 100) : dr_si (wr h c) 53 (i2 j) (i2 x) K = K (wr h (up c 53 j x)) := r_si hl.2.2.2.2.2.2.2.2.2.2.2.2.2.2.2.2.2.2.2.2.2.2.2.2.2.2.2.2.2.2.2.2.2.2.2.2.2.2.2.2.2.2.2.2.2.2.2.2.2.2.2.2.2.2.1 (by decide) (by decide) h0 h1
theorem vM_n54 {h : dr_AH} {c : Nat → Int → Int}  (hl : LaM h ) {K : Int32 → Option (dr_RS × dr_AH)} : dr_ln (wr h c) 0 54 K = K (i2 100) := r_ln (k := 0) hl.2.2.2.2.2.2.2.2.2.2.2.2.2.2.2.2.2.2.2.2.2.2.2.2.2.2.2.2.2.2.2.2.2.2.2.2.2.2.2.2.2.2.2.2.2.2.2.2.2.2.2.2.2.2.2.1
theorem vM_a54 {h : dr_AH} {c : Nat → Int → Int}  (hl : LaM h ) {j : Int} {K : Int32 → Option (dr_RS × dr_AH)} (h0 : 0 ≤ j) (h1 : j < 100) : dr_ai (wr h c) 54 (i2 j) K = K (i2 (c 54 j)) := r_ai hl.2.2.2.2.2.2.2.2.2.2.2.2.2.2.2.2.2.2.2.2.2.2.2.2.2.2.2.2.2.2.2.2.2.2.2.2.2.2.2.2.2.2.2.2.2.2.2.2.2.2.2.2.2.2.2.1 (by decide) h0 h1
theorem vM_s54 {h : dr_AH} {c : Nat → Int → Int}  (hl : LaM h ) {j x : Int} {K : dr_AH → Option (dr_RS × dr_AH)} (h0 : 0 ≤ j) (h1 : j < 100) : dr_si (wr h c) 54 (i2 j) (i2 x) K = K (wr h (up c 54 j x)) := r_si hl.2.2.2.2.2.2.2.2.2.2.2.2.2.2.2.2.2.2.2.2.2.2.2.2.2.2.2.2.2.2.2.2.2.2.2.2.2.2.2.2.2.2.2.2.2.2.2.2.2.2.2.2.2.2.2.1 (by decide) (by decide) h0 h1
theorem vM_n55 {h : dr_AH} {c : Nat → Int → Int}  (hl : LaM h ) {K : Int32 → Option (dr_RS × dr_AH)} : dr_ln (wr h c) 2 55 K = K (i2 100) := r_ln (k := 2) hl.2.2.2.2.2.2.2.2.2.2.2.2.2.2.2.2.2.2.2.2.2.2.2.2.2.2.2.2.2.2.2.2.2.2.2.2.2.2.2.2.2.2.2.2.2.2.2.2.2.2.2.2.2.2.2.2
theorem vM_a55 {h : dr_AH} {c : Nat → Int → Int}  (hl : LaM h ) {j : Int} {K : Int32 → Option (dr_RS × dr_AH)} (h0 : 0 ≤ j) (h1 : j < 100) : dr_az (wr h c) 55 (i2 j) K = K (i2 (c 55 j)) := r_az hl.2.2.2.2.2.2.2.2.2.2.2.2.2.2.2.2.2.2.2.2.2.2.2.2.2.2.2.2.2.2.2.2.2.2.2.2.2.2.2.2.2.2.2.2.2.2.2.2.2.2.2.2.2.2.2.2 (by decide) h0 h1
theorem vM_s55 {h : dr_AH} {c : Nat → Int → Int}  (hl : LaM h ) {j x : Int} {K : dr_AH → Option (dr_RS × dr_AH)} (h0 : 0 ≤ j) (h1 : j < 100) (h2 : 0 ≤ x) (h3 : x < 2) : dr_sz (wr h c) 55 (i2 j) (i2 x) K = K (wr h (up c 55 j x)) := r_sz hl.2.2.2.2.2.2.2.2.2.2.2.2.2.2.2.2.2.2.2.2.2.2.2.2.2.2.2.2.2.2.2.2.2.2.2.2.2.2.2.2.2.2.2.2.2.2.2.2.2.2.2.2.2.2.2.2 (by decide) (by decide) h0 h1 h2 h3
def LaS (h : dr_AH) (s : Nat) : Prop := (h.2.2 s).1 = 1 ∧ sR h s 0 (s + 1) ∧ sR h s 1 (s + 2) ∧ sR h s 2 (s + 3) ∧ sR h s 3 (s + 4) ∧ sR h s 4 (s + 5) ∧ sR h s 5 (s + 6) ∧ sR h s 6 (s + 7) ∧ sI h s 7 ∧ sR h s 8 (s + 8) ∧ sR h s 9 (s + 9) ∧ sR h s 10 (s + 10) ∧ sR h s 11 (s + 11) ∧ sI h s 12 ∧ sA h (s + 1) 102 41 ∧ sA h (s + 2) 100 41 ∧ sA h (s + 3) 100 41 ∧ sA h (s + 4) 100 41 ∧ sA h (s + 5) 100 41 ∧ sA h (s + 6) 102 41 ∧ sA h (s + 7) 100 41 ∧ sA h (s + 8) 100 21 ∧ sA h (s + 9) 100 21 ∧ sA h (s + 10) 100 21 ∧ sA h (s + 11) 100 21
theorem vS_k {h : dr_AH} {c : Nat → Int → Int} {s : Nat} (hl : LaS h s) {A : Option (dr_RS × dr_AH)} : dr_k (wr h c) s 1 A = A := r_k hl.1
theorem vS_r0 {h : dr_AH} {c : Nat → Int → Int} {s : Nat} (hl : LaS h s) {K : Nat → Option (dr_RS × dr_AH)} {K0 : Option (dr_RS × dr_AH)} : dr_gr (wr h c) 1 s 0 K K0 = K (s + 1) := r_gr hl.1 hl.2.1
theorem vS_r1 {h : dr_AH} {c : Nat → Int → Int} {s : Nat} (hl : LaS h s) {K : Nat → Option (dr_RS × dr_AH)} {K0 : Option (dr_RS × dr_AH)} : dr_gr (wr h c) 1 s 1 K K0 = K (s + 2) := r_gr hl.1 hl.2.2.1
theorem vS_r2 {h : dr_AH} {c : Nat → Int → Int} {s : Nat} (hl : LaS h s) {K : Nat → Option (dr_RS × dr_AH)} {K0 : Option (dr_RS × dr_AH)} : dr_gr (wr h c) 1 s 2 K K0 = K (s + 3) := r_gr hl.1 hl.2.2.2.1
theorem vS_r3 {h : dr_AH} {c : Nat → Int → Int} {s : Nat} (hl : LaS h s) {K : Nat → Option (dr_RS × dr_AH)} {K0 : Option (dr_RS × dr_AH)} : dr_gr (wr h c) 1 s 3 K K0 = K (s + 4) := r_gr hl.1 hl.2.2.2.2.1
theorem vS_r4 {h : dr_AH} {c : Nat → Int → Int} {s : Nat} (hl : LaS h s) {K : Nat → Option (dr_RS × dr_AH)} {K0 : Option (dr_RS × dr_AH)} : dr_gr (wr h c) 1 s 4 K K0 = K (s + 5) := r_gr hl.1 hl.2.2.2.2.2.1
theorem vS_r5 {h : dr_AH} {c : Nat → Int → Int} {s : Nat} (hl : LaS h s) {K : Nat → Option (dr_RS × dr_AH)} {K0 : Option (dr_RS × dr_AH)} : dr_gr (wr h c) 1 s 5 K K0 = K (s + 6) := r_gr hl.1 hl.2.2.2.2.2.2.1
theorem vS_r6 {h : dr_AH} {c : Nat → Int → Int} {s : Nat} (hl : LaS h s) {K : Nat → Option (dr_RS × dr_AH)} {K0 : Option (dr_RS × dr_AH)} : dr_gr (wr h c) 1 s 6 K K0 = K (s + 7) := r_gr hl.1 hl.2.2.2.2.2.2.2.1
theorem vS_g7 {h : dr_AH} {c : Nat → Int → Int} {s : Nat} (hl : LaS h s) {K : Int32 → Option (dr_RS × dr_AH)} : dr_gi (wr h c) 1 s 7 K = K (i2 (c s 7)) := r_gi hl.1 hl.2.2.2.2.2.2.2.2.1
theorem vS_p7 {h : dr_AH} {c : Nat → Int → Int} {s : Nat} (hl : LaS h s) {x : Int} {K : dr_AH → Option (dr_RS × dr_AH)} : dr_pf (wr h c) 1 s 7 (.int (i2 x)) K = K (wr h (up c s 7 x)) := r_pf hl.1 hl.2.2.2.2.2.2.2.2.1
theorem vS_r8 {h : dr_AH} {c : Nat → Int → Int} {s : Nat} (hl : LaS h s) {K : Nat → Option (dr_RS × dr_AH)} {K0 : Option (dr_RS × dr_AH)} : dr_gr (wr h c) 1 s 8 K K0 = K (s + 8) := r_gr hl.1 hl.2.2.2.2.2.2.2.2.2.1
theorem vS_r9 {h : dr_AH} {c : Nat → Int → Int} {s : Nat} (hl : LaS h s) {K : Nat → Option (dr_RS × dr_AH)} {K0 : Option (dr_RS × dr_AH)} : dr_gr (wr h c) 1 s 9 K K0 = K (s + 9) := r_gr hl.1 hl.2.2.2.2.2.2.2.2.2.2.1
theorem vS_r10 {h : dr_AH} {c : Nat → Int → Int} {s : Nat} (hl : LaS h s) {K : Nat → Option (dr_RS × dr_AH)} {K0 : Option (dr_RS × dr_AH)} : dr_gr (wr h c) 1 s 10 K K0 = K (s + 10) := r_gr hl.1 hl.2.2.2.2.2.2.2.2.2.2.2.1
theorem vS_r11 {h : dr_AH} {c : Nat → Int → Int} {s : Nat} (hl : LaS h s) {K : Nat → Option (dr_RS × dr_AH)} {K0 : Option (dr_RS × dr_AH)} : dr_gr (wr h c) 1 s 11 K K0 = K (s + 11) := r_gr hl.1 hl.2.2.2.2.2.2.2.2.2.2.2.2.1
theorem vS_g12 {h : dr_AH} {c : Nat → Int → Int} {s : Nat} (hl : LaS h s) {K : Int32 → Option (dr_RS × dr_AH)} : dr_gi (wr h c) 1 s 12 K = K (i2 (c s 12)) := r_gi hl.1 hl.2.2.2.2.2.2.2.2.2.2.2.2.2.1
theorem vS_p12 {h : dr_AH} {c : Nat → Int → Int} {s : Nat} (hl : LaS h s) {x : Int} {K : dr_AH → Option (dr_RS × dr_AH)} : dr_pf (wr h c) 1 s 12 (.int (i2 x)) K = K (wr h (up c s 12 x)) := r_pf hl.1 hl.2.2.2.2.2.2.2.2.2.2.2.2.2.1
theorem vS_n1 {h : dr_AH} {c : Nat → Int → Int} {s : Nat} (hl : LaS h s) {K : Int32 → Option (dr_RS × dr_AH)} : dr_ln (wr h c) 2 (s + 1) K = K (i2 41) := r_ln (k := 2) hl.2.2.2.2.2.2.2.2.2.2.2.2.2.2.1
theorem vS_a1 {h : dr_AH} {c : Nat → Int → Int} {s : Nat} (hl : LaS h s) {j : Int} {K : Int32 → Option (dr_RS × dr_AH)} (h0 : 0 ≤ j) (h1 : j < 41) : dr_az (wr h c) (s + 1) (i2 j) K = K (i2 (c (s + 1) j)) := r_az hl.2.2.2.2.2.2.2.2.2.2.2.2.2.2.1 (by decide) h0 h1
theorem vS_s1 {h : dr_AH} {c : Nat → Int → Int} {s : Nat} (hl : LaS h s) {j x : Int} {K : dr_AH → Option (dr_RS × dr_AH)} (h0 : 0 ≤ j) (h1 : j < 41) (h2 : 0 ≤ x) (h3 : x < 2) : dr_sz (wr h c) (s + 1) (i2 j) (i2 x) K = K (wr h (up c (s + 1) j x)) := r_sz hl.2.2.2.2.2.2.2.2.2.2.2.2.2.2.1 (by decide) (by omega) h0 h1 h2 h3
theorem vS_n2 {h : dr_AH} {c : Nat → Int → Int} {s : Nat} (hl : LaS h s) {K : Int32 → Option (dr_RS × dr_AH)} : dr_ln (wr h c) 0 (s + 2) K = K (i2 41) := r_ln (k := 0) hl.2.2.2.2.2.2.2.2.2.2.2.2.2.2.2.1
theorem vS_a2 {h : dr_AH} {c : Nat → Int → Int} {s : Nat} (hl : LaS h s) {j : Int} {K : Int32 → Option (dr_RS × dr_AH)} (h0 : 0 ≤ j) (h1 : j < 41) : dr_ai (wr h c) (s + 2) (i2 j) K = K (i2 (c (s + 2) j)) := r_ai hl.2.2.2.2.2.2.2.2.2.2.2.2.2.2.2.1 (by decide) h0 h1
theorem vS_s2 {h : dr_AH} {c : Nat → Int → Int} {s : Nat} (hl : LaS h s) {j x : Int} {K : dr_AH → Option (dr_RS × dr_AH)} (h0 : 0 ≤ j) (h1 : j < 41) : dr_si (wr h c) (s + 2) (i2 j) (i2 x) K = K (wr h (up c (s + 2) j x)) := r_si hl.2.2.2.2.2.2.2.2.2.2.2.2.2.2.2.1 (by decide) (by omega) h0 h1
theorem vS_n3 {h : dr_AH} {c : Nat → Int → Int} {s : Nat} (hl : LaS h s) {K : Int32 → Option (dr_RS × dr_AH)} : dr_ln (wr h c) 0 (s + 3) K = K (i2 41) := r_ln (k := 0) hl.2.2.2.2.2.2.2.2.2.2.2.2.2.2.2.2.1
theorem vS_a3 {h : dr_AH} {c : Nat → Int → Int} {s : Nat} (hl : LaS h s) {j : Int} {K : Int32 → Option (dr_RS × dr_AH)} (h0 : 0 ≤ j) (h1 : j < 41) : dr_ai (wr h c) (s + 3) (i2 j) K = K (i2 (c (s + 3) j)) := r_ai hl.2.2.2.2.2.2.2.2.2.2.2.2.2.2.2.2.1 (by decide) h0 h1
theorem vS_s3 {h : dr_AH} {c : Nat → Int → Int} {s : Nat} (hl : LaS h s) {j x : Int} {K : dr_AH → Option (dr_RS × dr_AH)} (h0 : 0 ≤ j) (h1 : j < 41) : dr_si (wr h c) (s + 3) (i2 j) (i2 x) K = K (wr h (up c (s + 3) j x)) := r_si hl.2.2.2.2.2.2.2.2.2.2.2.2.2.2.2.2.1 (by decide) (by omega) h0 h1
theorem vS_n4 {h : dr_AH} {c : Nat → Int → Int} {s : Nat} (hl : LaS h s) {K : Int32 → Option (dr_RS × dr_AH)} : dr_ln (wr h c) 0 (s + 4) K = K (i2 41) := r_ln (k := 0) hl.2.2.2.2.2.2.2.2.2.2.2.2.2.2.2.2.2.1
theorem vS_a4 {h : dr_AH} {c : Nat → Int → Int} {s : Nat} (hl : LaS h s) {j : Int} {K : Int32 → Option (dr_RS × dr_AH)} (h0 : 0 ≤ j) (h1 : j < 41) : dr_ai (wr h c) (s + 4) (i2 j) K = K (i2 (c (s + 4) j)) := r_ai hl.2.2.2.2.2.2.2.2.2.2.2.2.2.2.2.2.2.1 (by decide) h0 h1
theorem vS_s4 {h : dr_AH} {c : Nat → Int → Int} {s : Nat} (hl : LaS h s) {j x : Int} {K : dr_AH → Option (dr_RS × dr_AH)} (h0 : 0 ≤ j) (h1 : j < 41) : dr_si (wr h c) (s + 4) (i2 j) (i2 x) K = K (wr h (up c (s + 4) j x)) := r_si hl.2.2.2.2.2.2.2.2.2.2.2.2.2.2.2.2.2.1 (by decide) (by omega) h0 h1
theorem vS_n5 {h : dr_AH} {c : Nat → Int → Int} {s : Nat} (hl : LaS h s) {K : Int32 → Option (dr_RS × dr_AH)} : dr_ln (wr h c) 0 (s + 5) K = K (i2 41) := r_ln (k := 0) hl.2.2.2.2.2.2.2.2.2.2.2.2.2.2.2.2.2.2.1
theorem vS_a5 {h : dr_AH} {c : Nat → Int → Int} {s : Nat} (hl : LaS h s) {j : Int} {K : Int32 → Option (dr_RS × dr_AH)} (h0 : 0 ≤ j) (h1 : j < 41) : dr_ai (wr h c) (s + 5) (i2 j) K = K (i2 (c (s + 5) j)) := r_ai hl.2.2.2.2.2.2.2.2.2.2.2.2.2.2.2.2.2.2.1 (by decide) h0 h1
theorem vS_s5 {h : dr_AH} {c : Nat → Int → Int} {s : Nat} (hl : LaS h s) {j x : Int} {K : dr_AH → Option (dr_RS × dr_AH)} (h0 : 0 ≤ j) (h1 : j < 41) : dr_si (wr h c) (s + 5) (i2 j) (i2 x) K = K (wr h (up c (s + 5) j x)) := r_si hl.2.2.2.2.2.2.2.2.2.2.2.2.2.2.2.2.2.2.1 (by decide) (by omega) h0 h1
theorem vS_n6 {h : dr_AH} {c : Nat → Int → Int} {s : Nat} (hl : LaS h s) {K : Int32 → Option (dr_RS × dr_AH)} : dr_ln (wr h c) 2 (s + 6) K = K (i2 41) := r_ln (k := 2) hl.2.2.2.2.2.2.2.2.2.2.2.2.2.2.2.2.2.2.2.1
theorem vS_a6 {h : dr_AH} {c : Nat → Int → Int} {s : Nat} (hl : LaS h s) {j : Int} {K : Int32 → Option (dr_RS × dr_AH)} (h0 : 0 ≤ j) (h1 : j < 41) : dr_az (wr h c) (s + 6) (i2 j) K = K (i2 (c (s + 6) j)) := r_az hl.2.2.2.2.2.2.2.2.2.2.2.2.2.2.2.2.2.2.2.1 (by decide) h0 h1
theorem vS_s6 {h : dr_AH} {c : Nat → Int → Int} {s : Nat} (hl : LaS h s) {j x : Int} {K : dr_AH → Option (dr_RS × dr_AH)} (h0 : 0 ≤ j) (h1 : j < 41) (h2 : 0 ≤ x) (h3 : x < 2) : dr_sz (wr h c) (s + 6) (i2 j) (i2 x) K = K (wr h (up c (s + 6) j x)) := r_sz hl.2.2.2.2.2.2.2.2.2.2.2.2.2.2.2.2.2.2.2.1 (by decide) (by omega) h0 h1 h2 h3
theorem vS_n7 {h : dr_AH} {c : Nat → Int → Int} {s : Nat} (hl : LaS h s) {K : Int32 → Option (dr_RS × dr_AH)} : dr_ln (wr h c) 0 (s + 7) K = K (i2 41) := r_ln (k := 0) hl.2.2.2.2.2.2.2.2.2.2.2.2.2.2.2.2.2.2.2.2.1
theorem vS_a7 {h : dr_AH} {c : Nat → Int → Int} {s : Nat} (hl : LaS h s) {j : Int} {K : Int32 → Option (dr_RS × dr_AH)} (h0 : 0 ≤ j) (h1 : j < 41) : dr_ai (wr h c) (s + 7) (i2 j) K = K (i2 (c (s + 7) j)) := r_ai hl.2.2.2.2.2.2.2.2.2.2.2.2.2.2.2.2.2.2.2.2.1 (by decide) h0 h1
theorem vS_s7 {h : dr_AH} {c : Nat → Int → Int} {s : Nat} (hl : LaS h s) {j x : Int} {K : dr_AH → Option (dr_RS × dr_AH)} (h0 : 0 ≤ j) (h1 : j < 41) : dr_si (wr h c) (s + 7) (i2 j) (i2 x) K = K (wr h (up c (s + 7) j x)) := r_si hl.2.2.2.2.2.2.2.2.2.2.2.2.2.2.2.2.2.2.2.2.1 (by decide) (by omega) h0 h1
theorem vS_n8 {h : dr_AH} {c : Nat → Int → Int} {s : Nat} (hl : LaS h s) {K : Int32 → Option (dr_RS × dr_AH)} : dr_ln (wr h c) 0 (s + 8) K = K (i2 21) := r_ln (k := 0) hl.2.2.2.2.2.2.2.2.2.2.2.2.2.2.2.2.2.2.2.2.2.1
theorem vS_a8 {h : dr_AH} {c : Nat → Int → Int} {s : Nat} (hl : LaS h s) {j : Int} {K : Int32 → Option (dr_RS × dr_AH)} (h0 : 0 ≤ j) (h1 : j < 21) : dr_ai (wr h c) (s + 8) (i2 j) K = K (i2 (c (s + 8) j)) := r_ai hl.2.2.2.2.2.2.2.2.2.2.2.2.2.2.2.2.2.2.2.2.2.1 (by decide) h0 h1
theorem vS_s8 {h : dr_AH} {c : Nat → Int → Int} {s : Nat} (hl : LaS h s) {j x : Int} {K : dr_AH → Option (dr_RS × dr_AH)} (h0 : 0 ≤ j) (h1 : j < 21) : dr_si (wr h c) (s + 8) (i2 j) (i2 x) K = K (wr h (up c (s + 8) j x)) := r_si hl.2.2.2.2.2.2.2.2.2.2.2.2.2.2.2.2.2.2.2.2.2.1 (by decide) (by omega) h0 h1
theorem vS_n9 {h : dr_AH} {c : Nat → Int → Int} {s : Nat} (hl : LaS h s) {K : Int32 → Option (dr_RS × dr_AH)} : dr_ln (wr h c) 0 (s + 9) K = K (i2 21) := r_ln (k := 0) hl.2.2.2.2.2.2.2.2.2.2.2.2.2.2.2.2.2.2.2.2.2.2.1
theorem vS_a9 {h : dr_AH} {c : Nat → Int → Int} {s : Nat} (hl : LaS h s) {j : Int} {K : Int32 → Option (dr_RS × dr_AH)} (h0 : 0 ≤ j) (h1 : j < 21) : dr_ai (wr h c) (s + 9) (i2 j) K = K (i2 (c (s + 9) j)) := r_ai hl.2.2.2.2.2.2.2.2.2.2.2.2.2.2.2.2.2.2.2.2.2.2.1 (by decide) h0 h1
theorem vS_s9 {h : dr_AH} {c : Nat → Int → Int} {s : Nat} (hl : LaS h s) {j x : Int} {K : dr_AH → Option (dr_RS × dr_AH)} (h0 : 0 ≤ j) (h1 : j < 21) : dr_si (wr h c) (s + 9) (i2 j) (i2 x) K = K (wr h (up c (s + 9) j x)) := r_si hl.2.2.2.2.2.2.2.2.2.2.2.2.2.2.2.2.2.2.2.2.2.2.1 (by decide) (by omega) h0 h1
theorem vS_n10 {h : dr_AH} {c : Nat → Int → Int} {s : Nat} (hl : LaS h s) {K : Int32 → Option (dr_RS × dr_AH)} : dr_ln (wr h c) 0 (s + 10) K = K (i2 21) := r_ln (k := 0) hl.2.2.2.2.2.2.2.2.2.2.2.2.2.2.2.2.2.2.2.2.2.2.2.1
theorem vS_a10 {h : dr_AH} {c : Nat → Int → Int} {s : Nat} (hl : LaS h s) {j : Int} {K : Int32 → Option (dr_RS × dr_AH)} (h0 : 0 ≤ j) (h1 : j < 21) : dr_ai (wr h c) (s + 10) (i2 j) K = K (i2 (c (s + 10) j)) := r_ai hl.2.2.2.2.2.2.2.2.2.2.2.2.2.2.2.2.2.2.2.2.2.2.2.1 (by decide) h0 h1
theorem vS_s10 {h : dr_AH} {c : Nat → Int → Int} {s : Nat} (hl : LaS h s) {j x : Int} {K : dr_AH → Option (dr_RS × dr_AH)} (h0 : 0 ≤ j) (h1 : j < 21) : dr_si (wr h c) (s + 10) (i2 j) (i2 x) K = K (wr h (up c (s + 10) j x)) := r_si hl.2.2.2.2.2.2.2.2.2.2.2.2.2.2.2.2.2.2.2.2.2.2.2.1 (by decide) (by omega) h0 h1
theorem vS_n11 {h : dr_AH} {c : Nat → Int → Int} {s : Nat} (hl : LaS h s) {K : Int32 → Option (dr_RS × dr_AH)} : dr_ln (wr h c) 0 (s + 11) K = K (i2 21) := r_ln (k := 0) hl.2.2.2.2.2.2.2.2.2.2.2.2.2.2.2.2.2.2.2.2.2.2.2.2
theorem vS_a11 {h : dr_AH} {c : Nat → Int → Int} {s : Nat} (hl : LaS h s) {j : Int} {K : Int32 → Option (dr_RS × dr_AH)} (h0 : 0 ≤ j) (h1 : j < 21) : dr_ai (wr h c) (s + 11) (i2 j) K = K (i2 (c (s + 11) j)) := r_ai hl.2.2.2.2.2.2.2.2.2.2.2.2.2.2.2.2.2.2.2.2.2.2.2.2 (by decide) h0 h1
theorem vS_s11 {h : dr_AH} {c : Nat → Int → Int} {s : Nat} (hl : LaS h s) {j x : Int} {K : dr_AH → Option (dr_RS × dr_AH)} (h0 : 0 ≤ j) (h1 : j < 21) : dr_si (wr h c) (s + 11) (i2 j) (i2 x) K = K (wr h (up c (s + 11) j x)) := r_si hl.2.2.2.2.2.2.2.2.2.2.2.2.2.2.2.2.2.2.2.2.2.2.2.2 (by decide) (by omega) h0 h1
def LaD (h : dr_AH) (d s : Nat) : Prop := (h.2.2 d).1 = 0 ∧ sR h d 0 s ∧ sI h d 1 ∧ sI h d 2 ∧ sR h d 3 (d + 1) ∧ sI h d 4 ∧ sR h d 5 (d + 2) ∧ sR h d 6 (d + 3) ∧ sR h d 7 (d + 4) ∧ sI h d 8 ∧ sA h (d + 1) 100 41 ∧ sA h (d + 2) 100 20 ∧ sA h (d + 3) 100 60 ∧ sA h (d + 4) 100 60
theorem vD_k {h : dr_AH} {c : Nat → Int → Int} {d s : Nat} (hl : LaD h d s) {A : Option (dr_RS × dr_AH)} : dr_k (wr h c) d 0 A = A := r_k hl.1
theorem vD_r0 {h : dr_AH} {c : Nat → Int → Int} {d s : Nat} (hl : LaD h d s) {K : Nat → Option (dr_RS × dr_AH)} {K0 : Option (dr_RS × dr_AH)} : dr_gr (wr h c) 0 d 0 K K0 = K s := r_gr hl.1 hl.2.1
theorem vD_g1 {h : dr_AH} {c : Nat → Int → Int} {d s : Nat} (hl : LaD h d s) {K : Int32 → Option (dr_RS × dr_AH)} : dr_gi (wr h c) 0 d 1 K = K (i2 (c d 1)) := r_gi hl.1 hl.2.2.1
theorem vD_p1 {h : dr_AH} {c : Nat → Int → Int} {d s : Nat} (hl : LaD h d s) {x : Int} {K : dr_AH → Option (dr_RS × dr_AH)} : dr_pf (wr h c) 0 d 1 (.int (i2 x)) K = K (wr h (up c d 1 x)) := r_pf hl.1 hl.2.2.1
theorem vD_g2 {h : dr_AH} {c : Nat → Int → Int} {d s : Nat} (hl : LaD h d s) {K : Int32 → Option (dr_RS × dr_AH)} : dr_gi (wr h c) 0 d 2 K = K (i2 (c d 2)) := r_gi hl.1 hl.2.2.2.1
theorem vD_p2 {h : dr_AH} {c : Nat → Int → Int} {d s : Nat} (hl : LaD h d s) {x : Int} {K : dr_AH → Option (dr_RS × dr_AH)} : dr_pf (wr h c) 0 d 2 (.int (i2 x)) K = K (wr h (up c d 2 x)) := r_pf hl.1 hl.2.2.2.1
theorem vD_r3 {h : dr_AH} {c : Nat → Int → Int} {d s : Nat} (hl : LaD h d s) {K : Nat → Option (dr_RS × dr_AH)} {K0 : Option (dr_RS × dr_AH)} : dr_gr (wr h c) 0 d 3 K K0 = K (d + 1) := r_gr hl.1 hl.2.2.2.2.1
theorem vD_g4 {h : dr_AH} {c : Nat → Int → Int} {d s : Nat} (hl : LaD h d s) {K : Int32 → Option (dr_RS × dr_AH)} : dr_gi (wr h c) 0 d 4 K = K (i2 (c d 4)) := r_gi hl.1 hl.2.2.2.2.2.1
theorem vD_p4 {h : dr_AH} {c : Nat → Int → Int} {d s : Nat} (hl : LaD h d s) {x : Int} {K : dr_AH → Option (dr_RS × dr_AH)} : dr_pf (wr h c) 0 d 4 (.int (i2 x)) K = K (wr h (up c d 4 x)) := r_pf hl.1 hl.2.2.2.2.2.1
theorem vD_r5 {h : dr_AH} {c : Nat → Int → Int} {d s : Nat} (hl : LaD h d s) {K : Nat → Option (dr_RS × dr_AH)} {K0 : Option (dr_RS × dr_AH)} : dr_gr (wr h c) 0 d 5 K K0 = K (d + 2) := r_gr hl.1 hl.2.2.2.2.2.2.1
theorem vD_r6 {h : dr_AH} {c : Nat → Int → Int} {d s : Nat} (hl : LaD h d s) {K : Nat → Option (dr_RS × dr_AH)} {K0 : Option (dr_RS × dr_AH)} : dr_gr (wr h c) 0 d 6 K K0 = K (d + 3) := r_gr hl.1 hl.2.2.2.2.2.2.2.1
theorem vD_r7 {h : dr_AH} {c : Nat → Int → Int} {d s : Nat} (hl : LaD h d s) {K : Nat → Option (dr_RS × dr_AH)} {K0 : Option (dr_RS × dr_AH)} : dr_gr (wr h c) 0 d 7 K K0 = K (d + 4) := r_gr hl.1 hl.2.2.2.2.2.2.2.2.1
theorem vD_g8 {h : dr_AH} {c : Nat → Int → Int} {d s : Nat} (hl : LaD h d s) {K : Int32 → Option (dr_RS × dr_AH)} : dr_gi (wr h c) 0 d 8 K = K (i2 (c d 8)) := r_gi hl.1 hl.2.2.2.2.2.2.2.2.2.1
theorem vD_p8 {h : dr_AH} {c : Nat → Int → Int} {d s : Nat} (hl : LaD h d s) {x : Int} {K : dr_AH → Option (dr_RS × dr_AH)} : dr_pf (wr h c) 0 d 8 (.int (i2 x)) K = K (wr h (up c d 8 x)) := r_pf hl.1 hl.2.2.2.2.2.2.2.2.2.1
theorem vD_n1 {h : dr_AH} {c : Nat → Int → Int} {d s : Nat} (hl : LaD h d s) {K : Int32 → Option (dr_RS × dr_AH)} : dr_ln (wr h c) 0 (d + 1) K = K (i2 41) := r_ln (k := 0) hl.2.2.2.2.2.2.2.2.2.2.1
theorem vD_a1 {h : dr_AH} {c : Nat → Int → Int} {d s : Nat} (hl : LaD h d s) {j : Int} {K : Int32 → Option (dr_RS × dr_AH)} (h0 : 0 ≤ j) (h1 : j < 41) : dr_ai (wr h c) (d + 1) (i2 j) K = K (i2 (c (d + 1) j)) := r_ai hl.2.2.2.2.2.2.2.2.2.2.1 (by decide) h0 h1
theorem vD_s1 {h : dr_AH} {c : Nat → Int → Int} {d s : Nat} (hl : LaD h d s) {j x : Int} {K : dr_AH → Option (dr_RS × dr_AH)} (h0 : 0 ≤ j) (h1 : j < 41) : dr_si (wr h c) (d + 1) (i2 j) (i2 x) K = K (wr h (up c (d + 1) j x)) := r_si hl.2.2.2.2.2.2.2.2.2.2.1 (by decide) (by omega) h0 h1
theorem vD_n2 {h : dr_AH} {c : Nat → Int → Int} {d s : Nat} (hl : LaD h d s) {K : Int32 → Option (dr_RS × dr_AH)} : dr_ln (wr h c) 0 (d + 2) K = K (i2 20) := r_ln (k := 0) hl.2.2.2.2.2.2.2.2.2.2.2.1
theorem vD_a2 {h : dr_AH} {c : Nat → Int → Int} {d s : Nat} (hl : LaD h d s) {j : Int} {K : Int32 → Option (dr_RS × dr_AH)} (h0 : 0 ≤ j) (h1 : j < 20) : dr_ai (wr h c) (d + 2) (i2 j) K = K (i2 (c (d + 2) j)) := r_ai hl.2.2.2.2.2.2.2.2.2.2.2.1 (by decide) h0 h1
theorem vD_s2 {h : dr_AH} {c : Nat → Int → Int} {d s : Nat} (hl : LaD h d s) {j x : Int} {K : dr_AH → Option (dr_RS × dr_AH)} (h0 : 0 ≤ j) (h1 : j < 20) : dr_si (wr h c) (d + 2) (i2 j) (i2 x) K = K (wr h (up c (d + 2) j x)) := r_si hl.2.2.2.2.2.2.2.2.2.2.2.1 (by decide) (by omega) h0 h1
theorem vD_n3 {h : dr_AH} {c : Nat → Int → Int} {d s : Nat} (hl : LaD h d s) {K : Int32 → Option (dr_RS × dr_AH)} : dr_ln (wr h c) 0 (d + 3) K = K (i2 60) := r_ln (k := 0) hl.2.2.2.2.2.2.2.2.2.2.2.2.1
theorem vD_a3 {h : dr_AH} {c : Nat → Int → Int} {d s : Nat} (hl : LaD h d s) {j : Int} {K : Int32 → Option (dr_RS × dr_AH)} (h0 : 0 ≤ j) (h1 : j < 60) : dr_ai (wr h c) (d + 3) (i2 j) K = K (i2 (c (d + 3) j)) := r_ai hl.2.2.2.2.2.2.2.2.2.2.2.2.1 (by decide) h0 h1
theorem vD_s3 {h : dr_AH} {c : Nat → Int → Int} {d s : Nat} (hl : LaD h d s) {j x : Int} {K : dr_AH → Option (dr_RS × dr_AH)} (h0 : 0 ≤ j) (h1 : j < 60) : dr_si (wr h c) (d + 3) (i2 j) (i2 x) K = K (wr h (up c (d + 3) j x)) := r_si hl.2.2.2.2.2.2.2.2.2.2.2.2.1 (by decide) (by omega) h0 h1
theorem vD_n4 {h : dr_AH} {c : Nat → Int → Int} {d s : Nat} (hl : LaD h d s) {K : Int32 → Option (dr_RS × dr_AH)} : dr_ln (wr h c) 0 (d + 4) K = K (i2 60) := r_ln (k := 0) hl.2.2.2.2.2.2.2.2.2.2.2.2.2
theorem vD_a4 {h : dr_AH} {c : Nat → Int → Int} {d s : Nat} (hl : LaD h d s) {j : Int} {K : Int32 → Option (dr_RS × dr_AH)} (h0 : 0 ≤ j) (h1 : j < 60) : dr_ai (wr h c) (d + 4) (i2 j) K = K (i2 (c (d + 4) j)) := r_ai hl.2.2.2.2.2.2.2.2.2.2.2.2.2 (by decide) h0 h1
theorem vD_s4 {h : dr_AH} {c : Nat → Int → Int} {d s : Nat} (hl : LaD h d s) {j x : Int} {K : dr_AH → Option (dr_RS × dr_AH)} (h0 : 0 ≤ j) (h1 : j < 60) : dr_si (wr h c) (d + 4) (i2 j) (i2 x) K = K (wr h (up c (d + 4) j x)) := r_si hl.2.2.2.2.2.2.2.2.2.2.2.2.2 (by decide) (by omega) h0 h1
def LaT (h : dr_AH)  : Prop := (h.2.2 2).1 = 2 ∧ sR h 2 0 3 ∧ sI h 2 1 ∧ sI h 2 2 ∧ sI h 2 3 ∧ sA h 3 100 300
theorem vT_k {h : dr_AH} {c : Nat → Int → Int}  (hl : LaT h ) {A : Option (dr_RS × dr_AH)} : dr_k (wr h c) 2 2 A = A := r_k hl.1
theorem vT_r0 {h : dr_AH} {c : Nat → Int → Int}  (hl : LaT h ) {K : Nat → Option (dr_RS × dr_AH)} {K0 : Option (dr_RS × dr_AH)} : dr_gr (wr h c) 2 2 0 K K0 = K 3 := r_gr hl.1 hl.2.1
theorem vT_g1 {h : dr_AH} {c : Nat → Int → Int}  (hl : LaT h ) {K : Int32 → Option (dr_RS × dr_AH)} : dr_gi (wr h c) 2 2 1 K = K (i2 (c 2 1)) := r_gi hl.1 hl.2.2.1
theorem vT_p1 {h : dr_AH} {c : Nat → Int → Int}  (hl : LaT h ) {x : Int} {K : dr_AH → Option (dr_RS × dr_AH)} : dr_pf (wr h c) 2 2 1 (.int (i2 x)) K = K (wr h (up c 2 1 x)) := r_pf hl.1 hl.2.2.1
theorem vT_g2 {h : dr_AH} {c : Nat → Int → Int}  (hl : LaT h ) {K : Int32 → Option (dr_RS × dr_AH)} : dr_gi (wr h c) 2 2 2 K = K (i2 (c 2 2)) := r_gi hl.1 hl.2.2.2.1
theorem vT_p2 {h : dr_AH} {c : Nat → Int → Int}  (hl : LaT h ) {x : Int} {K : dr_AH → Option (dr_RS × dr_AH)} : dr_pf (wr h c) 2 2 2 (.int (i2 x)) K = K (wr h (up c 2 2 x)) := r_pf hl.1 hl.2.2.2.1
theorem vT_g3 {h : dr_AH} {c : Nat → Int → Int}  (hl : LaT h ) {K : Int32 → Option (dr_RS × dr_AH)} : dr_gi (wr h c) 2 2 3 K = K (i2 (c 2 3)) := r_gi hl.1 hl.2.2.2.2.1
theorem vT_p3 {h : dr_AH} {c : Nat → Int → Int}  (hl : LaT h ) {x : Int} {K : dr_AH → Option (dr_RS × dr_AH)} : dr_pf (wr h c) 2 2 3 (.int (i2 x)) K = K (wr h (up c 2 3 x)) := r_pf hl.1 hl.2.2.2.2.1
theorem vT_n3 {h : dr_AH} {c : Nat → Int → Int}  (hl : LaT h ) {K : Int32 → Option (dr_RS × dr_AH)} : dr_ln (wr h c) 0 3 K = K (i2 300) := r_ln (k := 0) hl.2.2.2.2.2
theorem vT_a3 {h : dr_AH} {c : Nat → Int → Int}  (hl : LaT h ) {j : Int} {K : Int32 → Option (dr_RS × dr_AH)} (h0 : 0 ≤ j) (h1 : j < 300) : dr_ai (wr h c) 3 (i2 j) K = K (i2 (c 3 j)) := r_ai hl.2.2.2.2.2 (by decide) h0 h1
theorem vT_s3 {h : dr_AH} {c : Nat → Int → Int}  (hl : LaT h ) {j x : Int} {K : dr_AH → Option (dr_RS × dr_AH)} (h0 : 0 ≤ j) (h1 : j < 300) : dr_si (wr h c) 3 (i2 j) (i2 x) K = K (wr h (up c 3 j x)) := r_si hl.2.2.2.2.2 (by decide) (by decide) h0 h1
def LaR (h : dr_AH) (s t : Nat) : Prop := (h.2.2 1).1 = 3 ∧ sR h 1 0 2 ∧ sR h 1 1 s ∧ sR h 1 2 t ∧ sI h 1 3 ∧ sI h 1 4 ∧ sR h 1 5 28 ∧ sI h 1 6 ∧ sR h 1 7 29 ∧ sR h 1 8 30 ∧ sI h 1 9 ∧ sA h 29 100 20 ∧ sA h 30 100 400
theorem vR_k {h : dr_AH} {c : Nat → Int → Int} {s t : Nat} (hl : LaR h s t) {A : Option (dr_RS × dr_AH)} : dr_k (wr h c) 1 3 A = A := r_k hl.1
theorem vR_r0 {h : dr_AH} {c : Nat → Int → Int} {s t : Nat} (hl : LaR h s t) {K : Nat → Option (dr_RS × dr_AH)} {K0 : Option (dr_RS × dr_AH)} : dr_gr (wr h c) 3 1 0 K K0 = K 2 := r_gr hl.1 hl.2.1
theorem vR_r1 {h : dr_AH} {c : Nat → Int → Int} {s t : Nat} (hl : LaR h s t) {K : Nat → Option (dr_RS × dr_AH)} {K0 : Option (dr_RS × dr_AH)} : dr_gr (wr h c) 3 1 1 K K0 = K s := r_gr hl.1 hl.2.2.1
theorem vR_r2 {h : dr_AH} {c : Nat → Int → Int} {s t : Nat} (hl : LaR h s t) {K : Nat → Option (dr_RS × dr_AH)} {K0 : Option (dr_RS × dr_AH)} : dr_gr (wr h c) 3 1 2 K K0 = K t := r_gr hl.1 hl.2.2.2.1
theorem vR_g3 {h : dr_AH} {c : Nat → Int → Int} {s t : Nat} (hl : LaR h s t) {K : Int32 → Option (dr_RS × dr_AH)} : dr_gi (wr h c) 3 1 3 K = K (i2 (c 1 3)) := r_gi hl.1 hl.2.2.2.2.1
theorem vR_p3 {h : dr_AH} {c : Nat → Int → Int} {s t : Nat} (hl : LaR h s t) {x : Int} {K : dr_AH → Option (dr_RS × dr_AH)} : dr_pf (wr h c) 3 1 3 (.int (i2 x)) K = K (wr h (up c 1 3 x)) := r_pf hl.1 hl.2.2.2.2.1
theorem vR_g4 {h : dr_AH} {c : Nat → Int → Int} {s t : Nat} (hl : LaR h s t) {K : Int32 → Option (dr_RS × dr_AH)} : dr_gi (wr h c) 3 1 4 K = K (i2 (c 1 4)) := r_gi hl.1 hl.2.2.2.2.2.1
theorem vR_p4 {h : dr_AH} {c : Nat → Int → Int} {s t : Nat} (hl : LaR h s t) {x : Int} {K : dr_AH → Option (dr_RS × dr_AH)} : dr_pf (wr h c) 3 1 4 (.int (i2 x)) K = K (wr h (up c 1 4 x)) := r_pf hl.1 hl.2.2.2.2.2.1
theorem vR_r5 {h : dr_AH} {c : Nat → Int → Int} {s t : Nat} (hl : LaR h s t) {K : Nat → Option (dr_RS × dr_AH)} {K0 : Option (dr_RS × dr_AH)} : dr_gr (wr h c) 3 1 5 K K0 = K 28 := r_gr hl.1 hl.2.2.2.2.2.2.1
theorem vR_g6 {h : dr_AH} {c : Nat → Int → Int} {s t : Nat} (hl : LaR h s t) {K : Int32 → Option (dr_RS × dr_AH)} : dr_gi (wr h c) 3 1 6 K = K (i2 (c 1 6)) := r_gi hl.1 hl.2.2.2.2.2.2.2.1
theorem vR_p6 {h : dr_AH} {c : Nat → Int → Int} {s t : Nat} (hl : LaR h s t) {x : Int} {K : dr_AH → Option (dr_RS × dr_AH)} : dr_pf (wr h c) 3 1 6 (.int (i2 x)) K = K (wr h (up c 1 6 x)) := r_pf hl.1 hl.2.2.2.2.2.2.2.1
theorem vR_r7 {h : dr_AH} {c : Nat → Int → Int} {s t : Nat} (hl : LaR h s t) {K : Nat → Option (dr_RS × dr_AH)} {K0 : Option (dr_RS × dr_AH)} : dr_gr (wr h c) 3 1 7 K K0 = K 29 := r_gr hl.1 hl.2.2.2.2.2.2.2.2.1
theorem vR_r8 {h : dr_AH} {c : Nat → Int → Int} {s t : Nat} (hl : LaR h s t) {K : Nat → Option (dr_RS × dr_AH)} {K0 : Option (dr_RS × dr_AH)} : dr_gr (wr h c) 3 1 8 K K0 = K 30 := r_gr hl.1 hl.2.2.2.2.2.2.2.2.2.1
theorem vR_g9 {h : dr_AH} {c : Nat → Int → Int} {s t : Nat} (hl : LaR h s t) {K : Int32 → Option (dr_RS × dr_AH)} : dr_gi (wr h c) 3 1 9 K = K (i2 (c 1 9)) := r_gi hl.1 hl.2.2.2.2.2.2.2.2.2.2.1
theorem vR_p9 {h : dr_AH} {c : Nat → Int → Int} {s t : Nat} (hl : LaR h s t) {x : Int} {K : dr_AH → Option (dr_RS × dr_AH)} : dr_pf (wr h c) 3 1 9 (.int (i2 x)) K = K (wr h (up c 1 9 x)) := r_pf hl.1 hl.2.2.2.2.2.2.2.2.2.2.1
theorem vR_n29 {h : dr_AH} {c : Nat → Int → Int} {s t : Nat} (hl : LaR h s t) {K : Int32 → Option (dr_RS × dr_AH)} : dr_ln (wr h c) 0 29 K = K (i2 20) := r_ln (k := 0) hl.2.2.2.2.2.2.2.2.2.2.2.1
theorem vR_a29 {h : dr_AH} {c : Nat → Int → Int} {s t : Nat} (hl : LaR h s t) {j : Int} {K : Int32 → Option (dr_RS × dr_AH)} (h0 : 0 ≤ j) (h1 : j < 20) : dr_ai (wr h c) 29 (i2 j) K = K (i2 (c 29 j)) := r_ai hl.2.2.2.2.2.2.2.2.2.2.2.1 (by decide) h0 h1
theorem vR_s29 {h : dr_AH} {c : Nat → Int → Int} {s t : Nat} (hl : LaR h s t) {j x : Int} {K : dr_AH → Option (dr_RS × dr_AH)} (h0 : 0 ≤ j) (h1 : j < 20) : dr_si (wr h c) 29 (i2 j) (i2 x) K = K (wr h (up c 29 j x)) := r_si hl.2.2.2.2.2.2.2.2.2.2.2.1 (by decide) (by decide) h0 h1
theorem vR_n30 {h : dr_AH} {c : Nat → Int → Int} {s t : Nat} (hl : LaR h s t) {K : Int32 → Option (dr_RS × dr_AH)} : dr_ln (wr h c) 0 30 K = K (i2 400) := r_ln (k := 0) hl.2.2.2.2.2.2.2.2.2.2.2.2
theorem vR_a30 {h : dr_AH} {c : Nat → Int → Int} {s t : Nat} (hl : LaR h s t) {j : Int} {K : Int32 → Option (dr_RS × dr_AH)} (h0 : 0 ≤ j) (h1 : j < 400) : dr_ai (wr h c) 30 (i2 j) K = K (i2 (c 30 j)) := r_ai hl.2.2.2.2.2.2.2.2.2.2.2.2 (by decide) h0 h1
theorem vR_s30 {h : dr_AH} {c : Nat → Int → Int} {s t : Nat} (hl : LaR h s t) {j x : Int} {K : dr_AH → Option (dr_RS × dr_AH)} (h0 : 0 ≤ j) (h1 : j < 400) : dr_si (wr h c) 30 (i2 j) (i2 x) K = K (wr h (up c 30 j x)) := r_si hl.2.2.2.2.2.2.2.2.2.2.2.2 (by decide) (by decide) h0 h1
