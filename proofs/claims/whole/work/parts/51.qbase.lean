/-! ===== the queries ===== -/
theorem u31 (c : Nat → Int → Int) (k : Int) {a : Nat} (e : a ≠ 31) : up c 31 0 k a = c a := funext fun i => up_a c 0 k i e
theorem u311 (c : Nat → Int → Int) (k : Int) {j : Int} (e : j ≠ 0) : up c 31 0 k 31 j = c 31 j := up_j c k e
theorem mft_u (c : Nat → Int → Int) (k d a fr : Int) : mft (up c 31 0 k) d a fr = mft c d a fr := by
  unfold mft
  rw [u31 c k (show (48 : Nat) ≠ 31 by decide), u31 c k (show (49 : Nat) ≠ 31 by decide), u31 c k (show (50 : Nat) ≠ 31 by decide)]
theorem mis_u (c : Nat → Int → Int) (k d n : Int) : mis (up c 31 0 k) d n = mis c d n := by
  unfold mis
  rw [mft_u, u31 c k (show (47 : Nat) ≠ 31 by decide), u31 c k (show (41 : Nat) ≠ 31 by decide), u31 c k (show (42 : Nat) ≠ 31 by decide), u31 c k (show (43 : Nat) ≠ 31 by decide), u31 c k (show (46 : Nat) ≠ 31 by decide), u31 c k (show (45 : Nat) ≠ 31 by decide), u311 c k (by omega)]
theorem MH_u {c : Nat → Int → Int} {d : Int} (k : Int) (H : MH c d) : MH (up c 31 0 k) d := by
  unfold MH
  rw [u31 c k (show (45 : Nat) ≠ 31 by decide), u31 c k (show (33 : Nat) ≠ 31 by decide), u31 c k (show (47 : Nat) ≠ 31 by decide), u31 c k (show (35 : Nat) ≠ 31 by decide), u31 c k (show (36 : Nat) ≠ 31 by decide), u31 c k (show (34 : Nat) ≠ 31 by decide), u31 c k (show (48 : Nat) ≠ 31 by decide), u31 c k (show (49 : Nat) ≠ 31 by decide), u31 c k (show (50 : Nat) ≠ 31 by decide), u311 c k (by omega)]
  exact H
theorem MB_u {c : Nat → Int → Int} {d : Int} (k : Int) (H : MB c d) : MB (up c 31 0 k) d := by
  unfold MB
  rw [u31 c k (show (33 : Nat) ≠ 31 by decide), u31 c k (show (47 : Nat) ≠ 31 by decide), u31 c k (show (37 : Nat) ≠ 31 by decide), u31 c k (show (38 : Nat) ≠ 31 by decide), u31 c k (show (39 : Nat) ≠ 31 by decide)]
  exact H
theorem MA_u {c : Nat → Int → Int} {d : Int} (k : Int) (H : MA c d) : MA (up c 31 0 k) d := by
  unfold MA mA1
  rw [u31 c k (show (40 : Nat) ≠ 31 by decide), u31 c k (show (41 : Nat) ≠ 31 by decide), u31 c k (show (42 : Nat) ≠ 31 by decide), u31 c k (show (43 : Nat) ≠ 31 by decide), u31 c k (show (44 : Nat) ≠ 31 by decide), u31 c k (show (46 : Nat) ≠ 31 by decide)]
  exact H
theorem mse_u (c : Nat → Int → Int) (k d p : Int) : mse (up c 31 0 k) d p = mse c d p := by
  funext n
  unfold mse
  rw [u31 c k (show (33 : Nat) ≠ 31 by decide), u31 c k (show (47 : Nat) ≠ 31 by decide), u31 c k (show (37 : Nat) ≠ 31 by decide), u31 c k (show (38 : Nat) ≠ 31 by decide)]
theorem mfa_u (c : Nat → Int → Int) (k d p : Int) : mfa' (up c 31 0 k) d p = mfa' c d p := by
  funext n
  unfold mfa'
  rw [u31 c k (show (33 : Nat) ≠ 31 by decide), u31 c k (show (47 : Nat) ≠ 31 by decide), u31 c k (show (39 : Nat) ≠ 31 by decide)]
theorem mC_u (c : Nat → Int → Int) (k d p : Int) : mC (up c 31 0 k) d p = mC c d p := by
  funext n
  unfold mC
  rw [u31 c k (show (40 : Nat) ≠ 31 by decide), mis_u, mis_u]
theorem IAd {c : Nat → Int → Int} {nd : Nat} {da sa : Nat → Nat} {cs sp : Nat} (hI : IA c nd da sa cs sp) {i : Nat} (hi : i < nd) : DR c i (da i) (sa i) := hI.2.2.2.2.2.1 i hi
theorem stu_n (c : Nat → Int → Int) {a b : Nat} {d j i : Int} (h : ¬ (b = a ∧ 0 ≤ i ∧ i < j)) : stu c a d j b i = c b i := if_neg (fun hh => h ⟨hh.1, hh.2.1, hh.2.2.1⟩)
theorem wby_n (c : Nat → Int → Int) {a b : Nat} {y : Int64} {p n k i : Int} (h : ¬ (b = a ∧ p ≤ i ∧ i < p + n - k)) : wby c a y p n k b i = c b i := if_neg h
theorem wby_y (c : Nat → Int → Int) {a : Nat} {y : Int64} {p n k i : Int} (h1 : p ≤ i) (h2 : i < p + n - k) : wby c a y p n k a i = byt y (p + n - 1 - i) := if_pos ⟨rfl, h1, h2⟩
theorem stu_y (c : Nat → Int → Int) {a : Nat} {d j i : Int} (h1 : 0 ≤ i) (h2 : i < j) : stu c a d j a i = if c a i = d then -1 else c a i := by
  unfold stu
  by_cases e : c a i = d
  · rw [if_pos ⟨rfl, h1, h2, e⟩, if_pos e]
  · rw [if_neg (fun hh => e hh.2.2.2), if_neg e]
