/-! ===== act and play ===== -/
theorem cna2_n (c : Nat → Int → Int) {d q : Nat} {a t j : Int} (h1 : ¬ (q = d + 3 ∧ j = c d 8)) (h2 : ¬ (q = d + 4 ∧ j = c d 8)) (h3 : ¬ (q = d ∧ j = 8)) (h4 : ¬ (q = d + 2 ∧ j = a)) : cna2 c d a t q j = c q j := by
  unfold cna2 cna
  split
  · rw [up_c31 _ h4, up_c31 _ h3, up_c31 _ h2, up_c31 _ h1]
  · rw [up_c31 _ h3, up_c31 _ h2, up_c31 _ h1]
theorem cna2_3 (c : Nat → Int → Int) (d : Nat) (a t : Int) : cna2 c d a t (d + 3) (c d 8) = a := by
  unfold cna2 cna
  split
  · rw [up_c31 _ (by omega), up_c31 _ (by omega), up_c31 _ (by omega), up_same]
  · rw [up_c31 _ (by omega), up_c31 _ (by omega), up_same]
theorem cna2_4 (c : Nat → Int → Int) (d : Nat) (a t : Int) : cna2 c d a t (d + 4) (c d 8) = t := by
  unfold cna2 cna
  split
  · rw [up_c31 _ (by omega), up_c31 _ (by omega), up_same]
  · rw [up_c31 _ (by omega), up_same]
theorem cna2_8 (c : Nat → Int → Int) (d : Nat) (a t : Int) : cna2 c d a t d 8 = c d 8 + 1 := by
  unfold cna2 cna
  split
  · rw [up_c31 _ (by omega), up_same]
  · rw [up_same]
theorem cna2_2 (c : Nat → Int → Int) (d : Nat) (a t : Int) : cna2 c d a t (d + 2) a = if c (d + 2) a = -1 then t else c (d + 2) a := by
  unfold cna2 cna
  split
  · rw [up_same]
  · rw [up_c31 _ (by omega), up_c31 _ (by omega), up_c31 _ (by omega)]
theorem mdo_n (c : Nat → Int → Int) {q : Nat} {i a j : Int} (h1 : ¬ (q = 49 ∧ j = i * 60 + c 48 i)) (h2 : ¬ (q = 50 ∧ j = i * 60 + c 48 i)) (h3 : ¬ (q = 48 ∧ j = i)) : mdo c i a q j = c q j := by
  unfold mdo
  rw [up_c31 _ h3, up_c31 _ h2, up_c31 _ h1]
theorem mdo_48 (c : Nat → Int → Int) (i a : Int) : mdo c i a 48 i = c 48 i + 1 := by unfold mdo; rw [up_same]
theorem mdo_49 (c : Nat → Int → Int) (i a : Int) : mdo c i a 49 (i * 60 + c 48 i) = a := by unfold mdo; rw [up_c31 _ (by omega), up_c31 _ (by omega), up_same]
theorem mdo_50 (c : Nat → Int → Int) (i a : Int) : mdo c i a 50 (i * 60 + c 48 i) = c 31 1 - c 45 i := by unfold mdo; rw [up_c31 _ (by omega), up_same]
theorem mdo_c {c c' : Nat → Int → Int} {i a : Int} {q : Nat} {j : Int} (e1 : c' 48 i = c 48 i) (e2 : c' 31 1 = c 31 1) (e3 : c' 45 i = c 45 i) (e4 : c' q j = c q j) : mdo c' i a q j = mdo c i a q j := by
  unfold mdo
  rw [e1, e2, e3]
  unfold up
  rw [e4]
/-- both sides have noted the act -/
def aN (c : Nat → Int → Int) (d : Nat) (i a T : Int) : Nat → Int → Int := mdo (up (cna2 c d a T) 31 0 0) i a
def aB (c : Nat → Int → Int) (d s : Nat) (a T : Int) : Nat → Int → Int := up (bdc (cna2 c d a T) d s T 40) d 4 (cna2 c d a T d 4 + sm (fun n => bz (cev (cna2 c d a T) d s T n)) 40)
def aF (c : Nat → Int → Int) (d s : Nat) (i a T : Int) : Nat → Int → Int := lkc (mdo (up (aB c d s a T) 31 0 0) i a) i 40
section ACT
variable {c : Nat → Int → Int} {i a T : Int} {d s : Nat}
theorem aX_m (hd : 57 ≤ d) {q : Nat} {j : Int} (h : q ≤ 56) (h0 : ¬ (q = 31 ∧ j = 0)) : up (cna2 c d a T) 31 0 0 q j = c q j := by
  rw [up_c31 _ h0, cna2_n _ (by omega) (by omega) (by omega) (by omega)]
theorem aN_n (hd : 57 ≤ d) {q : Nat} {j : Int} (h1 : ¬ (q = d + 3 ∧ j = c d 8)) (h2 : ¬ (q = d + 4 ∧ j = c d 8)) (h3 : ¬ (q = d ∧ j = 8)) (h4 : ¬ (q = d + 2 ∧ j = a)) (h5 : ¬ (q = 49 ∧ j = i * 60 + c 48 i)) (h6 : ¬ (q = 50 ∧ j = i * 60 + c 48 i)) (h7 : ¬ (q = 48 ∧ j = i)) (h8 : ¬ (q = 31 ∧ j = 0)) : aN c d i a T q j = c q j := by
  have e : up (cna2 c d a T) 31 0 0 48 i = c 48 i := aX_m hd (by omega) (by omega)
  unfold aN
  rw [mdo_n _ (by rw [e]; exact h5) (by rw [e]; exact h6) h7, up_c31 _ h8, cna2_n _ h1 h2 h3 h4]
theorem aN_c (hd : 57 ≤ d) {q : Nat} (h : q < 31 ∨ 56 ≤ q) : aN c d i a T q = cna2 c d a T q := by
  funext j
  unfold aN
  rw [mdo_n _ (by omega) (by omega) (by omega), up_c31 _ (by omega)]
theorem aN_48 (hd : 57 ≤ d) : aN c d i a T 48 i = c 48 i + 1 := by
  unfold aN
  rw [mdo_48, aX_m hd (by omega) (by omega)]
theorem aN_49 (hd : 57 ≤ d) : aN c d i a T 49 (i * 60 + c 48 i) = a := by
  have e : up (cna2 c d a T) 31 0 0 48 i = c 48 i := aX_m hd (by omega) (by omega)
  have := mdo_49 (up (cna2 c d a T) 31 0 0) i a
  rw [e] at this
  exact this
theorem aN_50 (hd : 57 ≤ d) : aN c d i a T 50 (i * 60 + c 48 i) = c 31 1 - c 45 i := by
  have e : up (cna2 c d a T) 31 0 0 48 i = c 48 i := aX_m hd (by omega) (by omega)
  have := mdo_50 (up (cna2 c d a T) 31 0 0) i a
  rw [e, aX_m hd (by omega) (by omega), aX_m hd (by omega) (by omega)] at this
  exact this
theorem aN_ft (hd : 57 ≤ d) (h0 : 0 ≤ c 48 i) (hT : T = c 31 1 - c 45 i) (b fr : Int) : mft (aN c d i a T) i b fr = if 0 ≤ mft c i b fr then mft c i b fr else if a = b ∧ fr ≤ T then T else -1 := by
  unfold mft
  rw [aN_48 hd, show (c 48 i + 1).toNat = (c 48 i).toNat + 1 by omega, ft]
  have e1 : ft (fun k => aN c d i a T 49 (i * 60 + k)) (fun k => aN c d i a T 50 (i * 60 + k)) b fr (c 48 i).toNat = ft (fun k => c 49 (i * 60 + k)) (fun k => c 50 (i * 60 + k)) b fr (c 48 i).toNat := by
    refine ft_c _ (fun k k1 k2 => ⟨aN_n hd (by omega) (by omega) (by omega) (by omega) (by omega) (by omega) (by omega) (by omega), aN_n hd (by omega) (by omega) (by omega) (by omega) (by omega) (by omega) (by omega) (by omega)⟩)
  have e2 : (((c 48 i).toNat : Nat) : Int) = c 48 i := by omega
  rw [e1, e2, aN_49 hd, aN_50 hd, ← hT]
theorem aN_D9 (H : DR c i d s) (i0 : 0 ≤ i) (i1 : i < 8) (ht : c 31 1 ≤ 99999) (hd : 57 ≤ d) (hs : s = 4 ∨ s = 16 ∨ 57 ≤ s) (hds : DS d s) (on : c 46 i = 0) (room : c 48 i < 60) (a1 : 0 ≤ a) (a2 : a ≤ 19) (hT : T = c 31 1 - c 45 i) :
    D9 (aN c d i a T) i d s ∧ ∀ n, 1 ≤ n → n ≤ 40 → c 33 (i * 41 + n) = 1 → c 47 (i * 41 + n) < 0 → T ≤ mdu (aN c d i a T) i n := by
  have hM := DR_MH H i0 i1 ht
  unfold DS at hds
  obtain ⟨h1, h2, h3, h4, h5, h6, h7, h8, h9, h10⟩ := H
  have hft := fun b => aN_ft (a := a) (T := T) (i := i) (c := c) hd h6.2.1 hT b 0
  have N : ∀ q j, (s ≤ q ∧ q ≤ s + 11) ∨ (31 ≤ q ∧ q ≤ 47 ∧ ¬ (q = 31 ∧ j = 0)) → aN c d i a T q j = c q j := fun q j hq => aN_n hd (by omega) (by omega) (by omega) (by omega) (by omega) (by omega) (by omega) (by omega)
  have dd : ∀ j, j ≠ 8 → aN c d i a T d j = c d j := fun j hj => aN_n hd (by omega) (by omega) (by omega) (by omega) (by omega) (by omega) (by omega) (by omega)
  have c8 : aN c d i a T d 8 = c d 8 + 1 := by rw [aN_c hd (by omega), cna2_8]
  have c3 : aN c d i a T (d + 3) (c d 8) = a := by rw [aN_c hd (by omega), cna2_3]
  have c4 : aN c d i a T (d + 4) (c d 8) = T := by rw [aN_c hd (by omega), cna2_4]
  have c2 : aN c d i a T (d + 2) a = if c (d + 2) a = -1 then T else c (d + 2) a := by rw [aN_c hd (by omega), cna2_2]
  have k48 := aN_48 (c := c) (i := i) (a := a) (T := T) hd
  have k49 := aN_49 (c := c) (i := i) (a := a) (T := T) hd
  have k50 := aN_50 (c := c) (i := i) (a := a) (T := T) hd
  refine ⟨⟨SRel_f h1 (fun q j q1 q2 q3 => N q j (by omega)) (fun q n q1 q2 n1 n2 => N q _ (by omega)) (fun q n q1 q2 n1 n2 => N q _ (by omega)), ?_, ?_, fun n n1 n2 => ?_, ?_, ?_, fun k k1 k2 => ?_, fun k k' k1 k2 k3 => ?_, fun b b1 b2 => ?_⟩, fun n n1 n2 g1 g2 => ?_⟩
  · rw [dd 1 (by omega), N 45 i (by omega), N 31 1 (by omega)]; exact h2
  · rw [dd 2 (by omega), N 46 i (by omega)]; exact h3
  · rw [aN_n hd (q := d + 1) (j := n) (by omega) (by omega) (by omega) (by omega) (by omega) (by omega) (by omega) (by omega), N 47 _ (by omega), N 33 _ (by omega)]; exact h4 n n1 n2
  · rw [dd 4 (by omega), mbc_c (fun n _ _ => N 47 _ (by omega))]; exact h5
  · rw [c8, k48]; omega
  · rw [k48] at k2
    rw [N 31 1 (by omega), N 45 i (by omega)]
    by_cases ek : k = c 48 i
    · subst ek
      rw [k49, k50, ← h6.1, c3, c4]
      omega
    · have := h7 k k1 (by omega)
      rw [aN_n hd (q := d + 3) (j := k) (by omega) (by omega) (by omega) (by omega) (by omega) (by omega) (by omega) (by omega), aN_n hd (q := d + 4) (j := k) (by omega) (by omega) (by omega) (by omega) (by omega) (by omega) (by omega) (by omega), aN_n hd (q := 49) (by omega) (by omega) (by omega) (by omega) (by omega) (by omega) (by omega) (by omega), aN_n hd (q := 50) (by omega) (by omega) (by omega) (by omega) (by omega) (by omega) (by omega) (by omega)]
      exact this
  · rw [k48] at k3
    have r50 : ∀ k, 0 ≤ k → k < c 48 i → aN c d i a T 50 (i * 60 + k) = c 50 (i * 60 + k) := fun k k1 k2 => aN_n hd (by omega) (by omega) (by omega) (by omega) (by omega) (by omega) (by omega) (by omega)
    by_cases ek : k' = c 48 i
    · by_cases ek2 : k = c 48 i
      · rw [ek, ek2]; omega
      · have := h7 k k1 (by omega)
        rw [ek, k50, r50 k k1 (by omega)]
        omega
    · rw [r50 k k1 (by omega), r50 k' (by omega) (by omega)]
      exact h8 k k' k1 k2 (by omega)
  · have hr := mft_r hM b 0
    have h9' := h9 b b1 b2
    rw [hft b]
    by_cases eb : b = a
    · subst eb
      rw [c2, h9']
      by_cases e5 : mft c i b 0 = -1
      · rw [if_pos e5, if_neg (by omega), if_pos (by omega)]
      · rw [if_neg e5, if_pos (by omega)]
    · rw [aN_n hd (q := d + 2) (j := b) (by omega) (by omega) (by omega) (by omega) (by omega) (by omega) (by omega) (by omega), h9']
      by_cases e5 : 0 ≤ mft c i b 0
      · rw [if_pos e5]
      · rw [if_neg e5, if_neg (by omega)]
        omega
  · have h10' := h10 on n n1 n2 g1 g2
    have hm := (hM.2.2.1 n n1 n2).2.2 g1
    have hr := mft_r hM (c 35 (i * 41 + n)) 0
    unfold mdu at h10' ⊢
    rw [N 35 _ (by omega), N 34 _ (by omega), N 36 _ (by omega), hft]
    by_cases e5 : c 35 (i * 41 + n) < 0
    · rw [if_pos e5] at h10' ⊢
      omega
    · rw [if_neg e5] at h10' ⊢
      by_cases e6 : 0 ≤ mft c i (c 35 (i * 41 + n)) 0
      · rw [if_neg (by omega)] at h10'
        rw [if_pos e6, if_neg (by omega)]
        omega
      · rw [if_pos (by omega)] at h10'
        rw [if_neg e6]
        by_cases e7 : a = c 35 (i * 41 + n) ∧ 0 ≤ T
        · rw [if_pos e7, if_neg (by omega)]
          split <;> omega
        · rw [if_neg e7, if_pos (by omega)]
          omega
theorem aF_n (hd : 57 ≤ d) {q : Nat} {j : Int} (h48 : 0 ≤ c 48 i ∧ c 48 i < 60) (h1 : ¬ (d ≤ q ∧ q ≤ d + 4)) (h2 : ¬ (q = 47 ∧ i * 41 + 1 ≤ j ∧ j ≤ i * 41 + 40)) (h3 : ¬ (q = 48 ∧ j = i)) (h4 : ¬ (49 ≤ q ∧ q ≤ 50 ∧ i * 60 ≤ j ∧ j < i * 60 + 60)) (h5 : ¬ (q = 31 ∧ j = 0)) : aF c d s i a T q j = c q j := by
  have e : up (aB c d s a T) 31 0 0 48 i = c 48 i := by
    unfold aB
    rw [up_c31 _ (by omega), up_c31 _ (by omega), bdc_n' _ (by omega), cna2_n _ (by omega) (by omega) (by omega) (by omega)]
  unfold aF
  rw [lkc_n' _ (by omega), mdo_n _ (by rw [e]; omega) (by rw [e]; omega) h3, up_c31 _ h5]
  unfold aB
  rw [up_c31 _ (by omega), bdc_n' _ (by omega), cna2_n _ (by omega) (by omega) (by omega) (by omega)]
theorem aF_DR (H : DR c i d s) (i0 : 0 ≤ i) (i1 : i < 8) (ht : c 31 1 ≤ 99999) (hd : 57 ≤ d) (hs : s = 4 ∨ s = 16 ∨ 57 ≤ s) (hds : DS d s) (on : c 46 i = 0) (room : c 48 i < 60) (a1 : 0 ≤ a) (a2 : a ≤ 19) (hT : T = c 31 1 - c 45 i) :
    DR (aF c d s i a T) i d s ∧ sm (fun n => bz (cev (cna2 c d a T) d s T n)) 40 = sm (fun n => bz (mev (mdo (up (aB c d s a T) 31 0 0) i a) i n)) 40 ∧ CH (cna2 c d a T) d s ∧ MH (mdo (up (aB c d s a T) 31 0 0) i a) i := by
  obtain ⟨D, hle⟩ := aN_D9 (a := a) (T := T) H i0 i1 ht hd hs hds on room a1 a2 hT
  have hds' := hds
  unfold DS at hds
  have n31 : aN c d i a T 31 1 = c 31 1 := aN_n hd (by omega) (by omega) (by omega) (by omega) (by omega) (by omega) (by omega) (by omega)
  have n45 : aN c d i a T 45 i = c 45 i := aN_n hd (by omega) (by omega) (by omega) (by omega) (by omega) (by omega) (by omega) (by omega)
  have eT : aN c d i a T 31 1 - aN c d i a T 45 i = T := by rw [n31, n45, hT]
  have ht' : aN c d i a T 31 1 ≤ 99999 := by rw [n31]; exact ht
  have cl : ∀ q, q < 31 ∨ 56 ≤ q → cna2 c d a T q = aN c d i a T q := fun q hq => (aN_c hd hq).symm
  have cec := cev_c (cl (s + 1) (by omega)) (cl (d + 1) (by omega)) (cl (s + 2) (by omega)) (cl (s + 3) (by omega)) (cl (s + 4) (by omega)) (cl (d + 2) (by omega)) T
  have cdc := cdu_c (cl (s + 2) (by omega)) (cl (s + 3) (by omega)) (cl (s + 4) (by omega)) (cl (d + 2) (by omega))
  have csm : sm (fun n => bz (cev (cna2 c d a T) d s T n)) 40 = sm (fun n => bz (cev (aN c d i a T) d s T n)) 40 := sm_c 40 (fun n _ _ => by
    unfold bz
    by_cases e : cev (aN c d i a T) d s T n
    · rw [if_pos e, if_pos ((cec n).mpr e)]
    · rw [if_neg e, if_neg (fun hh => e ((cec n).mp hh))])
  have xB : ∀ q j, q ≤ 56 → ¬ (q = 31 ∧ j = 0) → up (aB c d s a T) 31 0 0 q j = up (cna2 c d a T) 31 0 0 q j := by
    intro q j hq h0
    unfold aB
    rw [up_c31 _ h0, up_c31 _ (by omega), bdc_n' _ (by omega), up_c31 _ h0]
  have mo : ∀ q, 31 ≤ q → q ≤ 55 → ∀ j, ¬ (q = 31 ∧ j = 0) → mdo (up (aB c d s a T) 31 0 0) i a q j = aN c d i a T q j := by
    intro q q1 q2 j h0
    exact mdo_c (xB 48 i (by omega) (by omega)) (xB 31 1 (by omega) (by omega)) (xB 45 i (by omega) (by omega)) (xB q j (by omega) h0)
  have mel := fun n => mev_c mo i n
  have hM := D9_MH D i0 i1 ht'
  have hcnt := D9_cnt D hM eT.symm
  have msm : sm (fun n => bz (mev (mdo (up (aB c d s a T) 31 0 0) i a) i n)) 40 = sm (fun n => bz (mev (aN c d i a T) i n)) 40 := sm_c 40 (fun n _ _ => by
    unfold bz
    by_cases e : mev (aN c d i a T) i n
    · rw [if_pos e, if_pos ((mel n).2.mpr e)]
    · rw [if_neg e, if_neg (fun hh => e ((mel n).2.mp hh))])
  refine ⟨PL D i0 i1 ht' hd hs hds' eT.symm (fun q j hq h1 h2 h3 => ?_) (fun n n1 n2 => ?_) (fun n n1 n2 => ?_) ?_, by rw [csm, hcnt, msm], ?_, MH_c hM mo⟩
  · unfold aF
    rw [lkc_n' _ (by omega)]
    refine mdo_c (xB 48 i (by omega) (by omega)) (xB 31 1 (by omega) (by omega)) (xB 45 i (by omega) (by omega)) ?_
    by_cases h0 : q = 31 ∧ j = 0
    · rw [h0.1, h0.2, up_same, up_same]
    · unfold aB
      rw [up_c31 _ h0, up_c31 _ h2, bdc_n' _ (by omega), up_c31 _ h0]
  · unfold aF
    rw [lkc_n' _ (by omega), mdo_n _ (by omega) (by omega) (by omega), up_c31 _ (by omega)]
    unfold aB
    rw [up_c31 _ (by omega), bdc_y _ n1 n2]
    by_cases e : cev (aN c d i a T) d s T n
    · rw [if_pos e, if_pos ((cec n).mpr e), cdc n]
    · rw [if_neg e, if_neg (fun hh => e ((cec n).mp hh)), cl (d + 1) (by omega)]
  · unfold aF
    rw [lkc_y _ n1 n2]
    by_cases e : mev (aN c d i a T) i n
    · rw [if_pos e, if_pos ((mel n).2.mpr e), mo 31 (by omega) (by omega) 1 (by omega), mo 45 (by omega) (by omega) _ (by omega), eT]
      have e2 := e.2.2
      rw [eT] at e2
      have g1 := e.1
      have g2 := e.2.1
      rw [aN_n hd (by omega) (by omega) (by omega) (by omega) (by omega) (by omega) (by omega) (by omega)] at g1 g2
      have := hle n n1 n2 g1 g2
      omega
    · rw [if_neg e, if_neg (fun hh => e ((mel n).2.mp hh)), mo 47 (by omega) (by omega) _ (by omega)]
  · rw [← csm]
    unfold aF
    rw [lkc_n' _ (by omega), mdo_n _ (by omega) (by omega) (by omega), up_c31 _ (by omega)]
    unfold aB
    rw [up_same, ← cl d (by omega)]
  · have := D9_CH D i0 i1 ht'
    unfold CH at this ⊢
    rw [cl d (by omega), cl (s + 1) (by omega), cl (d + 1) (by omega), cl (s + 2) (by omega), cl (s + 3) (by omega), cl (s + 4) (by omega), cl (d + 2) (by omega), cl (d + 3) (by omega), cl (d + 4) (by omega)]
    exact this
end ACT
