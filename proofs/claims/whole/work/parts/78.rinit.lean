/-! ===== the class's constructor ===== -/
theorem r_init {h : dr_AH} {c : Nat → Int → Int} {B : Nat} (hs : h.1 = 1) (hb : h.2.1 = B) (hk : (h.2.2 1).1 = 3) (z3 : sI h 1 3) (z4 : sI h 1 4) (z6 : sI h 1 6) (z9 : sI h 1 9) (r2 : B + 2000 ≤ 7293034) :
    ∃ (h' : dr_AH) (c' : Nat → Int → Int), f_R_init 1 (wr h c) = some (.inl none, wr h' c') ∧ h'.1 = 30 ∧ h'.2.1 ≤ B + 2000 ∧ LaT h' ∧ LaR h' 4 16 ∧ LaS h' 4 ∧ LaS h' 16 ∧ h'.2.2 28 = (110, 8, fun _ => .null) ∧ h'.2.2 0 = h.2.2 0 ∧ (∀ j, c' 0 j = c 0 j) ∧ (c' 1 3 = -1 ∧ c' 1 4 = 0 ∧ c' 1 6 = 0 ∧ c' 1 9 = 0) ∧ c' 2 1 = 0 ∧ (∀ q j, 4 < q → q ≤ 15 → c' q j = 0) ∧ c' 4 7 = 0 ∧ c' 4 12 = 0 ∧ c' 16 12 = 0 ∧ (∀ j, 0 ≤ j → j < 20 → c' 29 j = -1) := by
  obtain ⟨hA, eA, pA, qA, fA, nA⟩ := nw_st (c := c) (ci := 2) (N := 4) (f := fun k => defaultValue (nt_T k)) (a := 2) (by omega) hb (by decide) (by omega) nT_0
  obtain ⟨hB, cB, eB, pB, qB, lB, fB, cB1, cB2⟩ := t_init (h := hA) (c := zer c 2) (s := 2) pA (by rw [nA]) (by unfold sI; rw [nA]; exact ⟨0, rfl⟩) (by unfold sI; rw [nA]; exact ⟨0, rfl⟩) (by unfold sI; rw [nA]; exact ⟨0, rfl⟩) (by omega) (by omega)
  have lT := lB rfl
  have b1 : hB.2.2 1 = h.2.2 1 := by rw [fB 1 (by omega), fA 1 (by omega)]
  obtain ⟨hC, eC, pC, qC, fC, kC, oC, vC⟩ := rp_st (h := hB) (c := cB) (s := 1) (ci := 3) (slot := 0) (b := 2) (by rw [b1]; exact hk)
  obtain ⟨hD, eD, pD, qD, fD, nD⟩ := nw_st (h := hC) (c := cB) (ci := 1) (N := 13) (f := fun k => defaultValue (nt_S k)) (a := 4) (by omega) (rfl) (by decide) (by omega) nS_0
  obtain ⟨hE', cE, eE, pE, qE, lE, fE, cE1, cE2, cE3, cE4⟩ := s_init (h := hD) (c := zer cB 4) (s := 4) pD (by rw [nD]) (by unfold sI; rw [nD]; exact ⟨0, rfl⟩) (by unfold sI; rw [nD]; exact ⟨0, rfl⟩) (by omega) (by omega)
  have e1 : hE'.2.2 1 = hC.2.2 1 := by rw [fE 1 (by omega), fD 1 (by omega)]
  obtain ⟨hF, eF, pF, qF, fF, kF, oF, vF⟩ := rp_st (h := hE') (c := cE) (s := 1) (ci := 3) (slot := 1) (b := 4) (by rw [e1]; exact kC)
  obtain ⟨hG, eG, pG, qG, fG, nG⟩ := nw_st (h := hF) (c := cE) (ci := 1) (N := 13) (f := fun k => defaultValue (nt_S k)) (a := 16) (by omega) (rfl) (by decide) (by omega) nS_0
  obtain ⟨hH, cH, eH, pH, qH, lH, fH, cH1, cH2, cH3, cH4⟩ := s_init (h := hG) (c := zer cE 16) (s := 16) pG (by rw [nG]) (by unfold sI; rw [nG]; exact ⟨0, rfl⟩) (by unfold sI; rw [nG]; exact ⟨0, rfl⟩) (by omega) (by omega)
  have g1 : hH.2.2 1 = hF.2.2 1 := by rw [fH 1 (by omega), fG 1 (by omega)]
  obtain ⟨hI, eI, pI, qI, fI, kI, oI, vI⟩ := rp_st (h := hH) (c := cH) (s := 1) (ci := 3) (slot := 2) (b := 16) (by rw [g1]; exact kF)
  have tr : ∀ j, j ≠ 0 → j ≠ 1 → j ≠ 2 → (hI.2.2 1).2.2 j = (h.2.2 1).2.2 j := fun j j0 j1 j2 => by rw [oI j j2, g1, oF j j1, e1, oC j j0, b1]
  have y3 : sI hI 1 3 := by unfold sI; rw [tr 3 (by decide) (by decide) (by decide)]; exact z3
  have y4 : sI hI 1 4 := by unfold sI; rw [tr 4 (by decide) (by decide) (by decide)]; exact z4
  have w3 : ∀ K : dr_AH → Option (dr_RS × dr_AH), dr_pf (wr hI cH) 3 1 3 (.int (i2 (-1))) K = K (wr hI (up cH 1 3 (-1))) := fun K => r_pf kI y3
  have w4 : ∀ K : dr_AH → Option (dr_RS × dr_AH), dr_pf (wr hI (up cH 1 3 (-1))) 3 1 4 (.int (i2 0)) K = K (wr hI (up (up cH 1 3 (-1)) 1 4 0)) := fun K => r_pf kI y4
  obtain ⟨hJ, eJ, pJ, qJ, fJ, nJ, kJ, oJ, vJ⟩ := an_st (h := hI) (c := up (up cH 1 3 (-1)) 1 4 0) (s := 1) (ci := 3) (slot := 5) (k := 10) (n := 8) (a := 28) kI (by omega) rfl (by decide) (by decide) (by decide) (by omega)
  have y6 : sI hJ 1 6 := by unfold sI; rw [oJ 6 (by decide), tr 6 (by decide) (by decide) (by decide)]; exact z6
  have w6 : ∀ K : dr_AH → Option (dr_RS × dr_AH), dr_pf (wr hJ (up (up cH 1 3 (-1)) 1 4 0)) 3 1 6 (.int (i2 0)) K = K (wr hJ (up (up (up cH 1 3 (-1)) 1 4 0) 1 6 0)) := fun K => r_pf kJ y6
  obtain ⟨hK, eK, pK, qK, fK, nK, kK, oK, vK⟩ := al_s2 (h := hJ) (c := up (up (up cH 1 3 (-1)) 1 4 0) 1 6 0) (s := 1) (slot := 7) (k := 0) (n := 20) (a := 29) (x := 20) rfl kJ pJ rfl (by decide) (by decide) (by decide) (by omega)
  obtain ⟨hM, eM, pM, qM, fM, nM, kM, oM, vM⟩ := al_s2 (h := hK) (c := zer (up (up (up cH 1 3 (-1)) 1 4 0) 1 6 0) 29) (s := 1) (slot := 8) (k := 0) (n := 400) (a := 30) (x := 400) rfl kK pK rfl (by decide) (by decide) (by decide) (by omega)
  have y9 : sI hM 1 9 := by unfold sI; rw [oM 9 (by decide), oK 9 (by decide), oJ 9 (by decide), tr 9 (by decide) (by decide) (by decide)]; exact z9
  have w9 : ∀ K : dr_AH → Option (dr_RS × dr_AH), dr_pf (wr hM (zer (zer (up (up (up cH 1 3 (-1)) 1 4 0) 1 6 0) 29) 30)) 3 1 9 (.int (i2 0)) K = K (wr hM (up (zer (zer (up (up (up cH 1 3 (-1)) 1 4 0) 1 6 0) 29) 30) 1 9 0)) := fun K => r_pf kM y9
  have x7 : sR hM 1 7 29 := by unfold sR; rw [oM 7 (by decide), vK]
  have u7 : ∀ (K : Nat → Option (dr_RS × dr_AH)) (K0 : Option (dr_RS × dr_AH)), dr_gr (wr hM (up (zer (zer (up (up (up cH 1 3 (-1)) 1 4 0) 1 6 0) 29) 30) 1 9 0)) 3 1 7 K K0 = K 29 := fun K K0 => r_gr kM x7
  have a29 : sA hM 29 100 20 := sA_o (by rw [fM 29 (by decide) (by decide), nK])
  have a30 : sA hM 30 100 400 := sA_o nM
  have wf : f_A_fill 29 (i2 (-1)) (wr hM (up (zer (zer (up (up (up cH 1 3 (-1)) 1 4 0) 1 6 0) 29) 30) 1 9 0)) = some (.inl none, wr hM (fil (up (zer (zer (up (up (up cH 1 3 (-1)) 1 4 0) 1 6 0) 29) 30) 1 9 0) 29 20 (-1))) := a_fill a29 (by omega) (by omega)
  have up1 : ∀ a, a < 28 → a ≠ 1 → hM.2.2 a = hI.2.2 a := fun a ha hn => by rw [fM a (by omega) hn, fK a (by omega) hn, fJ a ha hn]
  have upI : ∀ a, a < 16 → a ≠ 1 → hM.2.2 a = hE'.2.2 a := fun a ha hn => by rw [up1 a (by omega) hn, fI a hn, fH a ha, fG a ha, fF a hn]
  have upB : ∀ a, a < 4 → a ≠ 1 → hM.2.2 a = hB.2.2 a := fun a ha hn => by rw [upI a (by omega) hn, fE a ha, fD a ha, fC a hn]
  refine ⟨hM, fil (up (zer (zer (up (up (up cH 1 3 (-1)) 1 4 0) 1 6 0) 29) 30) 1 9 0) 29 20 (-1), ?_, by omega, by omega, LaT_f (fun a a1 a2 => upB a (by omega) (by omega)) lT, ?_, LaS_f (fun a a1 a2 => upI a (by omega) (by omega)) lE, LaS_f (fun a a1 a2 => by rw [up1 a (by omega) (by omega), fI a (by omega)]) lH, ?_, ?_, fun j => ?_, ⟨?_, ?_, ?_, ?_⟩, ?_, fun q j q1 q2 => ?_, ?_, ?_, ?_, fun j j1 j2 => ?_⟩
  · unfold f_R_init
    simp only [li_0, li_1, i2_neg, li_8, li_20, li_400]
    refine (eA _).trans ?_
    rw [eB]
    refine r_cv.trans ?_
    refine (eC _).trans ?_
    refine (eD _).trans ?_
    rw [eE]
    refine r_cv.trans ?_
    refine (eF _).trans ?_
    refine (eG _).trans ?_
    rw [eH]
    refine r_cv.trans ?_
    refine (eI _).trans ?_
    refine (w3 _).trans ?_
    refine (w4 _).trans ?_
    refine (eJ _).trans ?_
    refine (w6 _).trans ?_
    refine (eK _).trans ?_
    refine (eM _).trans ?_
    refine (w9 _).trans ?_
    refine (u7 _ _).trans ?_
    rw [wf]
    rfl
  · refine ⟨kM, ?_, ?_, ?_, ?_, ?_, ?_, ?_, x7, vM, y9, a29, a30⟩
    · unfold sR; rw [oM 0 (by decide), oK 0 (by decide), oJ 0 (by decide), oI 0 (by decide), g1, oF 0 (by decide), e1, vC]
    · unfold sR; rw [oM 1 (by decide), oK 1 (by decide), oJ 1 (by decide), oI 1 (by decide), g1, vF]
    · unfold sR; rw [oM 2 (by decide), oK 2 (by decide), oJ 2 (by decide), vI]
    · unfold sI; rw [oM 3 (by decide), oK 3 (by decide), oJ 3 (by decide)]; exact y3
    · unfold sI; rw [oM 4 (by decide), oK 4 (by decide), oJ 4 (by decide)]; exact y4
    · unfold sR; rw [oM 5 (by decide), oK 5 (by decide), vJ]
    · unfold sI; rw [oM 6 (by decide), oK 6 (by decide)]; exact y6
  · rw [fM 28 (by decide) (by decide), fK 28 (by decide) (by decide), nJ]
  · rw [upB 0 (by omega) (by omega), fB 0 (by omega), fA 0 (by omega)]
  · simp (disch := omega) only [fil_n, up_c31, zer_n]
    rw [cH1 0 j (by omega), zer_n _ (by omega), cE1 0 j (by omega), zer_n _ (by omega), cB1 0 j (by omega), zer_n _ (by omega)]
  · simp (disch := omega) only [fil_n, up_c31, zer_n, up_same]
  · simp (disch := omega) only [fil_n, up_c31, zer_n, up_same]
  · simp (disch := omega) only [fil_n, up_c31, zer_n, up_same]
  · simp (disch := omega) only [fil_n, up_same]
  · simp (disch := omega) only [fil_n, up_c31, zer_n]
    rw [cH1 2 1 (by omega), zer_n _ (by omega), cE1 2 1 (by omega), zer_n _ (by omega), cB2]
  · simp (disch := omega) only [fil_n, up_c31, zer_n]
    rw [cH1 q j (by omega), zer_n _ (by omega), cE2 q j (by omega) (by omega)]
  · simp (disch := omega) only [fil_n, up_c31, zer_n]
    rw [cH1 4 7 (by omega), zer_n _ (by omega), cE3]
  · simp (disch := omega) only [fil_n, up_c31, zer_n]
    rw [cH1 4 12 (by omega), zer_n _ (by omega), cE4]
  · simp (disch := omega) only [fil_n, up_c31, zer_n]
    exact cH4
  · rw [fil_y _ j1 j2]
