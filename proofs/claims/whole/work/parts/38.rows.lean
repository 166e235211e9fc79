/-! ===== rows keep the scripts alike ===== -/
def f9 (c d : Nat → Int → Int) : Prop := ∀ a j, (a < 33 ∨ 44 < a ∨ (a ≤ 39 ∧ j < 369) ∨ (40 ≤ a ∧ j < 189)) → d a j = c a j
def mB (c : Nat → Int → Int) : Prop := ∀ j, (0 ≤ c 33 j ∧ c 33 j < 2) ∧ (0 ≤ c 38 j ∧ c 38 j < 2) ∧ (0 ≤ c 40 j ∧ c 40 j < 2)
def fS (s : Nat) (c d : Nat → Int → Int) : Prop := ∀ a j, (a < s ∨ s + 11 < a ∨ (a = s ∧ j ≠ 7)) → d a j = c a j
def KK (c : Nat → Int → Int) (s : Nat) : Int := c s 7 + sm (fun n => bz (0 < c (s + 11) n)) 20
theorem cnu_p {t : Int → Int} {l a b p w : Int} (h0 : 0 ≤ p) (h1 : p ≤ l) (h : (cnu t l a b p w).2.2 < 0) : 1 ≤ (cnu t l a b p w).2.1 := by
  have hs := sk_rr (t := t) h0 h1
  have hd := dg_rr (t := t) hs.2
  unfold cnu at h ⊢
  dsimp only at h ⊢
  by_cases e : (dg t l 5 (sk t l 300 p) 0 0).2.2 = 0
  · rw [if_pos e] at h
    unfold fl at h
    split at h <;> omega
  · omega
theorem sr_ev {c c' d' : Nat → Int → Int} {s : Nat} (hr : SRel c s c' 369 189) {n k A B L P S F : Int} (h1 : 1 ≤ n) (h2 : n ≤ 40) (hk : k = 369 + n) (h0 : c (s + 1) n = 0)
    (g1 : d' 33 k = 1) (g2 : d' 34 k = L) (g3 : d' 35 k = A) (g4 : d' 36 k = B) (g5 : d' 37 k = P) (g6 : d' 38 k = S) (g7 : d' 39 k = F) (g8 : ∀ a j, a < 33 ∨ 39 < a ∨ j ≠ k → d' a j = c' a j)
    (r1 : -1 ≤ A ∧ A ≤ 19) (r2 : 0 ≤ B ∧ B ≤ 999) (r3 : 0 ≤ L ∧ L ≤ 9999) (r4 : 0 ≤ P ∧ P ≤ 9) (r5 : 0 ≤ S ∧ S < 2) (r6 : 0 ≤ F ∧ F ≤ 9) : SRel (deE (adE c s n A B L) s n P S F) s d' 369 189 := by
  subst hk
  obtain ⟨a1, a2, a3, a4⟩ := hr
  have hne : ∀ (q : Nat) (m : Int), q ≠ s → m ≠ n → deE (adE c s n A B L) s n P S F q m = c q m := by
    intro q m hq hm
    unfold deE adE up
    repeat' rw [if_neg (by omega)]
  have hne2 : ∀ (q : Nat) (m : Int), s + 7 < q → deE (adE c s n A B L) s n P S F q m = c q m := by
    intro q m hq
    unfold deE adE up
    repeat' rw [if_neg (by omega)]
  refine ⟨fun m m1 m2 => ?_, fun m m1 m2 => ?_, ?_, ?_⟩
  · by_cases e : m = n
    · subst e
      unfold sE
      rw [g1, g2, g3, g4, g5, g6, g7]
      have e1 : deE (adE c s m A B L) s m P S F (s + 1) m = 1 := by simp [deE, adE, up]
      have e2 : deE (adE c s m A B L) s m P S F (s + 2) m = A := by simp [deE, adE, up]
      have e3 : deE (adE c s m A B L) s m P S F (s + 3) m = B := by simp [deE, adE, up]
      have e4 : deE (adE c s m A B L) s m P S F (s + 4) m = L := by simp [deE, adE, up]
      have e5 : deE (adE c s m A B L) s m P S F (s + 5) m = P := by simp [deE, adE, up]
      have e6 : deE (adE c s m A B L) s m P S F (s + 6) m = S := by simp [deE, adE, up]
      have e7 : deE (adE c s m A B L) s m P S F (s + 7) m = F := by simp [deE, adE, up]
      rw [e1, e2, e3, e4, e5, e6, e7]
      exact ⟨rfl, by omega, by omega, fun _ => ⟨rfl, rfl, rfl, rfl, rfl, rfl, r1, r2, r3, r4, r5, r6⟩⟩
    · have := a1 m m1 m2
      unfold sE at this ⊢
      rw [hne (s + 1) m (by omega) e, hne (s + 2) m (by omega) e, hne (s + 3) m (by omega) e, hne (s + 4) m (by omega) e, hne (s + 5) m (by omega) e, hne (s + 6) m (by omega) e, hne (s + 7) m (by omega) e,
        g8 33 (369 + m) (by omega), g8 34 (369 + m) (by omega), g8 35 (369 + m) (by omega), g8 36 (369 + m) (by omega), g8 37 (369 + m) (by omega), g8 38 (369 + m) (by omega), g8 39 (369 + m) (by omega)]
      exact this
  · have := a2 m m1 m2
    unfold sW at this ⊢
    rw [hne2 (s + 8) m (by omega), hne2 (s + 9) m (by omega), hne2 (s + 10) m (by omega), hne2 (s + 11) m (by omega), g8 40 (189 + m) (by omega), g8 41 (189 + m) (by omega), g8 42 (189 + m) (by omega), g8 43 (189 + m) (by omega), g8 44 (189 + m) (by omega)]
    exact this
  · have e1 : deE (adE c s n A B L) s n P S F (s + 1) n = 1 := by simp [deE, adE, up]
    have e2 : deE (adE c s n A B L) s n P S F s 7 = c s 7 + 1 := by simp [deE, adE, up]
    rw [e2, sm_1 (f := deE (adE c s n A B L) s n P S F (s + 1)) (g := c (s + 1)) (k := n) 40 h1 (by omega) (fun i i1 i2 i3 => hne (s + 1) i (by omega) i3), e1, a3, h0]
    omega
  · rw [hne2 (s + 11) 0 (by omega), a4]
theorem fS_ev (c : Nat → Int → Int) (s : Nat) (n A B L P S F : Int) : fS s c (deE (adE c s n A B L) s n P S F) := by
  intro a j h
  unfold deE adE up
  repeat' rw [if_neg (by omega)]
theorem e_row {h : dr_AH} {c : Nat → Int → Int} {h' : dr_AH} {c' : Nat → Int → Int} {t : Int → Int} {l : Int} {s : Nat} (hT : LaT h) (hS : LaS h s) (hs : 4 ≤ s) (tl : tTL c t l) (hm : LaM h') (ml : mTL c' t l)
    {p : Int} (hp0 : 0 ≤ p) (hp1 : p ≤ l) (hb : mB c') (hr : SRel c s c' 369 189) :
    ∃ c2 p2 w2 c2' q2, f_T_parseEvent 2 s (wr h (tP c p (-1))) = some (.inl none, wr h (tP c2 p2 w2))
      ∧ f_M_eventRow 31 (wr h' (mP c' p (-1))) = some (.inl none, wr h' (mP c2' q2 w2))
      ∧ PR l p2 w2 q2 w2 ∧ fS s c c2 ∧ f9 c' c2' ∧ mB c2' ∧ (w2 < 0 → SRel c2 s c2' 369 189 ∧ KK c2 s = KK c s + 1) := by
  have hl := tl.2.2.2.1
  have a1 := pr_num (t := t) (a := 1) (b := 40) hl (by omega) (show PR l p (-1) p (-1) from ⟨rfl, fun _ => rfl, by omega, by omega, hp0, hp1, hp0, hp1⟩)
  have x1 := t_number (a := 1) (b := 40) (w := -1) hT tl hp0 hp1 (by omega) (by omega) (by omega) (by omega) (by omega)
  have y1 := m_number (a := 1) (b := 40) (w := -1) hm ml hp0 hp1 (by omega) (by omega) (by omega) (by omega) (by omega)
  have g1 := fun hh => cnu_p (t := t) (a := 1) (b := 40) (w := -1) hp0 hp1 hh
  generalize cnu t l 1 40 p (-1) = C1 at a1 x1 g1
  generalize mnu t l 1 40 p (-1) = M1 at a1 y1
  obtain ⟨n, p1, w1⟩ := C1
  obtain ⟨n', q1, v1⟩ := M1
  dsimp only at a1 x1 y1 g1
  obtain ⟨a1, b1, d1, d2, d3⟩ := a1
  have d3 := d3 (by omega)
  obtain ⟨z1, z2, z3, z4, z5, z6, z7, z8⟩ := id a1
  subst z1
  have hf : ∀ m : Int, 1 ≤ m → m ≤ 40 → 0 ≤ tP c p1 w1 (s + 1) m ∧ tP c p1 w1 (s + 1) m < 2 := fun m m1 m2 => by
    rw [tP_a _ _ _ _ (by omega)]; have := hr.1 m m1 m2; unfold sE at this; omega
  have hE := s_hasEvent (c := tP c p1 w1) (n := n) hS (by omega) (by omega) (hf n)
  rw [tP_a _ _ _ _ (show s + 1 ≠ 2 by omega)] at hE
  have hs2 : 2 ∉ [s + 1, s + 2, s + 3, s + 4, s + 5, s + 6, s + 7] := by simp; omega
  have hb33 := (hb (369 + n')).1
  have fin : ∀ (w : Int), PR l p1 w q1 w → (w < 0 → w1 < 0 ∧ c (s + 1) n = 0) → ∀ (X Y : Option (dr_RS × dr_AH)), X = f_T_parseEvent_26 2 s (i2 n) (wr h (tP c p1 w)) → Y = f_M_eventRow_40 31 (i2 (369 + n')) (wr h' (mP c' q1 w)) →
      ∃ c2 p2 w2 c2' q2, X = some (.inl none, wr h (tP c2 p2 w2)) ∧ Y = some (.inl none, wr h' (mP c2' q2 w2)) ∧ PR l p2 w2 q2 w2 ∧ fS s c c2 ∧ f9 c' c2' ∧ mB c2' ∧ (w2 < 0 → SRel c2 s c2' 369 189 ∧ KK c2 s = KK c s + 1) := by
    intro w hp hw X Y hX hY
    obtain ⟨c2, p2, w2, c2', q2, k1, k2, k3, k4, k5, k6, k7, k8, k9⟩ := e_mid (n := n) (k := 369 + n') hT hS (by omega) hs2 tl hm ml (by omega) (by omega) hp (fun hh => by have := hw hh; have := b1 this.1; omega)
    refine ⟨c2, p2, w2, c2', q2, by rw [hX, k1], by rw [hY, k2], k3, ?_, ?_, ?_, ?_⟩
    · by_cases e : w2 < 0
      · obtain ⟨_, A, B, L, P, S, F, e1, _⟩ := k9 e
        rw [e1]; exact fS_ev c s n A B L P S F
      · rw [k5 (by omega)]; exact fun _ _ _ => rfl
    · intro a j hh; exact k6 a j (by omega)
    · intro j
      refine ⟨k7 j (hb j).1, k8 j (hb j).2.1, ?_⟩
      rw [k6 40 j (by omega)]; exact (hb j).2.2
    · intro e
      obtain ⟨e0, A, B, L, P, S, F, e1, e2, e3, e4, e5, e6, e7, e8, r1, r2, r3, r4, r5, r6⟩ := k9 e
      have e9 := hw e0
      have e10 := b1 e9.1
      rw [e1]
      refine ⟨sr_ev hr (by omega) (by omega) (by omega) e9.2 e2 e3 e4 e5 e6 e7 e8 k6 r1 r2 r3 r4 r5 r6, ?_⟩
      unfold KK
      have q1 : deE (adE c s n A B L) s n P S F s 7 = c s 7 + 1 := by simp [deE, adE, up]
      have q2 : ∀ j, deE (adE c s n A B L) s n P S F (s + 11) j = c (s + 11) j := by
        intro j
        unfold deE adE up
        repeat' rw [if_neg (by omega)]
      rw [q1, sm_c (f := fun n_1 => bz (0 < deE (adE c s n A B L) s n P S F (s + 11) n_1)) (g := fun n => bz (0 < c (s + 11) n)) 20 (fun i _ _ => by rw [q2])]
      omega
  by_cases hw : w1 < 0
  · have b1' := b1 hw
    have eq1 := z2 hw
    subst eq1
    have en : n = n' := b1'.2.1
    subst en
    have hsE := hr.1 n (by omega) (by omega)
    unfold sE at hsE
    have p1' := g1 hw
    by_cases e0 : c (s + 1) n = 1
    · have eb : bz (1 ≤ n ∧ n ≤ 40 ∧ c (s + 1) n = 1) = 1 := by unfold bz; rw [if_pos ⟨by omega, by omega, e0⟩]
      have em : c' 33 (369 + n) = 1 := by rw [← hsE.1, e0]
      have ew : fl w1 (p1 - 1) = p1 - 1 := by unfold fl; rw [if_pos hw]
      have ew2 : ¬ (0 ≤ w1) := by omega
      rw [eb] at hE
      refine fin (p1 - 1) ⟨rfl, fun _ => rfl, by omega, by omega, by omega, by omega, by omega, by omega⟩ (fun hh => by omega) _ _ ?_ ?_
      · unfold f_T_parseEvent
        simp (disch := omega) only [li_0, li_1, li_2, li_3, li_4, li_5, li_6, li_7, li_8, li_9, li_10, li_11, li_12, li_13, li_14, li_15, li_16, li_17, li_18, li_19, li_20, li_21, li_31, li_32, li_33, li_40, li_41, li_43, li_48, li_57, li_59, li_60, li_61, li_62, li_64, li_97, li_99, li_100, li_101, li_102, li_112, li_119, li_126, li_189, li_255, li_300, li_369, li_400, li_999, li_5000, li_9999, li_12345, li_99999, li_1103515245, i2_add, i2_sub, i2_mul, i2_neg, i2_le, i2_lt, i2_eq, r_rz, r_ci, r_cx, r_cv, r_vx, r_cr, r_rx, dr_ci', dr_cv', dr_cr', dr_gr', dr_x0, ↓reduceIte, Int.reduceLE, Int.reduceLT, Int.reduceEq, Int.reduceNeg, Int.reduceAdd, Int.reduceSub, Int.reduceMul, vT_k hT, vT_r0 hT, vT_g1 hT, vT_p1 hT, vT_g2 hT, vT_p2 hT, vT_g3 hT, vT_p3 hT, vT_n3 hT, vT_a3 hT, vT_s3 hT, vS_k hS, vS_r0 hS, vS_r1 hS, vS_r2 hS, vS_r3 hS, vS_r4 hS, vS_r5 hS, vS_r6 hS, vS_g7 hS, vS_p7 hS, vS_r8 hS, vS_r9 hS, vS_r10 hS, vS_r11 hS, vS_g12 hS, vS_p12 hS, vS_n1 hS, vS_a1 hS, vS_s1 hS, vS_n2 hS, vS_a2 hS, vS_s2 hS, vS_n3 hS, vS_a3 hS, vS_s3 hS, vS_n4 hS, vS_a4 hS, vS_s4 hS, vS_n5 hS, vS_a5 hS, vS_s5 hS, vS_n6 hS, vS_a6 hS, vS_s6 hS, vS_n7 hS, vS_a7 hS, vS_s7 hS, vS_n8 hS, vS_a8 hS, vS_s8 hS, vS_n9 hS, vS_a9 hS, vS_s9 hS, vS_n10 hS, vS_a10 hS, vS_s10 hS, vS_n11 hS, vS_a11 hS, vS_s11 hS, x1, hE, tP_2, t_fail hT, ew]
      · unfold f_M_eventRow
        simp (disch := omega) only [li_0, li_1, li_2, li_3, li_4, li_5, li_6, li_7, li_8, li_9, li_10, li_11, li_12, li_13, li_14, li_15, li_16, li_17, li_18, li_19, li_20, li_21, li_31, li_32, li_33, li_40, li_41, li_43, li_48, li_57, li_59, li_60, li_61, li_62, li_64, li_97, li_99, li_100, li_101, li_102, li_112, li_119, li_126, li_189, li_255, li_300, li_369, li_400, li_999, li_5000, li_9999, li_12345, li_99999, li_1103515245, i2_add, i2_sub, i2_mul, i2_neg, i2_le, i2_lt, i2_eq, r_rz, r_ci, r_cx, r_cv, r_vx, r_cr, r_rx, dr_ci', dr_cv', dr_cr', dr_gr', dr_x0, ↓reduceIte, Int.reduceLE, Int.reduceLT, Int.reduceEq, Int.reduceNeg, Int.reduceAdd, Int.reduceSub, Int.reduceMul, vM_k hm, vM_g0 hm, vM_p0 hm, vM_g1 hm, vM_p1 hm, vM_g2 hm, vM_p2 hm, vM_r3 hm, vM_g4 hm, vM_p4 hm, vM_g5 hm, vM_p5 hm, vM_g6 hm, vM_p6 hm, vM_r7 hm, vM_r8 hm, vM_r9 hm, vM_r10 hm, vM_r11 hm, vM_r12 hm, vM_r13 hm, vM_r14 hm, vM_r15 hm, vM_r16 hm, vM_r17 hm, vM_r18 hm, vM_g19 hm, vM_p19 hm, vM_r20 hm, vM_r21 hm, vM_r22 hm, vM_r23 hm, vM_r24 hm, vM_r25 hm, vM_r26 hm, vM_g27 hm, vM_p27 hm, vM_r28 hm, vM_r29 hm, vM_r30 hm, vM_r31 hm, vM_n32 hm, vM_a32 hm, vM_s32 hm, vM_n33 hm, vM_a33 hm, vM_s33 hm, vM_n34 hm, vM_a34 hm, vM_s34 hm, vM_n35 hm, vM_a35 hm, vM_s35 hm, vM_n36 hm, vM_a36 hm, vM_s36 hm, vM_n37 hm, vM_a37 hm, vM_s37 hm, vM_n38 hm, vM_a38 hm, vM_s38 hm, vM_n39 hm, vM_a39 hm, vM_s39 hm, vM_n40 hm, vM_a40 hm, vM_s40 hm, vM_n41 hm, vM_a41 hm, vM_s41 hm, vM_n42 hm, vM_a42 hm, vM_s42 hm, vM_n43 hm, vM_a43 hm, vM_s43 hm, vM_n44 hm, vM_a44 hm, vM_s44 hm, vM_n45 hm, vM_a45 hm, vM_s45 hm, vM_n46 hm, vM_a46 hm, vM_s46 hm, vM_n47 hm, vM_a47 hm, vM_s47 hm, vM_n48 hm, vM_a48 hm, vM_s48 hm, vM_n49 hm, vM_a49 hm, vM_s49 hm, vM_n50 hm, vM_a50 hm, vM_s50 hm, vM_n51 hm, vM_a51 hm, vM_s51 hm, vM_n52 hm, vM_a52 hm, vM_s52 hm, vM_n53 hm, vM_a53 hm, vM_s53 hm, vM_n54 hm, vM_a54 hm, vM_s54 hm, vM_n55 hm, vM_a55 hm, vM_s55 hm, y1, mP_6, mP_5, ew2, mP_a, em, m_fail hm, ew]
    · have e0' : c (s + 1) n = 0 := by omega
      have eb : bz (1 ≤ n ∧ n ≤ 40 ∧ c (s + 1) n = 1) = 0 := by unfold bz; rw [if_neg (by omega)]
      have em : c' 33 (369 + n) = 0 := by rw [← hsE.1, e0']
      have ew2 : ¬ (0 ≤ w1) := by omega
      rw [eb] at hE
      refine fin w1 a1 (fun hh => ⟨hw, e0'⟩) _ _ ?_ ?_
      · unfold f_T_parseEvent
        simp (disch := omega) only [li_0, li_1, li_2, li_3, li_4, li_5, li_6, li_7, li_8, li_9, li_10, li_11, li_12, li_13, li_14, li_15, li_16, li_17, li_18, li_19, li_20, li_21, li_31, li_32, li_33, li_40, li_41, li_43, li_48, li_57, li_59, li_60, li_61, li_62, li_64, li_97, li_99, li_100, li_101, li_102, li_112, li_119, li_126, li_189, li_255, li_300, li_369, li_400, li_999, li_5000, li_9999, li_12345, li_99999, li_1103515245, i2_add, i2_sub, i2_mul, i2_neg, i2_le, i2_lt, i2_eq, r_rz, r_ci, r_cx, r_cv, r_vx, r_cr, r_rx, dr_ci', dr_cv', dr_cr', dr_gr', dr_x0, ↓reduceIte, Int.reduceLE, Int.reduceLT, Int.reduceEq, Int.reduceNeg, Int.reduceAdd, Int.reduceSub, Int.reduceMul, vT_k hT, vT_r0 hT, vT_g1 hT, vT_p1 hT, vT_g2 hT, vT_p2 hT, vT_g3 hT, vT_p3 hT, vT_n3 hT, vT_a3 hT, vT_s3 hT, vS_k hS, vS_r0 hS, vS_r1 hS, vS_r2 hS, vS_r3 hS, vS_r4 hS, vS_r5 hS, vS_r6 hS, vS_g7 hS, vS_p7 hS, vS_r8 hS, vS_r9 hS, vS_r10 hS, vS_r11 hS, vS_g12 hS, vS_p12 hS, vS_n1 hS, vS_a1 hS, vS_s1 hS, vS_n2 hS, vS_a2 hS, vS_s2 hS, vS_n3 hS, vS_a3 hS, vS_s3 hS, vS_n4 hS, vS_a4 hS, vS_s4 hS, vS_n5 hS, vS_a5 hS, vS_s5 hS, vS_n6 hS, vS_a6 hS, vS_s6 hS, vS_n7 hS, vS_a7 hS, vS_s7 hS, vS_n8 hS, vS_a8 hS, vS_s8 hS, vS_n9 hS, vS_a9 hS, vS_s9 hS, vS_n10 hS, vS_a10 hS, vS_s10 hS, vS_n11 hS, vS_a11 hS, vS_s11 hS, x1, hE]
      · unfold f_M_eventRow
        simp (disch := omega) only [li_0, li_1, li_2, li_3, li_4, li_5, li_6, li_7, li_8, li_9, li_10, li_11, li_12, li_13, li_14, li_15, li_16, li_17, li_18, li_19, li_20, li_21, li_31, li_32, li_33, li_40, li_41, li_43, li_48, li_57, li_59, li_60, li_61, li_62, li_64, li_97, li_99, li_100, li_101, li_102, li_112, li_119, li_126, li_189, li_255, li_300, li_369, li_400, li_999, li_5000, li_9999, li_12345, li_99999, li_1103515245, i2_add, i2_sub, i2_mul, i2_neg, i2_le, i2_lt, i2_eq, r_rz, r_ci, r_cx, r_cv, r_vx, r_cr, r_rx, dr_ci', dr_cv', dr_cr', dr_gr', dr_x0, ↓reduceIte, Int.reduceLE, Int.reduceLT, Int.reduceEq, Int.reduceNeg, Int.reduceAdd, Int.reduceSub, Int.reduceMul, vM_k hm, vM_g0 hm, vM_p0 hm, vM_g1 hm, vM_p1 hm, vM_g2 hm, vM_p2 hm, vM_r3 hm, vM_g4 hm, vM_p4 hm, vM_g5 hm, vM_p5 hm, vM_g6 hm, vM_p6 hm, vM_r7 hm, vM_r8 hm, vM_r9 hm, vM_r10 hm, vM_r11 hm, vM_r12 hm, vM_r13 hm, vM_r14 hm, vM_r15 hm, vM_r16 hm, vM_r17 hm, vM_r18 hm, vM_g19 hm, vM_p19 hm, vM_r20 hm, vM_r21 hm, vM_r22 hm, vM_r23 hm, vM_r24 hm, vM_r25 hm, vM_r26 hm, vM_g27 hm, vM_p27 hm, vM_r28 hm, vM_r29 hm, vM_r30 hm, vM_r31 hm, vM_n32 hm, vM_a32 hm, vM_s32 hm, vM_n33 hm, vM_a33 hm, vM_s33 hm, vM_n34 hm, vM_a34 hm, vM_s34 hm, vM_n35 hm, vM_a35 hm, vM_s35 hm, vM_n36 hm, vM_a36 hm, vM_s36 hm, vM_n37 hm, vM_a37 hm, vM_s37 hm, vM_n38 hm, vM_a38 hm, vM_s38 hm, vM_n39 hm, vM_a39 hm, vM_s39 hm, vM_n40 hm, vM_a40 hm, vM_s40 hm, vM_n41 hm, vM_a41 hm, vM_s41 hm, vM_n42 hm, vM_a42 hm, vM_s42 hm, vM_n43 hm, vM_a43 hm, vM_s43 hm, vM_n44 hm, vM_a44 hm, vM_s44 hm, vM_n45 hm, vM_a45 hm, vM_s45 hm, vM_n46 hm, vM_a46 hm, vM_s46 hm, vM_n47 hm, vM_a47 hm, vM_s47 hm, vM_n48 hm, vM_a48 hm, vM_s48 hm, vM_n49 hm, vM_a49 hm, vM_s49 hm, vM_n50 hm, vM_a50 hm, vM_s50 hm, vM_n51 hm, vM_a51 hm, vM_s51 hm, vM_n52 hm, vM_a52 hm, vM_s52 hm, vM_n53 hm, vM_a53 hm, vM_s53 hm, vM_n54 hm, vM_a54 hm, vM_s54 hm, vM_n55 hm, vM_a55 hm, vM_s55 hm, y1, mP_6, mP_5, ew2, mP_a, em]
  · have ew : fl w1 (p1 - 1) = w1 := by unfold fl; rw [if_neg hw]
    have ew2 : 0 ≤ w1 := by omega
    refine fin w1 a1 (fun hh => by omega) _ _ ?_ ?_
    · unfold f_T_parseEvent
      by_cases eb : bz (1 ≤ n ∧ n ≤ 40 ∧ c (s + 1) n = 1) = 0
      · simp (disch := omega) only [li_0, li_1, li_2, li_3, li_4, li_5, li_6, li_7, li_8, li_9, li_10, li_11, li_12, li_13, li_14, li_15, li_16, li_17, li_18, li_19, li_20, li_21, li_31, li_32, li_33, li_40, li_41, li_43, li_48, li_57, li_59, li_60, li_61, li_62, li_64, li_97, li_99, li_100, li_101, li_102, li_112, li_119, li_126, li_189, li_255, li_300, li_369, li_400, li_999, li_5000, li_9999, li_12345, li_99999, li_1103515245, i2_add, i2_sub, i2_mul, i2_neg, i2_le, i2_lt, i2_eq, r_rz, r_ci, r_cx, r_cv, r_vx, r_cr, r_rx, dr_ci', dr_cv', dr_cr', dr_gr', dr_x0, ↓reduceIte, Int.reduceLE, Int.reduceLT, Int.reduceEq, Int.reduceNeg, Int.reduceAdd, Int.reduceSub, Int.reduceMul, vT_k hT, vT_r0 hT, vT_g1 hT, vT_p1 hT, vT_g2 hT, vT_p2 hT, vT_g3 hT, vT_p3 hT, vT_n3 hT, vT_a3 hT, vT_s3 hT, vS_k hS, vS_r0 hS, vS_r1 hS, vS_r2 hS, vS_r3 hS, vS_r4 hS, vS_r5 hS, vS_r6 hS, vS_g7 hS, vS_p7 hS, vS_r8 hS, vS_r9 hS, vS_r10 hS, vS_r11 hS, vS_g12 hS, vS_p12 hS, vS_n1 hS, vS_a1 hS, vS_s1 hS, vS_n2 hS, vS_a2 hS, vS_s2 hS, vS_n3 hS, vS_a3 hS, vS_s3 hS, vS_n4 hS, vS_a4 hS, vS_s4 hS, vS_n5 hS, vS_a5 hS, vS_s5 hS, vS_n6 hS, vS_a6 hS, vS_s6 hS, vS_n7 hS, vS_a7 hS, vS_s7 hS, vS_n8 hS, vS_a8 hS, vS_s8 hS, vS_n9 hS, vS_a9 hS, vS_s9 hS, vS_n10 hS, vS_a10 hS, vS_s10 hS, vS_n11 hS, vS_a11 hS, vS_s11 hS, x1, hE, eb]
      · have := bz_01 (1 ≤ n ∧ n ≤ 40 ∧ c (s + 1) n = 1)
        simp (disch := omega) only [li_0, li_1, li_2, li_3, li_4, li_5, li_6, li_7, li_8, li_9, li_10, li_11, li_12, li_13, li_14, li_15, li_16, li_17, li_18, li_19, li_20, li_21, li_31, li_32, li_33, li_40, li_41, li_43, li_48, li_57, li_59, li_60, li_61, li_62, li_64, li_97, li_99, li_100, li_101, li_102, li_112, li_119, li_126, li_189, li_255, li_300, li_369, li_400, li_999, li_5000, li_9999, li_12345, li_99999, li_1103515245, i2_add, i2_sub, i2_mul, i2_neg, i2_le, i2_lt, i2_eq, r_rz, r_ci, r_cx, r_cv, r_vx, r_cr, r_rx, dr_ci', dr_cv', dr_cr', dr_gr', dr_x0, ↓reduceIte, Int.reduceLE, Int.reduceLT, Int.reduceEq, Int.reduceNeg, Int.reduceAdd, Int.reduceSub, Int.reduceMul, vT_k hT, vT_r0 hT, vT_g1 hT, vT_p1 hT, vT_g2 hT, vT_p2 hT, vT_g3 hT, vT_p3 hT, vT_n3 hT, vT_a3 hT, vT_s3 hT, vS_k hS, vS_r0 hS, vS_r1 hS, vS_r2 hS, vS_r3 hS, vS_r4 hS, vS_r5 hS, vS_r6 hS, vS_g7 hS, vS_p7 hS, vS_r8 hS, vS_r9 hS, vS_r10 hS, vS_r11 hS, vS_g12 hS, vS_p12 hS, vS_n1 hS, vS_a1 hS, vS_s1 hS, vS_n2 hS, vS_a2 hS, vS_s2 hS, vS_n3 hS, vS_a3 hS, vS_s3 hS, vS_n4 hS, vS_a4 hS, vS_s4 hS, vS_n5 hS, vS_a5 hS, vS_s5 hS, vS_n6 hS, vS_a6 hS, vS_s6 hS, vS_n7 hS, vS_a7 hS, vS_s7 hS, vS_n8 hS, vS_a8 hS, vS_s8 hS, vS_n9 hS, vS_a9 hS, vS_s9 hS, vS_n10 hS, vS_a10 hS, vS_s10 hS, vS_n11 hS, vS_a11 hS, vS_s11 hS, x1, hE, eb, tP_2, t_fail hT, ew]
    · unfold f_M_eventRow
      simp (disch := omega) only [li_0, li_1, li_2, li_3, li_4, li_5, li_6, li_7, li_8, li_9, li_10, li_11, li_12, li_13, li_14, li_15, li_16, li_17, li_18, li_19, li_20, li_21, li_31, li_32, li_33, li_40, li_41, li_43, li_48, li_57, li_59, li_60, li_61, li_62, li_64, li_97, li_99, li_100, li_101, li_102, li_112, li_119, li_126, li_189, li_255, li_300, li_369, li_400, li_999, li_5000, li_9999, li_12345, li_99999, li_1103515245, i2_add, i2_sub, i2_mul, i2_neg, i2_le, i2_lt, i2_eq, r_rz, r_ci, r_cx, r_cv, r_vx, r_cr, r_rx, dr_ci', dr_cv', dr_cr', dr_gr', dr_x0, ↓reduceIte, Int.reduceLE, Int.reduceLT, Int.reduceEq, Int.reduceNeg, Int.reduceAdd, Int.reduceSub, Int.reduceMul, vM_k hm, vM_g0 hm, vM_p0 hm, vM_g1 hm, vM_p1 hm, vM_g2 hm, vM_p2 hm, vM_r3 hm, vM_g4 hm, vM_p4 hm, vM_g5 hm, vM_p5 hm, vM_g6 hm, vM_p6 hm, vM_r7 hm, vM_r8 hm, vM_r9 hm, vM_r10 hm, vM_r11 hm, vM_r12 hm, vM_r13 hm, vM_r14 hm, vM_r15 hm, vM_r16 hm, vM_r17 hm, vM_r18 hm, vM_g19 hm, vM_p19 hm, vM_r20 hm, vM_r21 hm, vM_r22 hm, vM_r23 hm, vM_r24 hm, vM_r25 hm, vM_r26 hm, vM_g27 hm, vM_p27 hm, vM_r28 hm, vM_r29 hm, vM_r30 hm, vM_r31 hm, vM_n32 hm, vM_a32 hm, vM_s32 hm, vM_n33 hm, vM_a33 hm, vM_s33 hm, vM_n34 hm, vM_a34 hm, vM_s34 hm, vM_n35 hm, vM_a35 hm, vM_s35 hm, vM_n36 hm, vM_a36 hm, vM_s36 hm, vM_n37 hm, vM_a37 hm, vM_s37 hm, vM_n38 hm, vM_a38 hm, vM_s38 hm, vM_n39 hm, vM_a39 hm, vM_s39 hm, vM_n40 hm, vM_a40 hm, vM_s40 hm, vM_n41 hm, vM_a41 hm, vM_s41 hm, vM_n42 hm, vM_a42 hm, vM_s42 hm, vM_n43 hm, vM_a43 hm, vM_s43 hm, vM_n44 hm, vM_a44 hm, vM_s44 hm, vM_n45 hm, vM_a45 hm, vM_s45 hm, vM_n46 hm, vM_a46 hm, vM_s46 hm, vM_n47 hm, vM_a47 hm, vM_s47 hm, vM_n48 hm, vM_a48 hm, vM_s48 hm, vM_n49 hm, vM_a49 hm, vM_s49 hm, vM_n50 hm, vM_a50 hm, vM_s50 hm, vM_n51 hm, vM_a51 hm, vM_s51 hm, vM_n52 hm, vM_a52 hm, vM_s52 hm, vM_n53 hm, vM_a53 hm, vM_s53 hm, vM_n54 hm, vM_a54 hm, vM_s54 hm, vM_n55 hm, vM_a55 hm, vM_s55 hm, y1, mP_6, mP_5, ew2]
