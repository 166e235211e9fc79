/-! ===== the reference's ticks ===== -/
def ts (f : Nat → Int) : Nat → Int
  | 0 => 0
  | n + 1 => ts f n + f n
theorem ts_c {f g : Nat → Int} : ∀ n : Nat, (∀ i, i < n → f i = g i) → ts f n = ts g n := by
  intro n
  induction n with
  | zero => intro _; rfl
  | succ n ih =>
    intro h
    unfold ts
    rw [ih (fun i hi => h i (by omega)), h n (by omega)]
theorem ts_1 {f g : Nat → Int} {k : Nat} : ∀ n : Nat, k < n → (∀ i, i < n → i ≠ k → f i = g i) → ts f n = ts g n + (f k - g k) := by
  intro n
  induction n with
  | zero => intro h _; omega
  | succ n ih =>
    intro h1 h2
    unfold ts
    by_cases e : k = n
    · rw [ts_c n (fun i hi => h2 i (by omega) (by omega)), e]; omega
    · rw [ih (by omega) (fun i hi hn => h2 i (by omega) hn), h2 n (by omega) (by omega)]; omega
theorem ts_0 {f : Nat → Int} : ∀ n : Nat, (∀ i, i < n → f i = 0) → ts f n = 0 := by
  intro n
  induction n with
  | zero => intro _; rfl
  | succ n ih => intro h; unfold ts; rw [ih (fun i hi => h i (by omega)), h n (by omega)]; rfl
def tV (c : Nat → Int → Int) (d n t : Int) : Int := if c 46 d = 0 ∧ c 33 (d * 41 + n) = 1 ∧ c 47 (d * 41 + n) < 0 ∧ mdu c d n ≤ t then mdu c d n else c 47 (d * 41 + n)
/-- where the ticks have come to: the drills below x have looked at the second k + 1, the others at k -/
def TI (b e : Nat → Int → Int) (nd : Nat) (tm : Nat → Int) (now : Int) : Prop := e 31 1 = now ∧ (∀ q w, q ≠ 47 → ¬ (q = 31 ∧ w = 1) → e q w = b q w) ∧ (∀ d : Nat, d < nd → ∀ n, 1 ≤ n → n ≤ 40 → e 47 (d * 41 + n) = tV b d n (tm d - b 45 d))
def TB (b : Nat → Int → Int) (nd : Nat) : Prop := nd ≤ 8 ∧ b 31 19 = nd ∧ 0 ≤ b 31 1 ∧ (∀ d : Nat, d < nd → MH b d ∧ (0 ≤ b 46 d ∧ b 46 d < 2) ∧ (b 46 d = 0 → ∀ n, 1 ≤ n → n ≤ 40 → b 33 (d * 41 + n) = 1 → b 47 (d * 41 + n) < 0 → b 31 1 - b 45 d < mdu b d n))
section MT
variable {b e : Nat → Int → Int} {nd : Nat} {tm : Nat → Int} {now : Int}
theorem TI_du (H : TI b e nd tm now) (d n : Int) : mdu e d n = mdu b d n := by
  obtain ⟨h1, h2, h3⟩ := H
  exact mdu_c (fun a => mft_c (h2 48 _ (by omega) (by omega)) (fun k _ _ => ⟨h2 49 _ (by omega) (by omega), h2 50 _ (by omega) (by omega)⟩) a 0) (h2 34 _ (by omega) (by omega)) (h2 35 _ (by omega) (by omega)) (h2 36 _ (by omega) (by omega))
theorem tV_r {d : Int} (H : MH b d) {n : Int} (n1 : 1 ≤ n) (n2 : n ≤ 40) (t : Int) : -1 ≤ tV b d n t ∧ tV b d n t ≤ 99999 := by
  have h := (H.2.2.1 n n1 n2).2.1
  unfold tV
  split
  · rename_i g
    have := mdu_r H n1 n2 g.2.1
    omega
  · exact h
theorem TI_MH (B : TB b nd) (H : TI b e nd tm now) {d : Nat} (hd : d < nd) (h1 : b 31 1 ≤ now) (h2 : now ≤ 99999) : MH e d := by
  obtain ⟨g1, g2, g3⟩ := H
  have M := (B.2.2.2 d hd).1
  have hr := fun n n1 n2 => tV_r (n := n) M n1 n2 (tm d - b 45 d)
  obtain ⟨m1, m2, m3, m4, m5⟩ := M
  have e33 : e 33 = b 33 := funext fun j => g2 33 j (by omega) (by omega)
  have e34 : e 34 = b 34 := funext fun j => g2 34 j (by omega) (by omega)
  have e35 : e 35 = b 35 := funext fun j => g2 35 j (by omega) (by omega)
  have e36 : e 36 = b 36 := funext fun j => g2 36 j (by omega) (by omega)
  have e45 : e 45 = b 45 := funext fun j => g2 45 j (by omega) (by omega)
  have e48 : e 48 = b 48 := funext fun j => g2 48 j (by omega) (by omega)
  have e49 : e 49 = b 49 := funext fun j => g2 49 j (by omega) (by omega)
  have e50 : e 50 = b 50 := funext fun j => g2 50 j (by omega) (by omega)
  unfold MH
  rw [e33, e34, e35, e36, e45, e48, e49, e50, g1]
  refine ⟨m1, by omega, fun n n1 n2 => ⟨(m3 n n1 n2).1, ?_, (m3 n n1 n2).2.2⟩, m4, m5⟩
  rw [g3 d hd n n1 n2]
  exact hr n n1 n2
theorem TI_look (B : TB b nd) (H : TI b e nd tm now) {x : Nat} (hx : x < nd) (on : b 46 x = 0) (ht : tm x + 1 = now) :
    TI b (lkc e x 40) nd (fun d => if d = x then now else tm d) now := by
  have hdu := TI_du H
  obtain ⟨g1, g2, g3⟩ := H
  have M := (B.2.2.2 x hx).1
  refine ⟨by rw [lkc_n' _ (by omega)]; exact g1, fun q w hq hw => by rw [lkc_n' _ (by omega)]; exact g2 q w hq hw, fun d hd n n1 n2 => ?_⟩
  dsimp only
  by_cases ed : d = x
  · subst ed
    rw [if_pos rfl, lkc_y _ n1 n2]
    have h47 := g3 d hd n n1 n2
    have h33 := g2 33 (d * 41 + n) (by omega) (by omega)
    have h45 := g2 45 d (by omega) (by omega)
    have hr := fun g => mdu_r M n1 n2 g
    have hm : mev e d n ↔ (b 33 (d * 41 + n) = 1 ∧ tV b d n (tm d - b 45 d) < 0 ∧ mdu b d n ≤ now - b 45 d) := by
      unfold mev
      rw [h33, h47, hdu, g1, h45]
    by_cases e1 : b 33 (d * 41 + n) = 1 ∧ b 47 (d * 41 + n) < 0
    · have hr' := hr e1.1
      by_cases e2 : mdu b d n ≤ tm d - b 45 d
      · have v1 : tV b d n (tm d - b 45 d) = mdu b d n := if_pos ⟨on, e1.1, e1.2, e2⟩
        have v2 : tV b d n (now - b 45 d) = mdu b d n := if_pos ⟨on, e1.1, e1.2, by omega⟩
        rw [if_neg (fun hh => by have := (hm.mp hh).2.1; omega), h47, v1, v2]
      · have v1 : tV b d n (tm d - b 45 d) = b 47 (d * 41 + n) := if_neg (fun hh => e2 hh.2.2.2)
        by_cases e3 : mdu b d n ≤ now - b 45 d
        · have v2 : tV b d n (now - b 45 d) = mdu b d n := if_pos ⟨on, e1.1, e1.2, e3⟩
          rw [if_pos (hm.mpr ⟨e1.1, by omega, e3⟩), v2, g1, h45]
          omega
        · have v2 : tV b d n (now - b 45 d) = b 47 (d * 41 + n) := if_neg (fun hh => e3 hh.2.2.2)
          rw [if_neg (fun hh => e3 (hm.mp hh).2.2), h47, v1, v2]
    · have v1 : tV b d n (tm d - b 45 d) = b 47 (d * 41 + n) := if_neg (fun hh => e1 ⟨hh.2.1, hh.2.2.1⟩)
      have v2 : tV b d n (now - b 45 d) = b 47 (d * 41 + n) := if_neg (fun hh => e1 ⟨hh.2.1, hh.2.2.1⟩)
      rw [if_neg (fun hh => by
        have h1 := hm.mp hh
        exact e1 ⟨h1.1, by have := h1.2.1; omega⟩), h47, v1, v2]
  · rw [if_neg ed, lkc_n' _ (by omega)]
    exact g3 d hd n n1 n2
theorem TI_off {x : Nat} (H : TI b e nd tm now) (off : b 46 x ≠ 0) (t : Int) : TI b e nd (fun d => if d = x then t else tm d) now := by
  obtain ⟨g1, g2, g3⟩ := H
  refine ⟨g1, g2, fun d hd n n1 n2 => ?_⟩
  dsimp only
  by_cases ed : d = x
  · subst ed
    rw [g3 d hd n n1 n2, if_pos rfl]
    unfold tV
    rw [if_neg (fun hh => off hh.1), if_neg (fun hh => off hh.1)]
  · rw [if_neg ed]; exact g3 d hd n n1 n2
end MT
theorem m_ti60 {h : dr_AH} (hm : LaM h) {b : Nat → Int → Int} {nd : Nat} (B : TB b nd) {now N k : Int} (hn1 : b 31 1 ≤ now) (hn2 : now ≤ 99999) (N1 : 0 ≤ N) (N2 : N ≤ 5000) (k1 : 0 ≤ k) (k2 : k < N) (rc : Nat → Int32 → Int32 → Int32 → dr_AH → Option (dr_RS × dr_AH)) :
    ∀ (f m x : Nat) (e : Nat → Int → Int) (X y : Int), X = x → x ≤ nd → nd - x ≤ f → f < m → TI b e nd (fun d => if d < x then now else now - 1) now → y = ts (fun d => mbc e d - mbc b d) nd →
    ∃ (e' : Nat → Int → Int), f_M_tick_60 rc m 31 (i2 N) (i2 y) (i2 k) (i2 X) (wr h e) = rc 31 (i2 N) (i2 (ts (fun d => mbc e' d - mbc b d) nd)) (i2 (k + 1)) (wr h e') ∧ TI b e' nd (fun _ => now) now := by
  have b1 := B.1
  have b2 := B.2.1
  have tend : ∀ x : Nat, x = nd → ∀ e, TI b e nd (fun d => if d < x then now else now - 1) now → TI b e nd (fun _ => now) now := by
    intro x hx e H
    refine ⟨H.1, H.2.1, fun d hd n n1 n2 => ?_⟩
    have := H.2.2 d hd n n1 n2
    dsimp only at this
    rw [if_pos (by omega)] at this
    exact this
  have tnx : ∀ (x : Nat) e, TI b e nd (fun d => if d = x then now else if d < x then now else now - 1) now → TI b e nd (fun d => if d < x + 1 then now else now - 1) now := by
    intro x e H
    refine ⟨H.1, H.2.1, fun d hd n n1 n2 => ?_⟩
    have := H.2.2 d hd n n1 n2
    dsimp only at this ⊢
    rw [this]
    by_cases h1 : d = x
    · rw [if_pos h1, if_pos (by omega)]
    · rw [if_neg h1]
      by_cases h2 : d < x
      · rw [if_pos h2, if_pos (by omega)]
      · rw [if_neg h2, if_neg (by omega)]
  intro f
  induction f with
  | zero =>
    intro m x e X y hX h1 h2 h3 H hy
    obtain ⟨m, rfl⟩ : ∃ k, m = k + 1 := ⟨m - 1, by omega⟩
    have q19 := H.2.1 31 19 (by omega) (by omega)
    refine ⟨e, ?_, tend x (by omega) e H⟩
    rw [f_M_tick_60]
    simp (disch := omega) only [li_0, li_1, li_2, li_3, li_4, li_5, li_6, li_7, li_8, li_9, li_10, li_11, li_12, li_13, li_14, li_15, li_16, li_17, li_18, li_19, li_20, li_21, li_31, li_32, li_33, li_40, li_41, li_43, li_48, li_57, li_59, li_60, li_61, li_62, li_64, li_97, li_99, li_100, li_101, li_102, li_112, li_119, li_126, li_189, li_255, li_300, li_369, li_400, li_999, li_5000, li_9999, li_12345, li_99999, li_1103515245, i2_add, i2_sub, i2_mul, i2_neg, i2_le, i2_lt, i2_eq, r_rz, r_ci, r_cx, r_cv, r_vx, r_cr, r_rx, dr_ci', dr_cv', dr_cr', dr_gr', dr_x0, ↓reduceIte, Int.reduceLE, Int.reduceLT, Int.reduceEq, Int.reduceNeg, Int.reduceAdd, Int.reduceSub, Int.reduceMul, dl_t, dl_f, dle_t, dle_f, deq_t, deq_f, vM_k hm, vM_g0 hm, vM_p0 hm, vM_g1 hm, vM_p1 hm, vM_g2 hm, vM_p2 hm, vM_r3 hm, vM_g4 hm, vM_p4 hm, vM_g5 hm, vM_p5 hm, vM_g6 hm, vM_p6 hm, vM_r7 hm, vM_r8 hm, vM_r9 hm, vM_r10 hm, vM_r11 hm, vM_r12 hm, vM_r13 hm, vM_r14 hm, vM_r15 hm, vM_r16 hm, vM_r17 hm, vM_r18 hm, vM_g19 hm, vM_p19 hm, vM_r20 hm, vM_r21 hm, vM_r22 hm, vM_r23 hm, vM_r24 hm, vM_r25 hm, vM_r26 hm, vM_g27 hm, vM_p27 hm, vM_r28 hm, vM_r29 hm, vM_r30 hm, vM_r31 hm, vM_n32 hm, vM_a32 hm, vM_s32 hm, vM_n33 hm, vM_a33 hm, vM_s33 hm, vM_n34 hm, vM_a34 hm, vM_s34 hm, vM_n35 hm, vM_a35 hm, vM_s35 hm, vM_n36 hm, vM_a36 hm, vM_s36 hm, vM_n37 hm, vM_a37 hm, vM_s37 hm, vM_n38 hm, vM_a38 hm, vM_s38 hm, vM_n39 hm, vM_a39 hm, vM_s39 hm, vM_n40 hm, vM_a40 hm, vM_s40 hm, vM_n41 hm, vM_a41 hm, vM_s41 hm, vM_n42 hm, vM_a42 hm, vM_s42 hm, vM_n43 hm, vM_a43 hm, vM_s43 hm, vM_n44 hm, vM_a44 hm, vM_s44 hm, vM_n45 hm, vM_a45 hm, vM_s45 hm, vM_n46 hm, vM_a46 hm, vM_s46 hm, vM_n47 hm, vM_a47 hm, vM_s47 hm, vM_n48 hm, vM_a48 hm, vM_s48 hm, vM_n49 hm, vM_a49 hm, vM_s49 hm, vM_n50 hm, vM_a50 hm, vM_s50 hm, vM_n51 hm, vM_a51 hm, vM_s51 hm, vM_n52 hm, vM_a52 hm, vM_s52 hm, vM_n53 hm, vM_a53 hm, vM_s53 hm, vM_n54 hm, vM_a54 hm, vM_s54 hm, vM_n55 hm, vM_a55 hm, vM_s55 hm, q19, b2]
    rw [hy]
  | succ f ih =>
    intro m x e X y hX h1 h2 h3 H hy
    obtain ⟨m, rfl⟩ : ∃ k, m = k + 1 := ⟨m - 1, by omega⟩
    have q19 := H.2.1 31 19 (by omega) (by omega)
    by_cases hx : x = nd
    · refine ⟨e, ?_, tend x hx e H⟩
      rw [f_M_tick_60]
      simp (disch := omega) only [li_0, li_1, li_2, li_3, li_4, li_5, li_6, li_7, li_8, li_9, li_10, li_11, li_12, li_13, li_14, li_15, li_16, li_17, li_18, li_19, li_20, li_21, li_31, li_32, li_33, li_40, li_41, li_43, li_48, li_57, li_59, li_60, li_61, li_62, li_64, li_97, li_99, li_100, li_101, li_102, li_112, li_119, li_126, li_189, li_255, li_300, li_369, li_400, li_999, li_5000, li_9999, li_12345, li_99999, li_1103515245, i2_add, i2_sub, i2_mul, i2_neg, i2_le, i2_lt, i2_eq, r_rz, r_ci, r_cx, r_cv, r_vx, r_cr, r_rx, dr_ci', dr_cv', dr_cr', dr_gr', dr_x0, ↓reduceIte, Int.reduceLE, Int.reduceLT, Int.reduceEq, Int.reduceNeg, Int.reduceAdd, Int.reduceSub, Int.reduceMul, dl_t, dl_f, dle_t, dle_f, deq_t, deq_f, vM_k hm, vM_g0 hm, vM_p0 hm, vM_g1 hm, vM_p1 hm, vM_g2 hm, vM_p2 hm, vM_r3 hm, vM_g4 hm, vM_p4 hm, vM_g5 hm, vM_p5 hm, vM_g6 hm, vM_p6 hm, vM_r7 hm, vM_r8 hm, vM_r9 hm, vM_r10 hm, vM_r11 hm, vM_r12 hm, vM_r13 hm, vM_r14 hm, vM_r15 hm, vM_r16 hm, vM_r17 hm, vM_r18 hm, vM_g19 hm, vM_p19 hm, vM_r20 hm, vM_r21 hm, vM_r22 hm, vM_r23 hm, vM_r24 hm, vM_r25 hm, vM_r26 hm, vM_g27 hm, vM_p27 hm, vM_r28 hm, vM_r29 hm, vM_r30 hm, vM_r31 hm, vM_n32 hm, vM_a32 hm, vM_s32 hm, vM_n33 hm, vM_a33 hm, vM_s33 hm, vM_n34 hm, vM_a34 hm, vM_s34 hm, vM_n35 hm, vM_a35 hm, vM_s35 hm, vM_n36 hm, vM_a36 hm, vM_s36 hm, vM_n37 hm, vM_a37 hm, vM_s37 hm, vM_n38 hm, vM_a38 hm, vM_s38 hm, vM_n39 hm, vM_a39 hm, vM_s39 hm, vM_n40 hm, vM_a40 hm, vM_s40 hm, vM_n41 hm, vM_a41 hm, vM_s41 hm, vM_n42 hm, vM_a42 hm, vM_s42 hm, vM_n43 hm, vM_a43 hm, vM_s43 hm, vM_n44 hm, vM_a44 hm, vM_s44 hm, vM_n45 hm, vM_a45 hm, vM_s45 hm, vM_n46 hm, vM_a46 hm, vM_s46 hm, vM_n47 hm, vM_a47 hm, vM_s47 hm, vM_n48 hm, vM_a48 hm, vM_s48 hm, vM_n49 hm, vM_a49 hm, vM_s49 hm, vM_n50 hm, vM_a50 hm, vM_s50 hm, vM_n51 hm, vM_a51 hm, vM_s51 hm, vM_n52 hm, vM_a52 hm, vM_s52 hm, vM_n53 hm, vM_a53 hm, vM_s53 hm, vM_n54 hm, vM_a54 hm, vM_s54 hm, vM_n55 hm, vM_a55 hm, vM_s55 hm, q19, b2]
      rw [hy]
    · have hx' : x < nd := by omega
      have q46 := H.2.1 46 X (by omega) (by omega)
      have b46 := (B.2.2.2 x hx').2.1
      rw [← hX] at b46
      by_cases on : b 46 X = 0
      · have M := TI_MH B H hx' hn1 hn2
        have hlk := m_look hm M
        rw [← hX] at hlk
        have H' := TI_look B H hx' (by rw [← hX]; exact on) (by rw [if_neg (by omega)]; omega)
        have hmb := lkc_mbc M
        rw [← hX] at H' hmb
        have hts : ts (fun d => mbc (lkc e X 40) d - mbc b d) nd = ts (fun d => mbc e d - mbc b d) nd + sm (fun n => bz (mev e X n)) 40 := by
          rw [ts_1 (k := x) (f := fun d => mbc (lkc e X 40) d - mbc b d) (g := fun d => mbc e d - mbc b d) nd hx' (fun i hi hne => by
            rw [mbc_c (fun n n1 n2 => lkc_n' _ (by omega))])]
          rw [← hX, hmb]
          omega
        obtain ⟨e', p1, p2⟩ := ih m (x + 1) (lkc e X 40) (X + 1) (y + sm (fun n => bz (mev e X n)) 40) (by omega) (by omega) (by omega) (by omega) (tnx x _ H') (by rw [hts, hy])
        refine ⟨e', ?_, p2⟩
        rw [f_M_tick_60]
        simp (disch := omega) only [li_0, li_1, li_2, li_3, li_4, li_5, li_6, li_7, li_8, li_9, li_10, li_11, li_12, li_13, li_14, li_15, li_16, li_17, li_18, li_19, li_20, li_21, li_31, li_32, li_33, li_40, li_41, li_43, li_48, li_57, li_59, li_60, li_61, li_62, li_64, li_97, li_99, li_100, li_101, li_102, li_112, li_119, li_126, li_189, li_255, li_300, li_369, li_400, li_999, li_5000, li_9999, li_12345, li_99999, li_1103515245, i2_add, i2_sub, i2_mul, i2_neg, i2_le, i2_lt, i2_eq, r_rz, r_ci, r_cx, r_cv, r_vx, r_cr, r_rx, dr_ci', dr_cv', dr_cr', dr_gr', dr_x0, ↓reduceIte, Int.reduceLE, Int.reduceLT, Int.reduceEq, Int.reduceNeg, Int.reduceAdd, Int.reduceSub, Int.reduceMul, dl_t, dl_f, dle_t, dle_f, deq_t, deq_f, vM_k hm, vM_g0 hm, vM_p0 hm, vM_g1 hm, vM_p1 hm, vM_g2 hm, vM_p2 hm, vM_r3 hm, vM_g4 hm, vM_p4 hm, vM_g5 hm, vM_p5 hm, vM_g6 hm, vM_p6 hm, vM_r7 hm, vM_r8 hm, vM_r9 hm, vM_r10 hm, vM_r11 hm, vM_r12 hm, vM_r13 hm, vM_r14 hm, vM_r15 hm, vM_r16 hm, vM_r17 hm, vM_r18 hm, vM_g19 hm, vM_p19 hm, vM_r20 hm, vM_r21 hm, vM_r22 hm, vM_r23 hm, vM_r24 hm, vM_r25 hm, vM_r26 hm, vM_g27 hm, vM_p27 hm, vM_r28 hm, vM_r29 hm, vM_r30 hm, vM_r31 hm, vM_n32 hm, vM_a32 hm, vM_s32 hm, vM_n33 hm, vM_a33 hm, vM_s33 hm, vM_n34 hm, vM_a34 hm, vM_s34 hm, vM_n35 hm, vM_a35 hm, vM_s35 hm, vM_n36 hm, vM_a36 hm, vM_s36 hm, vM_n37 hm, vM_a37 hm, vM_s37 hm, vM_n38 hm, vM_a38 hm, vM_s38 hm, vM_n39 hm, vM_a39 hm, vM_s39 hm, vM_n40 hm, vM_a40 hm, vM_s40 hm, vM_n41 hm, vM_a41 hm, vM_s41 hm, vM_n42 hm, vM_a42 hm, vM_s42 hm, vM_n43 hm, vM_a43 hm, vM_s43 hm, vM_n44 hm, vM_a44 hm, vM_s44 hm, vM_n45 hm, vM_a45 hm, vM_s45 hm, vM_n46 hm, vM_a46 hm, vM_s46 hm, vM_n47 hm, vM_a47 hm, vM_s47 hm, vM_n48 hm, vM_a48 hm, vM_s48 hm, vM_n49 hm, vM_a49 hm, vM_s49 hm, vM_n50 hm, vM_a50 hm, vM_s50 hm, vM_n51 hm, vM_a51 hm, vM_s51 hm, vM_n52 hm, vM_a52 hm, vM_s52 hm, vM_n53 hm, vM_a53 hm, vM_s53 hm, vM_n54 hm, vM_a54 hm, vM_s54 hm, vM_n55 hm, vM_a55 hm, vM_s55 hm, q19, b2, q46, hlk, p1]
      · obtain ⟨e', p1, p2⟩ := ih m (x + 1) e (X + 1) y (by omega) (by omega) (by omega) (by omega) (tnx x _ (TI_off H (by rw [← hX]; exact on) now)) hy
        refine ⟨e', ?_, p2⟩
        rw [f_M_tick_60]
        simp (disch := omega) only [li_0, li_1, li_2, li_3, li_4, li_5, li_6, li_7, li_8, li_9, li_10, li_11, li_12, li_13, li_14, li_15, li_16, li_17, li_18, li_19, li_20, li_21, li_31, li_32, li_33, li_40, li_41, li_43, li_48, li_57, li_59, li_60, li_61, li_62, li_64, li_97, li_99, li_100, li_101, li_102, li_112, li_119, li_126, li_189, li_255, li_300, li_369, li_400, li_999, li_5000, li_9999, li_12345, li_99999, li_1103515245, i2_add, i2_sub, i2_mul, i2_neg, i2_le, i2_lt, i2_eq, r_rz, r_ci, r_cx, r_cv, r_vx, r_cr, r_rx, dr_ci', dr_cv', dr_cr', dr_gr', dr_x0, ↓reduceIte, Int.reduceLE, Int.reduceLT, Int.reduceEq, Int.reduceNeg, Int.reduceAdd, Int.reduceSub, Int.reduceMul, dl_t, dl_f, dle_t, dle_f, deq_t, deq_f, vM_k hm, vM_g0 hm, vM_p0 hm, vM_g1 hm, vM_p1 hm, vM_g2 hm, vM_p2 hm, vM_r3 hm, vM_g4 hm, vM_p4 hm, vM_g5 hm, vM_p5 hm, vM_g6 hm, vM_p6 hm, vM_r7 hm, vM_r8 hm, vM_r9 hm, vM_r10 hm, vM_r11 hm, vM_r12 hm, vM_r13 hm, vM_r14 hm, vM_r15 hm, vM_r16 hm, vM_r17 hm, vM_r18 hm, vM_g19 hm, vM_p19 hm, vM_r20 hm, vM_r21 hm, vM_r22 hm, vM_r23 hm, vM_r24 hm, vM_r25 hm, vM_r26 hm, vM_g27 hm, vM_p27 hm, vM_r28 hm, vM_r29 hm, vM_r30 hm, vM_r31 hm, vM_n32 hm, vM_a32 hm, vM_s32 hm, vM_n33 hm, vM_a33 hm, vM_s33 hm, vM_n34 hm, vM_a34 hm, vM_s34 hm, vM_n35 hm, vM_a35 hm, vM_s35 hm, vM_n36 hm, vM_a36 hm, vM_s36 hm, vM_n37 hm, vM_a37 hm, vM_s37 hm, vM_n38 hm, vM_a38 hm, vM_s38 hm, vM_n39 hm, vM_a39 hm, vM_s39 hm, vM_n40 hm, vM_a40 hm, vM_s40 hm, vM_n41 hm, vM_a41 hm, vM_s41 hm, vM_n42 hm, vM_a42 hm, vM_s42 hm, vM_n43 hm, vM_a43 hm, vM_s43 hm, vM_n44 hm, vM_a44 hm, vM_s44 hm, vM_n45 hm, vM_a45 hm, vM_s45 hm, vM_n46 hm, vM_a46 hm, vM_s46 hm, vM_n47 hm, vM_a47 hm, vM_s47 hm, vM_n48 hm, vM_a48 hm, vM_s48 hm, vM_n49 hm, vM_a49 hm, vM_s49 hm, vM_n50 hm, vM_a50 hm, vM_s50 hm, vM_n51 hm, vM_a51 hm, vM_s51 hm, vM_n52 hm, vM_a52 hm, vM_s52 hm, vM_n53 hm, vM_a53 hm, vM_s53 hm, vM_n54 hm, vM_a54 hm, vM_s54 hm, vM_n55 hm, vM_a55 hm, vM_s55 hm, q19, b2, q46, p1]
theorem m_ti42 {h : dr_AH} (hm : LaM h) {b : Nat → Int → Int} {nd : Nat} (B : TB b nd) {N : Int} (N1 : 0 ≤ N) (N2 : N ≤ 5000) (hN : b 31 1 + N ≤ 99999) :
    ∀ (f m : Nat) (k : Int) (e : Nat → Int → Int) (y : Int), 0 ≤ k → k + f = N → f < m → TI b e nd (fun _ => b 31 1 + k) (b 31 1 + k) → y = ts (fun d => mbc e d - mbc b d) nd →
    ∃ (e' : Nat → Int → Int), f_M_tick_42 m 31 (i2 N) (i2 y) (i2 k) (wr h e) = some (.inl (some (.int (i2 (ts (fun d => mbc e' d - mbc b d) nd)))), wr h e') ∧ TI b e' nd (fun _ => b 31 1 + N) (b 31 1 + N) := by
  have b1 := B.1
  intro f
  induction f with
  | zero =>
    intro m k e y k0 hk hf H hy
    obtain ⟨m, rfl⟩ : ∃ k, m = k + 1 := ⟨m - 1, by omega⟩
    have ek : k = N := by omega
    subst ek
    refine ⟨e, ?_, H⟩
    rw [f_M_tick_42]
    simp (disch := omega) only [li_0, li_1, li_2, li_3, li_4, li_5, li_6, li_7, li_8, li_9, li_10, li_11, li_12, li_13, li_14, li_15, li_16, li_17, li_18, li_19, li_20, li_21, li_31, li_32, li_33, li_40, li_41, li_43, li_48, li_57, li_59, li_60, li_61, li_62, li_64, li_97, li_99, li_100, li_101, li_102, li_112, li_119, li_126, li_189, li_255, li_300, li_369, li_400, li_999, li_5000, li_9999, li_12345, li_99999, li_1103515245, i2_add, i2_sub, i2_mul, i2_neg, i2_le, i2_lt, i2_eq, r_rz, r_ci, r_cx, r_cv, r_vx, r_cr, r_rx, dr_ci', dr_cv', dr_cr', dr_gr', dr_x0, ↓reduceIte, Int.reduceLE, Int.reduceLT, Int.reduceEq, Int.reduceNeg, Int.reduceAdd, Int.reduceSub, Int.reduceMul, dl_t, dl_f, dle_t, dle_f, deq_t, deq_f]
    rw [hy]
  | succ f ih =>
    intro m k e y k0 hk hf H hy
    obtain ⟨m, rfl⟩ : ∃ k, m = k + 1 := ⟨m - 1, by omega⟩
    have h31 := H.1
    have H1 : TI b (up e 31 1 (b 31 1 + (k + 1))) nd (fun d => if d < 0 then b 31 1 + (k + 1) else b 31 1 + (k + 1) - 1) (b 31 1 + (k + 1)) := by
      refine ⟨up_same _ _ _ _, fun q w hq hw => by rw [up_c31 _ hw]; exact H.2.1 q w hq hw, fun d hd n n1 n2 => ?_⟩
      have := H.2.2 d hd n n1 n2
      dsimp only at this ⊢
      rw [up_c31 _ (by omega), this, if_neg (by omega)]
      congr 1
      omega
    have hy1 : y = ts (fun d => mbc (up e 31 1 (b 31 1 + (k + 1))) d - mbc b d) nd := by
      rw [hy]
      refine ts_c nd (fun i hi => ?_)
      rw [mbc_c (c := e) (c' := up e 31 1 (b 31 1 + (k + 1))) (fun n n1 n2 => up_c31 _ (by omega))]
    obtain ⟨e1, p1, p2⟩ := m_ti60 hm B (now := b 31 1 + (k + 1)) (N := N) (k := k) (by omega) (by omega) N1 N2 k0 (by omega) (f_M_tick_42 m) 8 dr_fu 0 (up e 31 1 (b 31 1 + (k + 1))) 0 y rfl (by omega) (by omega) (by decide) H1 hy1
    obtain ⟨e', p3, p4⟩ := ih m (k + 1) e1 _ (by omega) (by omega) (by omega) p2 rfl
    refine ⟨e', ?_, p4⟩
    rw [f_M_tick_42]
    have e31 : b 31 1 + k + 1 = b 31 1 + (k + 1) := by omega
    simp (disch := omega) only [li_0, li_1, li_2, li_3, li_4, li_5, li_6, li_7, li_8, li_9, li_10, li_11, li_12, li_13, li_14, li_15, li_16, li_17, li_18, li_19, li_20, li_21, li_31, li_32, li_33, li_40, li_41, li_43, li_48, li_57, li_59, li_60, li_61, li_62, li_64, li_97, li_99, li_100, li_101, li_102, li_112, li_119, li_126, li_189, li_255, li_300, li_369, li_400, li_999, li_5000, li_9999, li_12345, li_99999, li_1103515245, i2_add, i2_sub, i2_mul, i2_neg, i2_le, i2_lt, i2_eq, r_rz, r_ci, r_cx, r_cv, r_vx, r_cr, r_rx, dr_ci', dr_cv', dr_cr', dr_gr', dr_x0, ↓reduceIte, Int.reduceLE, Int.reduceLT, Int.reduceEq, Int.reduceNeg, Int.reduceAdd, Int.reduceSub, Int.reduceMul, dl_t, dl_f, dle_t, dle_f, deq_t, deq_f, vM_k hm, vM_g0 hm, vM_p0 hm, vM_g1 hm, vM_p1 hm, vM_g2 hm, vM_p2 hm, vM_r3 hm, vM_g4 hm, vM_p4 hm, vM_g5 hm, vM_p5 hm, vM_g6 hm, vM_p6 hm, vM_r7 hm, vM_r8 hm, vM_r9 hm, vM_r10 hm, vM_r11 hm, vM_r12 hm, vM_r13 hm, vM_r14 hm, vM_r15 hm, vM_r16 hm, vM_r17 hm, vM_r18 hm, vM_g19 hm, vM_p19 hm, vM_r20 hm, vM_r21 hm, vM_r22 hm, vM_r23 hm, vM_r24 hm, vM_r25 hm, vM_r26 hm, vM_g27 hm, vM_p27 hm, vM_r28 hm, vM_r29 hm, vM_r30 hm, vM_r31 hm, vM_n32 hm, vM_a32 hm, vM_s32 hm, vM_n33 hm, vM_a33 hm, vM_s33 hm, vM_n34 hm, vM_a34 hm, vM_s34 hm, vM_n35 hm, vM_a35 hm, vM_s35 hm, vM_n36 hm, vM_a36 hm, vM_s36 hm, vM_n37 hm, vM_a37 hm, vM_s37 hm, vM_n38 hm, vM_a38 hm, vM_s38 hm, vM_n39 hm, vM_a39 hm, vM_s39 hm, vM_n40 hm, vM_a40 hm, vM_s40 hm, vM_n41 hm, vM_a41 hm, vM_s41 hm, vM_n42 hm, vM_a42 hm, vM_s42 hm, vM_n43 hm, vM_a43 hm, vM_s43 hm, vM_n44 hm, vM_a44 hm, vM_s44 hm, vM_n45 hm, vM_a45 hm, vM_s45 hm, vM_n46 hm, vM_a46 hm, vM_s46 hm, vM_n47 hm, vM_a47 hm, vM_s47 hm, vM_n48 hm, vM_a48 hm, vM_s48 hm, vM_n49 hm, vM_a49 hm, vM_s49 hm, vM_n50 hm, vM_a50 hm, vM_s50 hm, vM_n51 hm, vM_a51 hm, vM_s51 hm, vM_n52 hm, vM_a52 hm, vM_s52 hm, vM_n53 hm, vM_a53 hm, vM_s53 hm, vM_n54 hm, vM_a54 hm, vM_s54 hm, vM_n55 hm, vM_a55 hm, vM_s55 hm, h31, e31, p1, p3]
