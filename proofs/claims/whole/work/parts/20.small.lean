/-! ===== by program (wip/whole/gen/trans.py): each method as a function on the abstract heap, and the rows that prove it ===== -/
def dr_fu : Nat := 10000
abbrev dr_ushr (x y : Int32) : Int32 := (x.toUInt32 >>> (y.toUInt32 &&& Int32.toUInt32 31)).toInt32
abbrev dr_lushr (x : Int64) (y : Int32) : Int64 := (x.toUInt64 >>> (y.toInt64.toUInt64 &&& Int64.toUInt64 63)).toInt64
abbrev dr_gr' (h : dr_AH) (ci a k : Nat) (K : Nat → Option (dr_RS × dr_AH)) : Option (dr_RS × dr_AH) := dr_gr h ci a k K none
abbrev dr_ci' (o : Option (dr_RS × dr_AH)) (K : Int32 → dr_AH → Option (dr_RS × dr_AH)) : Option (dr_RS × dr_AH) := dr_ci o K dr_x0
abbrev dr_cv' (o : Option (dr_RS × dr_AH)) (K : dr_AH → Option (dr_RS × dr_AH)) : Option (dr_RS × dr_AH) := dr_cv o K dr_x0
abbrev dr_cr' (o : Option (dr_RS × dr_AH)) (K : Nat → dr_AH → Option (dr_RS × dr_AH)) : Option (dr_RS × dr_AH) := dr_cr o K dr_x0
section DRM
variable {M : dr_MI} {fr wo pc : Nat} {l : List (Nat × Value)} {st : List Value} {h : dr_AH} {Q : dr_RS → dr_AH → Prop}
theorem wp_newI {n : Int32} {K : Nat → dr_AH → Option (dr_RS × dr_AH)} (hw : dr_T (.arrayClass .int)) (hd : decode M.code pc = .ok (.newarray .int, 2)) (hp : dr_p (dr_na h 0 (.int 0) n K) Q) (kk : ∀ a h2, dr_p (K a h2) Q → dr_W M fr wo (pc + 2) l (.ref a :: st) h2 Q) : dr_W M fr wo pc l (.int n :: st) h Q := wp_newarray (c := 0) (atype := .int) (by decide) rfl rfl (by decide) hw hd hp kk
theorem wp_newJ {n : Int32} {K : Nat → dr_AH → Option (dr_RS × dr_AH)} (hw : dr_T (.arrayClass .long)) (hd : decode M.code pc = .ok (.newarray .long, 2)) (hp : dr_p (dr_na h 1 (.long 0) n K) Q) (kk : ∀ a h2, dr_p (K a h2) Q → dr_W M fr wo (pc + 2) l (.ref a :: st) h2 Q) : dr_W M fr wo pc l (.int n :: st) h Q := wp_newarray (c := 1) (atype := .long) (by decide) rfl rfl (by decide) hw hd hp kk
theorem wp_newZ {n : Int32} {K : Nat → dr_AH → Option (dr_RS × dr_AH)} (hw : dr_T (.arrayClass .boolean)) (hd : decode M.code pc = .ok (.newarray .boolean, 2)) (hp : dr_p (dr_na h 2 (.int 0) n K) Q) (kk : ∀ a h2, dr_p (K a h2) Q → dr_W M fr wo (pc + 2) l (.ref a :: st) h2 Q) : dr_W M fr wo pc l (.int n :: st) h Q := wp_newarray (c := 2) (atype := .boolean) (by decide) rfl rfl (by decide) hw hd hp kk
end DRM
theorem dr_pe {c : Prop} [Decidable c] {A B : Option (dr_RS × dr_AH)} {Q : dr_RS → dr_AH → Prop} (hp : dr_p (if c then A else B) Q) : (c ∧ dr_p A Q) ∨ (¬ c ∧ dr_p B Q) := by
  by_cases hc : c
  · exact Or.inl ⟨hc, (dr_pif hp).1 hc⟩
  · exact Or.inr ⟨hc, (dr_pif hp).2 hc⟩
def f_A_fill_5 : Nat → Nat → Int32 → Int32 → Int32 → dr_AH → Option (dr_RS × dr_AH)
  | 0, _, _, _, _, _ => none
  | n + 1, a1, x2, x3, x4, h => if x4 ≤ x3 then some (.inl none, h) else (dr_si h a1 x3 x2 fun h5 => f_A_fill_5 n a1 x2 (x3 + 1) x4 h5)
def f_A_fill (a1 : Nat) (x2 : Int32) (h : dr_AH) : Option (dr_RS × dr_AH) :=
  (dr_ln h 0 a1 fun x3 => f_A_fill_5 dr_fu a1 x2 0 x3 h)
set_option maxRecDepth 100000 in
set_option maxHeartbeats 400000 in
theorem t_A_fill_5 {Q : dr_RS → dr_AH → Prop} : ∀ (n : Nat) (a1 : Nat) (x2 : Int32) (x3 : Int32) (x4 : Int32) (h : dr_AH), dr_p (f_A_fill_5 n a1 x2 x3 x4 h) Q → dr_W mi_A_fill 0 0 5 [(0, .ref a1), (1, .int x2), (2, .int x3), (3, .int x4)] [] h Q := by
  intro n
  induction n with
  | zero => intro a1 x2 x3 x4 h hp; exact (dr_p0 hp).elim
  | succ n ih =>
    intro a1 x2 x3 x4 h hp
    unfold f_A_fill_5 at hp
    refine wp_iload_n d_A_fill_5 2 rfl ?_
    refine wp_iload_n d_A_fill_6 3 rfl ?_
    refine wp_icmp_ge (tgt := 20) d_A_fill_7 (by decide) hp (fun _ hp => ?_) (fun _ hp => ?_)
    · exact wp_return rfl d_A_fill_20 hp
    · refine wp_aload_n d_A_fill_10 0 rfl ?_
      refine wp_iload_n d_A_fill_11 2 rfl ?_
      refine wp_iload_n d_A_fill_12 1 rfl ?_
      refine wp_iastore d_A_fill_13 hp (fun h5 hp => ?_)
      refine wp_iinc (v := (x3 + 1)) (l' := [(2, .int (x3 + 1)), (0, .ref a1), (1, .int x2), (3, .int x4)]) d_A_fill_14 2 rfl rfl (by decide) rfl ?_
      refine wp_goto (tgt := 5) d_A_fill_17 (by decide) ?_
      exact wp_sub [1, 2, 0, 3] rfl (ih _ _ _ _ _ hp)
set_option maxRecDepth 100000 in
set_option maxHeartbeats 400000 in
theorem t_A_fill {Q : dr_RS → dr_AH → Prop} : ∀ (a1 : Nat) (x2 : Int32) (h : dr_AH), dr_p (f_A_fill a1 x2 h) Q → dr_W mi_A_fill 0 0 0 [(0, .ref a1), (1, .int x2)] [] h Q := by
  intro a1 x2 h hp
  unfold f_A_fill at hp
  refine wp_iconst (v := 0) (by decide) d_A_fill_0 ?_
  refine wp_istore_n (l' := [(2, .int 0), (0, .ref a1), (1, .int x2)]) d_A_fill_1 (by decide) rfl ?_
  refine wp_aload_n d_A_fill_2 1 rfl ?_
  refine wp_alen (c := 0) (by decide) d_A_fill_3 hp (fun x3 hp => ?_)
  refine wp_istore_n (l' := [(3, .int x3), (2, .int 0), (0, .ref a1), (1, .int x2)]) d_A_fill_4 (by decide) rfl ?_
  exact wp_sub [2, 3, 1, 0] rfl (t_A_fill_5 dr_fu _ _ _ _ _ hp)
def f_N_min (x1 : Int32) (x2 : Int32) (h : dr_AH) : Option (dr_RS × dr_AH) :=
  if x2 < x1 then some (.inl (some (.int x2)), h) else some (.inl (some (.int x1)), h)
set_option maxRecDepth 100000 in
set_option maxHeartbeats 400000 in
theorem t_N_min {Q : dr_RS → dr_AH → Prop} : ∀ (x1 : Int32) (x2 : Int32) (h : dr_AH), dr_p (f_N_min x1 x2 h) Q → dr_W mi_N_min 0 0 0 [(0, .int x1), (1, .int x2)] [] h Q := by
  intro x1 x2 h hp
  unfold f_N_min at hp
  refine wp_iload_n d_N_min_0 0 rfl ?_
  refine wp_iload_n d_N_min_1 1 rfl ?_
  refine wp_icmp_gt (tgt := 9) d_N_min_2 (by decide) hp (fun _ hp => ?_) (fun _ hp => ?_)
  · refine wp_iload_n d_N_min_9 1 rfl ?_
    exact wp_ireturn rfl rfl d_N_min_10 hp
  · refine wp_iload_n d_N_min_5 0 rfl ?_
    refine wp_goto (tgt := 10) d_N_min_6 (by decide) ?_
    exact wp_ireturn rfl rfl d_N_min_10 hp
