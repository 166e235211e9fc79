def f_S_init (a1 : Nat) (h : dr_AH) : Option (dr_RS × dr_AH) :=
  (dr_na h 2 (.int 0) 41 fun a2 h3 => (dr_pf h3 1 a1 0 (.ref a2) fun h4 => (dr_na h4 0 (.int 0) 41 fun a5 h6 => (dr_pf h6 1 a1 1 (.ref a5) fun h7 => (dr_na h7 0 (.int 0) 41 fun a8 h9 => (dr_pf h9 1 a1 2 (.ref a8) fun h10 => (dr_na h10 0 (.int 0) 41 fun a11 h12 => (dr_pf h12 1 a1 3 (.ref a11) fun h13 => (dr_na h13 0 (.int 0) 41 fun a14 h15 => (dr_pf h15 1 a1 4 (.ref a14) fun h16 => (dr_na h16 2 (.int 0) 41 fun a17 h18 => (dr_pf h18 1 a1 5 (.ref a17) fun h19 => (dr_na h19 0 (.int 0) 41 fun a20 h21 => (dr_pf h21 1 a1 6 (.ref a20) fun h22 => (dr_pf h22 1 a1 7 (.int 0) fun h23 => (dr_na h23 0 (.int 0) 21 fun a24 h25 => (dr_pf h25 1 a1 8 (.ref a24) fun h26 => (dr_na h26 0 (.int 0) 21 fun a27 h28 => (dr_pf h28 1 a1 9 (.ref a27) fun h29 => (dr_na h29 0 (.int 0) 21 fun a30 h31 => (dr_pf h31 1 a1 10 (.ref a30) fun h32 => (dr_na h32 0 (.int 0) 21 fun a33 h34 => (dr_pf h34 1 a1 11 (.ref a33) fun h35 => (dr_pf h35 1 a1 12 (.int 0) fun h36 => some (.inl none, h36)))))))))))))))))))))))))
set_option maxRecDepth 100000 in
set_option maxHeartbeats 400000 in
theorem t_S_init {Q : dr_RS → dr_AH → Prop} : ∀ (a1 : Nat) (h : dr_AH), dr_p (f_S_init a1 h) Q → dr_W mi_S_init 1 12 0 [(0, .ref a1)] [] h Q := by
  intro a1 h hp
  unfold f_S_init at hp
  refine wp_aload_n d_S_init_0 0 rfl ?_
  refine wp_objInit tw_49 tw_22 tw_23 (by decide) (Nat.le_of_ble_eq_true rfl) d_S_init_1 ?_
  refine wp_aload_n d_S_init_4 0 rfl ?_
  refine wp_bipush (v := 41) (by decide) d_S_init_5 ?_
  refine wp_newZ tw_105 d_S_init_7 hp (fun a2 h3 hp => ?_)
  refine wp_put cl_S fl_S_9 (by decide) (Or.inr ⟨by rfl, by rfl⟩) (by rfl) (by rfl) d_S_init_9 hp (fun h4 hp => ?_)
  refine wp_aload_n d_S_init_12 0 rfl ?_
  refine wp_bipush (v := 41) (by decide) d_S_init_13 ?_
  refine wp_newI tw_43 d_S_init_15 hp (fun a5 h6 hp => ?_)
  refine wp_put cl_S fl_S_15 (by decide) (Or.inr ⟨by rfl, by rfl⟩) (by rfl) (by rfl) d_S_init_17 hp (fun h7 hp => ?_)
  refine wp_aload_n d_S_init_20 0 rfl ?_
  refine wp_bipush (v := 41) (by decide) d_S_init_21 ?_
  refine wp_newI tw_43 d_S_init_23 hp (fun a8 h9 hp => ?_)
  refine wp_put cl_S fl_S_19 (by decide) (Or.inr ⟨by rfl, by rfl⟩) (by rfl) (by rfl) d_S_init_25 hp (fun h10 hp => ?_)
  refine wp_aload_n d_S_init_28 0 rfl ?_
  refine wp_bipush (v := 41) (by decide) d_S_init_29 ?_
  refine wp_newI tw_43 d_S_init_31 hp (fun a11 h12 hp => ?_)
  refine wp_put cl_S fl_S_22 (by decide) (Or.inr ⟨by rfl, by rfl⟩) (by rfl) (by rfl) d_S_init_33 hp (fun h13 hp => ?_)
  refine wp_aload_n d_S_init_36 0 rfl ?_
  refine wp_bipush (v := 41) (by decide) d_S_init_37 ?_
  refine wp_newI tw_43 d_S_init_39 hp (fun a14 h15 hp => ?_)
  refine wp_put cl_S fl_S_25 (by decide) (Or.inr ⟨by rfl, by rfl⟩) (by rfl) (by rfl) d_S_init_41 hp (fun h16 hp => ?_)
  refine wp_aload_n d_S_init_44 0 rfl ?_
  refine wp_bipush (v := 41) (by decide) d_S_init_45 ?_
  refine wp_newZ tw_105 d_S_init_47 hp (fun a17 h18 hp => ?_)
  refine wp_put cl_S fl_S_28 (by decide) (Or.inr ⟨by rfl, by rfl⟩) (by rfl) (by rfl) d_S_init_49 hp (fun h19 hp => ?_)
  refine wp_aload_n d_S_init_52 0 rfl ?_
  refine wp_bipush (v := 41) (by decide) d_S_init_53 ?_
  refine wp_newI tw_43 d_S_init_55 hp (fun a20 h21 hp => ?_)
  refine wp_put cl_S fl_S_31 (by decide) (Or.inr ⟨by rfl, by rfl⟩) (by rfl) (by rfl) d_S_init_57 hp (fun h22 hp => ?_)
  refine wp_aload_n d_S_init_60 0 rfl ?_
  refine wp_iconst (v := 0) (by decide) d_S_init_61 ?_
  refine wp_put cl_S fl_S_34 (by decide) (Or.inl (by rfl)) (by rfl) (by rfl) d_S_init_62 hp (fun h23 hp => ?_)
  refine wp_aload_n d_S_init_65 0 rfl ?_
  refine wp_bipush (v := 21) (by decide) d_S_init_66 ?_
  refine wp_newI tw_43 d_S_init_68 hp (fun a24 h25 hp => ?_)
  refine wp_put cl_S fl_S_38 (by decide) (Or.inr ⟨by rfl, by rfl⟩) (by rfl) (by rfl) d_S_init_70 hp (fun h26 hp => ?_)
  refine wp_aload_n d_S_init_73 0 rfl ?_
  refine wp_bipush (v := 21) (by decide) d_S_init_74 ?_
  refine wp_newI tw_43 d_S_init_76 hp (fun a27 h28 hp => ?_)
  refine wp_put cl_S fl_S_41 (by decide) (Or.inr ⟨by rfl, by rfl⟩) (by rfl) (by rfl) d_S_init_78 hp (fun h29 hp => ?_)
  refine wp_aload_n d_S_init_81 0 rfl ?_
  refine wp_bipush (v := 21) (by decide) d_S_init_82 ?_
  refine wp_newI tw_43 d_S_init_84 hp (fun a30 h31 hp => ?_)
  refine wp_put cl_S fl_S_44 (by decide) (Or.inr ⟨by rfl, by rfl⟩) (by rfl) (by rfl) d_S_init_86 hp (fun h32 hp => ?_)
  refine wp_aload_n d_S_init_89 0 rfl ?_
  refine wp_bipush (v := 21) (by decide) d_S_init_90 ?_
  refine wp_newI tw_43 d_S_init_92 hp (fun a33 h34 hp => ?_)
  refine wp_put cl_S fl_S_47 (by decide) (Or.inr ⟨by rfl, by rfl⟩) (by rfl) (by rfl) d_S_init_94 hp (fun h35 hp => ?_)
  refine wp_aload_n d_S_init_97 0 rfl ?_
  refine wp_iconst (v := 0) (by decide) d_S_init_98 ?_
  refine wp_put cl_S fl_S_50 (by decide) (Or.inl (by rfl)) (by decide) (by decide) d_S_init_99 hp (fun h36 hp => ?_)
  exact wp_return rfl d_S_init_102 hp
def f_S_clear_2 : Nat → Nat → Int32 → dr_AH → Option (dr_RS × dr_AH)
  | 0, _, _, _ => none
  | n + 1, a1, x2, h => (dr_gr' h 1 a1 0 fun a3 => (dr_ln h 2 a3 fun x4 => if x4 ≤ x2 then (dr_gr' h 1 a1 11 fun a5 => (dr_cv' (f_A_fill a5 0 h) fun h6 => (dr_pf h6 1 a1 7 (.int 0) fun h7 => some (.inl none, h7)))) else (dr_gr' h 1 a1 0 fun a8 => (dr_sz h a8 x2 0 fun h9 => f_S_clear_2 n a1 (x2 + 1) h9))))
def f_S_clear (a1 : Nat) (h : dr_AH) : Option (dr_RS × dr_AH) :=
  f_S_clear_2 dr_fu a1 0 h
set_option maxRecDepth 100000 in
set_option maxHeartbeats 400000 in
theorem t_S_clear_2 {Q : dr_RS → dr_AH → Prop} : ∀ (n : Nat) (a1 : Nat) (x2 : Int32) (h : dr_AH), dr_p (f_S_clear_2 n a1 x2 h) Q → dr_W mi_S_clear 1 15 2 [(0, .ref a1), (1, .int x2)] [] h Q := by
  intro n
  induction n with
  | zero => intro a1 x2 h hp; exact (dr_p0 hp).elim
  | succ n ih =>
    intro a1 x2 h hp
    unfold f_S_clear_2 at hp
    refine wp_iload_n d_S_clear_2 1 rfl ?_
    refine wp_aload_n d_S_clear_3 0 rfl ?_
    refine wp_gr cl_S fl_S_9 (by decide) d_S_clear_4 hp (fun a3 hp => ?_) (fun hp => (dr_p0 hp).elim)
    refine wp_alen (c := 2) (by decide) d_S_clear_7 hp (fun x4 hp => ?_)
    refine wp_icmp_ge (tgt := 24) d_S_clear_8 (by decide) hp (fun _ hp => ?_) (fun _ hp => ?_)
    · refine wp_aload_n d_S_clear_24 0 rfl ?_
      refine wp_gr cl_S fl_S_47 (by decide) d_S_clear_25 hp (fun a5 hp => ?_) (fun hp => (dr_p0 hp).elim)
      refine wp_iconst (v := 0) (by decide) d_S_clear_28 ?_
      refine wp_cv (M' := mi_A_fill) (As := [.ref a5, .int 0]) (st := []) (fr' := 0) (wo' := 0) (dr_sS (A := [.ref a5, .int 0]) tw_265 tw_109 tw_4 co_A_fill ⟨by decide, by decide⟩ (by rfl) d_S_clear_29 rfl) co_A_fill (by decide +kernel) (by decide) (Nat.le_of_ble_eq_true rfl) (Nat.le_of_ble_eq_true rfl) (fun Q' hq => t_A_fill _ _ _ hq) hp (fun h6 hp => ?_) (fun E q h3 hp => wx_out (by decide) hp)
      refine wp_aload_n d_S_clear_32 0 rfl ?_
      refine wp_iconst (v := 0) (by decide) d_S_clear_33 ?_
      refine wp_put cl_S fl_S_34 (by decide) (Or.inl (by rfl)) (by rfl) (by rfl) d_S_clear_34 hp (fun h7 hp => ?_)
      exact wp_return rfl d_S_clear_37 hp
    · refine wp_aload_n d_S_clear_11 0 rfl ?_
      refine wp_gr cl_S fl_S_9 (by decide) d_S_clear_12 hp (fun a8 hp => ?_) (fun hp => (dr_p0 hp).elim)
      refine wp_iload_n d_S_clear_15 1 rfl ?_
      refine wp_iconst (v := 0) (by decide) d_S_clear_16 ?_
      refine wp_zastore d_S_clear_17 hp (fun h9 hp => ?_)
      refine wp_iinc (v := (x2 + 1)) (l' := [(1, .int (x2 + 1)), (0, .ref a1)]) d_S_clear_18 1 rfl rfl (by decide) rfl ?_
      refine wp_goto (tgt := 2) d_S_clear_21 (by decide) ?_
      exact wp_sub [1, 0] rfl (ih _ _ _ hp)
set_option maxRecDepth 100000 in
set_option maxHeartbeats 400000 in
theorem t_S_clear {Q : dr_RS → dr_AH → Prop} : ∀ (a1 : Nat) (h : dr_AH), dr_p (f_S_clear a1 h) Q → dr_W mi_S_clear 1 15 0 [(0, .ref a1)] [] h Q := by
  intro a1 h hp
  unfold f_S_clear at hp
  refine wp_iconst (v := 0) (by decide) d_S_clear_0 ?_
  refine wp_istore_n (l' := [(1, .int 0), (0, .ref a1)]) d_S_clear_1 (by decide) rfl ?_
  exact wp_sub [1, 0] rfl (t_S_clear_2 dr_fu _ _ _ hp)
def f_S_hasAim (a1 : Nat) (x2 : Int32) (h : dr_AH) : Option (dr_RS × dr_AH) :=
  if x2 < 1 then dr_rz 0 h else (dr_gr' h 1 a1 11 fun a3 => (dr_ln h 0 a3 fun x4 => if x4 ≤ x2 then dr_rz 0 h else (dr_gr' h 1 a1 11 fun a5 => (dr_ai h a5 x2 fun x6 => if x6 ≤ 0 then dr_rz 0 h else dr_rz 1 h))))
set_option maxRecDepth 100000 in
set_option maxHeartbeats 400000 in
theorem t_S_hasAim {Q : dr_RS → dr_AH → Prop} : ∀ (a1 : Nat) (x2 : Int32) (h : dr_AH), dr_p (f_S_hasAim a1 x2 h) Q → dr_W mi_S_hasAim 0 0 0 [(0, .ref a1), (1, .int x2)] [] h Q := by
  intro a1 x2 h hp
  unfold f_S_hasAim at hp
  refine wp_iload_n d_S_hasAim_0 1 rfl ?_
  refine wp_iconst (v := 1) (by decide) d_S_hasAim_1 ?_
  refine wp_icmp_lt (tgt := 27) d_S_hasAim_2 (by decide) hp (fun _ hp => ?_) (fun _ hp => ?_)
  · refine wp_iconst (v := 0) (by decide) d_S_hasAim_27 ?_
    exact wp_zreturn rfl d_S_hasAim_28 hp
  · refine wp_iload_n d_S_hasAim_5 1 rfl ?_
    refine wp_aload_n d_S_hasAim_6 0 rfl ?_
    refine wp_gr cl_S fl_S_47 (by decide) d_S_hasAim_7 hp (fun a3 hp => ?_) (fun hp => (dr_p0 hp).elim)
    refine wp_alen (c := 0) (by decide) d_S_hasAim_10 hp (fun x4 hp => ?_)
    refine wp_icmp_ge (tgt := 27) d_S_hasAim_11 (by decide) hp (fun _ hp => ?_) (fun _ hp => ?_)
    · refine wp_iconst (v := 0) (by decide) d_S_hasAim_27 ?_
      exact wp_zreturn rfl d_S_hasAim_28 hp
    · refine wp_aload_n d_S_hasAim_14 0 rfl ?_
      refine wp_gr cl_S fl_S_47 (by decide) d_S_hasAim_15 hp (fun a5 hp => ?_) (fun hp => (dr_p0 hp).elim)
      refine wp_iload_n d_S_hasAim_18 1 rfl ?_
      refine wp_iaload d_S_hasAim_19 hp (fun x6 hp => ?_)
      refine wp_if_le (tgt := 27) d_S_hasAim_20 (by decide) hp (fun _ hp => ?_) (fun _ hp => ?_)
      · refine wp_iconst (v := 0) (by decide) d_S_hasAim_27 ?_
        exact wp_zreturn rfl d_S_hasAim_28 hp
      · refine wp_iconst (v := 1) (by decide) d_S_hasAim_23 ?_
        refine wp_goto (tgt := 28) d_S_hasAim_24 (by decide) ?_
        exact wp_zreturn rfl d_S_hasAim_28 hp
def f_S_hasEvent (a1 : Nat) (x2 : Int32) (h : dr_AH) : Option (dr_RS × dr_AH) :=
  if x2 < 1 then dr_rz 0 h else (dr_gr' h 1 a1 0 fun a3 => (dr_ln h 2 a3 fun x4 => if x4 ≤ x2 then dr_rz 0 h else (dr_gr' h 1 a1 0 fun a5 => (dr_az h a5 x2 fun x6 => if x6 = 0 then dr_rz 0 h else dr_rz 1 h))))
set_option maxRecDepth 100000 in
set_option maxHeartbeats 400000 in
theorem t_S_hasEvent {Q : dr_RS → dr_AH → Prop} : ∀ (a1 : Nat) (x2 : Int32) (h : dr_AH), dr_p (f_S_hasEvent a1 x2 h) Q → dr_W mi_S_hasEvent 0 0 0 [(0, .ref a1), (1, .int x2)] [] h Q := by
  intro a1 x2 h hp
  unfold f_S_hasEvent at hp
  refine wp_iload_n d_S_hasEvent_0 1 rfl ?_
  refine wp_iconst (v := 1) (by decide) d_S_hasEvent_1 ?_
  refine wp_icmp_lt (tgt := 27) d_S_hasEvent_2 (by decide) hp (fun _ hp => ?_) (fun _ hp => ?_)
  · refine wp_iconst (v := 0) (by decide) d_S_hasEvent_27 ?_
    exact wp_zreturn rfl d_S_hasEvent_28 hp
  · refine wp_iload_n d_S_hasEvent_5 1 rfl ?_
    refine wp_aload_n d_S_hasEvent_6 0 rfl ?_
    refine wp_gr cl_S fl_S_9 (by decide) d_S_hasEvent_7 hp (fun a3 hp => ?_) (fun hp => (dr_p0 hp).elim)
    refine wp_alen (c := 2) (by decide) d_S_hasEvent_10 hp (fun x4 hp => ?_)
    refine wp_icmp_ge (tgt := 27) d_S_hasEvent_11 (by decide) hp (fun _ hp => ?_) (fun _ hp => ?_)
    · refine wp_iconst (v := 0) (by decide) d_S_hasEvent_27 ?_
      exact wp_zreturn rfl d_S_hasEvent_28 hp
    · refine wp_aload_n d_S_hasEvent_14 0 rfl ?_
      refine wp_gr cl_S fl_S_9 (by decide) d_S_hasEvent_15 hp (fun a5 hp => ?_) (fun hp => (dr_p0 hp).elim)
      refine wp_iload_n d_S_hasEvent_18 1 rfl ?_
      refine wp_zaload d_S_hasEvent_19 hp (fun x6 hp => ?_)
      refine wp_if_eq (tgt := 27) d_S_hasEvent_20 (by decide) hp (fun _ hp => ?_) (fun _ hp => ?_)
      · refine wp_iconst (v := 0) (by decide) d_S_hasEvent_27 ?_
        exact wp_zreturn rfl d_S_hasEvent_28 hp
      · refine wp_iconst (v := 1) (by decide) d_S_hasEvent_23 ?_
        refine wp_goto (tgt := 28) d_S_hasEvent_24 (by decide) ?_
        exact wp_zreturn rfl d_S_hasEvent_28 hp
def f_S_addAim (a1 : Nat) (x2 : Int32) (x3 : Int32) (x4 : Int32) (x5 : Int32) (x6 : Int32) (h : dr_AH) : Option (dr_RS × dr_AH) :=
  if x2 < 1 then some (.inl none, h) else if x2 ≤ 20 then (dr_gr' h 1 a1 8 fun a7 => (dr_si h a7 x2 x3 fun h8 => (dr_gr' h8 1 a1 9 fun a9 => (dr_si h8 a9 x2 x4 fun h10 => (dr_gr' h10 1 a1 10 fun a11 => (dr_si h10 a11 x2 x5 fun h12 => (dr_gr' h12 1 a1 11 fun a13 => (dr_si h12 a13 x2 x6 fun h14 => some (.inl none, h14))))))))) else some (.inl none, h)
set_option maxRecDepth 100000 in
set_option maxHeartbeats 400000 in
theorem t_S_addAim {Q : dr_RS → dr_AH → Prop} : ∀ (a1 : Nat) (x2 : Int32) (x3 : Int32) (x4 : Int32) (x5 : Int32) (x6 : Int32) (h : dr_AH), dr_p (f_S_addAim a1 x2 x3 x4 x5 x6 h) Q → dr_W mi_S_addAim 0 0 0 [(0, .ref a1), (1, .int x2), (2, .int x3), (3, .int x4), (4, .int x5), (5, .int x6)] [] h Q := by
  intro a1 x2 x3 x4 x5 x6 h hp
  unfold f_S_addAim at hp
  refine wp_iload_n d_S_addAim_0 1 rfl ?_
  refine wp_iconst (v := 1) (by decide) d_S_addAim_1 ?_
  refine wp_icmp_lt (tgt := 11) d_S_addAim_2 (by decide) hp (fun _ hp => ?_) (fun _ hp => ?_)
  · exact wp_return rfl d_S_addAim_11 hp
  · refine wp_iload_n d_S_addAim_5 1 rfl ?_
    refine wp_bipush (v := 20) (by decide) d_S_addAim_6 ?_
    refine wp_icmp_le (tgt := 12) d_S_addAim_8 (by decide) hp (fun _ hp => ?_) (fun _ hp => ?_)
    · refine wp_aload_n d_S_addAim_12 0 rfl ?_
      refine wp_gr cl_S fl_S_38 (by decide) d_S_addAim_13 hp (fun a7 hp => ?_) (fun hp => (dr_p0 hp).elim)
      refine wp_iload_n d_S_addAim_16 1 rfl ?_
      refine wp_iload_n d_S_addAim_17 2 rfl ?_
      refine wp_iastore d_S_addAim_18 hp (fun h8 hp => ?_)
      refine wp_aload_n d_S_addAim_19 0 rfl ?_
      refine wp_gr cl_S fl_S_41 (by decide) d_S_addAim_20 hp (fun a9 hp => ?_) (fun hp => (dr_p0 hp).elim)
      refine wp_iload_n d_S_addAim_23 1 rfl ?_
      refine wp_iload_n d_S_addAim_24 3 rfl ?_
      refine wp_iastore d_S_addAim_25 hp (fun h10 hp => ?_)
      refine wp_aload_n d_S_addAim_26 0 rfl ?_
      refine wp_gr cl_S fl_S_44 (by decide) d_S_addAim_27 hp (fun a11 hp => ?_) (fun hp => (dr_p0 hp).elim)
      refine wp_iload_n d_S_addAim_30 1 rfl ?_
      refine wp_iload d_S_addAim_31 4 rfl ?_
      refine wp_iastore d_S_addAim_33 hp (fun h12 hp => ?_)
      refine wp_aload_n d_S_addAim_34 0 rfl ?_
      refine wp_gr cl_S fl_S_47 (by decide) d_S_addAim_35 hp (fun a13 hp => ?_) (fun hp => (dr_p0 hp).elim)
      refine wp_iload_n d_S_addAim_38 1 rfl ?_
      refine wp_iload d_S_addAim_39 5 rfl ?_
      refine wp_iastore d_S_addAim_41 hp (fun h14 hp => ?_)
      exact wp_return rfl d_S_addAim_42 hp
    · exact wp_return rfl d_S_addAim_11 hp
def f_S_addEvent (a1 : Nat) (x2 : Int32) (x3 : Int32) (x4 : Int32) (x5 : Int32) (h : dr_AH) : Option (dr_RS × dr_AH) :=
  if x2 < 1 then some (.inl none, h) else if x2 ≤ 40 then (dr_gr' h 1 a1 0 fun a6 => (dr_sz h a6 x2 1 fun h7 => (dr_gr' h7 1 a1 1 fun a8 => (dr_si h7 a8 x2 x3 fun h9 => (dr_gr' h9 1 a1 2 fun a10 => (dr_si h9 a10 x2 x4 fun h11 => (dr_gr' h11 1 a1 3 fun a12 => (dr_si h11 a12 x2 x5 fun h13 => (dr_gi h13 1 a1 7 fun x14 => (dr_pf h13 1 a1 7 (.int (x14 + 1)) fun h15 => some (.inl none, h15))))))))))) else some (.inl none, h)
set_option maxRecDepth 100000 in
set_option maxHeartbeats 400000 in
theorem t_S_addEvent {Q : dr_RS → dr_AH → Prop} : ∀ (a1 : Nat) (x2 : Int32) (x3 : Int32) (x4 : Int32) (x5 : Int32) (h : dr_AH), dr_p (f_S_addEvent a1 x2 x3 x4 x5 h) Q → dr_W mi_S_addEvent 0 0 0 [(0, .ref a1), (1, .int x2), (2, .int x3), (3, .int x4), (4, .int x5)] [] h Q := by
  intro a1 x2 x3 x4 x5 h hp
  unfold f_S_addEvent at hp
  refine wp_iload_n d_S_addEvent_0 1 rfl ?_
  refine wp_iconst (v := 1) (by decide) d_S_addEvent_1 ?_
  refine wp_icmp_lt (tgt := 11) d_S_addEvent_2 (by decide) hp (fun _ hp => ?_) (fun _ hp => ?_)
  · exact wp_return rfl d_S_addEvent_11 hp
  · refine wp_iload_n d_S_addEvent_5 1 rfl ?_
    refine wp_bipush (v := 40) (by decide) d_S_addEvent_6 ?_
    refine wp_icmp_le (tgt := 12) d_S_addEvent_8 (by decide) hp (fun _ hp => ?_) (fun _ hp => ?_)
    · refine wp_aload_n d_S_addEvent_12 0 rfl ?_
      refine wp_gr cl_S fl_S_9 (by decide) d_S_addEvent_13 hp (fun a6 hp => ?_) (fun hp => (dr_p0 hp).elim)
      refine wp_iload_n d_S_addEvent_16 1 rfl ?_
      refine wp_iconst (v := 1) (by decide) d_S_addEvent_17 ?_
      refine wp_zastore d_S_addEvent_18 hp (fun h7 hp => ?_)
      refine wp_aload_n d_S_addEvent_19 0 rfl ?_
      refine wp_gr cl_S fl_S_15 (by decide) d_S_addEvent_20 hp (fun a8 hp => ?_) (fun hp => (dr_p0 hp).elim)
      refine wp_iload_n d_S_addEvent_23 1 rfl ?_
      refine wp_iload_n d_S_addEvent_24 2 rfl ?_
      refine wp_iastore d_S_addEvent_25 hp (fun h9 hp => ?_)
      refine wp_aload_n d_S_addEvent_26 0 rfl ?_
      refine wp_gr cl_S fl_S_19 (by decide) d_S_addEvent_27 hp (fun a10 hp => ?_) (fun hp => (dr_p0 hp).elim)
      refine wp_iload_n d_S_addEvent_30 1 rfl ?_
      refine wp_iload_n d_S_addEvent_31 3 rfl ?_
      refine wp_iastore d_S_addEvent_32 hp (fun h11 hp => ?_)
      refine wp_aload_n d_S_addEvent_33 0 rfl ?_
      refine wp_gr cl_S fl_S_22 (by decide) d_S_addEvent_34 hp (fun a12 hp => ?_) (fun hp => (dr_p0 hp).elim)
      refine wp_iload_n d_S_addEvent_37 1 rfl ?_
      refine wp_iload d_S_addEvent_38 4 rfl ?_
      refine wp_iastore d_S_addEvent_40 hp (fun h13 hp => ?_)
      refine wp_aload_n d_S_addEvent_41 0 rfl ?_
      refine wp_dup rfl d_S_addEvent_42 ?_
      refine wp_gi cl_S fl_S_34 (by decide) d_S_addEvent_43 hp (fun x14 hp => ?_)
      refine wp_iconst (v := 1) (by decide) d_S_addEvent_46 ?_
      refine wp_iadd d_S_addEvent_47 ?_
      refine wp_put cl_S fl_S_34 (by decide) (Or.inl (by rfl)) (by rfl) (by rfl) d_S_addEvent_48 hp (fun h15 hp => ?_)
      exact wp_return rfl d_S_addEvent_51 hp
    · exact wp_return rfl d_S_addEvent_11 hp
def f_S_describeEvent (a1 : Nat) (x2 : Int32) (x3 : Int32) (x4 : Int32) (x5 : Int32) (h : dr_AH) : Option (dr_RS × dr_AH) :=
  if x2 < 1 then some (.inl none, h) else if x2 ≤ 40 then (dr_gr' h 1 a1 4 fun a6 => (dr_si h a6 x2 x3 fun h7 => (dr_gr' h7 1 a1 5 fun a8 => (dr_sz h7 a8 x2 x4 fun h9 => (dr_gr' h9 1 a1 6 fun a10 => (dr_si h9 a10 x2 x5 fun h11 => some (.inl none, h11))))))) else some (.inl none, h)
set_option maxRecDepth 100000 in
set_option maxHeartbeats 400000 in
theorem t_S_describeEvent {Q : dr_RS → dr_AH → Prop} : ∀ (a1 : Nat) (x2 : Int32) (x3 : Int32) (x4 : Int32) (x5 : Int32) (h : dr_AH), dr_p (f_S_describeEvent a1 x2 x3 x4 x5 h) Q → dr_W mi_S_describeEvent 0 0 0 [(0, .ref a1), (1, .int x2), (2, .int x3), (3, .int x4), (4, .int x5)] [] h Q := by
  intro a1 x2 x3 x4 x5 h hp
  unfold f_S_describeEvent at hp
  refine wp_iload_n d_S_describeEvent_0 1 rfl ?_
  refine wp_iconst (v := 1) (by decide) d_S_describeEvent_1 ?_
  refine wp_icmp_lt (tgt := 11) d_S_describeEvent_2 (by decide) hp (fun _ hp => ?_) (fun _ hp => ?_)
  · exact wp_return rfl d_S_describeEvent_11 hp
  · refine wp_iload_n d_S_describeEvent_5 1 rfl ?_
    refine wp_bipush (v := 40) (by decide) d_S_describeEvent_6 ?_
    refine wp_icmp_le (tgt := 12) d_S_describeEvent_8 (by decide) hp (fun _ hp => ?_) (fun _ hp => ?_)
    · refine wp_aload_n d_S_describeEvent_12 0 rfl ?_
      refine wp_gr cl_S fl_S_25 (by decide) d_S_describeEvent_13 hp (fun a6 hp => ?_) (fun hp => (dr_p0 hp).elim)
      refine wp_iload_n d_S_describeEvent_16 1 rfl ?_
      refine wp_iload_n d_S_describeEvent_17 2 rfl ?_
      refine wp_iastore d_S_describeEvent_18 hp (fun h7 hp => ?_)
      refine wp_aload_n d_S_describeEvent_19 0 rfl ?_
      refine wp_gr cl_S fl_S_28 (by decide) d_S_describeEvent_20 hp (fun a8 hp => ?_) (fun hp => (dr_p0 hp).elim)
      refine wp_iload_n d_S_describeEvent_23 1 rfl ?_
      refine wp_iload_n d_S_describeEvent_24 3 rfl ?_
      refine wp_zastore d_S_describeEvent_25 hp (fun h9 hp => ?_)
      refine wp_aload_n d_S_describeEvent_26 0 rfl ?_
      refine wp_gr cl_S fl_S_31 (by decide) d_S_describeEvent_27 hp (fun a10 hp => ?_) (fun hp => (dr_p0 hp).elim)
      refine wp_iload_n d_S_describeEvent_30 1 rfl ?_
      refine wp_iload d_S_describeEvent_31 4 rfl ?_
      refine wp_iastore d_S_describeEvent_33 hp (fun h11 hp => ?_)
      exact wp_return rfl d_S_describeEvent_34 hp
    · exact wp_return rfl d_S_describeEvent_11 hp
def f_S_weightOfAims_13 : Nat → Int32 → Nat → Int32 → Int32 → dr_AH → Option (dr_RS × dr_AH)
  | 0, _, _, _, _, _ => none
  | n + 1, x1, a2, x3, x4, h => if x3 ≤ x4 then some (.inl (some (.int x1)), h) else (dr_ai h a2 x4 fun x5 => f_S_weightOfAims_13 n (x1 + x5) a2 x3 (x4 + 1) h)
def f_S_weightOfAims (a1 : Nat) (h : dr_AH) : Option (dr_RS × dr_AH) :=
  (dr_gr' h 1 a1 11 fun a2 => (dr_ln h 0 a2 fun x3 => f_S_weightOfAims_13 dr_fu 0 a2 x3 0 h))
set_option maxRecDepth 100000 in
set_option maxHeartbeats 400000 in
theorem t_S_weightOfAims_13 {Q : dr_RS → dr_AH → Prop} : ∀ (n : Nat) (x1 : Int32) (a2 : Nat) (x3 : Int32) (x4 : Int32) (h : dr_AH), dr_p (f_S_weightOfAims_13 n x1 a2 x3 x4 h) Q → dr_W mi_S_weightOfAims 0 0 13 [(1, .int x1), (2, .ref a2), (3, .int x3), (4, .int x4)] [] h Q := by
  intro n
  induction n with
  | zero => intro x1 a2 x3 x4 h hp; exact (dr_p0 hp).elim
  | succ n ih =>
    intro x1 a2 x3 x4 h hp
    unfold f_S_weightOfAims_13 at hp
    refine wp_iload d_S_weightOfAims_13 3 rfl ?_
    refine wp_iload_n d_S_weightOfAims_15 2 rfl ?_
    refine wp_icmp_ge (tgt := 36) d_S_weightOfAims_16 (by decide) hp (fun _ hp => ?_) (fun _ hp => ?_)
    · refine wp_iload_n d_S_weightOfAims_36 0 rfl ?_
      exact wp_ireturn rfl rfl d_S_weightOfAims_37 hp
    · refine wp_aload_n d_S_weightOfAims_19 1 rfl ?_
      refine wp_iload d_S_weightOfAims_20 3 rfl ?_
      refine wp_iaload d_S_weightOfAims_22 hp (fun x5 hp => ?_)
      refine wp_istore (l' := [(5, .int x5), (1, .int x1), (2, .ref a2), (3, .int x3), (4, .int x4)]) d_S_weightOfAims_23 (by decide) rfl ?_
      refine wp_iload_n d_S_weightOfAims_25 1 rfl ?_
      refine wp_iload d_S_weightOfAims_26 0 rfl ?_
      refine wp_iadd d_S_weightOfAims_28 ?_
      refine wp_istore_n (l' := [(1, .int (x1 + x5)), (5, .int x5), (2, .ref a2), (3, .int x3), (4, .int x4)]) d_S_weightOfAims_29 (by decide) rfl ?_
      refine wp_iinc (v := (x4 + 1)) (l' := [(4, .int (x4 + 1)), (1, .int (x1 + x5)), (5, .int x5), (2, .ref a2), (3, .int x3)]) d_S_weightOfAims_30 4 rfl rfl (by decide) rfl ?_
      refine wp_goto (tgt := 13) d_S_weightOfAims_33 (by decide) ?_
      exact wp_sub [1, 3, 4, 0] rfl (ih _ _ _ _ _ hp)
set_option maxRecDepth 100000 in
set_option maxHeartbeats 400000 in
theorem t_S_weightOfAims {Q : dr_RS → dr_AH → Prop} : ∀ (a1 : Nat) (h : dr_AH), dr_p (f_S_weightOfAims a1 h) Q → dr_W mi_S_weightOfAims 0 0 0 [(0, .ref a1)] [] h Q := by
  intro a1 h hp
  unfold f_S_weightOfAims at hp
  refine wp_iconst (v := 0) (by decide) d_S_weightOfAims_0 ?_
  refine wp_istore_n (l' := [(1, .int 0), (0, .ref a1)]) d_S_weightOfAims_1 (by decide) rfl ?_
  refine wp_aload_n d_S_weightOfAims_2 1 rfl ?_
  refine wp_gr cl_S fl_S_47 (by decide) d_S_weightOfAims_3 hp (fun a2 hp => ?_) (fun hp => (dr_p0 hp).elim)
  refine wp_astore_n (l' := [(2, .ref a2), (1, .int 0), (0, .ref a1)]) d_S_weightOfAims_6 (by decide) rfl ?_
  refine wp_aload_n d_S_weightOfAims_7 0 rfl ?_
  refine wp_alen (c := 0) (by decide) d_S_weightOfAims_8 hp (fun x3 hp => ?_)
  refine wp_istore_n (l' := [(3, .int x3), (2, .ref a2), (1, .int 0), (0, .ref a1)]) d_S_weightOfAims_9 (by decide) rfl ?_
  refine wp_iconst (v := 0) (by decide) d_S_weightOfAims_10 ?_
  refine wp_istore (l' := [(4, .int 0), (3, .int x3), (2, .ref a2), (1, .int 0), (0, .ref a1)]) d_S_weightOfAims_11 (by decide) rfl ?_
  exact wp_sub [3, 2, 1, 0] rfl (t_S_weightOfAims_13 dr_fu _ _ _ _ _ hp)
