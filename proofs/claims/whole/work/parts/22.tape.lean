def f_T_init (a1 : Nat) (h : dr_AH) : Option (dr_RS × dr_AH) :=
  (dr_na h 0 (.int 0) 300 fun a2 h3 => (dr_pf h3 2 a1 0 (.ref a2) fun h4 => (dr_pf h4 2 a1 1 (.int 0) fun h5 => (dr_pf h5 2 a1 2 (.int 0) fun h6 => (dr_pf h6 2 a1 3 (.int (-1)) fun h7 => some (.inl none, h7))))))
set_option maxRecDepth 100000 in
set_option maxHeartbeats 400000 in
theorem t_T_init {Q : dr_RS → dr_AH → Prop} : ∀ (a1 : Nat) (h : dr_AH), dr_p (f_T_init a1 h) Q → dr_W mi_T_init 1 12 0 [(0, .ref a1)] [] h Q := by
  intro a1 h hp
  unfold f_T_init at hp
  refine wp_aload_n d_T_init_0 0 rfl ?_
  refine wp_objInit tw_29 tw_22 tw_23 (by decide) (Nat.le_of_ble_eq_true rfl) d_T_init_1 ?_
  refine wp_aload_n d_T_init_4 0 rfl ?_
  refine wp_sipush (v := 300) (by decide) d_T_init_5 ?_
  refine wp_newI tw_43 d_T_init_8 hp (fun a2 h3 hp => ?_)
  refine wp_put cl_T fl_T_9 (by decide) (Or.inr ⟨by rfl, by rfl⟩) (by rfl) (by rfl) d_T_init_10 hp (fun h4 hp => ?_)
  refine wp_aload_n d_T_init_13 0 rfl ?_
  refine wp_iconst (v := 0) (by decide) d_T_init_14 ?_
  refine wp_put cl_T fl_T_15 (by decide) (Or.inl (by rfl)) (by rfl) (by rfl) d_T_init_15 hp (fun h5 hp => ?_)
  refine wp_aload_n d_T_init_18 0 rfl ?_
  refine wp_iconst (v := 0) (by decide) d_T_init_19 ?_
  refine wp_put cl_T fl_T_19 (by decide) (Or.inl (by rfl)) (by rfl) (by rfl) d_T_init_20 hp (fun h6 hp => ?_)
  refine wp_aload_n d_T_init_23 0 rfl ?_
  refine wp_iconst (v := (-1)) (by decide) d_T_init_24 ?_
  refine wp_put cl_T fl_T_22 (by decide) (Or.inl (by rfl)) (by rfl) (by rfl) d_T_init_25 hp (fun h7 hp => ?_)
  exact wp_return rfl d_T_init_28 hp
def f_T_hasRoomFor (a1 : Nat) (x2 : Int32) (h : dr_AH) : Option (dr_RS × dr_AH) :=
  (dr_gi h 2 a1 1 fun x3 => (dr_gr' h 2 a1 0 fun a4 => (dr_ln h 0 a4 fun x5 => if x5 < (x3 + x2) then dr_rz 0 h else dr_rz 1 h)))
set_option maxRecDepth 100000 in
set_option maxHeartbeats 400000 in
theorem t_T_hasRoomFor {Q : dr_RS → dr_AH → Prop} : ∀ (a1 : Nat) (x2 : Int32) (h : dr_AH), dr_p (f_T_hasRoomFor a1 x2 h) Q → dr_W mi_T_hasRoomFor 0 0 0 [(0, .ref a1), (1, .int x2)] [] h Q := by
  intro a1 x2 h hp
  unfold f_T_hasRoomFor at hp
  refine wp_aload_n d_T_hasRoomFor_0 0 rfl ?_
  refine wp_gi cl_T fl_T_15 (by decide) d_T_hasRoomFor_1 hp (fun x3 hp => ?_)
  refine wp_iload_n d_T_hasRoomFor_4 1 rfl ?_
  refine wp_iadd d_T_hasRoomFor_5 ?_
  refine wp_aload_n d_T_hasRoomFor_6 0 rfl ?_
  refine wp_gr cl_T fl_T_9 (by decide) d_T_hasRoomFor_7 hp (fun a4 hp => ?_) (fun hp => (dr_p0 hp).elim)
  refine wp_alen (c := 0) (by decide) d_T_hasRoomFor_10 hp (fun x5 hp => ?_)
  refine wp_icmp_gt (tgt := 18) d_T_hasRoomFor_11 (by decide) hp (fun _ hp => ?_) (fun _ hp => ?_)
  · refine wp_iconst (v := 0) (by decide) d_T_hasRoomFor_18 ?_
    exact wp_zreturn rfl d_T_hasRoomFor_19 hp
  · refine wp_iconst (v := 1) (by decide) d_T_hasRoomFor_14 ?_
    refine wp_goto (tgt := 19) d_T_hasRoomFor_15 (by decide) ?_
    exact wp_zreturn rfl d_T_hasRoomFor_19 hp
def f_T_append_5 : Nat → Nat → Int64 → Int32 → dr_AH → Option (dr_RS × dr_AH)
  | 0, _, _, _, _ => none
  | n + 1, a1, y2, x3, h => if x3 < 0 then (dr_gi h 2 a1 1 fun x4 => some (.inl (some (.int x4)), h)) else (dr_gi h 2 a1 1 fun x5 => (dr_gr' h 2 a1 0 fun a6 => (dr_ln h 0 a6 fun x7 => if x7 ≤ x5 then (dr_gi h 2 a1 1 fun x8 => some (.inl (some (.int x8)), h)) else (dr_gr' h 2 a1 0 fun a9 => (dr_gi h 2 a1 1 fun x10 => (dr_si h a9 x10 ((Int64.toInt32 (dr_lushr y2 (8 * x3))) &&& 255) fun h11 => (dr_gi h11 2 a1 1 fun x12 => (dr_pf h11 2 a1 1 (.int (x12 + 1)) fun h13 => f_T_append_5 n a1 y2 (x3 + (-1)) h13))))))))
def f_T_append (a1 : Nat) (y2 : Int64) (x3 : Int32) (h : dr_AH) : Option (dr_RS × dr_AH) :=
  f_T_append_5 dr_fu a1 y2 (x3 - 1) h
set_option maxRecDepth 100000 in
set_option maxHeartbeats 400000 in
theorem t_T_append_5 {Q : dr_RS → dr_AH → Prop} : ∀ (n : Nat) (a1 : Nat) (y2 : Int64) (x3 : Int32) (h : dr_AH), dr_p (f_T_append_5 n a1 y2 x3 h) Q → dr_W mi_T_append 0 0 5 [(0, .ref a1), (1, .long y2), (4, .int x3)] [] h Q := by
  intro n
  induction n with
  | zero => intro a1 y2 x3 h hp; exact (dr_p0 hp).elim
  | succ n ih =>
    intro a1 y2 x3 h hp
    unfold f_T_append_5 at hp
    refine wp_iload d_T_append_5 2 rfl ?_
    refine wp_if_lt (tgt := 59) d_T_append_7 (by decide) hp (fun _ hp => ?_) (fun _ hp => ?_)
    · refine wp_aload_n d_T_append_59 0 rfl ?_
      refine wp_gi cl_T fl_T_15 (by decide) d_T_append_60 hp (fun x4 hp => ?_)
      exact wp_ireturn rfl rfl d_T_append_63 hp
    · refine wp_aload_n d_T_append_10 0 rfl ?_
      refine wp_gi cl_T fl_T_15 (by decide) d_T_append_11 hp (fun x5 hp => ?_)
      refine wp_aload_n d_T_append_14 0 rfl ?_
      refine wp_gr cl_T fl_T_9 (by decide) d_T_append_15 hp (fun a6 hp => ?_) (fun hp => (dr_p0 hp).elim)
      refine wp_alen (c := 0) (by decide) d_T_append_18 hp (fun x7 hp => ?_)
      refine wp_icmp_ge (tgt := 59) d_T_append_19 (by decide) hp (fun _ hp => ?_) (fun _ hp => ?_)
      · refine wp_aload_n d_T_append_59 0 rfl ?_
        refine wp_gi cl_T fl_T_15 (by decide) d_T_append_60 hp (fun x8 hp => ?_)
        exact wp_ireturn rfl rfl d_T_append_63 hp
      · refine wp_aload_n d_T_append_22 0 rfl ?_
        refine wp_gr cl_T fl_T_9 (by decide) d_T_append_23 hp (fun a9 hp => ?_) (fun hp => (dr_p0 hp).elim)
        refine wp_aload_n d_T_append_26 0 rfl ?_
        refine wp_gi cl_T fl_T_15 (by decide) d_T_append_27 hp (fun x10 hp => ?_)
        refine wp_lload_n d_T_append_30 1 rfl ?_
        refine wp_bipush (v := 8) (by decide) d_T_append_31 ?_
        refine wp_iload d_T_append_33 2 rfl ?_
        refine wp_imul d_T_append_35 ?_
        refine wp_lushr (v := (dr_lushr y2 (8 * x3))) rfl d_T_append_36 ?_
        refine wp_l2i d_T_append_37 ?_
        refine wp_sipush (v := 255) (by decide) d_T_append_38 ?_
        refine wp_iand d_T_append_41 ?_
        refine wp_iastore d_T_append_42 hp (fun h11 hp => ?_)
        refine wp_aload_n d_T_append_43 0 rfl ?_
        refine wp_dup rfl d_T_append_44 ?_
        refine wp_gi cl_T fl_T_15 (by decide) d_T_append_45 hp (fun x12 hp => ?_)
        refine wp_iconst (v := 1) (by decide) d_T_append_48 ?_
        refine wp_iadd d_T_append_49 ?_
        refine wp_put cl_T fl_T_15 (by decide) (Or.inl (by rfl)) (by rfl) (by rfl) d_T_append_50 hp (fun h13 hp => ?_)
        refine wp_iinc (v := (x3 + (-1))) (l' := [(4, .int (x3 + (-1))), (0, .ref a1), (1, .long y2)]) d_T_append_53 2 rfl rfl (by decide) rfl ?_
        refine wp_goto (tgt := 5) d_T_append_56 (by decide) ?_
        exact wp_sub [1, 2, 0] rfl (ih _ _ _ _ hp)
set_option maxRecDepth 100000 in
set_option maxHeartbeats 400000 in
theorem t_T_append {Q : dr_RS → dr_AH → Prop} : ∀ (a1 : Nat) (y2 : Int64) (x3 : Int32) (h : dr_AH), dr_p (f_T_append a1 y2 x3 h) Q → dr_W mi_T_append 0 0 0 [(0, .ref a1), (1, .long y2), (3, .int x3)] [] h Q := by
  intro a1 y2 x3 h hp
  unfold f_T_append at hp
  refine wp_iload_n d_T_append_0 2 rfl ?_
  refine wp_iconst (v := 1) (by decide) d_T_append_1 ?_
  refine wp_isub d_T_append_2 ?_
  refine wp_istore (l' := [(4, .int (x3 - 1)), (0, .ref a1), (1, .long y2), (3, .int x3)]) d_T_append_3 (by decide) rfl ?_
  exact wp_sub [1, 2, 0] rfl (t_T_append_5 dr_fu _ _ _ _ hp)
def f_T_nextByte (a1 : Nat) (h : dr_AH) : Option (dr_RS × dr_AH) :=
  (dr_gi h 2 a1 2 fun x2 => if x2 < 0 then some (.inl (some (.int (-1))), h) else (dr_gi h 2 a1 2 fun x3 => (dr_gi h 2 a1 1 fun x4 => if x4 ≤ x3 then some (.inl (some (.int (-1))), h) else (dr_gi h 2 a1 2 fun x5 => (dr_gr' h 2 a1 0 fun a6 => (dr_ln h 0 a6 fun x7 => if x7 ≤ x5 then some (.inl (some (.int (-1))), h) else (dr_gr' h 2 a1 0 fun a8 => (dr_gi h 2 a1 2 fun x9 => (dr_ai h a8 x9 fun x10 => some (.inl (some (.int x10)), h))))))))))
set_option maxRecDepth 100000 in
set_option maxHeartbeats 400000 in
theorem t_T_nextByte {Q : dr_RS → dr_AH → Prop} : ∀ (a1 : Nat) (h : dr_AH), dr_p (f_T_nextByte a1 h) Q → dr_W mi_T_nextByte 0 0 0 [(0, .ref a1)] [] h Q := by
  intro a1 h hp
  unfold f_T_nextByte at hp
  refine wp_aload_n d_T_nextByte_0 0 rfl ?_
  refine wp_gi cl_T fl_T_19 (by decide) d_T_nextByte_1 hp (fun x2 hp => ?_)
  refine wp_if_lt (tgt := 42) d_T_nextByte_4 (by decide) hp (fun _ hp => ?_) (fun _ hp => ?_)
  · refine wp_iconst (v := (-1)) (by decide) d_T_nextByte_42 ?_
    exact wp_ireturn rfl rfl d_T_nextByte_43 hp
  · refine wp_aload_n d_T_nextByte_7 0 rfl ?_
    refine wp_gi cl_T fl_T_19 (by decide) d_T_nextByte_8 hp (fun x3 hp => ?_)
    refine wp_aload_n d_T_nextByte_11 0 rfl ?_
    refine wp_gi cl_T fl_T_15 (by decide) d_T_nextByte_12 hp (fun x4 hp => ?_)
    refine wp_icmp_ge (tgt := 42) d_T_nextByte_15 (by decide) hp (fun _ hp => ?_) (fun _ hp => ?_)
    · refine wp_iconst (v := (-1)) (by decide) d_T_nextByte_42 ?_
      exact wp_ireturn rfl rfl d_T_nextByte_43 hp
    · refine wp_aload_n d_T_nextByte_18 0 rfl ?_
      refine wp_gi cl_T fl_T_19 (by decide) d_T_nextByte_19 hp (fun x5 hp => ?_)
      refine wp_aload_n d_T_nextByte_22 0 rfl ?_
      refine wp_gr cl_T fl_T_9 (by decide) d_T_nextByte_23 hp (fun a6 hp => ?_) (fun hp => (dr_p0 hp).elim)
      refine wp_alen (c := 0) (by decide) d_T_nextByte_26 hp (fun x7 hp => ?_)
      refine wp_icmp_ge (tgt := 42) d_T_nextByte_27 (by decide) hp (fun _ hp => ?_) (fun _ hp => ?_)
      · refine wp_iconst (v := (-1)) (by decide) d_T_nextByte_42 ?_
        exact wp_ireturn rfl rfl d_T_nextByte_43 hp
      · refine wp_aload_n d_T_nextByte_30 0 rfl ?_
        refine wp_gr cl_T fl_T_9 (by decide) d_T_nextByte_31 hp (fun a8 hp => ?_) (fun hp => (dr_p0 hp).elim)
        refine wp_aload_n d_T_nextByte_34 0 rfl ?_
        refine wp_gi cl_T fl_T_19 (by decide) d_T_nextByte_35 hp (fun x9 hp => ?_)
        refine wp_iaload d_T_nextByte_38 hp (fun x10 hp => ?_)
        refine wp_goto (tgt := 43) d_T_nextByte_39 (by decide) ?_
        exact wp_ireturn rfl rfl d_T_nextByte_43 hp
def f_T_skipBlanks_0 : Nat → Nat → dr_AH → Option (dr_RS × dr_AH)
  | 0, _, _ => none
  | n + 1, a1, h => (dr_gi h 2 a1 2 fun x2 => (dr_gi h 2 a1 1 fun x3 => if x3 ≤ x2 then some (.inl none, h) else (dr_k h a1 2 (dr_ci' (f_T_nextByte a1 h) fun x5 h4 => if x5 = 32 then (dr_gi h4 2 a1 2 fun x6 => (dr_pf h4 2 a1 2 (.int (x6 + 1)) fun h7 => f_T_skipBlanks_0 n a1 h7)) else some (.inl none, h4)))))
def f_T_skipBlanks (a1 : Nat) (h : dr_AH) : Option (dr_RS × dr_AH) :=
  f_T_skipBlanks_0 dr_fu a1 h
set_option maxRecDepth 100000 in
set_option maxHeartbeats 400000 in
theorem t_T_skipBlanks_0 {Q : dr_RS → dr_AH → Prop} : ∀ (n : Nat) (a1 : Nat) (h : dr_AH), dr_p (f_T_skipBlanks_0 n a1 h) Q → dr_W mi_T_skipBlanks 1 12 0 [(0, .ref a1)] [] h Q := by
  intro n
  induction n with
  | zero => intro a1 h hp; exact (dr_p0 hp).elim
  | succ n ih =>
    intro a1 h hp
    unfold f_T_skipBlanks_0 at hp
    refine wp_aload_n d_T_skipBlanks_0 0 rfl ?_
    refine wp_gi cl_T fl_T_19 (by decide) d_T_skipBlanks_1 hp (fun x2 hp => ?_)
    refine wp_aload_n d_T_skipBlanks_4 0 rfl ?_
    refine wp_gi cl_T fl_T_15 (by decide) d_T_skipBlanks_5 hp (fun x3 hp => ?_)
    refine wp_icmp_ge (tgt := 33) d_T_skipBlanks_8 (by decide) hp (fun _ hp => ?_) (fun _ hp => ?_)
    · exact wp_return rfl d_T_skipBlanks_33 hp
    · refine wp_aload_n d_T_skipBlanks_11 0 rfl ?_
      refine wp_k hp (fun hk hp => ?_)
      refine wp_ci (M' := mi_T_nextByte) (As := [.ref a1]) (st := []) (fr' := 0) (wo' := 0) (dr_sV (A := []) cl_T hk tw_270 tw_272 tp_2 co_T_nextByte ⟨by decide, by decide⟩ (by rfl) d_T_skipBlanks_12 rfl) co_T_nextByte (by decide +kernel) (by decide) (Nat.le_of_ble_eq_true rfl) (Nat.le_of_ble_eq_true rfl) (fun Q' hq => t_T_nextByte _ _ hq) hp (fun x5 h4 hp => ?_) (fun E q h3 hp => wx_out (by decide) hp)
      refine wp_bipush (v := 32) (by decide) d_T_skipBlanks_15 ?_
      refine wp_icmp_ne (tgt := 33) d_T_skipBlanks_17 (by decide) hp (fun _ hp => ?_) (fun _ hp => ?_)
      · exact wp_return rfl d_T_skipBlanks_33 hp
      · refine wp_aload_n d_T_skipBlanks_20 0 rfl ?_
        refine wp_dup rfl d_T_skipBlanks_21 ?_
        refine wp_gi cl_T fl_T_19 (by decide) d_T_skipBlanks_22 hp (fun x6 hp => ?_)
        refine wp_iconst (v := 1) (by decide) d_T_skipBlanks_25 ?_
        refine wp_iadd d_T_skipBlanks_26 ?_
        refine wp_put cl_T fl_T_19 (by decide) (Or.inl (by rfl)) (by rfl) (by rfl) d_T_skipBlanks_27 hp (fun h7 hp => ?_)
        refine wp_goto (tgt := 0) d_T_skipBlanks_30 (by decide) ?_
        exact wp_sub [0] rfl (ih _ _ hp)
set_option maxRecDepth 100000 in
set_option maxHeartbeats 400000 in
theorem t_T_skipBlanks {Q : dr_RS → dr_AH → Prop} : ∀ (a1 : Nat) (h : dr_AH), dr_p (f_T_skipBlanks a1 h) Q → dr_W mi_T_skipBlanks 1 12 0 [(0, .ref a1)] [] h Q := by
  intro a1 h hp
  unfold f_T_skipBlanks at hp
  exact wp_sub [0] rfl (t_T_skipBlanks_0 dr_fu _ _ hp)
def f_T_accept (a1 : Nat) (x2 : Int32) (h : dr_AH) : Option (dr_RS × dr_AH) :=
  (dr_k h a1 2 (dr_cv' (f_T_skipBlanks a1 h) fun h3 => (dr_k h3 a1 2 (dr_ci' (f_T_nextByte a1 h3) fun x5 h4 => if x5 = x2 then (dr_gi h4 2 a1 2 fun x6 => (dr_pf h4 2 a1 2 (.int (x6 + 1)) fun h7 => dr_rz 1 h7)) else dr_rz 0 h4))))
set_option maxRecDepth 100000 in
set_option maxHeartbeats 400000 in
theorem t_T_accept {Q : dr_RS → dr_AH → Prop} : ∀ (a1 : Nat) (x2 : Int32) (h : dr_AH), dr_p (f_T_accept a1 x2 h) Q → dr_W mi_T_accept 2 24 0 [(0, .ref a1), (1, .int x2)] [] h Q := by
  intro a1 x2 h hp
  unfold f_T_accept at hp
  refine wp_aload_n d_T_accept_0 0 rfl ?_
  refine wp_k hp (fun hk hp => ?_)
  refine wp_cv (M' := mi_T_skipBlanks) (As := [.ref a1]) (st := []) (fr' := 1) (wo' := 12) (dr_sV (A := []) cl_T hk tw_266 tw_268 tp_1 co_T_skipBlanks ⟨by decide, by decide⟩ (by rfl) d_T_accept_1 rfl) co_T_skipBlanks (by decide +kernel) (by decide) (Nat.le_of_ble_eq_true rfl) (Nat.le_of_ble_eq_true rfl) (fun Q' hq => t_T_skipBlanks _ _ hq) hp (fun h3 hp => ?_) (fun E q h3 hp => wx_out (by decide) hp)
  refine wp_aload_n d_T_accept_4 0 rfl ?_
  refine wp_k hp (fun hk hp => ?_)
  refine wp_ci (M' := mi_T_nextByte) (As := [.ref a1]) (st := []) (fr' := 0) (wo' := 0) (dr_sV (A := []) cl_T hk tw_270 tw_272 tp_2 co_T_nextByte ⟨by decide, by decide⟩ (by rfl) d_T_accept_5 rfl) co_T_nextByte (by decide +kernel) (by decide) (Nat.le_of_ble_eq_true rfl) (Nat.le_of_ble_eq_true rfl) (fun Q' hq => t_T_nextByte _ _ hq) hp (fun x5 h4 hp => ?_) (fun E q h3 hp => wx_out (by decide) hp)
  refine wp_iload_n d_T_accept_8 1 rfl ?_
  refine wp_icmp_eq (tgt := 14) d_T_accept_9 (by decide) hp (fun _ hp => ?_) (fun _ hp => ?_)
  · refine wp_aload_n d_T_accept_14 0 rfl ?_
    refine wp_dup rfl d_T_accept_15 ?_
    refine wp_gi cl_T fl_T_19 (by decide) d_T_accept_16 hp (fun x6 hp => ?_)
    refine wp_iconst (v := 1) (by decide) d_T_accept_19 ?_
    refine wp_iadd d_T_accept_20 ?_
    refine wp_put cl_T fl_T_19 (by decide) (Or.inl (by rfl)) (by rfl) (by rfl) d_T_accept_21 hp (fun h7 hp => ?_)
    refine wp_iconst (v := 1) (by decide) d_T_accept_24 ?_
    exact wp_zreturn rfl d_T_accept_25 hp
  · refine wp_iconst (v := 0) (by decide) d_T_accept_12 ?_
    exact wp_zreturn rfl d_T_accept_13 hp
def f_T_fail (a1 : Nat) (x2 : Int32) (h : dr_AH) : Option (dr_RS × dr_AH) :=
  (dr_gi h 2 a1 3 fun x3 => if x3 = (-1) then (dr_pf h 2 a1 3 (.int x2) fun h4 => some (.inl none, h4)) else some (.inl none, h))
set_option maxRecDepth 100000 in
set_option maxHeartbeats 400000 in
theorem t_T_fail {Q : dr_RS → dr_AH → Prop} : ∀ (a1 : Nat) (x2 : Int32) (h : dr_AH), dr_p (f_T_fail a1 x2 h) Q → dr_W mi_T_fail 0 0 0 [(0, .ref a1), (1, .int x2)] [] h Q := by
  intro a1 x2 h hp
  unfold f_T_fail at hp
  refine wp_aload_n d_T_fail_0 0 rfl ?_
  refine wp_gi cl_T fl_T_22 (by decide) d_T_fail_1 hp (fun x3 hp => ?_)
  refine wp_iconst (v := (-1)) (by decide) d_T_fail_4 ?_
  refine wp_icmp_ne (tgt := 13) d_T_fail_5 (by decide) hp (fun _ hp => ?_) (fun _ hp => ?_)
  · exact wp_return rfl d_T_fail_13 hp
  · refine wp_aload_n d_T_fail_8 0 rfl ?_
    refine wp_iload_n d_T_fail_9 1 rfl ?_
    refine wp_put cl_T fl_T_22 (by decide) (Or.inl (by rfl)) (by rfl) (by rfl) d_T_fail_10 hp (fun h4 hp => ?_)
    exact wp_return rfl d_T_fail_13 hp
def f_T_isDigit (x1 : Int32) (h : dr_AH) : Option (dr_RS × dr_AH) :=
  if x1 < 48 then dr_rz 0 h else if 57 < x1 then dr_rz 0 h else dr_rz 1 h
set_option maxRecDepth 100000 in
set_option maxHeartbeats 400000 in
theorem t_T_isDigit {Q : dr_RS → dr_AH → Prop} : ∀ (x1 : Int32) (h : dr_AH), dr_p (f_T_isDigit x1 h) Q → dr_W mi_T_isDigit 0 0 0 [(0, .int x1)] [] h Q := by
  intro x1 h hp
  unfold f_T_isDigit at hp
  refine wp_iload_n d_T_isDigit_0 0 rfl ?_
  refine wp_bipush (v := 48) (by decide) d_T_isDigit_1 ?_
  refine wp_icmp_lt (tgt := 16) d_T_isDigit_3 (by decide) hp (fun _ hp => ?_) (fun _ hp => ?_)
  · refine wp_iconst (v := 0) (by decide) d_T_isDigit_16 ?_
    exact wp_zreturn rfl d_T_isDigit_17 hp
  · refine wp_iload_n d_T_isDigit_6 0 rfl ?_
    refine wp_bipush (v := 57) (by decide) d_T_isDigit_7 ?_
    refine wp_icmp_gt (tgt := 16) d_T_isDigit_9 (by decide) hp (fun _ hp => ?_) (fun _ hp => ?_)
    · refine wp_iconst (v := 0) (by decide) d_T_isDigit_16 ?_
      exact wp_zreturn rfl d_T_isDigit_17 hp
    · refine wp_iconst (v := 1) (by decide) d_T_isDigit_12 ?_
      refine wp_goto (tgt := 17) d_T_isDigit_13 (by decide) ?_
      exact wp_zreturn rfl d_T_isDigit_17 hp
def f_T_parseNumber_63 (a1 : Nat) (x2 : Int32) (x3 : Int32) (x4 : Int32) (x5 : Int32) (h : dr_AH) : Option (dr_RS × dr_AH) :=
  if x5 = 0 then (dr_gi h 2 a1 2 fun x10 => (dr_k h a1 2 (dr_cv' (f_T_fail a1 x10 h) fun h11 => some (.inl (some (.int x4)), h11)))) else if x4 < x2 then (dr_gi h 2 a1 2 fun x6 => (dr_k h a1 2 (dr_cv' (f_T_fail a1 (x6 - 1) h) fun h7 => some (.inl (some (.int x4)), h7)))) else if x4 ≤ x3 then some (.inl (some (.int x4)), h) else (dr_gi h 2 a1 2 fun x8 => (dr_k h a1 2 (dr_cv' (f_T_fail a1 (x8 - 1) h) fun h9 => some (.inl (some (.int x4)), h9))))
def f_T_parseNumber_34 (rc9 : Nat → Int32 → Int32 → Int32 → Int32 → dr_AH → Option (dr_RS × dr_AH)) (a1 : Nat) (x2 : Int32) (x3 : Int32) (x4 : Int32) (x5 : Int32) (h : dr_AH) : Option (dr_RS × dr_AH) :=
  (dr_k h a1 2 (dr_ci' (f_T_nextByte a1 h) fun x7 h6 => (dr_gi h6 2 a1 2 fun x8 => (dr_pf h6 2 a1 2 (.int (x8 + 1)) fun h9 => rc9 a1 x2 x3 (((x4 * 10) + x7) - 48) (x5 + 1) h9))))
def f_T_parseNumber_9 : Nat → Nat → Int32 → Int32 → Int32 → Int32 → dr_AH → Option (dr_RS × dr_AH)
  | 0, _, _, _, _, _, _ => none
  | n + 1, a1, x2, x3, x4, x5, h => if 4 ≤ x5 then f_T_parseNumber_63 a1 x2 x3 x4 x5 h else (dr_k h a1 2 (dr_ci' (f_T_nextByte a1 h) fun x7 h6 => (dr_ci' (f_T_isDigit x7 h6) fun x9 h8 => if x9 = 0 then f_T_parseNumber_63 a1 x2 x3 x4 x5 h8 else if x5 = 0 then f_T_parseNumber_34 (f_T_parseNumber_9 n) a1 x2 x3 x4 x5 h8 else if x4 ≤ 0 then f_T_parseNumber_63 a1 x2 x3 x4 x5 h8 else f_T_parseNumber_34 (f_T_parseNumber_9 n) a1 x2 x3 x4 x5 h8)))
def f_T_parseNumber (a1 : Nat) (x2 : Int32) (x3 : Int32) (h : dr_AH) : Option (dr_RS × dr_AH) :=
  (dr_k h a1 2 (dr_cv' (f_T_skipBlanks a1 h) fun h4 => f_T_parseNumber_9 dr_fu a1 x2 x3 0 0 h4))
set_option maxRecDepth 100000 in
set_option maxHeartbeats 400000 in
theorem t_T_parseNumber_63 {Q : dr_RS → dr_AH → Prop} : ∀ (a1 : Nat) (x2 : Int32) (x3 : Int32) (x4 : Int32) (x5 : Int32) (h : dr_AH), dr_p (f_T_parseNumber_63 a1 x2 x3 x4 x5 h) Q → dr_W mi_T_parseNumber 2 24 63 [(0, .ref a1), (1, .int x2), (2, .int x3), (3, .int x4), (4, .int x5)] [] h Q := by
  intro a1 x2 x3 x4 x5 h hp
  unfold f_T_parseNumber_63 at hp
  refine wp_iload d_T_parseNumber_63 4 rfl ?_
  refine wp_if_ne (tgt := 79) d_T_parseNumber_65 (by decide) hp (fun _ hp => ?_) (fun _ hp => ?_)
  · refine wp_iload_n d_T_parseNumber_79 3 rfl ?_
    refine wp_iload_n d_T_parseNumber_80 1 rfl ?_
    refine wp_icmp_lt (tgt := 89) d_T_parseNumber_81 (by decide) hp (fun _ hp => ?_) (fun _ hp => ?_)
    · refine wp_aload_n d_T_parseNumber_89 0 rfl ?_
      refine wp_aload_n d_T_parseNumber_90 0 rfl ?_
      refine wp_gi cl_T fl_T_19 (by decide) d_T_parseNumber_91 hp (fun x6 hp => ?_)
      refine wp_iconst (v := 1) (by decide) d_T_parseNumber_94 ?_
      refine wp_isub d_T_parseNumber_95 ?_
      refine wp_k hp (fun hk hp => ?_)
      refine wp_cv (M' := mi_T_fail) (As := [.ref a1, .int (x6 - 1)]) (st := []) (fr' := 0) (wo' := 0) (dr_sV (A := [.int (x6 - 1)]) cl_T hk tw_293 tw_295 tp_7 co_T_fail ⟨by decide, by decide⟩ (by rfl) d_T_parseNumber_96 rfl) co_T_fail (by decide +kernel) (by decide) (Nat.le_of_ble_eq_true rfl) (Nat.le_of_ble_eq_true rfl) (fun Q' hq => t_T_fail _ _ _ hq) hp (fun h7 hp => ?_) (fun E q h3 hp => wx_out (by decide) hp)
      refine wp_iload_n d_T_parseNumber_99 3 rfl ?_
      exact wp_ireturn rfl rfl d_T_parseNumber_100 hp
    · refine wp_iload_n d_T_parseNumber_84 3 rfl ?_
      refine wp_iload_n d_T_parseNumber_85 2 rfl ?_
      refine wp_icmp_le (tgt := 99) d_T_parseNumber_86 (by decide) hp (fun _ hp => ?_) (fun _ hp => ?_)
      · refine wp_iload_n d_T_parseNumber_99 3 rfl ?_
        exact wp_ireturn rfl rfl d_T_parseNumber_100 hp
      · refine wp_aload_n d_T_parseNumber_89 0 rfl ?_
        refine wp_aload_n d_T_parseNumber_90 0 rfl ?_
        refine wp_gi cl_T fl_T_19 (by decide) d_T_parseNumber_91 hp (fun x8 hp => ?_)
        refine wp_iconst (v := 1) (by decide) d_T_parseNumber_94 ?_
        refine wp_isub d_T_parseNumber_95 ?_
        refine wp_k hp (fun hk hp => ?_)
        refine wp_cv (M' := mi_T_fail) (As := [.ref a1, .int (x8 - 1)]) (st := []) (fr' := 0) (wo' := 0) (dr_sV (A := [.int (x8 - 1)]) cl_T hk tw_293 tw_295 tp_7 co_T_fail ⟨by decide, by decide⟩ (by rfl) d_T_parseNumber_96 rfl) co_T_fail (by decide +kernel) (by decide) (Nat.le_of_ble_eq_true rfl) (Nat.le_of_ble_eq_true rfl) (fun Q' hq => t_T_fail _ _ _ hq) hp (fun h9 hp => ?_) (fun E q h3 hp => wx_out (by decide) hp)
        refine wp_iload_n d_T_parseNumber_99 3 rfl ?_
        exact wp_ireturn rfl rfl d_T_parseNumber_100 hp
  · refine wp_aload_n d_T_parseNumber_68 0 rfl ?_
    refine wp_aload_n d_T_parseNumber_69 0 rfl ?_
    refine wp_gi cl_T fl_T_19 (by decide) d_T_parseNumber_70 hp (fun x10 hp => ?_)
    refine wp_k hp (fun hk hp => ?_)
    refine wp_cv (M' := mi_T_fail) (As := [.ref a1, .int x10]) (st := []) (fr' := 0) (wo' := 0) (dr_sV (A := [.int x10]) cl_T hk tw_293 tw_295 tp_7 co_T_fail ⟨by decide, by decide⟩ (by rfl) d_T_parseNumber_73 rfl) co_T_fail (by decide +kernel) (by decide) (Nat.le_of_ble_eq_true rfl) (Nat.le_of_ble_eq_true rfl) (fun Q' hq => t_T_fail _ _ _ hq) hp (fun h11 hp => ?_) (fun E q h3 hp => wx_out (by decide) hp)
    refine wp_goto (tgt := 99) d_T_parseNumber_76 (by decide) ?_
    refine wp_iload_n d_T_parseNumber_99 3 rfl ?_
    exact wp_ireturn rfl rfl d_T_parseNumber_100 hp
set_option maxRecDepth 100000 in
set_option maxHeartbeats 400000 in
theorem t_T_parseNumber_34 {Q : dr_RS → dr_AH → Prop} {rc9 : Nat → Int32 → Int32 → Int32 → Int32 → dr_AH → Option (dr_RS × dr_AH)} (hr9 : ∀ (a1 : Nat) (x2 : Int32) (x3 : Int32) (x4 : Int32) (x5 : Int32) (h : dr_AH), dr_p (rc9 a1 x2 x3 x4 x5 h) Q → dr_W mi_T_parseNumber 2 24 9 [(0, .ref a1), (1, .int x2), (2, .int x3), (3, .int x4), (4, .int x5)] [] h Q) : ∀ (a1 : Nat) (x2 : Int32) (x3 : Int32) (x4 : Int32) (x5 : Int32) (h : dr_AH), dr_p (f_T_parseNumber_34 rc9 a1 x2 x3 x4 x5 h) Q → dr_W mi_T_parseNumber 2 24 34 [(0, .ref a1), (1, .int x2), (2, .int x3), (3, .int x4), (4, .int x5)] [] h Q := by
  intro a1 x2 x3 x4 x5 h hp
  unfold f_T_parseNumber_34 at hp
  refine wp_iload_n d_T_parseNumber_34 3 rfl ?_
  refine wp_bipush (v := 10) (by decide) d_T_parseNumber_35 ?_
  refine wp_imul d_T_parseNumber_37 ?_
  refine wp_aload_n d_T_parseNumber_38 0 rfl ?_
  refine wp_k hp (fun hk hp => ?_)
  refine wp_ci (M' := mi_T_nextByte) (As := [.ref a1]) (st := [.int (x4 * 10)]) (fr' := 0) (wo' := 0) (dr_sV (A := []) cl_T hk tw_270 tw_272 tp_2 co_T_nextByte ⟨by decide, by decide⟩ (by rfl) d_T_parseNumber_39 rfl) co_T_nextByte (by decide +kernel) (by decide) (Nat.le_of_ble_eq_true rfl) (Nat.le_of_ble_eq_true rfl) (fun Q' hq => t_T_nextByte _ _ hq) hp (fun x7 h6 hp => ?_) (fun E q h3 hp => wx_out (by decide) hp)
  refine wp_iadd d_T_parseNumber_42 ?_
  refine wp_bipush (v := 48) (by decide) d_T_parseNumber_43 ?_
  refine wp_isub d_T_parseNumber_45 ?_
  refine wp_istore_n (l' := [(3, .int (((x4 * 10) + x7) - 48)), (0, .ref a1), (1, .int x2), (2, .int x3), (4, .int x5)]) d_T_parseNumber_46 (by decide) rfl ?_
  refine wp_iinc (v := (x5 + 1)) (l' := [(4, .int (x5 + 1)), (3, .int (((x4 * 10) + x7) - 48)), (0, .ref a1), (1, .int x2), (2, .int x3)]) d_T_parseNumber_47 4 rfl rfl (by decide) rfl ?_
  refine wp_aload_n d_T_parseNumber_50 2 rfl ?_
  refine wp_dup rfl d_T_parseNumber_51 ?_
  refine wp_gi cl_T fl_T_19 (by decide) d_T_parseNumber_52 hp (fun x8 hp => ?_)
  refine wp_iconst (v := 1) (by decide) d_T_parseNumber_55 ?_
  refine wp_iadd d_T_parseNumber_56 ?_
  refine wp_put cl_T fl_T_19 (by decide) (Or.inl (by rfl)) (by rfl) (by rfl) d_T_parseNumber_57 hp (fun h9 hp => ?_)
  refine wp_goto (tgt := 9) d_T_parseNumber_60 (by decide) ?_
  exact wp_sub [2, 3, 4, 1, 0] rfl (hr9 _ _ _ _ _ _ hp)
set_option maxRecDepth 100000 in
set_option maxHeartbeats 400000 in
theorem t_T_parseNumber_9 {Q : dr_RS → dr_AH → Prop} : ∀ (n : Nat) (a1 : Nat) (x2 : Int32) (x3 : Int32) (x4 : Int32) (x5 : Int32) (h : dr_AH), dr_p (f_T_parseNumber_9 n a1 x2 x3 x4 x5 h) Q → dr_W mi_T_parseNumber 2 24 9 [(0, .ref a1), (1, .int x2), (2, .int x3), (3, .int x4), (4, .int x5)] [] h Q := by
  intro n
  induction n with
  | zero => intro a1 x2 x3 x4 x5 h hp; exact (dr_p0 hp).elim
  | succ n ih =>
    intro a1 x2 x3 x4 x5 h hp
    unfold f_T_parseNumber_9 at hp
    refine wp_iload d_T_parseNumber_9 4 rfl ?_
    refine wp_iconst (v := 4) (by decide) d_T_parseNumber_11 ?_
    refine wp_icmp_ge (tgt := 63) d_T_parseNumber_12 (by decide) hp (fun _ hp => ?_) (fun _ hp => ?_)
    · exact wp_sub [0, 1, 2, 3, 4] rfl (t_T_parseNumber_63 _ _ _ _ _ _ hp)
    · refine wp_aload_n d_T_parseNumber_15 0 rfl ?_
      refine wp_k hp (fun hk hp => ?_)
      refine wp_ci (M' := mi_T_nextByte) (As := [.ref a1]) (st := []) (fr' := 0) (wo' := 0) (dr_sV (A := []) cl_T hk tw_270 tw_272 tp_2 co_T_nextByte ⟨by decide, by decide⟩ (by rfl) d_T_parseNumber_16 rfl) co_T_nextByte (by decide +kernel) (by decide) (Nat.le_of_ble_eq_true rfl) (Nat.le_of_ble_eq_true rfl) (fun Q' hq => t_T_nextByte _ _ hq) hp (fun x7 h6 hp => ?_) (fun E q h3 hp => wx_out (by decide) hp)
      refine wp_ci (M' := mi_T_isDigit) (As := [.int x7]) (st := []) (fr' := 0) (wo' := 0) (dr_sS (A := [.int x7]) tw_290 tw_291 tw_2 co_T_isDigit ⟨by decide, by decide⟩ (by rfl) d_T_parseNumber_19 rfl) co_T_isDigit (by decide +kernel) (by decide) (Nat.le_of_ble_eq_true rfl) (Nat.le_of_ble_eq_true rfl) (fun Q' hq => t_T_isDigit _ _ hq) hp (fun x9 h8 hp => ?_) (fun E q h3 hp => wx_out (by decide) hp)
      refine wp_if_eq (tgt := 63) d_T_parseNumber_22 (by decide) hp (fun _ hp => ?_) (fun _ hp => ?_)
      · exact wp_sub [0, 1, 2, 3, 4] rfl (t_T_parseNumber_63 _ _ _ _ _ _ hp)
      · refine wp_iload d_T_parseNumber_25 4 rfl ?_
        refine wp_if_eq (tgt := 34) d_T_parseNumber_27 (by decide) hp (fun _ hp => ?_) (fun _ hp => ?_)
        · exact wp_sub [0, 1, 2, 3, 4] rfl (t_T_parseNumber_34 ih _ _ _ _ _ _ hp)
        · refine wp_iload_n d_T_parseNumber_30 3 rfl ?_
          refine wp_if_le (tgt := 63) d_T_parseNumber_31 (by decide) hp (fun _ hp => ?_) (fun _ hp => ?_)
          · exact wp_sub [0, 1, 2, 3, 4] rfl (t_T_parseNumber_63 _ _ _ _ _ _ hp)
          · exact wp_sub [0, 1, 2, 3, 4] rfl (t_T_parseNumber_34 ih _ _ _ _ _ _ hp)
set_option maxRecDepth 100000 in
set_option maxHeartbeats 400000 in
theorem t_T_parseNumber {Q : dr_RS → dr_AH → Prop} : ∀ (a1 : Nat) (x2 : Int32) (x3 : Int32) (h : dr_AH), dr_p (f_T_parseNumber a1 x2 x3 h) Q → dr_W mi_T_parseNumber 2 24 0 [(0, .ref a1), (1, .int x2), (2, .int x3)] [] h Q := by
  intro a1 x2 x3 h hp
  unfold f_T_parseNumber at hp
  refine wp_aload_n d_T_parseNumber_0 0 rfl ?_
  refine wp_k hp (fun hk hp => ?_)
  refine wp_cv (M' := mi_T_skipBlanks) (As := [.ref a1]) (st := []) (fr' := 1) (wo' := 12) (dr_sV (A := []) cl_T hk tw_266 tw_268 tp_1 co_T_skipBlanks ⟨by decide, by decide⟩ (by rfl) d_T_parseNumber_1 rfl) co_T_skipBlanks (by decide +kernel) (by decide) (Nat.le_of_ble_eq_true rfl) (Nat.le_of_ble_eq_true rfl) (fun Q' hq => t_T_skipBlanks _ _ hq) hp (fun h4 hp => ?_) (fun E q h3 hp => wx_out (by decide) hp)
  refine wp_iconst (v := 0) (by decide) d_T_parseNumber_4 ?_
  refine wp_istore_n (l' := [(3, .int 0), (0, .ref a1), (1, .int x2), (2, .int x3)]) d_T_parseNumber_5 (by decide) rfl ?_
  refine wp_iconst (v := 0) (by decide) d_T_parseNumber_6 ?_
  refine wp_istore (l' := [(4, .int 0), (3, .int 0), (0, .ref a1), (1, .int x2), (2, .int x3)]) d_T_parseNumber_7 (by decide) rfl ?_
  exact wp_sub [2, 3, 4, 1, 0] rfl (t_T_parseNumber_9 dr_fu _ _ _ _ _ _ hp)
def f_T_expect (a1 : Nat) (x2 : Int32) (h : dr_AH) : Option (dr_RS × dr_AH) :=
  (dr_k h a1 2 (dr_ci' (f_T_accept a1 x2 h) fun x4 h3 => if x4 = 0 then (dr_gi h3 2 a1 2 fun x5 => (dr_k h3 a1 2 (dr_cv' (f_T_fail a1 x5 h3) fun h6 => some (.inl none, h6)))) else some (.inl none, h3)))
set_option maxRecDepth 100000 in
set_option maxHeartbeats 400000 in
theorem t_T_expect {Q : dr_RS → dr_AH → Prop} : ∀ (a1 : Nat) (x2 : Int32) (h : dr_AH), dr_p (f_T_expect a1 x2 h) Q → dr_W mi_T_expect 3 37 0 [(0, .ref a1), (1, .int x2)] [] h Q := by
  intro a1 x2 h hp
  unfold f_T_expect at hp
  refine wp_aload_n d_T_expect_0 0 rfl ?_
  refine wp_iload_n d_T_expect_1 1 rfl ?_
  refine wp_k hp (fun hk hp => ?_)
  refine wp_ci (M' := mi_T_accept) (As := [.ref a1, .int x2]) (st := []) (fr' := 2) (wo' := 24) (dr_sV (A := [.int x2]) cl_T hk tw_278 tw_280 tp_4 co_T_accept ⟨by decide, by decide⟩ (by rfl) d_T_expect_2 rfl) co_T_accept (by decide +kernel) (by decide) (Nat.le_of_ble_eq_true rfl) (Nat.le_of_ble_eq_true rfl) (fun Q' hq => t_T_accept _ _ _ hq) hp (fun x4 h3 hp => ?_) (fun E q h3 hp => wx_out (by decide) hp)
  refine wp_if_ne (tgt := 16) d_T_expect_5 (by decide) hp (fun _ hp => ?_) (fun _ hp => ?_)
  · exact wp_return rfl d_T_expect_16 hp
  · refine wp_aload_n d_T_expect_8 0 rfl ?_
    refine wp_aload_n d_T_expect_9 0 rfl ?_
    refine wp_gi cl_T fl_T_19 (by decide) d_T_expect_10 hp (fun x5 hp => ?_)
    refine wp_k hp (fun hk hp => ?_)
    refine wp_cv (M' := mi_T_fail) (As := [.ref a1, .int x5]) (st := []) (fr' := 0) (wo' := 0) (dr_sV (A := [.int x5]) cl_T hk tw_293 tw_295 tp_7 co_T_fail ⟨by decide, by decide⟩ (by rfl) d_T_expect_13 rfl) co_T_fail (by decide +kernel) (by decide) (Nat.le_of_ble_eq_true rfl) (Nat.le_of_ble_eq_true rfl) (fun Q' hq => t_T_fail _ _ _ hq) hp (fun h6 hp => ?_) (fun E q h3 hp => wx_out (by decide) hp)
    exact wp_return rfl d_T_expect_16 hp
def f_T_parseAim_58 (a1 : Nat) (a2 : Nat) (x3 : Int32) (x4 : Int32) (h : dr_AH) : Option (dr_RS × dr_AH) :=
  (dr_k h a1 2 (dr_cv' (f_T_expect a1 62 h) fun h5 => (dr_k h5 a1 2 (dr_ci' (f_T_parseNumber a1 0 19 h5) fun x7 h6 => (dr_k h6 a1 2 (dr_cv' (f_T_expect a1 60 h6) fun h8 => (dr_k h8 a1 2 (dr_ci' (f_T_parseNumber a1 1 999 h8) fun x10 h9 => (dr_k h9 a1 2 (dr_cv' (f_T_expect a1 119 h9) fun h11 => (dr_k h11 a1 2 (dr_ci' (f_T_parseNumber a1 1 9 h11) fun x13 h12 => (dr_k h12 a1 2 (dr_cv' (f_T_expect a1 59 h12) fun h14 => (dr_gi h14 2 a1 3 fun x15 => if x15 = (-1) then (dr_k h14 a2 1 (dr_cv' (f_S_addAim a2 x3 x4 x7 x10 x13 h14) fun h16 => some (.inl none, h16))) else some (.inl none, h14))))))))))))))))
def f_T_parseAim_26 (a1 : Nat) (a2 : Nat) (x3 : Int32) (h : dr_AH) : Option (dr_RS × dr_AH) :=
  (dr_k h a1 2 (dr_cv' (f_T_expect a1 101 h) fun h4 => (dr_k h4 a1 2 (dr_ci' (f_T_parseNumber a1 1 40 h4) fun x6 h5 => (dr_k h5 a2 1 (dr_ci' (f_S_hasEvent a2 x6 h5) fun x8 h7 => if x8 = 0 then (dr_gi h7 2 a1 2 fun x9 => (dr_k h7 a1 2 (dr_cv' (f_T_fail a1 (x9 - 1) h7) fun h10 => f_T_parseAim_58 a1 a2 x3 x6 h10))) else f_T_parseAim_58 a1 a2 x3 x6 h7))))))
def f_T_parseAim (a1 : Nat) (a2 : Nat) (h : dr_AH) : Option (dr_RS × dr_AH) :=
  (dr_k h a1 2 (dr_ci' (f_T_parseNumber a1 1 20 h) fun x4 h3 => (dr_k h3 a2 1 (dr_ci' (f_S_hasAim a2 x4 h3) fun x6 h5 => if x6 = 0 then f_T_parseAim_26 a1 a2 x4 h5 else (dr_gi h5 2 a1 2 fun x7 => (dr_k h5 a1 2 (dr_cv' (f_T_fail a1 (x7 - 1) h5) fun h8 => f_T_parseAim_26 a1 a2 x4 h8)))))))
set_option maxRecDepth 100000 in
set_option maxHeartbeats 400000 in
theorem t_T_parseAim_58 {Q : dr_RS → dr_AH → Prop} : ∀ (a1 : Nat) (a2 : Nat) (x3 : Int32) (x4 : Int32) (h : dr_AH), dr_p (f_T_parseAim_58 a1 a2 x3 x4 h) Q → dr_W mi_T_parseAim 4 50 58 [(0, .ref a1), (1, .ref a2), (2, .int x3), (3, .int x4)] [] h Q := by
  intro a1 a2 x3 x4 h hp
  unfold f_T_parseAim_58 at hp
  refine wp_aload_n d_T_parseAim_58 0 rfl ?_
  refine wp_bipush (v := 62) (by decide) d_T_parseAim_59 ?_
  refine wp_k hp (fun hk hp => ?_)
  refine wp_cv (M' := mi_T_expect) (As := [.ref a1, .int 62]) (st := []) (fr' := 3) (wo' := 37) (dr_sV (A := [.int 62]) cl_T hk tw_301 tw_303 tp_8 co_T_expect ⟨by decide, by decide⟩ (by rfl) d_T_parseAim_61 rfl) co_T_expect (by decide +kernel) (by decide) (Nat.le_of_ble_eq_true rfl) (Nat.le_of_ble_eq_true rfl) (fun Q' hq => t_T_expect _ _ _ hq) hp (fun h5 hp => ?_) (fun E q h3 hp => wx_out (by decide) hp)
  refine wp_aload_n d_T_parseAim_64 0 rfl ?_
  refine wp_iconst (v := 0) (by decide) d_T_parseAim_65 ?_
  refine wp_bipush (v := 19) (by decide) d_T_parseAim_66 ?_
  refine wp_k hp (fun hk hp => ?_)
  refine wp_ci (M' := mi_T_parseNumber) (As := [.ref a1, .int 0, .int 19]) (st := []) (fr' := 2) (wo' := 24) (dr_sV (A := [.int 0, .int 19]) cl_T hk tw_286 tw_288 tp_6 co_T_parseNumber ⟨by decide, by decide⟩ (by rfl) d_T_parseAim_68 rfl) co_T_parseNumber (by decide +kernel) (by decide) (Nat.le_of_ble_eq_true rfl) (Nat.le_of_ble_eq_true rfl) (fun Q' hq => t_T_parseNumber _ _ _ _ hq) hp (fun x7 h6 hp => ?_) (fun E q h3 hp => wx_out (by decide) hp)
  refine wp_istore (l' := [(4, .int x7), (0, .ref a1), (1, .ref a2), (2, .int x3), (3, .int x4)]) d_T_parseAim_71 (by decide) rfl ?_
  refine wp_aload_n d_T_parseAim_73 1 rfl ?_
  refine wp_bipush (v := 60) (by decide) d_T_parseAim_74 ?_
  refine wp_k hp (fun hk hp => ?_)
  refine wp_cv (M' := mi_T_expect) (As := [.ref a1, .int 60]) (st := []) (fr' := 3) (wo' := 37) (dr_sV (A := [.int 60]) cl_T hk tw_301 tw_303 tp_8 co_T_expect ⟨by decide, by decide⟩ (by rfl) d_T_parseAim_76 rfl) co_T_expect (by decide +kernel) (by decide) (Nat.le_of_ble_eq_true rfl) (Nat.le_of_ble_eq_true rfl) (fun Q' hq => t_T_expect _ _ _ hq) hp (fun h8 hp => ?_) (fun E q h3 hp => wx_out (by decide) hp)
  refine wp_aload_n d_T_parseAim_79 1 rfl ?_
  refine wp_iconst (v := 1) (by decide) d_T_parseAim_80 ?_
  refine wp_sipush (v := 999) (by decide) d_T_parseAim_81 ?_
  refine wp_k hp (fun hk hp => ?_)
  refine wp_ci (M' := mi_T_parseNumber) (As := [.ref a1, .int 1, .int 999]) (st := []) (fr' := 2) (wo' := 24) (dr_sV (A := [.int 1, .int 999]) cl_T hk tw_286 tw_288 tp_6 co_T_parseNumber ⟨by decide, by decide⟩ (by rfl) d_T_parseAim_84 rfl) co_T_parseNumber (by decide +kernel) (by decide) (Nat.le_of_ble_eq_true rfl) (Nat.le_of_ble_eq_true rfl) (fun Q' hq => t_T_parseNumber _ _ _ _ hq) hp (fun x10 h9 hp => ?_) (fun E q h3 hp => wx_out (by decide) hp)
  refine wp_istore (l' := [(5, .int x10), (4, .int x7), (0, .ref a1), (1, .ref a2), (2, .int x3), (3, .int x4)]) d_T_parseAim_87 (by decide) rfl ?_
  refine wp_aload_n d_T_parseAim_89 2 rfl ?_
  refine wp_bipush (v := 119) (by decide) d_T_parseAim_90 ?_
  refine wp_k hp (fun hk hp => ?_)
  refine wp_cv (M' := mi_T_expect) (As := [.ref a1, .int 119]) (st := []) (fr' := 3) (wo' := 37) (dr_sV (A := [.int 119]) cl_T hk tw_301 tw_303 tp_8 co_T_expect ⟨by decide, by decide⟩ (by rfl) d_T_parseAim_92 rfl) co_T_expect (by decide +kernel) (by decide) (Nat.le_of_ble_eq_true rfl) (Nat.le_of_ble_eq_true rfl) (fun Q' hq => t_T_expect _ _ _ hq) hp (fun h11 hp => ?_) (fun E q h3 hp => wx_out (by decide) hp)
  refine wp_aload_n d_T_parseAim_95 2 rfl ?_
  refine wp_iconst (v := 1) (by decide) d_T_parseAim_96 ?_
  refine wp_bipush (v := 9) (by decide) d_T_parseAim_97 ?_
  refine wp_k hp (fun hk hp => ?_)
  refine wp_ci (M' := mi_T_parseNumber) (As := [.ref a1, .int 1, .int 9]) (st := []) (fr' := 2) (wo' := 24) (dr_sV (A := [.int 1, .int 9]) cl_T hk tw_286 tw_288 tp_6 co_T_parseNumber ⟨by decide, by decide⟩ (by rfl) d_T_parseAim_99 rfl) co_T_parseNumber (by decide +kernel) (by decide) (Nat.le_of_ble_eq_true rfl) (Nat.le_of_ble_eq_true rfl) (fun Q' hq => t_T_parseNumber _ _ _ _ hq) hp (fun x13 h12 hp => ?_) (fun E q h3 hp => wx_out (by decide) hp)
  refine wp_istore (l' := [(6, .int x13), (5, .int x10), (4, .int x7), (0, .ref a1), (1, .ref a2), (2, .int x3), (3, .int x4)]) d_T_parseAim_102 (by decide) rfl ?_
  refine wp_aload_n d_T_parseAim_104 3 rfl ?_
  refine wp_bipush (v := 59) (by decide) d_T_parseAim_105 ?_
  refine wp_k hp (fun hk hp => ?_)
  refine wp_cv (M' := mi_T_expect) (As := [.ref a1, .int 59]) (st := []) (fr' := 3) (wo' := 37) (dr_sV (A := [.int 59]) cl_T hk tw_301 tw_303 tp_8 co_T_expect ⟨by decide, by decide⟩ (by rfl) d_T_parseAim_107 rfl) co_T_expect (by decide +kernel) (by decide) (Nat.le_of_ble_eq_true rfl) (Nat.le_of_ble_eq_true rfl) (fun Q' hq => t_T_expect _ _ _ hq) hp (fun h14 hp => ?_) (fun E q h3 hp => wx_out (by decide) hp)
  refine wp_aload_n d_T_parseAim_110 3 rfl ?_
  refine wp_gi cl_T fl_T_22 (by decide) d_T_parseAim_111 hp (fun x15 hp => ?_)
  refine wp_iconst (v := (-1)) (by decide) d_T_parseAim_114 ?_
  refine wp_icmp_ne (tgt := 130) d_T_parseAim_115 (by decide) hp (fun _ hp => ?_) (fun _ hp => ?_)
  · exact wp_return rfl d_T_parseAim_130 hp
  · refine wp_aload_n d_T_parseAim_118 4 rfl ?_
    refine wp_iload_n d_T_parseAim_119 5 rfl ?_
    refine wp_iload_n d_T_parseAim_120 6 rfl ?_
    refine wp_iload d_T_parseAim_121 2 rfl ?_
    refine wp_iload d_T_parseAim_123 1 rfl ?_
    refine wp_iload d_T_parseAim_125 0 rfl ?_
    refine wp_k hp (fun hk hp => ?_)
    refine wp_cv (M' := mi_S_addAim) (As := [.ref a2, .int x3, .int x4, .int x7, .int x10, .int x13]) (st := []) (fr' := 0) (wo' := 0) (dr_sV (A := [.int x3, .int x4, .int x7, .int x10, .int x13]) cl_S hk tw_321 tw_322 tw_323 co_S_addAim ⟨by decide, by decide⟩ (by rfl) d_T_parseAim_127 rfl) co_S_addAim (by decide +kernel) (by decide) (Nat.le_of_ble_eq_true rfl) (Nat.le_of_ble_eq_true rfl) (fun Q' hq => t_S_addAim _ _ _ _ _ _ _ hq) hp (fun h16 hp => ?_) (fun E q h3 hp => wx_out (by decide) hp)
    exact wp_return rfl d_T_parseAim_130 hp
set_option maxRecDepth 100000 in
set_option maxHeartbeats 400000 in
theorem t_T_parseAim_26 {Q : dr_RS → dr_AH → Prop} : ∀ (a1 : Nat) (a2 : Nat) (x3 : Int32) (h : dr_AH), dr_p (f_T_parseAim_26 a1 a2 x3 h) Q → dr_W mi_T_parseAim 4 50 26 [(0, .ref a1), (1, .ref a2), (2, .int x3)] [] h Q := by
  intro a1 a2 x3 h hp
  unfold f_T_parseAim_26 at hp
  refine wp_aload_n d_T_parseAim_26 0 rfl ?_
  refine wp_bipush (v := 101) (by decide) d_T_parseAim_27 ?_
  refine wp_k hp (fun hk hp => ?_)
  refine wp_cv (M' := mi_T_expect) (As := [.ref a1, .int 101]) (st := []) (fr' := 3) (wo' := 37) (dr_sV (A := [.int 101]) cl_T hk tw_301 tw_303 tp_8 co_T_expect ⟨by decide, by decide⟩ (by rfl) d_T_parseAim_29 rfl) co_T_expect (by decide +kernel) (by decide) (Nat.le_of_ble_eq_true rfl) (Nat.le_of_ble_eq_true rfl) (fun Q' hq => t_T_expect _ _ _ hq) hp (fun h4 hp => ?_) (fun E q h3 hp => wx_out (by decide) hp)
  refine wp_aload_n d_T_parseAim_32 0 rfl ?_
  refine wp_iconst (v := 1) (by decide) d_T_parseAim_33 ?_
  refine wp_bipush (v := 40) (by decide) d_T_parseAim_34 ?_
  refine wp_k hp (fun hk hp => ?_)
  refine wp_ci (M' := mi_T_parseNumber) (As := [.ref a1, .int 1, .int 40]) (st := []) (fr' := 2) (wo' := 24) (dr_sV (A := [.int 1, .int 40]) cl_T hk tw_286 tw_288 tp_6 co_T_parseNumber ⟨by decide, by decide⟩ (by rfl) d_T_parseAim_36 rfl) co_T_parseNumber (by decide +kernel) (by decide) (Nat.le_of_ble_eq_true rfl) (Nat.le_of_ble_eq_true rfl) (fun Q' hq => t_T_parseNumber _ _ _ _ hq) hp (fun x6 h5 hp => ?_) (fun E q h3 hp => wx_out (by decide) hp)
  refine wp_istore_n (l' := [(3, .int x6), (0, .ref a1), (1, .ref a2), (2, .int x3)]) d_T_parseAim_39 (by decide) rfl ?_
  refine wp_aload_n d_T_parseAim_40 2 rfl ?_
  refine wp_iload_n d_T_parseAim_41 0 rfl ?_
  refine wp_k hp (fun hk hp => ?_)
  refine wp_ci (M' := mi_S_hasEvent) (As := [.ref a2, .int x6]) (st := []) (fr' := 0) (wo' := 0) (dr_sV (A := [.int x6]) cl_S hk tw_297 tw_298 tw_299 co_S_hasEvent ⟨by decide, by decide⟩ (by rfl) d_T_parseAim_42 rfl) co_S_hasEvent (by decide +kernel) (by decide) (Nat.le_of_ble_eq_true rfl) (Nat.le_of_ble_eq_true rfl) (fun Q' hq => t_S_hasEvent _ _ _ hq) hp (fun x8 h7 hp => ?_) (fun E q h3 hp => wx_out (by decide) hp)
  refine wp_if_ne (tgt := 58) d_T_parseAim_45 (by decide) hp (fun _ hp => ?_) (fun _ hp => ?_)
  · exact wp_sub [1, 2, 3, 0] rfl (t_T_parseAim_58 _ _ _ _ _ hp)
  · refine wp_aload_n d_T_parseAim_48 1 rfl ?_
    refine wp_aload_n d_T_parseAim_49 1 rfl ?_
    refine wp_gi cl_T fl_T_19 (by decide) d_T_parseAim_50 hp (fun x9 hp => ?_)
    refine wp_iconst (v := 1) (by decide) d_T_parseAim_53 ?_
    refine wp_isub d_T_parseAim_54 ?_
    refine wp_k hp (fun hk hp => ?_)
    refine wp_cv (M' := mi_T_fail) (As := [.ref a1, .int (x9 - 1)]) (st := []) (fr' := 0) (wo' := 0) (dr_sV (A := [.int (x9 - 1)]) cl_T hk tw_293 tw_295 tp_7 co_T_fail ⟨by decide, by decide⟩ (by rfl) d_T_parseAim_55 rfl) co_T_fail (by decide +kernel) (by decide) (Nat.le_of_ble_eq_true rfl) (Nat.le_of_ble_eq_true rfl) (fun Q' hq => t_T_fail _ _ _ hq) hp (fun h10 hp => ?_) (fun E q h3 hp => wx_out (by decide) hp)
    exact wp_sub [1, 2, 3, 0] rfl (t_T_parseAim_58 _ _ _ _ _ hp)
set_option maxRecDepth 100000 in
set_option maxHeartbeats 400000 in
theorem t_T_parseAim {Q : dr_RS → dr_AH → Prop} : ∀ (a1 : Nat) (a2 : Nat) (h : dr_AH), dr_p (f_T_parseAim a1 a2 h) Q → dr_W mi_T_parseAim 4 50 0 [(0, .ref a1), (1, .ref a2)] [] h Q := by
  intro a1 a2 h hp
  unfold f_T_parseAim at hp
  refine wp_aload_n d_T_parseAim_0 0 rfl ?_
  refine wp_iconst (v := 1) (by decide) d_T_parseAim_1 ?_
  refine wp_bipush (v := 20) (by decide) d_T_parseAim_2 ?_
  refine wp_k hp (fun hk hp => ?_)
  refine wp_ci (M' := mi_T_parseNumber) (As := [.ref a1, .int 1, .int 20]) (st := []) (fr' := 2) (wo' := 24) (dr_sV (A := [.int 1, .int 20]) cl_T hk tw_286 tw_288 tp_6 co_T_parseNumber ⟨by decide, by decide⟩ (by rfl) d_T_parseAim_4 rfl) co_T_parseNumber (by decide +kernel) (by decide) (Nat.le_of_ble_eq_true rfl) (Nat.le_of_ble_eq_true rfl) (fun Q' hq => t_T_parseNumber _ _ _ _ hq) hp (fun x4 h3 hp => ?_) (fun E q h3 hp => wx_out (by decide) hp)
  refine wp_istore_n (l' := [(2, .int x4), (0, .ref a1), (1, .ref a2)]) d_T_parseAim_7 (by decide) rfl ?_
  refine wp_aload_n d_T_parseAim_8 2 rfl ?_
  refine wp_iload_n d_T_parseAim_9 0 rfl ?_
  refine wp_k hp (fun hk hp => ?_)
  refine wp_ci (M' := mi_S_hasAim) (As := [.ref a2, .int x4]) (st := []) (fr' := 0) (wo' := 0) (dr_sV (A := [.int x4]) cl_S hk tw_317 tw_318 tw_319 co_S_hasAim ⟨by decide, by decide⟩ (by rfl) d_T_parseAim_10 rfl) co_S_hasAim (by decide +kernel) (by decide) (Nat.le_of_ble_eq_true rfl) (Nat.le_of_ble_eq_true rfl) (fun Q' hq => t_S_hasAim _ _ _ hq) hp (fun x6 h5 hp => ?_) (fun E q h3 hp => wx_out (by decide) hp)
  refine wp_if_eq (tgt := 26) d_T_parseAim_13 (by decide) hp (fun _ hp => ?_) (fun _ hp => ?_)
  · exact wp_sub [1, 2, 0] rfl (t_T_parseAim_26 _ _ _ _ hp)
  · refine wp_aload_n d_T_parseAim_16 1 rfl ?_
    refine wp_aload_n d_T_parseAim_17 1 rfl ?_
    refine wp_gi cl_T fl_T_19 (by decide) d_T_parseAim_18 hp (fun x7 hp => ?_)
    refine wp_iconst (v := 1) (by decide) d_T_parseAim_21 ?_
    refine wp_isub d_T_parseAim_22 ?_
    refine wp_k hp (fun hk hp => ?_)
    refine wp_cv (M' := mi_T_fail) (As := [.ref a1, .int (x7 - 1)]) (st := []) (fr' := 0) (wo' := 0) (dr_sV (A := [.int (x7 - 1)]) cl_T hk tw_293 tw_295 tp_7 co_T_fail ⟨by decide, by decide⟩ (by rfl) d_T_parseAim_23 rfl) co_T_fail (by decide +kernel) (by decide) (Nat.le_of_ble_eq_true rfl) (Nat.le_of_ble_eq_true rfl) (fun Q' hq => t_T_fail _ _ _ hq) hp (fun h8 hp => ?_) (fun E q h3 hp => wx_out (by decide) hp)
    exact wp_sub [1, 2, 0] rfl (t_T_parseAim_26 _ _ _ _ hp)
def f_T_parseEvent_129 (a1 : Nat) (a2 : Nat) (x3 : Int32) (x4 : Int32) (x5 : Int32) (x6 : Int32) (x7 : Int32) (x8 : Int32) (x9 : Int32) (h : dr_AH) : Option (dr_RS × dr_AH) :=
  (dr_k h a1 2 (dr_cv' (f_T_expect a1 59 h) fun h10 => (dr_gi h10 2 a1 3 fun x11 => if x11 = (-1) then (dr_k h10 a2 1 (dr_cv' (f_S_addEvent a2 x3 x4 x5 x6 h10) fun h12 => (dr_k h12 a2 1 (dr_cv' (f_S_describeEvent a2 x3 x7 x8 x9 h12) fun h13 => some (.inl none, h13))))) else some (.inl none, h10))))
def f_T_parseEvent_76 (a1 : Nat) (a2 : Nat) (x3 : Int32) (x4 : Int32) (x5 : Int32) (h : dr_AH) : Option (dr_RS × dr_AH) :=
  (dr_k h a1 2 (dr_ci' (f_T_parseNumber a1 0 9999 h) fun x7 h6 => (dr_k h6 a1 2 (dr_cv' (f_T_expect a1 112 h6) fun h8 => (dr_k h8 a1 2 (dr_ci' (f_T_parseNumber a1 0 9 h8) fun x10 h9 => (dr_k h9 a1 2 (dr_ci' (f_T_accept a1 33 h9) fun x12 h11 => (dr_k h11 a1 2 (dr_ci' (f_T_accept a1 102 h11) fun x14 h13 => if x14 = 0 then f_T_parseEvent_129 a1 a2 x3 x4 x5 x7 x10 x12 0 h13 else (dr_k h13 a1 2 (dr_ci' (f_T_parseNumber a1 1 9 h13) fun x16 h15 => f_T_parseEvent_129 a1 a2 x3 x4 x5 x7 x10 x12 x16 h15))))))))))))
def f_T_parseEvent_26 (a1 : Nat) (a2 : Nat) (x3 : Int32) (h : dr_AH) : Option (dr_RS × dr_AH) :=
  (dr_k h a1 2 (dr_ci' (f_T_accept a1 64 h) fun x5 h4 => if x5 = 0 then (dr_k h4 a1 2 (dr_cv' (f_T_expect a1 62 h4) fun h6 => (dr_k h6 a1 2 (dr_ci' (f_T_parseNumber a1 0 19 h6) fun x8 h7 => (dr_k h7 a1 2 (dr_cv' (f_T_expect a1 43 h7) fun h9 => (dr_k h9 a1 2 (dr_ci' (f_T_parseNumber a1 0 999 h9) fun x11 h10 => (dr_k h10 a1 2 (dr_cv' (f_T_expect a1 126 h10) fun h12 => f_T_parseEvent_76 a1 a2 x3 x8 x11 h12)))))))))) else f_T_parseEvent_76 a1 a2 x3 (-1) 0 h4))
def f_T_parseEvent (a1 : Nat) (a2 : Nat) (h : dr_AH) : Option (dr_RS × dr_AH) :=
  (dr_k h a1 2 (dr_ci' (f_T_parseNumber a1 1 40 h) fun x4 h3 => (dr_k h3 a2 1 (dr_ci' (f_S_hasEvent a2 x4 h3) fun x6 h5 => if x6 = 0 then f_T_parseEvent_26 a1 a2 x4 h5 else (dr_gi h5 2 a1 2 fun x7 => (dr_k h5 a1 2 (dr_cv' (f_T_fail a1 (x7 - 1) h5) fun h8 => f_T_parseEvent_26 a1 a2 x4 h8)))))))
set_option maxRecDepth 100000 in
set_option maxHeartbeats 400000 in
theorem t_T_parseEvent_129 {Q : dr_RS → dr_AH → Prop} : ∀ (a1 : Nat) (a2 : Nat) (x3 : Int32) (x4 : Int32) (x5 : Int32) (x6 : Int32) (x7 : Int32) (x8 : Int32) (x9 : Int32) (h : dr_AH), dr_p (f_T_parseEvent_129 a1 a2 x3 x4 x5 x6 x7 x8 x9 h) Q → dr_W mi_T_parseEvent 4 50 129 [(0, .ref a1), (1, .ref a2), (2, .int x3), (3, .int x4), (4, .int x5), (5, .int x6), (6, .int x7), (7, .int x8)] [.int x9] h Q := by
  intro a1 a2 x3 x4 x5 x6 x7 x8 x9 h hp
  unfold f_T_parseEvent_129 at hp
  refine wp_istore (l' := [(8, .int x9), (0, .ref a1), (1, .ref a2), (2, .int x3), (3, .int x4), (4, .int x5), (5, .int x6), (6, .int x7), (7, .int x8)]) d_T_parseEvent_129 (by decide) rfl ?_
  refine wp_aload_n d_T_parseEvent_131 1 rfl ?_
  refine wp_bipush (v := 59) (by decide) d_T_parseEvent_132 ?_
  refine wp_k hp (fun hk hp => ?_)
  refine wp_cv (M' := mi_T_expect) (As := [.ref a1, .int 59]) (st := []) (fr' := 3) (wo' := 37) (dr_sV (A := [.int 59]) cl_T hk tw_301 tw_303 tp_8 co_T_expect ⟨by decide, by decide⟩ (by rfl) d_T_parseEvent_134 rfl) co_T_expect (by decide +kernel) (by decide) (Nat.le_of_ble_eq_true rfl) (Nat.le_of_ble_eq_true rfl) (fun Q' hq => t_T_expect _ _ _ hq) hp (fun h10 hp => ?_) (fun E q h3 hp => wx_out (by decide) hp)
  refine wp_aload_n d_T_parseEvent_137 1 rfl ?_
  refine wp_gi cl_T fl_T_22 (by decide) d_T_parseEvent_138 hp (fun x11 hp => ?_)
  refine wp_iconst (v := (-1)) (by decide) d_T_parseEvent_141 ?_
  refine wp_icmp_ne (tgt := 166) d_T_parseEvent_142 (by decide) hp (fun _ hp => ?_) (fun _ hp => ?_)
  · exact wp_return rfl d_T_parseEvent_166 hp
  · refine wp_aload_n d_T_parseEvent_145 2 rfl ?_
    refine wp_iload_n d_T_parseEvent_146 3 rfl ?_
    refine wp_iload_n d_T_parseEvent_147 4 rfl ?_
    refine wp_iload d_T_parseEvent_148 5 rfl ?_
    refine wp_iload d_T_parseEvent_150 6 rfl ?_
    refine wp_k hp (fun hk hp => ?_)
    refine wp_cv (M' := mi_S_addEvent) (As := [.ref a2, .int x3, .int x4, .int x5, .int x6]) (st := []) (fr' := 0) (wo' := 0) (dr_sV (A := [.int x3, .int x4, .int x5, .int x6]) cl_S hk tw_305 tw_306 tw_307 co_S_addEvent ⟨by decide, by decide⟩ (by rfl) d_T_parseEvent_152 rfl) co_S_addEvent (by decide +kernel) (by decide) (Nat.le_of_ble_eq_true rfl) (Nat.le_of_ble_eq_true rfl) (fun Q' hq => t_S_addEvent _ _ _ _ _ _ hq) hp (fun h12 hp => ?_) (fun E q h3 hp => wx_out (by decide) hp)
    refine wp_aload_n d_T_parseEvent_155 2 rfl ?_
    refine wp_iload_n d_T_parseEvent_156 3 rfl ?_
    refine wp_iload d_T_parseEvent_157 7 rfl ?_
    refine wp_iload d_T_parseEvent_159 8 rfl ?_
    refine wp_iload d_T_parseEvent_161 0 rfl ?_
    refine wp_k hp (fun hk hp => ?_)
    refine wp_cv (M' := mi_S_describeEvent) (As := [.ref a2, .int x3, .int x7, .int x8, .int x9]) (st := []) (fr' := 0) (wo' := 0) (dr_sV (A := [.int x3, .int x7, .int x8, .int x9]) cl_S hk tw_309 tw_310 tw_311 co_S_describeEvent ⟨by decide, by decide⟩ (by rfl) d_T_parseEvent_163 rfl) co_S_describeEvent (by decide +kernel) (by decide) (Nat.le_of_ble_eq_true rfl) (Nat.le_of_ble_eq_true rfl) (fun Q' hq => t_S_describeEvent _ _ _ _ _ _ hq) hp (fun h13 hp => ?_) (fun E q h3 hp => wx_out (by decide) hp)
    exact wp_return rfl d_T_parseEvent_166 hp
set_option maxRecDepth 100000 in
set_option maxHeartbeats 400000 in
theorem t_T_parseEvent_76 {Q : dr_RS → dr_AH → Prop} : ∀ (a1 : Nat) (a2 : Nat) (x3 : Int32) (x4 : Int32) (x5 : Int32) (h : dr_AH), dr_p (f_T_parseEvent_76 a1 a2 x3 x4 x5 h) Q → dr_W mi_T_parseEvent 4 50 76 [(0, .ref a1), (1, .ref a2), (2, .int x3), (3, .int x4), (4, .int x5)] [] h Q := by
  intro a1 a2 x3 x4 x5 h hp
  unfold f_T_parseEvent_76 at hp
  refine wp_aload_n d_T_parseEvent_76 0 rfl ?_
  refine wp_iconst (v := 0) (by decide) d_T_parseEvent_77 ?_
  refine wp_sipush (v := 9999) (by decide) d_T_parseEvent_78 ?_
  refine wp_k hp (fun hk hp => ?_)
  refine wp_ci (M' := mi_T_parseNumber) (As := [.ref a1, .int 0, .int 9999]) (st := []) (fr' := 2) (wo' := 24) (dr_sV (A := [.int 0, .int 9999]) cl_T hk tw_286 tw_288 tp_6 co_T_parseNumber ⟨by decide, by decide⟩ (by rfl) d_T_parseEvent_81 rfl) co_T_parseNumber (by decide +kernel) (by decide) (Nat.le_of_ble_eq_true rfl) (Nat.le_of_ble_eq_true rfl) (fun Q' hq => t_T_parseNumber _ _ _ _ hq) hp (fun x7 h6 hp => ?_) (fun E q h3 hp => wx_out (by decide) hp)
  refine wp_istore (l' := [(5, .int x7), (0, .ref a1), (1, .ref a2), (2, .int x3), (3, .int x4), (4, .int x5)]) d_T_parseEvent_84 (by decide) rfl ?_
  refine wp_aload_n d_T_parseEvent_86 1 rfl ?_
  refine wp_bipush (v := 112) (by decide) d_T_parseEvent_87 ?_
  refine wp_k hp (fun hk hp => ?_)
  refine wp_cv (M' := mi_T_expect) (As := [.ref a1, .int 112]) (st := []) (fr' := 3) (wo' := 37) (dr_sV (A := [.int 112]) cl_T hk tw_301 tw_303 tp_8 co_T_expect ⟨by decide, by decide⟩ (by rfl) d_T_parseEvent_89 rfl) co_T_expect (by decide +kernel) (by decide) (Nat.le_of_ble_eq_true rfl) (Nat.le_of_ble_eq_true rfl) (fun Q' hq => t_T_expect _ _ _ hq) hp (fun h8 hp => ?_) (fun E q h3 hp => wx_out (by decide) hp)
  refine wp_aload_n d_T_parseEvent_92 1 rfl ?_
  refine wp_iconst (v := 0) (by decide) d_T_parseEvent_93 ?_
  refine wp_bipush (v := 9) (by decide) d_T_parseEvent_94 ?_
  refine wp_k hp (fun hk hp => ?_)
  refine wp_ci (M' := mi_T_parseNumber) (As := [.ref a1, .int 0, .int 9]) (st := []) (fr' := 2) (wo' := 24) (dr_sV (A := [.int 0, .int 9]) cl_T hk tw_286 tw_288 tp_6 co_T_parseNumber ⟨by decide, by decide⟩ (by rfl) d_T_parseEvent_96 rfl) co_T_parseNumber (by decide +kernel) (by decide) (Nat.le_of_ble_eq_true rfl) (Nat.le_of_ble_eq_true rfl) (fun Q' hq => t_T_parseNumber _ _ _ _ hq) hp (fun x10 h9 hp => ?_) (fun E q h3 hp => wx_out (by decide) hp)
  refine wp_istore (l' := [(6, .int x10), (5, .int x7), (0, .ref a1), (1, .ref a2), (2, .int x3), (3, .int x4), (4, .int x5)]) d_T_parseEvent_99 (by decide) rfl ?_
  refine wp_aload_n d_T_parseEvent_101 2 rfl ?_
  refine wp_bipush (v := 33) (by decide) d_T_parseEvent_102 ?_
  refine wp_k hp (fun hk hp => ?_)
  refine wp_ci (M' := mi_T_accept) (As := [.ref a1, .int 33]) (st := []) (fr' := 2) (wo' := 24) (dr_sV (A := [.int 33]) cl_T hk tw_278 tw_280 tp_4 co_T_accept ⟨by decide, by decide⟩ (by rfl) d_T_parseEvent_104 rfl) co_T_accept (by decide +kernel) (by decide) (Nat.le_of_ble_eq_true rfl) (Nat.le_of_ble_eq_true rfl) (fun Q' hq => t_T_accept _ _ _ hq) hp (fun x12 h11 hp => ?_) (fun E q h3 hp => wx_out (by decide) hp)
  refine wp_istore (l' := [(7, .int x12), (6, .int x10), (5, .int x7), (0, .ref a1), (1, .ref a2), (2, .int x3), (3, .int x4), (4, .int x5)]) d_T_parseEvent_107 (by decide) rfl ?_
  refine wp_aload_n d_T_parseEvent_109 3 rfl ?_
  refine wp_bipush (v := 102) (by decide) d_T_parseEvent_110 ?_
  refine wp_k hp (fun hk hp => ?_)
  refine wp_ci (M' := mi_T_accept) (As := [.ref a1, .int 102]) (st := []) (fr' := 2) (wo' := 24) (dr_sV (A := [.int 102]) cl_T hk tw_278 tw_280 tp_4 co_T_accept ⟨by decide, by decide⟩ (by rfl) d_T_parseEvent_112 rfl) co_T_accept (by decide +kernel) (by decide) (Nat.le_of_ble_eq_true rfl) (Nat.le_of_ble_eq_true rfl) (fun Q' hq => t_T_accept _ _ _ hq) hp (fun x14 h13 hp => ?_) (fun E q h3 hp => wx_out (by decide) hp)
  refine wp_if_eq (tgt := 128) d_T_parseEvent_115 (by decide) hp (fun _ hp => ?_) (fun _ hp => ?_)
  · refine wp_iconst (v := 0) (by decide) d_T_parseEvent_128 ?_
    exact wp_sub [3, 4, 5, 6, 7, 2, 1, 0] rfl (t_T_parseEvent_129 _ _ _ _ _ _ _ _ _ _ hp)
  · refine wp_aload_n d_T_parseEvent_118 3 rfl ?_
    refine wp_iconst (v := 1) (by decide) d_T_parseEvent_119 ?_
    refine wp_bipush (v := 9) (by decide) d_T_parseEvent_120 ?_
    refine wp_k hp (fun hk hp => ?_)
    refine wp_ci (M' := mi_T_parseNumber) (As := [.ref a1, .int 1, .int 9]) (st := []) (fr' := 2) (wo' := 24) (dr_sV (A := [.int 1, .int 9]) cl_T hk tw_286 tw_288 tp_6 co_T_parseNumber ⟨by decide, by decide⟩ (by rfl) d_T_parseEvent_122 rfl) co_T_parseNumber (by decide +kernel) (by decide) (Nat.le_of_ble_eq_true rfl) (Nat.le_of_ble_eq_true rfl) (fun Q' hq => t_T_parseNumber _ _ _ _ hq) hp (fun x16 h15 hp => ?_) (fun E q h3 hp => wx_out (by decide) hp)
    refine wp_goto (tgt := 129) d_T_parseEvent_125 (by decide) ?_
    exact wp_sub [3, 4, 5, 6, 7, 2, 1, 0] rfl (t_T_parseEvent_129 _ _ _ _ _ _ _ _ _ _ hp)
set_option maxRecDepth 100000 in
set_option maxHeartbeats 400000 in
theorem t_T_parseEvent_26 {Q : dr_RS → dr_AH → Prop} : ∀ (a1 : Nat) (a2 : Nat) (x3 : Int32) (h : dr_AH), dr_p (f_T_parseEvent_26 a1 a2 x3 h) Q → dr_W mi_T_parseEvent 4 50 26 [(0, .ref a1), (1, .ref a2), (2, .int x3)] [] h Q := by
  intro a1 a2 x3 h hp
  unfold f_T_parseEvent_26 at hp
  refine wp_iconst (v := (-1)) (by decide) d_T_parseEvent_26 ?_
  refine wp_istore_n (l' := [(3, .int (-1)), (0, .ref a1), (1, .ref a2), (2, .int x3)]) d_T_parseEvent_27 (by decide) rfl ?_
  refine wp_iconst (v := 0) (by decide) d_T_parseEvent_28 ?_
  refine wp_istore (l' := [(4, .int 0), (3, .int (-1)), (0, .ref a1), (1, .ref a2), (2, .int x3)]) d_T_parseEvent_29 (by decide) rfl ?_
  refine wp_aload_n d_T_parseEvent_31 2 rfl ?_
  refine wp_bipush (v := 64) (by decide) d_T_parseEvent_32 ?_
  refine wp_k hp (fun hk hp => ?_)
  refine wp_ci (M' := mi_T_accept) (As := [.ref a1, .int 64]) (st := []) (fr' := 2) (wo' := 24) (dr_sV (A := [.int 64]) cl_T hk tw_278 tw_280 tp_4 co_T_accept ⟨by decide, by decide⟩ (by rfl) d_T_parseEvent_34 rfl) co_T_accept (by decide +kernel) (by decide) (Nat.le_of_ble_eq_true rfl) (Nat.le_of_ble_eq_true rfl) (fun Q' hq => t_T_accept _ _ _ hq) hp (fun x5 h4 hp => ?_) (fun E q h3 hp => wx_out (by decide) hp)
  refine wp_if_ne (tgt := 76) d_T_parseEvent_37 (by decide) hp (fun _ hp => ?_) (fun _ hp => ?_)
  · exact wp_sub [2, 3, 4, 1, 0] rfl (t_T_parseEvent_76 _ _ _ _ _ _ hp)
  · refine wp_aload_n d_T_parseEvent_40 2 rfl ?_
    refine wp_bipush (v := 62) (by decide) d_T_parseEvent_41 ?_
    refine wp_k hp (fun hk hp => ?_)
    refine wp_cv (M' := mi_T_expect) (As := [.ref a1, .int 62]) (st := []) (fr' := 3) (wo' := 37) (dr_sV (A := [.int 62]) cl_T hk tw_301 tw_303 tp_8 co_T_expect ⟨by decide, by decide⟩ (by rfl) d_T_parseEvent_43 rfl) co_T_expect (by decide +kernel) (by decide) (Nat.le_of_ble_eq_true rfl) (Nat.le_of_ble_eq_true rfl) (fun Q' hq => t_T_expect _ _ _ hq) hp (fun h6 hp => ?_) (fun E q h3 hp => wx_out (by decide) hp)
    refine wp_aload_n d_T_parseEvent_46 2 rfl ?_
    refine wp_iconst (v := 0) (by decide) d_T_parseEvent_47 ?_
    refine wp_bipush (v := 19) (by decide) d_T_parseEvent_48 ?_
    refine wp_k hp (fun hk hp => ?_)
    refine wp_ci (M' := mi_T_parseNumber) (As := [.ref a1, .int 0, .int 19]) (st := []) (fr' := 2) (wo' := 24) (dr_sV (A := [.int 0, .int 19]) cl_T hk tw_286 tw_288 tp_6 co_T_parseNumber ⟨by decide, by decide⟩ (by rfl) d_T_parseEvent_50 rfl) co_T_parseNumber (by decide +kernel) (by decide) (Nat.le_of_ble_eq_true rfl) (Nat.le_of_ble_eq_true rfl) (fun Q' hq => t_T_parseNumber _ _ _ _ hq) hp (fun x8 h7 hp => ?_) (fun E q h3 hp => wx_out (by decide) hp)
    refine wp_istore_n (l' := [(3, .int x8), (4, .int 0), (0, .ref a1), (1, .ref a2), (2, .int x3)]) d_T_parseEvent_53 (by decide) rfl ?_
    refine wp_aload_n d_T_parseEvent_54 2 rfl ?_
    refine wp_bipush (v := 43) (by decide) d_T_parseEvent_55 ?_
    refine wp_k hp (fun hk hp => ?_)
    refine wp_cv (M' := mi_T_expect) (As := [.ref a1, .int 43]) (st := []) (fr' := 3) (wo' := 37) (dr_sV (A := [.int 43]) cl_T hk tw_301 tw_303 tp_8 co_T_expect ⟨by decide, by decide⟩ (by rfl) d_T_parseEvent_57 rfl) co_T_expect (by decide +kernel) (by decide) (Nat.le_of_ble_eq_true rfl) (Nat.le_of_ble_eq_true rfl) (fun Q' hq => t_T_expect _ _ _ hq) hp (fun h9 hp => ?_) (fun E q h3 hp => wx_out (by decide) hp)
    refine wp_aload_n d_T_parseEvent_60 2 rfl ?_
    refine wp_iconst (v := 0) (by decide) d_T_parseEvent_61 ?_
    refine wp_sipush (v := 999) (by decide) d_T_parseEvent_62 ?_
    refine wp_k hp (fun hk hp => ?_)
    refine wp_ci (M' := mi_T_parseNumber) (As := [.ref a1, .int 0, .int 999]) (st := []) (fr' := 2) (wo' := 24) (dr_sV (A := [.int 0, .int 999]) cl_T hk tw_286 tw_288 tp_6 co_T_parseNumber ⟨by decide, by decide⟩ (by rfl) d_T_parseEvent_65 rfl) co_T_parseNumber (by decide +kernel) (by decide) (Nat.le_of_ble_eq_true rfl) (Nat.le_of_ble_eq_true rfl) (fun Q' hq => t_T_parseNumber _ _ _ _ hq) hp (fun x11 h10 hp => ?_) (fun E q h3 hp => wx_out (by decide) hp)
    refine wp_istore (l' := [(4, .int x11), (3, .int x8), (0, .ref a1), (1, .ref a2), (2, .int x3)]) d_T_parseEvent_68 (by decide) rfl ?_
    refine wp_aload_n d_T_parseEvent_70 2 rfl ?_
    refine wp_bipush (v := 126) (by decide) d_T_parseEvent_71 ?_
    refine wp_k hp (fun hk hp => ?_)
    refine wp_cv (M' := mi_T_expect) (As := [.ref a1, .int 126]) (st := []) (fr' := 3) (wo' := 37) (dr_sV (A := [.int 126]) cl_T hk tw_301 tw_303 tp_8 co_T_expect ⟨by decide, by decide⟩ (by rfl) d_T_parseEvent_73 rfl) co_T_expect (by decide +kernel) (by decide) (Nat.le_of_ble_eq_true rfl) (Nat.le_of_ble_eq_true rfl) (fun Q' hq => t_T_expect _ _ _ hq) hp (fun h12 hp => ?_) (fun E q h3 hp => wx_out (by decide) hp)
    exact wp_sub [2, 3, 4, 1, 0] rfl (t_T_parseEvent_76 _ _ _ _ _ _ hp)
set_option maxRecDepth 100000 in
set_option maxHeartbeats 400000 in
theorem t_T_parseEvent {Q : dr_RS → dr_AH → Prop} : ∀ (a1 : Nat) (a2 : Nat) (h : dr_AH), dr_p (f_T_parseEvent a1 a2 h) Q → dr_W mi_T_parseEvent 4 50 0 [(0, .ref a1), (1, .ref a2)] [] h Q := by
  intro a1 a2 h hp
  unfold f_T_parseEvent at hp
  refine wp_aload_n d_T_parseEvent_0 0 rfl ?_
  refine wp_iconst (v := 1) (by decide) d_T_parseEvent_1 ?_
  refine wp_bipush (v := 40) (by decide) d_T_parseEvent_2 ?_
  refine wp_k hp (fun hk hp => ?_)
  refine wp_ci (M' := mi_T_parseNumber) (As := [.ref a1, .int 1, .int 40]) (st := []) (fr' := 2) (wo' := 24) (dr_sV (A := [.int 1, .int 40]) cl_T hk tw_286 tw_288 tp_6 co_T_parseNumber ⟨by decide, by decide⟩ (by rfl) d_T_parseEvent_4 rfl) co_T_parseNumber (by decide +kernel) (by decide) (Nat.le_of_ble_eq_true rfl) (Nat.le_of_ble_eq_true rfl) (fun Q' hq => t_T_parseNumber _ _ _ _ hq) hp (fun x4 h3 hp => ?_) (fun E q h3 hp => wx_out (by decide) hp)
  refine wp_istore_n (l' := [(2, .int x4), (0, .ref a1), (1, .ref a2)]) d_T_parseEvent_7 (by decide) rfl ?_
  refine wp_aload_n d_T_parseEvent_8 2 rfl ?_
  refine wp_iload_n d_T_parseEvent_9 0 rfl ?_
  refine wp_k hp (fun hk hp => ?_)
  refine wp_ci (M' := mi_S_hasEvent) (As := [.ref a2, .int x4]) (st := []) (fr' := 0) (wo' := 0) (dr_sV (A := [.int x4]) cl_S hk tw_297 tw_298 tw_299 co_S_hasEvent ⟨by decide, by decide⟩ (by rfl) d_T_parseEvent_10 rfl) co_S_hasEvent (by decide +kernel) (by decide) (Nat.le_of_ble_eq_true rfl) (Nat.le_of_ble_eq_true rfl) (fun Q' hq => t_S_hasEvent _ _ _ hq) hp (fun x6 h5 hp => ?_) (fun E q h3 hp => wx_out (by decide) hp)
  refine wp_if_eq (tgt := 26) d_T_parseEvent_13 (by decide) hp (fun _ hp => ?_) (fun _ hp => ?_)
  · exact wp_sub [1, 2, 0] rfl (t_T_parseEvent_26 _ _ _ _ hp)
  · refine wp_aload_n d_T_parseEvent_16 1 rfl ?_
    refine wp_aload_n d_T_parseEvent_17 1 rfl ?_
    refine wp_gi cl_T fl_T_19 (by decide) d_T_parseEvent_18 hp (fun x7 hp => ?_)
    refine wp_iconst (v := 1) (by decide) d_T_parseEvent_21 ?_
    refine wp_isub d_T_parseEvent_22 ?_
    refine wp_k hp (fun hk hp => ?_)
    refine wp_cv (M' := mi_T_fail) (As := [.ref a1, .int (x7 - 1)]) (st := []) (fr' := 0) (wo' := 0) (dr_sV (A := [.int (x7 - 1)]) cl_T hk tw_293 tw_295 tp_7 co_T_fail ⟨by decide, by decide⟩ (by rfl) d_T_parseEvent_23 rfl) co_T_fail (by decide +kernel) (by decide) (Nat.le_of_ble_eq_true rfl) (Nat.le_of_ble_eq_true rfl) (fun Q' hq => t_T_fail _ _ _ hq) hp (fun h8 hp => ?_) (fun E q h3 hp => wx_out (by decide) hp)
    exact wp_sub [1, 2, 0] rfl (t_T_parseEvent_26 _ _ _ _ hp)
def f_T_parseRow (a1 : Nat) (a2 : Nat) (h : dr_AH) : Option (dr_RS × dr_AH) :=
  (dr_k h a1 2 (dr_ci' (f_T_accept a1 101 h) fun x4 h3 => if x4 = 0 then (dr_k h3 a1 2 (dr_ci' (f_T_accept a1 97 h3) fun x6 h5 => if x6 = 0 then (dr_gi h5 2 a1 2 fun x7 => (dr_k h5 a1 2 (dr_cv' (f_T_fail a1 x7 h5) fun h8 => some (.inl none, h8)))) else (dr_k h5 a1 2 (dr_cv' (f_T_parseAim a1 a2 h5) fun h9 => some (.inl none, h9))))) else (dr_k h3 a1 2 (dr_cv' (f_T_parseEvent a1 a2 h3) fun h10 => some (.inl none, h10)))))
set_option maxRecDepth 100000 in
set_option maxHeartbeats 400000 in
theorem t_T_parseRow {Q : dr_RS → dr_AH → Prop} : ∀ (a1 : Nat) (a2 : Nat) (h : dr_AH), dr_p (f_T_parseRow a1 a2 h) Q → dr_W mi_T_parseRow 5 70 0 [(0, .ref a1), (1, .ref a2)] [] h Q := by
  intro a1 a2 h hp
  unfold f_T_parseRow at hp
  refine wp_aload_n d_T_parseRow_0 0 rfl ?_
  refine wp_bipush (v := 101) (by decide) d_T_parseRow_1 ?_
  refine wp_k hp (fun hk hp => ?_)
  refine wp_ci (M' := mi_T_accept) (As := [.ref a1, .int 101]) (st := []) (fr' := 2) (wo' := 24) (dr_sV (A := [.int 101]) cl_T hk tw_278 tw_280 tp_4 co_T_accept ⟨by decide, by decide⟩ (by rfl) d_T_parseRow_3 rfl) co_T_accept (by decide +kernel) (by decide) (Nat.le_of_ble_eq_true rfl) (Nat.le_of_ble_eq_true rfl) (fun Q' hq => t_T_accept _ _ _ hq) hp (fun x4 h3 hp => ?_) (fun E q h3 hp => wx_out (by decide) hp)
  refine wp_if_eq (tgt := 17) d_T_parseRow_6 (by decide) hp (fun _ hp => ?_) (fun _ hp => ?_)
  · refine wp_aload_n d_T_parseRow_17 0 rfl ?_
    refine wp_bipush (v := 97) (by decide) d_T_parseRow_18 ?_
    refine wp_k hp (fun hk hp => ?_)
    refine wp_ci (M' := mi_T_accept) (As := [.ref a1, .int 97]) (st := []) (fr' := 2) (wo' := 24) (dr_sV (A := [.int 97]) cl_T hk tw_278 tw_280 tp_4 co_T_accept ⟨by decide, by decide⟩ (by rfl) d_T_parseRow_20 rfl) co_T_accept (by decide +kernel) (by decide) (Nat.le_of_ble_eq_true rfl) (Nat.le_of_ble_eq_true rfl) (fun Q' hq => t_T_accept _ _ _ hq) hp (fun x6 h5 hp => ?_) (fun E q h3 hp => wx_out (by decide) hp)
    refine wp_if_eq (tgt := 34) d_T_parseRow_23 (by decide) hp (fun _ hp => ?_) (fun _ hp => ?_)
    · refine wp_aload_n d_T_parseRow_34 0 rfl ?_
      refine wp_aload_n d_T_parseRow_35 0 rfl ?_
      refine wp_gi cl_T fl_T_19 (by decide) d_T_parseRow_36 hp (fun x7 hp => ?_)
      refine wp_k hp (fun hk hp => ?_)
      refine wp_cv (M' := mi_T_fail) (As := [.ref a1, .int x7]) (st := []) (fr' := 0) (wo' := 0) (dr_sV (A := [.int x7]) cl_T hk tw_293 tw_295 tp_7 co_T_fail ⟨by decide, by decide⟩ (by rfl) d_T_parseRow_39 rfl) co_T_fail (by decide +kernel) (by decide) (Nat.le_of_ble_eq_true rfl) (Nat.le_of_ble_eq_true rfl) (fun Q' hq => t_T_fail _ _ _ hq) hp (fun h8 hp => ?_) (fun E q h3 hp => wx_out (by decide) hp)
      exact wp_return rfl d_T_parseRow_42 hp
    · refine wp_aload_n d_T_parseRow_26 0 rfl ?_
      refine wp_aload_n d_T_parseRow_27 1 rfl ?_
      refine wp_k hp (fun hk hp => ?_)
      refine wp_cv (M' := mi_T_parseAim) (As := [.ref a1, .ref a2]) (st := []) (fr' := 4) (wo' := 50) (dr_sV (A := [.ref a2]) cl_T hk tw_313 tw_315 tp_9 co_T_parseAim ⟨by decide, by decide⟩ (by rfl) d_T_parseRow_28 rfl) co_T_parseAim (by decide +kernel) (by decide) (Nat.le_of_ble_eq_true rfl) (Nat.le_of_ble_eq_true rfl) (fun Q' hq => t_T_parseAim _ _ _ hq) hp (fun h9 hp => ?_) (fun E q h3 hp => wx_out (by decide) hp)
      refine wp_goto (tgt := 42) d_T_parseRow_31 (by decide) ?_
      exact wp_return rfl d_T_parseRow_42 hp
  · refine wp_aload_n d_T_parseRow_9 0 rfl ?_
    refine wp_aload_n d_T_parseRow_10 1 rfl ?_
    refine wp_k hp (fun hk hp => ?_)
    refine wp_cv (M' := mi_T_parseEvent) (As := [.ref a1, .ref a2]) (st := []) (fr' := 4) (wo' := 50) (dr_sV (A := [.ref a2]) cl_T hk tw_282 tw_284 tp_5 co_T_parseEvent ⟨by decide, by decide⟩ (by rfl) d_T_parseRow_11 rfl) co_T_parseEvent (by decide +kernel) (by decide) (Nat.le_of_ble_eq_true rfl) (Nat.le_of_ble_eq_true rfl) (fun Q' hq => t_T_parseEvent _ _ _ hq) hp (fun h10 hp => ?_) (fun E q h3 hp => wx_out (by decide) hp)
    refine wp_goto (tgt := 42) d_T_parseRow_14 (by decide) ?_
    exact wp_return rfl d_T_parseRow_42 hp
def f_T_parseInto_20 : Nat → Nat → Nat → Int32 → dr_AH → Option (dr_RS × dr_AH)
  | 0, _, _, _, _ => none
  | n + 1, a1, a2, x3, h => if 300 ≤ x3 then (dr_pf h 2 a1 1 (.int 0) fun h4 => (dr_gi h4 2 a1 3 fun x5 => some (.inl (some (.int x5)), h4))) else (dr_gi h 2 a1 2 fun x6 => (dr_gi h 2 a1 1 fun x7 => if x7 ≤ x6 then (dr_pf h 2 a1 1 (.int 0) fun h8 => (dr_gi h8 2 a1 3 fun x9 => some (.inl (some (.int x9)), h8))) else (dr_gi h 2 a1 3 fun x10 => if x10 = (-1) then (dr_k h a1 2 (dr_cv' (f_T_parseRow a1 a2 h) fun h13 => (dr_k h13 a1 2 (dr_cv' (f_T_skipBlanks a1 h13) fun h14 => f_T_parseInto_20 n a1 a2 (x3 + 1) h14)))) else (dr_pf h 2 a1 1 (.int 0) fun h11 => (dr_gi h11 2 a1 3 fun x12 => some (.inl (some (.int x12)), h11))))))
def f_T_parseInto (a1 : Nat) (a2 : Nat) (h : dr_AH) : Option (dr_RS × dr_AH) :=
  (dr_k h a2 1 (dr_cv' (f_S_clear a2 h) fun h3 => (dr_pf h3 2 a1 2 (.int 0) fun h4 => (dr_pf h4 2 a1 3 (.int (-1)) fun h5 => (dr_k h5 a1 2 (dr_cv' (f_T_skipBlanks a1 h5) fun h6 => f_T_parseInto_20 dr_fu a1 a2 0 h6))))))
set_option maxRecDepth 100000 in
set_option maxHeartbeats 400000 in
theorem t_T_parseInto_20 {Q : dr_RS → dr_AH → Prop} : ∀ (n : Nat) (a1 : Nat) (a2 : Nat) (x3 : Int32) (h : dr_AH), dr_p (f_T_parseInto_20 n a1 a2 x3 h) Q → dr_W mi_T_parseInto 6 83 20 [(0, .ref a1), (1, .ref a2), (2, .int x3)] [] h Q := by
  intro n
  induction n with
  | zero => intro a1 a2 x3 h hp; exact (dr_p0 hp).elim
  | succ n ih =>
    intro a1 a2 x3 h hp
    unfold f_T_parseInto_20 at hp
    refine wp_iload_n d_T_parseInto_20 2 rfl ?_
    refine wp_sipush (v := 300) (by decide) d_T_parseInto_21 ?_
    refine wp_icmp_ge (tgt := 61) d_T_parseInto_24 (by decide) hp (fun _ hp => ?_) (fun _ hp => ?_)
    · refine wp_aload_n d_T_parseInto_61 0 rfl ?_
      refine wp_iconst (v := 0) (by decide) d_T_parseInto_62 ?_
      refine wp_put cl_T fl_T_15 (by decide) (Or.inl (by rfl)) (by rfl) (by rfl) d_T_parseInto_63 hp (fun h4 hp => ?_)
      refine wp_aload_n d_T_parseInto_66 0 rfl ?_
      refine wp_gi cl_T fl_T_22 (by decide) d_T_parseInto_67 hp (fun x5 hp => ?_)
      exact wp_ireturn rfl rfl d_T_parseInto_70 hp
    · refine wp_aload_n d_T_parseInto_27 0 rfl ?_
      refine wp_gi cl_T fl_T_19 (by decide) d_T_parseInto_28 hp (fun x6 hp => ?_)
      refine wp_aload_n d_T_parseInto_31 0 rfl ?_
      refine wp_gi cl_T fl_T_15 (by decide) d_T_parseInto_32 hp (fun x7 hp => ?_)
      refine wp_icmp_ge (tgt := 61) d_T_parseInto_35 (by decide) hp (fun _ hp => ?_) (fun _ hp => ?_)
      · refine wp_aload_n d_T_parseInto_61 0 rfl ?_
        refine wp_iconst (v := 0) (by decide) d_T_parseInto_62 ?_
        refine wp_put cl_T fl_T_15 (by decide) (Or.inl (by rfl)) (by rfl) (by rfl) d_T_parseInto_63 hp (fun h8 hp => ?_)
        refine wp_aload_n d_T_parseInto_66 0 rfl ?_
        refine wp_gi cl_T fl_T_22 (by decide) d_T_parseInto_67 hp (fun x9 hp => ?_)
        exact wp_ireturn rfl rfl d_T_parseInto_70 hp
      · refine wp_aload_n d_T_parseInto_38 0 rfl ?_
        refine wp_gi cl_T fl_T_22 (by decide) d_T_parseInto_39 hp (fun x10 hp => ?_)
        refine wp_iconst (v := (-1)) (by decide) d_T_parseInto_42 ?_
        refine wp_icmp_ne (tgt := 61) d_T_parseInto_43 (by decide) hp (fun _ hp => ?_) (fun _ hp => ?_)
        · refine wp_aload_n d_T_parseInto_61 0 rfl ?_
          refine wp_iconst (v := 0) (by decide) d_T_parseInto_62 ?_
          refine wp_put cl_T fl_T_15 (by decide) (Or.inl (by rfl)) (by rfl) (by rfl) d_T_parseInto_63 hp (fun h11 hp => ?_)
          refine wp_aload_n d_T_parseInto_66 0 rfl ?_
          refine wp_gi cl_T fl_T_22 (by decide) d_T_parseInto_67 hp (fun x12 hp => ?_)
          exact wp_ireturn rfl rfl d_T_parseInto_70 hp
        · refine wp_aload_n d_T_parseInto_46 0 rfl ?_
          refine wp_aload_n d_T_parseInto_47 1 rfl ?_
          refine wp_k hp (fun hk hp => ?_)
          refine wp_cv (M' := mi_T_parseRow) (As := [.ref a1, .ref a2]) (st := []) (fr' := 5) (wo' := 70) (dr_sV (A := [.ref a2]) cl_T hk tw_274 tw_276 tp_3 co_T_parseRow ⟨by decide, by decide⟩ (by rfl) d_T_parseInto_48 rfl) co_T_parseRow (by decide +kernel) (by decide) (Nat.le_of_ble_eq_true rfl) (Nat.le_of_ble_eq_true rfl) (fun Q' hq => t_T_parseRow _ _ _ hq) hp (fun h13 hp => ?_) (fun E q h3 hp => wx_out (by decide) hp)
          refine wp_aload_n d_T_parseInto_51 0 rfl ?_
          refine wp_k hp (fun hk hp => ?_)
          refine wp_cv (M' := mi_T_skipBlanks) (As := [.ref a1]) (st := []) (fr' := 1) (wo' := 12) (dr_sV (A := []) cl_T hk tw_266 tw_268 tp_1 co_T_skipBlanks ⟨by decide, by decide⟩ (by rfl) d_T_parseInto_52 rfl) co_T_skipBlanks (by decide +kernel) (by decide) (Nat.le_of_ble_eq_true rfl) (Nat.le_of_ble_eq_true rfl) (fun Q' hq => t_T_skipBlanks _ _ hq) hp (fun h14 hp => ?_) (fun E q h3 hp => wx_out (by decide) hp)
          refine wp_iinc (v := (x3 + 1)) (l' := [(2, .int (x3 + 1)), (0, .ref a1), (1, .ref a2)]) d_T_parseInto_55 2 rfl rfl (by decide) rfl ?_
          refine wp_goto (tgt := 20) d_T_parseInto_58 (by decide) ?_
          exact wp_sub [1, 2, 0] rfl (ih _ _ _ _ hp)
set_option maxRecDepth 100000 in
set_option maxHeartbeats 400000 in
theorem t_T_parseInto {Q : dr_RS → dr_AH → Prop} : ∀ (a1 : Nat) (a2 : Nat) (h : dr_AH), dr_p (f_T_parseInto a1 a2 h) Q → dr_W mi_T_parseInto 6 83 0 [(0, .ref a1), (1, .ref a2)] [] h Q := by
  intro a1 a2 h hp
  unfold f_T_parseInto at hp
  refine wp_aload_n d_T_parseInto_0 1 rfl ?_
  refine wp_k hp (fun hk hp => ?_)
  refine wp_cv (M' := mi_S_clear) (As := [.ref a2]) (st := []) (fr' := 1) (wo' := 15) (dr_sV (A := []) cl_S hk tw_261 tw_262 tw_263 co_S_clear ⟨by decide, by decide⟩ (by rfl) d_T_parseInto_1 rfl) co_S_clear (by decide +kernel) (by decide) (Nat.le_of_ble_eq_true rfl) (Nat.le_of_ble_eq_true rfl) (fun Q' hq => t_S_clear _ _ hq) hp (fun h3 hp => ?_) (fun E q h3 hp => wx_out (by decide) hp)
  refine wp_aload_n d_T_parseInto_4 0 rfl ?_
  refine wp_iconst (v := 0) (by decide) d_T_parseInto_5 ?_
  refine wp_put cl_T fl_T_19 (by decide) (Or.inl (by rfl)) (by rfl) (by rfl) d_T_parseInto_6 hp (fun h4 hp => ?_)
  refine wp_aload_n d_T_parseInto_9 0 rfl ?_
  refine wp_iconst (v := (-1)) (by decide) d_T_parseInto_10 ?_
  refine wp_put cl_T fl_T_22 (by decide) (Or.inl (by rfl)) (by rfl) (by rfl) d_T_parseInto_11 hp (fun h5 hp => ?_)
  refine wp_aload_n d_T_parseInto_14 0 rfl ?_
  refine wp_k hp (fun hk hp => ?_)
  refine wp_cv (M' := mi_T_skipBlanks) (As := [.ref a1]) (st := []) (fr' := 1) (wo' := 12) (dr_sV (A := []) cl_T hk tw_266 tw_268 tp_1 co_T_skipBlanks ⟨by decide, by decide⟩ (by rfl) d_T_parseInto_15 rfl) co_T_skipBlanks (by decide +kernel) (by decide) (Nat.le_of_ble_eq_true rfl) (Nat.le_of_ble_eq_true rfl) (fun Q' hq => t_T_skipBlanks _ _ hq) hp (fun h6 hp => ?_) (fun E q h3 hp => wx_out (by decide) hp)
  refine wp_iconst (v := 0) (by decide) d_T_parseInto_18 ?_
  refine wp_istore_n (l' := [(2, .int 0), (0, .ref a1), (1, .ref a2)]) d_T_parseInto_19 (by decide) rfl ?_
  exact wp_sub [1, 2, 0] rfl (t_T_parseInto_20 dr_fu _ _ _ _ hp)
