def f_D_init (a1 : Nat) (a2 : Nat) (x3 : Int32) (h : dr_AH) : Option (dr_RS × dr_AH) :=
  (dr_pf h 0 a1 2 (.int 1) fun h4 => (dr_na h4 0 (.int 0) 41 fun a5 h6 => (dr_pf h6 0 a1 3 (.ref a5) fun h7 => (dr_pf h7 0 a1 4 (.int 0) fun h8 => (dr_na h8 0 (.int 0) 20 fun a9 h10 => (dr_pf h10 0 a1 5 (.ref a9) fun h11 => (dr_na h11 0 (.int 0) 60 fun a12 h13 => (dr_pf h13 0 a1 6 (.ref a12) fun h14 => (dr_na h14 0 (.int 0) 60 fun a15 h16 => (dr_pf h16 0 a1 7 (.ref a15) fun h17 => (dr_pf h17 0 a1 8 (.int 0) fun h18 => (dr_pf h18 0 a1 0 (.ref a2) fun h19 => (dr_pf h19 0 a1 1 (.int x3) fun h20 => (dr_gr' h20 0 a1 3 fun a21 => (dr_cv' (f_A_fill a21 (-1) h20) fun h22 => (dr_gr' h22 0 a1 5 fun a23 => (dr_cv' (f_A_fill a23 (-1) h22) fun h24 => some (.inl none, h24))))))))))))))))))
set_option maxRecDepth 100000 in
set_option maxHeartbeats 400000 in
theorem t_D_init {Q : dr_RS → dr_AH → Prop} : ∀ (a1 : Nat) (a2 : Nat) (x3 : Int32) (h : dr_AH), dr_p (f_D_init a1 a2 x3 h) Q → dr_W mi_D_init 1 15 0 [(0, .ref a1), (1, .ref a2), (2, .int x3)] [] h Q := by
  intro a1 a2 x3 h hp
  unfold f_D_init at hp
  refine wp_aload_n d_D_init_0 0 rfl ?_
  refine wp_objInit tw_354 tw_22 tw_23 (by decide) (Nat.le_of_ble_eq_true rfl) d_D_init_1 ?_
  refine wp_aload_n d_D_init_4 0 rfl ?_
  refine wp_iconst (v := 1) (by decide) d_D_init_5 ?_
  refine wp_put cl_D fl_D_9 (by decide) (Or.inl (by rfl)) (by decide) (by decide) d_D_init_6 hp (fun h4 hp => ?_)
  refine wp_aload_n d_D_init_9 0 rfl ?_
  refine wp_bipush (v := 41) (by decide) d_D_init_10 ?_
  refine wp_newI tw_43 d_D_init_12 hp (fun a5 h6 hp => ?_)
  refine wp_put cl_D fl_D_15 (by decide) (Or.inr ⟨by rfl, by rfl⟩) (by rfl) (by rfl) d_D_init_14 hp (fun h7 hp => ?_)
  refine wp_aload_n d_D_init_17 0 rfl ?_
  refine wp_iconst (v := 0) (by decide) d_D_init_18 ?_
  refine wp_put cl_D fl_D_19 (by decide) (Or.inl (by rfl)) (by rfl) (by rfl) d_D_init_19 hp (fun h8 hp => ?_)
  refine wp_aload_n d_D_init_22 0 rfl ?_
  refine wp_bipush (v := 20) (by decide) d_D_init_23 ?_
  refine wp_newI tw_43 d_D_init_25 hp (fun a9 h10 hp => ?_)
  refine wp_put cl_D fl_D_23 (by decide) (Or.inr ⟨by rfl, by rfl⟩) (by rfl) (by rfl) d_D_init_27 hp (fun h11 hp => ?_)
  refine wp_aload_n d_D_init_30 0 rfl ?_
  refine wp_bipush (v := 60) (by decide) d_D_init_31 ?_
  refine wp_newI tw_43 d_D_init_33 hp (fun a12 h13 hp => ?_)
  refine wp_put cl_D fl_D_26 (by decide) (Or.inr ⟨by rfl, by rfl⟩) (by rfl) (by rfl) d_D_init_35 hp (fun h14 hp => ?_)
  refine wp_aload_n d_D_init_38 0 rfl ?_
  refine wp_bipush (v := 60) (by decide) d_D_init_39 ?_
  refine wp_newI tw_43 d_D_init_41 hp (fun a15 h16 hp => ?_)
  refine wp_put cl_D fl_D_29 (by decide) (Or.inr ⟨by rfl, by rfl⟩) (by rfl) (by rfl) d_D_init_43 hp (fun h17 hp => ?_)
  refine wp_aload_n d_D_init_46 0 rfl ?_
  refine wp_iconst (v := 0) (by decide) d_D_init_47 ?_
  refine wp_put cl_D fl_D_32 (by decide) (Or.inl (by rfl)) (by rfl) (by rfl) d_D_init_48 hp (fun h18 hp => ?_)
  refine wp_aload_n d_D_init_51 0 rfl ?_
  refine wp_aload_n d_D_init_52 1 rfl ?_
  refine wp_put cl_D fl_D_35 (by decide) (Or.inr ⟨by rfl, by rfl⟩) (by rfl) (by rfl) d_D_init_53 hp (fun h19 hp => ?_)
  refine wp_aload_n d_D_init_56 0 rfl ?_
  refine wp_iload_n d_D_init_57 2 rfl ?_
  refine wp_put cl_D fl_D_39 (by decide) (Or.inr ⟨by rfl, by rfl⟩) (by rfl) (by rfl) d_D_init_58 hp (fun h20 hp => ?_)
  refine wp_aload_n d_D_init_61 0 rfl ?_
  refine wp_gr cl_D fl_D_15 (by decide) d_D_init_62 hp (fun a21 hp => ?_) (fun hp => (dr_p0 hp).elim)
  refine wp_iconst (v := (-1)) (by decide) d_D_init_65 ?_
  refine wp_cv (M' := mi_A_fill) (As := [.ref a21, .int (-1)]) (st := []) (fr' := 0) (wo' := 0) (dr_sS (A := [.ref a21, .int (-1)]) tw_355 tw_109 tw_4 co_A_fill ⟨by decide, by decide⟩ (by rfl) d_D_init_66 rfl) co_A_fill (by decide +kernel) (by decide) (Nat.le_of_ble_eq_true rfl) (Nat.le_of_ble_eq_true rfl) (fun Q' hq => t_A_fill _ _ _ hq) hp (fun h22 hp => ?_) (fun E q h3 hp => wx_out (by decide) hp)
  refine wp_aload_n d_D_init_69 0 rfl ?_
  refine wp_gr cl_D fl_D_23 (by decide) d_D_init_70 hp (fun a23 hp => ?_) (fun hp => (dr_p0 hp).elim)
  refine wp_iconst (v := (-1)) (by decide) d_D_init_73 ?_
  refine wp_cv (M' := mi_A_fill) (As := [.ref a23, .int (-1)]) (st := []) (fr' := 0) (wo' := 0) (dr_sS (A := [.ref a23, .int (-1)]) tw_355 tw_109 tw_4 co_A_fill ⟨by decide, by decide⟩ (by rfl) d_D_init_74 rfl) co_A_fill (by decide +kernel) (by decide) (Nat.le_of_ble_eq_true rfl) (Nat.le_of_ble_eq_true rfl) (fun Q' hq => t_A_fill _ _ _ hq) hp (fun h24 hp => ?_) (fun E q h3 hp => wx_out (by decide) hp)
  exact wp_return rfl d_D_init_77 hp
def f_D_drillSecond (a1 : Nat) (x2 : Int32) (h : dr_AH) : Option (dr_RS × dr_AH) :=
  (dr_gi h 0 a1 1 fun x3 => some (.inl (some (.int (x2 - x3))), h))
set_option maxRecDepth 100000 in
set_option maxHeartbeats 400000 in
theorem t_D_drillSecond {Q : dr_RS → dr_AH → Prop} : ∀ (a1 : Nat) (x2 : Int32) (h : dr_AH), dr_p (f_D_drillSecond a1 x2 h) Q → dr_W mi_D_drillSecond 0 0 0 [(0, .ref a1), (1, .int x2)] [] h Q := by
  intro a1 x2 h hp
  unfold f_D_drillSecond at hp
  refine wp_iload_n d_D_drillSecond_0 1 rfl ?_
  refine wp_aload_n d_D_drillSecond_1 0 rfl ?_
  refine wp_gi cl_D fl_D_39 (by decide) d_D_drillSecond_2 hp (fun x3 hp => ?_)
  refine wp_isub d_D_drillSecond_5 ?_
  exact wp_ireturn rfl rfl d_D_drillSecond_6 hp
def f_D_firstSecondOf (a1 : Nat) (x2 : Int32) (h : dr_AH) : Option (dr_RS × dr_AH) :=
  if x2 < 0 then some (.inl (some (.int (-1))), h) else (dr_gr' h 0 a1 5 fun a3 => (dr_ln h 0 a3 fun x4 => if x4 ≤ x2 then some (.inl (some (.int (-1))), h) else (dr_gr' h 0 a1 5 fun a5 => (dr_ai h a5 x2 fun x6 => some (.inl (some (.int x6)), h)))))
set_option maxRecDepth 100000 in
set_option maxHeartbeats 400000 in
theorem t_D_firstSecondOf {Q : dr_RS → dr_AH → Prop} : ∀ (a1 : Nat) (x2 : Int32) (h : dr_AH), dr_p (f_D_firstSecondOf a1 x2 h) Q → dr_W mi_D_firstSecondOf 0 0 0 [(0, .ref a1), (1, .int x2)] [] h Q := by
  intro a1 x2 h hp
  unfold f_D_firstSecondOf at hp
  refine wp_iload_n d_D_firstSecondOf_0 1 rfl ?_
  refine wp_if_lt (tgt := 22) d_D_firstSecondOf_1 (by decide) hp (fun _ hp => ?_) (fun _ hp => ?_)
  · refine wp_iconst (v := (-1)) (by decide) d_D_firstSecondOf_22 ?_
    exact wp_ireturn rfl rfl d_D_firstSecondOf_23 hp
  · refine wp_iload_n d_D_firstSecondOf_4 1 rfl ?_
    refine wp_aload_n d_D_firstSecondOf_5 0 rfl ?_
    refine wp_gr cl_D fl_D_23 (by decide) d_D_firstSecondOf_6 hp (fun a3 hp => ?_) (fun hp => (dr_p0 hp).elim)
    refine wp_alen (c := 0) (by decide) d_D_firstSecondOf_9 hp (fun x4 hp => ?_)
    refine wp_icmp_ge (tgt := 22) d_D_firstSecondOf_10 (by decide) hp (fun _ hp => ?_) (fun _ hp => ?_)
    · refine wp_iconst (v := (-1)) (by decide) d_D_firstSecondOf_22 ?_
      exact wp_ireturn rfl rfl d_D_firstSecondOf_23 hp
    · refine wp_aload_n d_D_firstSecondOf_13 0 rfl ?_
      refine wp_gr cl_D fl_D_23 (by decide) d_D_firstSecondOf_14 hp (fun a5 hp => ?_) (fun hp => (dr_p0 hp).elim)
      refine wp_iload_n d_D_firstSecondOf_17 1 rfl ?_
      refine wp_iaload d_D_firstSecondOf_18 hp (fun x6 hp => ?_)
      refine wp_goto (tgt := 23) d_D_firstSecondOf_19 (by decide) ?_
      exact wp_ireturn rfl rfl d_D_firstSecondOf_23 hp
def f_D_dueSecond (a1 : Nat) (x2 : Int32) (h : dr_AH) : Option (dr_RS × dr_AH) :=
  (dr_gr' h 0 a1 0 fun a3 => (dr_gr' h 1 a3 3 fun a4 => (dr_ai h a4 x2 fun x5 => (dr_gr' h 0 a1 0 fun a6 => (dr_gr' h 1 a6 1 fun a7 => (dr_ai h a7 x2 fun x8 => (dr_k h a1 0 (dr_ci' (f_D_firstSecondOf a1 x8 h) fun x10 h9 => if x10 = (-1) then some (.inl (some (.int x5)), h9) else (dr_gr' h9 0 a1 0 fun a11 => (dr_gr' h9 1 a11 2 fun a12 => (dr_ai h9 a12 x2 fun x13 => (dr_ci' (f_N_min (x10 + x13) x5 h9) fun x15 h14 => some (.inl (some (.int x15)), h14)))))))))))))
set_option maxRecDepth 100000 in
set_option maxHeartbeats 400000 in
theorem t_D_dueSecond {Q : dr_RS → dr_AH → Prop} : ∀ (a1 : Nat) (x2 : Int32) (h : dr_AH), dr_p (f_D_dueSecond a1 x2 h) Q → dr_W mi_D_dueSecond 1 13 0 [(0, .ref a1), (1, .int x2)] [] h Q := by
  intro a1 x2 h hp
  unfold f_D_dueSecond at hp
  refine wp_aload_n d_D_dueSecond_0 0 rfl ?_
  refine wp_gr cl_D fl_D_35 (by decide) d_D_dueSecond_1 hp (fun a3 hp => ?_) (fun hp => (dr_p0 hp).elim)
  refine wp_gr cl_S fl_D_61 (by decide) d_D_dueSecond_4 hp (fun a4 hp => ?_) (fun hp => (dr_p0 hp).elim)
  refine wp_iload_n d_D_dueSecond_7 1 rfl ?_
  refine wp_iaload d_D_dueSecond_8 hp (fun x5 hp => ?_)
  refine wp_istore_n (l' := [(2, .int x5), (0, .ref a1), (1, .int x2)]) d_D_dueSecond_9 (by decide) rfl ?_
  refine wp_aload_n d_D_dueSecond_10 1 rfl ?_
  refine wp_aload_n d_D_dueSecond_11 1 rfl ?_
  refine wp_gr cl_D fl_D_35 (by decide) d_D_dueSecond_12 hp (fun a6 hp => ?_) (fun hp => (dr_p0 hp).elim)
  refine wp_gr cl_S fl_D_64 (by decide) d_D_dueSecond_15 hp (fun a7 hp => ?_) (fun hp => (dr_p0 hp).elim)
  refine wp_iload_n d_D_dueSecond_18 2 rfl ?_
  refine wp_iaload d_D_dueSecond_19 hp (fun x8 hp => ?_)
  refine wp_k hp (fun hk hp => ?_)
  refine wp_ci (M' := mi_D_firstSecondOf) (As := [.ref a1, .int x8]) (st := []) (fr' := 0) (wo' := 0) (dr_sV (A := [.int x8]) cl_D hk tw_402 tw_404 tp_11 co_D_firstSecondOf ⟨by decide, by decide⟩ (by rfl) d_D_dueSecond_20 rfl) co_D_firstSecondOf (by decide +kernel) (by decide) (Nat.le_of_ble_eq_true rfl) (Nat.le_of_ble_eq_true rfl) (fun Q' hq => t_D_firstSecondOf _ _ _ hq) hp (fun x10 h9 hp => ?_) (fun E q h3 hp => wx_out (by decide) hp)
  refine wp_istore_n (l' := [(3, .int x10), (2, .int x5), (0, .ref a1), (1, .int x2)]) d_D_dueSecond_23 (by decide) rfl ?_
  refine wp_iload_n d_D_dueSecond_24 0 rfl ?_
  refine wp_iconst (v := (-1)) (by decide) d_D_dueSecond_25 ?_
  refine wp_icmp_ne (tgt := 33) d_D_dueSecond_26 (by decide) hp (fun _ hp => ?_) (fun _ hp => ?_)
  · refine wp_iload_n d_D_dueSecond_33 0 rfl ?_
    refine wp_aload_n d_D_dueSecond_34 2 rfl ?_
    refine wp_gr cl_D fl_D_35 (by decide) d_D_dueSecond_35 hp (fun a11 hp => ?_) (fun hp => (dr_p0 hp).elim)
    refine wp_gr cl_S fl_D_70 (by decide) d_D_dueSecond_38 hp (fun a12 hp => ?_) (fun hp => (dr_p0 hp).elim)
    refine wp_iload_n d_D_dueSecond_41 3 rfl ?_
    refine wp_iaload d_D_dueSecond_42 hp (fun x13 hp => ?_)
    refine wp_iadd d_D_dueSecond_43 ?_
    refine wp_iload_n d_D_dueSecond_44 1 rfl ?_
    refine wp_ci (M' := mi_N_min) (As := [.int (x10 + x13), .int x5]) (st := []) (fr' := 0) (wo' := 0) (dr_sS (A := [.int (x10 + x13), .int x5]) tw_406 tw_407 tw_13 co_N_min ⟨by decide, by decide⟩ (by rfl) d_D_dueSecond_45 rfl) co_N_min (by decide +kernel) (by decide) (Nat.le_of_ble_eq_true rfl) (Nat.le_of_ble_eq_true rfl) (fun Q' hq => t_N_min _ _ _ hq) hp (fun x15 h14 hp => ?_) (fun E q h3 hp => wx_out (by decide) hp)
    exact wp_ireturn rfl rfl d_D_dueSecond_48 hp
  · refine wp_iload_n d_D_dueSecond_29 1 rfl ?_
    refine wp_goto (tgt := 48) d_D_dueSecond_30 (by decide) ?_
    exact wp_ireturn rfl rfl d_D_dueSecond_48 hp
def f_D_beginDueEvents_11 : Nat → Nat → Int32 → Int32 → Int32 → dr_AH → Option (dr_RS × dr_AH)
  | 0, _, _, _, _, _ => none
  | n + 1, a1, x2, x3, x4, h => (dr_gr' h 0 a1 3 fun a5 => (dr_ln h 0 a5 fun x6 => if x6 ≤ x4 then (dr_gi h 0 a1 4 fun x7 => (dr_pf h 0 a1 4 (.int (x7 + x3)) fun h8 => some (.inl (some (.int x3)), h8))) else (dr_gr' h 0 a1 0 fun a9 => (dr_k h a9 1 (dr_ci' (f_S_hasEvent a9 x4 h) fun x11 h10 => if x11 = 0 then f_D_beginDueEvents_11 n a1 x2 x3 (x4 + 1) h10 else (dr_gr' h10 0 a1 3 fun a12 => (dr_ai h10 a12 x4 fun x13 => if x13 = (-1) then (dr_k h10 a1 0 (dr_ci' (f_D_dueSecond a1 x4 h10) fun x15 h14 => if x2 < x15 then f_D_beginDueEvents_11 n a1 x2 x3 (x4 + 1) h14 else (dr_gr' h14 0 a1 3 fun a16 => (dr_si h14 a16 x4 x15 fun h17 => f_D_beginDueEvents_11 n a1 x2 (x3 + 1) (x4 + 1) h17)))) else f_D_beginDueEvents_11 n a1 x2 x3 (x4 + 1) h10)))))))
def f_D_beginDueEvents (a1 : Nat) (x2 : Int32) (h : dr_AH) : Option (dr_RS × dr_AH) :=
  (dr_k h a1 0 (dr_ci' (f_D_drillSecond a1 x2 h) fun x4 h3 => f_D_beginDueEvents_11 dr_fu a1 x4 0 1 h3))
set_option maxRecDepth 100000 in
set_option maxHeartbeats 400000 in
theorem t_D_beginDueEvents_11 {Q : dr_RS → dr_AH → Prop} : ∀ (n : Nat) (a1 : Nat) (x2 : Int32) (x3 : Int32) (x4 : Int32) (h : dr_AH), dr_p (f_D_beginDueEvents_11 n a1 x2 x3 x4 h) Q → dr_W mi_D_beginDueEvents 2 28 11 [(0, .ref a1), (2, .int x2), (3, .int x3), (4, .int x4)] [] h Q := by
  intro n
  induction n with
  | zero => intro a1 x2 x3 x4 h hp; exact (dr_p0 hp).elim
  | succ n ih =>
    intro a1 x2 x3 x4 h hp
    unfold f_D_beginDueEvents_11 at hp
    refine wp_iload d_D_beginDueEvents_11 3 rfl ?_
    refine wp_aload_n d_D_beginDueEvents_13 0 rfl ?_
    refine wp_gr cl_D fl_D_15 (by decide) d_D_beginDueEvents_14 hp (fun a5 hp => ?_) (fun hp => (dr_p0 hp).elim)
    refine wp_alen (c := 0) (by decide) d_D_beginDueEvents_17 hp (fun x6 hp => ?_)
    refine wp_icmp_ge (tgt := 76) d_D_beginDueEvents_18 (by decide) hp (fun _ hp => ?_) (fun _ hp => ?_)
    · refine wp_aload_n d_D_beginDueEvents_76 0 rfl ?_
      refine wp_dup rfl d_D_beginDueEvents_77 ?_
      refine wp_gi cl_D fl_D_19 (by decide) d_D_beginDueEvents_78 hp (fun x7 hp => ?_)
      refine wp_iload_n d_D_beginDueEvents_81 2 rfl ?_
      refine wp_iadd d_D_beginDueEvents_82 ?_
      refine wp_put cl_D fl_D_19 (by decide) (Or.inl (by rfl)) (by rfl) (by rfl) d_D_beginDueEvents_83 hp (fun h8 hp => ?_)
      refine wp_iload_n d_D_beginDueEvents_86 2 rfl ?_
      exact wp_ireturn rfl rfl d_D_beginDueEvents_87 hp
    · refine wp_aload_n d_D_beginDueEvents_21 0 rfl ?_
      refine wp_gr cl_D fl_D_35 (by decide) d_D_beginDueEvents_22 hp (fun a9 hp => ?_) (fun hp => (dr_p0 hp).elim)
      refine wp_iload d_D_beginDueEvents_25 3 rfl ?_
      refine wp_k hp (fun hk hp => ?_)
      refine wp_ci (M' := mi_S_hasEvent) (As := [.ref a9, .int x4]) (st := []) (fr' := 0) (wo' := 0) (dr_sV (A := [.int x4]) cl_S hk tw_397 tw_298 tw_299 co_S_hasEvent ⟨by decide, by decide⟩ (by rfl) d_D_beginDueEvents_27 rfl) co_S_hasEvent (by decide +kernel) (by decide) (Nat.le_of_ble_eq_true rfl) (Nat.le_of_ble_eq_true rfl) (fun Q' hq => t_S_hasEvent _ _ _ hq) hp (fun x11 h10 hp => ?_) (fun E q h3 hp => wx_out (by decide) hp)
      refine wp_if_eq (tgt := 70) d_D_beginDueEvents_30 (by decide) hp (fun _ hp => ?_) (fun _ hp => ?_)
      · refine wp_iinc (v := (x4 + 1)) (l' := [(4, .int (x4 + 1)), (0, .ref a1), (2, .int x2), (3, .int x3)]) d_D_beginDueEvents_70 3 rfl rfl (by decide) rfl ?_
        refine wp_goto (tgt := 11) d_D_beginDueEvents_73 (by decide) ?_
        exact wp_sub [1, 2, 3, 0] rfl (ih _ _ _ _ _ hp)
      · refine wp_aload_n d_D_beginDueEvents_33 0 rfl ?_
        refine wp_gr cl_D fl_D_15 (by decide) d_D_beginDueEvents_34 hp (fun a12 hp => ?_) (fun hp => (dr_p0 hp).elim)
        refine wp_iload d_D_beginDueEvents_37 3 rfl ?_
        refine wp_iaload d_D_beginDueEvents_39 hp (fun x13 hp => ?_)
        refine wp_iconst (v := (-1)) (by decide) d_D_beginDueEvents_40 ?_
        refine wp_icmp_ne (tgt := 70) d_D_beginDueEvents_41 (by decide) hp (fun _ hp => ?_) (fun _ hp => ?_)
        · refine wp_iinc (v := (x4 + 1)) (l' := [(4, .int (x4 + 1)), (0, .ref a1), (2, .int x2), (3, .int x3)]) d_D_beginDueEvents_70 3 rfl rfl (by decide) rfl ?_
          refine wp_goto (tgt := 11) d_D_beginDueEvents_73 (by decide) ?_
          exact wp_sub [1, 2, 3, 0] rfl (ih _ _ _ _ _ hp)
        · refine wp_aload_n d_D_beginDueEvents_44 0 rfl ?_
          refine wp_iload d_D_beginDueEvents_45 3 rfl ?_
          refine wp_k hp (fun hk hp => ?_)
          refine wp_ci (M' := mi_D_dueSecond) (As := [.ref a1, .int x4]) (st := []) (fr' := 1) (wo' := 13) (dr_sV (A := [.int x4]) cl_D hk tw_398 tw_400 tp_10 co_D_dueSecond ⟨by decide, by decide⟩ (by rfl) d_D_beginDueEvents_47 rfl) co_D_dueSecond (by decide +kernel) (by decide) (Nat.le_of_ble_eq_true rfl) (Nat.le_of_ble_eq_true rfl) (fun Q' hq => t_D_dueSecond _ _ _ hq) hp (fun x15 h14 hp => ?_) (fun E q h3 hp => wx_out (by decide) hp)
          refine wp_istore (l' := [(5, .int x15), (0, .ref a1), (2, .int x2), (3, .int x3), (4, .int x4)]) d_D_beginDueEvents_50 (by decide) rfl ?_
          refine wp_iload d_D_beginDueEvents_52 0 rfl ?_
          refine wp_iload_n d_D_beginDueEvents_54 2 rfl ?_
          refine wp_icmp_gt (tgt := 70) d_D_beginDueEvents_55 (by decide) hp (fun _ hp => ?_) (fun _ hp => ?_)
          · refine wp_iinc (v := (x4 + 1)) (l' := [(4, .int (x4 + 1)), (5, .int x15), (0, .ref a1), (2, .int x2), (3, .int x3)]) d_D_beginDueEvents_70 4 rfl rfl (by decide) rfl ?_
            refine wp_goto (tgt := 11) d_D_beginDueEvents_73 (by decide) ?_
            exact wp_sub [2, 3, 4, 0] rfl (ih _ _ _ _ _ hp)
          · refine wp_aload_n d_D_beginDueEvents_58 1 rfl ?_
            refine wp_gr cl_D fl_D_15 (by decide) d_D_beginDueEvents_59 hp (fun a16 hp => ?_) (fun hp => (dr_p0 hp).elim)
            refine wp_iload d_D_beginDueEvents_62 4 rfl ?_
            refine wp_iload d_D_beginDueEvents_64 0 rfl ?_
            refine wp_iastore d_D_beginDueEvents_66 hp (fun h17 hp => ?_)
            refine wp_iinc (v := (x3 + 1)) (l' := [(3, .int (x3 + 1)), (5, .int x15), (0, .ref a1), (2, .int x2), (4, .int x4)]) d_D_beginDueEvents_67 3 rfl rfl (by decide) rfl ?_
            refine wp_iinc (v := (x4 + 1)) (l' := [(4, .int (x4 + 1)), (3, .int (x3 + 1)), (5, .int x15), (0, .ref a1), (2, .int x2)]) d_D_beginDueEvents_70 4 rfl rfl (by decide) rfl ?_
            refine wp_goto (tgt := 11) d_D_beginDueEvents_73 (by decide) ?_
            exact wp_sub [3, 4, 1, 0] rfl (ih _ _ _ _ _ hp)
set_option maxRecDepth 100000 in
set_option maxHeartbeats 400000 in
theorem t_D_beginDueEvents {Q : dr_RS → dr_AH → Prop} : ∀ (a1 : Nat) (x2 : Int32) (h : dr_AH), dr_p (f_D_beginDueEvents a1 x2 h) Q → dr_W mi_D_beginDueEvents 2 28 0 [(0, .ref a1), (1, .int x2)] [] h Q := by
  intro a1 x2 h hp
  unfold f_D_beginDueEvents at hp
  refine wp_aload_n d_D_beginDueEvents_0 0 rfl ?_
  refine wp_iload_n d_D_beginDueEvents_1 1 rfl ?_
  refine wp_k hp (fun hk hp => ?_)
  refine wp_ci (M' := mi_D_drillSecond) (As := [.ref a1, .int x2]) (st := []) (fr' := 0) (wo' := 0) (dr_sV (A := [.int x2]) cl_D hk tw_393 tw_394 tw_395 co_D_drillSecond ⟨by decide, by decide⟩ (by rfl) d_D_beginDueEvents_2 rfl) co_D_drillSecond (by decide +kernel) (by decide) (Nat.le_of_ble_eq_true rfl) (Nat.le_of_ble_eq_true rfl) (fun Q' hq => t_D_drillSecond _ _ _ hq) hp (fun x4 h3 hp => ?_) (fun E q h3 hp => wx_out (by decide) hp)
  refine wp_istore_n (l' := [(2, .int x4), (0, .ref a1), (1, .int x2)]) d_D_beginDueEvents_5 (by decide) rfl ?_
  refine wp_iconst (v := 0) (by decide) d_D_beginDueEvents_6 ?_
  refine wp_istore_n (l' := [(3, .int 0), (2, .int x4), (0, .ref a1), (1, .int x2)]) d_D_beginDueEvents_7 (by decide) rfl ?_
  refine wp_iconst (v := 1) (by decide) d_D_beginDueEvents_8 ?_
  refine wp_istore (l' := [(4, .int 1), (3, .int 0), (2, .int x4), (0, .ref a1), (1, .int x2)]) d_D_beginDueEvents_9 (by decide) rfl ?_
  exact wp_sub [3, 2, 1, 0] rfl (t_D_beginDueEvents_11 dr_fu _ _ _ _ _ hp)
def f_D_hasRoomForAct (a1 : Nat) (h : dr_AH) : Option (dr_RS × dr_AH) :=
  (dr_gi h 0 a1 8 fun x2 => if 60 ≤ x2 then dr_rz 0 h else dr_rz 1 h)
set_option maxRecDepth 100000 in
set_option maxHeartbeats 400000 in
theorem t_D_hasRoomForAct {Q : dr_RS → dr_AH → Prop} : ∀ (a1 : Nat) (h : dr_AH), dr_p (f_D_hasRoomForAct a1 h) Q → dr_W mi_D_hasRoomForAct 0 0 0 [(0, .ref a1)] [] h Q := by
  intro a1 h hp
  unfold f_D_hasRoomForAct at hp
  refine wp_aload_n d_D_hasRoomForAct_0 0 rfl ?_
  refine wp_gi cl_D fl_D_32 (by decide) d_D_hasRoomForAct_1 hp (fun x2 hp => ?_)
  refine wp_bipush (v := 60) (by decide) d_D_hasRoomForAct_4 ?_
  refine wp_icmp_ge (tgt := 13) d_D_hasRoomForAct_6 (by decide) hp (fun _ hp => ?_) (fun _ hp => ?_)
  · refine wp_iconst (v := 0) (by decide) d_D_hasRoomForAct_13 ?_
    exact wp_zreturn rfl d_D_hasRoomForAct_14 hp
  · refine wp_iconst (v := 1) (by decide) d_D_hasRoomForAct_9 ?_
    refine wp_goto (tgt := 14) d_D_hasRoomForAct_10 (by decide) ?_
    exact wp_zreturn rfl d_D_hasRoomForAct_14 hp
def f_D_noteAct (a1 : Nat) (x2 : Int32) (x3 : Int32) (h : dr_AH) : Option (dr_RS × dr_AH) :=
  if x2 < 0 then some (.inl none, h) else (dr_gr' h 0 a1 5 fun a4 => (dr_ln h 0 a4 fun x5 => if x5 ≤ x2 then some (.inl none, h) else (dr_gi h 0 a1 8 fun x6 => if x6 < 0 then some (.inl none, h) else (dr_gi h 0 a1 8 fun x7 => if x7 < 60 then (dr_k h a1 0 (dr_ci' (f_D_drillSecond a1 x3 h) fun x9 h8 => (dr_gr' h8 0 a1 6 fun a10 => (dr_gi h8 0 a1 8 fun x11 => (dr_si h8 a10 x11 x2 fun h12 => (dr_gr' h12 0 a1 7 fun a13 => (dr_gi h12 0 a1 8 fun x14 => (dr_si h12 a13 x14 x9 fun h15 => (dr_gi h15 0 a1 8 fun x16 => (dr_pf h15 0 a1 8 (.int (x16 + 1)) fun h17 => (dr_gr' h17 0 a1 5 fun a18 => (dr_ai h17 a18 x2 fun x19 => if x19 = (-1) then (dr_gr' h17 0 a1 5 fun a20 => (dr_si h17 a20 x2 x9 fun h21 => some (.inl none, h21))) else some (.inl none, h17))))))))))))) else some (.inl none, h)))))
set_option maxRecDepth 100000 in
set_option maxHeartbeats 400000 in
theorem t_D_noteAct {Q : dr_RS → dr_AH → Prop} : ∀ (a1 : Nat) (x2 : Int32) (x3 : Int32) (h : dr_AH), dr_p (f_D_noteAct a1 x2 x3 h) Q → dr_W mi_D_noteAct 1 13 0 [(0, .ref a1), (1, .int x2), (2, .int x3)] [] h Q := by
  intro a1 x2 x3 h hp
  unfold f_D_noteAct at hp
  refine wp_iload_n d_D_noteAct_0 1 rfl ?_
  refine wp_if_lt (tgt := 29) d_D_noteAct_1 (by decide) hp (fun _ hp => ?_) (fun _ hp => ?_)
  · exact wp_return rfl d_D_noteAct_29 hp
  · refine wp_iload_n d_D_noteAct_4 1 rfl ?_
    refine wp_aload_n d_D_noteAct_5 0 rfl ?_
    refine wp_gr cl_D fl_D_23 (by decide) d_D_noteAct_6 hp (fun a4 hp => ?_) (fun hp => (dr_p0 hp).elim)
    refine wp_alen (c := 0) (by decide) d_D_noteAct_9 hp (fun x5 hp => ?_)
    refine wp_icmp_ge (tgt := 29) d_D_noteAct_10 (by decide) hp (fun _ hp => ?_) (fun _ hp => ?_)
    · exact wp_return rfl d_D_noteAct_29 hp
    · refine wp_aload_n d_D_noteAct_13 0 rfl ?_
      refine wp_gi cl_D fl_D_32 (by decide) d_D_noteAct_14 hp (fun x6 hp => ?_)
      refine wp_if_lt (tgt := 29) d_D_noteAct_17 (by decide) hp (fun _ hp => ?_) (fun _ hp => ?_)
      · exact wp_return rfl d_D_noteAct_29 hp
      · refine wp_aload_n d_D_noteAct_20 0 rfl ?_
        refine wp_gi cl_D fl_D_32 (by decide) d_D_noteAct_21 hp (fun x7 hp => ?_)
        refine wp_bipush (v := 60) (by decide) d_D_noteAct_24 ?_
        refine wp_icmp_lt (tgt := 30) d_D_noteAct_26 (by decide) hp (fun _ hp => ?_) (fun _ hp => ?_)
        · refine wp_aload_n d_D_noteAct_30 0 rfl ?_
          refine wp_iload_n d_D_noteAct_31 2 rfl ?_
          refine wp_k hp (fun hk hp => ?_)
          refine wp_ci (M' := mi_D_drillSecond) (As := [.ref a1, .int x3]) (st := []) (fr' := 0) (wo' := 0) (dr_sV (A := [.int x3]) cl_D hk tw_393 tw_394 tw_395 co_D_drillSecond ⟨by decide, by decide⟩ (by rfl) d_D_noteAct_32 rfl) co_D_drillSecond (by decide +kernel) (by decide) (Nat.le_of_ble_eq_true rfl) (Nat.le_of_ble_eq_true rfl) (fun Q' hq => t_D_drillSecond _ _ _ hq) hp (fun x9 h8 hp => ?_) (fun E q h3 hp => wx_out (by decide) hp)
          refine wp_istore_n (l' := [(3, .int x9), (0, .ref a1), (1, .int x2), (2, .int x3)]) d_D_noteAct_35 (by decide) rfl ?_
          refine wp_aload_n d_D_noteAct_36 1 rfl ?_
          refine wp_gr cl_D fl_D_26 (by decide) d_D_noteAct_37 hp (fun a10 hp => ?_) (fun hp => (dr_p0 hp).elim)
          refine wp_aload_n d_D_noteAct_40 1 rfl ?_
          refine wp_gi cl_D fl_D_32 (by decide) d_D_noteAct_41 hp (fun x11 hp => ?_)
          refine wp_iload_n d_D_noteAct_44 2 rfl ?_
          refine wp_iastore d_D_noteAct_45 hp (fun h12 hp => ?_)
          refine wp_aload_n d_D_noteAct_46 1 rfl ?_
          refine wp_gr cl_D fl_D_29 (by decide) d_D_noteAct_47 hp (fun a13 hp => ?_) (fun hp => (dr_p0 hp).elim)
          refine wp_aload_n d_D_noteAct_50 1 rfl ?_
          refine wp_gi cl_D fl_D_32 (by decide) d_D_noteAct_51 hp (fun x14 hp => ?_)
          refine wp_iload_n d_D_noteAct_54 0 rfl ?_
          refine wp_iastore d_D_noteAct_55 hp (fun h15 hp => ?_)
          refine wp_aload_n d_D_noteAct_56 1 rfl ?_
          refine wp_dup rfl d_D_noteAct_57 ?_
          refine wp_gi cl_D fl_D_32 (by decide) d_D_noteAct_58 hp (fun x16 hp => ?_)
          refine wp_iconst (v := 1) (by decide) d_D_noteAct_61 ?_
          refine wp_iadd d_D_noteAct_62 ?_
          refine wp_put cl_D fl_D_32 (by decide) (Or.inl (by rfl)) (by rfl) (by rfl) d_D_noteAct_63 hp (fun h17 hp => ?_)
          refine wp_aload_n d_D_noteAct_66 1 rfl ?_
          refine wp_gr cl_D fl_D_23 (by decide) d_D_noteAct_67 hp (fun a18 hp => ?_) (fun hp => (dr_p0 hp).elim)
          refine wp_iload_n d_D_noteAct_70 2 rfl ?_
          refine wp_iaload d_D_noteAct_71 hp (fun x19 hp => ?_)
          refine wp_iconst (v := (-1)) (by decide) d_D_noteAct_72 ?_
          refine wp_icmp_ne (tgt := 83) d_D_noteAct_73 (by decide) hp (fun _ hp => ?_) (fun _ hp => ?_)
          · exact wp_return rfl d_D_noteAct_83 hp
          · refine wp_aload_n d_D_noteAct_76 1 rfl ?_
            refine wp_gr cl_D fl_D_23 (by decide) d_D_noteAct_77 hp (fun a20 hp => ?_) (fun hp => (dr_p0 hp).elim)
            refine wp_iload_n d_D_noteAct_80 2 rfl ?_
            refine wp_iload_n d_D_noteAct_81 0 rfl ?_
            refine wp_iastore d_D_noteAct_82 hp (fun h21 hp => ?_)
            exact wp_return rfl d_D_noteAct_83 hp
        · exact wp_return rfl d_D_noteAct_29 hp
def f_D_beginOf (a1 : Nat) (x2 : Int32) (h : dr_AH) : Option (dr_RS × dr_AH) :=
  if x2 < 0 then some (.inl (some (.int (-1))), h) else (dr_gr' h 0 a1 3 fun a3 => (dr_ln h 0 a3 fun x4 => if x4 ≤ x2 then some (.inl (some (.int (-1))), h) else (dr_gr' h 0 a1 3 fun a5 => (dr_ai h a5 x2 fun x6 => some (.inl (some (.int x6)), h)))))
set_option maxRecDepth 100000 in
set_option maxHeartbeats 400000 in
theorem t_D_beginOf {Q : dr_RS → dr_AH → Prop} : ∀ (a1 : Nat) (x2 : Int32) (h : dr_AH), dr_p (f_D_beginOf a1 x2 h) Q → dr_W mi_D_beginOf 0 0 0 [(0, .ref a1), (1, .int x2)] [] h Q := by
  intro a1 x2 h hp
  unfold f_D_beginOf at hp
  refine wp_iload_n d_D_beginOf_0 1 rfl ?_
  refine wp_if_lt (tgt := 22) d_D_beginOf_1 (by decide) hp (fun _ hp => ?_) (fun _ hp => ?_)
  · refine wp_iconst (v := (-1)) (by decide) d_D_beginOf_22 ?_
    exact wp_ireturn rfl rfl d_D_beginOf_23 hp
  · refine wp_iload_n d_D_beginOf_4 1 rfl ?_
    refine wp_aload_n d_D_beginOf_5 0 rfl ?_
    refine wp_gr cl_D fl_D_15 (by decide) d_D_beginOf_6 hp (fun a3 hp => ?_) (fun hp => (dr_p0 hp).elim)
    refine wp_alen (c := 0) (by decide) d_D_beginOf_9 hp (fun x4 hp => ?_)
    refine wp_icmp_ge (tgt := 22) d_D_beginOf_10 (by decide) hp (fun _ hp => ?_) (fun _ hp => ?_)
    · refine wp_iconst (v := (-1)) (by decide) d_D_beginOf_22 ?_
      exact wp_ireturn rfl rfl d_D_beginOf_23 hp
    · refine wp_aload_n d_D_beginOf_13 0 rfl ?_
      refine wp_gr cl_D fl_D_15 (by decide) d_D_beginOf_14 hp (fun a5 hp => ?_) (fun hp => (dr_p0 hp).elim)
      refine wp_iload_n d_D_beginOf_17 1 rfl ?_
      refine wp_iaload d_D_beginOf_18 hp (fun x6 hp => ?_)
      refine wp_goto (tgt := 23) d_D_beginOf_19 (by decide) ?_
      exact wp_ireturn rfl rfl d_D_beginOf_23 hp
def f_D_maySee (a1 : Nat) (x2 : Int32) (x3 : Int32) (h : dr_AH) : Option (dr_RS × dr_AH) :=
  (dr_gr' h 0 a1 0 fun a4 => (dr_gr' h 1 a4 5 fun a5 => (dr_az h a5 x3 fun x6 => if x6 = 0 then dr_rz 1 h else (dr_gr' h 0 a1 0 fun a7 => (dr_gr' h 1 a7 4 fun a8 => (dr_ai h a8 x3 fun x9 => if x9 = x2 then dr_rz 1 h else dr_rz 0 h))))))
set_option maxRecDepth 100000 in
set_option maxHeartbeats 400000 in
theorem t_D_maySee {Q : dr_RS → dr_AH → Prop} : ∀ (a1 : Nat) (x2 : Int32) (x3 : Int32) (h : dr_AH), dr_p (f_D_maySee a1 x2 x3 h) Q → dr_W mi_D_maySee 0 0 0 [(0, .ref a1), (1, .int x2), (2, .int x3)] [] h Q := by
  intro a1 x2 x3 h hp
  unfold f_D_maySee at hp
  refine wp_aload_n d_D_maySee_0 0 rfl ?_
  refine wp_gr cl_D fl_D_35 (by decide) d_D_maySee_1 hp (fun a4 hp => ?_) (fun hp => (dr_p0 hp).elim)
  refine wp_gr cl_S fl_D_83 (by decide) d_D_maySee_4 hp (fun a5 hp => ?_) (fun hp => (dr_p0 hp).elim)
  refine wp_iload_n d_D_maySee_7 2 rfl ?_
  refine wp_zaload d_D_maySee_8 hp (fun x6 hp => ?_)
  refine wp_if_eq (tgt := 25) d_D_maySee_9 (by decide) hp (fun _ hp => ?_) (fun _ hp => ?_)
  · refine wp_iconst (v := 1) (by decide) d_D_maySee_25 ?_
    refine wp_goto (tgt := 30) d_D_maySee_26 (by decide) ?_
    exact wp_zreturn rfl d_D_maySee_30 hp
  · refine wp_aload_n d_D_maySee_12 0 rfl ?_
    refine wp_gr cl_D fl_D_35 (by decide) d_D_maySee_13 hp (fun a7 hp => ?_) (fun hp => (dr_p0 hp).elim)
    refine wp_gr cl_S fl_D_87 (by decide) d_D_maySee_16 hp (fun a8 hp => ?_) (fun hp => (dr_p0 hp).elim)
    refine wp_iload_n d_D_maySee_19 2 rfl ?_
    refine wp_iaload d_D_maySee_20 hp (fun x9 hp => ?_)
    refine wp_iload_n d_D_maySee_21 1 rfl ?_
    refine wp_icmp_ne (tgt := 29) d_D_maySee_22 (by decide) hp (fun _ hp => ?_) (fun _ hp => ?_)
    · refine wp_iconst (v := 0) (by decide) d_D_maySee_29 ?_
      exact wp_zreturn rfl d_D_maySee_30 hp
    · refine wp_iconst (v := 1) (by decide) d_D_maySee_25 ?_
      refine wp_goto (tgt := 30) d_D_maySee_26 (by decide) ?_
      exact wp_zreturn rfl d_D_maySee_30 hp
def f_D_eventSeenBy_5 : Nat → Nat → Int32 → Int32 → Int32 → Int32 → dr_AH → Option (dr_RS × dr_AH)
  | 0, _, _, _, _, _, _ => none
  | n + 1, a1, x2, x3, x4, x5, h => (dr_gr' h 0 a1 3 fun a6 => (dr_ln h 0 a6 fun x7 => if x7 ≤ x5 then some (.inl (some (.int (-1))), h) else (dr_gr' h 0 a1 3 fun a8 => (dr_ai h a8 x5 fun x9 => if x9 = (-1) then f_D_eventSeenBy_5 n a1 x2 x3 x4 (x5 + 1) h else (dr_k h a1 0 (dr_ci' (f_D_maySee a1 x2 x5 h) fun x11 h10 => if x11 = 0 then f_D_eventSeenBy_5 n a1 x2 x3 x4 (x5 + 1) h10 else if x4 = x3 then some (.inl (some (.int x5)), h10) else f_D_eventSeenBy_5 n a1 x2 x3 (x4 + 1) (x5 + 1) h10))))))
def f_D_eventSeenBy (a1 : Nat) (x2 : Int32) (x3 : Int32) (h : dr_AH) : Option (dr_RS × dr_AH) :=
  f_D_eventSeenBy_5 dr_fu a1 x2 x3 0 1 h
set_option maxRecDepth 100000 in
set_option maxHeartbeats 400000 in
theorem t_D_eventSeenBy_5 {Q : dr_RS → dr_AH → Prop} : ∀ (n : Nat) (a1 : Nat) (x2 : Int32) (x3 : Int32) (x4 : Int32) (x5 : Int32) (h : dr_AH), dr_p (f_D_eventSeenBy_5 n a1 x2 x3 x4 x5 h) Q → dr_W mi_D_eventSeenBy 1 14 5 [(0, .ref a1), (1, .int x2), (2, .int x3), (3, .int x4), (4, .int x5)] [] h Q := by
  intro n
  induction n with
  | zero => intro a1 x2 x3 x4 x5 h hp; exact (dr_p0 hp).elim
  | succ n ih =>
    intro a1 x2 x3 x4 x5 h hp
    unfold f_D_eventSeenBy_5 at hp
    refine wp_iload d_D_eventSeenBy_5 4 rfl ?_
    refine wp_aload_n d_D_eventSeenBy_7 0 rfl ?_
    refine wp_gr cl_D fl_D_15 (by decide) d_D_eventSeenBy_8 hp (fun a6 hp => ?_) (fun hp => (dr_p0 hp).elim)
    refine wp_alen (c := 0) (by decide) d_D_eventSeenBy_11 hp (fun x7 hp => ?_)
    refine wp_icmp_ge (tgt := 53) d_D_eventSeenBy_12 (by decide) hp (fun _ hp => ?_) (fun _ hp => ?_)
    · refine wp_iconst (v := (-1)) (by decide) d_D_eventSeenBy_53 ?_
      exact wp_ireturn rfl rfl d_D_eventSeenBy_54 hp
    · refine wp_aload_n d_D_eventSeenBy_15 0 rfl ?_
      refine wp_gr cl_D fl_D_15 (by decide) d_D_eventSeenBy_16 hp (fun a8 hp => ?_) (fun hp => (dr_p0 hp).elim)
      refine wp_iload d_D_eventSeenBy_19 4 rfl ?_
      refine wp_iaload d_D_eventSeenBy_21 hp (fun x9 hp => ?_)
      refine wp_iconst (v := (-1)) (by decide) d_D_eventSeenBy_22 ?_
      refine wp_icmp_eq (tgt := 47) d_D_eventSeenBy_23 (by decide) hp (fun _ hp => ?_) (fun _ hp => ?_)
      · refine wp_iinc (v := (x5 + 1)) (l' := [(4, .int (x5 + 1)), (0, .ref a1), (1, .int x2), (2, .int x3), (3, .int x4)]) d_D_eventSeenBy_47 4 rfl rfl (by decide) rfl ?_
        refine wp_goto (tgt := 5) d_D_eventSeenBy_50 (by decide) ?_
        exact wp_sub [1, 2, 3, 4, 0] rfl (ih _ _ _ _ _ _ hp)
      · refine wp_aload_n d_D_eventSeenBy_26 0 rfl ?_
        refine wp_iload_n d_D_eventSeenBy_27 1 rfl ?_
        refine wp_iload d_D_eventSeenBy_28 4 rfl ?_
        refine wp_k hp (fun hk hp => ?_)
        refine wp_ci (M' := mi_D_maySee) (As := [.ref a1, .int x2, .int x5]) (st := []) (fr' := 0) (wo' := 0) (dr_sV (A := [.int x2, .int x5]) cl_D hk tw_507 tw_509 tp_13 co_D_maySee ⟨by decide, by decide⟩ (by rfl) d_D_eventSeenBy_30 rfl) co_D_maySee (by decide +kernel) (by decide) (Nat.le_of_ble_eq_true rfl) (Nat.le_of_ble_eq_true rfl) (fun Q' hq => t_D_maySee _ _ _ _ hq) hp (fun x11 h10 hp => ?_) (fun E q h3 hp => wx_out (by decide) hp)
        refine wp_if_eq (tgt := 47) d_D_eventSeenBy_33 (by decide) hp (fun _ hp => ?_) (fun _ hp => ?_)
        · refine wp_iinc (v := (x5 + 1)) (l' := [(4, .int (x5 + 1)), (0, .ref a1), (1, .int x2), (2, .int x3), (3, .int x4)]) d_D_eventSeenBy_47 4 rfl rfl (by decide) rfl ?_
          refine wp_goto (tgt := 5) d_D_eventSeenBy_50 (by decide) ?_
          exact wp_sub [1, 2, 3, 4, 0] rfl (ih _ _ _ _ _ _ hp)
        · refine wp_iload_n d_D_eventSeenBy_36 3 rfl ?_
          refine wp_iload_n d_D_eventSeenBy_37 2 rfl ?_
          refine wp_icmp_ne (tgt := 44) d_D_eventSeenBy_38 (by decide) hp (fun _ hp => ?_) (fun _ hp => ?_)
          · refine wp_iinc (v := (x4 + 1)) (l' := [(3, .int (x4 + 1)), (0, .ref a1), (1, .int x2), (2, .int x3), (4, .int x5)]) d_D_eventSeenBy_44 3 rfl rfl (by decide) rfl ?_
            refine wp_iinc (v := (x5 + 1)) (l' := [(4, .int (x5 + 1)), (3, .int (x4 + 1)), (0, .ref a1), (1, .int x2), (2, .int x3)]) d_D_eventSeenBy_47 4 rfl rfl (by decide) rfl ?_
            refine wp_goto (tgt := 5) d_D_eventSeenBy_50 (by decide) ?_
            exact wp_sub [2, 3, 4, 1, 0] rfl (ih _ _ _ _ _ _ hp)
          · refine wp_iload d_D_eventSeenBy_41 4 rfl ?_
            exact wp_ireturn rfl rfl d_D_eventSeenBy_43 hp
set_option maxRecDepth 100000 in
set_option maxHeartbeats 400000 in
theorem t_D_eventSeenBy {Q : dr_RS → dr_AH → Prop} : ∀ (a1 : Nat) (x2 : Int32) (x3 : Int32) (h : dr_AH), dr_p (f_D_eventSeenBy a1 x2 x3 h) Q → dr_W mi_D_eventSeenBy 1 14 0 [(0, .ref a1), (1, .int x2), (2, .int x3)] [] h Q := by
  intro a1 x2 x3 h hp
  unfold f_D_eventSeenBy at hp
  refine wp_iconst (v := 0) (by decide) d_D_eventSeenBy_0 ?_
  refine wp_istore_n (l' := [(3, .int 0), (0, .ref a1), (1, .int x2), (2, .int x3)]) d_D_eventSeenBy_1 (by decide) rfl ?_
  refine wp_iconst (v := 1) (by decide) d_D_eventSeenBy_2 ?_
  refine wp_istore (l' := [(4, .int 1), (3, .int 0), (0, .ref a1), (1, .int x2), (2, .int x3)]) d_D_eventSeenBy_3 (by decide) rfl ?_
  exact wp_sub [2, 3, 4, 1, 0] rfl (t_D_eventSeenBy_5 dr_fu _ _ _ _ _ _ hp)
def f_D_hasBegunFault_2 : Nat → Nat → Int32 → Int32 → dr_AH → Option (dr_RS × dr_AH)
  | 0, _, _, _, _ => none
  | n + 1, a1, x2, x3, h => (dr_gr' h 0 a1 3 fun a4 => (dr_ln h 0 a4 fun x5 => if x5 ≤ x3 then dr_rz 0 h else (dr_gr' h 0 a1 3 fun a6 => (dr_ai h a6 x3 fun x7 => if x7 = (-1) then f_D_hasBegunFault_2 n a1 x2 (x3 + 1) h else (dr_gr' h 0 a1 0 fun a8 => (dr_gr' h 1 a8 6 fun a9 => (dr_ai h a9 x3 fun x10 => if x10 = x2 then dr_rz 1 h else f_D_hasBegunFault_2 n a1 x2 (x3 + 1) h)))))))
def f_D_hasBegunFault (a1 : Nat) (x2 : Int32) (h : dr_AH) : Option (dr_RS × dr_AH) :=
  f_D_hasBegunFault_2 dr_fu a1 x2 1 h
set_option maxRecDepth 100000 in
set_option maxHeartbeats 400000 in
theorem t_D_hasBegunFault_2 {Q : dr_RS → dr_AH → Prop} : ∀ (n : Nat) (a1 : Nat) (x2 : Int32) (x3 : Int32) (h : dr_AH), dr_p (f_D_hasBegunFault_2 n a1 x2 x3 h) Q → dr_W mi_D_hasBegunFault 0 0 2 [(0, .ref a1), (1, .int x2), (2, .int x3)] [] h Q := by
  intro n
  induction n with
  | zero => intro a1 x2 x3 h hp; exact (dr_p0 hp).elim
  | succ n ih =>
    intro a1 x2 x3 h hp
    unfold f_D_hasBegunFault_2 at hp
    refine wp_iload_n d_D_hasBegunFault_2 2 rfl ?_
    refine wp_aload_n d_D_hasBegunFault_3 0 rfl ?_
    refine wp_gr cl_D fl_D_15 (by decide) d_D_hasBegunFault_4 hp (fun a4 hp => ?_) (fun hp => (dr_p0 hp).elim)
    refine wp_alen (c := 0) (by decide) d_D_hasBegunFault_7 hp (fun x5 hp => ?_)
    refine wp_icmp_ge (tgt := 42) d_D_hasBegunFault_8 (by decide) hp (fun _ hp => ?_) (fun _ hp => ?_)
    · refine wp_iconst (v := 0) (by decide) d_D_hasBegunFault_42 ?_
      exact wp_zreturn rfl d_D_hasBegunFault_43 hp
    · refine wp_aload_n d_D_hasBegunFault_11 0 rfl ?_
      refine wp_gr cl_D fl_D_15 (by decide) d_D_hasBegunFault_12 hp (fun a6 hp => ?_) (fun hp => (dr_p0 hp).elim)
      refine wp_iload_n d_D_hasBegunFault_15 2 rfl ?_
      refine wp_iaload d_D_hasBegunFault_16 hp (fun x7 hp => ?_)
      refine wp_iconst (v := (-1)) (by decide) d_D_hasBegunFault_17 ?_
      refine wp_icmp_eq (tgt := 36) d_D_hasBegunFault_18 (by decide) hp (fun _ hp => ?_) (fun _ hp => ?_)
      · refine wp_iinc (v := (x3 + 1)) (l' := [(2, .int (x3 + 1)), (0, .ref a1), (1, .int x2)]) d_D_hasBegunFault_36 2 rfl rfl (by decide) rfl ?_
        refine wp_goto (tgt := 2) d_D_hasBegunFault_39 (by decide) ?_
        exact wp_sub [1, 2, 0] rfl (ih _ _ _ _ hp)
      · refine wp_aload_n d_D_hasBegunFault_21 0 rfl ?_
        refine wp_gr cl_D fl_D_35 (by decide) d_D_hasBegunFault_22 hp (fun a8 hp => ?_) (fun hp => (dr_p0 hp).elim)
        refine wp_gr cl_S fl_D_90 (by decide) d_D_hasBegunFault_25 hp (fun a9 hp => ?_) (fun hp => (dr_p0 hp).elim)
        refine wp_iload_n d_D_hasBegunFault_28 2 rfl ?_
        refine wp_iaload d_D_hasBegunFault_29 hp (fun x10 hp => ?_)
        refine wp_iload_n d_D_hasBegunFault_30 1 rfl ?_
        refine wp_icmp_ne (tgt := 36) d_D_hasBegunFault_31 (by decide) hp (fun _ hp => ?_) (fun _ hp => ?_)
        · refine wp_iinc (v := (x3 + 1)) (l' := [(2, .int (x3 + 1)), (0, .ref a1), (1, .int x2)]) d_D_hasBegunFault_36 2 rfl rfl (by decide) rfl ?_
          refine wp_goto (tgt := 2) d_D_hasBegunFault_39 (by decide) ?_
          exact wp_sub [1, 2, 0] rfl (ih _ _ _ _ hp)
        · refine wp_iconst (v := 1) (by decide) d_D_hasBegunFault_34 ?_
          exact wp_zreturn rfl d_D_hasBegunFault_35 hp
set_option maxRecDepth 100000 in
set_option maxHeartbeats 400000 in
theorem t_D_hasBegunFault {Q : dr_RS → dr_AH → Prop} : ∀ (a1 : Nat) (x2 : Int32) (h : dr_AH), dr_p (f_D_hasBegunFault a1 x2 h) Q → dr_W mi_D_hasBegunFault 0 0 0 [(0, .ref a1), (1, .int x2)] [] h Q := by
  intro a1 x2 h hp
  unfold f_D_hasBegunFault at hp
  refine wp_iconst (v := 1) (by decide) d_D_hasBegunFault_0 ?_
  refine wp_istore_n (l' := [(2, .int 1), (0, .ref a1), (1, .int x2)]) d_D_hasBegunFault_1 (by decide) rfl ?_
  exact wp_sub [1, 2, 0] rfl (t_D_hasBegunFault_2 dr_fu _ _ _ _ hp)
def f_D_hasActWithin_3 : Nat → Nat → Int32 → Int32 → Int32 → Int32 → dr_AH → Option (dr_RS × dr_AH)
  | 0, _, _, _, _, _, _ => none
  | n + 1, a1, x2, x3, x4, x5, h => (dr_gi h 0 a1 8 fun x6 => if x6 ≤ x5 then dr_rz 0 h else if 60 ≤ x5 then dr_rz 0 h else (dr_gr' h 0 a1 6 fun a7 => (dr_ai h a7 x5 fun x8 => if x8 = x2 then (dr_gr' h 0 a1 7 fun a9 => (dr_ai h a9 x5 fun x10 => if x10 < x3 then f_D_hasActWithin_3 n a1 x2 x3 x4 (x5 + 1) h else (dr_gr' h 0 a1 7 fun a11 => (dr_ai h a11 x5 fun x12 => if x4 < x12 then f_D_hasActWithin_3 n a1 x2 x3 x4 (x5 + 1) h else dr_rz 1 h)))) else f_D_hasActWithin_3 n a1 x2 x3 x4 (x5 + 1) h)))
def f_D_hasActWithin (a1 : Nat) (x2 : Int32) (x3 : Int32) (x4 : Int32) (h : dr_AH) : Option (dr_RS × dr_AH) :=
  f_D_hasActWithin_3 dr_fu a1 x2 x3 x4 0 h
set_option maxRecDepth 100000 in
set_option maxHeartbeats 400000 in
theorem t_D_hasActWithin_3 {Q : dr_RS → dr_AH → Prop} : ∀ (n : Nat) (a1 : Nat) (x2 : Int32) (x3 : Int32) (x4 : Int32) (x5 : Int32) (h : dr_AH), dr_p (f_D_hasActWithin_3 n a1 x2 x3 x4 x5 h) Q → dr_W mi_D_hasActWithin 0 0 3 [(0, .ref a1), (1, .int x2), (2, .int x3), (3, .int x4), (4, .int x5)] [] h Q := by
  intro n
  induction n with
  | zero => intro a1 x2 x3 x4 x5 h hp; exact (dr_p0 hp).elim
  | succ n ih =>
    intro a1 x2 x3 x4 x5 h hp
    unfold f_D_hasActWithin_3 at hp
    refine wp_iload d_D_hasActWithin_3 4 rfl ?_
    refine wp_aload_n d_D_hasActWithin_5 0 rfl ?_
    refine wp_gi cl_D fl_D_32 (by decide) d_D_hasActWithin_6 hp (fun x6 hp => ?_)
    refine wp_icmp_ge (tgt := 60) d_D_hasActWithin_9 (by decide) hp (fun _ hp => ?_) (fun _ hp => ?_)
    · refine wp_iconst (v := 0) (by decide) d_D_hasActWithin_60 ?_
      exact wp_zreturn rfl d_D_hasActWithin_61 hp
    · refine wp_iload d_D_hasActWithin_12 4 rfl ?_
      refine wp_bipush (v := 60) (by decide) d_D_hasActWithin_14 ?_
      refine wp_icmp_ge (tgt := 60) d_D_hasActWithin_16 (by decide) hp (fun _ hp => ?_) (fun _ hp => ?_)
      · refine wp_iconst (v := 0) (by decide) d_D_hasActWithin_60 ?_
        exact wp_zreturn rfl d_D_hasActWithin_61 hp
      · refine wp_aload_n d_D_hasActWithin_19 0 rfl ?_
        refine wp_gr cl_D fl_D_26 (by decide) d_D_hasActWithin_20 hp (fun a7 hp => ?_) (fun hp => (dr_p0 hp).elim)
        refine wp_iload d_D_hasActWithin_23 4 rfl ?_
        refine wp_iaload d_D_hasActWithin_25 hp (fun x8 hp => ?_)
        refine wp_iload_n d_D_hasActWithin_26 1 rfl ?_
        refine wp_icmp_ne (tgt := 54) d_D_hasActWithin_27 (by decide) hp (fun _ hp => ?_) (fun _ hp => ?_)
        · refine wp_iinc (v := (x5 + 1)) (l' := [(4, .int (x5 + 1)), (0, .ref a1), (1, .int x2), (2, .int x3), (3, .int x4)]) d_D_hasActWithin_54 4 rfl rfl (by decide) rfl ?_
          refine wp_goto (tgt := 3) d_D_hasActWithin_57 (by decide) ?_
          exact wp_sub [1, 2, 3, 4, 0] rfl (ih _ _ _ _ _ _ hp)
        · refine wp_aload_n d_D_hasActWithin_30 0 rfl ?_
          refine wp_gr cl_D fl_D_29 (by decide) d_D_hasActWithin_31 hp (fun a9 hp => ?_) (fun hp => (dr_p0 hp).elim)
          refine wp_iload d_D_hasActWithin_34 4 rfl ?_
          refine wp_iaload d_D_hasActWithin_36 hp (fun x10 hp => ?_)
          refine wp_iload_n d_D_hasActWithin_37 2 rfl ?_
          refine wp_icmp_lt (tgt := 54) d_D_hasActWithin_38 (by decide) hp (fun _ hp => ?_) (fun _ hp => ?_)
          · refine wp_iinc (v := (x5 + 1)) (l' := [(4, .int (x5 + 1)), (0, .ref a1), (1, .int x2), (2, .int x3), (3, .int x4)]) d_D_hasActWithin_54 4 rfl rfl (by decide) rfl ?_
            refine wp_goto (tgt := 3) d_D_hasActWithin_57 (by decide) ?_
            exact wp_sub [1, 2, 3, 4, 0] rfl (ih _ _ _ _ _ _ hp)
          · refine wp_aload_n d_D_hasActWithin_41 0 rfl ?_
            refine wp_gr cl_D fl_D_29 (by decide) d_D_hasActWithin_42 hp (fun a11 hp => ?_) (fun hp => (dr_p0 hp).elim)
            refine wp_iload d_D_hasActWithin_45 4 rfl ?_
            refine wp_iaload d_D_hasActWithin_47 hp (fun x12 hp => ?_)
            refine wp_iload_n d_D_hasActWithin_48 3 rfl ?_
            refine wp_icmp_gt (tgt := 54) d_D_hasActWithin_49 (by decide) hp (fun _ hp => ?_) (fun _ hp => ?_)
            · refine wp_iinc (v := (x5 + 1)) (l' := [(4, .int (x5 + 1)), (0, .ref a1), (1, .int x2), (2, .int x3), (3, .int x4)]) d_D_hasActWithin_54 4 rfl rfl (by decide) rfl ?_
              refine wp_goto (tgt := 3) d_D_hasActWithin_57 (by decide) ?_
              exact wp_sub [1, 2, 3, 4, 0] rfl (ih _ _ _ _ _ _ hp)
            · refine wp_iconst (v := 1) (by decide) d_D_hasActWithin_52 ?_
              exact wp_zreturn rfl d_D_hasActWithin_53 hp
set_option maxRecDepth 100000 in
set_option maxHeartbeats 400000 in
theorem t_D_hasActWithin {Q : dr_RS → dr_AH → Prop} : ∀ (a1 : Nat) (x2 : Int32) (x3 : Int32) (x4 : Int32) (h : dr_AH), dr_p (f_D_hasActWithin a1 x2 x3 x4 h) Q → dr_W mi_D_hasActWithin 0 0 0 [(0, .ref a1), (1, .int x2), (2, .int x3), (3, .int x4)] [] h Q := by
  intro a1 x2 x3 x4 h hp
  unfold f_D_hasActWithin at hp
  refine wp_iconst (v := 0) (by decide) d_D_hasActWithin_0 ?_
  refine wp_istore (l' := [(4, .int 0), (0, .ref a1), (1, .int x2), (2, .int x3), (3, .int x4)]) d_D_hasActWithin_1 (by decide) rfl ?_
  exact wp_sub [1, 2, 3, 4, 0] rfl (t_D_hasActWithin_3 dr_fu _ _ _ _ _ _ hp)
def f_D_stateOfAim_85 (a1 : Nat) (h : dr_AH) : Option (dr_RS × dr_AH) :=
  if (0 : Int32) = 0 then (dr_gi h 0 a1 2 fun x2 => if x2 = 0 then some (.inl (some (.int 2)), h) else some (.inl (some (.int 0)), h)) else some (.inl (some (.int 2)), h)
def f_D_stateOfAim_66 (a1 : Nat) (x2 : Int32) (x3 : Int32) (x4 : Int32) (h : dr_AH) : Option (dr_RS × dr_AH) :=
  if x3 = (-1) then f_D_stateOfAim_85 a1 h else (dr_k h a1 0 (dr_ci' (f_D_drillSecond a1 x2 h) fun x6 h5 => if x6 ≤ x4 then f_D_stateOfAim_85 a1 h5 else if (1 : Int32) = 0 then (dr_gi h5 0 a1 2 fun x7 => if x7 = 0 then some (.inl (some (.int 2)), h5) else some (.inl (some (.int 0)), h5)) else some (.inl (some (.int 2)), h5)))
def f_D_stateOfAim (a1 : Nat) (x2 : Int32) (x3 : Int32) (h : dr_AH) : Option (dr_RS × dr_AH) :=
  (dr_gr' h 0 a1 0 fun a4 => (dr_k h a4 1 (dr_ci' (f_S_hasAim a4 x2 h) fun x6 h5 => if x6 = 0 then some (.inl (some (.int 0)), h5) else (dr_gr' h5 0 a1 0 fun a7 => (dr_gr' h5 1 a7 8 fun a8 => (dr_ai h5 a8 x2 fun x9 => (dr_k h5 a1 0 (dr_ci' (f_D_beginOf a1 x9 h5) fun x11 h10 => (dr_gr' h10 0 a1 0 fun a12 => (dr_gr' h10 1 a12 10 fun a13 => (dr_ai h10 a13 x2 fun x14 => if x11 = (-1) then f_D_stateOfAim_66 a1 x3 x11 (x11 + x14) h10 else (dr_gr' h10 0 a1 0 fun a15 => (dr_gr' h10 1 a15 9 fun a16 => (dr_ai h10 a16 x2 fun x17 => (dr_k h10 a1 0 (dr_ci' (f_D_hasActWithin a1 x17 x11 (x11 + x14) h10) fun x19 h18 => if x19 = 0 then f_D_stateOfAim_66 a1 x3 x11 (x11 + x14) h18 else some (.inl (some (.int 1)), h18)))))))))))))))))
set_option maxRecDepth 100000 in
set_option maxHeartbeats 400000 in
theorem t_D_stateOfAim_85 {Q : dr_RS → dr_AH → Prop} : ∀ (a1 : Nat) (h : dr_AH), dr_p (f_D_stateOfAim_85 a1 h) Q → dr_W mi_D_stateOfAim 1 16 85 [(0, .ref a1)] [] h Q := by
  intro a1 h hp
  unfold f_D_stateOfAim_85 at hp
  refine wp_iconst (v := 0) (by decide) d_D_stateOfAim_85 ?_
  refine wp_istore (l' := [(5, .int 0), (0, .ref a1)]) d_D_stateOfAim_86 (by decide) rfl ?_
  refine wp_iload d_D_stateOfAim_88 0 rfl ?_
  refine wp_if_ne (tgt := 100) d_D_stateOfAim_90 (by decide) hp (fun _ hp => ?_) (fun _ hp => ?_)
  · refine wp_iconst (v := 2) (by decide) d_D_stateOfAim_100 ?_
    refine wp_goto (tgt := 105) d_D_stateOfAim_101 (by decide) ?_
    exact wp_ireturn rfl rfl d_D_stateOfAim_105 hp
  · refine wp_aload_n d_D_stateOfAim_93 1 rfl ?_
    refine wp_gi cl_D fl_D_9 (by decide) d_D_stateOfAim_94 hp (fun x2 hp => ?_)
    refine wp_if_ne (tgt := 104) d_D_stateOfAim_97 (by decide) hp (fun _ hp => ?_) (fun _ hp => ?_)
    · refine wp_iconst (v := 0) (by decide) d_D_stateOfAim_104 ?_
      exact wp_ireturn rfl rfl d_D_stateOfAim_105 hp
    · refine wp_iconst (v := 2) (by decide) d_D_stateOfAim_100 ?_
      refine wp_goto (tgt := 105) d_D_stateOfAim_101 (by decide) ?_
      exact wp_ireturn rfl rfl d_D_stateOfAim_105 hp
set_option maxRecDepth 100000 in
set_option maxHeartbeats 400000 in
theorem t_D_stateOfAim_66 {Q : dr_RS → dr_AH → Prop} : ∀ (a1 : Nat) (x2 : Int32) (x3 : Int32) (x4 : Int32) (h : dr_AH), dr_p (f_D_stateOfAim_66 a1 x2 x3 x4 h) Q → dr_W mi_D_stateOfAim 1 16 66 [(0, .ref a1), (2, .int x2), (3, .int x3), (4, .int x4)] [] h Q := by
  intro a1 x2 x3 x4 h hp
  unfold f_D_stateOfAim_66 at hp
  refine wp_iload_n d_D_stateOfAim_66 2 rfl ?_
  refine wp_iconst (v := (-1)) (by decide) d_D_stateOfAim_67 ?_
  refine wp_icmp_eq (tgt := 85) d_D_stateOfAim_68 (by decide) hp (fun _ hp => ?_) (fun _ hp => ?_)
  · exact wp_sub [0] rfl (t_D_stateOfAim_85 _ _ hp)
  · refine wp_aload_n d_D_stateOfAim_71 0 rfl ?_
    refine wp_iload_n d_D_stateOfAim_72 1 rfl ?_
    refine wp_k hp (fun hk hp => ?_)
    refine wp_ci (M' := mi_D_drillSecond) (As := [.ref a1, .int x2]) (st := []) (fr' := 0) (wo' := 0) (dr_sV (A := [.int x2]) cl_D hk tw_393 tw_394 tw_395 co_D_drillSecond ⟨by decide, by decide⟩ (by rfl) d_D_stateOfAim_73 rfl) co_D_drillSecond (by decide +kernel) (by decide) (Nat.le_of_ble_eq_true rfl) (Nat.le_of_ble_eq_true rfl) (fun Q' hq => t_D_drillSecond _ _ _ hq) hp (fun x6 h5 hp => ?_) (fun E q h3 hp => wx_out (by decide) hp)
    refine wp_iload d_D_stateOfAim_76 3 rfl ?_
    refine wp_icmp_le (tgt := 85) d_D_stateOfAim_78 (by decide) hp (fun _ hp => ?_) (fun _ hp => ?_)
    · exact wp_sub [0] rfl (t_D_stateOfAim_85 _ _ hp)
    · refine wp_iconst (v := 1) (by decide) d_D_stateOfAim_81 ?_
      refine wp_goto (tgt := 86) d_D_stateOfAim_82 (by decide) ?_
      refine wp_istore (l' := [(5, .int 1), (0, .ref a1), (2, .int x2), (3, .int x3), (4, .int x4)]) d_D_stateOfAim_86 (by decide) rfl ?_
      refine wp_iload d_D_stateOfAim_88 0 rfl ?_
      refine wp_if_ne (tgt := 100) d_D_stateOfAim_90 (by decide) hp (fun _ hp => ?_) (fun _ hp => ?_)
      · refine wp_iconst (v := 2) (by decide) d_D_stateOfAim_100 ?_
        refine wp_goto (tgt := 105) d_D_stateOfAim_101 (by decide) ?_
        exact wp_ireturn rfl rfl d_D_stateOfAim_105 hp
      · refine wp_aload_n d_D_stateOfAim_93 1 rfl ?_
        refine wp_gi cl_D fl_D_9 (by decide) d_D_stateOfAim_94 hp (fun x7 hp => ?_)
        refine wp_if_ne (tgt := 104) d_D_stateOfAim_97 (by decide) hp (fun _ hp => ?_) (fun _ hp => ?_)
        · refine wp_iconst (v := 0) (by decide) d_D_stateOfAim_104 ?_
          exact wp_ireturn rfl rfl d_D_stateOfAim_105 hp
        · refine wp_iconst (v := 2) (by decide) d_D_stateOfAim_100 ?_
          refine wp_goto (tgt := 105) d_D_stateOfAim_101 (by decide) ?_
          exact wp_ireturn rfl rfl d_D_stateOfAim_105 hp
set_option maxRecDepth 100000 in
set_option maxHeartbeats 400000 in
theorem t_D_stateOfAim {Q : dr_RS → dr_AH → Prop} : ∀ (a1 : Nat) (x2 : Int32) (x3 : Int32) (h : dr_AH), dr_p (f_D_stateOfAim a1 x2 x3 h) Q → dr_W mi_D_stateOfAim 1 16 0 [(0, .ref a1), (1, .int x2), (2, .int x3)] [] h Q := by
  intro a1 x2 x3 h hp
  unfold f_D_stateOfAim at hp
  refine wp_aload_n d_D_stateOfAim_0 0 rfl ?_
  refine wp_gr cl_D fl_D_35 (by decide) d_D_stateOfAim_1 hp (fun a4 hp => ?_) (fun hp => (dr_p0 hp).elim)
  refine wp_iload_n d_D_stateOfAim_4 1 rfl ?_
  refine wp_k hp (fun hk hp => ?_)
  refine wp_ci (M' := mi_S_hasAim) (As := [.ref a4, .int x2]) (st := []) (fr' := 0) (wo' := 0) (dr_sV (A := [.int x2]) cl_S hk tw_536 tw_318 tw_319 co_S_hasAim ⟨by decide, by decide⟩ (by rfl) d_D_stateOfAim_5 rfl) co_S_hasAim (by decide +kernel) (by decide) (Nat.le_of_ble_eq_true rfl) (Nat.le_of_ble_eq_true rfl) (fun Q' hq => t_S_hasAim _ _ _ hq) hp (fun x6 h5 hp => ?_) (fun E q h3 hp => wx_out (by decide) hp)
  refine wp_if_ne (tgt := 13) d_D_stateOfAim_8 (by decide) hp (fun _ hp => ?_) (fun _ hp => ?_)
  · refine wp_aload_n d_D_stateOfAim_13 0 rfl ?_
    refine wp_aload_n d_D_stateOfAim_14 0 rfl ?_
    refine wp_gr cl_D fl_D_35 (by decide) d_D_stateOfAim_15 hp (fun a7 hp => ?_) (fun hp => (dr_p0 hp).elim)
    refine wp_gr cl_S fl_D_96 (by decide) d_D_stateOfAim_18 hp (fun a8 hp => ?_) (fun hp => (dr_p0 hp).elim)
    refine wp_iload_n d_D_stateOfAim_21 1 rfl ?_
    refine wp_iaload d_D_stateOfAim_22 hp (fun x9 hp => ?_)
    refine wp_k hp (fun hk hp => ?_)
    refine wp_ci (M' := mi_D_beginOf) (As := [.ref a1, .int x9]) (st := []) (fr' := 0) (wo' := 0) (dr_sV (A := [.int x9]) cl_D hk tw_537 tw_490 tw_491 co_D_beginOf ⟨by decide, by decide⟩ (by rfl) d_D_stateOfAim_23 rfl) co_D_beginOf (by decide +kernel) (by decide) (Nat.le_of_ble_eq_true rfl) (Nat.le_of_ble_eq_true rfl) (fun Q' hq => t_D_beginOf _ _ _ hq) hp (fun x11 h10 hp => ?_) (fun E q h3 hp => wx_out (by decide) hp)
    refine wp_istore_n (l' := [(3, .int x11), (0, .ref a1), (1, .int x2), (2, .int x3)]) d_D_stateOfAim_26 (by decide) rfl ?_
    refine wp_iload_n d_D_stateOfAim_27 0 rfl ?_
    refine wp_aload_n d_D_stateOfAim_28 1 rfl ?_
    refine wp_gr cl_D fl_D_35 (by decide) d_D_stateOfAim_29 hp (fun a12 hp => ?_) (fun hp => (dr_p0 hp).elim)
    refine wp_gr cl_S fl_D_102 (by decide) d_D_stateOfAim_32 hp (fun a13 hp => ?_) (fun hp => (dr_p0 hp).elim)
    refine wp_iload_n d_D_stateOfAim_35 2 rfl ?_
    refine wp_iaload d_D_stateOfAim_36 hp (fun x14 hp => ?_)
    refine wp_iadd d_D_stateOfAim_37 ?_
    refine wp_istore (l' := [(4, .int (x11 + x14)), (3, .int x11), (0, .ref a1), (1, .int x2), (2, .int x3)]) d_D_stateOfAim_38 (by decide) rfl ?_
    refine wp_iload_n d_D_stateOfAim_40 1 rfl ?_
    refine wp_iconst (v := (-1)) (by decide) d_D_stateOfAim_41 ?_
    refine wp_icmp_eq (tgt := 66) d_D_stateOfAim_42 (by decide) hp (fun _ hp => ?_) (fun _ hp => ?_)
    · exact wp_sub [2, 4, 1, 0] rfl (t_D_stateOfAim_66 _ _ _ _ _ hp)
    · refine wp_aload_n d_D_stateOfAim_45 2 rfl ?_
      refine wp_aload_n d_D_stateOfAim_46 2 rfl ?_
      refine wp_gr cl_D fl_D_35 (by decide) d_D_stateOfAim_47 hp (fun a15 hp => ?_) (fun hp => (dr_p0 hp).elim)
      refine wp_gr cl_S fl_D_105 (by decide) d_D_stateOfAim_50 hp (fun a16 hp => ?_) (fun hp => (dr_p0 hp).elim)
      refine wp_iload_n d_D_stateOfAim_53 3 rfl ?_
      refine wp_iaload d_D_stateOfAim_54 hp (fun x17 hp => ?_)
      refine wp_iload_n d_D_stateOfAim_55 1 rfl ?_
      refine wp_iload d_D_stateOfAim_56 0 rfl ?_
      refine wp_k hp (fun hk hp => ?_)
      refine wp_ci (M' := mi_D_hasActWithin) (As := [.ref a1, .int x17, .int x11, .int (x11 + x14)]) (st := []) (fr' := 0) (wo' := 0) (dr_sV (A := [.int x17, .int x11, .int (x11 + x14)]) cl_D hk tw_538 tw_540 tp_14 co_D_hasActWithin ⟨by decide, by decide⟩ (by rfl) d_D_stateOfAim_58 rfl) co_D_hasActWithin (by decide +kernel) (by decide) (Nat.le_of_ble_eq_true rfl) (Nat.le_of_ble_eq_true rfl) (fun Q' hq => t_D_hasActWithin _ _ _ _ _ hq) hp (fun x19 h18 hp => ?_) (fun E q h3 hp => wx_out (by decide) hp)
      refine wp_if_eq (tgt := 66) d_D_stateOfAim_61 (by decide) hp (fun _ hp => ?_) (fun _ hp => ?_)
      · exact wp_sub [2, 4, 1, 0] rfl (t_D_stateOfAim_66 _ _ _ _ _ hp)
      · refine wp_iconst (v := 1) (by decide) d_D_stateOfAim_64 ?_
        exact wp_ireturn rfl rfl d_D_stateOfAim_65 hp
  · refine wp_iconst (v := 0) (by decide) d_D_stateOfAim_11 ?_
    exact wp_ireturn rfl rfl d_D_stateOfAim_12 hp
def f_D_weightOfMetAims_4 : Nat → Nat → Int32 → Int32 → Int32 → dr_AH → Option (dr_RS × dr_AH)
  | 0, _, _, _, _, _ => none
  | n + 1, a1, x2, x3, x4, h => if 20 < x4 then some (.inl (some (.int x3)), h) else (dr_gr' h 0 a1 0 fun a5 => (dr_k h a5 1 (dr_ci' (f_S_hasAim a5 x4 h) fun x7 h6 => if x7 = 0 then f_D_weightOfMetAims_4 n a1 x2 x3 (x4 + 1) h6 else (dr_k h6 a1 0 (dr_ci' (f_D_stateOfAim a1 x4 x2 h6) fun x9 h8 => if x9 = 1 then (dr_gr' h8 0 a1 0 fun a10 => (dr_gr' h8 1 a10 11 fun a11 => (dr_ai h8 a11 x4 fun x12 => f_D_weightOfMetAims_4 n a1 x2 (x3 + x12) (x4 + 1) h8))) else f_D_weightOfMetAims_4 n a1 x2 x3 (x4 + 1) h8)))))
def f_D_weightOfMetAims (a1 : Nat) (x2 : Int32) (h : dr_AH) : Option (dr_RS × dr_AH) :=
  f_D_weightOfMetAims_4 dr_fu a1 x2 0 1 h
set_option maxRecDepth 100000 in
set_option maxHeartbeats 400000 in
theorem t_D_weightOfMetAims_4 {Q : dr_RS → dr_AH → Prop} : ∀ (n : Nat) (a1 : Nat) (x2 : Int32) (x3 : Int32) (x4 : Int32) (h : dr_AH), dr_p (f_D_weightOfMetAims_4 n a1 x2 x3 x4 h) Q → dr_W mi_D_weightOfMetAims 2 33 4 [(0, .ref a1), (1, .int x2), (2, .int x3), (3, .int x4)] [] h Q := by
  intro n
  induction n with
  | zero => intro a1 x2 x3 x4 h hp; exact (dr_p0 hp).elim
  | succ n ih =>
    intro a1 x2 x3 x4 h hp
    unfold f_D_weightOfMetAims_4 at hp
    refine wp_iload_n d_D_weightOfMetAims_4 3 rfl ?_
    refine wp_bipush (v := 20) (by decide) d_D_weightOfMetAims_5 ?_
    refine wp_icmp_gt (tgt := 49) d_D_weightOfMetAims_7 (by decide) hp (fun _ hp => ?_) (fun _ hp => ?_)
    · refine wp_iload_n d_D_weightOfMetAims_49 2 rfl ?_
      exact wp_ireturn rfl rfl d_D_weightOfMetAims_50 hp
    · refine wp_aload_n d_D_weightOfMetAims_10 0 rfl ?_
      refine wp_gr cl_D fl_D_35 (by decide) d_D_weightOfMetAims_11 hp (fun a5 hp => ?_) (fun hp => (dr_p0 hp).elim)
      refine wp_iload_n d_D_weightOfMetAims_14 3 rfl ?_
      refine wp_k hp (fun hk hp => ?_)
      refine wp_ci (M' := mi_S_hasAim) (As := [.ref a5, .int x4]) (st := []) (fr' := 0) (wo' := 0) (dr_sV (A := [.int x4]) cl_S hk tw_536 tw_318 tw_319 co_S_hasAim ⟨by decide, by decide⟩ (by rfl) d_D_weightOfMetAims_15 rfl) co_S_hasAim (by decide +kernel) (by decide) (Nat.le_of_ble_eq_true rfl) (Nat.le_of_ble_eq_true rfl) (fun Q' hq => t_S_hasAim _ _ _ hq) hp (fun x7 h6 hp => ?_) (fun E q h3 hp => wx_out (by decide) hp)
      refine wp_if_eq (tgt := 43) d_D_weightOfMetAims_18 (by decide) hp (fun _ hp => ?_) (fun _ hp => ?_)
      · refine wp_iinc (v := (x4 + 1)) (l' := [(3, .int (x4 + 1)), (0, .ref a1), (1, .int x2), (2, .int x3)]) d_D_weightOfMetAims_43 3 rfl rfl (by decide) rfl ?_
        refine wp_goto (tgt := 4) d_D_weightOfMetAims_46 (by decide) ?_
        exact wp_sub [1, 2, 3, 0] rfl (ih _ _ _ _ _ hp)
      · refine wp_aload_n d_D_weightOfMetAims_21 0 rfl ?_
        refine wp_iload_n d_D_weightOfMetAims_22 3 rfl ?_
        refine wp_iload_n d_D_weightOfMetAims_23 1 rfl ?_
        refine wp_k hp (fun hk hp => ?_)
        refine wp_ci (M' := mi_D_stateOfAim) (As := [.ref a1, .int x4, .int x2]) (st := []) (fr' := 1) (wo' := 16) (dr_sV (A := [.int x4, .int x2]) cl_D hk tw_574 tw_533 tw_534 co_D_stateOfAim ⟨by decide, by decide⟩ (by rfl) d_D_weightOfMetAims_24 rfl) co_D_stateOfAim (by decide +kernel) (by decide) (Nat.le_of_ble_eq_true rfl) (Nat.le_of_ble_eq_true rfl) (fun Q' hq => t_D_stateOfAim _ _ _ _ hq) hp (fun x9 h8 hp => ?_) (fun E q h3 hp => wx_out (by decide) hp)
        refine wp_iconst (v := 1) (by decide) d_D_weightOfMetAims_27 ?_
        refine wp_icmp_ne (tgt := 43) d_D_weightOfMetAims_28 (by decide) hp (fun _ hp => ?_) (fun _ hp => ?_)
        · refine wp_iinc (v := (x4 + 1)) (l' := [(3, .int (x4 + 1)), (0, .ref a1), (1, .int x2), (2, .int x3)]) d_D_weightOfMetAims_43 3 rfl rfl (by decide) rfl ?_
          refine wp_goto (tgt := 4) d_D_weightOfMetAims_46 (by decide) ?_
          exact wp_sub [1, 2, 3, 0] rfl (ih _ _ _ _ _ hp)
        · refine wp_iload_n d_D_weightOfMetAims_31 2 rfl ?_
          refine wp_aload_n d_D_weightOfMetAims_32 0 rfl ?_
          refine wp_gr cl_D fl_D_35 (by decide) d_D_weightOfMetAims_33 hp (fun a10 hp => ?_) (fun hp => (dr_p0 hp).elim)
          refine wp_gr cl_S fl_D_115 (by decide) d_D_weightOfMetAims_36 hp (fun a11 hp => ?_) (fun hp => (dr_p0 hp).elim)
          refine wp_iload_n d_D_weightOfMetAims_39 3 rfl ?_
          refine wp_iaload d_D_weightOfMetAims_40 hp (fun x12 hp => ?_)
          refine wp_iadd d_D_weightOfMetAims_41 ?_
          refine wp_istore_n (l' := [(2, .int (x3 + x12)), (0, .ref a1), (1, .int x2), (3, .int x4)]) d_D_weightOfMetAims_42 (by decide) rfl ?_
          refine wp_iinc (v := (x4 + 1)) (l' := [(3, .int (x4 + 1)), (2, .int (x3 + x12)), (0, .ref a1), (1, .int x2)]) d_D_weightOfMetAims_43 3 rfl rfl (by decide) rfl ?_
          refine wp_goto (tgt := 4) d_D_weightOfMetAims_46 (by decide) ?_
          exact wp_sub [2, 3, 1, 0] rfl (ih _ _ _ _ _ hp)
set_option maxRecDepth 100000 in
set_option maxHeartbeats 400000 in
theorem t_D_weightOfMetAims {Q : dr_RS → dr_AH → Prop} : ∀ (a1 : Nat) (x2 : Int32) (h : dr_AH), dr_p (f_D_weightOfMetAims a1 x2 h) Q → dr_W mi_D_weightOfMetAims 2 33 0 [(0, .ref a1), (1, .int x2)] [] h Q := by
  intro a1 x2 h hp
  unfold f_D_weightOfMetAims at hp
  refine wp_iconst (v := 0) (by decide) d_D_weightOfMetAims_0 ?_
  refine wp_istore_n (l' := [(2, .int 0), (0, .ref a1), (1, .int x2)]) d_D_weightOfMetAims_1 (by decide) rfl ?_
  refine wp_iconst (v := 1) (by decide) d_D_weightOfMetAims_2 ?_
  refine wp_istore_n (l' := [(3, .int 1), (2, .int 0), (0, .ref a1), (1, .int x2)]) d_D_weightOfMetAims_3 (by decide) rfl ?_
  exact wp_sub [2, 3, 1, 0] rfl (t_D_weightOfMetAims_4 dr_fu _ _ _ _ _ hp)
