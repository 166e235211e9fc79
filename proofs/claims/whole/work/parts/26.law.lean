def f_L_sign (a1 : Nat) (y2 : Int64) (x3 : Int32) (a4 : Nat) (h : dr_AH) : Option (dr_RS × dr_AH) :=
  (dr_k h a1 3 (dr_ci (f_R_sign a1 y2 x3 h) (fun x6 h5 => (dr_sl h5 a4 0 (Int32.toInt64 x6) fun h7 => some (.inl (some (.int 0)), h7))) (fun E q h3 => if E = "java/lang/IndexOutOfBoundsException" then some (.inl (some (.int 1)), h3) else if E = "java/lang/UnsupportedOperationException" then some (.inl (some (.int 2)), h3) else none)))
set_option maxRecDepth 100000 in
set_option maxHeartbeats 400000 in
theorem t_L_sign {Q : dr_RS → dr_AH → Prop} : ∀ (a1 : Nat) (y2 : Int64) (x3 : Int32) (a4 : Nat) (h : dr_AH), dr_p (f_L_sign a1 y2 x3 a4 h) Q → dr_W mi_L_sign 7 99 0 [(0, .ref a1), (1, .long y2), (3, .int x3), (4, .ref a4)] [] h Q := by
  intro a1 y2 x3 a4 h hp
  unfold f_L_sign at hp
  refine wp_aload d_L_sign_0 3 rfl ?_
  refine wp_iconst (v := 0) (by decide) d_L_sign_2 ?_
  refine wp_aload_n d_L_sign_3 0 rfl ?_
  refine wp_lload_n d_L_sign_4 1 rfl ?_
  refine wp_iload_n d_L_sign_5 2 rfl ?_
  refine wp_k hp (fun hk hp => ?_)
  refine wp_ci (M' := mi_R_sign) (As := [.ref a1, .long y2, .int x3]) (st := [.int 0, .ref a4]) (fr' := 6) (wo' := 82) (dr_sV (A := [.long y2, .int x3]) cl_R hk tw_151 tw_152 tw_153 co_R_sign ⟨by decide, by decide⟩ (by rfl) d_L_sign_6 rfl) co_R_sign (by decide +kernel) (by decide) (Nat.le_of_ble_eq_true rfl) (Nat.le_of_ble_eq_true rfl) (fun Q' hq => t_R_sign _ _ _ _ hq) hp (fun x6 h5 hp => ?_) (fun E q h3 hp => ?_)
  · refine wp_i2l d_L_sign_9 ?_
    refine wp_lastore d_L_sign_10 hp (fun h7 hp => ?_)
    refine wp_goto (tgt := 22) d_L_sign_11 (by decide) ?_
    refine wp_iconst (v := 0) (by decide) d_L_sign_22 ?_
    exact wp_ireturn rfl rfl d_L_sign_23 hp
  · rcases dr_pe hp with ⟨he, hp⟩ | ⟨_, hp⟩
    · subst he
      refine wx_catch [] (0, 11, 14, 13) [(0, 11, 18, 15)] rfl (fun z hz => by cases hz) (by decide) (by decide) tw_149 tw_157 ?_
      refine wp_astore (l' := [(5, .ref q), (0, .ref a1), (1, .long y2), (3, .int x3), (4, .ref a4)]) d_L_sign_14 (by decide) rfl ?_
      refine wp_iconst (v := 1) (by decide) d_L_sign_16 ?_
      exact wp_ireturn rfl rfl d_L_sign_17 hp
    · rcases dr_pe hp with ⟨he, hp⟩ | ⟨_, hp⟩
      · subst he
        refine wx_catch [(0, 11, 14, 13)] (0, 11, 18, 15) [] rfl (fun z hz => by simp at hz; subst hz <;> first | exact ⟨by decide, _, tw_149, nc_UO_IO⟩) (by decide) (by decide) tw_150 tw_231 ?_
        refine wp_astore (l' := [(5, .ref q), (0, .ref a1), (1, .long y2), (3, .int x3), (4, .ref a4)]) d_L_sign_18 (by decide) rfl ?_
        refine wp_iconst (v := 2) (by decide) d_L_sign_20 ?_
        exact wp_ireturn rfl rfl d_L_sign_21 hp
      · exact (dr_p0 hp).elim
def f_L_read (a1 : Nat) (a2 : Nat) (h : dr_AH) : Option (dr_RS × dr_AH) :=
  (dr_k h a1 3 (dr_ci (f_R_read a1 h) (fun x4 h3 => (dr_sl h3 a2 0 (Int32.toInt64 x4) fun h5 => some (.inl (some (.int 0)), h5))) (fun E q h3 => if E = "java/lang/IllegalStateException" then some (.inl (some (.int 1)), h3) else none)))
set_option maxRecDepth 100000 in
set_option maxHeartbeats 400000 in
theorem t_L_read {Q : dr_RS → dr_AH → Prop} : ∀ (a1 : Nat) (a2 : Nat) (h : dr_AH), dr_p (f_L_read a1 a2 h) Q → dr_W mi_L_read 8 113 0 [(0, .ref a1), (1, .ref a2)] [] h Q := by
  intro a1 a2 h hp
  unfold f_L_read at hp
  refine wp_aload_n d_L_read_0 1 rfl ?_
  refine wp_iconst (v := 0) (by decide) d_L_read_1 ?_
  refine wp_aload_n d_L_read_2 0 rfl ?_
  refine wp_k hp (fun hk hp => ?_)
  refine wp_ci (M' := mi_R_read) (As := [.ref a1]) (st := [.int 0, .ref a2]) (fr' := 7) (wo' := 98) (dr_sV (A := []) cl_R hk tw_253 tw_254 tw_255 co_R_read ⟨by decide, by decide⟩ (by rfl) d_L_read_3 rfl) co_R_read (by decide +kernel) (by decide) (Nat.le_of_ble_eq_true rfl) (Nat.le_of_ble_eq_true rfl) (fun Q' hq => t_R_read _ _ hq) hp (fun x4 h3 hp => ?_) (fun E q h3 hp => ?_)
  · refine wp_i2l d_L_read_6 ?_
    refine wp_lastore d_L_read_7 hp (fun h5 hp => ?_)
    refine wp_goto (tgt := 14) d_L_read_8 (by decide) ?_
    refine wp_iconst (v := 0) (by decide) d_L_read_14 ?_
    exact wp_ireturn rfl rfl d_L_read_15 hp
  · rcases dr_pe hp with ⟨he, hp⟩ | ⟨_, hp⟩
    · subst he
      refine wx_catch [] (0, 8, 11, 21) [] rfl (fun z hz => by cases hz) (by decide) (by decide) tw_252 tw_327 ?_
      refine wp_astore_n (l' := [(2, .ref q), (0, .ref a1), (1, .ref a2)]) d_L_read_11 (by decide) rfl ?_
      refine wp_iconst (v := 1) (by decide) d_L_read_12 ?_
      exact wp_ireturn rfl rfl d_L_read_13 hp
    · exact (dr_p0 hp).elim
def f_L_begin (a1 : Nat) (a2 : Nat) (h : dr_AH) : Option (dr_RS × dr_AH) :=
  (dr_k h a1 3 (dr_ci (f_R_begin a1 h) (fun x4 h3 => (dr_sl h3 a2 0 (Int32.toInt64 x4) fun h5 => some (.inl (some (.int 0)), h5))) (fun E q h3 => if E = "java/lang/IllegalStateException" then some (.inl (some (.int 1)), h3) else if E = "java/lang/UnsupportedOperationException" then some (.inl (some (.int 2)), h3) else none)))
set_option maxRecDepth 100000 in
set_option maxHeartbeats 400000 in
theorem t_L_begin {Q : dr_RS → dr_AH → Prop} : ∀ (a1 : Nat) (a2 : Nat) (h : dr_AH), dr_p (f_L_begin a1 a2 h) Q → dr_W mi_L_begin 7 97 0 [(0, .ref a1), (1, .ref a2)] [] h Q := by
  intro a1 a2 h hp
  unfold f_L_begin at hp
  refine wp_aload_n d_L_begin_0 1 rfl ?_
  refine wp_iconst (v := 0) (by decide) d_L_begin_1 ?_
  refine wp_aload_n d_L_begin_2 0 rfl ?_
  refine wp_k hp (fun hk hp => ?_)
  refine wp_ci (M' := mi_R_begin) (As := [.ref a1]) (st := [.int 0, .ref a2]) (fr' := 6) (wo' := 82) (dr_sV (A := []) cl_R hk tw_344 tw_345 tw_346 co_R_begin ⟨by decide, by decide⟩ (by rfl) d_L_begin_3 rfl) co_R_begin (by decide +kernel) (by decide) (Nat.le_of_ble_eq_true rfl) (Nat.le_of_ble_eq_true rfl) (fun Q' hq => t_R_begin _ _ hq) hp (fun x4 h3 hp => ?_) (fun E q h3 hp => ?_)
  · refine wp_i2l d_L_begin_6 ?_
    refine wp_lastore d_L_begin_7 hp (fun h5 hp => ?_)
    refine wp_goto (tgt := 17) d_L_begin_8 (by decide) ?_
    refine wp_iconst (v := 0) (by decide) d_L_begin_17 ?_
    exact wp_ireturn rfl rfl d_L_begin_18 hp
  · rcases dr_pe hp with ⟨he, hp⟩ | ⟨_, hp⟩
    · subst he
      refine wx_catch [] (0, 8, 11, 21) [(0, 8, 14, 15)] rfl (fun z hz => by cases hz) (by decide) (by decide) tw_252 tw_327 ?_
      refine wp_astore_n (l' := [(2, .ref q), (0, .ref a1), (1, .ref a2)]) d_L_begin_11 (by decide) rfl ?_
      refine wp_iconst (v := 1) (by decide) d_L_begin_12 ?_
      exact wp_ireturn rfl rfl d_L_begin_13 hp
    · rcases dr_pe hp with ⟨he, hp⟩ | ⟨_, hp⟩
      · subst he
        refine wx_catch [(0, 8, 11, 21)] (0, 8, 14, 15) [] rfl (fun z hz => by simp at hz; subst hz <;> first | exact ⟨by decide, _, tw_252, nc_UO_IS⟩) (by decide) (by decide) tw_150 tw_231 ?_
        refine wp_astore_n (l' := [(2, .ref q), (0, .ref a1), (1, .ref a2)]) d_L_begin_14 (by decide) rfl ?_
        refine wp_iconst (v := 2) (by decide) d_L_begin_15 ?_
        exact wp_ireturn rfl rfl d_L_begin_16 hp
      · exact (dr_p0 hp).elim
def f_L_stop (a1 : Nat) (x2 : Int32) (h : dr_AH) : Option (dr_RS × dr_AH) :=
  (dr_k h a1 3 (dr_cv (f_R_stop a1 x2 h) (fun h3 => some (.inl (some (.int 0)), h3)) (fun E q h3 => if E = "java/lang/IllegalArgumentException" then some (.inl (some (.int 1)), h3) else if E = "java/lang/IllegalStateException" then some (.inl (some (.int 2)), h3) else none)))
set_option maxRecDepth 100000 in
set_option maxHeartbeats 400000 in
theorem t_L_stop {Q : dr_RS → dr_AH → Prop} : ∀ (a1 : Nat) (x2 : Int32) (h : dr_AH), dr_p (f_L_stop a1 x2 h) Q → dr_W mi_L_stop 8 111 0 [(0, .ref a1), (1, .int x2)] [] h Q := by
  intro a1 x2 h hp
  unfold f_L_stop at hp
  refine wp_aload_n d_L_stop_0 0 rfl ?_
  refine wp_iload_n d_L_stop_1 1 rfl ?_
  refine wp_k hp (fun hk hp => ?_)
  refine wp_cv (M' := mi_R_stop) (As := [.ref a1, .int x2]) (st := []) (fr' := 7) (wo' := 96) (dr_sV (A := [.int x2]) cl_R hk tw_413 tw_414 tw_415 co_R_stop ⟨by decide, by decide⟩ (by rfl) d_L_stop_2 rfl) co_R_stop (by decide +kernel) (by decide) (Nat.le_of_ble_eq_true rfl) (Nat.le_of_ble_eq_true rfl) (fun Q' hq => t_R_stop _ _ _ hq) hp (fun h3 hp => ?_) (fun E q h3 hp => ?_)
  · refine wp_goto (tgt := 14) d_L_stop_5 (by decide) ?_
    refine wp_iconst (v := 0) (by decide) d_L_stop_14 ?_
    exact wp_ireturn rfl rfl d_L_stop_15 hp
  · rcases dr_pe hp with ⟨he, hp⟩ | ⟨_, hp⟩
    · subst he
      refine wx_catch [] (0, 5, 8, 30) [(0, 5, 11, 21)] rfl (fun z hz => by cases hz) (by decide) (by decide) tw_412 tw_423 ?_
      refine wp_astore_n (l' := [(2, .ref q), (0, .ref a1), (1, .int x2)]) d_L_stop_8 (by decide) rfl ?_
      refine wp_iconst (v := 1) (by decide) d_L_stop_9 ?_
      exact wp_ireturn rfl rfl d_L_stop_10 hp
    · rcases dr_pe hp with ⟨he, hp⟩ | ⟨_, hp⟩
      · subst he
        refine wx_catch [(0, 5, 8, 30)] (0, 5, 11, 21) [] rfl (fun z hz => by simp at hz; subst hz <;> first | exact ⟨by decide, _, tw_412, nc_IS_IA⟩) (by decide) (by decide) tw_252 tw_327 ?_
        refine wp_astore_n (l' := [(2, .ref q), (0, .ref a1), (1, .int x2)]) d_L_stop_11 (by decide) rfl ?_
        refine wp_iconst (v := 2) (by decide) d_L_stop_12 ?_
        exact wp_ireturn rfl rfl d_L_stop_13 hp
      · exact (dr_p0 hp).elim
def f_L_unit (a1 : Nat) (x2 : Int32) (x3 : Int32) (h : dr_AH) : Option (dr_RS × dr_AH) :=
  (dr_k h a1 3 (dr_cv (f_R_unit a1 x2 x3 h) (fun h4 => some (.inl (some (.int 0)), h4)) (fun E q h3 => if E = "java/lang/IllegalArgumentException" then some (.inl (some (.int 1)), h3) else if E = "java/lang/IllegalStateException" then some (.inl (some (.int 2)), h3) else none)))
set_option maxRecDepth 100000 in
set_option maxHeartbeats 400000 in
theorem t_L_unit {Q : dr_RS → dr_AH → Prop} : ∀ (a1 : Nat) (x2 : Int32) (x3 : Int32) (h : dr_AH), dr_p (f_L_unit a1 x2 x3 h) Q → dr_W mi_L_unit 8 111 0 [(0, .ref a1), (1, .int x2), (2, .int x3)] [] h Q := by
  intro a1 x2 x3 h hp
  unfold f_L_unit at hp
  refine wp_aload_n d_L_unit_0 0 rfl ?_
  refine wp_iload_n d_L_unit_1 1 rfl ?_
  refine wp_iload_n d_L_unit_2 2 rfl ?_
  refine wp_k hp (fun hk hp => ?_)
  refine wp_cv (M' := mi_R_unit) (As := [.ref a1, .int x2, .int x3]) (st := []) (fr' := 7) (wo' := 96) (dr_sV (A := [.int x2, .int x3]) cl_R hk tw_441 tw_442 tw_443 co_R_unit ⟨by decide, by decide⟩ (by rfl) d_L_unit_3 rfl) co_R_unit (by decide +kernel) (by decide) (Nat.le_of_ble_eq_true rfl) (Nat.le_of_ble_eq_true rfl) (fun Q' hq => t_R_unit _ _ _ _ hq) hp (fun h4 hp => ?_) (fun E q h3 hp => ?_)
  · refine wp_goto (tgt := 15) d_L_unit_6 (by decide) ?_
    refine wp_iconst (v := 0) (by decide) d_L_unit_15 ?_
    exact wp_ireturn rfl rfl d_L_unit_16 hp
  · rcases dr_pe hp with ⟨he, hp⟩ | ⟨_, hp⟩
    · subst he
      refine wx_catch [] (0, 6, 9, 30) [(0, 6, 12, 21)] rfl (fun z hz => by cases hz) (by decide) (by decide) tw_412 tw_423 ?_
      refine wp_astore_n (l' := [(3, .ref q), (0, .ref a1), (1, .int x2), (2, .int x3)]) d_L_unit_9 (by decide) rfl ?_
      refine wp_iconst (v := 1) (by decide) d_L_unit_10 ?_
      exact wp_ireturn rfl rfl d_L_unit_11 hp
    · rcases dr_pe hp with ⟨he, hp⟩ | ⟨_, hp⟩
      · subst he
        refine wx_catch [(0, 6, 9, 30)] (0, 6, 12, 21) [] rfl (fun z hz => by simp at hz; subst hz <;> first | exact ⟨by decide, _, tw_412, nc_IS_IA⟩) (by decide) (by decide) tw_252 tw_327 ?_
        refine wp_astore_n (l' := [(3, .ref q), (0, .ref a1), (1, .int x2), (2, .int x3)]) d_L_unit_12 (by decide) rfl ?_
        refine wp_iconst (v := 2) (by decide) d_L_unit_13 ?_
        exact wp_ireturn rfl rfl d_L_unit_14 hp
      · exact (dr_p0 hp).elim
def f_L_real (a1 : Nat) (x2 : Int32) (a3 : Nat) (h : dr_AH) : Option (dr_RS × dr_AH) :=
  (dr_k h a1 3 (dr_ci (f_R_real a1 x2 h) (fun x5 h4 => (dr_sl h4 a3 0 (Int32.toInt64 x5) fun h6 => some (.inl (some (.int 0)), h6))) (fun E q h3 => if E = "java/lang/IllegalArgumentException" then some (.inl (some (.int 1)), h3) else none)))
set_option maxRecDepth 100000 in
set_option maxHeartbeats 400000 in
theorem t_L_real {Q : dr_RS → dr_AH → Prop} : ∀ (a1 : Nat) (x2 : Int32) (a3 : Nat) (h : dr_AH), dr_p (f_L_real a1 x2 a3 h) Q → dr_W mi_L_real 7 98 0 [(0, .ref a1), (1, .int x2), (2, .ref a3)] [] h Q := by
  intro a1 x2 a3 h hp
  unfold f_L_real at hp
  refine wp_aload_n d_L_real_0 2 rfl ?_
  refine wp_iconst (v := 0) (by decide) d_L_real_1 ?_
  refine wp_aload_n d_L_real_2 0 rfl ?_
  refine wp_iload_n d_L_real_3 1 rfl ?_
  refine wp_k hp (fun hk hp => ?_)
  refine wp_ci (M' := mi_R_real) (As := [.ref a1, .int x2]) (st := [.int 0, .ref a3]) (fr' := 6) (wo' := 82) (dr_sV (A := [.int x2]) cl_R hk tw_450 tw_451 tw_452 co_R_real ⟨by decide, by decide⟩ (by rfl) d_L_real_4 rfl) co_R_real (by decide +kernel) (by decide) (Nat.le_of_ble_eq_true rfl) (Nat.le_of_ble_eq_true rfl) (fun Q' hq => t_R_real _ _ _ hq) hp (fun x5 h4 hp => ?_) (fun E q h3 hp => ?_)
  · refine wp_i2l d_L_real_7 ?_
    refine wp_lastore d_L_real_8 hp (fun h6 hp => ?_)
    refine wp_goto (tgt := 15) d_L_real_9 (by decide) ?_
    refine wp_iconst (v := 0) (by decide) d_L_real_15 ?_
    exact wp_ireturn rfl rfl d_L_real_16 hp
  · rcases dr_pe hp with ⟨he, hp⟩ | ⟨_, hp⟩
    · subst he
      refine wx_catch [] (0, 9, 12, 30) [] rfl (fun z hz => by cases hz) (by decide) (by decide) tw_412 tw_423 ?_
      refine wp_astore_n (l' := [(3, .ref q), (0, .ref a1), (1, .int x2), (2, .ref a3)]) d_L_real_12 (by decide) rfl ?_
      refine wp_iconst (v := 1) (by decide) d_L_real_13 ?_
      exact wp_ireturn rfl rfl d_L_real_14 hp
    · exact (dr_p0 hp).elim
def f_L_act (a1 : Nat) (x2 : Int32) (x3 : Int32) (a4 : Nat) (h : dr_AH) : Option (dr_RS × dr_AH) :=
  (dr_k h a1 3 (dr_ci (f_R_act a1 x2 x3 h) (fun x6 h5 => (dr_sl h5 a4 0 (Int32.toInt64 x6) fun h7 => some (.inl (some (.int 0)), h7))) (fun E q h3 => if E = "java/lang/IllegalArgumentException" then some (.inl (some (.int 1)), h3) else if E = "java/lang/IllegalStateException" then some (.inl (some (.int 2)), h3) else if E = "java/lang/UnsupportedOperationException" then some (.inl (some (.int 3)), h3) else none)))
set_option maxRecDepth 100000 in
set_option maxHeartbeats 400000 in
theorem t_L_act {Q : dr_RS → dr_AH → Prop} : ∀ (a1 : Nat) (x2 : Int32) (x3 : Int32) (a4 : Nat) (h : dr_AH), dr_p (f_L_act a1 x2 x3 a4 h) Q → dr_W mi_L_act 8 113 0 [(0, .ref a1), (1, .int x2), (2, .int x3), (3, .ref a4)] [] h Q := by
  intro a1 x2 x3 a4 h hp
  unfold f_L_act at hp
  refine wp_aload_n d_L_act_0 3 rfl ?_
  refine wp_iconst (v := 0) (by decide) d_L_act_1 ?_
  refine wp_aload_n d_L_act_2 0 rfl ?_
  refine wp_iload_n d_L_act_3 1 rfl ?_
  refine wp_iload_n d_L_act_4 2 rfl ?_
  refine wp_k hp (fun hk hp => ?_)
  refine wp_ci (M' := mi_R_act) (As := [.ref a1, .int x2, .int x3]) (st := [.int 0, .ref a4]) (fr' := 7) (wo' := 96) (dr_sV (A := [.int x2, .int x3]) cl_R hk tw_457 tw_458 tw_459 co_R_act ⟨by decide, by decide⟩ (by rfl) d_L_act_5 rfl) co_R_act (by decide +kernel) (by decide) (Nat.le_of_ble_eq_true rfl) (Nat.le_of_ble_eq_true rfl) (fun Q' hq => t_R_act _ _ _ _ hq) hp (fun x6 h5 hp => ?_) (fun E q h3 hp => ?_)
  · refine wp_i2l d_L_act_8 ?_
    refine wp_lastore d_L_act_9 hp (fun h7 hp => ?_)
    refine wp_goto (tgt := 25) d_L_act_10 (by decide) ?_
    refine wp_iconst (v := 0) (by decide) d_L_act_25 ?_
    exact wp_ireturn rfl rfl d_L_act_26 hp
  · rcases dr_pe hp with ⟨he, hp⟩ | ⟨_, hp⟩
    · subst he
      refine wx_catch [] (0, 10, 13, 30) [(0, 10, 17, 21), (0, 10, 21, 15)] rfl (fun z hz => by cases hz) (by decide) (by decide) tw_412 tw_423 ?_
      refine wp_astore (l' := [(4, .ref q), (0, .ref a1), (1, .int x2), (2, .int x3), (3, .ref a4)]) d_L_act_13 (by decide) rfl ?_
      refine wp_iconst (v := 1) (by decide) d_L_act_15 ?_
      exact wp_ireturn rfl rfl d_L_act_16 hp
    · rcases dr_pe hp with ⟨he, hp⟩ | ⟨_, hp⟩
      · subst he
        refine wx_catch [(0, 10, 13, 30)] (0, 10, 17, 21) [(0, 10, 21, 15)] rfl (fun z hz => by simp at hz; subst hz <;> first | exact ⟨by decide, _, tw_412, nc_IS_IA⟩) (by decide) (by decide) tw_252 tw_327 ?_
        refine wp_astore (l' := [(4, .ref q), (0, .ref a1), (1, .int x2), (2, .int x3), (3, .ref a4)]) d_L_act_17 (by decide) rfl ?_
        refine wp_iconst (v := 2) (by decide) d_L_act_19 ?_
        exact wp_ireturn rfl rfl d_L_act_20 hp
      · rcases dr_pe hp with ⟨he, hp⟩ | ⟨_, hp⟩
        · subst he
          refine wx_catch [(0, 10, 13, 30), (0, 10, 17, 21)] (0, 10, 21, 15) [] rfl (fun z hz => by simp at hz; rcases hz with rfl | rfl <;> first | exact ⟨by decide, _, tw_412, nc_UO_IA⟩ | exact ⟨by decide, _, tw_252, nc_UO_IS⟩) (by decide) (by decide) tw_150 tw_231 ?_
          refine wp_astore (l' := [(4, .ref q), (0, .ref a1), (1, .int x2), (2, .int x3), (3, .ref a4)]) d_L_act_21 (by decide) rfl ?_
          refine wp_iconst (v := 3) (by decide) d_L_act_23 ?_
          exact wp_ireturn rfl rfl d_L_act_24 hp
        · exact (dr_p0 hp).elim
def f_L_tick (a1 : Nat) (x2 : Int32) (a3 : Nat) (h : dr_AH) : Option (dr_RS × dr_AH) :=
  (dr_k h a1 3 (dr_ci (f_R_tick a1 x2 h) (fun x5 h4 => (dr_sl h4 a3 0 (Int32.toInt64 x5) fun h6 => some (.inl (some (.int 0)), h6))) (fun E q h3 => if E = "java/lang/IndexOutOfBoundsException" then some (.inl (some (.int 1)), h3) else none)))
set_option maxRecDepth 100000 in
set_option maxHeartbeats 400000 in
theorem t_L_tick {Q : dr_RS → dr_AH → Prop} : ∀ (a1 : Nat) (x2 : Int32) (a3 : Nat) (h : dr_AH), dr_p (f_L_tick a1 x2 a3 h) Q → dr_W mi_L_tick 7 102 0 [(0, .ref a1), (1, .int x2), (2, .ref a3)] [] h Q := by
  intro a1 x2 a3 h hp
  unfold f_L_tick at hp
  refine wp_aload_n d_L_tick_0 2 rfl ?_
  refine wp_iconst (v := 0) (by decide) d_L_tick_1 ?_
  refine wp_aload_n d_L_tick_2 0 rfl ?_
  refine wp_iload_n d_L_tick_3 1 rfl ?_
  refine wp_k hp (fun hk hp => ?_)
  refine wp_ci (M' := mi_R_tick) (As := [.ref a1, .int x2]) (st := [.int 0, .ref a3]) (fr' := 6) (wo' := 82) (dr_sV (A := [.int x2]) cl_R hk tw_474 tw_475 tw_476 co_R_tick ⟨by decide, by decide⟩ (by rfl) d_L_tick_4 rfl) co_R_tick (by decide +kernel) (by decide) (Nat.le_of_ble_eq_true rfl) (Nat.le_of_ble_eq_true rfl) (fun Q' hq => t_R_tick _ _ _ hq) hp (fun x5 h4 hp => ?_) (fun E q h3 hp => ?_)
  · refine wp_i2l d_L_tick_7 ?_
    refine wp_lastore d_L_tick_8 hp (fun h6 hp => ?_)
    refine wp_goto (tgt := 15) d_L_tick_9 (by decide) ?_
    refine wp_iconst (v := 0) (by decide) d_L_tick_15 ?_
    exact wp_ireturn rfl rfl d_L_tick_16 hp
  · rcases dr_pe hp with ⟨he, hp⟩ | ⟨_, hp⟩
    · subst he
      refine wx_catch [] (0, 9, 12, 13) [] rfl (fun z hz => by cases hz) (by decide) (by decide) tw_149 tw_157 ?_
      refine wp_astore_n (l' := [(3, .ref q), (0, .ref a1), (1, .int x2), (2, .ref a3)]) d_L_tick_12 (by decide) rfl ?_
      refine wp_iconst (v := 1) (by decide) d_L_tick_13 ?_
      exact wp_ireturn rfl rfl d_L_tick_14 hp
    · exact (dr_p0 hp).elim
def f_L_event (a1 : Nat) (x2 : Int32) (x3 : Int32) (x4 : Int32) (a5 : Nat) (h : dr_AH) : Option (dr_RS × dr_AH) :=
  (dr_k h a1 3 (dr_ci (f_R_event a1 x2 x3 x4 h) (fun x7 h6 => (dr_sl h6 a5 0 (Int32.toInt64 x7) fun h8 => some (.inl (some (.int 0)), h8))) (fun E q h3 => if E = "java/lang/IllegalArgumentException" then some (.inl (some (.int 1)), h3) else none)))
set_option maxRecDepth 100000 in
set_option maxHeartbeats 400000 in
theorem t_L_event {Q : dr_RS → dr_AH → Prop} : ∀ (a1 : Nat) (x2 : Int32) (x3 : Int32) (x4 : Int32) (a5 : Nat) (h : dr_AH), dr_p (f_L_event a1 x2 x3 x4 a5 h) Q → dr_W mi_L_event 8 114 0 [(0, .ref a1), (1, .int x2), (2, .int x3), (3, .int x4), (4, .ref a5)] [] h Q := by
  intro a1 x2 x3 x4 a5 h hp
  unfold f_L_event at hp
  refine wp_aload d_L_event_0 4 rfl ?_
  refine wp_iconst (v := 0) (by decide) d_L_event_2 ?_
  refine wp_aload_n d_L_event_3 0 rfl ?_
  refine wp_iload_n d_L_event_4 1 rfl ?_
  refine wp_iload_n d_L_event_5 2 rfl ?_
  refine wp_iload_n d_L_event_6 3 rfl ?_
  refine wp_k hp (fun hk hp => ?_)
  refine wp_ci (M' := mi_R_event) (As := [.ref a1, .int x2, .int x3, .int x4]) (st := [.int 0, .ref a5]) (fr' := 7) (wo' := 96) (dr_sV (A := [.int x2, .int x3, .int x4]) cl_R hk tw_483 tw_484 tw_485 co_R_event ⟨by decide, by decide⟩ (by rfl) d_L_event_7 rfl) co_R_event (by decide +kernel) (by decide) (Nat.le_of_ble_eq_true rfl) (Nat.le_of_ble_eq_true rfl) (fun Q' hq => t_R_event _ _ _ _ _ hq) hp (fun x7 h6 hp => ?_) (fun E q h3 hp => ?_)
  · refine wp_i2l d_L_event_10 ?_
    refine wp_lastore d_L_event_11 hp (fun h8 hp => ?_)
    refine wp_goto (tgt := 19) d_L_event_12 (by decide) ?_
    refine wp_iconst (v := 0) (by decide) d_L_event_19 ?_
    exact wp_ireturn rfl rfl d_L_event_20 hp
  · rcases dr_pe hp with ⟨he, hp⟩ | ⟨_, hp⟩
    · subst he
      refine wx_catch [] (0, 12, 15, 30) [] rfl (fun z hz => by cases hz) (by decide) (by decide) tw_412 tw_423 ?_
      refine wp_astore (l' := [(5, .ref q), (0, .ref a1), (1, .int x2), (2, .int x3), (3, .int x4), (4, .ref a5)]) d_L_event_15 (by decide) rfl ?_
      refine wp_iconst (v := 1) (by decide) d_L_event_17 ?_
      exact wp_ireturn rfl rfl d_L_event_18 hp
    · exact (dr_p0 hp).elim
def f_L_seen (a1 : Nat) (x2 : Int32) (x3 : Int32) (x4 : Int32) (a5 : Nat) (h : dr_AH) : Option (dr_RS × dr_AH) :=
  (dr_k h a1 3 (dr_ci (f_R_seen a1 x2 x3 x4 h) (fun x7 h6 => (dr_sl h6 a5 0 (Int32.toInt64 x7) fun h8 => some (.inl (some (.int 0)), h8))) (fun E q h3 => if E = "java/lang/IllegalArgumentException" then some (.inl (some (.int 1)), h3) else if E = "java/lang/IndexOutOfBoundsException" then some (.inl (some (.int 2)), h3) else none)))
set_option maxRecDepth 100000 in
set_option maxHeartbeats 400000 in
theorem t_L_seen {Q : dr_RS → dr_AH → Prop} : ∀ (a1 : Nat) (x2 : Int32) (x3 : Int32) (x4 : Int32) (a5 : Nat) (h : dr_AH), dr_p (f_L_seen a1 x2 x3 x4 a5 h) Q → dr_W mi_L_seen 8 114 0 [(0, .ref a1), (1, .int x2), (2, .int x3), (3, .int x4), (4, .ref a5)] [] h Q := by
  intro a1 x2 x3 x4 a5 h hp
  unfold f_L_seen at hp
  refine wp_aload d_L_seen_0 4 rfl ?_
  refine wp_iconst (v := 0) (by decide) d_L_seen_2 ?_
  refine wp_aload_n d_L_seen_3 0 rfl ?_
  refine wp_iload_n d_L_seen_4 1 rfl ?_
  refine wp_iload_n d_L_seen_5 2 rfl ?_
  refine wp_iload_n d_L_seen_6 3 rfl ?_
  refine wp_k hp (fun hk hp => ?_)
  refine wp_ci (M' := mi_R_seen) (As := [.ref a1, .int x2, .int x3, .int x4]) (st := [.int 0, .ref a5]) (fr' := 7) (wo' := 96) (dr_sV (A := [.int x2, .int x3, .int x4]) cl_R hk tw_497 tw_498 tw_499 co_R_seen ⟨by decide, by decide⟩ (by rfl) d_L_seen_7 rfl) co_R_seen (by decide +kernel) (by decide) (Nat.le_of_ble_eq_true rfl) (Nat.le_of_ble_eq_true rfl) (fun Q' hq => t_R_seen _ _ _ _ _ hq) hp (fun x7 h6 hp => ?_) (fun E q h3 hp => ?_)
  · refine wp_i2l d_L_seen_10 ?_
    refine wp_lastore d_L_seen_11 hp (fun h8 hp => ?_)
    refine wp_goto (tgt := 23) d_L_seen_12 (by decide) ?_
    refine wp_iconst (v := 0) (by decide) d_L_seen_23 ?_
    exact wp_ireturn rfl rfl d_L_seen_24 hp
  · rcases dr_pe hp with ⟨he, hp⟩ | ⟨_, hp⟩
    · subst he
      refine wx_catch [] (0, 12, 15, 30) [(0, 12, 19, 13)] rfl (fun z hz => by cases hz) (by decide) (by decide) tw_412 tw_423 ?_
      refine wp_astore (l' := [(5, .ref q), (0, .ref a1), (1, .int x2), (2, .int x3), (3, .int x4), (4, .ref a5)]) d_L_seen_15 (by decide) rfl ?_
      refine wp_iconst (v := 1) (by decide) d_L_seen_17 ?_
      exact wp_ireturn rfl rfl d_L_seen_18 hp
    · rcases dr_pe hp with ⟨he, hp⟩ | ⟨_, hp⟩
      · subst he
        refine wx_catch [(0, 12, 15, 30)] (0, 12, 19, 13) [] rfl (fun z hz => by simp at hz; subst hz <;> first | exact ⟨by decide, _, tw_412, nc_IO_IA⟩) (by decide) (by decide) tw_149 tw_157 ?_
        refine wp_astore (l' := [(5, .ref q), (0, .ref a1), (1, .int x2), (2, .int x3), (3, .int x4), (4, .ref a5)]) d_L_seen_19 (by decide) rfl ?_
        refine wp_iconst (v := 2) (by decide) d_L_seen_21 ?_
        exact wp_ireturn rfl rfl d_L_seen_22 hp
      · exact (dr_p0 hp).elim
def f_L_fault (a1 : Nat) (x2 : Int32) (x3 : Int32) (a4 : Nat) (h : dr_AH) : Option (dr_RS × dr_AH) :=
  (dr_k h a1 3 (dr_ci (f_R_fault a1 x2 x3 h) (fun x6 h5 => if x6 = 0 then (dr_sl h5 a4 0 0 fun h7 => some (.inl (some (.int 0)), h7)) else (dr_sl h5 a4 0 1 fun h8 => some (.inl (some (.int 0)), h8))) (fun E q h3 => if E = "java/lang/IllegalArgumentException" then some (.inl (some (.int 1)), h3) else none)))
set_option maxRecDepth 100000 in
set_option maxHeartbeats 400000 in
theorem t_L_fault {Q : dr_RS → dr_AH → Prop} : ∀ (a1 : Nat) (x2 : Int32) (x3 : Int32) (a4 : Nat) (h : dr_AH), dr_p (f_L_fault a1 x2 x3 a4 h) Q → dr_W mi_L_fault 8 113 0 [(0, .ref a1), (1, .int x2), (2, .int x3), (3, .ref a4)] [] h Q := by
  intro a1 x2 x3 a4 h hp
  unfold f_L_fault at hp
  refine wp_aload_n d_L_fault_0 3 rfl ?_
  refine wp_iconst (v := 0) (by decide) d_L_fault_1 ?_
  refine wp_aload_n d_L_fault_2 0 rfl ?_
  refine wp_iload_n d_L_fault_3 1 rfl ?_
  refine wp_iload_n d_L_fault_4 2 rfl ?_
  refine wp_k hp (fun hk hp => ?_)
  refine wp_ci (M' := mi_R_fault) (As := [.ref a1, .int x2, .int x3]) (st := [.int 0, .ref a4]) (fr' := 7) (wo' := 96) (dr_sV (A := [.int x2, .int x3]) cl_R hk tw_514 tw_515 tw_516 co_R_fault ⟨by decide, by decide⟩ (by rfl) d_L_fault_5 rfl) co_R_fault (by decide +kernel) (by decide) (Nat.le_of_ble_eq_true rfl) (Nat.le_of_ble_eq_true rfl) (fun Q' hq => t_R_fault _ _ _ _ hq) hp (fun x6 h5 hp => ?_) (fun E q h3 hp => ?_)
  · refine wp_if_eq (tgt := 15) d_L_fault_8 (by decide) hp (fun _ hp => ?_) (fun _ hp => ?_)
    · refine wp_lconst (v := 0) (by decide) d_L_fault_15 ?_
      refine wp_lastore d_L_fault_16 hp (fun h7 hp => ?_)
      refine wp_goto (tgt := 24) d_L_fault_17 (by decide) ?_
      refine wp_iconst (v := 0) (by decide) d_L_fault_24 ?_
      exact wp_ireturn rfl rfl d_L_fault_25 hp
    · refine wp_lconst (v := 1) (by decide) d_L_fault_11 ?_
      refine wp_goto (tgt := 16) d_L_fault_12 (by decide) ?_
      refine wp_lastore d_L_fault_16 hp (fun h8 hp => ?_)
      refine wp_goto (tgt := 24) d_L_fault_17 (by decide) ?_
      refine wp_iconst (v := 0) (by decide) d_L_fault_24 ?_
      exact wp_ireturn rfl rfl d_L_fault_25 hp
  · rcases dr_pe hp with ⟨he, hp⟩ | ⟨_, hp⟩
    · subst he
      refine wx_catch [] (0, 17, 20, 30) [] rfl (fun z hz => by cases hz) (by decide) (by decide) tw_412 tw_423 ?_
      refine wp_astore (l' := [(4, .ref q), (0, .ref a1), (1, .int x2), (2, .int x3), (3, .ref a4)]) d_L_fault_20 (by decide) rfl ?_
      refine wp_iconst (v := 1) (by decide) d_L_fault_22 ?_
      exact wp_ireturn rfl rfl d_L_fault_23 hp
    · exact (dr_p0 hp).elim
def f_L_aim (a1 : Nat) (x2 : Int32) (x3 : Int32) (a4 : Nat) (h : dr_AH) : Option (dr_RS × dr_AH) :=
  (dr_k h a1 3 (dr_ci (f_R_aim a1 x2 x3 h) (fun x6 h5 => (dr_sl h5 a4 0 (Int32.toInt64 x6) fun h7 => some (.inl (some (.int 0)), h7))) (fun E q h3 => if E = "java/lang/IllegalArgumentException" then some (.inl (some (.int 1)), h3) else none)))
set_option maxRecDepth 100000 in
set_option maxHeartbeats 400000 in
theorem t_L_aim {Q : dr_RS → dr_AH → Prop} : ∀ (a1 : Nat) (x2 : Int32) (x3 : Int32) (a4 : Nat) (h : dr_AH), dr_p (f_L_aim a1 x2 x3 a4 h) Q → dr_W mi_L_aim 8 113 0 [(0, .ref a1), (1, .int x2), (2, .int x3), (3, .ref a4)] [] h Q := by
  intro a1 x2 x3 a4 h hp
  unfold f_L_aim at hp
  refine wp_aload_n d_L_aim_0 3 rfl ?_
  refine wp_iconst (v := 0) (by decide) d_L_aim_1 ?_
  refine wp_aload_n d_L_aim_2 0 rfl ?_
  refine wp_iload_n d_L_aim_3 1 rfl ?_
  refine wp_iload_n d_L_aim_4 2 rfl ?_
  refine wp_k hp (fun hk hp => ?_)
  refine wp_ci (M' := mi_R_aim) (As := [.ref a1, .int x2, .int x3]) (st := [.int 0, .ref a4]) (fr' := 7) (wo' := 96) (dr_sV (A := [.int x2, .int x3]) cl_R hk tw_526 tw_527 tw_528 co_R_aim ⟨by decide, by decide⟩ (by rfl) d_L_aim_5 rfl) co_R_aim (by decide +kernel) (by decide) (Nat.le_of_ble_eq_true rfl) (Nat.le_of_ble_eq_true rfl) (fun Q' hq => t_R_aim _ _ _ _ hq) hp (fun x6 h5 hp => ?_) (fun E q h3 hp => ?_)
  · refine wp_i2l d_L_aim_8 ?_
    refine wp_lastore d_L_aim_9 hp (fun h7 hp => ?_)
    refine wp_goto (tgt := 17) d_L_aim_10 (by decide) ?_
    refine wp_iconst (v := 0) (by decide) d_L_aim_17 ?_
    exact wp_ireturn rfl rfl d_L_aim_18 hp
  · rcases dr_pe hp with ⟨he, hp⟩ | ⟨_, hp⟩
    · subst he
      refine wx_catch [] (0, 10, 13, 30) [] rfl (fun z hz => by cases hz) (by decide) (by decide) tw_412 tw_423 ?_
      refine wp_astore (l' := [(4, .ref q), (0, .ref a1), (1, .int x2), (2, .int x3), (3, .ref a4)]) d_L_aim_13 (by decide) rfl ?_
      refine wp_iconst (v := 1) (by decide) d_L_aim_15 ?_
      exact wp_ireturn rfl rfl d_L_aim_16 hp
    · exact (dr_p0 hp).elim
def f_L_score (a1 : Nat) (x2 : Int32) (x3 : Int32) (a4 : Nat) (h : dr_AH) : Option (dr_RS × dr_AH) :=
  (dr_k h a1 3 (dr_ci (f_R_score a1 x2 x3 h) (fun x6 h5 => (dr_sl h5 a4 0 (Int32.toInt64 x6) fun h7 => some (.inl (some (.int 0)), h7))) (fun E q h3 => if E = "java/lang/IllegalArgumentException" then some (.inl (some (.int 1)), h3) else if E = "java/lang/ArithmeticException" then some (.inl (some (.int 2)), h3) else none)))
set_option maxRecDepth 100000 in
set_option maxHeartbeats 400000 in
theorem t_L_score {Q : dr_RS → dr_AH → Prop} : ∀ (a1 : Nat) (x2 : Int32) (x3 : Int32) (a4 : Nat) (h : dr_AH), dr_p (f_L_score a1 x2 x3 a4 h) Q → dr_W mi_L_score 8 115 0 [(0, .ref a1), (1, .int x2), (2, .int x3), (3, .ref a4)] [] h Q := by
  intro a1 x2 x3 a4 h hp
  unfold f_L_score at hp
  refine wp_aload_n d_L_score_0 3 rfl ?_
  refine wp_iconst (v := 0) (by decide) d_L_score_1 ?_
  refine wp_aload_n d_L_score_2 0 rfl ?_
  refine wp_iload_n d_L_score_3 1 rfl ?_
  refine wp_iload_n d_L_score_4 2 rfl ?_
  refine wp_k hp (fun hk hp => ?_)
  refine wp_ci (M' := mi_R_score) (As := [.ref a1, .int x2, .int x3]) (st := [.int 0, .ref a4]) (fr' := 7) (wo' := 96) (dr_sV (A := [.int x2, .int x3]) cl_R hk tw_546 tw_547 tw_548 co_R_score ⟨by decide, by decide⟩ (by rfl) d_L_score_5 rfl) co_R_score (by decide +kernel) (by decide) (Nat.le_of_ble_eq_true rfl) (Nat.le_of_ble_eq_true rfl) (fun Q' hq => t_R_score _ _ _ _ hq) hp (fun x6 h5 hp => ?_) (fun E q h3 hp => ?_)
  · refine wp_i2l d_L_score_8 ?_
    refine wp_lastore d_L_score_9 hp (fun h7 hp => ?_)
    refine wp_goto (tgt := 21) d_L_score_10 (by decide) ?_
    refine wp_iconst (v := 0) (by decide) d_L_score_21 ?_
    exact wp_ireturn rfl rfl d_L_score_22 hp
  · rcases dr_pe hp with ⟨he, hp⟩ | ⟨_, hp⟩
    · subst he
      refine wx_catch [] (0, 10, 13, 30) [(0, 10, 17, 64)] rfl (fun z hz => by cases hz) (by decide) (by decide) tw_412 tw_423 ?_
      refine wp_astore (l' := [(4, .ref q), (0, .ref a1), (1, .int x2), (2, .int x3), (3, .ref a4)]) d_L_score_13 (by decide) rfl ?_
      refine wp_iconst (v := 1) (by decide) d_L_score_15 ?_
      exact wp_ireturn rfl rfl d_L_score_16 hp
    · rcases dr_pe hp with ⟨he, hp⟩ | ⟨_, hp⟩
      · subst he
        refine wx_catch [(0, 10, 13, 30)] (0, 10, 17, 64) [] rfl (fun z hz => by simp at hz; subst hz <;> first | exact ⟨by decide, _, tw_412, nc_Ar_IA⟩) (by decide) (by decide) tw_545 tw_556 ?_
        refine wp_astore (l' := [(4, .ref q), (0, .ref a1), (1, .int x2), (2, .int x3), (3, .ref a4)]) d_L_score_17 (by decide) rfl ?_
        refine wp_iconst (v := 2) (by decide) d_L_score_19 ?_
        exact wp_ireturn rfl rfl d_L_score_20 hp
      · exact (dr_p0 hp).elim
def f_L_compare (a1 : Nat) (x2 : Int32) (x3 : Int32) (a4 : Nat) (h : dr_AH) : Option (dr_RS × dr_AH) :=
  (dr_k h a1 3 (dr_ci (f_R_compare a1 x2 x3 h) (fun x6 h5 => (dr_sl h5 a4 0 (Int32.toInt64 x6) fun h7 => some (.inl (some (.int 0)), h7))) (fun E q h3 => if E = "java/lang/IllegalArgumentException" then some (.inl (some (.int 1)), h3) else none)))
set_option maxRecDepth 100000 in
set_option maxHeartbeats 400000 in
theorem t_L_compare {Q : dr_RS → dr_AH → Prop} : ∀ (a1 : Nat) (x2 : Int32) (x3 : Int32) (a4 : Nat) (h : dr_AH), dr_p (f_L_compare a1 x2 x3 a4 h) Q → dr_W mi_L_compare 8 117 0 [(0, .ref a1), (1, .int x2), (2, .int x3), (3, .ref a4)] [] h Q := by
  intro a1 x2 x3 a4 h hp
  unfold f_L_compare at hp
  refine wp_aload_n d_L_compare_0 3 rfl ?_
  refine wp_iconst (v := 0) (by decide) d_L_compare_1 ?_
  refine wp_aload_n d_L_compare_2 0 rfl ?_
  refine wp_iload_n d_L_compare_3 1 rfl ?_
  refine wp_iload_n d_L_compare_4 2 rfl ?_
  refine wp_k hp (fun hk hp => ?_)
  refine wp_ci (M' := mi_R_compare) (As := [.ref a1, .int x2, .int x3]) (st := [.int 0, .ref a4]) (fr' := 7) (wo' := 96) (dr_sV (A := [.int x2, .int x3]) cl_R hk tw_581 tw_582 tw_583 co_R_compare ⟨by decide, by decide⟩ (by rfl) d_L_compare_5 rfl) co_R_compare (by decide +kernel) (by decide) (Nat.le_of_ble_eq_true rfl) (Nat.le_of_ble_eq_true rfl) (fun Q' hq => t_R_compare _ _ _ _ hq) hp (fun x6 h5 hp => ?_) (fun E q h3 hp => ?_)
  · refine wp_i2l d_L_compare_8 ?_
    refine wp_lastore d_L_compare_9 hp (fun h7 hp => ?_)
    refine wp_goto (tgt := 17) d_L_compare_10 (by decide) ?_
    refine wp_iconst (v := 0) (by decide) d_L_compare_17 ?_
    exact wp_ireturn rfl rfl d_L_compare_18 hp
  · rcases dr_pe hp with ⟨he, hp⟩ | ⟨_, hp⟩
    · subst he
      refine wx_catch [] (0, 10, 13, 30) [] rfl (fun z hz => by cases hz) (by decide) (by decide) tw_412 tw_423 ?_
      refine wp_astore (l' := [(4, .ref q), (0, .ref a1), (1, .int x2), (2, .int x3), (3, .ref a4)]) d_L_compare_13 (by decide) rfl ?_
      refine wp_iconst (v := 1) (by decide) d_L_compare_15 ?_
      exact wp_ireturn rfl rfl d_L_compare_16 hp
    · exact (dr_p0 hp).elim
def f_L_observe (a1 : Nat) (x2 : Int32) (x3 : Int32) (x4 : Int32) (a5 : Nat) (h : dr_AH) : Option (dr_RS × dr_AH) :=
  (dr_k h a1 3 (dr_ci (f_R_observe a1 x2 x3 x4 h) (fun x7 h6 => (dr_sl h6 a5 0 (Int32.toInt64 x7) fun h8 => some (.inl (some (.int 0)), h8))) (fun E q h3 => if E = "java/lang/IllegalArgumentException" then some (.inl (some (.int 1)), h3) else if E = "java/lang/IndexOutOfBoundsException" then some (.inl (some (.int 2)), h3) else if E = "java/lang/UnsupportedOperationException" then some (.inl (some (.int 3)), h3) else none)))
set_option maxRecDepth 100000 in
set_option maxHeartbeats 400000 in
theorem t_L_observe {Q : dr_RS → dr_AH → Prop} : ∀ (a1 : Nat) (x2 : Int32) (x3 : Int32) (x4 : Int32) (a5 : Nat) (h : dr_AH), dr_p (f_L_observe a1 x2 x3 x4 a5 h) Q → dr_W mi_L_observe 8 116 0 [(0, .ref a1), (1, .int x2), (2, .int x3), (3, .int x4), (4, .ref a5)] [] h Q := by
  intro a1 x2 x3 x4 a5 h hp
  unfold f_L_observe at hp
  refine wp_aload d_L_observe_0 4 rfl ?_
  refine wp_iconst (v := 0) (by decide) d_L_observe_2 ?_
  refine wp_aload_n d_L_observe_3 0 rfl ?_
  refine wp_iload_n d_L_observe_4 1 rfl ?_
  refine wp_iload_n d_L_observe_5 2 rfl ?_
  refine wp_iload_n d_L_observe_6 3 rfl ?_
  refine wp_k hp (fun hk hp => ?_)
  refine wp_ci (M' := mi_R_observe) (As := [.ref a1, .int x2, .int x3, .int x4]) (st := [.int 0, .ref a5]) (fr' := 7) (wo' := 96) (dr_sV (A := [.int x2, .int x3, .int x4]) cl_R hk tw_588 tw_589 tw_590 co_R_observe ⟨by decide, by decide⟩ (by rfl) d_L_observe_7 rfl) co_R_observe (by decide +kernel) (by decide) (Nat.le_of_ble_eq_true rfl) (Nat.le_of_ble_eq_true rfl) (fun Q' hq => t_R_observe _ _ _ _ _ hq) hp (fun x7 h6 hp => ?_) (fun E q h3 hp => ?_)
  · refine wp_i2l d_L_observe_10 ?_
    refine wp_lastore d_L_observe_11 hp (fun h8 hp => ?_)
    refine wp_goto (tgt := 27) d_L_observe_12 (by decide) ?_
    refine wp_iconst (v := 0) (by decide) d_L_observe_27 ?_
    exact wp_ireturn rfl rfl d_L_observe_28 hp
  · rcases dr_pe hp with ⟨he, hp⟩ | ⟨_, hp⟩
    · subst he
      refine wx_catch [] (0, 12, 15, 30) [(0, 12, 19, 13), (0, 12, 23, 15)] rfl (fun z hz => by cases hz) (by decide) (by decide) tw_412 tw_423 ?_
      refine wp_astore (l' := [(5, .ref q), (0, .ref a1), (1, .int x2), (2, .int x3), (3, .int x4), (4, .ref a5)]) d_L_observe_15 (by decide) rfl ?_
      refine wp_iconst (v := 1) (by decide) d_L_observe_17 ?_
      exact wp_ireturn rfl rfl d_L_observe_18 hp
    · rcases dr_pe hp with ⟨he, hp⟩ | ⟨_, hp⟩
      · subst he
        refine wx_catch [(0, 12, 15, 30)] (0, 12, 19, 13) [(0, 12, 23, 15)] rfl (fun z hz => by simp at hz; subst hz <;> first | exact ⟨by decide, _, tw_412, nc_IO_IA⟩) (by decide) (by decide) tw_149 tw_157 ?_
        refine wp_astore (l' := [(5, .ref q), (0, .ref a1), (1, .int x2), (2, .int x3), (3, .int x4), (4, .ref a5)]) d_L_observe_19 (by decide) rfl ?_
        refine wp_iconst (v := 2) (by decide) d_L_observe_21 ?_
        exact wp_ireturn rfl rfl d_L_observe_22 hp
      · rcases dr_pe hp with ⟨he, hp⟩ | ⟨_, hp⟩
        · subst he
          refine wx_catch [(0, 12, 15, 30), (0, 12, 19, 13)] (0, 12, 23, 15) [] rfl (fun z hz => by simp at hz; rcases hz with rfl | rfl <;> first | exact ⟨by decide, _, tw_412, nc_UO_IA⟩ | exact ⟨by decide, _, tw_149, nc_UO_IO⟩) (by decide) (by decide) tw_150 tw_231 ?_
          refine wp_astore (l' := [(5, .ref q), (0, .ref a1), (1, .int x2), (2, .int x3), (3, .int x4), (4, .ref a5)]) d_L_observe_23 (by decide) rfl ?_
          refine wp_iconst (v := 3) (by decide) d_L_observe_25 ?_
          exact wp_ireturn rfl rfl d_L_observe_26 hp
        · exact (dr_p0 hp).elim
def f_L_row (a1 : Nat) (x2 : Int32) (x3 : Int32) (a4 : Nat) (h : dr_AH) : Option (dr_RS × dr_AH) :=
  (dr_k h a1 3 (dr_ci (f_R_row a1 x2 x3 h) (fun x6 h5 => (dr_sl h5 a4 0 (Int32.toInt64 x6) fun h7 => some (.inl (some (.int 0)), h7))) (fun E q h3 => if E = "java/lang/IllegalArgumentException" then some (.inl (some (.int 1)), h3) else none)))
set_option maxRecDepth 100000 in
set_option maxHeartbeats 400000 in
theorem t_L_row {Q : dr_RS → dr_AH → Prop} : ∀ (a1 : Nat) (x2 : Int32) (x3 : Int32) (a4 : Nat) (h : dr_AH), dr_p (f_L_row a1 x2 x3 a4 h) Q → dr_W mi_L_row 7 98 0 [(0, .ref a1), (1, .int x2), (2, .int x3), (3, .ref a4)] [] h Q := by
  intro a1 x2 x3 a4 h hp
  unfold f_L_row at hp
  refine wp_aload_n d_L_row_0 3 rfl ?_
  refine wp_iconst (v := 0) (by decide) d_L_row_1 ?_
  refine wp_aload_n d_L_row_2 0 rfl ?_
  refine wp_iload_n d_L_row_3 1 rfl ?_
  refine wp_iload_n d_L_row_4 2 rfl ?_
  refine wp_k hp (fun hk hp => ?_)
  refine wp_ci (M' := mi_R_row) (As := [.ref a1, .int x2, .int x3]) (st := [.int 0, .ref a4]) (fr' := 6) (wo' := 82) (dr_sV (A := [.int x2, .int x3]) cl_R hk tw_598 tw_599 tw_600 co_R_row ⟨by decide, by decide⟩ (by rfl) d_L_row_5 rfl) co_R_row (by decide +kernel) (by decide) (Nat.le_of_ble_eq_true rfl) (Nat.le_of_ble_eq_true rfl) (fun Q' hq => t_R_row _ _ _ _ hq) hp (fun x6 h5 hp => ?_) (fun E q h3 hp => ?_)
  · refine wp_i2l d_L_row_8 ?_
    refine wp_lastore d_L_row_9 hp (fun h7 hp => ?_)
    refine wp_goto (tgt := 17) d_L_row_10 (by decide) ?_
    refine wp_iconst (v := 0) (by decide) d_L_row_17 ?_
    exact wp_ireturn rfl rfl d_L_row_18 hp
  · rcases dr_pe hp with ⟨he, hp⟩ | ⟨_, hp⟩
    · subst he
      refine wx_catch [] (0, 10, 13, 30) [] rfl (fun z hz => by cases hz) (by decide) (by decide) tw_412 tw_423 ?_
      refine wp_astore (l' := [(4, .ref q), (0, .ref a1), (1, .int x2), (2, .int x3), (3, .ref a4)]) d_L_row_13 (by decide) rfl ?_
      refine wp_iconst (v := 1) (by decide) d_L_row_15 ?_
      exact wp_ireturn rfl rfl d_L_row_16 hp
    · exact (dr_p0 hp).elim
def f_L_play (a1 : Nat) (x2 : Int32) (x3 : Int32) (a4 : Nat) (h : dr_AH) : Option (dr_RS × dr_AH) :=
  (dr_k h a1 3 (dr_ci (f_R_play a1 x2 x3 h) (fun x6 h5 => (dr_sl h5 a4 0 (Int32.toInt64 x6) fun h7 => some (.inl (some (.int 0)), h7))) (fun E q h3 => if E = "java/lang/IllegalArgumentException" then some (.inl (some (.int 1)), h3) else if E = "java/lang/IllegalStateException" then some (.inl (some (.int 2)), h3) else if E = "java/lang/UnsupportedOperationException" then some (.inl (some (.int 3)), h3) else none)))
set_option maxRecDepth 100000 in
set_option maxHeartbeats 400000 in
theorem t_L_play {Q : dr_RS → dr_AH → Prop} : ∀ (a1 : Nat) (x2 : Int32) (x3 : Int32) (a4 : Nat) (h : dr_AH), dr_p (f_L_play a1 x2 x3 a4 h) Q → dr_W mi_L_play 9 128 0 [(0, .ref a1), (1, .int x2), (2, .int x3), (3, .ref a4)] [] h Q := by
  intro a1 x2 x3 a4 h hp
  unfold f_L_play at hp
  refine wp_aload_n d_L_play_0 3 rfl ?_
  refine wp_iconst (v := 0) (by decide) d_L_play_1 ?_
  refine wp_aload_n d_L_play_2 0 rfl ?_
  refine wp_iload_n d_L_play_3 1 rfl ?_
  refine wp_iload_n d_L_play_4 2 rfl ?_
  refine wp_k hp (fun hk hp => ?_)
  refine wp_ci (M' := mi_R_play) (As := [.ref a1, .int x2, .int x3]) (st := [.int 0, .ref a4]) (fr' := 8) (wo' := 111) (dr_sV (A := [.int x2, .int x3]) cl_R hk tw_606 tw_607 tw_608 co_R_play ⟨by decide, by decide⟩ (by rfl) d_L_play_5 rfl) co_R_play (by decide +kernel) (by decide) (Nat.le_of_ble_eq_true rfl) (Nat.le_of_ble_eq_true rfl) (fun Q' hq => t_R_play _ _ _ _ hq) hp (fun x6 h5 hp => ?_) (fun E q h3 hp => ?_)
  · refine wp_i2l d_L_play_8 ?_
    refine wp_lastore d_L_play_9 hp (fun h7 hp => ?_)
    refine wp_goto (tgt := 25) d_L_play_10 (by decide) ?_
    refine wp_iconst (v := 0) (by decide) d_L_play_25 ?_
    exact wp_ireturn rfl rfl d_L_play_26 hp
  · rcases dr_pe hp with ⟨he, hp⟩ | ⟨_, hp⟩
    · subst he
      refine wx_catch [] (0, 10, 13, 30) [(0, 10, 17, 21), (0, 10, 21, 15)] rfl (fun z hz => by cases hz) (by decide) (by decide) tw_412 tw_423 ?_
      refine wp_astore (l' := [(4, .ref q), (0, .ref a1), (1, .int x2), (2, .int x3), (3, .ref a4)]) d_L_play_13 (by decide) rfl ?_
      refine wp_iconst (v := 1) (by decide) d_L_play_15 ?_
      exact wp_ireturn rfl rfl d_L_play_16 hp
    · rcases dr_pe hp with ⟨he, hp⟩ | ⟨_, hp⟩
      · subst he
        refine wx_catch [(0, 10, 13, 30)] (0, 10, 17, 21) [(0, 10, 21, 15)] rfl (fun z hz => by simp at hz; subst hz <;> first | exact ⟨by decide, _, tw_412, nc_IS_IA⟩) (by decide) (by decide) tw_252 tw_327 ?_
        refine wp_astore (l' := [(4, .ref q), (0, .ref a1), (1, .int x2), (2, .int x3), (3, .ref a4)]) d_L_play_17 (by decide) rfl ?_
        refine wp_iconst (v := 2) (by decide) d_L_play_19 ?_
        exact wp_ireturn rfl rfl d_L_play_20 hp
      · rcases dr_pe hp with ⟨he, hp⟩ | ⟨_, hp⟩
        · subst he
          refine wx_catch [(0, 10, 13, 30), (0, 10, 17, 21)] (0, 10, 21, 15) [] rfl (fun z hz => by simp at hz; rcases hz with rfl | rfl <;> first | exact ⟨by decide, _, tw_412, nc_UO_IA⟩ | exact ⟨by decide, _, tw_252, nc_UO_IS⟩) (by decide) (by decide) tw_150 tw_231 ?_
          refine wp_astore (l' := [(4, .ref q), (0, .ref a1), (1, .int x2), (2, .int x3), (3, .ref a4)]) d_L_play_21 (by decide) rfl ?_
          refine wp_iconst (v := 3) (by decide) d_L_play_23 ?_
          exact wp_ireturn rfl rfl d_L_play_24 hp
        · exact (dr_p0 hp).elim
def f_L_drill (a1 : Nat) (x2 : Int32) (x3 : Int32) (a4 : Nat) (h : dr_AH) : Option (dr_RS × dr_AH) :=
  (dr_k h a1 3 (dr_ci (f_R_drill a1 x2 x3 h) (fun x6 h5 => (dr_sl h5 a4 0 (Int32.toInt64 x6) fun h7 => some (.inl (some (.int 0)), h7))) (fun E q h3 => if E = "java/lang/IllegalArgumentException" then some (.inl (some (.int 1)), h3) else none)))
set_option maxRecDepth 100000 in
set_option maxHeartbeats 400000 in
theorem t_L_drill {Q : dr_RS → dr_AH → Prop} : ∀ (a1 : Nat) (x2 : Int32) (x3 : Int32) (a4 : Nat) (h : dr_AH), dr_p (f_L_drill a1 x2 x3 a4 h) Q → dr_W mi_L_drill 8 113 0 [(0, .ref a1), (1, .int x2), (2, .int x3), (3, .ref a4)] [] h Q := by
  intro a1 x2 x3 a4 h hp
  unfold f_L_drill at hp
  refine wp_aload_n d_L_drill_0 3 rfl ?_
  refine wp_iconst (v := 0) (by decide) d_L_drill_1 ?_
  refine wp_aload_n d_L_drill_2 0 rfl ?_
  refine wp_iload_n d_L_drill_3 1 rfl ?_
  refine wp_iload_n d_L_drill_4 2 rfl ?_
  refine wp_k hp (fun hk hp => ?_)
  refine wp_ci (M' := mi_R_drill) (As := [.ref a1, .int x2, .int x3]) (st := [.int 0, .ref a4]) (fr' := 7) (wo' := 96) (dr_sV (A := [.int x2, .int x3]) cl_R hk tw_615 tw_616 tw_617 co_R_drill ⟨by decide, by decide⟩ (by rfl) d_L_drill_5 rfl) co_R_drill (by decide +kernel) (by decide) (Nat.le_of_ble_eq_true rfl) (Nat.le_of_ble_eq_true rfl) (fun Q' hq => t_R_drill _ _ _ _ hq) hp (fun x6 h5 hp => ?_) (fun E q h3 hp => ?_)
  · refine wp_i2l d_L_drill_8 ?_
    refine wp_lastore d_L_drill_9 hp (fun h7 hp => ?_)
    refine wp_goto (tgt := 17) d_L_drill_10 (by decide) ?_
    refine wp_iconst (v := 0) (by decide) d_L_drill_17 ?_
    exact wp_ireturn rfl rfl d_L_drill_18 hp
  · rcases dr_pe hp with ⟨he, hp⟩ | ⟨_, hp⟩
    · subst he
      refine wx_catch [] (0, 10, 13, 30) [] rfl (fun z hz => by cases hz) (by decide) (by decide) tw_412 tw_423 ?_
      refine wp_astore (l' := [(4, .ref q), (0, .ref a1), (1, .int x2), (2, .int x3), (3, .ref a4)]) d_L_drill_13 (by decide) rfl ?_
      refine wp_iconst (v := 1) (by decide) d_L_drill_15 ?_
      exact wp_ireturn rfl rfl d_L_drill_16 hp
    · exact (dr_p0 hp).elim
def f_L_law_1316 (rc23 : Nat → Nat → Nat → Nat → Int32 → dr_AH → Option (dr_RS × dr_AH)) (a1 : Nat) (a2 : Nat) (a3 : Nat) (a4 : Nat) (x5 : Int32) (h : dr_AH) : Option (dr_RS × dr_AH) :=
  rc23 a1 a2 a3 a4 (x5 + 4) h
def f_L_law_128 (rc23 : Nat → Nat → Nat → Nat → Int32 → dr_AH → Option (dr_RS × dr_AH)) (a1 : Nat) (a2 : Nat) (a3 : Nat) (a4 : Nat) (x5 : Int32) (h : dr_AH) : Option (dr_RS × dr_AH) :=
  (dr_ai h a1 (x5 + 1) fun x6 => (dr_ai h a1 (x5 + 2) fun x7 => (dr_ai h a1 (x5 + 3) fun x8 => (dr_ci' (f_L_sign a2 (((Int32.toInt64 x6) <<< (Int32.toInt64 32 &&& 63)) ||| ((Int32.toInt64 x7) &&& 4294967295)) x8 a4 h) fun x10 h9 => (dr_ai h9 a1 (x5 + 1) fun x11 => (dr_ai h9 a1 (x5 + 2) fun x12 => (dr_ai h9 a1 (x5 + 3) fun x13 => (dr_k h9 a3 4 (dr_ci' (f_M_sign a3 (((Int32.toInt64 x11) <<< (Int32.toInt64 32 &&& 63)) ||| ((Int32.toInt64 x12) &&& 4294967295)) x13 h9) fun x15 h14 => (dr_k h14 a3 4 (dr_ci' (f_M_thrown a3 h14) fun x17 h16 => if x17 = x10 then if x10 = 0 then (dr_al h16 a4 0 fun y18 => if (lg_cmp y18 (Int32.toInt64 x15)) = 0 then f_L_law_1316 (rc23) a1 a2 a3 a4 x5 h16 else dr_rz 0 h16) else f_L_law_1316 (rc23) a1 a2 a3 a4 x5 h16 else dr_rz 0 h16)))))))))))
def f_L_law_228 (rc23 : Nat → Nat → Nat → Nat → Int32 → dr_AH → Option (dr_RS × dr_AH)) (a1 : Nat) (a2 : Nat) (a3 : Nat) (a4 : Nat) (x5 : Int32) (h : dr_AH) : Option (dr_RS × dr_AH) :=
  (dr_ci' (f_L_read a2 a4 h) fun x7 h6 => (dr_k h6 a3 4 (dr_ci' (f_M_read a3 h6) fun x9 h8 => (dr_k h8 a3 4 (dr_ci' (f_M_thrown a3 h8) fun x11 h10 => if x11 = x7 then if x7 = 0 then (dr_al h10 a4 0 fun y12 => if (lg_cmp y12 (Int32.toInt64 x9)) = 0 then f_L_law_1316 (rc23) a1 a2 a3 a4 x5 h10 else dr_rz 0 h10) else f_L_law_1316 (rc23) a1 a2 a3 a4 x5 h10 else dr_rz 0 h10)))))
def f_L_law_272 (rc23 : Nat → Nat → Nat → Nat → Int32 → dr_AH → Option (dr_RS × dr_AH)) (a1 : Nat) (a2 : Nat) (a3 : Nat) (a4 : Nat) (x5 : Int32) (h : dr_AH) : Option (dr_RS × dr_AH) :=
  (dr_k h a2 3 (dr_ci' (f_R_place a2 h) fun x7 h6 => (dr_k h6 a3 4 (dr_ci' (f_M_place a3 h6) fun x9 h8 => if x7 = x9 then f_L_law_1316 (rc23) a1 a2 a3 a4 x5 h8 else dr_rz 0 h8))))
def f_L_law_285 (rc23 : Nat → Nat → Nat → Nat → Int32 → dr_AH → Option (dr_RS × dr_AH)) (a1 : Nat) (a2 : Nat) (a3 : Nat) (a4 : Nat) (x5 : Int32) (h : dr_AH) : Option (dr_RS × dr_AH) :=
  (dr_ci' (f_L_begin a2 a4 h) fun x7 h6 => (dr_k h6 a3 4 (dr_ci' (f_M_begin a3 h6) fun x9 h8 => (dr_k h8 a3 4 (dr_ci' (f_M_thrown a3 h8) fun x11 h10 => if x11 = x7 then if x7 = 0 then (dr_al h10 a4 0 fun y12 => if (lg_cmp y12 (Int32.toInt64 x9)) = 0 then f_L_law_1316 (rc23) a1 a2 a3 a4 x5 h10 else dr_rz 0 h10) else f_L_law_1316 (rc23) a1 a2 a3 a4 x5 h10 else dr_rz 0 h10)))))
def f_L_law_329 (rc23 : Nat → Nat → Nat → Nat → Int32 → dr_AH → Option (dr_RS × dr_AH)) (a1 : Nat) (a2 : Nat) (a3 : Nat) (a4 : Nat) (x5 : Int32) (h : dr_AH) : Option (dr_RS × dr_AH) :=
  (dr_ai h a1 (x5 + 1) fun x6 => (dr_ci' (f_L_stop a2 x6 h) fun x8 h7 => (dr_ai h7 a1 (x5 + 1) fun x9 => (dr_k h7 a3 4 (dr_cv' (f_M_stop a3 x9 h7) fun h10 => (dr_k h10 a3 4 (dr_ci' (f_M_thrown a3 h10) fun x12 h11 => if x12 = x8 then f_L_law_1316 (rc23) a1 a2 a3 a4 x5 h11 else dr_rz 0 h11)))))))
def f_L_law_365 (rc23 : Nat → Nat → Nat → Nat → Int32 → dr_AH → Option (dr_RS × dr_AH)) (a1 : Nat) (a2 : Nat) (a3 : Nat) (a4 : Nat) (x5 : Int32) (h : dr_AH) : Option (dr_RS × dr_AH) :=
  (dr_ai h a1 (x5 + 1) fun x6 => (dr_ai h a1 (x5 + 2) fun x7 => (dr_ci' (f_L_unit a2 x6 x7 h) fun x9 h8 => (dr_ai h8 a1 (x5 + 1) fun x10 => (dr_ai h8 a1 (x5 + 2) fun x11 => (dr_k h8 a3 4 (dr_cv' (f_M_unit a3 x10 x11 h8) fun h12 => (dr_k h12 a3 4 (dr_ci' (f_M_thrown a3 h12) fun x14 h13 => if x14 = x9 then f_L_law_1316 (rc23) a1 a2 a3 a4 x5 h13 else dr_rz 0 h13)))))))))
def f_L_law_413 (rc23 : Nat → Nat → Nat → Nat → Int32 → dr_AH → Option (dr_RS × dr_AH)) (a1 : Nat) (a2 : Nat) (a3 : Nat) (a4 : Nat) (x5 : Int32) (h : dr_AH) : Option (dr_RS × dr_AH) :=
  (dr_ai h a1 (x5 + 1) fun x6 => (dr_ci' (f_L_real a2 x6 a4 h) fun x8 h7 => (dr_ai h7 a1 (x5 + 1) fun x9 => (dr_k h7 a3 4 (dr_ci' (f_M_real a3 x9 h7) fun x11 h10 => (dr_k h10 a3 4 (dr_ci' (f_M_thrown a3 h10) fun x13 h12 => if x13 = x8 then if x8 = 0 then (dr_al h12 a4 0 fun y14 => if (lg_cmp y14 (Int32.toInt64 x11)) = 0 then f_L_law_1316 (rc23) a1 a2 a3 a4 x5 h12 else dr_rz 0 h12) else f_L_law_1316 (rc23) a1 a2 a3 a4 x5 h12 else dr_rz 0 h12)))))))
def f_L_law_469 (rc23 : Nat → Nat → Nat → Nat → Int32 → dr_AH → Option (dr_RS × dr_AH)) (a1 : Nat) (a2 : Nat) (a3 : Nat) (a4 : Nat) (x5 : Int32) (h : dr_AH) : Option (dr_RS × dr_AH) :=
  (dr_ai h a1 (x5 + 1) fun x6 => (dr_ai h a1 (x5 + 2) fun x7 => (dr_ci' (f_L_act a2 x6 x7 a4 h) fun x9 h8 => (dr_ai h8 a1 (x5 + 1) fun x10 => (dr_ai h8 a1 (x5 + 2) fun x11 => (dr_k h8 a3 4 (dr_ci' (f_M_act a3 x10 x11 h8) fun x13 h12 => (dr_k h12 a3 4 (dr_ci' (f_M_thrown a3 h12) fun x15 h14 => if x15 = x9 then if x9 = 0 then (dr_al h14 a4 0 fun y16 => if (lg_cmp y16 (Int32.toInt64 x13)) = 0 then f_L_law_1316 (rc23) a1 a2 a3 a4 x5 h14 else dr_rz 0 h14) else f_L_law_1316 (rc23) a1 a2 a3 a4 x5 h14 else dr_rz 0 h14)))))))))
def f_L_law_537 (rc23 : Nat → Nat → Nat → Nat → Int32 → dr_AH → Option (dr_RS × dr_AH)) (a1 : Nat) (a2 : Nat) (a3 : Nat) (a4 : Nat) (x5 : Int32) (h : dr_AH) : Option (dr_RS × dr_AH) :=
  (dr_ai h a1 (x5 + 1) fun x6 => (dr_ci' (f_L_tick a2 x6 a4 h) fun x8 h7 => (dr_ai h7 a1 (x5 + 1) fun x9 => (dr_k h7 a3 4 (dr_ci' (f_M_tick a3 x9 h7) fun x11 h10 => (dr_k h10 a3 4 (dr_ci' (f_M_thrown a3 h10) fun x13 h12 => if x13 = x8 then if x8 = 0 then (dr_al h12 a4 0 fun y14 => if (lg_cmp y14 (Int32.toInt64 x11)) = 0 then f_L_law_1316 (rc23) a1 a2 a3 a4 x5 h12 else dr_rz 0 h12) else f_L_law_1316 (rc23) a1 a2 a3 a4 x5 h12 else dr_rz 0 h12)))))))
def f_L_law_593 (rc23 : Nat → Nat → Nat → Nat → Int32 → dr_AH → Option (dr_RS × dr_AH)) (a1 : Nat) (a2 : Nat) (a3 : Nat) (a4 : Nat) (x5 : Int32) (h : dr_AH) : Option (dr_RS × dr_AH) :=
  (dr_ai h a1 (x5 + 1) fun x6 => (dr_ai h a1 (x5 + 2) fun x7 => (dr_ai h a1 (x5 + 3) fun x8 => (dr_ci' (f_L_event a2 x6 x7 x8 a4 h) fun x10 h9 => (dr_ai h9 a1 (x5 + 1) fun x11 => (dr_ai h9 a1 (x5 + 2) fun x12 => (dr_ai h9 a1 (x5 + 3) fun x13 => (dr_k h9 a3 4 (dr_ci' (f_M_event a3 x11 x12 x13 h9) fun x15 h14 => (dr_k h14 a3 4 (dr_ci' (f_M_thrown a3 h14) fun x17 h16 => if x17 = x10 then if x10 = 0 then (dr_al h16 a4 0 fun y18 => if (lg_cmp y18 (Int32.toInt64 x15)) = 0 then f_L_law_1316 (rc23) a1 a2 a3 a4 x5 h16 else dr_rz 0 h16) else f_L_law_1316 (rc23) a1 a2 a3 a4 x5 h16 else dr_rz 0 h16)))))))))))
def f_L_law_673 (rc23 : Nat → Nat → Nat → Nat → Int32 → dr_AH → Option (dr_RS × dr_AH)) (a1 : Nat) (a2 : Nat) (a3 : Nat) (a4 : Nat) (x5 : Int32) (h : dr_AH) : Option (dr_RS × dr_AH) :=
  (dr_ai h a1 (x5 + 1) fun x6 => (dr_ai h a1 (x5 + 2) fun x7 => (dr_ai h a1 (x5 + 3) fun x8 => (dr_ci' (f_L_seen a2 x6 x7 x8 a4 h) fun x10 h9 => (dr_ai h9 a1 (x5 + 1) fun x11 => (dr_ai h9 a1 (x5 + 2) fun x12 => (dr_ai h9 a1 (x5 + 3) fun x13 => (dr_k h9 a3 4 (dr_ci' (f_M_seen a3 x11 x12 x13 h9) fun x15 h14 => (dr_k h14 a3 4 (dr_ci' (f_M_thrown a3 h14) fun x17 h16 => if x17 = x10 then if x10 = 0 then (dr_al h16 a4 0 fun y18 => if (lg_cmp y18 (Int32.toInt64 x15)) = 0 then f_L_law_1316 (rc23) a1 a2 a3 a4 x5 h16 else dr_rz 0 h16) else f_L_law_1316 (rc23) a1 a2 a3 a4 x5 h16 else dr_rz 0 h16)))))))))))
def f_L_law_753 (rc23 : Nat → Nat → Nat → Nat → Int32 → dr_AH → Option (dr_RS × dr_AH)) (a1 : Nat) (a2 : Nat) (a3 : Nat) (a4 : Nat) (x5 : Int32) (h : dr_AH) : Option (dr_RS × dr_AH) :=
  (dr_ai h a1 (x5 + 1) fun x6 => (dr_ai h a1 (x5 + 2) fun x7 => (dr_ci' (f_L_fault a2 x6 x7 a4 h) fun x9 h8 => (dr_ai h8 a1 (x5 + 1) fun x10 => (dr_ai h8 a1 (x5 + 2) fun x11 => (dr_k h8 a3 4 (dr_ci' (f_M_fault a3 x10 x11 h8) fun x13 h12 => (dr_k h12 a3 4 (dr_ci' (f_M_thrown a3 h12) fun x15 h14 => if x15 = x9 then if x9 = 0 then (dr_al h14 a4 0 fun y16 => if x13 = 0 then if (lg_cmp y16 0) = 0 then f_L_law_1316 (rc23) a1 a2 a3 a4 x5 h14 else dr_rz 0 h14 else if (lg_cmp y16 1) = 0 then f_L_law_1316 (rc23) a1 a2 a3 a4 x5 h14 else dr_rz 0 h14) else f_L_law_1316 (rc23) a1 a2 a3 a4 x5 h14 else dr_rz 0 h14)))))))))
def f_L_law_828 (rc23 : Nat → Nat → Nat → Nat → Int32 → dr_AH → Option (dr_RS × dr_AH)) (a1 : Nat) (a2 : Nat) (a3 : Nat) (a4 : Nat) (x5 : Int32) (h : dr_AH) : Option (dr_RS × dr_AH) :=
  (dr_ai h a1 (x5 + 1) fun x6 => (dr_ai h a1 (x5 + 2) fun x7 => (dr_ci' (f_L_aim a2 x6 x7 a4 h) fun x9 h8 => (dr_ai h8 a1 (x5 + 1) fun x10 => (dr_ai h8 a1 (x5 + 2) fun x11 => (dr_k h8 a3 4 (dr_ci' (f_M_aim a3 x10 x11 h8) fun x13 h12 => (dr_k h12 a3 4 (dr_ci' (f_M_thrown a3 h12) fun x15 h14 => if x15 = x9 then if x9 = 0 then (dr_al h14 a4 0 fun y16 => if (lg_cmp y16 (Int32.toInt64 x13)) = 0 then f_L_law_1316 (rc23) a1 a2 a3 a4 x5 h14 else dr_rz 0 h14) else f_L_law_1316 (rc23) a1 a2 a3 a4 x5 h14 else dr_rz 0 h14)))))))))
def f_L_law_896 (rc23 : Nat → Nat → Nat → Nat → Int32 → dr_AH → Option (dr_RS × dr_AH)) (a1 : Nat) (a2 : Nat) (a3 : Nat) (a4 : Nat) (x5 : Int32) (h : dr_AH) : Option (dr_RS × dr_AH) :=
  (dr_ai h a1 (x5 + 1) fun x6 => (dr_ai h a1 (x5 + 2) fun x7 => (dr_ci' (f_L_score a2 x6 x7 a4 h) fun x9 h8 => (dr_ai h8 a1 (x5 + 1) fun x10 => (dr_ai h8 a1 (x5 + 2) fun x11 => (dr_k h8 a3 4 (dr_ci' (f_M_score a3 x10 x11 h8) fun x13 h12 => (dr_k h12 a3 4 (dr_ci' (f_M_thrown a3 h12) fun x15 h14 => if x15 = x9 then if x9 = 0 then (dr_al h14 a4 0 fun y16 => if (lg_cmp y16 (Int32.toInt64 x13)) = 0 then f_L_law_1316 (rc23) a1 a2 a3 a4 x5 h14 else dr_rz 0 h14) else f_L_law_1316 (rc23) a1 a2 a3 a4 x5 h14 else dr_rz 0 h14)))))))))
def f_L_law_964 (rc23 : Nat → Nat → Nat → Nat → Int32 → dr_AH → Option (dr_RS × dr_AH)) (a1 : Nat) (a2 : Nat) (a3 : Nat) (a4 : Nat) (x5 : Int32) (h : dr_AH) : Option (dr_RS × dr_AH) :=
  (dr_ai h a1 (x5 + 1) fun x6 => (dr_ai h a1 (x5 + 2) fun x7 => (dr_ci' (f_L_compare a2 x6 x7 a4 h) fun x9 h8 => (dr_ai h8 a1 (x5 + 1) fun x10 => (dr_ai h8 a1 (x5 + 2) fun x11 => (dr_k h8 a3 4 (dr_ci' (f_M_compare a3 x10 x11 h8) fun x13 h12 => (dr_k h12 a3 4 (dr_ci' (f_M_thrown a3 h12) fun x15 h14 => if x15 = x9 then if x9 = 0 then (dr_al h14 a4 0 fun y16 => if (lg_cmp y16 (Int32.toInt64 x13)) = 0 then f_L_law_1316 (rc23) a1 a2 a3 a4 x5 h14 else dr_rz 0 h14) else f_L_law_1316 (rc23) a1 a2 a3 a4 x5 h14 else dr_rz 0 h14)))))))))
def f_L_law_1032 (rc23 : Nat → Nat → Nat → Nat → Int32 → dr_AH → Option (dr_RS × dr_AH)) (a1 : Nat) (a2 : Nat) (a3 : Nat) (a4 : Nat) (x5 : Int32) (h : dr_AH) : Option (dr_RS × dr_AH) :=
  (dr_ai h a1 (x5 + 1) fun x6 => (dr_ai h a1 (x5 + 2) fun x7 => (dr_ai h a1 (x5 + 3) fun x8 => (dr_ci' (f_L_observe a2 x6 x7 x8 a4 h) fun x10 h9 => (dr_ai h9 a1 (x5 + 1) fun x11 => (dr_ai h9 a1 (x5 + 2) fun x12 => (dr_ai h9 a1 (x5 + 3) fun x13 => (dr_k h9 a3 4 (dr_ci' (f_M_observe a3 x11 x12 x13 h9) fun x15 h14 => (dr_k h14 a3 4 (dr_ci' (f_M_thrown a3 h14) fun x17 h16 => if x17 = x10 then if x10 = 0 then (dr_al h16 a4 0 fun y18 => if (lg_cmp y18 (Int32.toInt64 x15)) = 0 then f_L_law_1316 (rc23) a1 a2 a3 a4 x5 h16 else dr_rz 0 h16) else f_L_law_1316 (rc23) a1 a2 a3 a4 x5 h16 else dr_rz 0 h16)))))))))))
def f_L_law_1112 (rc23 : Nat → Nat → Nat → Nat → Int32 → dr_AH → Option (dr_RS × dr_AH)) (a1 : Nat) (a2 : Nat) (a3 : Nat) (a4 : Nat) (x5 : Int32) (h : dr_AH) : Option (dr_RS × dr_AH) :=
  (dr_ai h a1 (x5 + 1) fun x6 => (dr_ai h a1 (x5 + 2) fun x7 => (dr_ci' (f_L_row a2 x6 x7 a4 h) fun x9 h8 => (dr_ai h8 a1 (x5 + 1) fun x10 => (dr_ai h8 a1 (x5 + 2) fun x11 => (dr_k h8 a3 4 (dr_ci' (f_M_row a3 x10 x11 h8) fun x13 h12 => (dr_k h12 a3 4 (dr_ci' (f_M_thrown a3 h12) fun x15 h14 => if x15 = x9 then if x9 = 0 then (dr_al h14 a4 0 fun y16 => if (lg_cmp y16 (Int32.toInt64 x13)) = 0 then f_L_law_1316 (rc23) a1 a2 a3 a4 x5 h14 else dr_rz 0 h14) else f_L_law_1316 (rc23) a1 a2 a3 a4 x5 h14 else dr_rz 0 h14)))))))))
def f_L_law_1180 (rc23 : Nat → Nat → Nat → Nat → Int32 → dr_AH → Option (dr_RS × dr_AH)) (a1 : Nat) (a2 : Nat) (a3 : Nat) (a4 : Nat) (x5 : Int32) (h : dr_AH) : Option (dr_RS × dr_AH) :=
  (dr_ai h a1 (x5 + 1) fun x6 => (dr_ai h a1 (x5 + 2) fun x7 => (dr_ci' (f_L_play a2 x6 x7 a4 h) fun x9 h8 => (dr_ai h8 a1 (x5 + 1) fun x10 => (dr_ai h8 a1 (x5 + 2) fun x11 => (dr_k h8 a3 4 (dr_ci' (f_M_play a3 x10 x11 h8) fun x13 h12 => (dr_k h12 a3 4 (dr_ci' (f_M_thrown a3 h12) fun x15 h14 => if x15 = x9 then if x9 = 0 then (dr_al h14 a4 0 fun y16 => if (lg_cmp y16 (Int32.toInt64 x13)) = 0 then f_L_law_1316 (rc23) a1 a2 a3 a4 x5 h14 else dr_rz 0 h14) else f_L_law_1316 (rc23) a1 a2 a3 a4 x5 h14 else dr_rz 0 h14)))))))))
def f_L_law_1248 (rc23 : Nat → Nat → Nat → Nat → Int32 → dr_AH → Option (dr_RS × dr_AH)) (a1 : Nat) (a2 : Nat) (a3 : Nat) (a4 : Nat) (x5 : Int32) (h : dr_AH) : Option (dr_RS × dr_AH) :=
  (dr_ai h a1 (x5 + 1) fun x6 => (dr_ai h a1 (x5 + 2) fun x7 => (dr_ci' (f_L_drill a2 x6 x7 a4 h) fun x9 h8 => (dr_ai h8 a1 (x5 + 1) fun x10 => (dr_ai h8 a1 (x5 + 2) fun x11 => (dr_k h8 a3 4 (dr_ci' (f_M_drill a3 x10 x11 h8) fun x13 h12 => (dr_k h12 a3 4 (dr_ci' (f_M_thrown a3 h12) fun x15 h14 => if x15 = x9 then if x9 = 0 then (dr_al h14 a4 0 fun y16 => if (lg_cmp y16 (Int32.toInt64 x13)) = 0 then f_L_law_1316 (rc23) a1 a2 a3 a4 x5 h14 else dr_rz 0 h14) else f_L_law_1316 (rc23) a1 a2 a3 a4 x5 h14 else dr_rz 0 h14)))))))))
def f_L_law_23 : Nat → Nat → Nat → Nat → Nat → Int32 → dr_AH → Option (dr_RS × dr_AH)
  | 0, _, _, _, _, _, _ => none
  | n + 1, a1, a2, a3, a4, x5, h => (dr_ln h 0 a1 fun x6 => if (x6 - 4) < x5 then dr_rz 1 h else (dr_ai h a1 x5 fun x7 => if (x7 &&& 31) = 0 then f_L_law_128 (f_L_law_23 n) a1 a2 a3 a4 x5 h else if (x7 &&& 31) = 1 then f_L_law_228 (f_L_law_23 n) a1 a2 a3 a4 x5 h else if (x7 &&& 31) = 2 then f_L_law_272 (f_L_law_23 n) a1 a2 a3 a4 x5 h else if (x7 &&& 31) = 3 then f_L_law_285 (f_L_law_23 n) a1 a2 a3 a4 x5 h else if (x7 &&& 31) = 4 then f_L_law_329 (f_L_law_23 n) a1 a2 a3 a4 x5 h else if (x7 &&& 31) = 5 then f_L_law_365 (f_L_law_23 n) a1 a2 a3 a4 x5 h else if (x7 &&& 31) = 6 then f_L_law_413 (f_L_law_23 n) a1 a2 a3 a4 x5 h else if (x7 &&& 31) = 7 then f_L_law_469 (f_L_law_23 n) a1 a2 a3 a4 x5 h else if (x7 &&& 31) = 8 then f_L_law_537 (f_L_law_23 n) a1 a2 a3 a4 x5 h else if (x7 &&& 31) = 9 then f_L_law_593 (f_L_law_23 n) a1 a2 a3 a4 x5 h else if (x7 &&& 31) = 10 then f_L_law_673 (f_L_law_23 n) a1 a2 a3 a4 x5 h else if (x7 &&& 31) = 11 then f_L_law_753 (f_L_law_23 n) a1 a2 a3 a4 x5 h else if (x7 &&& 31) = 12 then f_L_law_828 (f_L_law_23 n) a1 a2 a3 a4 x5 h else if (x7 &&& 31) = 13 then f_L_law_896 (f_L_law_23 n) a1 a2 a3 a4 x5 h else if (x7 &&& 31) = 14 then f_L_law_964 (f_L_law_23 n) a1 a2 a3 a4 x5 h else if (x7 &&& 31) = 15 then f_L_law_1032 (f_L_law_23 n) a1 a2 a3 a4 x5 h else if (x7 &&& 31) = 16 then f_L_law_1112 (f_L_law_23 n) a1 a2 a3 a4 x5 h else if (x7 &&& 31) = 17 then f_L_law_1180 (f_L_law_23 n) a1 a2 a3 a4 x5 h else if (x7 &&& 31) = 18 then f_L_law_1248 (f_L_law_23 n) a1 a2 a3 a4 x5 h else f_L_law_1316 (f_L_law_23 n) a1 a2 a3 a4 x5 h))
def f_L_law (a1 : Nat) (h : dr_AH) : Option (dr_RS × dr_AH) :=
  (dr_nw h 3 10 (fun k => defaultValue (nt_R k)) fun a2 h3 => (dr_cv' (f_R_init a2 h3) fun h4 => (dr_nw h4 4 32 (fun k => defaultValue (nt_M k)) fun a5 h6 => (dr_cv' (f_M_init a5 h6) fun h7 => (dr_na h7 1 (.long 0) 1 fun a8 h9 => f_L_law_23 dr_fu a1 a2 a5 a8 0 h9)))))
set_option maxRecDepth 100000 in
set_option maxHeartbeats 400000 in
theorem t_L_law_1316 {Q : dr_RS → dr_AH → Prop} {rc23 : Nat → Nat → Nat → Nat → Int32 → dr_AH → Option (dr_RS × dr_AH)} (hr23 : ∀ (a1 : Nat) (a2 : Nat) (a3 : Nat) (a4 : Nat) (x5 : Int32) (h : dr_AH), dr_p (rc23 a1 a2 a3 a4 x5 h) Q → dr_W mi_L_law 10 144 23 [(0, .ref a1), (1, .ref a2), (2, .ref a3), (3, .ref a4), (4, .int x5)] [] h Q) : ∀ (a1 : Nat) (a2 : Nat) (a3 : Nat) (a4 : Nat) (x5 : Int32) (h : dr_AH), dr_p (f_L_law_1316 rc23 a1 a2 a3 a4 x5 h) Q → dr_W mi_L_law 10 144 1316 [(0, .ref a1), (1, .ref a2), (2, .ref a3), (3, .ref a4), (4, .int x5)] [] h Q := by
  intro a1 a2 a3 a4 x5 h hp
  unfold f_L_law_1316 at hp
  refine wp_iinc (v := (x5 + 4)) (l' := [(4, .int (x5 + 4)), (0, .ref a1), (1, .ref a2), (2, .ref a3), (3, .ref a4)]) d_L_law_1316 4 rfl rfl (by decide) rfl ?_
  refine wp_goto (tgt := 23) d_L_law_1319 (by decide) ?_
  exact wp_sub [1, 2, 3, 4, 0] rfl (hr23 _ _ _ _ _ _ hp)
set_option maxRecDepth 100000 in
set_option maxHeartbeats 400000 in
theorem t_L_law_128 {Q : dr_RS → dr_AH → Prop} {rc23 : Nat → Nat → Nat → Nat → Int32 → dr_AH → Option (dr_RS × dr_AH)} (hr23 : ∀ (a1 : Nat) (a2 : Nat) (a3 : Nat) (a4 : Nat) (x5 : Int32) (h : dr_AH), dr_p (rc23 a1 a2 a3 a4 x5 h) Q → dr_W mi_L_law 10 144 23 [(0, .ref a1), (1, .ref a2), (2, .ref a3), (3, .ref a4), (4, .int x5)] [] h Q) : ∀ (a1 : Nat) (a2 : Nat) (a3 : Nat) (a4 : Nat) (x5 : Int32) (h : dr_AH), dr_p (f_L_law_128 rc23 a1 a2 a3 a4 x5 h) Q → dr_W mi_L_law 10 144 128 [(0, .ref a1), (1, .ref a2), (2, .ref a3), (3, .ref a4), (4, .int x5)] [] h Q := by
  intro a1 a2 a3 a4 x5 h hp
  unfold f_L_law_128 at hp
  refine wp_aload_n d_L_law_128 1 rfl ?_
  refine wp_aload_n d_L_law_129 0 rfl ?_
  refine wp_iload d_L_law_130 4 rfl ?_
  refine wp_iconst (v := 1) (by decide) d_L_law_132 ?_
  refine wp_iadd d_L_law_133 ?_
  refine wp_iaload d_L_law_134 hp (fun x6 hp => ?_)
  refine wp_i2l d_L_law_135 ?_
  refine wp_bipush (v := 32) (by decide) d_L_law_136 ?_
  refine wp_lshl (v := ((Int32.toInt64 x6) <<< (Int32.toInt64 32 &&& 63))) rfl d_L_law_138 ?_
  refine wp_aload_n d_L_law_139 0 rfl ?_
  refine wp_iload d_L_law_140 4 rfl ?_
  refine wp_iconst (v := 2) (by decide) d_L_law_142 ?_
  refine wp_iadd d_L_law_143 ?_
  refine wp_iaload d_L_law_144 hp (fun x7 hp => ?_)
  refine wp_i2l d_L_law_145 ?_
  refine wp_ldc2 (v := 4294967295) tw_887 d_L_law_146 ?_
  refine wp_land d_L_law_149 ?_
  refine wp_lor d_L_law_150 ?_
  refine wp_aload_n d_L_law_151 0 rfl ?_
  refine wp_iload d_L_law_152 4 rfl ?_
  refine wp_iconst (v := 3) (by decide) d_L_law_154 ?_
  refine wp_iadd d_L_law_155 ?_
  refine wp_iaload d_L_law_156 hp (fun x8 hp => ?_)
  refine wp_aload_n d_L_law_157 3 rfl ?_
  refine wp_ci (M' := mi_L_sign) (As := [.ref a2, .long (((Int32.toInt64 x6) <<< (Int32.toInt64 32 &&& 63)) ||| ((Int32.toInt64 x7) &&& 4294967295)), .int x8, .ref a4]) (st := []) (fr' := 7) (wo' := 99) (dr_sS (A := [.ref a2, .long (((Int32.toInt64 x6) <<< (Int32.toInt64 32 &&& 63)) ||| ((Int32.toInt64 x7) &&& 4294967295)), .int x8, .ref a4]) tw_146 tw_147 tw_0 co_L_sign ⟨by decide, by decide⟩ (by rfl) d_L_law_158 rfl) co_L_sign (by decide +kernel) (by decide) (Nat.le_of_ble_eq_true rfl) (Nat.le_of_ble_eq_true rfl) (fun Q' hq => t_L_sign _ _ _ _ _ hq) hp (fun x10 h9 hp => ?_) (fun E q h3 hp => wx_out (by decide) hp)
  refine wp_istore (l' := [(5, .int x10), (0, .ref a1), (1, .ref a2), (2, .ref a3), (3, .ref a4), (4, .int x5)]) d_L_law_161 (by decide) rfl ?_
  refine wp_aload_n d_L_law_163 3 rfl ?_
  refine wp_aload_n d_L_law_164 1 rfl ?_
  refine wp_iload d_L_law_165 5 rfl ?_
  refine wp_iconst (v := 1) (by decide) d_L_law_167 ?_
  refine wp_iadd d_L_law_168 ?_
  refine wp_iaload d_L_law_169 hp (fun x11 hp => ?_)
  refine wp_i2l d_L_law_170 ?_
  refine wp_bipush (v := 32) (by decide) d_L_law_171 ?_
  refine wp_lshl (v := ((Int32.toInt64 x11) <<< (Int32.toInt64 32 &&& 63))) rfl d_L_law_173 ?_
  refine wp_aload_n d_L_law_174 1 rfl ?_
  refine wp_iload d_L_law_175 5 rfl ?_
  refine wp_iconst (v := 2) (by decide) d_L_law_177 ?_
  refine wp_iadd d_L_law_178 ?_
  refine wp_iaload d_L_law_179 hp (fun x12 hp => ?_)
  refine wp_i2l d_L_law_180 ?_
  refine wp_ldc2 (v := 4294967295) tw_887 d_L_law_181 ?_
  refine wp_land d_L_law_184 ?_
  refine wp_lor d_L_law_185 ?_
  refine wp_aload_n d_L_law_186 1 rfl ?_
  refine wp_iload d_L_law_187 5 rfl ?_
  refine wp_iconst (v := 3) (by decide) d_L_law_189 ?_
  refine wp_iadd d_L_law_190 ?_
  refine wp_iaload d_L_law_191 hp (fun x13 hp => ?_)
  refine wp_k hp (fun hk hp => ?_)
  refine wp_ci (M' := mi_M_sign) (As := [.ref a3, .long (((Int32.toInt64 x11) <<< (Int32.toInt64 32 &&& 63)) ||| ((Int32.toInt64 x12) &&& 4294967295)), .int x13]) (st := []) (fr' := 1) (wo' := 15) (dr_sV (A := [.long (((Int32.toInt64 x11) <<< (Int32.toInt64 32 &&& 63)) ||| ((Int32.toInt64 x12) &&& 4294967295)), .int x13]) cl_M hk tw_730 tw_731 tw_732 co_M_sign ⟨by decide, by decide⟩ (by rfl) d_L_law_192 rfl) co_M_sign (by decide +kernel) (by decide) (Nat.le_of_ble_eq_true rfl) (Nat.le_of_ble_eq_true rfl) (fun Q' hq => t_M_sign _ _ _ _ hq) hp (fun x15 h14 hp => ?_) (fun E q h3 hp => wx_out (by decide) hp)
  refine wp_istore (l' := [(6, .int x15), (5, .int x10), (0, .ref a1), (1, .ref a2), (2, .ref a3), (3, .ref a4), (4, .int x5)]) d_L_law_195 (by decide) rfl ?_
  refine wp_aload_n d_L_law_197 4 rfl ?_
  refine wp_k hp (fun hk hp => ?_)
  refine wp_ci (M' := mi_M_thrown) (As := [.ref a3]) (st := []) (fr' := 0) (wo' := 0) (dr_sV (A := []) cl_M hk tw_726 tw_727 tw_728 co_M_thrown ⟨by decide, by decide⟩ (by rfl) d_L_law_198 rfl) co_M_thrown (by decide +kernel) (by decide) (Nat.le_of_ble_eq_true rfl) (Nat.le_of_ble_eq_true rfl) (fun Q' hq => t_M_thrown _ _ hq) hp (fun x17 h16 hp => ?_) (fun E q h3 hp => wx_out (by decide) hp)
  refine wp_iload d_L_law_201 1 rfl ?_
  refine wp_icmp_eq (tgt := 208) d_L_law_203 (by decide) hp (fun _ hp => ?_) (fun _ hp => ?_)
  · refine wp_iload d_L_law_208 1 rfl ?_
    refine wp_if_ne (tgt := 225) d_L_law_210 (by decide) hp (fun _ hp => ?_) (fun _ hp => ?_)
    · refine wp_goto (tgt := 1316) d_L_law_225 (by decide) ?_
      exact wp_sub [2, 3, 4, 5, 6] rfl (t_L_law_1316 hr23 _ _ _ _ _ _ hp)
    · refine wp_aload_n d_L_law_213 5 rfl ?_
      refine wp_iconst (v := 0) (by decide) d_L_law_214 ?_
      refine wp_laload d_L_law_215 hp (fun y18 hp => ?_)
      refine wp_iload d_L_law_216 0 rfl ?_
      refine wp_i2l d_L_law_218 ?_
      refine wp_lcmp d_L_law_219 ?_
      refine wp_if_eq (tgt := 225) d_L_law_220 (by decide) hp (fun _ hp => ?_) (fun _ hp => ?_)
      · refine wp_goto (tgt := 1316) d_L_law_225 (by decide) ?_
        exact wp_sub [2, 3, 4, 5, 6] rfl (t_L_law_1316 hr23 _ _ _ _ _ _ hp)
      · refine wp_iconst (v := 0) (by decide) d_L_law_223 ?_
        exact wp_zreturn rfl d_L_law_224 hp
  · refine wp_iconst (v := 0) (by decide) d_L_law_206 ?_
    exact wp_zreturn rfl d_L_law_207 hp
set_option maxRecDepth 100000 in
set_option maxHeartbeats 400000 in
theorem t_L_law_228 {Q : dr_RS → dr_AH → Prop} {rc23 : Nat → Nat → Nat → Nat → Int32 → dr_AH → Option (dr_RS × dr_AH)} (hr23 : ∀ (a1 : Nat) (a2 : Nat) (a3 : Nat) (a4 : Nat) (x5 : Int32) (h : dr_AH), dr_p (rc23 a1 a2 a3 a4 x5 h) Q → dr_W mi_L_law 10 144 23 [(0, .ref a1), (1, .ref a2), (2, .ref a3), (3, .ref a4), (4, .int x5)] [] h Q) : ∀ (a1 : Nat) (a2 : Nat) (a3 : Nat) (a4 : Nat) (x5 : Int32) (h : dr_AH), dr_p (f_L_law_228 rc23 a1 a2 a3 a4 x5 h) Q → dr_W mi_L_law 10 144 228 [(0, .ref a1), (1, .ref a2), (2, .ref a3), (3, .ref a4), (4, .int x5)] [] h Q := by
  intro a1 a2 a3 a4 x5 h hp
  unfold f_L_law_228 at hp
  refine wp_aload_n d_L_law_228 1 rfl ?_
  refine wp_aload_n d_L_law_229 3 rfl ?_
  refine wp_ci (M' := mi_L_read) (As := [.ref a2, .ref a4]) (st := []) (fr' := 8) (wo' := 113) (dr_sS (A := [.ref a2, .ref a4]) tw_249 tw_250 tw_0 co_L_read ⟨by decide, by decide⟩ (by rfl) d_L_law_230 rfl) co_L_read (by decide +kernel) (by decide) (Nat.le_of_ble_eq_true rfl) (Nat.le_of_ble_eq_true rfl) (fun Q' hq => t_L_read _ _ _ hq) hp (fun x7 h6 hp => ?_) (fun E q h3 hp => wx_out (by decide) hp)
  refine wp_istore (l' := [(5, .int x7), (0, .ref a1), (1, .ref a2), (2, .ref a3), (3, .ref a4), (4, .int x5)]) d_L_law_233 (by decide) rfl ?_
  refine wp_aload_n d_L_law_235 3 rfl ?_
  refine wp_k hp (fun hk hp => ?_)
  refine wp_ci (M' := mi_M_read) (As := [.ref a3]) (st := []) (fr' := 4) (wo' := 58) (dr_sV (A := []) cl_M hk tw_741 tw_742 tw_743 co_M_read ⟨by decide, by decide⟩ (by rfl) d_L_law_236 rfl) co_M_read (by decide +kernel) (by decide) (Nat.le_of_ble_eq_true rfl) (Nat.le_of_ble_eq_true rfl) (fun Q' hq => t_M_read _ _ hq) hp (fun x9 h8 hp => ?_) (fun E q h3 hp => wx_out (by decide) hp)
  refine wp_istore (l' := [(6, .int x9), (5, .int x7), (0, .ref a1), (1, .ref a2), (2, .ref a3), (3, .ref a4), (4, .int x5)]) d_L_law_239 (by decide) rfl ?_
  refine wp_aload_n d_L_law_241 4 rfl ?_
  refine wp_k hp (fun hk hp => ?_)
  refine wp_ci (M' := mi_M_thrown) (As := [.ref a3]) (st := []) (fr' := 0) (wo' := 0) (dr_sV (A := []) cl_M hk tw_726 tw_727 tw_728 co_M_thrown ⟨by decide, by decide⟩ (by rfl) d_L_law_242 rfl) co_M_thrown (by decide +kernel) (by decide) (Nat.le_of_ble_eq_true rfl) (Nat.le_of_ble_eq_true rfl) (fun Q' hq => t_M_thrown _ _ hq) hp (fun x11 h10 hp => ?_) (fun E q h3 hp => wx_out (by decide) hp)
  refine wp_iload d_L_law_245 1 rfl ?_
  refine wp_icmp_eq (tgt := 252) d_L_law_247 (by decide) hp (fun _ hp => ?_) (fun _ hp => ?_)
  · refine wp_iload d_L_law_252 1 rfl ?_
    refine wp_if_ne (tgt := 269) d_L_law_254 (by decide) hp (fun _ hp => ?_) (fun _ hp => ?_)
    · refine wp_goto (tgt := 1316) d_L_law_269 (by decide) ?_
      exact wp_sub [2, 3, 4, 5, 6] rfl (t_L_law_1316 hr23 _ _ _ _ _ _ hp)
    · refine wp_aload_n d_L_law_257 5 rfl ?_
      refine wp_iconst (v := 0) (by decide) d_L_law_258 ?_
      refine wp_laload d_L_law_259 hp (fun y12 hp => ?_)
      refine wp_iload d_L_law_260 0 rfl ?_
      refine wp_i2l d_L_law_262 ?_
      refine wp_lcmp d_L_law_263 ?_
      refine wp_if_eq (tgt := 269) d_L_law_264 (by decide) hp (fun _ hp => ?_) (fun _ hp => ?_)
      · refine wp_goto (tgt := 1316) d_L_law_269 (by decide) ?_
        exact wp_sub [2, 3, 4, 5, 6] rfl (t_L_law_1316 hr23 _ _ _ _ _ _ hp)
      · refine wp_iconst (v := 0) (by decide) d_L_law_267 ?_
        exact wp_zreturn rfl d_L_law_268 hp
  · refine wp_iconst (v := 0) (by decide) d_L_law_250 ?_
    exact wp_zreturn rfl d_L_law_251 hp
set_option maxRecDepth 100000 in
set_option maxHeartbeats 400000 in
theorem t_L_law_272 {Q : dr_RS → dr_AH → Prop} {rc23 : Nat → Nat → Nat → Nat → Int32 → dr_AH → Option (dr_RS × dr_AH)} (hr23 : ∀ (a1 : Nat) (a2 : Nat) (a3 : Nat) (a4 : Nat) (x5 : Int32) (h : dr_AH), dr_p (rc23 a1 a2 a3 a4 x5 h) Q → dr_W mi_L_law 10 144 23 [(0, .ref a1), (1, .ref a2), (2, .ref a3), (3, .ref a4), (4, .int x5)] [] h Q) : ∀ (a1 : Nat) (a2 : Nat) (a3 : Nat) (a4 : Nat) (x5 : Int32) (h : dr_AH), dr_p (f_L_law_272 rc23 a1 a2 a3 a4 x5 h) Q → dr_W mi_L_law 10 144 272 [(0, .ref a1), (1, .ref a2), (2, .ref a3), (3, .ref a4), (4, .int x5)] [] h Q := by
  intro a1 a2 a3 a4 x5 h hp
  unfold f_L_law_272 at hp
  refine wp_aload_n d_L_law_272 1 rfl ?_
  refine wp_k hp (fun hk hp => ?_)
  refine wp_ci (M' := mi_R_place) (As := [.ref a2]) (st := []) (fr' := 0) (wo' := 0) (dr_sV (A := []) cl_R hk tw_142 tw_143 tw_144 co_R_place ⟨by decide, by decide⟩ (by rfl) d_L_law_273 rfl) co_R_place (by decide +kernel) (by decide) (Nat.le_of_ble_eq_true rfl) (Nat.le_of_ble_eq_true rfl) (fun Q' hq => t_R_place _ _ hq) hp (fun x7 h6 hp => ?_) (fun E q h3 hp => wx_out (by decide) hp)
  refine wp_aload_n d_L_law_276 2 rfl ?_
  refine wp_k hp (fun hk hp => ?_)
  refine wp_ci (M' := mi_M_place) (As := [.ref a3]) (st := [.int x7]) (fr' := 0) (wo' := 0) (dr_sV (A := []) cl_M hk tw_789 tw_790 tw_791 co_M_place ⟨by decide, by decide⟩ (by rfl) d_L_law_277 rfl) co_M_place (by decide +kernel) (by decide) (Nat.le_of_ble_eq_true rfl) (Nat.le_of_ble_eq_true rfl) (fun Q' hq => t_M_place _ _ hq) hp (fun x9 h8 hp => ?_) (fun E q h3 hp => wx_out (by decide) hp)
  refine wp_icmp_eq (tgt := 1316) d_L_law_280 (by decide) hp (fun _ hp => ?_) (fun _ hp => ?_)
  · exact wp_sub [0, 1, 2, 3, 4] rfl (t_L_law_1316 hr23 _ _ _ _ _ _ hp)
  · refine wp_iconst (v := 0) (by decide) d_L_law_283 ?_
    exact wp_zreturn rfl d_L_law_284 hp
set_option maxRecDepth 100000 in
set_option maxHeartbeats 400000 in
theorem t_L_law_285 {Q : dr_RS → dr_AH → Prop} {rc23 : Nat → Nat → Nat → Nat → Int32 → dr_AH → Option (dr_RS × dr_AH)} (hr23 : ∀ (a1 : Nat) (a2 : Nat) (a3 : Nat) (a4 : Nat) (x5 : Int32) (h : dr_AH), dr_p (rc23 a1 a2 a3 a4 x5 h) Q → dr_W mi_L_law 10 144 23 [(0, .ref a1), (1, .ref a2), (2, .ref a3), (3, .ref a4), (4, .int x5)] [] h Q) : ∀ (a1 : Nat) (a2 : Nat) (a3 : Nat) (a4 : Nat) (x5 : Int32) (h : dr_AH), dr_p (f_L_law_285 rc23 a1 a2 a3 a4 x5 h) Q → dr_W mi_L_law 10 144 285 [(0, .ref a1), (1, .ref a2), (2, .ref a3), (3, .ref a4), (4, .int x5)] [] h Q := by
  intro a1 a2 a3 a4 x5 h hp
  unfold f_L_law_285 at hp
  refine wp_aload_n d_L_law_285 1 rfl ?_
  refine wp_aload_n d_L_law_286 3 rfl ?_
  refine wp_ci (M' := mi_L_begin) (As := [.ref a2, .ref a4]) (st := []) (fr' := 7) (wo' := 97) (dr_sS (A := [.ref a2, .ref a4]) tw_341 tw_342 tw_0 co_L_begin ⟨by decide, by decide⟩ (by rfl) d_L_law_287 rfl) co_L_begin (by decide +kernel) (by decide) (Nat.le_of_ble_eq_true rfl) (Nat.le_of_ble_eq_true rfl) (fun Q' hq => t_L_begin _ _ _ hq) hp (fun x7 h6 hp => ?_) (fun E q h3 hp => wx_out (by decide) hp)
  refine wp_istore (l' := [(5, .int x7), (0, .ref a1), (1, .ref a2), (2, .ref a3), (3, .ref a4), (4, .int x5)]) d_L_law_290 (by decide) rfl ?_
  refine wp_aload_n d_L_law_292 3 rfl ?_
  refine wp_k hp (fun hk hp => ?_)
  refine wp_ci (M' := mi_M_begin) (As := [.ref a3]) (st := []) (fr' := 3) (wo' := 48) (dr_sV (A := []) cl_M hk tw_793 tw_794 tw_795 co_M_begin ⟨by decide, by decide⟩ (by rfl) d_L_law_293 rfl) co_M_begin (by decide +kernel) (by decide) (Nat.le_of_ble_eq_true rfl) (Nat.le_of_ble_eq_true rfl) (fun Q' hq => t_M_begin _ _ hq) hp (fun x9 h8 hp => ?_) (fun E q h3 hp => wx_out (by decide) hp)
  refine wp_istore (l' := [(6, .int x9), (5, .int x7), (0, .ref a1), (1, .ref a2), (2, .ref a3), (3, .ref a4), (4, .int x5)]) d_L_law_296 (by decide) rfl ?_
  refine wp_aload_n d_L_law_298 4 rfl ?_
  refine wp_k hp (fun hk hp => ?_)
  refine wp_ci (M' := mi_M_thrown) (As := [.ref a3]) (st := []) (fr' := 0) (wo' := 0) (dr_sV (A := []) cl_M hk tw_726 tw_727 tw_728 co_M_thrown ⟨by decide, by decide⟩ (by rfl) d_L_law_299 rfl) co_M_thrown (by decide +kernel) (by decide) (Nat.le_of_ble_eq_true rfl) (Nat.le_of_ble_eq_true rfl) (fun Q' hq => t_M_thrown _ _ hq) hp (fun x11 h10 hp => ?_) (fun E q h3 hp => wx_out (by decide) hp)
  refine wp_iload d_L_law_302 1 rfl ?_
  refine wp_icmp_eq (tgt := 309) d_L_law_304 (by decide) hp (fun _ hp => ?_) (fun _ hp => ?_)
  · refine wp_iload d_L_law_309 1 rfl ?_
    refine wp_if_ne (tgt := 326) d_L_law_311 (by decide) hp (fun _ hp => ?_) (fun _ hp => ?_)
    · refine wp_goto (tgt := 1316) d_L_law_326 (by decide) ?_
      exact wp_sub [2, 3, 4, 5, 6] rfl (t_L_law_1316 hr23 _ _ _ _ _ _ hp)
    · refine wp_aload_n d_L_law_314 5 rfl ?_
      refine wp_iconst (v := 0) (by decide) d_L_law_315 ?_
      refine wp_laload d_L_law_316 hp (fun y12 hp => ?_)
      refine wp_iload d_L_law_317 0 rfl ?_
      refine wp_i2l d_L_law_319 ?_
      refine wp_lcmp d_L_law_320 ?_
      refine wp_if_eq (tgt := 326) d_L_law_321 (by decide) hp (fun _ hp => ?_) (fun _ hp => ?_)
      · refine wp_goto (tgt := 1316) d_L_law_326 (by decide) ?_
        exact wp_sub [2, 3, 4, 5, 6] rfl (t_L_law_1316 hr23 _ _ _ _ _ _ hp)
      · refine wp_iconst (v := 0) (by decide) d_L_law_324 ?_
        exact wp_zreturn rfl d_L_law_325 hp
  · refine wp_iconst (v := 0) (by decide) d_L_law_307 ?_
    exact wp_zreturn rfl d_L_law_308 hp
set_option maxRecDepth 100000 in
set_option maxHeartbeats 400000 in
theorem t_L_law_329 {Q : dr_RS → dr_AH → Prop} {rc23 : Nat → Nat → Nat → Nat → Int32 → dr_AH → Option (dr_RS × dr_AH)} (hr23 : ∀ (a1 : Nat) (a2 : Nat) (a3 : Nat) (a4 : Nat) (x5 : Int32) (h : dr_AH), dr_p (rc23 a1 a2 a3 a4 x5 h) Q → dr_W mi_L_law 10 144 23 [(0, .ref a1), (1, .ref a2), (2, .ref a3), (3, .ref a4), (4, .int x5)] [] h Q) : ∀ (a1 : Nat) (a2 : Nat) (a3 : Nat) (a4 : Nat) (x5 : Int32) (h : dr_AH), dr_p (f_L_law_329 rc23 a1 a2 a3 a4 x5 h) Q → dr_W mi_L_law 10 144 329 [(0, .ref a1), (1, .ref a2), (2, .ref a3), (3, .ref a4), (4, .int x5)] [] h Q := by
  intro a1 a2 a3 a4 x5 h hp
  unfold f_L_law_329 at hp
  refine wp_aload_n d_L_law_329 1 rfl ?_
  refine wp_aload_n d_L_law_330 0 rfl ?_
  refine wp_iload d_L_law_331 4 rfl ?_
  refine wp_iconst (v := 1) (by decide) d_L_law_333 ?_
  refine wp_iadd d_L_law_334 ?_
  refine wp_iaload d_L_law_335 hp (fun x6 hp => ?_)
  refine wp_ci (M' := mi_L_stop) (As := [.ref a2, .int x6]) (st := []) (fr' := 8) (wo' := 111) (dr_sS (A := [.ref a2, .int x6]) tw_409 tw_410 tw_0 co_L_stop ⟨by decide, by decide⟩ (by rfl) d_L_law_336 rfl) co_L_stop (by decide +kernel) (by decide) (Nat.le_of_ble_eq_true rfl) (Nat.le_of_ble_eq_true rfl) (fun Q' hq => t_L_stop _ _ _ hq) hp (fun x8 h7 hp => ?_) (fun E q h3 hp => wx_out (by decide) hp)
  refine wp_istore (l' := [(5, .int x8), (0, .ref a1), (1, .ref a2), (2, .ref a3), (3, .ref a4), (4, .int x5)]) d_L_law_339 (by decide) rfl ?_
  refine wp_aload_n d_L_law_341 3 rfl ?_
  refine wp_aload_n d_L_law_342 1 rfl ?_
  refine wp_iload d_L_law_343 5 rfl ?_
  refine wp_iconst (v := 1) (by decide) d_L_law_345 ?_
  refine wp_iadd d_L_law_346 ?_
  refine wp_iaload d_L_law_347 hp (fun x9 hp => ?_)
  refine wp_k hp (fun hk hp => ?_)
  refine wp_cv (M' := mi_M_stop) (As := [.ref a3, .int x9]) (st := []) (fr' := 2) (wo' := 29) (dr_sV (A := [.int x9]) cl_M hk tw_813 tw_814 tw_815 co_M_stop ⟨by decide, by decide⟩ (by rfl) d_L_law_348 rfl) co_M_stop (by decide +kernel) (by decide) (Nat.le_of_ble_eq_true rfl) (Nat.le_of_ble_eq_true rfl) (fun Q' hq => t_M_stop _ _ _ hq) hp (fun h10 hp => ?_) (fun E q h3 hp => wx_out (by decide) hp)
  refine wp_aload_n d_L_law_351 3 rfl ?_
  refine wp_k hp (fun hk hp => ?_)
  refine wp_ci (M' := mi_M_thrown) (As := [.ref a3]) (st := []) (fr' := 0) (wo' := 0) (dr_sV (A := []) cl_M hk tw_726 tw_727 tw_728 co_M_thrown ⟨by decide, by decide⟩ (by rfl) d_L_law_352 rfl) co_M_thrown (by decide +kernel) (by decide) (Nat.le_of_ble_eq_true rfl) (Nat.le_of_ble_eq_true rfl) (fun Q' hq => t_M_thrown _ _ hq) hp (fun x12 h11 hp => ?_) (fun E q h3 hp => wx_out (by decide) hp)
  refine wp_iload d_L_law_355 0 rfl ?_
  refine wp_icmp_eq (tgt := 362) d_L_law_357 (by decide) hp (fun _ hp => ?_) (fun _ hp => ?_)
  · refine wp_goto (tgt := 1316) d_L_law_362 (by decide) ?_
    exact wp_sub [1, 2, 3, 4, 5] rfl (t_L_law_1316 hr23 _ _ _ _ _ _ hp)
  · refine wp_iconst (v := 0) (by decide) d_L_law_360 ?_
    exact wp_zreturn rfl d_L_law_361 hp
set_option maxRecDepth 100000 in
set_option maxHeartbeats 400000 in
theorem t_L_law_365 {Q : dr_RS → dr_AH → Prop} {rc23 : Nat → Nat → Nat → Nat → Int32 → dr_AH → Option (dr_RS × dr_AH)} (hr23 : ∀ (a1 : Nat) (a2 : Nat) (a3 : Nat) (a4 : Nat) (x5 : Int32) (h : dr_AH), dr_p (rc23 a1 a2 a3 a4 x5 h) Q → dr_W mi_L_law 10 144 23 [(0, .ref a1), (1, .ref a2), (2, .ref a3), (3, .ref a4), (4, .int x5)] [] h Q) : ∀ (a1 : Nat) (a2 : Nat) (a3 : Nat) (a4 : Nat) (x5 : Int32) (h : dr_AH), dr_p (f_L_law_365 rc23 a1 a2 a3 a4 x5 h) Q → dr_W mi_L_law 10 144 365 [(0, .ref a1), (1, .ref a2), (2, .ref a3), (3, .ref a4), (4, .int x5)] [] h Q := by
  intro a1 a2 a3 a4 x5 h hp
  unfold f_L_law_365 at hp
  refine wp_aload_n d_L_law_365 1 rfl ?_
  refine wp_aload_n d_L_law_366 0 rfl ?_
  refine wp_iload d_L_law_367 4 rfl ?_
  refine wp_iconst (v := 1) (by decide) d_L_law_369 ?_
  refine wp_iadd d_L_law_370 ?_
  refine wp_iaload d_L_law_371 hp (fun x6 hp => ?_)
  refine wp_aload_n d_L_law_372 0 rfl ?_
  refine wp_iload d_L_law_373 4 rfl ?_
  refine wp_iconst (v := 2) (by decide) d_L_law_375 ?_
  refine wp_iadd d_L_law_376 ?_
  refine wp_iaload d_L_law_377 hp (fun x7 hp => ?_)
  refine wp_ci (M' := mi_L_unit) (As := [.ref a2, .int x6, .int x7]) (st := []) (fr' := 8) (wo' := 111) (dr_sS (A := [.ref a2, .int x6, .int x7]) tw_438 tw_439 tw_0 co_L_unit ⟨by decide, by decide⟩ (by rfl) d_L_law_378 rfl) co_L_unit (by decide +kernel) (by decide) (Nat.le_of_ble_eq_true rfl) (Nat.le_of_ble_eq_true rfl) (fun Q' hq => t_L_unit _ _ _ _ hq) hp (fun x9 h8 hp => ?_) (fun E q h3 hp => wx_out (by decide) hp)
  refine wp_istore (l' := [(5, .int x9), (0, .ref a1), (1, .ref a2), (2, .ref a3), (3, .ref a4), (4, .int x5)]) d_L_law_381 (by decide) rfl ?_
  refine wp_aload_n d_L_law_383 3 rfl ?_
  refine wp_aload_n d_L_law_384 1 rfl ?_
  refine wp_iload d_L_law_385 5 rfl ?_
  refine wp_iconst (v := 1) (by decide) d_L_law_387 ?_
  refine wp_iadd d_L_law_388 ?_
  refine wp_iaload d_L_law_389 hp (fun x10 hp => ?_)
  refine wp_aload_n d_L_law_390 1 rfl ?_
  refine wp_iload d_L_law_391 5 rfl ?_
  refine wp_iconst (v := 2) (by decide) d_L_law_393 ?_
  refine wp_iadd d_L_law_394 ?_
  refine wp_iaload d_L_law_395 hp (fun x11 hp => ?_)
  refine wp_k hp (fun hk hp => ?_)
  refine wp_cv (M' := mi_M_unit) (As := [.ref a3, .int x10, .int x11]) (st := []) (fr' := 2) (wo' := 27) (dr_sV (A := [.int x10, .int x11]) cl_M hk tw_821 tw_822 tw_823 co_M_unit ⟨by decide, by decide⟩ (by rfl) d_L_law_396 rfl) co_M_unit (by decide +kernel) (by decide) (Nat.le_of_ble_eq_true rfl) (Nat.le_of_ble_eq_true rfl) (fun Q' hq => t_M_unit _ _ _ _ hq) hp (fun h12 hp => ?_) (fun E q h3 hp => wx_out (by decide) hp)
  refine wp_aload_n d_L_law_399 3 rfl ?_
  refine wp_k hp (fun hk hp => ?_)
  refine wp_ci (M' := mi_M_thrown) (As := [.ref a3]) (st := []) (fr' := 0) (wo' := 0) (dr_sV (A := []) cl_M hk tw_726 tw_727 tw_728 co_M_thrown ⟨by decide, by decide⟩ (by rfl) d_L_law_400 rfl) co_M_thrown (by decide +kernel) (by decide) (Nat.le_of_ble_eq_true rfl) (Nat.le_of_ble_eq_true rfl) (fun Q' hq => t_M_thrown _ _ hq) hp (fun x14 h13 hp => ?_) (fun E q h3 hp => wx_out (by decide) hp)
  refine wp_iload d_L_law_403 0 rfl ?_
  refine wp_icmp_eq (tgt := 410) d_L_law_405 (by decide) hp (fun _ hp => ?_) (fun _ hp => ?_)
  · refine wp_goto (tgt := 1316) d_L_law_410 (by decide) ?_
    exact wp_sub [1, 2, 3, 4, 5] rfl (t_L_law_1316 hr23 _ _ _ _ _ _ hp)
  · refine wp_iconst (v := 0) (by decide) d_L_law_408 ?_
    exact wp_zreturn rfl d_L_law_409 hp
set_option maxRecDepth 100000 in
set_option maxHeartbeats 400000 in
theorem t_L_law_413 {Q : dr_RS → dr_AH → Prop} {rc23 : Nat → Nat → Nat → Nat → Int32 → dr_AH → Option (dr_RS × dr_AH)} (hr23 : ∀ (a1 : Nat) (a2 : Nat) (a3 : Nat) (a4 : Nat) (x5 : Int32) (h : dr_AH), dr_p (rc23 a1 a2 a3 a4 x5 h) Q → dr_W mi_L_law 10 144 23 [(0, .ref a1), (1, .ref a2), (2, .ref a3), (3, .ref a4), (4, .int x5)] [] h Q) : ∀ (a1 : Nat) (a2 : Nat) (a3 : Nat) (a4 : Nat) (x5 : Int32) (h : dr_AH), dr_p (f_L_law_413 rc23 a1 a2 a3 a4 x5 h) Q → dr_W mi_L_law 10 144 413 [(0, .ref a1), (1, .ref a2), (2, .ref a3), (3, .ref a4), (4, .int x5)] [] h Q := by
  intro a1 a2 a3 a4 x5 h hp
  unfold f_L_law_413 at hp
  refine wp_aload_n d_L_law_413 1 rfl ?_
  refine wp_aload_n d_L_law_414 0 rfl ?_
  refine wp_iload d_L_law_415 4 rfl ?_
  refine wp_iconst (v := 1) (by decide) d_L_law_417 ?_
  refine wp_iadd d_L_law_418 ?_
  refine wp_iaload d_L_law_419 hp (fun x6 hp => ?_)
  refine wp_aload_n d_L_law_420 3 rfl ?_
  refine wp_ci (M' := mi_L_real) (As := [.ref a2, .int x6, .ref a4]) (st := []) (fr' := 7) (wo' := 98) (dr_sS (A := [.ref a2, .int x6, .ref a4]) tw_447 tw_448 tw_0 co_L_real ⟨by decide, by decide⟩ (by rfl) d_L_law_421 rfl) co_L_real (by decide +kernel) (by decide) (Nat.le_of_ble_eq_true rfl) (Nat.le_of_ble_eq_true rfl) (fun Q' hq => t_L_real _ _ _ _ hq) hp (fun x8 h7 hp => ?_) (fun E q h3 hp => wx_out (by decide) hp)
  refine wp_istore (l' := [(5, .int x8), (0, .ref a1), (1, .ref a2), (2, .ref a3), (3, .ref a4), (4, .int x5)]) d_L_law_424 (by decide) rfl ?_
  refine wp_aload_n d_L_law_426 3 rfl ?_
  refine wp_aload_n d_L_law_427 1 rfl ?_
  refine wp_iload d_L_law_428 5 rfl ?_
  refine wp_iconst (v := 1) (by decide) d_L_law_430 ?_
  refine wp_iadd d_L_law_431 ?_
  refine wp_iaload d_L_law_432 hp (fun x9 hp => ?_)
  refine wp_k hp (fun hk hp => ?_)
  refine wp_ci (M' := mi_M_real) (As := [.ref a3, .int x9]) (st := []) (fr' := 1) (wo' := 15) (dr_sV (A := [.int x9]) cl_M hk tw_825 tw_826 tw_827 co_M_real ⟨by decide, by decide⟩ (by rfl) d_L_law_433 rfl) co_M_real (by decide +kernel) (by decide) (Nat.le_of_ble_eq_true rfl) (Nat.le_of_ble_eq_true rfl) (fun Q' hq => t_M_real _ _ _ hq) hp (fun x11 h10 hp => ?_) (fun E q h3 hp => wx_out (by decide) hp)
  refine wp_istore (l' := [(6, .int x11), (5, .int x8), (0, .ref a1), (1, .ref a2), (2, .ref a3), (3, .ref a4), (4, .int x5)]) d_L_law_436 (by decide) rfl ?_
  refine wp_aload_n d_L_law_438 4 rfl ?_
  refine wp_k hp (fun hk hp => ?_)
  refine wp_ci (M' := mi_M_thrown) (As := [.ref a3]) (st := []) (fr' := 0) (wo' := 0) (dr_sV (A := []) cl_M hk tw_726 tw_727 tw_728 co_M_thrown ⟨by decide, by decide⟩ (by rfl) d_L_law_439 rfl) co_M_thrown (by decide +kernel) (by decide) (Nat.le_of_ble_eq_true rfl) (Nat.le_of_ble_eq_true rfl) (fun Q' hq => t_M_thrown _ _ hq) hp (fun x13 h12 hp => ?_) (fun E q h3 hp => wx_out (by decide) hp)
  refine wp_iload d_L_law_442 1 rfl ?_
  refine wp_icmp_eq (tgt := 449) d_L_law_444 (by decide) hp (fun _ hp => ?_) (fun _ hp => ?_)
  · refine wp_iload d_L_law_449 1 rfl ?_
    refine wp_if_ne (tgt := 466) d_L_law_451 (by decide) hp (fun _ hp => ?_) (fun _ hp => ?_)
    · refine wp_goto (tgt := 1316) d_L_law_466 (by decide) ?_
      exact wp_sub [2, 3, 4, 5, 6] rfl (t_L_law_1316 hr23 _ _ _ _ _ _ hp)
    · refine wp_aload_n d_L_law_454 5 rfl ?_
      refine wp_iconst (v := 0) (by decide) d_L_law_455 ?_
      refine wp_laload d_L_law_456 hp (fun y14 hp => ?_)
      refine wp_iload d_L_law_457 0 rfl ?_
      refine wp_i2l d_L_law_459 ?_
      refine wp_lcmp d_L_law_460 ?_
      refine wp_if_eq (tgt := 466) d_L_law_461 (by decide) hp (fun _ hp => ?_) (fun _ hp => ?_)
      · refine wp_goto (tgt := 1316) d_L_law_466 (by decide) ?_
        exact wp_sub [2, 3, 4, 5, 6] rfl (t_L_law_1316 hr23 _ _ _ _ _ _ hp)
      · refine wp_iconst (v := 0) (by decide) d_L_law_464 ?_
        exact wp_zreturn rfl d_L_law_465 hp
  · refine wp_iconst (v := 0) (by decide) d_L_law_447 ?_
    exact wp_zreturn rfl d_L_law_448 hp
set_option maxRecDepth 100000 in
set_option maxHeartbeats 400000 in
theorem t_L_law_469 {Q : dr_RS → dr_AH → Prop} {rc23 : Nat → Nat → Nat → Nat → Int32 → dr_AH → Option (dr_RS × dr_AH)} (hr23 : ∀ (a1 : Nat) (a2 : Nat) (a3 : Nat) (a4 : Nat) (x5 : Int32) (h : dr_AH), dr_p (rc23 a1 a2 a3 a4 x5 h) Q → dr_W mi_L_law 10 144 23 [(0, .ref a1), (1, .ref a2), (2, .ref a3), (3, .ref a4), (4, .int x5)] [] h Q) : ∀ (a1 : Nat) (a2 : Nat) (a3 : Nat) (a4 : Nat) (x5 : Int32) (h : dr_AH), dr_p (f_L_law_469 rc23 a1 a2 a3 a4 x5 h) Q → dr_W mi_L_law 10 144 469 [(0, .ref a1), (1, .ref a2), (2, .ref a3), (3, .ref a4), (4, .int x5)] [] h Q := by
  intro a1 a2 a3 a4 x5 h hp
  unfold f_L_law_469 at hp
  refine wp_aload_n d_L_law_469 1 rfl ?_
  refine wp_aload_n d_L_law_470 0 rfl ?_
  refine wp_iload d_L_law_471 4 rfl ?_
  refine wp_iconst (v := 1) (by decide) d_L_law_473 ?_
  refine wp_iadd d_L_law_474 ?_
  refine wp_iaload d_L_law_475 hp (fun x6 hp => ?_)
  refine wp_aload_n d_L_law_476 0 rfl ?_
  refine wp_iload d_L_law_477 4 rfl ?_
  refine wp_iconst (v := 2) (by decide) d_L_law_479 ?_
  refine wp_iadd d_L_law_480 ?_
  refine wp_iaload d_L_law_481 hp (fun x7 hp => ?_)
  refine wp_aload_n d_L_law_482 3 rfl ?_
  refine wp_ci (M' := mi_L_act) (As := [.ref a2, .int x6, .int x7, .ref a4]) (st := []) (fr' := 8) (wo' := 113) (dr_sS (A := [.ref a2, .int x6, .int x7, .ref a4]) tw_454 tw_455 tw_0 co_L_act ⟨by decide, by decide⟩ (by rfl) d_L_law_483 rfl) co_L_act (by decide +kernel) (by decide) (Nat.le_of_ble_eq_true rfl) (Nat.le_of_ble_eq_true rfl) (fun Q' hq => t_L_act _ _ _ _ _ hq) hp (fun x9 h8 hp => ?_) (fun E q h3 hp => wx_out (by decide) hp)
  refine wp_istore (l' := [(5, .int x9), (0, .ref a1), (1, .ref a2), (2, .ref a3), (3, .ref a4), (4, .int x5)]) d_L_law_486 (by decide) rfl ?_
  refine wp_aload_n d_L_law_488 3 rfl ?_
  refine wp_aload_n d_L_law_489 1 rfl ?_
  refine wp_iload d_L_law_490 5 rfl ?_
  refine wp_iconst (v := 1) (by decide) d_L_law_492 ?_
  refine wp_iadd d_L_law_493 ?_
  refine wp_iaload d_L_law_494 hp (fun x10 hp => ?_)
  refine wp_aload_n d_L_law_495 1 rfl ?_
  refine wp_iload d_L_law_496 5 rfl ?_
  refine wp_iconst (v := 2) (by decide) d_L_law_498 ?_
  refine wp_iadd d_L_law_499 ?_
  refine wp_iaload d_L_law_500 hp (fun x11 hp => ?_)
  refine wp_k hp (fun hk hp => ?_)
  refine wp_ci (M' := mi_M_act) (As := [.ref a3, .int x10, .int x11]) (st := []) (fr' := 4) (wo' := 62) (dr_sV (A := [.int x10, .int x11]) cl_M hk tw_829 tw_830 tw_831 co_M_act ⟨by decide, by decide⟩ (by rfl) d_L_law_501 rfl) co_M_act (by decide +kernel) (by decide) (Nat.le_of_ble_eq_true rfl) (Nat.le_of_ble_eq_true rfl) (fun Q' hq => t_M_act _ _ _ _ hq) hp (fun x13 h12 hp => ?_) (fun E q h3 hp => wx_out (by decide) hp)
  refine wp_istore (l' := [(6, .int x13), (5, .int x9), (0, .ref a1), (1, .ref a2), (2, .ref a3), (3, .ref a4), (4, .int x5)]) d_L_law_504 (by decide) rfl ?_
  refine wp_aload_n d_L_law_506 4 rfl ?_
  refine wp_k hp (fun hk hp => ?_)
  refine wp_ci (M' := mi_M_thrown) (As := [.ref a3]) (st := []) (fr' := 0) (wo' := 0) (dr_sV (A := []) cl_M hk tw_726 tw_727 tw_728 co_M_thrown ⟨by decide, by decide⟩ (by rfl) d_L_law_507 rfl) co_M_thrown (by decide +kernel) (by decide) (Nat.le_of_ble_eq_true rfl) (Nat.le_of_ble_eq_true rfl) (fun Q' hq => t_M_thrown _ _ hq) hp (fun x15 h14 hp => ?_) (fun E q h3 hp => wx_out (by decide) hp)
  refine wp_iload d_L_law_510 1 rfl ?_
  refine wp_icmp_eq (tgt := 517) d_L_law_512 (by decide) hp (fun _ hp => ?_) (fun _ hp => ?_)
  · refine wp_iload d_L_law_517 1 rfl ?_
    refine wp_if_ne (tgt := 534) d_L_law_519 (by decide) hp (fun _ hp => ?_) (fun _ hp => ?_)
    · refine wp_goto (tgt := 1316) d_L_law_534 (by decide) ?_
      exact wp_sub [2, 3, 4, 5, 6] rfl (t_L_law_1316 hr23 _ _ _ _ _ _ hp)
    · refine wp_aload_n d_L_law_522 5 rfl ?_
      refine wp_iconst (v := 0) (by decide) d_L_law_523 ?_
      refine wp_laload d_L_law_524 hp (fun y16 hp => ?_)
      refine wp_iload d_L_law_525 0 rfl ?_
      refine wp_i2l d_L_law_527 ?_
      refine wp_lcmp d_L_law_528 ?_
      refine wp_if_eq (tgt := 534) d_L_law_529 (by decide) hp (fun _ hp => ?_) (fun _ hp => ?_)
      · refine wp_goto (tgt := 1316) d_L_law_534 (by decide) ?_
        exact wp_sub [2, 3, 4, 5, 6] rfl (t_L_law_1316 hr23 _ _ _ _ _ _ hp)
      · refine wp_iconst (v := 0) (by decide) d_L_law_532 ?_
        exact wp_zreturn rfl d_L_law_533 hp
  · refine wp_iconst (v := 0) (by decide) d_L_law_515 ?_
    exact wp_zreturn rfl d_L_law_516 hp
set_option maxRecDepth 100000 in
set_option maxHeartbeats 400000 in
theorem t_L_law_537 {Q : dr_RS → dr_AH → Prop} {rc23 : Nat → Nat → Nat → Nat → Int32 → dr_AH → Option (dr_RS × dr_AH)} (hr23 : ∀ (a1 : Nat) (a2 : Nat) (a3 : Nat) (a4 : Nat) (x5 : Int32) (h : dr_AH), dr_p (rc23 a1 a2 a3 a4 x5 h) Q → dr_W mi_L_law 10 144 23 [(0, .ref a1), (1, .ref a2), (2, .ref a3), (3, .ref a4), (4, .int x5)] [] h Q) : ∀ (a1 : Nat) (a2 : Nat) (a3 : Nat) (a4 : Nat) (x5 : Int32) (h : dr_AH), dr_p (f_L_law_537 rc23 a1 a2 a3 a4 x5 h) Q → dr_W mi_L_law 10 144 537 [(0, .ref a1), (1, .ref a2), (2, .ref a3), (3, .ref a4), (4, .int x5)] [] h Q := by
  intro a1 a2 a3 a4 x5 h hp
  unfold f_L_law_537 at hp
  refine wp_aload_n d_L_law_537 1 rfl ?_
  refine wp_aload_n d_L_law_538 0 rfl ?_
  refine wp_iload d_L_law_539 4 rfl ?_
  refine wp_iconst (v := 1) (by decide) d_L_law_541 ?_
  refine wp_iadd d_L_law_542 ?_
  refine wp_iaload d_L_law_543 hp (fun x6 hp => ?_)
  refine wp_aload_n d_L_law_544 3 rfl ?_
  refine wp_ci (M' := mi_L_tick) (As := [.ref a2, .int x6, .ref a4]) (st := []) (fr' := 7) (wo' := 102) (dr_sS (A := [.ref a2, .int x6, .ref a4]) tw_471 tw_472 tw_0 co_L_tick ⟨by decide, by decide⟩ (by rfl) d_L_law_545 rfl) co_L_tick (by decide +kernel) (by decide) (Nat.le_of_ble_eq_true rfl) (Nat.le_of_ble_eq_true rfl) (fun Q' hq => t_L_tick _ _ _ _ hq) hp (fun x8 h7 hp => ?_) (fun E q h3 hp => wx_out (by decide) hp)
  refine wp_istore (l' := [(5, .int x8), (0, .ref a1), (1, .ref a2), (2, .ref a3), (3, .ref a4), (4, .int x5)]) d_L_law_548 (by decide) rfl ?_
  refine wp_aload_n d_L_law_550 3 rfl ?_
  refine wp_aload_n d_L_law_551 1 rfl ?_
  refine wp_iload d_L_law_552 5 rfl ?_
  refine wp_iconst (v := 1) (by decide) d_L_law_554 ?_
  refine wp_iadd d_L_law_555 ?_
  refine wp_iaload d_L_law_556 hp (fun x9 hp => ?_)
  refine wp_k hp (fun hk hp => ?_)
  refine wp_ci (M' := mi_M_tick) (As := [.ref a3, .int x9]) (st := []) (fr' := 3) (wo' := 49) (dr_sV (A := [.int x9]) cl_M hk tw_842 tw_843 tw_844 co_M_tick ⟨by decide, by decide⟩ (by rfl) d_L_law_557 rfl) co_M_tick (by decide +kernel) (by decide) (Nat.le_of_ble_eq_true rfl) (Nat.le_of_ble_eq_true rfl) (fun Q' hq => t_M_tick _ _ _ hq) hp (fun x11 h10 hp => ?_) (fun E q h3 hp => wx_out (by decide) hp)
  refine wp_istore (l' := [(6, .int x11), (5, .int x8), (0, .ref a1), (1, .ref a2), (2, .ref a3), (3, .ref a4), (4, .int x5)]) d_L_law_560 (by decide) rfl ?_
  refine wp_aload_n d_L_law_562 4 rfl ?_
  refine wp_k hp (fun hk hp => ?_)
  refine wp_ci (M' := mi_M_thrown) (As := [.ref a3]) (st := []) (fr' := 0) (wo' := 0) (dr_sV (A := []) cl_M hk tw_726 tw_727 tw_728 co_M_thrown ⟨by decide, by decide⟩ (by rfl) d_L_law_563 rfl) co_M_thrown (by decide +kernel) (by decide) (Nat.le_of_ble_eq_true rfl) (Nat.le_of_ble_eq_true rfl) (fun Q' hq => t_M_thrown _ _ hq) hp (fun x13 h12 hp => ?_) (fun E q h3 hp => wx_out (by decide) hp)
  refine wp_iload d_L_law_566 1 rfl ?_
  refine wp_icmp_eq (tgt := 573) d_L_law_568 (by decide) hp (fun _ hp => ?_) (fun _ hp => ?_)
  · refine wp_iload d_L_law_573 1 rfl ?_
    refine wp_if_ne (tgt := 590) d_L_law_575 (by decide) hp (fun _ hp => ?_) (fun _ hp => ?_)
    · refine wp_goto (tgt := 1316) d_L_law_590 (by decide) ?_
      exact wp_sub [2, 3, 4, 5, 6] rfl (t_L_law_1316 hr23 _ _ _ _ _ _ hp)
    · refine wp_aload_n d_L_law_578 5 rfl ?_
      refine wp_iconst (v := 0) (by decide) d_L_law_579 ?_
      refine wp_laload d_L_law_580 hp (fun y14 hp => ?_)
      refine wp_iload d_L_law_581 0 rfl ?_
      refine wp_i2l d_L_law_583 ?_
      refine wp_lcmp d_L_law_584 ?_
      refine wp_if_eq (tgt := 590) d_L_law_585 (by decide) hp (fun _ hp => ?_) (fun _ hp => ?_)
      · refine wp_goto (tgt := 1316) d_L_law_590 (by decide) ?_
        exact wp_sub [2, 3, 4, 5, 6] rfl (t_L_law_1316 hr23 _ _ _ _ _ _ hp)
      · refine wp_iconst (v := 0) (by decide) d_L_law_588 ?_
        exact wp_zreturn rfl d_L_law_589 hp
  · refine wp_iconst (v := 0) (by decide) d_L_law_571 ?_
    exact wp_zreturn rfl d_L_law_572 hp
set_option maxRecDepth 100000 in
set_option maxHeartbeats 400000 in
theorem t_L_law_593 {Q : dr_RS → dr_AH → Prop} {rc23 : Nat → Nat → Nat → Nat → Int32 → dr_AH → Option (dr_RS × dr_AH)} (hr23 : ∀ (a1 : Nat) (a2 : Nat) (a3 : Nat) (a4 : Nat) (x5 : Int32) (h : dr_AH), dr_p (rc23 a1 a2 a3 a4 x5 h) Q → dr_W mi_L_law 10 144 23 [(0, .ref a1), (1, .ref a2), (2, .ref a3), (3, .ref a4), (4, .int x5)] [] h Q) : ∀ (a1 : Nat) (a2 : Nat) (a3 : Nat) (a4 : Nat) (x5 : Int32) (h : dr_AH), dr_p (f_L_law_593 rc23 a1 a2 a3 a4 x5 h) Q → dr_W mi_L_law 10 144 593 [(0, .ref a1), (1, .ref a2), (2, .ref a3), (3, .ref a4), (4, .int x5)] [] h Q := by
  intro a1 a2 a3 a4 x5 h hp
  unfold f_L_law_593 at hp
  refine wp_aload_n d_L_law_593 1 rfl ?_
  refine wp_aload_n d_L_law_594 0 rfl ?_
  refine wp_iload d_L_law_595 4 rfl ?_
  refine wp_iconst (v := 1) (by decide) d_L_law_597 ?_
  refine wp_iadd d_L_law_598 ?_
  refine wp_iaload d_L_law_599 hp (fun x6 hp => ?_)
  refine wp_aload_n d_L_law_600 0 rfl ?_
  refine wp_iload d_L_law_601 4 rfl ?_
  refine wp_iconst (v := 2) (by decide) d_L_law_603 ?_
  refine wp_iadd d_L_law_604 ?_
  refine wp_iaload d_L_law_605 hp (fun x7 hp => ?_)
  refine wp_aload_n d_L_law_606 0 rfl ?_
  refine wp_iload d_L_law_607 4 rfl ?_
  refine wp_iconst (v := 3) (by decide) d_L_law_609 ?_
  refine wp_iadd d_L_law_610 ?_
  refine wp_iaload d_L_law_611 hp (fun x8 hp => ?_)
  refine wp_aload_n d_L_law_612 3 rfl ?_
  refine wp_ci (M' := mi_L_event) (As := [.ref a2, .int x6, .int x7, .int x8, .ref a4]) (st := []) (fr' := 8) (wo' := 114) (dr_sS (A := [.ref a2, .int x6, .int x7, .int x8, .ref a4]) tw_480 tw_481 tw_0 co_L_event ⟨by decide, by decide⟩ (by rfl) d_L_law_613 rfl) co_L_event (by decide +kernel) (by decide) (Nat.le_of_ble_eq_true rfl) (Nat.le_of_ble_eq_true rfl) (fun Q' hq => t_L_event _ _ _ _ _ _ hq) hp (fun x10 h9 hp => ?_) (fun E q h3 hp => wx_out (by decide) hp)
  refine wp_istore (l' := [(5, .int x10), (0, .ref a1), (1, .ref a2), (2, .ref a3), (3, .ref a4), (4, .int x5)]) d_L_law_616 (by decide) rfl ?_
  refine wp_aload_n d_L_law_618 3 rfl ?_
  refine wp_aload_n d_L_law_619 1 rfl ?_
  refine wp_iload d_L_law_620 5 rfl ?_
  refine wp_iconst (v := 1) (by decide) d_L_law_622 ?_
  refine wp_iadd d_L_law_623 ?_
  refine wp_iaload d_L_law_624 hp (fun x11 hp => ?_)
  refine wp_aload_n d_L_law_625 1 rfl ?_
  refine wp_iload d_L_law_626 5 rfl ?_
  refine wp_iconst (v := 2) (by decide) d_L_law_628 ?_
  refine wp_iadd d_L_law_629 ?_
  refine wp_iaload d_L_law_630 hp (fun x12 hp => ?_)
  refine wp_aload_n d_L_law_631 1 rfl ?_
  refine wp_iload d_L_law_632 5 rfl ?_
  refine wp_iconst (v := 3) (by decide) d_L_law_634 ?_
  refine wp_iadd d_L_law_635 ?_
  refine wp_iaload d_L_law_636 hp (fun x13 hp => ?_)
  refine wp_k hp (fun hk hp => ?_)
  refine wp_ci (M' := mi_M_event) (As := [.ref a3, .int x11, .int x12, .int x13]) (st := []) (fr' := 2) (wo' := 27) (dr_sV (A := [.int x11, .int x12, .int x13]) cl_M hk tw_847 tw_848 tw_849 co_M_event ⟨by decide, by decide⟩ (by rfl) d_L_law_637 rfl) co_M_event (by decide +kernel) (by decide) (Nat.le_of_ble_eq_true rfl) (Nat.le_of_ble_eq_true rfl) (fun Q' hq => t_M_event _ _ _ _ _ hq) hp (fun x15 h14 hp => ?_) (fun E q h3 hp => wx_out (by decide) hp)
  refine wp_istore (l' := [(6, .int x15), (5, .int x10), (0, .ref a1), (1, .ref a2), (2, .ref a3), (3, .ref a4), (4, .int x5)]) d_L_law_640 (by decide) rfl ?_
  refine wp_aload_n d_L_law_642 4 rfl ?_
  refine wp_k hp (fun hk hp => ?_)
  refine wp_ci (M' := mi_M_thrown) (As := [.ref a3]) (st := []) (fr' := 0) (wo' := 0) (dr_sV (A := []) cl_M hk tw_726 tw_727 tw_728 co_M_thrown ⟨by decide, by decide⟩ (by rfl) d_L_law_643 rfl) co_M_thrown (by decide +kernel) (by decide) (Nat.le_of_ble_eq_true rfl) (Nat.le_of_ble_eq_true rfl) (fun Q' hq => t_M_thrown _ _ hq) hp (fun x17 h16 hp => ?_) (fun E q h3 hp => wx_out (by decide) hp)
  refine wp_iload d_L_law_646 1 rfl ?_
  refine wp_icmp_eq (tgt := 653) d_L_law_648 (by decide) hp (fun _ hp => ?_) (fun _ hp => ?_)
  · refine wp_iload d_L_law_653 1 rfl ?_
    refine wp_if_ne (tgt := 670) d_L_law_655 (by decide) hp (fun _ hp => ?_) (fun _ hp => ?_)
    · refine wp_goto (tgt := 1316) d_L_law_670 (by decide) ?_
      exact wp_sub [2, 3, 4, 5, 6] rfl (t_L_law_1316 hr23 _ _ _ _ _ _ hp)
    · refine wp_aload_n d_L_law_658 5 rfl ?_
      refine wp_iconst (v := 0) (by decide) d_L_law_659 ?_
      refine wp_laload d_L_law_660 hp (fun y18 hp => ?_)
      refine wp_iload d_L_law_661 0 rfl ?_
      refine wp_i2l d_L_law_663 ?_
      refine wp_lcmp d_L_law_664 ?_
      refine wp_if_eq (tgt := 670) d_L_law_665 (by decide) hp (fun _ hp => ?_) (fun _ hp => ?_)
      · refine wp_goto (tgt := 1316) d_L_law_670 (by decide) ?_
        exact wp_sub [2, 3, 4, 5, 6] rfl (t_L_law_1316 hr23 _ _ _ _ _ _ hp)
      · refine wp_iconst (v := 0) (by decide) d_L_law_668 ?_
        exact wp_zreturn rfl d_L_law_669 hp
  · refine wp_iconst (v := 0) (by decide) d_L_law_651 ?_
    exact wp_zreturn rfl d_L_law_652 hp
set_option maxRecDepth 100000 in
set_option maxHeartbeats 400000 in
theorem t_L_law_673 {Q : dr_RS → dr_AH → Prop} {rc23 : Nat → Nat → Nat → Nat → Int32 → dr_AH → Option (dr_RS × dr_AH)} (hr23 : ∀ (a1 : Nat) (a2 : Nat) (a3 : Nat) (a4 : Nat) (x5 : Int32) (h : dr_AH), dr_p (rc23 a1 a2 a3 a4 x5 h) Q → dr_W mi_L_law 10 144 23 [(0, .ref a1), (1, .ref a2), (2, .ref a3), (3, .ref a4), (4, .int x5)] [] h Q) : ∀ (a1 : Nat) (a2 : Nat) (a3 : Nat) (a4 : Nat) (x5 : Int32) (h : dr_AH), dr_p (f_L_law_673 rc23 a1 a2 a3 a4 x5 h) Q → dr_W mi_L_law 10 144 673 [(0, .ref a1), (1, .ref a2), (2, .ref a3), (3, .ref a4), (4, .int x5)] [] h Q := by
  intro a1 a2 a3 a4 x5 h hp
  unfold f_L_law_673 at hp
  refine wp_aload_n d_L_law_673 1 rfl ?_
  refine wp_aload_n d_L_law_674 0 rfl ?_
  refine wp_iload d_L_law_675 4 rfl ?_
  refine wp_iconst (v := 1) (by decide) d_L_law_677 ?_
  refine wp_iadd d_L_law_678 ?_
  refine wp_iaload d_L_law_679 hp (fun x6 hp => ?_)
  refine wp_aload_n d_L_law_680 0 rfl ?_
  refine wp_iload d_L_law_681 4 rfl ?_
  refine wp_iconst (v := 2) (by decide) d_L_law_683 ?_
  refine wp_iadd d_L_law_684 ?_
  refine wp_iaload d_L_law_685 hp (fun x7 hp => ?_)
  refine wp_aload_n d_L_law_686 0 rfl ?_
  refine wp_iload d_L_law_687 4 rfl ?_
  refine wp_iconst (v := 3) (by decide) d_L_law_689 ?_
  refine wp_iadd d_L_law_690 ?_
  refine wp_iaload d_L_law_691 hp (fun x8 hp => ?_)
  refine wp_aload_n d_L_law_692 3 rfl ?_
  refine wp_ci (M' := mi_L_seen) (As := [.ref a2, .int x6, .int x7, .int x8, .ref a4]) (st := []) (fr' := 8) (wo' := 114) (dr_sS (A := [.ref a2, .int x6, .int x7, .int x8, .ref a4]) tw_494 tw_495 tw_0 co_L_seen ⟨by decide, by decide⟩ (by rfl) d_L_law_693 rfl) co_L_seen (by decide +kernel) (by decide) (Nat.le_of_ble_eq_true rfl) (Nat.le_of_ble_eq_true rfl) (fun Q' hq => t_L_seen _ _ _ _ _ _ hq) hp (fun x10 h9 hp => ?_) (fun E q h3 hp => wx_out (by decide) hp)
  refine wp_istore (l' := [(5, .int x10), (0, .ref a1), (1, .ref a2), (2, .ref a3), (3, .ref a4), (4, .int x5)]) d_L_law_696 (by decide) rfl ?_
  refine wp_aload_n d_L_law_698 3 rfl ?_
  refine wp_aload_n d_L_law_699 1 rfl ?_
  refine wp_iload d_L_law_700 5 rfl ?_
  refine wp_iconst (v := 1) (by decide) d_L_law_702 ?_
  refine wp_iadd d_L_law_703 ?_
  refine wp_iaload d_L_law_704 hp (fun x11 hp => ?_)
  refine wp_aload_n d_L_law_705 1 rfl ?_
  refine wp_iload d_L_law_706 5 rfl ?_
  refine wp_iconst (v := 2) (by decide) d_L_law_708 ?_
  refine wp_iadd d_L_law_709 ?_
  refine wp_iaload d_L_law_710 hp (fun x12 hp => ?_)
  refine wp_aload_n d_L_law_711 1 rfl ?_
  refine wp_iload d_L_law_712 5 rfl ?_
  refine wp_iconst (v := 3) (by decide) d_L_law_714 ?_
  refine wp_iadd d_L_law_715 ?_
  refine wp_iaload d_L_law_716 hp (fun x13 hp => ?_)
  refine wp_k hp (fun hk hp => ?_)
  refine wp_ci (M' := mi_M_seen) (As := [.ref a3, .int x11, .int x12, .int x13]) (st := []) (fr' := 2) (wo' := 28) (dr_sV (A := [.int x11, .int x12, .int x13]) cl_M hk tw_851 tw_852 tw_853 co_M_seen ⟨by decide, by decide⟩ (by rfl) d_L_law_717 rfl) co_M_seen (by decide +kernel) (by decide) (Nat.le_of_ble_eq_true rfl) (Nat.le_of_ble_eq_true rfl) (fun Q' hq => t_M_seen _ _ _ _ _ hq) hp (fun x15 h14 hp => ?_) (fun E q h3 hp => wx_out (by decide) hp)
  refine wp_istore (l' := [(6, .int x15), (5, .int x10), (0, .ref a1), (1, .ref a2), (2, .ref a3), (3, .ref a4), (4, .int x5)]) d_L_law_720 (by decide) rfl ?_
  refine wp_aload_n d_L_law_722 4 rfl ?_
  refine wp_k hp (fun hk hp => ?_)
  refine wp_ci (M' := mi_M_thrown) (As := [.ref a3]) (st := []) (fr' := 0) (wo' := 0) (dr_sV (A := []) cl_M hk tw_726 tw_727 tw_728 co_M_thrown ⟨by decide, by decide⟩ (by rfl) d_L_law_723 rfl) co_M_thrown (by decide +kernel) (by decide) (Nat.le_of_ble_eq_true rfl) (Nat.le_of_ble_eq_true rfl) (fun Q' hq => t_M_thrown _ _ hq) hp (fun x17 h16 hp => ?_) (fun E q h3 hp => wx_out (by decide) hp)
  refine wp_iload d_L_law_726 1 rfl ?_
  refine wp_icmp_eq (tgt := 733) d_L_law_728 (by decide) hp (fun _ hp => ?_) (fun _ hp => ?_)
  · refine wp_iload d_L_law_733 1 rfl ?_
    refine wp_if_ne (tgt := 750) d_L_law_735 (by decide) hp (fun _ hp => ?_) (fun _ hp => ?_)
    · refine wp_goto (tgt := 1316) d_L_law_750 (by decide) ?_
      exact wp_sub [2, 3, 4, 5, 6] rfl (t_L_law_1316 hr23 _ _ _ _ _ _ hp)
    · refine wp_aload_n d_L_law_738 5 rfl ?_
      refine wp_iconst (v := 0) (by decide) d_L_law_739 ?_
      refine wp_laload d_L_law_740 hp (fun y18 hp => ?_)
      refine wp_iload d_L_law_741 0 rfl ?_
      refine wp_i2l d_L_law_743 ?_
      refine wp_lcmp d_L_law_744 ?_
      refine wp_if_eq (tgt := 750) d_L_law_745 (by decide) hp (fun _ hp => ?_) (fun _ hp => ?_)
      · refine wp_goto (tgt := 1316) d_L_law_750 (by decide) ?_
        exact wp_sub [2, 3, 4, 5, 6] rfl (t_L_law_1316 hr23 _ _ _ _ _ _ hp)
      · refine wp_iconst (v := 0) (by decide) d_L_law_748 ?_
        exact wp_zreturn rfl d_L_law_749 hp
  · refine wp_iconst (v := 0) (by decide) d_L_law_731 ?_
    exact wp_zreturn rfl d_L_law_732 hp
set_option maxRecDepth 100000 in
set_option maxHeartbeats 400000 in
theorem t_L_law_753 {Q : dr_RS → dr_AH → Prop} {rc23 : Nat → Nat → Nat → Nat → Int32 → dr_AH → Option (dr_RS × dr_AH)} (hr23 : ∀ (a1 : Nat) (a2 : Nat) (a3 : Nat) (a4 : Nat) (x5 : Int32) (h : dr_AH), dr_p (rc23 a1 a2 a3 a4 x5 h) Q → dr_W mi_L_law 10 144 23 [(0, .ref a1), (1, .ref a2), (2, .ref a3), (3, .ref a4), (4, .int x5)] [] h Q) : ∀ (a1 : Nat) (a2 : Nat) (a3 : Nat) (a4 : Nat) (x5 : Int32) (h : dr_AH), dr_p (f_L_law_753 rc23 a1 a2 a3 a4 x5 h) Q → dr_W mi_L_law 10 144 753 [(0, .ref a1), (1, .ref a2), (2, .ref a3), (3, .ref a4), (4, .int x5)] [] h Q := by
  intro a1 a2 a3 a4 x5 h hp
  unfold f_L_law_753 at hp
  refine wp_aload_n d_L_law_753 1 rfl ?_
  refine wp_aload_n d_L_law_754 0 rfl ?_
  refine wp_iload d_L_law_755 4 rfl ?_
  refine wp_iconst (v := 1) (by decide) d_L_law_757 ?_
  refine wp_iadd d_L_law_758 ?_
  refine wp_iaload d_L_law_759 hp (fun x6 hp => ?_)
  refine wp_aload_n d_L_law_760 0 rfl ?_
  refine wp_iload d_L_law_761 4 rfl ?_
  refine wp_iconst (v := 2) (by decide) d_L_law_763 ?_
  refine wp_iadd d_L_law_764 ?_
  refine wp_iaload d_L_law_765 hp (fun x7 hp => ?_)
  refine wp_aload_n d_L_law_766 3 rfl ?_
  refine wp_ci (M' := mi_L_fault) (As := [.ref a2, .int x6, .int x7, .ref a4]) (st := []) (fr' := 8) (wo' := 113) (dr_sS (A := [.ref a2, .int x6, .int x7, .ref a4]) tw_511 tw_512 tw_0 co_L_fault ⟨by decide, by decide⟩ (by rfl) d_L_law_767 rfl) co_L_fault (by decide +kernel) (by decide) (Nat.le_of_ble_eq_true rfl) (Nat.le_of_ble_eq_true rfl) (fun Q' hq => t_L_fault _ _ _ _ _ hq) hp (fun x9 h8 hp => ?_) (fun E q h3 hp => wx_out (by decide) hp)
  refine wp_istore (l' := [(5, .int x9), (0, .ref a1), (1, .ref a2), (2, .ref a3), (3, .ref a4), (4, .int x5)]) d_L_law_770 (by decide) rfl ?_
  refine wp_aload_n d_L_law_772 3 rfl ?_
  refine wp_aload_n d_L_law_773 1 rfl ?_
  refine wp_iload d_L_law_774 5 rfl ?_
  refine wp_iconst (v := 1) (by decide) d_L_law_776 ?_
  refine wp_iadd d_L_law_777 ?_
  refine wp_iaload d_L_law_778 hp (fun x10 hp => ?_)
  refine wp_aload_n d_L_law_779 1 rfl ?_
  refine wp_iload d_L_law_780 5 rfl ?_
  refine wp_iconst (v := 2) (by decide) d_L_law_782 ?_
  refine wp_iadd d_L_law_783 ?_
  refine wp_iaload d_L_law_784 hp (fun x11 hp => ?_)
  refine wp_k hp (fun hk hp => ?_)
  refine wp_ci (M' := mi_M_fault) (As := [.ref a3, .int x10, .int x11]) (st := []) (fr' := 2) (wo' := 28) (dr_sV (A := [.int x10, .int x11]) cl_M hk tw_855 tw_856 tw_857 co_M_fault ⟨by decide, by decide⟩ (by rfl) d_L_law_785 rfl) co_M_fault (by decide +kernel) (by decide) (Nat.le_of_ble_eq_true rfl) (Nat.le_of_ble_eq_true rfl) (fun Q' hq => t_M_fault _ _ _ _ hq) hp (fun x13 h12 hp => ?_) (fun E q h3 hp => wx_out (by decide) hp)
  refine wp_istore (l' := [(6, .int x13), (5, .int x9), (0, .ref a1), (1, .ref a2), (2, .ref a3), (3, .ref a4), (4, .int x5)]) d_L_law_788 (by decide) rfl ?_
  refine wp_aload_n d_L_law_790 4 rfl ?_
  refine wp_k hp (fun hk hp => ?_)
  refine wp_ci (M' := mi_M_thrown) (As := [.ref a3]) (st := []) (fr' := 0) (wo' := 0) (dr_sV (A := []) cl_M hk tw_726 tw_727 tw_728 co_M_thrown ⟨by decide, by decide⟩ (by rfl) d_L_law_791 rfl) co_M_thrown (by decide +kernel) (by decide) (Nat.le_of_ble_eq_true rfl) (Nat.le_of_ble_eq_true rfl) (fun Q' hq => t_M_thrown _ _ hq) hp (fun x15 h14 hp => ?_) (fun E q h3 hp => wx_out (by decide) hp)
  refine wp_iload d_L_law_794 1 rfl ?_
  refine wp_icmp_eq (tgt := 801) d_L_law_796 (by decide) hp (fun _ hp => ?_) (fun _ hp => ?_)
  · refine wp_iload d_L_law_801 1 rfl ?_
    refine wp_if_ne (tgt := 825) d_L_law_803 (by decide) hp (fun _ hp => ?_) (fun _ hp => ?_)
    · refine wp_goto (tgt := 1316) d_L_law_825 (by decide) ?_
      exact wp_sub [2, 3, 4, 5, 6] rfl (t_L_law_1316 hr23 _ _ _ _ _ _ hp)
    · refine wp_aload_n d_L_law_806 5 rfl ?_
      refine wp_iconst (v := 0) (by decide) d_L_law_807 ?_
      refine wp_laload d_L_law_808 hp (fun y16 hp => ?_)
      refine wp_iload d_L_law_809 0 rfl ?_
      refine wp_if_eq (tgt := 818) d_L_law_811 (by decide) hp (fun _ hp => ?_) (fun _ hp => ?_)
      · refine wp_lconst (v := 0) (by decide) d_L_law_818 ?_
        refine wp_lcmp d_L_law_819 ?_
        refine wp_if_eq (tgt := 825) d_L_law_820 (by decide) hp (fun _ hp => ?_) (fun _ hp => ?_)
        · refine wp_goto (tgt := 1316) d_L_law_825 (by decide) ?_
          exact wp_sub [2, 3, 4, 5, 6] rfl (t_L_law_1316 hr23 _ _ _ _ _ _ hp)
        · refine wp_iconst (v := 0) (by decide) d_L_law_823 ?_
          exact wp_zreturn rfl d_L_law_824 hp
      · refine wp_lconst (v := 1) (by decide) d_L_law_814 ?_
        refine wp_goto (tgt := 819) d_L_law_815 (by decide) ?_
        refine wp_lcmp d_L_law_819 ?_
        refine wp_if_eq (tgt := 825) d_L_law_820 (by decide) hp (fun _ hp => ?_) (fun _ hp => ?_)
        · refine wp_goto (tgt := 1316) d_L_law_825 (by decide) ?_
          exact wp_sub [2, 3, 4, 5, 6] rfl (t_L_law_1316 hr23 _ _ _ _ _ _ hp)
        · refine wp_iconst (v := 0) (by decide) d_L_law_823 ?_
          exact wp_zreturn rfl d_L_law_824 hp
  · refine wp_iconst (v := 0) (by decide) d_L_law_799 ?_
    exact wp_zreturn rfl d_L_law_800 hp
set_option maxRecDepth 100000 in
set_option maxHeartbeats 400000 in
theorem t_L_law_828 {Q : dr_RS → dr_AH → Prop} {rc23 : Nat → Nat → Nat → Nat → Int32 → dr_AH → Option (dr_RS × dr_AH)} (hr23 : ∀ (a1 : Nat) (a2 : Nat) (a3 : Nat) (a4 : Nat) (x5 : Int32) (h : dr_AH), dr_p (rc23 a1 a2 a3 a4 x5 h) Q → dr_W mi_L_law 10 144 23 [(0, .ref a1), (1, .ref a2), (2, .ref a3), (3, .ref a4), (4, .int x5)] [] h Q) : ∀ (a1 : Nat) (a2 : Nat) (a3 : Nat) (a4 : Nat) (x5 : Int32) (h : dr_AH), dr_p (f_L_law_828 rc23 a1 a2 a3 a4 x5 h) Q → dr_W mi_L_law 10 144 828 [(0, .ref a1), (1, .ref a2), (2, .ref a3), (3, .ref a4), (4, .int x5)] [] h Q := by
  intro a1 a2 a3 a4 x5 h hp
  unfold f_L_law_828 at hp
  refine wp_aload_n d_L_law_828 1 rfl ?_
  refine wp_aload_n d_L_law_829 0 rfl ?_
  refine wp_iload d_L_law_830 4 rfl ?_
  refine wp_iconst (v := 1) (by decide) d_L_law_832 ?_
  refine wp_iadd d_L_law_833 ?_
  refine wp_iaload d_L_law_834 hp (fun x6 hp => ?_)
  refine wp_aload_n d_L_law_835 0 rfl ?_
  refine wp_iload d_L_law_836 4 rfl ?_
  refine wp_iconst (v := 2) (by decide) d_L_law_838 ?_
  refine wp_iadd d_L_law_839 ?_
  refine wp_iaload d_L_law_840 hp (fun x7 hp => ?_)
  refine wp_aload_n d_L_law_841 3 rfl ?_
  refine wp_ci (M' := mi_L_aim) (As := [.ref a2, .int x6, .int x7, .ref a4]) (st := []) (fr' := 8) (wo' := 113) (dr_sS (A := [.ref a2, .int x6, .int x7, .ref a4]) tw_523 tw_524 tw_0 co_L_aim ⟨by decide, by decide⟩ (by rfl) d_L_law_842 rfl) co_L_aim (by decide +kernel) (by decide) (Nat.le_of_ble_eq_true rfl) (Nat.le_of_ble_eq_true rfl) (fun Q' hq => t_L_aim _ _ _ _ _ hq) hp (fun x9 h8 hp => ?_) (fun E q h3 hp => wx_out (by decide) hp)
  refine wp_istore (l' := [(5, .int x9), (0, .ref a1), (1, .ref a2), (2, .ref a3), (3, .ref a4), (4, .int x5)]) d_L_law_845 (by decide) rfl ?_
  refine wp_aload_n d_L_law_847 3 rfl ?_
  refine wp_aload_n d_L_law_848 1 rfl ?_
  refine wp_iload d_L_law_849 5 rfl ?_
  refine wp_iconst (v := 1) (by decide) d_L_law_851 ?_
  refine wp_iadd d_L_law_852 ?_
  refine wp_iaload d_L_law_853 hp (fun x10 hp => ?_)
  refine wp_aload_n d_L_law_854 1 rfl ?_
  refine wp_iload d_L_law_855 5 rfl ?_
  refine wp_iconst (v := 2) (by decide) d_L_law_857 ?_
  refine wp_iadd d_L_law_858 ?_
  refine wp_iaload d_L_law_859 hp (fun x11 hp => ?_)
  refine wp_k hp (fun hk hp => ?_)
  refine wp_ci (M' := mi_M_aim) (As := [.ref a3, .int x10, .int x11]) (st := []) (fr' := 2) (wo' := 33) (dr_sV (A := [.int x10, .int x11]) cl_M hk tw_859 tw_860 tw_861 co_M_aim ⟨by decide, by decide⟩ (by rfl) d_L_law_860 rfl) co_M_aim (by decide +kernel) (by decide) (Nat.le_of_ble_eq_true rfl) (Nat.le_of_ble_eq_true rfl) (fun Q' hq => t_M_aim _ _ _ _ hq) hp (fun x13 h12 hp => ?_) (fun E q h3 hp => wx_out (by decide) hp)
  refine wp_istore (l' := [(6, .int x13), (5, .int x9), (0, .ref a1), (1, .ref a2), (2, .ref a3), (3, .ref a4), (4, .int x5)]) d_L_law_863 (by decide) rfl ?_
  refine wp_aload_n d_L_law_865 4 rfl ?_
  refine wp_k hp (fun hk hp => ?_)
  refine wp_ci (M' := mi_M_thrown) (As := [.ref a3]) (st := []) (fr' := 0) (wo' := 0) (dr_sV (A := []) cl_M hk tw_726 tw_727 tw_728 co_M_thrown ⟨by decide, by decide⟩ (by rfl) d_L_law_866 rfl) co_M_thrown (by decide +kernel) (by decide) (Nat.le_of_ble_eq_true rfl) (Nat.le_of_ble_eq_true rfl) (fun Q' hq => t_M_thrown _ _ hq) hp (fun x15 h14 hp => ?_) (fun E q h3 hp => wx_out (by decide) hp)
  refine wp_iload d_L_law_869 1 rfl ?_
  refine wp_icmp_eq (tgt := 876) d_L_law_871 (by decide) hp (fun _ hp => ?_) (fun _ hp => ?_)
  · refine wp_iload d_L_law_876 1 rfl ?_
    refine wp_if_ne (tgt := 893) d_L_law_878 (by decide) hp (fun _ hp => ?_) (fun _ hp => ?_)
    · refine wp_goto (tgt := 1316) d_L_law_893 (by decide) ?_
      exact wp_sub [2, 3, 4, 5, 6] rfl (t_L_law_1316 hr23 _ _ _ _ _ _ hp)
    · refine wp_aload_n d_L_law_881 5 rfl ?_
      refine wp_iconst (v := 0) (by decide) d_L_law_882 ?_
      refine wp_laload d_L_law_883 hp (fun y16 hp => ?_)
      refine wp_iload d_L_law_884 0 rfl ?_
      refine wp_i2l d_L_law_886 ?_
      refine wp_lcmp d_L_law_887 ?_
      refine wp_if_eq (tgt := 893) d_L_law_888 (by decide) hp (fun _ hp => ?_) (fun _ hp => ?_)
      · refine wp_goto (tgt := 1316) d_L_law_893 (by decide) ?_
        exact wp_sub [2, 3, 4, 5, 6] rfl (t_L_law_1316 hr23 _ _ _ _ _ _ hp)
      · refine wp_iconst (v := 0) (by decide) d_L_law_891 ?_
        exact wp_zreturn rfl d_L_law_892 hp
  · refine wp_iconst (v := 0) (by decide) d_L_law_874 ?_
    exact wp_zreturn rfl d_L_law_875 hp
set_option maxRecDepth 100000 in
set_option maxHeartbeats 400000 in
theorem t_L_law_896 {Q : dr_RS → dr_AH → Prop} {rc23 : Nat → Nat → Nat → Nat → Int32 → dr_AH → Option (dr_RS × dr_AH)} (hr23 : ∀ (a1 : Nat) (a2 : Nat) (a3 : Nat) (a4 : Nat) (x5 : Int32) (h : dr_AH), dr_p (rc23 a1 a2 a3 a4 x5 h) Q → dr_W mi_L_law 10 144 23 [(0, .ref a1), (1, .ref a2), (2, .ref a3), (3, .ref a4), (4, .int x5)] [] h Q) : ∀ (a1 : Nat) (a2 : Nat) (a3 : Nat) (a4 : Nat) (x5 : Int32) (h : dr_AH), dr_p (f_L_law_896 rc23 a1 a2 a3 a4 x5 h) Q → dr_W mi_L_law 10 144 896 [(0, .ref a1), (1, .ref a2), (2, .ref a3), (3, .ref a4), (4, .int x5)] [] h Q := by
  intro a1 a2 a3 a4 x5 h hp
  unfold f_L_law_896 at hp
  refine wp_aload_n d_L_law_896 1 rfl ?_
  refine wp_aload_n d_L_law_897 0 rfl ?_
  refine wp_iload d_L_law_898 4 rfl ?_
  refine wp_iconst (v := 1) (by decide) d_L_law_900 ?_
  refine wp_iadd d_L_law_901 ?_
  refine wp_iaload d_L_law_902 hp (fun x6 hp => ?_)
  refine wp_aload_n d_L_law_903 0 rfl ?_
  refine wp_iload d_L_law_904 4 rfl ?_
  refine wp_iconst (v := 2) (by decide) d_L_law_906 ?_
  refine wp_iadd d_L_law_907 ?_
  refine wp_iaload d_L_law_908 hp (fun x7 hp => ?_)
  refine wp_aload_n d_L_law_909 3 rfl ?_
  refine wp_ci (M' := mi_L_score) (As := [.ref a2, .int x6, .int x7, .ref a4]) (st := []) (fr' := 8) (wo' := 115) (dr_sS (A := [.ref a2, .int x6, .int x7, .ref a4]) tw_542 tw_543 tw_0 co_L_score ⟨by decide, by decide⟩ (by rfl) d_L_law_910 rfl) co_L_score (by decide +kernel) (by decide) (Nat.le_of_ble_eq_true rfl) (Nat.le_of_ble_eq_true rfl) (fun Q' hq => t_L_score _ _ _ _ _ hq) hp (fun x9 h8 hp => ?_) (fun E q h3 hp => wx_out (by decide) hp)
  refine wp_istore (l' := [(5, .int x9), (0, .ref a1), (1, .ref a2), (2, .ref a3), (3, .ref a4), (4, .int x5)]) d_L_law_913 (by decide) rfl ?_
  refine wp_aload_n d_L_law_915 3 rfl ?_
  refine wp_aload_n d_L_law_916 1 rfl ?_
  refine wp_iload d_L_law_917 5 rfl ?_
  refine wp_iconst (v := 1) (by decide) d_L_law_919 ?_
  refine wp_iadd d_L_law_920 ?_
  refine wp_iaload d_L_law_921 hp (fun x10 hp => ?_)
  refine wp_aload_n d_L_law_922 1 rfl ?_
  refine wp_iload d_L_law_923 5 rfl ?_
  refine wp_iconst (v := 2) (by decide) d_L_law_925 ?_
  refine wp_iadd d_L_law_926 ?_
  refine wp_iaload d_L_law_927 hp (fun x11 hp => ?_)
  refine wp_k hp (fun hk hp => ?_)
  refine wp_ci (M' := mi_M_score) (As := [.ref a3, .int x10, .int x11]) (st := []) (fr' := 2) (wo' := 33) (dr_sV (A := [.int x10, .int x11]) cl_M hk tw_867 tw_868 tw_869 co_M_score ⟨by decide, by decide⟩ (by rfl) d_L_law_928 rfl) co_M_score (by decide +kernel) (by decide) (Nat.le_of_ble_eq_true rfl) (Nat.le_of_ble_eq_true rfl) (fun Q' hq => t_M_score _ _ _ _ hq) hp (fun x13 h12 hp => ?_) (fun E q h3 hp => wx_out (by decide) hp)
  refine wp_istore (l' := [(6, .int x13), (5, .int x9), (0, .ref a1), (1, .ref a2), (2, .ref a3), (3, .ref a4), (4, .int x5)]) d_L_law_931 (by decide) rfl ?_
  refine wp_aload_n d_L_law_933 4 rfl ?_
  refine wp_k hp (fun hk hp => ?_)
  refine wp_ci (M' := mi_M_thrown) (As := [.ref a3]) (st := []) (fr' := 0) (wo' := 0) (dr_sV (A := []) cl_M hk tw_726 tw_727 tw_728 co_M_thrown ⟨by decide, by decide⟩ (by rfl) d_L_law_934 rfl) co_M_thrown (by decide +kernel) (by decide) (Nat.le_of_ble_eq_true rfl) (Nat.le_of_ble_eq_true rfl) (fun Q' hq => t_M_thrown _ _ hq) hp (fun x15 h14 hp => ?_) (fun E q h3 hp => wx_out (by decide) hp)
  refine wp_iload d_L_law_937 1 rfl ?_
  refine wp_icmp_eq (tgt := 944) d_L_law_939 (by decide) hp (fun _ hp => ?_) (fun _ hp => ?_)
  · refine wp_iload d_L_law_944 1 rfl ?_
    refine wp_if_ne (tgt := 961) d_L_law_946 (by decide) hp (fun _ hp => ?_) (fun _ hp => ?_)
    · refine wp_goto (tgt := 1316) d_L_law_961 (by decide) ?_
      exact wp_sub [2, 3, 4, 5, 6] rfl (t_L_law_1316 hr23 _ _ _ _ _ _ hp)
    · refine wp_aload_n d_L_law_949 5 rfl ?_
      refine wp_iconst (v := 0) (by decide) d_L_law_950 ?_
      refine wp_laload d_L_law_951 hp (fun y16 hp => ?_)
      refine wp_iload d_L_law_952 0 rfl ?_
      refine wp_i2l d_L_law_954 ?_
      refine wp_lcmp d_L_law_955 ?_
      refine wp_if_eq (tgt := 961) d_L_law_956 (by decide) hp (fun _ hp => ?_) (fun _ hp => ?_)
      · refine wp_goto (tgt := 1316) d_L_law_961 (by decide) ?_
        exact wp_sub [2, 3, 4, 5, 6] rfl (t_L_law_1316 hr23 _ _ _ _ _ _ hp)
      · refine wp_iconst (v := 0) (by decide) d_L_law_959 ?_
        exact wp_zreturn rfl d_L_law_960 hp
  · refine wp_iconst (v := 0) (by decide) d_L_law_942 ?_
    exact wp_zreturn rfl d_L_law_943 hp
set_option maxRecDepth 100000 in
set_option maxHeartbeats 400000 in
theorem t_L_law_964 {Q : dr_RS → dr_AH → Prop} {rc23 : Nat → Nat → Nat → Nat → Int32 → dr_AH → Option (dr_RS × dr_AH)} (hr23 : ∀ (a1 : Nat) (a2 : Nat) (a3 : Nat) (a4 : Nat) (x5 : Int32) (h : dr_AH), dr_p (rc23 a1 a2 a3 a4 x5 h) Q → dr_W mi_L_law 10 144 23 [(0, .ref a1), (1, .ref a2), (2, .ref a3), (3, .ref a4), (4, .int x5)] [] h Q) : ∀ (a1 : Nat) (a2 : Nat) (a3 : Nat) (a4 : Nat) (x5 : Int32) (h : dr_AH), dr_p (f_L_law_964 rc23 a1 a2 a3 a4 x5 h) Q → dr_W mi_L_law 10 144 964 [(0, .ref a1), (1, .ref a2), (2, .ref a3), (3, .ref a4), (4, .int x5)] [] h Q := by
  intro a1 a2 a3 a4 x5 h hp
  unfold f_L_law_964 at hp
  refine wp_aload_n d_L_law_964 1 rfl ?_
  refine wp_aload_n d_L_law_965 0 rfl ?_
  refine wp_iload d_L_law_966 4 rfl ?_
  refine wp_iconst (v := 1) (by decide) d_L_law_968 ?_
  refine wp_iadd d_L_law_969 ?_
  refine wp_iaload d_L_law_970 hp (fun x6 hp => ?_)
  refine wp_aload_n d_L_law_971 0 rfl ?_
  refine wp_iload d_L_law_972 4 rfl ?_
  refine wp_iconst (v := 2) (by decide) d_L_law_974 ?_
  refine wp_iadd d_L_law_975 ?_
  refine wp_iaload d_L_law_976 hp (fun x7 hp => ?_)
  refine wp_aload_n d_L_law_977 3 rfl ?_
  refine wp_ci (M' := mi_L_compare) (As := [.ref a2, .int x6, .int x7, .ref a4]) (st := []) (fr' := 8) (wo' := 117) (dr_sS (A := [.ref a2, .int x6, .int x7, .ref a4]) tw_578 tw_579 tw_0 co_L_compare ⟨by decide, by decide⟩ (by rfl) d_L_law_978 rfl) co_L_compare (by decide +kernel) (by decide) (Nat.le_of_ble_eq_true rfl) (Nat.le_of_ble_eq_true rfl) (fun Q' hq => t_L_compare _ _ _ _ _ hq) hp (fun x9 h8 hp => ?_) (fun E q h3 hp => wx_out (by decide) hp)
  refine wp_istore (l' := [(5, .int x9), (0, .ref a1), (1, .ref a2), (2, .ref a3), (3, .ref a4), (4, .int x5)]) d_L_law_981 (by decide) rfl ?_
  refine wp_aload_n d_L_law_983 3 rfl ?_
  refine wp_aload_n d_L_law_984 1 rfl ?_
  refine wp_iload d_L_law_985 5 rfl ?_
  refine wp_iconst (v := 1) (by decide) d_L_law_987 ?_
  refine wp_iadd d_L_law_988 ?_
  refine wp_iaload d_L_law_989 hp (fun x10 hp => ?_)
  refine wp_aload_n d_L_law_990 1 rfl ?_
  refine wp_iload d_L_law_991 5 rfl ?_
  refine wp_iconst (v := 2) (by decide) d_L_law_993 ?_
  refine wp_iadd d_L_law_994 ?_
  refine wp_iaload d_L_law_995 hp (fun x11 hp => ?_)
  refine wp_k hp (fun hk hp => ?_)
  refine wp_ci (M' := mi_M_compare) (As := [.ref a3, .int x10, .int x11]) (st := []) (fr' := 2) (wo' := 34) (dr_sV (A := [.int x10, .int x11]) cl_M hk tw_871 tw_872 tw_873 co_M_compare ⟨by decide, by decide⟩ (by rfl) d_L_law_996 rfl) co_M_compare (by decide +kernel) (by decide) (Nat.le_of_ble_eq_true rfl) (Nat.le_of_ble_eq_true rfl) (fun Q' hq => t_M_compare _ _ _ _ hq) hp (fun x13 h12 hp => ?_) (fun E q h3 hp => wx_out (by decide) hp)
  refine wp_istore (l' := [(6, .int x13), (5, .int x9), (0, .ref a1), (1, .ref a2), (2, .ref a3), (3, .ref a4), (4, .int x5)]) d_L_law_999 (by decide) rfl ?_
  refine wp_aload_n d_L_law_1001 4 rfl ?_
  refine wp_k hp (fun hk hp => ?_)
  refine wp_ci (M' := mi_M_thrown) (As := [.ref a3]) (st := []) (fr' := 0) (wo' := 0) (dr_sV (A := []) cl_M hk tw_726 tw_727 tw_728 co_M_thrown ⟨by decide, by decide⟩ (by rfl) d_L_law_1002 rfl) co_M_thrown (by decide +kernel) (by decide) (Nat.le_of_ble_eq_true rfl) (Nat.le_of_ble_eq_true rfl) (fun Q' hq => t_M_thrown _ _ hq) hp (fun x15 h14 hp => ?_) (fun E q h3 hp => wx_out (by decide) hp)
  refine wp_iload d_L_law_1005 1 rfl ?_
  refine wp_icmp_eq (tgt := 1012) d_L_law_1007 (by decide) hp (fun _ hp => ?_) (fun _ hp => ?_)
  · refine wp_iload d_L_law_1012 1 rfl ?_
    refine wp_if_ne (tgt := 1029) d_L_law_1014 (by decide) hp (fun _ hp => ?_) (fun _ hp => ?_)
    · refine wp_goto (tgt := 1316) d_L_law_1029 (by decide) ?_
      exact wp_sub [2, 3, 4, 5, 6] rfl (t_L_law_1316 hr23 _ _ _ _ _ _ hp)
    · refine wp_aload_n d_L_law_1017 5 rfl ?_
      refine wp_iconst (v := 0) (by decide) d_L_law_1018 ?_
      refine wp_laload d_L_law_1019 hp (fun y16 hp => ?_)
      refine wp_iload d_L_law_1020 0 rfl ?_
      refine wp_i2l d_L_law_1022 ?_
      refine wp_lcmp d_L_law_1023 ?_
      refine wp_if_eq (tgt := 1029) d_L_law_1024 (by decide) hp (fun _ hp => ?_) (fun _ hp => ?_)
      · refine wp_goto (tgt := 1316) d_L_law_1029 (by decide) ?_
        exact wp_sub [2, 3, 4, 5, 6] rfl (t_L_law_1316 hr23 _ _ _ _ _ _ hp)
      · refine wp_iconst (v := 0) (by decide) d_L_law_1027 ?_
        exact wp_zreturn rfl d_L_law_1028 hp
  · refine wp_iconst (v := 0) (by decide) d_L_law_1010 ?_
    exact wp_zreturn rfl d_L_law_1011 hp
set_option maxRecDepth 100000 in
set_option maxHeartbeats 400000 in
theorem t_L_law_1032 {Q : dr_RS → dr_AH → Prop} {rc23 : Nat → Nat → Nat → Nat → Int32 → dr_AH → Option (dr_RS × dr_AH)} (hr23 : ∀ (a1 : Nat) (a2 : Nat) (a3 : Nat) (a4 : Nat) (x5 : Int32) (h : dr_AH), dr_p (rc23 a1 a2 a3 a4 x5 h) Q → dr_W mi_L_law 10 144 23 [(0, .ref a1), (1, .ref a2), (2, .ref a3), (3, .ref a4), (4, .int x5)] [] h Q) : ∀ (a1 : Nat) (a2 : Nat) (a3 : Nat) (a4 : Nat) (x5 : Int32) (h : dr_AH), dr_p (f_L_law_1032 rc23 a1 a2 a3 a4 x5 h) Q → dr_W mi_L_law 10 144 1032 [(0, .ref a1), (1, .ref a2), (2, .ref a3), (3, .ref a4), (4, .int x5)] [] h Q := by
  intro a1 a2 a3 a4 x5 h hp
  unfold f_L_law_1032 at hp
  refine wp_aload_n d_L_law_1032 1 rfl ?_
  refine wp_aload_n d_L_law_1033 0 rfl ?_
  refine wp_iload d_L_law_1034 4 rfl ?_
  refine wp_iconst (v := 1) (by decide) d_L_law_1036 ?_
  refine wp_iadd d_L_law_1037 ?_
  refine wp_iaload d_L_law_1038 hp (fun x6 hp => ?_)
  refine wp_aload_n d_L_law_1039 0 rfl ?_
  refine wp_iload d_L_law_1040 4 rfl ?_
  refine wp_iconst (v := 2) (by decide) d_L_law_1042 ?_
  refine wp_iadd d_L_law_1043 ?_
  refine wp_iaload d_L_law_1044 hp (fun x7 hp => ?_)
  refine wp_aload_n d_L_law_1045 0 rfl ?_
  refine wp_iload d_L_law_1046 4 rfl ?_
  refine wp_iconst (v := 3) (by decide) d_L_law_1048 ?_
  refine wp_iadd d_L_law_1049 ?_
  refine wp_iaload d_L_law_1050 hp (fun x8 hp => ?_)
  refine wp_aload_n d_L_law_1051 3 rfl ?_
  refine wp_ci (M' := mi_L_observe) (As := [.ref a2, .int x6, .int x7, .int x8, .ref a4]) (st := []) (fr' := 8) (wo' := 116) (dr_sS (A := [.ref a2, .int x6, .int x7, .int x8, .ref a4]) tw_585 tw_586 tw_0 co_L_observe ⟨by decide, by decide⟩ (by rfl) d_L_law_1052 rfl) co_L_observe (by decide +kernel) (by decide) (Nat.le_of_ble_eq_true rfl) (Nat.le_of_ble_eq_true rfl) (fun Q' hq => t_L_observe _ _ _ _ _ _ hq) hp (fun x10 h9 hp => ?_) (fun E q h3 hp => wx_out (by decide) hp)
  refine wp_istore (l' := [(5, .int x10), (0, .ref a1), (1, .ref a2), (2, .ref a3), (3, .ref a4), (4, .int x5)]) d_L_law_1055 (by decide) rfl ?_
  refine wp_aload_n d_L_law_1057 3 rfl ?_
  refine wp_aload_n d_L_law_1058 1 rfl ?_
  refine wp_iload d_L_law_1059 5 rfl ?_
  refine wp_iconst (v := 1) (by decide) d_L_law_1061 ?_
  refine wp_iadd d_L_law_1062 ?_
  refine wp_iaload d_L_law_1063 hp (fun x11 hp => ?_)
  refine wp_aload_n d_L_law_1064 1 rfl ?_
  refine wp_iload d_L_law_1065 5 rfl ?_
  refine wp_iconst (v := 2) (by decide) d_L_law_1067 ?_
  refine wp_iadd d_L_law_1068 ?_
  refine wp_iaload d_L_law_1069 hp (fun x12 hp => ?_)
  refine wp_aload_n d_L_law_1070 1 rfl ?_
  refine wp_iload d_L_law_1071 5 rfl ?_
  refine wp_iconst (v := 3) (by decide) d_L_law_1073 ?_
  refine wp_iadd d_L_law_1074 ?_
  refine wp_iaload d_L_law_1075 hp (fun x13 hp => ?_)
  refine wp_k hp (fun hk hp => ?_)
  refine wp_ci (M' := mi_M_observe) (As := [.ref a3, .int x11, .int x12, .int x13]) (st := []) (fr' := 2) (wo' := 27) (dr_sV (A := [.int x11, .int x12, .int x13]) cl_M hk tw_875 tw_876 tw_877 co_M_observe ⟨by decide, by decide⟩ (by rfl) d_L_law_1076 rfl) co_M_observe (by decide +kernel) (by decide) (Nat.le_of_ble_eq_true rfl) (Nat.le_of_ble_eq_true rfl) (fun Q' hq => t_M_observe _ _ _ _ _ hq) hp (fun x15 h14 hp => ?_) (fun E q h3 hp => wx_out (by decide) hp)
  refine wp_istore (l' := [(6, .int x15), (5, .int x10), (0, .ref a1), (1, .ref a2), (2, .ref a3), (3, .ref a4), (4, .int x5)]) d_L_law_1079 (by decide) rfl ?_
  refine wp_aload_n d_L_law_1081 4 rfl ?_
  refine wp_k hp (fun hk hp => ?_)
  refine wp_ci (M' := mi_M_thrown) (As := [.ref a3]) (st := []) (fr' := 0) (wo' := 0) (dr_sV (A := []) cl_M hk tw_726 tw_727 tw_728 co_M_thrown ⟨by decide, by decide⟩ (by rfl) d_L_law_1082 rfl) co_M_thrown (by decide +kernel) (by decide) (Nat.le_of_ble_eq_true rfl) (Nat.le_of_ble_eq_true rfl) (fun Q' hq => t_M_thrown _ _ hq) hp (fun x17 h16 hp => ?_) (fun E q h3 hp => wx_out (by decide) hp)
  refine wp_iload d_L_law_1085 1 rfl ?_
  refine wp_icmp_eq (tgt := 1092) d_L_law_1087 (by decide) hp (fun _ hp => ?_) (fun _ hp => ?_)
  · refine wp_iload d_L_law_1092 1 rfl ?_
    refine wp_if_ne (tgt := 1109) d_L_law_1094 (by decide) hp (fun _ hp => ?_) (fun _ hp => ?_)
    · refine wp_goto (tgt := 1316) d_L_law_1109 (by decide) ?_
      exact wp_sub [2, 3, 4, 5, 6] rfl (t_L_law_1316 hr23 _ _ _ _ _ _ hp)
    · refine wp_aload_n d_L_law_1097 5 rfl ?_
      refine wp_iconst (v := 0) (by decide) d_L_law_1098 ?_
      refine wp_laload d_L_law_1099 hp (fun y18 hp => ?_)
      refine wp_iload d_L_law_1100 0 rfl ?_
      refine wp_i2l d_L_law_1102 ?_
      refine wp_lcmp d_L_law_1103 ?_
      refine wp_if_eq (tgt := 1109) d_L_law_1104 (by decide) hp (fun _ hp => ?_) (fun _ hp => ?_)
      · refine wp_goto (tgt := 1316) d_L_law_1109 (by decide) ?_
        exact wp_sub [2, 3, 4, 5, 6] rfl (t_L_law_1316 hr23 _ _ _ _ _ _ hp)
      · refine wp_iconst (v := 0) (by decide) d_L_law_1107 ?_
        exact wp_zreturn rfl d_L_law_1108 hp
  · refine wp_iconst (v := 0) (by decide) d_L_law_1090 ?_
    exact wp_zreturn rfl d_L_law_1091 hp
set_option maxRecDepth 100000 in
set_option maxHeartbeats 400000 in
theorem t_L_law_1112 {Q : dr_RS → dr_AH → Prop} {rc23 : Nat → Nat → Nat → Nat → Int32 → dr_AH → Option (dr_RS × dr_AH)} (hr23 : ∀ (a1 : Nat) (a2 : Nat) (a3 : Nat) (a4 : Nat) (x5 : Int32) (h : dr_AH), dr_p (rc23 a1 a2 a3 a4 x5 h) Q → dr_W mi_L_law 10 144 23 [(0, .ref a1), (1, .ref a2), (2, .ref a3), (3, .ref a4), (4, .int x5)] [] h Q) : ∀ (a1 : Nat) (a2 : Nat) (a3 : Nat) (a4 : Nat) (x5 : Int32) (h : dr_AH), dr_p (f_L_law_1112 rc23 a1 a2 a3 a4 x5 h) Q → dr_W mi_L_law 10 144 1112 [(0, .ref a1), (1, .ref a2), (2, .ref a3), (3, .ref a4), (4, .int x5)] [] h Q := by
  intro a1 a2 a3 a4 x5 h hp
  unfold f_L_law_1112 at hp
  refine wp_aload_n d_L_law_1112 1 rfl ?_
  refine wp_aload_n d_L_law_1113 0 rfl ?_
  refine wp_iload d_L_law_1114 4 rfl ?_
  refine wp_iconst (v := 1) (by decide) d_L_law_1116 ?_
  refine wp_iadd d_L_law_1117 ?_
  refine wp_iaload d_L_law_1118 hp (fun x6 hp => ?_)
  refine wp_aload_n d_L_law_1119 0 rfl ?_
  refine wp_iload d_L_law_1120 4 rfl ?_
  refine wp_iconst (v := 2) (by decide) d_L_law_1122 ?_
  refine wp_iadd d_L_law_1123 ?_
  refine wp_iaload d_L_law_1124 hp (fun x7 hp => ?_)
  refine wp_aload_n d_L_law_1125 3 rfl ?_
  refine wp_ci (M' := mi_L_row) (As := [.ref a2, .int x6, .int x7, .ref a4]) (st := []) (fr' := 7) (wo' := 98) (dr_sS (A := [.ref a2, .int x6, .int x7, .ref a4]) tw_595 tw_596 tw_0 co_L_row ⟨by decide, by decide⟩ (by rfl) d_L_law_1126 rfl) co_L_row (by decide +kernel) (by decide) (Nat.le_of_ble_eq_true rfl) (Nat.le_of_ble_eq_true rfl) (fun Q' hq => t_L_row _ _ _ _ _ hq) hp (fun x9 h8 hp => ?_) (fun E q h3 hp => wx_out (by decide) hp)
  refine wp_istore (l' := [(5, .int x9), (0, .ref a1), (1, .ref a2), (2, .ref a3), (3, .ref a4), (4, .int x5)]) d_L_law_1129 (by decide) rfl ?_
  refine wp_aload_n d_L_law_1131 3 rfl ?_
  refine wp_aload_n d_L_law_1132 1 rfl ?_
  refine wp_iload d_L_law_1133 5 rfl ?_
  refine wp_iconst (v := 1) (by decide) d_L_law_1135 ?_
  refine wp_iadd d_L_law_1136 ?_
  refine wp_iaload d_L_law_1137 hp (fun x10 hp => ?_)
  refine wp_aload_n d_L_law_1138 1 rfl ?_
  refine wp_iload d_L_law_1139 5 rfl ?_
  refine wp_iconst (v := 2) (by decide) d_L_law_1141 ?_
  refine wp_iadd d_L_law_1142 ?_
  refine wp_iaload d_L_law_1143 hp (fun x11 hp => ?_)
  refine wp_k hp (fun hk hp => ?_)
  refine wp_ci (M' := mi_M_row) (As := [.ref a3, .int x10, .int x11]) (st := []) (fr' := 1) (wo' := 15) (dr_sV (A := [.int x10, .int x11]) cl_M hk tw_879 tw_880 tw_881 co_M_row ⟨by decide, by decide⟩ (by rfl) d_L_law_1144 rfl) co_M_row (by decide +kernel) (by decide) (Nat.le_of_ble_eq_true rfl) (Nat.le_of_ble_eq_true rfl) (fun Q' hq => t_M_row _ _ _ _ hq) hp (fun x13 h12 hp => ?_) (fun E q h3 hp => wx_out (by decide) hp)
  refine wp_istore (l' := [(6, .int x13), (5, .int x9), (0, .ref a1), (1, .ref a2), (2, .ref a3), (3, .ref a4), (4, .int x5)]) d_L_law_1147 (by decide) rfl ?_
  refine wp_aload_n d_L_law_1149 4 rfl ?_
  refine wp_k hp (fun hk hp => ?_)
  refine wp_ci (M' := mi_M_thrown) (As := [.ref a3]) (st := []) (fr' := 0) (wo' := 0) (dr_sV (A := []) cl_M hk tw_726 tw_727 tw_728 co_M_thrown ⟨by decide, by decide⟩ (by rfl) d_L_law_1150 rfl) co_M_thrown (by decide +kernel) (by decide) (Nat.le_of_ble_eq_true rfl) (Nat.le_of_ble_eq_true rfl) (fun Q' hq => t_M_thrown _ _ hq) hp (fun x15 h14 hp => ?_) (fun E q h3 hp => wx_out (by decide) hp)
  refine wp_iload d_L_law_1153 1 rfl ?_
  refine wp_icmp_eq (tgt := 1160) d_L_law_1155 (by decide) hp (fun _ hp => ?_) (fun _ hp => ?_)
  · refine wp_iload d_L_law_1160 1 rfl ?_
    refine wp_if_ne (tgt := 1177) d_L_law_1162 (by decide) hp (fun _ hp => ?_) (fun _ hp => ?_)
    · refine wp_goto (tgt := 1316) d_L_law_1177 (by decide) ?_
      exact wp_sub [2, 3, 4, 5, 6] rfl (t_L_law_1316 hr23 _ _ _ _ _ _ hp)
    · refine wp_aload_n d_L_law_1165 5 rfl ?_
      refine wp_iconst (v := 0) (by decide) d_L_law_1166 ?_
      refine wp_laload d_L_law_1167 hp (fun y16 hp => ?_)
      refine wp_iload d_L_law_1168 0 rfl ?_
      refine wp_i2l d_L_law_1170 ?_
      refine wp_lcmp d_L_law_1171 ?_
      refine wp_if_eq (tgt := 1177) d_L_law_1172 (by decide) hp (fun _ hp => ?_) (fun _ hp => ?_)
      · refine wp_goto (tgt := 1316) d_L_law_1177 (by decide) ?_
        exact wp_sub [2, 3, 4, 5, 6] rfl (t_L_law_1316 hr23 _ _ _ _ _ _ hp)
      · refine wp_iconst (v := 0) (by decide) d_L_law_1175 ?_
        exact wp_zreturn rfl d_L_law_1176 hp
  · refine wp_iconst (v := 0) (by decide) d_L_law_1158 ?_
    exact wp_zreturn rfl d_L_law_1159 hp
set_option maxRecDepth 100000 in
set_option maxHeartbeats 400000 in
theorem t_L_law_1180 {Q : dr_RS → dr_AH → Prop} {rc23 : Nat → Nat → Nat → Nat → Int32 → dr_AH → Option (dr_RS × dr_AH)} (hr23 : ∀ (a1 : Nat) (a2 : Nat) (a3 : Nat) (a4 : Nat) (x5 : Int32) (h : dr_AH), dr_p (rc23 a1 a2 a3 a4 x5 h) Q → dr_W mi_L_law 10 144 23 [(0, .ref a1), (1, .ref a2), (2, .ref a3), (3, .ref a4), (4, .int x5)] [] h Q) : ∀ (a1 : Nat) (a2 : Nat) (a3 : Nat) (a4 : Nat) (x5 : Int32) (h : dr_AH), dr_p (f_L_law_1180 rc23 a1 a2 a3 a4 x5 h) Q → dr_W mi_L_law 10 144 1180 [(0, .ref a1), (1, .ref a2), (2, .ref a3), (3, .ref a4), (4, .int x5)] [] h Q := by
  intro a1 a2 a3 a4 x5 h hp
  unfold f_L_law_1180 at hp
  refine wp_aload_n d_L_law_1180 1 rfl ?_
  refine wp_aload_n d_L_law_1181 0 rfl ?_
  refine wp_iload d_L_law_1182 4 rfl ?_
  refine wp_iconst (v := 1) (by decide) d_L_law_1184 ?_
  refine wp_iadd d_L_law_1185 ?_
  refine wp_iaload d_L_law_1186 hp (fun x6 hp => ?_)
  refine wp_aload_n d_L_law_1187 0 rfl ?_
  refine wp_iload d_L_law_1188 4 rfl ?_
  refine wp_iconst (v := 2) (by decide) d_L_law_1190 ?_
  refine wp_iadd d_L_law_1191 ?_
  refine wp_iaload d_L_law_1192 hp (fun x7 hp => ?_)
  refine wp_aload_n d_L_law_1193 3 rfl ?_
  refine wp_ci (M' := mi_L_play) (As := [.ref a2, .int x6, .int x7, .ref a4]) (st := []) (fr' := 9) (wo' := 128) (dr_sS (A := [.ref a2, .int x6, .int x7, .ref a4]) tw_603 tw_604 tw_0 co_L_play ⟨by decide, by decide⟩ (by rfl) d_L_law_1194 rfl) co_L_play (by decide +kernel) (by decide) (Nat.le_of_ble_eq_true rfl) (Nat.le_of_ble_eq_true rfl) (fun Q' hq => t_L_play _ _ _ _ _ hq) hp (fun x9 h8 hp => ?_) (fun E q h3 hp => wx_out (by decide) hp)
  refine wp_istore (l' := [(5, .int x9), (0, .ref a1), (1, .ref a2), (2, .ref a3), (3, .ref a4), (4, .int x5)]) d_L_law_1197 (by decide) rfl ?_
  refine wp_aload_n d_L_law_1199 3 rfl ?_
  refine wp_aload_n d_L_law_1200 1 rfl ?_
  refine wp_iload d_L_law_1201 5 rfl ?_
  refine wp_iconst (v := 1) (by decide) d_L_law_1203 ?_
  refine wp_iadd d_L_law_1204 ?_
  refine wp_iaload d_L_law_1205 hp (fun x10 hp => ?_)
  refine wp_aload_n d_L_law_1206 1 rfl ?_
  refine wp_iload d_L_law_1207 5 rfl ?_
  refine wp_iconst (v := 2) (by decide) d_L_law_1209 ?_
  refine wp_iadd d_L_law_1210 ?_
  refine wp_iaload d_L_law_1211 hp (fun x11 hp => ?_)
  refine wp_k hp (fun hk hp => ?_)
  refine wp_ci (M' := mi_M_play) (As := [.ref a3, .int x10, .int x11]) (st := []) (fr' := 4) (wo' := 62) (dr_sV (A := [.int x10, .int x11]) cl_M hk tw_837 tw_838 tw_839 co_M_play ⟨by decide, by decide⟩ (by rfl) d_L_law_1212 rfl) co_M_play (by decide +kernel) (by decide) (Nat.le_of_ble_eq_true rfl) (Nat.le_of_ble_eq_true rfl) (fun Q' hq => t_M_play _ _ _ _ hq) hp (fun x13 h12 hp => ?_) (fun E q h3 hp => wx_out (by decide) hp)
  refine wp_istore (l' := [(6, .int x13), (5, .int x9), (0, .ref a1), (1, .ref a2), (2, .ref a3), (3, .ref a4), (4, .int x5)]) d_L_law_1215 (by decide) rfl ?_
  refine wp_aload_n d_L_law_1217 4 rfl ?_
  refine wp_k hp (fun hk hp => ?_)
  refine wp_ci (M' := mi_M_thrown) (As := [.ref a3]) (st := []) (fr' := 0) (wo' := 0) (dr_sV (A := []) cl_M hk tw_726 tw_727 tw_728 co_M_thrown ⟨by decide, by decide⟩ (by rfl) d_L_law_1218 rfl) co_M_thrown (by decide +kernel) (by decide) (Nat.le_of_ble_eq_true rfl) (Nat.le_of_ble_eq_true rfl) (fun Q' hq => t_M_thrown _ _ hq) hp (fun x15 h14 hp => ?_) (fun E q h3 hp => wx_out (by decide) hp)
  refine wp_iload d_L_law_1221 1 rfl ?_
  refine wp_icmp_eq (tgt := 1228) d_L_law_1223 (by decide) hp (fun _ hp => ?_) (fun _ hp => ?_)
  · refine wp_iload d_L_law_1228 1 rfl ?_
    refine wp_if_ne (tgt := 1245) d_L_law_1230 (by decide) hp (fun _ hp => ?_) (fun _ hp => ?_)
    · refine wp_goto (tgt := 1316) d_L_law_1245 (by decide) ?_
      exact wp_sub [2, 3, 4, 5, 6] rfl (t_L_law_1316 hr23 _ _ _ _ _ _ hp)
    · refine wp_aload_n d_L_law_1233 5 rfl ?_
      refine wp_iconst (v := 0) (by decide) d_L_law_1234 ?_
      refine wp_laload d_L_law_1235 hp (fun y16 hp => ?_)
      refine wp_iload d_L_law_1236 0 rfl ?_
      refine wp_i2l d_L_law_1238 ?_
      refine wp_lcmp d_L_law_1239 ?_
      refine wp_if_eq (tgt := 1245) d_L_law_1240 (by decide) hp (fun _ hp => ?_) (fun _ hp => ?_)
      · refine wp_goto (tgt := 1316) d_L_law_1245 (by decide) ?_
        exact wp_sub [2, 3, 4, 5, 6] rfl (t_L_law_1316 hr23 _ _ _ _ _ _ hp)
      · refine wp_iconst (v := 0) (by decide) d_L_law_1243 ?_
        exact wp_zreturn rfl d_L_law_1244 hp
  · refine wp_iconst (v := 0) (by decide) d_L_law_1226 ?_
    exact wp_zreturn rfl d_L_law_1227 hp
set_option maxRecDepth 100000 in
set_option maxHeartbeats 400000 in
theorem t_L_law_1248 {Q : dr_RS → dr_AH → Prop} {rc23 : Nat → Nat → Nat → Nat → Int32 → dr_AH → Option (dr_RS × dr_AH)} (hr23 : ∀ (a1 : Nat) (a2 : Nat) (a3 : Nat) (a4 : Nat) (x5 : Int32) (h : dr_AH), dr_p (rc23 a1 a2 a3 a4 x5 h) Q → dr_W mi_L_law 10 144 23 [(0, .ref a1), (1, .ref a2), (2, .ref a3), (3, .ref a4), (4, .int x5)] [] h Q) : ∀ (a1 : Nat) (a2 : Nat) (a3 : Nat) (a4 : Nat) (x5 : Int32) (h : dr_AH), dr_p (f_L_law_1248 rc23 a1 a2 a3 a4 x5 h) Q → dr_W mi_L_law 10 144 1248 [(0, .ref a1), (1, .ref a2), (2, .ref a3), (3, .ref a4), (4, .int x5)] [] h Q := by
  intro a1 a2 a3 a4 x5 h hp
  unfold f_L_law_1248 at hp
  refine wp_aload_n d_L_law_1248 1 rfl ?_
  refine wp_aload_n d_L_law_1249 0 rfl ?_
  refine wp_iload d_L_law_1250 4 rfl ?_
  refine wp_iconst (v := 1) (by decide) d_L_law_1252 ?_
  refine wp_iadd d_L_law_1253 ?_
  refine wp_iaload d_L_law_1254 hp (fun x6 hp => ?_)
  refine wp_aload_n d_L_law_1255 0 rfl ?_
  refine wp_iload d_L_law_1256 4 rfl ?_
  refine wp_iconst (v := 2) (by decide) d_L_law_1258 ?_
  refine wp_iadd d_L_law_1259 ?_
  refine wp_iaload d_L_law_1260 hp (fun x7 hp => ?_)
  refine wp_aload_n d_L_law_1261 3 rfl ?_
  refine wp_ci (M' := mi_L_drill) (As := [.ref a2, .int x6, .int x7, .ref a4]) (st := []) (fr' := 8) (wo' := 113) (dr_sS (A := [.ref a2, .int x6, .int x7, .ref a4]) tw_612 tw_613 tw_0 co_L_drill ⟨by decide, by decide⟩ (by rfl) d_L_law_1262 rfl) co_L_drill (by decide +kernel) (by decide) (Nat.le_of_ble_eq_true rfl) (Nat.le_of_ble_eq_true rfl) (fun Q' hq => t_L_drill _ _ _ _ _ hq) hp (fun x9 h8 hp => ?_) (fun E q h3 hp => wx_out (by decide) hp)
  refine wp_istore (l' := [(5, .int x9), (0, .ref a1), (1, .ref a2), (2, .ref a3), (3, .ref a4), (4, .int x5)]) d_L_law_1265 (by decide) rfl ?_
  refine wp_aload_n d_L_law_1267 3 rfl ?_
  refine wp_aload_n d_L_law_1268 1 rfl ?_
  refine wp_iload d_L_law_1269 5 rfl ?_
  refine wp_iconst (v := 1) (by decide) d_L_law_1271 ?_
  refine wp_iadd d_L_law_1272 ?_
  refine wp_iaload d_L_law_1273 hp (fun x10 hp => ?_)
  refine wp_aload_n d_L_law_1274 1 rfl ?_
  refine wp_iload d_L_law_1275 5 rfl ?_
  refine wp_iconst (v := 2) (by decide) d_L_law_1277 ?_
  refine wp_iadd d_L_law_1278 ?_
  refine wp_iaload d_L_law_1279 hp (fun x11 hp => ?_)
  refine wp_k hp (fun hk hp => ?_)
  refine wp_ci (M' := mi_M_drill) (As := [.ref a3, .int x10, .int x11]) (st := []) (fr' := 2) (wo' := 28) (dr_sV (A := [.int x10, .int x11]) cl_M hk tw_883 tw_884 tw_885 co_M_drill ⟨by decide, by decide⟩ (by rfl) d_L_law_1280 rfl) co_M_drill (by decide +kernel) (by decide) (Nat.le_of_ble_eq_true rfl) (Nat.le_of_ble_eq_true rfl) (fun Q' hq => t_M_drill _ _ _ _ hq) hp (fun x13 h12 hp => ?_) (fun E q h3 hp => wx_out (by decide) hp)
  refine wp_istore (l' := [(6, .int x13), (5, .int x9), (0, .ref a1), (1, .ref a2), (2, .ref a3), (3, .ref a4), (4, .int x5)]) d_L_law_1283 (by decide) rfl ?_
  refine wp_aload_n d_L_law_1285 4 rfl ?_
  refine wp_k hp (fun hk hp => ?_)
  refine wp_ci (M' := mi_M_thrown) (As := [.ref a3]) (st := []) (fr' := 0) (wo' := 0) (dr_sV (A := []) cl_M hk tw_726 tw_727 tw_728 co_M_thrown ⟨by decide, by decide⟩ (by rfl) d_L_law_1286 rfl) co_M_thrown (by decide +kernel) (by decide) (Nat.le_of_ble_eq_true rfl) (Nat.le_of_ble_eq_true rfl) (fun Q' hq => t_M_thrown _ _ hq) hp (fun x15 h14 hp => ?_) (fun E q h3 hp => wx_out (by decide) hp)
  refine wp_iload d_L_law_1289 1 rfl ?_
  refine wp_icmp_eq (tgt := 1296) d_L_law_1291 (by decide) hp (fun _ hp => ?_) (fun _ hp => ?_)
  · refine wp_iload d_L_law_1296 1 rfl ?_
    refine wp_if_ne (tgt := 1313) d_L_law_1298 (by decide) hp (fun _ hp => ?_) (fun _ hp => ?_)
    · refine wp_goto (tgt := 1316) d_L_law_1313 (by decide) ?_
      exact wp_sub [2, 3, 4, 5, 6] rfl (t_L_law_1316 hr23 _ _ _ _ _ _ hp)
    · refine wp_aload_n d_L_law_1301 5 rfl ?_
      refine wp_iconst (v := 0) (by decide) d_L_law_1302 ?_
      refine wp_laload d_L_law_1303 hp (fun y16 hp => ?_)
      refine wp_iload d_L_law_1304 0 rfl ?_
      refine wp_i2l d_L_law_1306 ?_
      refine wp_lcmp d_L_law_1307 ?_
      refine wp_if_eq (tgt := 1313) d_L_law_1308 (by decide) hp (fun _ hp => ?_) (fun _ hp => ?_)
      · refine wp_goto (tgt := 1316) d_L_law_1313 (by decide) ?_
        exact wp_sub [2, 3, 4, 5, 6] rfl (t_L_law_1316 hr23 _ _ _ _ _ _ hp)
      · refine wp_iconst (v := 0) (by decide) d_L_law_1311 ?_
        exact wp_zreturn rfl d_L_law_1312 hp
  · refine wp_iconst (v := 0) (by decide) d_L_law_1294 ?_
    exact wp_zreturn rfl d_L_law_1295 hp
set_option maxRecDepth 100000 in
set_option maxHeartbeats 400000 in
theorem t_L_law_23 {Q : dr_RS → dr_AH → Prop} : ∀ (n : Nat) (a1 : Nat) (a2 : Nat) (a3 : Nat) (a4 : Nat) (x5 : Int32) (h : dr_AH), dr_p (f_L_law_23 n a1 a2 a3 a4 x5 h) Q → dr_W mi_L_law 10 144 23 [(0, .ref a1), (1, .ref a2), (2, .ref a3), (3, .ref a4), (4, .int x5)] [] h Q := by
  intro n
  induction n with
  | zero => intro a1 a2 a3 a4 x5 h hp; exact (dr_p0 hp).elim
  | succ n ih =>
    intro a1 a2 a3 a4 x5 h hp
    unfold f_L_law_23 at hp
    refine wp_iload d_L_law_23 4 rfl ?_
    refine wp_aload_n d_L_law_25 0 rfl ?_
    refine wp_alen (c := 0) (by decide) d_L_law_26 hp (fun x6 hp => ?_)
    refine wp_iconst (v := 4) (by decide) d_L_law_27 ?_
    refine wp_isub d_L_law_28 ?_
    refine wp_icmp_gt (tgt := 1322) d_L_law_29 (by decide) hp (fun _ hp => ?_) (fun _ hp => ?_)
    · refine wp_iconst (v := 1) (by decide) d_L_law_1322 ?_
      exact wp_zreturn rfl d_L_law_1323 hp
    · refine wp_aload_n d_L_law_32 0 rfl ?_
      refine wp_iload d_L_law_33 4 rfl ?_
      refine wp_iaload d_L_law_35 hp (fun x7 hp => ?_)
      refine wp_bipush (v := 31) (by decide) d_L_law_36 ?_
      refine wp_iand d_L_law_38 ?_
      refine wp_sw hp (fun hx hp => ?_) (fun hn0 hp => ?_)
      · refine wp_tin (off := 89) (tgt := 128) hx d_L_law_39 (by decide) (by decide) (by decide) (by decide) ?_
        exact wp_sub [0, 1, 2, 3, 4] rfl (t_L_law_128 ih _ _ _ _ _ _ hp)
      · refine wp_sw hp (fun hx hp => ?_) (fun hn1 hp => ?_)
        · refine wp_tin (off := 189) (tgt := 228) hx d_L_law_39 (by decide) (by decide) (by decide) (by decide) ?_
          exact wp_sub [0, 1, 2, 3, 4] rfl (t_L_law_228 ih _ _ _ _ _ _ hp)
        · refine wp_sw hp (fun hx hp => ?_) (fun hn2 hp => ?_)
          · refine wp_tin (off := 233) (tgt := 272) hx d_L_law_39 (by decide) (by decide) (by decide) (by decide) ?_
            exact wp_sub [0, 1, 2, 3, 4] rfl (t_L_law_272 ih _ _ _ _ _ _ hp)
          · refine wp_sw hp (fun hx hp => ?_) (fun hn3 hp => ?_)
            · refine wp_tin (off := 246) (tgt := 285) hx d_L_law_39 (by decide) (by decide) (by decide) (by decide) ?_
              exact wp_sub [0, 1, 2, 3, 4] rfl (t_L_law_285 ih _ _ _ _ _ _ hp)
            · refine wp_sw hp (fun hx hp => ?_) (fun hn4 hp => ?_)
              · refine wp_tin (off := 290) (tgt := 329) hx d_L_law_39 (by decide) (by decide) (by decide) (by decide) ?_
                exact wp_sub [0, 1, 2, 3, 4] rfl (t_L_law_329 ih _ _ _ _ _ _ hp)
              · refine wp_sw hp (fun hx hp => ?_) (fun hn5 hp => ?_)
                · refine wp_tin (off := 326) (tgt := 365) hx d_L_law_39 (by decide) (by decide) (by decide) (by decide) ?_
                  exact wp_sub [0, 1, 2, 3, 4] rfl (t_L_law_365 ih _ _ _ _ _ _ hp)
                · refine wp_sw hp (fun hx hp => ?_) (fun hn6 hp => ?_)
                  · refine wp_tin (off := 374) (tgt := 413) hx d_L_law_39 (by decide) (by decide) (by decide) (by decide) ?_
                    exact wp_sub [0, 1, 2, 3, 4] rfl (t_L_law_413 ih _ _ _ _ _ _ hp)
                  · refine wp_sw hp (fun hx hp => ?_) (fun hn7 hp => ?_)
                    · refine wp_tin (off := 430) (tgt := 469) hx d_L_law_39 (by decide) (by decide) (by decide) (by decide) ?_
                      exact wp_sub [0, 1, 2, 3, 4] rfl (t_L_law_469 ih _ _ _ _ _ _ hp)
                    · refine wp_sw hp (fun hx hp => ?_) (fun hn8 hp => ?_)
                      · refine wp_tin (off := 498) (tgt := 537) hx d_L_law_39 (by decide) (by decide) (by decide) (by decide) ?_
                        exact wp_sub [0, 1, 2, 3, 4] rfl (t_L_law_537 ih _ _ _ _ _ _ hp)
                      · refine wp_sw hp (fun hx hp => ?_) (fun hn9 hp => ?_)
                        · refine wp_tin (off := 554) (tgt := 593) hx d_L_law_39 (by decide) (by decide) (by decide) (by decide) ?_
                          exact wp_sub [0, 1, 2, 3, 4] rfl (t_L_law_593 ih _ _ _ _ _ _ hp)
                        · refine wp_sw hp (fun hx hp => ?_) (fun hn10 hp => ?_)
                          · refine wp_tin (off := 634) (tgt := 673) hx d_L_law_39 (by decide) (by decide) (by decide) (by decide) ?_
                            exact wp_sub [0, 1, 2, 3, 4] rfl (t_L_law_673 ih _ _ _ _ _ _ hp)
                          · refine wp_sw hp (fun hx hp => ?_) (fun hn11 hp => ?_)
                            · refine wp_tin (off := 714) (tgt := 753) hx d_L_law_39 (by decide) (by decide) (by decide) (by decide) ?_
                              exact wp_sub [0, 1, 2, 3, 4] rfl (t_L_law_753 ih _ _ _ _ _ _ hp)
                            · refine wp_sw hp (fun hx hp => ?_) (fun hn12 hp => ?_)
                              · refine wp_tin (off := 789) (tgt := 828) hx d_L_law_39 (by decide) (by decide) (by decide) (by decide) ?_
                                exact wp_sub [0, 1, 2, 3, 4] rfl (t_L_law_828 ih _ _ _ _ _ _ hp)
                              · refine wp_sw hp (fun hx hp => ?_) (fun hn13 hp => ?_)
                                · refine wp_tin (off := 857) (tgt := 896) hx d_L_law_39 (by decide) (by decide) (by decide) (by decide) ?_
                                  exact wp_sub [0, 1, 2, 3, 4] rfl (t_L_law_896 ih _ _ _ _ _ _ hp)
                                · refine wp_sw hp (fun hx hp => ?_) (fun hn14 hp => ?_)
                                  · refine wp_tin (off := 925) (tgt := 964) hx d_L_law_39 (by decide) (by decide) (by decide) (by decide) ?_
                                    exact wp_sub [0, 1, 2, 3, 4] rfl (t_L_law_964 ih _ _ _ _ _ _ hp)
                                  · refine wp_sw hp (fun hx hp => ?_) (fun hn15 hp => ?_)
                                    · refine wp_tin (off := 993) (tgt := 1032) hx d_L_law_39 (by decide) (by decide) (by decide) (by decide) ?_
                                      exact wp_sub [0, 1, 2, 3, 4] rfl (t_L_law_1032 ih _ _ _ _ _ _ hp)
                                    · refine wp_sw hp (fun hx hp => ?_) (fun hn16 hp => ?_)
                                      · refine wp_tin (off := 1073) (tgt := 1112) hx d_L_law_39 (by decide) (by decide) (by decide) (by decide) ?_
                                        exact wp_sub [0, 1, 2, 3, 4] rfl (t_L_law_1112 ih _ _ _ _ _ _ hp)
                                      · refine wp_sw hp (fun hx hp => ?_) (fun hn17 hp => ?_)
                                        · refine wp_tin (off := 1141) (tgt := 1180) hx d_L_law_39 (by decide) (by decide) (by decide) (by decide) ?_
                                          exact wp_sub [0, 1, 2, 3, 4] rfl (t_L_law_1180 ih _ _ _ _ _ _ hp)
                                        · refine wp_sw hp (fun hx hp => ?_) (fun hn18 hp => ?_)
                                          · refine wp_tin (off := 1209) (tgt := 1248) hx d_L_law_39 (by decide) (by decide) (by decide) (by decide) ?_
                                            exact wp_sub [0, 1, 2, 3, 4] rfl (t_L_law_1248 ih _ _ _ _ _ _ hp)
                                          · refine wp_tableOut (tgt := 1316) d_L_law_39 (by have e0 := lv_neT hn0 (a := 0) (by decide); have e1 := lv_neT hn1 (a := 1) (by decide); have e2 := lv_neT hn2 (a := 2) (by decide); have e3 := lv_neT hn3 (a := 3) (by decide); have e4 := lv_neT hn4 (a := 4) (by decide); have e5 := lv_neT hn5 (a := 5) (by decide); have e6 := lv_neT hn6 (a := 6) (by decide); have e7 := lv_neT hn7 (a := 7) (by decide); have e8 := lv_neT hn8 (a := 8) (by decide); have e9 := lv_neT hn9 (a := 9) (by decide); have e10 := lv_neT hn10 (a := 10) (by decide); have e11 := lv_neT hn11 (a := 11) (by decide); have e12 := lv_neT hn12 (a := 12) (by decide); have e13 := lv_neT hn13 (a := 13) (by decide); have e14 := lv_neT hn14 (a := 14) (by decide); have e15 := lv_neT hn15 (a := 15) (by decide); have e16 := lv_neT hn16 (a := 16) (by decide); have e17 := lv_neT hn17 (a := 17) (by decide); have e18 := lv_neT hn18 (a := 18) (by decide); omega) (by decide) ?_
                                            exact wp_sub [0, 1, 2, 3, 4] rfl (t_L_law_1316 ih _ _ _ _ _ _ hp)
set_option maxRecDepth 100000 in
set_option maxHeartbeats 400000 in
theorem t_L_law {Q : dr_RS → dr_AH → Prop} : ∀ (a1 : Nat) (h : dr_AH), dr_p (f_L_law a1 h) Q → dr_W mi_L_law 10 144 0 [(0, .ref a1)] [] h Q := by
  intro a1 h hp
  unfold f_L_law at hp
  refine wp_new cl_R tw_16 tw_17 tw_1 d_L_law_0 hp (fun a2 h3 hp => ?_)
  refine wp_dup rfl d_L_law_3 ?_
  refine wp_cv (M' := mi_R_init) (As := [.ref a2]) (st := [.ref a2]) (fr' := 2) (wo' := 26) (dr_sI (A := []) rfl tw_18 tw_19 tw_20 ⟨by decide, by decide⟩ (by rfl) d_L_law_4 rfl) co_R_init (by decide +kernel) (by decide) (Nat.le_of_ble_eq_true rfl) (Nat.le_of_ble_eq_true rfl) (fun Q' hq => t_R_init _ _ hq) hp (fun h4 hp => ?_) (fun E q h3 hp => wx_out (by decide) hp)
  refine wp_astore_n (l' := [(1, .ref a2), (0, .ref a1)]) d_L_law_7 (by decide) rfl ?_
  refine wp_new cl_M tw_623 tw_624 tw_5 d_L_law_8 hp (fun a5 h6 hp => ?_)
  refine wp_dup rfl d_L_law_11 ?_
  refine wp_cv (M' := mi_M_init) (As := [.ref a5]) (st := [.ref a5]) (fr' := 1) (wo' := 12) (dr_sI (A := []) rfl tw_625 tw_626 tw_627 ⟨by decide, by decide⟩ (by rfl) d_L_law_12 rfl) co_M_init (by decide +kernel) (by decide) (Nat.le_of_ble_eq_true rfl) (Nat.le_of_ble_eq_true rfl) (fun Q' hq => t_M_init _ _ hq) hp (fun h7 hp => ?_) (fun E q h3 hp => wx_out (by decide) hp)
  refine wp_astore_n (l' := [(2, .ref a5), (1, .ref a2), (0, .ref a1)]) d_L_law_15 (by decide) rfl ?_
  refine wp_iconst (v := 1) (by decide) d_L_law_16 ?_
  refine wp_newJ tw_888 d_L_law_17 hp (fun a8 h9 hp => ?_)
  refine wp_astore_n (l' := [(3, .ref a8), (2, .ref a5), (1, .ref a2), (0, .ref a1)]) d_L_law_19 (by decide) rfl ?_
  refine wp_iconst (v := 0) (by decide) d_L_law_20 ?_
  refine wp_istore (l' := [(4, .int 0), (3, .ref a8), (2, .ref a5), (1, .ref a2), (0, .ref a1)]) d_L_law_21 (by decide) rfl ?_
  exact wp_sub [4, 3, 2, 1, 0] rfl (t_L_law_23 dr_fu _ _ _ _ _ _ hp)
