def f_R_init (a1 : Nat) (h : dr_AH) : Option (dr_RS × dr_AH) :=
  (dr_nw h 2 4 (fun k => defaultValue (nt_T k)) fun a2 h3 => (dr_cv' (f_T_init a2 h3) fun h4 => (dr_pf h4 3 a1 0 (.ref a2) fun h5 => (dr_nw h5 1 13 (fun k => defaultValue (nt_S k)) fun a6 h7 => (dr_cv' (f_S_init a6 h7) fun h8 => (dr_pf h8 3 a1 1 (.ref a6) fun h9 => (dr_nw h9 1 13 (fun k => defaultValue (nt_S k)) fun a10 h11 => (dr_cv' (f_S_init a10 h11) fun h12 => (dr_pf h12 3 a1 2 (.ref a10) fun h13 => (dr_pf h13 3 a1 3 (.int (-1)) fun h14 => (dr_pf h14 3 a1 4 (.int 0) fun h15 => (dr_na h15 10 .null 8 fun a16 h17 => (dr_pf h17 3 a1 5 (.ref a16) fun h18 => (dr_pf h18 3 a1 6 (.int 0) fun h19 => (dr_na h19 0 (.int 0) 20 fun a20 h21 => (dr_pf h21 3 a1 7 (.ref a20) fun h22 => (dr_na h22 0 (.int 0) 400 fun a23 h24 => (dr_pf h24 3 a1 8 (.ref a23) fun h25 => (dr_pf h25 3 a1 9 (.int 0) fun h26 => (dr_gr' h26 3 a1 7 fun a27 => (dr_cv' (f_A_fill a27 (-1) h26) fun h28 => some (.inl none, h28))))))))))))))))))))))
set_option maxRecDepth 100000 in
set_option maxHeartbeats 400000 in
theorem t_R_init {Q : dr_RS → dr_AH → Prop} : ∀ (a1 : Nat) (h : dr_AH), dr_p (f_R_init a1 h) Q → dr_W mi_R_init 2 26 0 [(0, .ref a1)] [] h Q := by
  intro a1 h hp
  unfold f_R_init at hp
  refine wp_aload_n d_R_init_0 0 rfl ?_
  refine wp_objInit tw_21 tw_22 tw_23 (by decide) (Nat.le_of_ble_eq_true rfl) d_R_init_1 ?_
  refine wp_aload_n d_R_init_4 0 rfl ?_
  refine wp_new cl_T tw_24 tw_25 tw_2 d_R_init_5 hp (fun a2 h3 hp => ?_)
  refine wp_dup rfl d_R_init_8 ?_
  refine wp_cv (M' := mi_T_init) (As := [.ref a2]) (st := [.ref a2, .ref a1]) (fr' := 1) (wo' := 12) (dr_sIN (A := []) rfl tw_26 tw_27 tw_28 ⟨by decide, by decide⟩ (by rfl) d_R_init_9 rfl) co_T_init (by decide +kernel) (by decide) (Nat.le_of_ble_eq_true rfl) (Nat.le_of_ble_eq_true rfl) (fun Q' hq => t_T_init _ _ hq) hp (fun h4 hp => ?_) (fun E q h3 hp => wx_out (by decide) hp)
  refine wp_put cl_R fl_R_10 (by decide) (Or.inr ⟨by rfl, by rfl⟩) (by rfl) (by rfl) d_R_init_12 hp (fun h5 hp => ?_)
  refine wp_aload_n d_R_init_15 0 rfl ?_
  refine wp_new cl_S tw_44 tw_45 tw_3 d_R_init_16 hp (fun a6 h7 hp => ?_)
  refine wp_dup rfl d_R_init_19 ?_
  refine wp_cv (M' := mi_S_init) (As := [.ref a6]) (st := [.ref a6, .ref a1]) (fr' := 1) (wo' := 12) (dr_sIN (A := []) rfl tw_46 tw_47 tw_48 ⟨by decide, by decide⟩ (by rfl) d_R_init_20 rfl) co_S_init (by decide +kernel) (by decide) (Nat.le_of_ble_eq_true rfl) (Nat.le_of_ble_eq_true rfl) (fun Q' hq => t_S_init _ _ hq) hp (fun h8 hp => ?_) (fun E q h3 hp => wx_out (by decide) hp)
  refine wp_put cl_R fl_R_19 (by decide) (Or.inl (by rfl)) (by rfl) (by rfl) d_R_init_23 hp (fun h9 hp => ?_)
  refine wp_aload_n d_R_init_26 0 rfl ?_
  refine wp_new cl_S tw_44 tw_45 tw_3 d_R_init_27 hp (fun a10 h11 hp => ?_)
  refine wp_dup rfl d_R_init_30 ?_
  refine wp_cv (M' := mi_S_init) (As := [.ref a10]) (st := [.ref a10, .ref a1]) (fr' := 1) (wo' := 12) (dr_sIN (A := []) rfl tw_46 tw_47 tw_48 ⟨by decide, by decide⟩ (by rfl) d_R_init_31 rfl) co_S_init (by decide +kernel) (by decide) (Nat.le_of_ble_eq_true rfl) (Nat.le_of_ble_eq_true rfl) (fun Q' hq => t_S_init _ _ hq) hp (fun h12 hp => ?_) (fun E q h3 hp => wx_out (by decide) hp)
  refine wp_put cl_R fl_R_23 (by decide) (Or.inl (by rfl)) (by rfl) (by rfl) d_R_init_34 hp (fun h13 hp => ?_)
  refine wp_aload_n d_R_init_37 0 rfl ?_
  refine wp_iconst (v := (-1)) (by decide) d_R_init_38 ?_
  refine wp_put cl_R fl_R_26 (by decide) (Or.inl (by rfl)) (by rfl) (by rfl) d_R_init_39 hp (fun h14 hp => ?_)
  refine wp_aload_n d_R_init_42 0 rfl ?_
  refine wp_iconst (v := 0) (by decide) d_R_init_43 ?_
  refine wp_put cl_R fl_R_30 (by decide) (Or.inl (by rfl)) (by rfl) (by rfl) d_R_init_44 hp (fun h15 hp => ?_)
  refine wp_aload_n d_R_init_47 0 rfl ?_
  refine wp_bipush (v := 8) (by decide) d_R_init_48 ?_
  refine wp_anewarray cl_D (by decide) tw_106 tw_107 d_R_init_50 hp (fun a16 h17 hp => ?_)
  refine wp_put cl_R fl_R_35 (by decide) (Or.inr ⟨by rfl, by rfl⟩) (by rfl) (by rfl) d_R_init_53 hp (fun h18 hp => ?_)
  refine wp_aload_n d_R_init_56 0 rfl ?_
  refine wp_iconst (v := 0) (by decide) d_R_init_57 ?_
  refine wp_put cl_R fl_R_39 (by decide) (Or.inl (by rfl)) (by rfl) (by rfl) d_R_init_58 hp (fun h19 hp => ?_)
  refine wp_aload_n d_R_init_61 0 rfl ?_
  refine wp_bipush (v := 20) (by decide) d_R_init_62 ?_
  refine wp_newI tw_43 d_R_init_64 hp (fun a20 h21 hp => ?_)
  refine wp_put cl_R fl_R_42 (by decide) (Or.inr ⟨by rfl, by rfl⟩) (by rfl) (by rfl) d_R_init_66 hp (fun h22 hp => ?_)
  refine wp_aload_n d_R_init_69 0 rfl ?_
  refine wp_sipush (v := 400) (by decide) d_R_init_70 ?_
  refine wp_newI tw_43 d_R_init_73 hp (fun a23 h24 hp => ?_)
  refine wp_put cl_R fl_R_46 (by decide) (Or.inr ⟨by rfl, by rfl⟩) (by rfl) (by rfl) d_R_init_75 hp (fun h25 hp => ?_)
  refine wp_aload_n d_R_init_78 0 rfl ?_
  refine wp_iconst (v := 0) (by decide) d_R_init_79 ?_
  refine wp_put cl_R fl_R_49 (by decide) (Or.inl (by rfl)) (by rfl) (by rfl) d_R_init_80 hp (fun h26 hp => ?_)
  refine wp_aload_n d_R_init_83 0 rfl ?_
  refine wp_gr cl_R fl_R_42 (by decide) d_R_init_84 hp (fun a27 hp => ?_) (fun hp => (dr_p0 hp).elim)
  refine wp_iconst (v := (-1)) (by decide) d_R_init_87 ?_
  refine wp_cv (M' := mi_A_fill) (As := [.ref a27, .int (-1)]) (st := []) (fr' := 0) (wo' := 0) (dr_sS (A := [.ref a27, .int (-1)]) tw_108 tw_109 tw_4 co_A_fill ⟨by decide, by decide⟩ (by rfl) d_R_init_88 rfl) co_A_fill (by decide +kernel) (by decide) (Nat.le_of_ble_eq_true rfl) (Nat.le_of_ble_eq_true rfl) (fun Q' hq => t_A_fill _ _ _ hq) hp (fun h28 hp => ?_) (fun E q h3 hp => wx_out (by decide) hp)
  exact wp_return rfl d_R_init_91 hp
def f_R_sign (a1 : Nat) (y2 : Int64) (x3 : Int32) (h : dr_AH) : Option (dr_RS × dr_AH) :=
  if x3 < 1 then dr_th h "java/lang/IndexOutOfBoundsException" else if x3 ≤ 8 then (dr_gr' h 3 a1 0 fun a4 => (dr_k h a4 2 (dr_ci' (f_T_hasRoomFor a4 x3 h) fun x6 h5 => if x6 = 0 then dr_th h5 "java/lang/UnsupportedOperationException" else (dr_gr' h5 3 a1 0 fun a7 => (dr_k h5 a7 2 (dr_ci' (f_T_append a7 y2 x3 h5) fun x9 h8 => some (.inl (some (.int x9)), h8))))))) else dr_th h "java/lang/IndexOutOfBoundsException"
set_option maxRecDepth 100000 in
set_option maxHeartbeats 400000 in
theorem t_R_sign {Q : dr_RS → dr_AH → Prop} : ∀ (a1 : Nat) (y2 : Int64) (x3 : Int32) (h : dr_AH), dr_p (f_R_sign a1 y2 x3 h) Q → dr_W mi_R_sign 6 82 0 [(0, .ref a1), (1, .long y2), (3, .int x3)] [] h Q := by
  intro a1 y2 x3 h hp
  unfold f_R_sign at hp
  refine wp_iload_n d_R_sign_0 2 rfl ?_
  refine wp_iconst (v := 1) (by decide) d_R_sign_1 ?_
  refine wp_icmp_lt (tgt := 11) d_R_sign_2 (by decide) hp (fun _ hp => ?_) (fun _ hp => ?_)
  · exact wp_throwS (by decide) (by decide) tw_155 tw_9 tw_198 at_IO d_R_sign_11 d_R_sign_14 d_R_sign_15 d_R_sign_17 d_R_sign_20 (by decide) (by decide) (Nat.le_of_ble_eq_true rfl) hp
  · refine wp_iload_n d_R_sign_5 2 rfl ?_
    refine wp_bipush (v := 8) (by decide) d_R_sign_6 ?_
    refine wp_icmp_le (tgt := 21) d_R_sign_8 (by decide) hp (fun _ hp => ?_) (fun _ hp => ?_)
    · refine wp_aload_n d_R_sign_21 0 rfl ?_
      refine wp_gr cl_R fl_R_10 (by decide) d_R_sign_22 hp (fun a4 hp => ?_) (fun hp => (dr_p0 hp).elim)
      refine wp_iload_n d_R_sign_25 2 rfl ?_
      refine wp_k hp (fun hk hp => ?_)
      refine wp_ci (M' := mi_T_hasRoomFor) (As := [.ref a4, .int x3]) (st := []) (fr' := 0) (wo' := 0) (dr_sV (A := [.int x3]) cl_T hk tw_225 tw_226 tw_227 co_T_hasRoomFor ⟨by decide, by decide⟩ (by rfl) d_R_sign_26 rfl) co_T_hasRoomFor (by decide +kernel) (by decide) (Nat.le_of_ble_eq_true rfl) (Nat.le_of_ble_eq_true rfl) (fun Q' hq => t_T_hasRoomFor _ _ _ hq) hp (fun x6 h5 hp => ?_) (fun E q h3 hp => wx_out (by decide) hp)
      refine wp_if_ne (tgt := 42) d_R_sign_29 (by decide) hp (fun _ hp => ?_) (fun _ hp => ?_)
      · refine wp_aload_n d_R_sign_42 0 rfl ?_
        refine wp_gr cl_R fl_R_10 (by decide) d_R_sign_43 hp (fun a7 hp => ?_) (fun hp => (dr_p0 hp).elim)
        refine wp_lload_n d_R_sign_46 1 rfl ?_
        refine wp_iload_n d_R_sign_47 2 rfl ?_
        refine wp_k hp (fun hk hp => ?_)
        refine wp_ci (M' := mi_T_append) (As := [.ref a7, .long y2, .int x3]) (st := []) (fr' := 0) (wo' := 0) (dr_sV (A := [.long y2, .int x3]) cl_T hk tw_245 tw_246 tw_247 co_T_append ⟨by decide, by decide⟩ (by rfl) d_R_sign_48 rfl) co_T_append (by decide +kernel) (by decide) (Nat.le_of_ble_eq_true rfl) (Nat.le_of_ble_eq_true rfl) (fun Q' hq => t_T_append _ _ _ _ hq) hp (fun x9 h8 hp => ?_) (fun E q h3 hp => wx_out (by decide) hp)
        exact wp_ireturn rfl rfl d_R_sign_51 hp
      · exact wp_throwS (by decide) (by decide) tw_229 tw_10 tw_238 at_UO d_R_sign_32 d_R_sign_35 d_R_sign_36 d_R_sign_38 d_R_sign_41 (by decide) (by decide) (Nat.le_of_ble_eq_true rfl) hp
    · exact wp_throwS (by decide) (by decide) tw_155 tw_9 tw_198 at_IO d_R_sign_11 d_R_sign_14 d_R_sign_15 d_R_sign_17 d_R_sign_20 (by decide) (by decide) (Nat.le_of_ble_eq_true rfl) hp
def f_R_read (a1 : Nat) (h : dr_AH) : Option (dr_RS × dr_AH) :=
  (dr_gr' h 3 a1 0 fun a2 => (dr_gr' h 3 a1 2 fun a3 => (dr_k h a2 2 (dr_ci' (f_T_parseInto a2 a3 h) fun x5 h4 => (dr_pf h4 3 a1 3 (.int x5) fun h6 => (dr_gi h6 3 a1 3 fun x7 => if x7 = (-1) then (dr_gr' h6 3 a1 1 fun a8 => (dr_gr' h6 3 a1 2 fun a9 => (dr_pf h6 3 a1 1 (.ref a9) fun h10 => (dr_gi h10 1 a8 12 fun x11 => if x11 = 0 then (dr_pf h10 3 a1 2 (.ref a8) fun h12 => (dr_gr' h12 3 a1 1 fun a13 => (dr_gi h12 1 a13 7 fun x14 => some (.inl (some (.int x14)), h12)))) else (dr_nw h10 1 13 (fun k => defaultValue (nt_S k)) fun a15 h16 => (dr_cv' (f_S_init a15 h16) fun h17 => (dr_pf h17 3 a1 2 (.ref a15) fun h18 => (dr_gr' h18 3 a1 1 fun a19 => (dr_gi h18 1 a19 7 fun x20 => some (.inl (some (.int x20)), h18)))))))))) else dr_th h6 "java/lang/IllegalStateException"))))))
set_option maxRecDepth 100000 in
set_option maxHeartbeats 400000 in
theorem t_R_read {Q : dr_RS → dr_AH → Prop} : ∀ (a1 : Nat) (h : dr_AH), dr_p (f_R_read a1 h) Q → dr_W mi_R_read 7 98 0 [(0, .ref a1)] [] h Q := by
  intro a1 h hp
  unfold f_R_read at hp
  refine wp_aload_n d_R_read_0 0 rfl ?_
  refine wp_aload_n d_R_read_1 0 rfl ?_
  refine wp_gr cl_R fl_R_10 (by decide) d_R_read_2 hp (fun a2 hp => ?_) (fun hp => (dr_p0 hp).elim)
  refine wp_aload_n d_R_read_5 0 rfl ?_
  refine wp_gr cl_R fl_R_23 (by decide) d_R_read_6 hp (fun a3 hp => ?_) (fun hp => (dr_p0 hp).elim)
  refine wp_k hp (fun hk hp => ?_)
  refine wp_ci (M' := mi_T_parseInto) (As := [.ref a2, .ref a3]) (st := [.ref a1]) (fr' := 6) (wo' := 83) (dr_sV (A := [.ref a3]) cl_T hk tw_257 tw_258 tw_259 co_T_parseInto ⟨by decide, by decide⟩ (by rfl) d_R_read_9 rfl) co_T_parseInto (by decide +kernel) (by decide) (Nat.le_of_ble_eq_true rfl) (Nat.le_of_ble_eq_true rfl) (fun Q' hq => t_T_parseInto _ _ _ hq) hp (fun x5 h4 hp => ?_) (fun E q h3 hp => wx_out (by decide) hp)
  refine wp_put cl_R fl_R_26 (by decide) (Or.inl (by rfl)) (by rfl) (by rfl) d_R_read_12 hp (fun h6 hp => ?_)
  refine wp_aload_n d_R_read_15 0 rfl ?_
  refine wp_gi cl_R fl_R_26 (by decide) d_R_read_16 hp (fun x7 hp => ?_)
  refine wp_iconst (v := (-1)) (by decide) d_R_read_19 ?_
  refine wp_icmp_eq (tgt := 33) d_R_read_20 (by decide) hp (fun _ hp => ?_) (fun _ hp => ?_)
  · refine wp_aload_n d_R_read_33 0 rfl ?_
    refine wp_gr cl_R fl_R_19 (by decide) d_R_read_34 hp (fun a8 hp => ?_) (fun hp => (dr_p0 hp).elim)
    refine wp_astore_n (l' := [(1, .ref a8), (0, .ref a1)]) d_R_read_37 (by decide) rfl ?_
    refine wp_aload_n d_R_read_38 1 rfl ?_
    refine wp_aload_n d_R_read_39 1 rfl ?_
    refine wp_gr cl_R fl_R_23 (by decide) d_R_read_40 hp (fun a9 hp => ?_) (fun hp => (dr_p0 hp).elim)
    refine wp_put cl_R fl_R_19 (by decide) (Or.inl (by rfl)) (by rfl) (by rfl) d_R_read_43 hp (fun h10 hp => ?_)
    refine wp_aload_n d_R_read_46 1 rfl ?_
    refine wp_aload_n d_R_read_47 0 rfl ?_
    refine wp_gi cl_S fl_R_87 (by decide) d_R_read_48 hp (fun x11 hp => ?_)
    refine wp_if_eq (tgt := 64) d_R_read_51 (by decide) hp (fun _ hp => ?_) (fun _ hp => ?_)
    · refine wp_aload_n d_R_read_64 0 rfl ?_
      refine wp_put cl_R fl_R_23 (by decide) (Or.inl (by rfl)) (by rfl) (by rfl) d_R_read_65 hp (fun h12 hp => ?_)
      refine wp_aload_n d_R_read_68 1 rfl ?_
      refine wp_gr cl_R fl_R_19 (by decide) d_R_read_69 hp (fun a13 hp => ?_) (fun hp => (dr_p0 hp).elim)
      refine wp_gi cl_S fl_R_91 (by decide) d_R_read_72 hp (fun x14 hp => ?_)
      exact wp_ireturn rfl rfl d_R_read_75 hp
    · refine wp_new cl_S tw_44 tw_45 tw_3 d_R_read_54 hp (fun a15 h16 hp => ?_)
      refine wp_dup rfl d_R_read_57 ?_
      refine wp_cv (M' := mi_S_init) (As := [.ref a15]) (st := [.ref a15, .ref a1]) (fr' := 1) (wo' := 12) (dr_sIN (A := []) rfl tw_46 tw_47 tw_48 ⟨by decide, by decide⟩ (by rfl) d_R_read_58 rfl) co_S_init (by decide +kernel) (by decide) (Nat.le_of_ble_eq_true rfl) (Nat.le_of_ble_eq_true rfl) (fun Q' hq => t_S_init _ _ hq) hp (fun h17 hp => ?_) (fun E q h3 hp => wx_out (by decide) hp)
      refine wp_goto (tgt := 65) d_R_read_61 (by decide) ?_
      refine wp_put cl_R fl_R_23 (by decide) (Or.inl (by rfl)) (by rfl) (by rfl) d_R_read_65 hp (fun h18 hp => ?_)
      refine wp_aload_n d_R_read_68 1 rfl ?_
      refine wp_gr cl_R fl_R_19 (by decide) d_R_read_69 hp (fun a19 hp => ?_) (fun hp => (dr_p0 hp).elim)
      refine wp_gi cl_S fl_R_91 (by decide) d_R_read_72 hp (fun x20 hp => ?_)
      exact wp_ireturn rfl rfl d_R_read_75 hp
  · exact wp_throwS (by decide) (by decide) tw_325 tw_11 tw_334 at_IS d_R_read_23 d_R_read_26 d_R_read_27 d_R_read_29 d_R_read_32 (by decide) (by decide) (Nat.le_of_ble_eq_true rfl) hp
def f_R_place (a1 : Nat) (h : dr_AH) : Option (dr_RS × dr_AH) :=
  (dr_gi h 3 a1 3 fun x2 => some (.inl (some (.int x2)), h))
set_option maxRecDepth 100000 in
set_option maxHeartbeats 400000 in
theorem t_R_place {Q : dr_RS → dr_AH → Prop} : ∀ (a1 : Nat) (h : dr_AH), dr_p (f_R_place a1 h) Q → dr_W mi_R_place 0 0 0 [(0, .ref a1)] [] h Q := by
  intro a1 h hp
  unfold f_R_place at hp
  refine wp_aload_n d_R_place_0 0 rfl ?_
  refine wp_gi cl_R fl_R_26 (by decide) d_R_place_1 hp (fun x2 hp => ?_)
  exact wp_ireturn rfl rfl d_R_place_4 hp
def f_R_begin (a1 : Nat) (h : dr_AH) : Option (dr_RS × dr_AH) :=
  (dr_gr' h 3 a1 1 fun a2 => (dr_gi h 1 a2 7 fun x3 => if x3 = 0 then dr_th h "java/lang/IllegalStateException" else (dr_gi h 3 a1 6 fun x4 => if x4 < 0 then dr_th h "java/lang/UnsupportedOperationException" else (dr_gi h 3 a1 6 fun x5 => (dr_gr' h 3 a1 5 fun a6 => (dr_ln h 10 a6 fun x7 => if x5 < x7 then (dr_nw h 0 9 (fun k => defaultValue (nt_D k)) fun a8 h9 => (dr_gr' h9 3 a1 1 fun a10 => (dr_gi h9 3 a1 4 fun x11 => (dr_cv' (f_D_init a8 a10 x11 h9) fun h12 => (dr_gr' h12 3 a1 1 fun a13 => (dr_pf h12 1 a13 12 (.int 1) fun h14 => (dr_gr' h14 3 a1 5 fun a15 => (dr_gi h14 3 a1 6 fun x16 => (dr_sr h14 0 a15 x16 a8 fun h17 => (dr_gi h17 3 a1 6 fun x18 => (dr_pf h17 3 a1 6 (.int (x18 + 1)) fun h19 => (dr_gi h19 3 a1 4 fun x20 => (dr_k h19 a8 0 (dr_ci' (f_D_beginDueEvents a8 x20 h19) fun x22 h21 => (dr_gi h21 3 a1 6 fun x23 => some (.inl (some (.int (x23 - 1))), h21)))))))))))))))) else dr_th h "java/lang/UnsupportedOperationException"))))))
set_option maxRecDepth 100000 in
set_option maxHeartbeats 400000 in
theorem t_R_begin {Q : dr_RS → dr_AH → Prop} : ∀ (a1 : Nat) (h : dr_AH), dr_p (f_R_begin a1 h) Q → dr_W mi_R_begin 6 82 0 [(0, .ref a1)] [] h Q := by
  intro a1 h hp
  unfold f_R_begin at hp
  refine wp_aload_n d_R_begin_0 0 rfl ?_
  refine wp_gr cl_R fl_R_19 (by decide) d_R_begin_1 hp (fun a2 hp => ?_) (fun hp => (dr_p0 hp).elim)
  refine wp_gi cl_S fl_R_91 (by decide) d_R_begin_4 hp (fun x3 hp => ?_)
  refine wp_if_ne (tgt := 20) d_R_begin_7 (by decide) hp (fun _ hp => ?_) (fun _ hp => ?_)
  · refine wp_aload_n d_R_begin_20 0 rfl ?_
    refine wp_gi cl_R fl_R_39 (by decide) d_R_begin_21 hp (fun x4 hp => ?_)
    refine wp_if_lt (tgt := 39) d_R_begin_24 (by decide) hp (fun _ hp => ?_) (fun _ hp => ?_)
    · exact wp_throwS (by decide) (by decide) tw_229 tw_10 tw_349 at_UO d_R_begin_39 d_R_begin_42 d_R_begin_43 d_R_begin_45 d_R_begin_48 (by decide) (by decide) (Nat.le_of_ble_eq_true rfl) hp
    · refine wp_aload_n d_R_begin_27 0 rfl ?_
      refine wp_gi cl_R fl_R_39 (by decide) d_R_begin_28 hp (fun x5 hp => ?_)
      refine wp_aload_n d_R_begin_31 0 rfl ?_
      refine wp_gr cl_R fl_R_35 (by decide) d_R_begin_32 hp (fun a6 hp => ?_) (fun hp => (dr_p0 hp).elim)
      refine wp_alen (c := 10) (by decide) d_R_begin_35 hp (fun x7 hp => ?_)
      refine wp_icmp_lt (tgt := 49) d_R_begin_36 (by decide) hp (fun _ hp => ?_) (fun _ hp => ?_)
      · refine wp_new cl_D tw_106 tw_350 tw_12 d_R_begin_49 hp (fun a8 h9 hp => ?_)
        refine wp_dup rfl d_R_begin_52 ?_
        refine wp_aload_n d_R_begin_53 0 rfl ?_
        refine wp_gr cl_R fl_R_19 (by decide) d_R_begin_54 hp (fun a10 hp => ?_) (fun hp => (dr_p0 hp).elim)
        refine wp_aload_n d_R_begin_57 0 rfl ?_
        refine wp_gi cl_R fl_R_30 (by decide) d_R_begin_58 hp (fun x11 hp => ?_)
        refine wp_cv (M' := mi_D_init) (As := [.ref a8, .ref a10, .int x11]) (st := [.ref a8]) (fr' := 1) (wo' := 15) (dr_sI (A := [.ref a10, .int x11]) rfl tw_351 tw_352 tw_353 ⟨by decide, by decide⟩ (by rfl) d_R_begin_61 rfl) co_D_init (by decide +kernel) (by decide) (Nat.le_of_ble_eq_true rfl) (Nat.le_of_ble_eq_true rfl) (fun Q' hq => t_D_init _ _ _ _ hq) hp (fun h12 hp => ?_) (fun E q h3 hp => wx_out (by decide) hp)
        refine wp_astore_n (l' := [(1, .ref a8), (0, .ref a1)]) d_R_begin_64 (by decide) rfl ?_
        refine wp_aload_n d_R_begin_65 1 rfl ?_
        refine wp_gr cl_R fl_R_19 (by decide) d_R_begin_66 hp (fun a13 hp => ?_) (fun hp => (dr_p0 hp).elim)
        refine wp_iconst (v := 1) (by decide) d_R_begin_69 ?_
        refine wp_put cl_S fl_R_87 (by decide) (Or.inl (by rfl)) (by decide) (by decide) d_R_begin_70 hp (fun h14 hp => ?_)
        refine wp_aload_n d_R_begin_73 1 rfl ?_
        refine wp_gr cl_R fl_R_35 (by decide) d_R_begin_74 hp (fun a15 hp => ?_) (fun hp => (dr_p0 hp).elim)
        refine wp_aload_n d_R_begin_77 1 rfl ?_
        refine wp_gi cl_R fl_R_39 (by decide) d_R_begin_78 hp (fun x16 hp => ?_)
        refine wp_aload_n d_R_begin_81 0 rfl ?_
        refine wp_aastore (ci := 0) (by decide) d_R_begin_82 hp (fun h17 hp => ?_)
        refine wp_aload_n d_R_begin_83 1 rfl ?_
        refine wp_dup rfl d_R_begin_84 ?_
        refine wp_gi cl_R fl_R_39 (by decide) d_R_begin_85 hp (fun x18 hp => ?_)
        refine wp_iconst (v := 1) (by decide) d_R_begin_88 ?_
        refine wp_iadd d_R_begin_89 ?_
        refine wp_put cl_R fl_R_39 (by decide) (Or.inl (by rfl)) (by rfl) (by rfl) d_R_begin_90 hp (fun h19 hp => ?_)
        refine wp_aload_n d_R_begin_93 0 rfl ?_
        refine wp_aload_n d_R_begin_94 1 rfl ?_
        refine wp_gi cl_R fl_R_30 (by decide) d_R_begin_95 hp (fun x20 hp => ?_)
        refine wp_k hp (fun hk hp => ?_)
        refine wp_ci (M' := mi_D_beginDueEvents) (As := [.ref a8, .int x20]) (st := []) (fr' := 2) (wo' := 28) (dr_sV (A := [.int x20]) cl_D hk tw_389 tw_390 tw_391 co_D_beginDueEvents ⟨by decide, by decide⟩ (by rfl) d_R_begin_98 rfl) co_D_beginDueEvents (by decide +kernel) (by decide) (Nat.le_of_ble_eq_true rfl) (Nat.le_of_ble_eq_true rfl) (fun Q' hq => t_D_beginDueEvents _ _ _ hq) hp (fun x22 h21 hp => ?_) (fun E q h3 hp => wx_out (by decide) hp)
        refine wp_pop rfl d_R_begin_101 ?_
        refine wp_aload_n d_R_begin_102 1 rfl ?_
        refine wp_gi cl_R fl_R_39 (by decide) d_R_begin_103 hp (fun x23 hp => ?_)
        refine wp_iconst (v := 1) (by decide) d_R_begin_106 ?_
        refine wp_isub d_R_begin_107 ?_
        exact wp_ireturn rfl rfl d_R_begin_108 hp
      · exact wp_throwS (by decide) (by decide) tw_229 tw_10 tw_349 at_UO d_R_begin_39 d_R_begin_42 d_R_begin_43 d_R_begin_45 d_R_begin_48 (by decide) (by decide) (Nat.le_of_ble_eq_true rfl) hp
  · exact wp_throwS (by decide) (by decide) tw_325 tw_11 tw_348 at_IS d_R_begin_10 d_R_begin_13 d_R_begin_14 d_R_begin_16 d_R_begin_19 (by decide) (by decide) (Nat.le_of_ble_eq_true rfl) hp
def f_R_knownDrill (a1 : Nat) (x2 : Int32) (h : dr_AH) : Option (dr_RS × dr_AH) :=
  if x2 < 0 then dr_th h "java/lang/IllegalArgumentException" else (dr_gr' h 3 a1 5 fun a3 => (dr_ln h 10 a3 fun x4 => if x4 ≤ x2 then dr_th h "java/lang/IllegalArgumentException" else (dr_gr' h 3 a1 5 fun a5 => dr_ar h 0 a5 x2 (fun a6 => some (.inl (some (.ref a6)), h)) (dr_th h "java/lang/IllegalArgumentException"))))
set_option maxRecDepth 100000 in
set_option maxHeartbeats 400000 in
theorem t_R_knownDrill {Q : dr_RS → dr_AH → Prop} : ∀ (a1 : Nat) (x2 : Int32) (h : dr_AH), dr_p (f_R_knownDrill a1 x2 h) Q → dr_W mi_R_knownDrill 6 82 0 [(0, .ref a1), (1, .int x2)] [] h Q := by
  intro a1 x2 h hp
  unfold f_R_knownDrill at hp
  refine wp_iload_n d_R_knownDrill_0 1 rfl ?_
  refine wp_if_lt (tgt := 22) d_R_knownDrill_1 (by decide) hp (fun _ hp => ?_) (fun _ hp => ?_)
  · refine wp_null d_R_knownDrill_22 ?_
    refine wp_astore_nN (l' := [(2, .null), (0, .ref a1), (1, .int x2)]) d_R_knownDrill_23 (by decide) rfl ?_
    refine wp_aload_nN d_R_knownDrill_24 0 rfl ?_
    refine wp_ifnonnullN d_R_knownDrill_25 ?_
    exact wp_throwS (by decide) (by decide) tw_421 tw_14 tw_430 at_IA d_R_knownDrill_28 d_R_knownDrill_31 d_R_knownDrill_32 d_R_knownDrill_34 d_R_knownDrill_37 (by decide) (by decide) (Nat.le_of_ble_eq_true rfl) hp
  · refine wp_iload_n d_R_knownDrill_4 1 rfl ?_
    refine wp_aload_n d_R_knownDrill_5 0 rfl ?_
    refine wp_gr cl_R fl_R_35 (by decide) d_R_knownDrill_6 hp (fun a3 hp => ?_) (fun hp => (dr_p0 hp).elim)
    refine wp_alen (c := 10) (by decide) d_R_knownDrill_9 hp (fun x4 hp => ?_)
    refine wp_icmp_ge (tgt := 22) d_R_knownDrill_10 (by decide) hp (fun _ hp => ?_) (fun _ hp => ?_)
    · refine wp_null d_R_knownDrill_22 ?_
      refine wp_astore_nN (l' := [(2, .null), (0, .ref a1), (1, .int x2)]) d_R_knownDrill_23 (by decide) rfl ?_
      refine wp_aload_nN d_R_knownDrill_24 0 rfl ?_
      refine wp_ifnonnullN d_R_knownDrill_25 ?_
      exact wp_throwS (by decide) (by decide) tw_421 tw_14 tw_430 at_IA d_R_knownDrill_28 d_R_knownDrill_31 d_R_knownDrill_32 d_R_knownDrill_34 d_R_knownDrill_37 (by decide) (by decide) (Nat.le_of_ble_eq_true rfl) hp
    · refine wp_aload_n d_R_knownDrill_13 0 rfl ?_
      refine wp_gr cl_R fl_R_35 (by decide) d_R_knownDrill_14 hp (fun a5 hp => ?_) (fun hp => (dr_p0 hp).elim)
      refine wp_iload_n d_R_knownDrill_17 1 rfl ?_
      refine wp_aaload (ci := 0) (by decide) d_R_knownDrill_18 hp (fun a6 hp => ?_) (fun hp => ?_)
      · refine wp_goto (tgt := 23) d_R_knownDrill_19 (by decide) ?_
        refine wp_astore_n (l' := [(2, .ref a6), (0, .ref a1), (1, .int x2)]) d_R_knownDrill_23 (by decide) rfl ?_
        refine wp_aload_n d_R_knownDrill_24 0 rfl ?_
        refine wp_ifnonnull (tgt := 38) d_R_knownDrill_25 (by decide) ?_
        refine wp_aload_n d_R_knownDrill_38 0 rfl ?_
        exact wp_areturn rfl (Or.inl ⟨_, rfl⟩) d_R_knownDrill_39 hp
      · refine wp_goto (tgt := 23) d_R_knownDrill_19 (by decide) ?_
        refine wp_astore_nN (l' := [(2, .null), (0, .ref a1), (1, .int x2)]) d_R_knownDrill_23 (by decide) rfl ?_
        refine wp_aload_nN d_R_knownDrill_24 0 rfl ?_
        refine wp_ifnonnullN d_R_knownDrill_25 ?_
        exact wp_throwS (by decide) (by decide) tw_421 tw_14 tw_430 at_IA d_R_knownDrill_28 d_R_knownDrill_31 d_R_knownDrill_32 d_R_knownDrill_34 d_R_knownDrill_37 (by decide) (by decide) (Nat.le_of_ble_eq_true rfl) hp
def f_R_stop_30 : Nat → Nat → Int32 → Int32 → dr_AH → Option (dr_RS × dr_AH)
  | 0, _, _, _, _ => none
  | n + 1, a1, x2, x3, h => (dr_gr' h 3 a1 7 fun a4 => (dr_ln h 0 a4 fun x5 => if x5 ≤ x3 then some (.inl none, h) else (dr_gr' h 3 a1 7 fun a6 => (dr_ai h a6 x3 fun x7 => if x7 = x2 then (dr_gr' h 3 a1 7 fun a8 => (dr_si h a8 x3 (-1) fun h9 => f_R_stop_30 n a1 x2 (x3 + 1) h9)) else f_R_stop_30 n a1 x2 (x3 + 1) h))))
def f_R_stop (a1 : Nat) (x2 : Int32) (h : dr_AH) : Option (dr_RS × dr_AH) :=
  (dr_k h a1 3 (dr_cr' (f_R_knownDrill a1 x2 h) fun a4 h3 => (dr_gi h3 0 a4 2 fun x5 => if x5 = 0 then dr_th h3 "java/lang/IllegalStateException" else (dr_pf h3 0 a4 2 (.int 0) fun h6 => f_R_stop_30 dr_fu a1 x2 0 h6))))
set_option maxRecDepth 100000 in
set_option maxHeartbeats 400000 in
theorem t_R_stop_30 {Q : dr_RS → dr_AH → Prop} : ∀ (n : Nat) (a1 : Nat) (x2 : Int32) (x3 : Int32) (h : dr_AH), dr_p (f_R_stop_30 n a1 x2 x3 h) Q → dr_W mi_R_stop 7 96 30 [(0, .ref a1), (1, .int x2), (3, .int x3)] [] h Q := by
  intro n
  induction n with
  | zero => intro a1 x2 x3 h hp; exact (dr_p0 hp).elim
  | succ n ih =>
    intro a1 x2 x3 h hp
    unfold f_R_stop_30 at hp
    refine wp_iload_n d_R_stop_30 2 rfl ?_
    refine wp_aload_n d_R_stop_31 0 rfl ?_
    refine wp_gr cl_R fl_R_42 (by decide) d_R_stop_32 hp (fun a4 hp => ?_) (fun hp => (dr_p0 hp).elim)
    refine wp_alen (c := 0) (by decide) d_R_stop_35 hp (fun x5 hp => ?_)
    refine wp_icmp_ge (tgt := 62) d_R_stop_36 (by decide) hp (fun _ hp => ?_) (fun _ hp => ?_)
    · exact wp_return rfl d_R_stop_62 hp
    · refine wp_aload_n d_R_stop_39 0 rfl ?_
      refine wp_gr cl_R fl_R_42 (by decide) d_R_stop_40 hp (fun a6 hp => ?_) (fun hp => (dr_p0 hp).elim)
      refine wp_iload_n d_R_stop_43 2 rfl ?_
      refine wp_iaload d_R_stop_44 hp (fun x7 hp => ?_)
      refine wp_iload_n d_R_stop_45 1 rfl ?_
      refine wp_icmp_ne (tgt := 56) d_R_stop_46 (by decide) hp (fun _ hp => ?_) (fun _ hp => ?_)
      · refine wp_iinc (v := (x3 + 1)) (l' := [(3, .int (x3 + 1)), (0, .ref a1), (1, .int x2)]) d_R_stop_56 2 rfl rfl (by decide) rfl ?_
        refine wp_goto (tgt := 30) d_R_stop_59 (by decide) ?_
        exact wp_sub [1, 2, 0] rfl (ih _ _ _ _ hp)
      · refine wp_aload_n d_R_stop_49 0 rfl ?_
        refine wp_gr cl_R fl_R_42 (by decide) d_R_stop_50 hp (fun a8 hp => ?_) (fun hp => (dr_p0 hp).elim)
        refine wp_iload_n d_R_stop_53 2 rfl ?_
        refine wp_iconst (v := (-1)) (by decide) d_R_stop_54 ?_
        refine wp_iastore d_R_stop_55 hp (fun h9 hp => ?_)
        refine wp_iinc (v := (x3 + 1)) (l' := [(3, .int (x3 + 1)), (0, .ref a1), (1, .int x2)]) d_R_stop_56 2 rfl rfl (by decide) rfl ?_
        refine wp_goto (tgt := 30) d_R_stop_59 (by decide) ?_
        exact wp_sub [1, 2, 0] rfl (ih _ _ _ _ hp)
set_option maxRecDepth 100000 in
set_option maxHeartbeats 400000 in
theorem t_R_stop {Q : dr_RS → dr_AH → Prop} : ∀ (a1 : Nat) (x2 : Int32) (h : dr_AH), dr_p (f_R_stop a1 x2 h) Q → dr_W mi_R_stop 7 96 0 [(0, .ref a1), (1, .int x2)] [] h Q := by
  intro a1 x2 h hp
  unfold f_R_stop at hp
  refine wp_aload_n d_R_stop_0 0 rfl ?_
  refine wp_iload_n d_R_stop_1 1 rfl ?_
  refine wp_k hp (fun hk hp => ?_)
  refine wp_cr (M' := mi_R_knownDrill) (As := [.ref a1, .int x2]) (st := []) (fr' := 6) (wo' := 82) (dr_sV (A := [.int x2]) cl_R hk tw_417 tw_419 tp_12 co_R_knownDrill ⟨by decide, by decide⟩ (by rfl) d_R_stop_2 rfl) co_R_knownDrill (by decide +kernel) (by decide) (Nat.le_of_ble_eq_true rfl) (Nat.le_of_ble_eq_true rfl) (fun Q' hq => t_R_knownDrill _ _ _ hq) hp (fun a4 h3 hp => ?_) (fun E q h3 hp => wx_out (by decide) hp)
  refine wp_astore_n (l' := [(2, .ref a4), (0, .ref a1), (1, .int x2)]) d_R_stop_5 (by decide) rfl ?_
  refine wp_aload_n d_R_stop_6 0 rfl ?_
  refine wp_gi cl_D fl_R_109 (by decide) d_R_stop_7 hp (fun x5 hp => ?_)
  refine wp_if_ne (tgt := 23) d_R_stop_10 (by decide) hp (fun _ hp => ?_) (fun _ hp => ?_)
  · refine wp_aload_n d_R_stop_23 0 rfl ?_
    refine wp_iconst (v := 0) (by decide) d_R_stop_24 ?_
    refine wp_put cl_D fl_R_109 (by decide) (Or.inl (by rfl)) (by decide) (by decide) d_R_stop_25 hp (fun h6 hp => ?_)
    refine wp_iconst (v := 0) (by decide) d_R_stop_28 ?_
    refine wp_istore_n (l' := [(3, .int 0), (2, .ref a4), (0, .ref a1), (1, .int x2)]) d_R_stop_29 (by decide) rfl ?_
    exact wp_sub [2, 3, 0] rfl (t_R_stop_30 dr_fu _ _ _ _ hp)
  · exact wp_throwS (by decide) (by decide) tw_325 tw_11 tw_437 at_IS d_R_stop_13 d_R_stop_16 d_R_stop_17 d_R_stop_19 d_R_stop_22 (by decide) (by decide) (Nat.le_of_ble_eq_true rfl) hp
def f_R_unit (a1 : Nat) (x2 : Int32) (x3 : Int32) (h : dr_AH) : Option (dr_RS × dr_AH) :=
  (dr_k h a1 3 (dr_cr' (f_R_knownDrill a1 x2 h) fun a5 h4 => if x3 < 0 then dr_th h4 "java/lang/IllegalArgumentException" else (dr_gr' h4 3 a1 7 fun a6 => (dr_ln h4 0 a6 fun x7 => if x3 < x7 then (dr_gi h4 0 a5 2 fun x8 => if x8 = 0 then dr_th h4 "java/lang/IllegalStateException" else (dr_gr' h4 3 a1 7 fun a9 => (dr_ai h4 a9 x3 fun x10 => if x10 = (-1) then (dr_gr' h4 3 a1 7 fun a11 => (dr_si h4 a11 x3 x2 fun h12 => some (.inl none, h12))) else dr_th h4 "java/lang/IllegalStateException"))) else dr_th h4 "java/lang/IllegalArgumentException"))))
set_option maxRecDepth 100000 in
set_option maxHeartbeats 400000 in
theorem t_R_unit {Q : dr_RS → dr_AH → Prop} : ∀ (a1 : Nat) (x2 : Int32) (x3 : Int32) (h : dr_AH), dr_p (f_R_unit a1 x2 x3 h) Q → dr_W mi_R_unit 7 96 0 [(0, .ref a1), (1, .int x2), (2, .int x3)] [] h Q := by
  intro a1 x2 x3 h hp
  unfold f_R_unit at hp
  refine wp_aload_n d_R_unit_0 0 rfl ?_
  refine wp_iload_n d_R_unit_1 1 rfl ?_
  refine wp_k hp (fun hk hp => ?_)
  refine wp_cr (M' := mi_R_knownDrill) (As := [.ref a1, .int x2]) (st := []) (fr' := 6) (wo' := 82) (dr_sV (A := [.int x2]) cl_R hk tw_417 tw_419 tp_12 co_R_knownDrill ⟨by decide, by decide⟩ (by rfl) d_R_unit_2 rfl) co_R_knownDrill (by decide +kernel) (by decide) (Nat.le_of_ble_eq_true rfl) (Nat.le_of_ble_eq_true rfl) (fun Q' hq => t_R_knownDrill _ _ _ hq) hp (fun a5 h4 hp => ?_) (fun E q h3 hp => wx_out (by decide) hp)
  refine wp_astore_n (l' := [(3, .ref a5), (0, .ref a1), (1, .int x2), (2, .int x3)]) d_R_unit_5 (by decide) rfl ?_
  refine wp_iload_n d_R_unit_6 3 rfl ?_
  refine wp_if_lt (tgt := 19) d_R_unit_7 (by decide) hp (fun _ hp => ?_) (fun _ hp => ?_)
  · exact wp_throwS (by decide) (by decide) tw_421 tw_14 tw_445 at_IA d_R_unit_19 d_R_unit_22 d_R_unit_23 d_R_unit_25 d_R_unit_28 (by decide) (by decide) (Nat.le_of_ble_eq_true rfl) hp
  · refine wp_iload_n d_R_unit_10 3 rfl ?_
    refine wp_aload_n d_R_unit_11 1 rfl ?_
    refine wp_gr cl_R fl_R_42 (by decide) d_R_unit_12 hp (fun a6 hp => ?_) (fun hp => (dr_p0 hp).elim)
    refine wp_alen (c := 0) (by decide) d_R_unit_15 hp (fun x7 hp => ?_)
    refine wp_icmp_lt (tgt := 29) d_R_unit_16 (by decide) hp (fun _ hp => ?_) (fun _ hp => ?_)
    · refine wp_aload_n d_R_unit_29 0 rfl ?_
      refine wp_gi cl_D fl_R_109 (by decide) d_R_unit_30 hp (fun x8 hp => ?_)
      refine wp_if_eq (tgt := 46) d_R_unit_33 (by decide) hp (fun _ hp => ?_) (fun _ hp => ?_)
      · exact wp_throwS (by decide) (by decide) tw_325 tw_11 tw_446 at_IS d_R_unit_46 d_R_unit_49 d_R_unit_50 d_R_unit_52 d_R_unit_55 (by decide) (by decide) (Nat.le_of_ble_eq_true rfl) hp
      · refine wp_aload_n d_R_unit_36 1 rfl ?_
        refine wp_gr cl_R fl_R_42 (by decide) d_R_unit_37 hp (fun a9 hp => ?_) (fun hp => (dr_p0 hp).elim)
        refine wp_iload_n d_R_unit_40 3 rfl ?_
        refine wp_iaload d_R_unit_41 hp (fun x10 hp => ?_)
        refine wp_iconst (v := (-1)) (by decide) d_R_unit_42 ?_
        refine wp_icmp_eq (tgt := 56) d_R_unit_43 (by decide) hp (fun _ hp => ?_) (fun _ hp => ?_)
        · refine wp_aload_n d_R_unit_56 1 rfl ?_
          refine wp_gr cl_R fl_R_42 (by decide) d_R_unit_57 hp (fun a11 hp => ?_) (fun hp => (dr_p0 hp).elim)
          refine wp_iload_n d_R_unit_60 3 rfl ?_
          refine wp_iload_n d_R_unit_61 2 rfl ?_
          refine wp_iastore d_R_unit_62 hp (fun h12 hp => ?_)
          exact wp_return rfl d_R_unit_63 hp
        · exact wp_throwS (by decide) (by decide) tw_325 tw_11 tw_446 at_IS d_R_unit_46 d_R_unit_49 d_R_unit_50 d_R_unit_52 d_R_unit_55 (by decide) (by decide) (Nat.le_of_ble_eq_true rfl) hp
    · exact wp_throwS (by decide) (by decide) tw_421 tw_14 tw_445 at_IA d_R_unit_19 d_R_unit_22 d_R_unit_23 d_R_unit_25 d_R_unit_28 (by decide) (by decide) (Nat.le_of_ble_eq_true rfl) hp
def f_R_real (a1 : Nat) (x2 : Int32) (h : dr_AH) : Option (dr_RS × dr_AH) :=
  if x2 < 0 then dr_th h "java/lang/IllegalArgumentException" else (dr_gr' h 3 a1 7 fun a3 => (dr_ln h 0 a3 fun x4 => if x2 < x4 then (dr_gr' h 3 a1 7 fun a5 => (dr_ai h a5 x2 fun x6 => (dr_gr' h 3 a1 7 fun a7 => (dr_si h a7 x2 (-1) fun h8 => some (.inl (some (.int x6)), h8))))) else dr_th h "java/lang/IllegalArgumentException"))
set_option maxRecDepth 100000 in
set_option maxHeartbeats 400000 in
theorem t_R_real {Q : dr_RS → dr_AH → Prop} : ∀ (a1 : Nat) (x2 : Int32) (h : dr_AH), dr_p (f_R_real a1 x2 h) Q → dr_W mi_R_real 6 82 0 [(0, .ref a1), (1, .int x2)] [] h Q := by
  intro a1 x2 h hp
  unfold f_R_real at hp
  refine wp_iload_n d_R_real_0 1 rfl ?_
  refine wp_if_lt (tgt := 13) d_R_real_1 (by decide) hp (fun _ hp => ?_) (fun _ hp => ?_)
  · exact wp_throwS (by decide) (by decide) tw_421 tw_14 tw_445 at_IA d_R_real_13 d_R_real_16 d_R_real_17 d_R_real_19 d_R_real_22 (by decide) (by decide) (Nat.le_of_ble_eq_true rfl) hp
  · refine wp_iload_n d_R_real_4 1 rfl ?_
    refine wp_aload_n d_R_real_5 0 rfl ?_
    refine wp_gr cl_R fl_R_42 (by decide) d_R_real_6 hp (fun a3 hp => ?_) (fun hp => (dr_p0 hp).elim)
    refine wp_alen (c := 0) (by decide) d_R_real_9 hp (fun x4 hp => ?_)
    refine wp_icmp_lt (tgt := 23) d_R_real_10 (by decide) hp (fun _ hp => ?_) (fun _ hp => ?_)
    · refine wp_aload_n d_R_real_23 0 rfl ?_
      refine wp_gr cl_R fl_R_42 (by decide) d_R_real_24 hp (fun a5 hp => ?_) (fun hp => (dr_p0 hp).elim)
      refine wp_iload_n d_R_real_27 1 rfl ?_
      refine wp_iaload d_R_real_28 hp (fun x6 hp => ?_)
      refine wp_istore_n (l' := [(2, .int x6), (0, .ref a1), (1, .int x2)]) d_R_real_29 (by decide) rfl ?_
      refine wp_aload_n d_R_real_30 1 rfl ?_
      refine wp_gr cl_R fl_R_42 (by decide) d_R_real_31 hp (fun a7 hp => ?_) (fun hp => (dr_p0 hp).elim)
      refine wp_iload_n d_R_real_34 2 rfl ?_
      refine wp_iconst (v := (-1)) (by decide) d_R_real_35 ?_
      refine wp_iastore d_R_real_36 hp (fun h8 hp => ?_)
      refine wp_iload_n d_R_real_37 0 rfl ?_
      exact wp_ireturn rfl rfl d_R_real_38 hp
    · exact wp_throwS (by decide) (by decide) tw_421 tw_14 tw_445 at_IA d_R_real_13 d_R_real_16 d_R_real_17 d_R_real_19 d_R_real_22 (by decide) (by decide) (Nat.le_of_ble_eq_true rfl) hp
def f_R_act (a1 : Nat) (x2 : Int32) (x3 : Int32) (h : dr_AH) : Option (dr_RS × dr_AH) :=
  (dr_k h a1 3 (dr_cr' (f_R_knownDrill a1 x2 h) fun a5 h4 => if x3 < 0 then dr_th h4 "java/lang/IllegalArgumentException" else if x3 < 20 then (dr_gi h4 0 a5 2 fun x6 => if x6 = 0 then dr_th h4 "java/lang/IllegalStateException" else (dr_k h4 a5 0 (dr_ci' (f_D_hasRoomForAct a5 h4) fun x8 h7 => if x8 = 0 then dr_th h7 "java/lang/UnsupportedOperationException" else (dr_gi h7 3 a1 4 fun x9 => (dr_k h7 a5 0 (dr_cv' (f_D_noteAct a5 x3 x9 h7) fun h10 => (dr_gi h10 3 a1 4 fun x11 => (dr_k h10 a5 0 (dr_ci' (f_D_beginDueEvents a5 x11 h10) fun x13 h12 => some (.inl (some (.int x13)), h12)))))))))) else dr_th h4 "java/lang/IllegalArgumentException"))
set_option maxRecDepth 100000 in
set_option maxHeartbeats 400000 in
theorem t_R_act {Q : dr_RS → dr_AH → Prop} : ∀ (a1 : Nat) (x2 : Int32) (x3 : Int32) (h : dr_AH), dr_p (f_R_act a1 x2 x3 h) Q → dr_W mi_R_act 7 96 0 [(0, .ref a1), (1, .int x2), (2, .int x3)] [] h Q := by
  intro a1 x2 x3 h hp
  unfold f_R_act at hp
  refine wp_aload_n d_R_act_0 0 rfl ?_
  refine wp_iload_n d_R_act_1 1 rfl ?_
  refine wp_k hp (fun hk hp => ?_)
  refine wp_cr (M' := mi_R_knownDrill) (As := [.ref a1, .int x2]) (st := []) (fr' := 6) (wo' := 82) (dr_sV (A := [.int x2]) cl_R hk tw_417 tw_419 tp_12 co_R_knownDrill ⟨by decide, by decide⟩ (by rfl) d_R_act_2 rfl) co_R_knownDrill (by decide +kernel) (by decide) (Nat.le_of_ble_eq_true rfl) (Nat.le_of_ble_eq_true rfl) (fun Q' hq => t_R_knownDrill _ _ _ hq) hp (fun a5 h4 hp => ?_) (fun E q h3 hp => wx_out (by decide) hp)
  refine wp_astore_n (l' := [(3, .ref a5), (0, .ref a1), (1, .int x2), (2, .int x3)]) d_R_act_5 (by decide) rfl ?_
  refine wp_iload_n d_R_act_6 3 rfl ?_
  refine wp_if_lt (tgt := 16) d_R_act_7 (by decide) hp (fun _ hp => ?_) (fun _ hp => ?_)
  · exact wp_throwS (by decide) (by decide) tw_421 tw_14 tw_461 at_IA d_R_act_16 d_R_act_19 d_R_act_20 d_R_act_22 d_R_act_25 (by decide) (by decide) (Nat.le_of_ble_eq_true rfl) hp
  · refine wp_iload_n d_R_act_10 3 rfl ?_
    refine wp_bipush (v := 20) (by decide) d_R_act_11 ?_
    refine wp_icmp_lt (tgt := 26) d_R_act_13 (by decide) hp (fun _ hp => ?_) (fun _ hp => ?_)
    · refine wp_aload_n d_R_act_26 0 rfl ?_
      refine wp_gi cl_D fl_R_109 (by decide) d_R_act_27 hp (fun x6 hp => ?_)
      refine wp_if_ne (tgt := 43) d_R_act_30 (by decide) hp (fun _ hp => ?_) (fun _ hp => ?_)
      · refine wp_aload_n d_R_act_43 0 rfl ?_
        refine wp_k hp (fun hk hp => ?_)
        refine wp_ci (M' := mi_D_hasRoomForAct) (As := [.ref a5]) (st := []) (fr' := 0) (wo' := 0) (dr_sV (A := []) cl_D hk tw_462 tw_463 tw_464 co_D_hasRoomForAct ⟨by decide, by decide⟩ (by rfl) d_R_act_44 rfl) co_D_hasRoomForAct (by decide +kernel) (by decide) (Nat.le_of_ble_eq_true rfl) (Nat.le_of_ble_eq_true rfl) (fun Q' hq => t_D_hasRoomForAct _ _ hq) hp (fun x8 h7 hp => ?_) (fun E q h3 hp => wx_out (by decide) hp)
        refine wp_if_ne (tgt := 60) d_R_act_47 (by decide) hp (fun _ hp => ?_) (fun _ hp => ?_)
        · refine wp_aload_n d_R_act_60 0 rfl ?_
          refine wp_iload_n d_R_act_61 3 rfl ?_
          refine wp_aload_n d_R_act_62 1 rfl ?_
          refine wp_gi cl_R fl_R_30 (by decide) d_R_act_63 hp (fun x9 hp => ?_)
          refine wp_k hp (fun hk hp => ?_)
          refine wp_cv (M' := mi_D_noteAct) (As := [.ref a5, .int x3, .int x9]) (st := []) (fr' := 1) (wo' := 13) (dr_sV (A := [.int x3, .int x9]) cl_D hk tw_467 tw_468 tw_469 co_D_noteAct ⟨by decide, by decide⟩ (by rfl) d_R_act_66 rfl) co_D_noteAct (by decide +kernel) (by decide) (Nat.le_of_ble_eq_true rfl) (Nat.le_of_ble_eq_true rfl) (fun Q' hq => t_D_noteAct _ _ _ _ hq) hp (fun h10 hp => ?_) (fun E q h3 hp => wx_out (by decide) hp)
          refine wp_aload_n d_R_act_69 0 rfl ?_
          refine wp_aload_n d_R_act_70 1 rfl ?_
          refine wp_gi cl_R fl_R_30 (by decide) d_R_act_71 hp (fun x11 hp => ?_)
          refine wp_k hp (fun hk hp => ?_)
          refine wp_ci (M' := mi_D_beginDueEvents) (As := [.ref a5, .int x11]) (st := []) (fr' := 2) (wo' := 28) (dr_sV (A := [.int x11]) cl_D hk tw_389 tw_390 tw_391 co_D_beginDueEvents ⟨by decide, by decide⟩ (by rfl) d_R_act_74 rfl) co_D_beginDueEvents (by decide +kernel) (by decide) (Nat.le_of_ble_eq_true rfl) (Nat.le_of_ble_eq_true rfl) (fun Q' hq => t_D_beginDueEvents _ _ _ hq) hp (fun x13 h12 hp => ?_) (fun E q h3 hp => wx_out (by decide) hp)
          exact wp_ireturn rfl rfl d_R_act_77 hp
        · exact wp_throwS (by decide) (by decide) tw_229 tw_10 tw_466 at_UO d_R_act_50 d_R_act_53 d_R_act_54 d_R_act_56 d_R_act_59 (by decide) (by decide) (Nat.le_of_ble_eq_true rfl) hp
      · exact wp_throwS (by decide) (by decide) tw_325 tw_11 tw_437 at_IS d_R_act_33 d_R_act_36 d_R_act_37 d_R_act_39 d_R_act_42 (by decide) (by decide) (Nat.le_of_ble_eq_true rfl) hp
    · exact wp_throwS (by decide) (by decide) tw_421 tw_14 tw_461 at_IA d_R_act_16 d_R_act_19 d_R_act_20 d_R_act_22 d_R_act_25 (by decide) (by decide) (Nat.le_of_ble_eq_true rfl) hp
def f_R_tick_57 : Nat → Nat → Int32 → Nat → Int32 → Int32 → dr_AH → Option (dr_RS × dr_AH)
  | 0, _, _, _, _, _, _ => none
  | n + 1, a1, x2, a3, x4, x5, h => if x4 ≤ x5 then some (.inl (some (.int x2)), h) else dr_ar h 0 a3 x5 (fun a6 => (dr_gi h 0 a6 2 fun x7 => if x7 = 0 then f_R_tick_57 n a1 x2 a3 x4 (x5 + 1) h else (dr_gi h 3 a1 4 fun x8 => (dr_k h a6 0 (dr_ci' (f_D_beginDueEvents a6 x8 h) fun x10 h9 => f_R_tick_57 n a1 (x2 + x10) a3 x4 (x5 + 1) h9))))) (f_R_tick_57 n a1 x2 a3 x4 (x5 + 1) h)
def f_R_tick (a1 : Nat) (x2 : Int32) (h : dr_AH) : Option (dr_RS × dr_AH) :=
  if x2 < 1 then dr_th h "java/lang/IndexOutOfBoundsException" else if 5000 < x2 then dr_th h "java/lang/IndexOutOfBoundsException" else (dr_gi h 3 a1 4 fun x3 => if (x3 + x2) ≤ 99999 then (dr_gi h 3 a1 4 fun x4 => (dr_pf h 3 a1 4 (.int (x4 + x2)) fun h5 => (dr_gr' h5 3 a1 5 fun a6 => (dr_ln h5 10 a6 fun x7 => f_R_tick_57 dr_fu a1 0 a6 x7 0 h5)))) else dr_th h "java/lang/IndexOutOfBoundsException")
set_option maxRecDepth 100000 in
set_option maxHeartbeats 400000 in
theorem t_R_tick_57 {Q : dr_RS → dr_AH → Prop} : ∀ (n : Nat) (a1 : Nat) (x2 : Int32) (a3 : Nat) (x4 : Int32) (x5 : Int32) (h : dr_AH), dr_p (f_R_tick_57 n a1 x2 a3 x4 x5 h) Q → dr_W mi_R_tick 6 82 57 [(0, .ref a1), (2, .int x2), (3, .ref a3), (4, .int x4), (5, .int x5)] [] h Q := by
  intro n
  induction n with
  | zero => intro a1 x2 a3 x4 x5 h hp; exact (dr_p0 hp).elim
  | succ n ih =>
    intro a1 x2 a3 x4 x5 h hp
    unfold f_R_tick_57 at hp
    refine wp_iload d_R_tick_57 4 rfl ?_
    refine wp_iload d_R_tick_59 3 rfl ?_
    refine wp_icmp_ge (tgt := 101) d_R_tick_61 (by decide) hp (fun _ hp => ?_) (fun _ hp => ?_)
    · refine wp_iload_n d_R_tick_101 1 rfl ?_
      exact wp_ireturn rfl rfl d_R_tick_102 hp
    · refine wp_aload_n d_R_tick_64 2 rfl ?_
      refine wp_iload d_R_tick_65 4 rfl ?_
      refine wp_aaload (ci := 0) (by decide) d_R_tick_67 hp (fun a6 hp => ?_) (fun hp => ?_)
      · refine wp_astore (l' := [(6, .ref a6), (0, .ref a1), (2, .int x2), (3, .ref a3), (4, .int x4), (5, .int x5)]) d_R_tick_68 (by decide) rfl ?_
        refine wp_aload d_R_tick_70 0 rfl ?_
        refine wp_ifnull d_R_tick_72 ?_
        refine wp_aload d_R_tick_75 0 rfl ?_
        refine wp_gi cl_D fl_R_109 (by decide) d_R_tick_77 hp (fun x7 hp => ?_)
        refine wp_if_eq (tgt := 95) d_R_tick_80 (by decide) hp (fun _ hp => ?_) (fun _ hp => ?_)
        · refine wp_iinc (v := (x5 + 1)) (l' := [(5, .int (x5 + 1)), (6, .ref a6), (0, .ref a1), (2, .int x2), (3, .ref a3), (4, .int x4)]) d_R_tick_95 5 rfl rfl (by decide) rfl ?_
          refine wp_goto (tgt := 57) d_R_tick_98 (by decide) ?_
          exact wp_sub [2, 3, 4, 5, 0] rfl (ih _ _ _ _ _ _ hp)
        · refine wp_iload_n d_R_tick_83 2 rfl ?_
          refine wp_aload d_R_tick_84 0 rfl ?_
          refine wp_aload_n d_R_tick_86 1 rfl ?_
          refine wp_gi cl_R fl_R_30 (by decide) d_R_tick_87 hp (fun x8 hp => ?_)
          refine wp_k hp (fun hk hp => ?_)
          refine wp_ci (M' := mi_D_beginDueEvents) (As := [.ref a6, .int x8]) (st := [.int x2]) (fr' := 2) (wo' := 28) (dr_sV (A := [.int x8]) cl_D hk tw_389 tw_390 tw_391 co_D_beginDueEvents ⟨by decide, by decide⟩ (by rfl) d_R_tick_90 rfl) co_D_beginDueEvents (by decide +kernel) (by decide) (Nat.le_of_ble_eq_true rfl) (Nat.le_of_ble_eq_true rfl) (fun Q' hq => t_D_beginDueEvents _ _ _ hq) hp (fun x10 h9 hp => ?_) (fun E q h3 hp => wx_out (by decide) hp)
          refine wp_iadd d_R_tick_93 ?_
          refine wp_istore_n (l' := [(2, .int (x2 + x10)), (6, .ref a6), (0, .ref a1), (3, .ref a3), (4, .int x4), (5, .int x5)]) d_R_tick_94 (by decide) rfl ?_
          refine wp_iinc (v := (x5 + 1)) (l' := [(5, .int (x5 + 1)), (2, .int (x2 + x10)), (6, .ref a6), (0, .ref a1), (3, .ref a3), (4, .int x4)]) d_R_tick_95 5 rfl rfl (by decide) rfl ?_
          refine wp_goto (tgt := 57) d_R_tick_98 (by decide) ?_
          exact wp_sub [3, 1, 4, 5, 0] rfl (ih _ _ _ _ _ _ hp)
      · refine wp_astoreN (l' := [(6, .null), (0, .ref a1), (2, .int x2), (3, .ref a3), (4, .int x4), (5, .int x5)]) d_R_tick_68 (by decide) rfl ?_
        refine wp_aloadN d_R_tick_70 0 rfl ?_
        refine wp_ifnullN (tgt := 95) d_R_tick_72 (by decide) ?_
        refine wp_iinc (v := (x5 + 1)) (l' := [(5, .int (x5 + 1)), (6, .null), (0, .ref a1), (2, .int x2), (3, .ref a3), (4, .int x4)]) d_R_tick_95 5 rfl rfl (by decide) rfl ?_
        refine wp_goto (tgt := 57) d_R_tick_98 (by decide) ?_
        exact wp_sub [2, 3, 4, 5, 0] rfl (ih _ _ _ _ _ _ hp)
set_option maxRecDepth 100000 in
set_option maxHeartbeats 400000 in
theorem t_R_tick {Q : dr_RS → dr_AH → Prop} : ∀ (a1 : Nat) (x2 : Int32) (h : dr_AH), dr_p (f_R_tick a1 x2 h) Q → dr_W mi_R_tick 6 82 0 [(0, .ref a1), (1, .int x2)] [] h Q := by
  intro a1 x2 h hp
  unfold f_R_tick at hp
  refine wp_iload_n d_R_tick_0 1 rfl ?_
  refine wp_iconst (v := 1) (by decide) d_R_tick_1 ?_
  refine wp_icmp_lt (tgt := 23) d_R_tick_2 (by decide) hp (fun _ hp => ?_) (fun _ hp => ?_)
  · exact wp_throwS (by decide) (by decide) tw_155 tw_9 tw_479 at_IO d_R_tick_23 d_R_tick_26 d_R_tick_27 d_R_tick_29 d_R_tick_32 (by decide) (by decide) (Nat.le_of_ble_eq_true rfl) hp
  · refine wp_iload_n d_R_tick_5 1 rfl ?_
    refine wp_sipush (v := 5000) (by decide) d_R_tick_6 ?_
    refine wp_icmp_gt (tgt := 23) d_R_tick_9 (by decide) hp (fun _ hp => ?_) (fun _ hp => ?_)
    · exact wp_throwS (by decide) (by decide) tw_155 tw_9 tw_479 at_IO d_R_tick_23 d_R_tick_26 d_R_tick_27 d_R_tick_29 d_R_tick_32 (by decide) (by decide) (Nat.le_of_ble_eq_true rfl) hp
    · refine wp_aload_n d_R_tick_12 0 rfl ?_
      refine wp_gi cl_R fl_R_30 (by decide) d_R_tick_13 hp (fun x3 hp => ?_)
      refine wp_iload_n d_R_tick_16 1 rfl ?_
      refine wp_iadd d_R_tick_17 ?_
      refine wp_ldc (v := 99999) tw_478 d_R_tick_18 ?_
      refine wp_icmp_le (tgt := 33) d_R_tick_20 (by decide) hp (fun _ hp => ?_) (fun _ hp => ?_)
      · refine wp_aload_n d_R_tick_33 0 rfl ?_
        refine wp_dup rfl d_R_tick_34 ?_
        refine wp_gi cl_R fl_R_30 (by decide) d_R_tick_35 hp (fun x4 hp => ?_)
        refine wp_iload_n d_R_tick_38 1 rfl ?_
        refine wp_iadd d_R_tick_39 ?_
        refine wp_put cl_R fl_R_30 (by decide) (Or.inl (by rfl)) (by rfl) (by rfl) d_R_tick_40 hp (fun h5 hp => ?_)
        refine wp_iconst (v := 0) (by decide) d_R_tick_43 ?_
        refine wp_istore_n (l' := [(2, .int 0), (0, .ref a1), (1, .int x2)]) d_R_tick_44 (by decide) rfl ?_
        refine wp_aload_n d_R_tick_45 1 rfl ?_
        refine wp_gr cl_R fl_R_35 (by decide) d_R_tick_46 hp (fun a6 hp => ?_) (fun hp => (dr_p0 hp).elim)
        refine wp_astore_n (l' := [(3, .ref a6), (2, .int 0), (0, .ref a1), (1, .int x2)]) d_R_tick_49 (by decide) rfl ?_
        refine wp_aload_n d_R_tick_50 0 rfl ?_
        refine wp_alen (c := 10) (by decide) d_R_tick_51 hp (fun x7 hp => ?_)
        refine wp_istore (l' := [(4, .int x7), (3, .ref a6), (2, .int 0), (0, .ref a1), (1, .int x2)]) d_R_tick_52 (by decide) rfl ?_
        refine wp_iconst (v := 0) (by decide) d_R_tick_54 ?_
        refine wp_istore (l' := [(5, .int 0), (4, .int x7), (3, .ref a6), (2, .int 0), (0, .ref a1), (1, .int x2)]) d_R_tick_55 (by decide) rfl ?_
        exact wp_sub [4, 3, 2, 1, 0] rfl (t_R_tick_57 dr_fu _ _ _ _ _ _ hp)
      · exact wp_throwS (by decide) (by decide) tw_155 tw_9 tw_479 at_IO d_R_tick_23 d_R_tick_26 d_R_tick_27 d_R_tick_29 d_R_tick_32 (by decide) (by decide) (Nat.le_of_ble_eq_true rfl) hp
def f_R_event (a1 : Nat) (x2 : Int32) (x3 : Int32) (x4 : Int32) (h : dr_AH) : Option (dr_RS × dr_AH) :=
  (dr_k h a1 3 (dr_cr' (f_R_knownDrill a1 x2 h) fun a6 h5 => (dr_gr' h5 0 a6 0 fun a7 => (dr_k h5 a7 1 (dr_ci' (f_S_hasEvent a7 x3 h5) fun x9 h8 => if x9 = 0 then dr_th h8 "java/lang/IllegalArgumentException" else if x4 = 0 then (dr_k h8 a6 0 (dr_ci' (f_D_beginOf a6 x3 h8) fun x11 h10 => some (.inl (some (.int x11)), h10))) else if x4 = 1 then (dr_gr' h8 0 a6 0 fun a12 => (dr_gr' h8 1 a12 4 fun a13 => (dr_ai h8 a13 x3 fun x14 => some (.inl (some (.int x14)), h8)))) else if x4 = 2 then (dr_gr' h8 0 a6 0 fun a15 => (dr_gr' h8 1 a15 5 fun a16 => (dr_az h8 a16 x3 fun x17 => if x17 = 0 then some (.inl (some (.int 0)), h8) else some (.inl (some (.int 1)), h8)))) else if x4 = 3 then (dr_gr' h8 0 a6 0 fun a18 => (dr_gr' h8 1 a18 6 fun a19 => (dr_ai h8 a19 x3 fun x20 => some (.inl (some (.int x20)), h8)))) else dr_th h8 "java/lang/IllegalArgumentException")))))
set_option maxRecDepth 100000 in
set_option maxHeartbeats 400000 in
theorem t_R_event {Q : dr_RS → dr_AH → Prop} : ∀ (a1 : Nat) (x2 : Int32) (x3 : Int32) (x4 : Int32) (h : dr_AH), dr_p (f_R_event a1 x2 x3 x4 h) Q → dr_W mi_R_event 7 96 0 [(0, .ref a1), (1, .int x2), (2, .int x3), (3, .int x4)] [] h Q := by
  intro a1 x2 x3 x4 h hp
  unfold f_R_event at hp
  refine wp_aload_n d_R_event_0 0 rfl ?_
  refine wp_iload_n d_R_event_1 1 rfl ?_
  refine wp_k hp (fun hk hp => ?_)
  refine wp_cr (M' := mi_R_knownDrill) (As := [.ref a1, .int x2]) (st := []) (fr' := 6) (wo' := 82) (dr_sV (A := [.int x2]) cl_R hk tw_417 tw_419 tp_12 co_R_knownDrill ⟨by decide, by decide⟩ (by rfl) d_R_event_2 rfl) co_R_knownDrill (by decide +kernel) (by decide) (Nat.le_of_ble_eq_true rfl) (Nat.le_of_ble_eq_true rfl) (fun Q' hq => t_R_knownDrill _ _ _ hq) hp (fun a6 h5 hp => ?_) (fun E q h3 hp => wx_out (by decide) hp)
  refine wp_astore (l' := [(4, .ref a6), (0, .ref a1), (1, .int x2), (2, .int x3), (3, .int x4)]) d_R_event_5 (by decide) rfl ?_
  refine wp_aload d_R_event_7 0 rfl ?_
  refine wp_gr cl_D fl_R_136 (by decide) d_R_event_9 hp (fun a7 hp => ?_) (fun hp => (dr_p0 hp).elim)
  refine wp_iload_n d_R_event_12 3 rfl ?_
  refine wp_k hp (fun hk hp => ?_)
  refine wp_ci (M' := mi_S_hasEvent) (As := [.ref a7, .int x3]) (st := []) (fr' := 0) (wo' := 0) (dr_sV (A := [.int x3]) cl_S hk tw_487 tw_298 tw_299 co_S_hasEvent ⟨by decide, by decide⟩ (by rfl) d_R_event_13 rfl) co_S_hasEvent (by decide +kernel) (by decide) (Nat.le_of_ble_eq_true rfl) (Nat.le_of_ble_eq_true rfl) (fun Q' hq => t_S_hasEvent _ _ _ hq) hp (fun x9 h8 hp => ?_) (fun E q h3 hp => wx_out (by decide) hp)
  refine wp_if_ne (tgt := 29) d_R_event_16 (by decide) hp (fun _ hp => ?_) (fun _ hp => ?_)
  · refine wp_iload_n d_R_event_29 4 rfl ?_
    refine wp_sw hp (fun hx hp => ?_) (fun hn0 hp => ?_)
    · refine wp_tin (off := 30) (tgt := 60) hx d_R_event_30 (by decide) (by decide) (by decide) (by decide) ?_
      refine wp_aload d_R_event_60 0 rfl ?_
      refine wp_iload_n d_R_event_62 3 rfl ?_
      refine wp_k hp (fun hk hp => ?_)
      refine wp_ci (M' := mi_D_beginOf) (As := [.ref a6, .int x3]) (st := []) (fr' := 0) (wo' := 0) (dr_sV (A := [.int x3]) cl_D hk tw_489 tw_490 tw_491 co_D_beginOf ⟨by decide, by decide⟩ (by rfl) d_R_event_63 rfl) co_D_beginOf (by decide +kernel) (by decide) (Nat.le_of_ble_eq_true rfl) (Nat.le_of_ble_eq_true rfl) (fun Q' hq => t_D_beginOf _ _ _ hq) hp (fun x11 h10 hp => ?_) (fun E q h3 hp => wx_out (by decide) hp)
      exact wp_ireturn rfl rfl d_R_event_66 hp
    · refine wp_sw hp (fun hx hp => ?_) (fun hn1 hp => ?_)
      · refine wp_tin (off := 37) (tgt := 67) hx d_R_event_30 (by decide) (by decide) (by decide) (by decide) ?_
        refine wp_aload d_R_event_67 0 rfl ?_
        refine wp_gr cl_D fl_R_136 (by decide) d_R_event_69 hp (fun a12 hp => ?_) (fun hp => (dr_p0 hp).elim)
        refine wp_gr cl_S fl_R_145 (by decide) d_R_event_72 hp (fun a13 hp => ?_) (fun hp => (dr_p0 hp).elim)
        refine wp_iload_n d_R_event_75 3 rfl ?_
        refine wp_iaload d_R_event_76 hp (fun x14 hp => ?_)
        exact wp_ireturn rfl rfl d_R_event_77 hp
      · refine wp_sw hp (fun hx hp => ?_) (fun hn2 hp => ?_)
        · refine wp_tin (off := 48) (tgt := 78) hx d_R_event_30 (by decide) (by decide) (by decide) (by decide) ?_
          refine wp_aload d_R_event_78 0 rfl ?_
          refine wp_gr cl_D fl_R_136 (by decide) d_R_event_80 hp (fun a15 hp => ?_) (fun hp => (dr_p0 hp).elim)
          refine wp_gr cl_S fl_R_148 (by decide) d_R_event_83 hp (fun a16 hp => ?_) (fun hp => (dr_p0 hp).elim)
          refine wp_iload_n d_R_event_86 3 rfl ?_
          refine wp_zaload d_R_event_87 hp (fun x17 hp => ?_)
          refine wp_if_eq (tgt := 95) d_R_event_88 (by decide) hp (fun _ hp => ?_) (fun _ hp => ?_)
          · refine wp_iconst (v := 0) (by decide) d_R_event_95 ?_
            exact wp_ireturn rfl rfl d_R_event_96 hp
          · refine wp_iconst (v := 1) (by decide) d_R_event_91 ?_
            refine wp_goto (tgt := 96) d_R_event_92 (by decide) ?_
            exact wp_ireturn rfl rfl d_R_event_96 hp
        · refine wp_sw hp (fun hx hp => ?_) (fun hn3 hp => ?_)
          · refine wp_tin (off := 67) (tgt := 97) hx d_R_event_30 (by decide) (by decide) (by decide) (by decide) ?_
            refine wp_aload d_R_event_97 0 rfl ?_
            refine wp_gr cl_D fl_R_136 (by decide) d_R_event_99 hp (fun a18 hp => ?_) (fun hp => (dr_p0 hp).elim)
            refine wp_gr cl_S fl_R_152 (by decide) d_R_event_102 hp (fun a19 hp => ?_) (fun hp => (dr_p0 hp).elim)
            refine wp_iload_n d_R_event_105 3 rfl ?_
            refine wp_iaload d_R_event_106 hp (fun x20 hp => ?_)
            exact wp_ireturn rfl rfl d_R_event_107 hp
          · refine wp_tableOut (tgt := 108) d_R_event_30 (by have e0 := lv_neT hn0 (a := 0) (by decide); have e1 := lv_neT hn1 (a := 1) (by decide); have e2 := lv_neT hn2 (a := 2) (by decide); have e3 := lv_neT hn3 (a := 3) (by decide); omega) (by decide) ?_
            exact wp_throwS (by decide) (by decide) tw_421 tw_14 tw_493 at_IA d_R_event_108 d_R_event_111 d_R_event_112 d_R_event_114 d_R_event_117 (by decide) (by decide) (Nat.le_of_ble_eq_true rfl) hp
  · exact wp_throwS (by decide) (by decide) tw_421 tw_14 tw_488 at_IA d_R_event_19 d_R_event_22 d_R_event_23 d_R_event_25 d_R_event_28 (by decide) (by decide) (Nat.le_of_ble_eq_true rfl) hp
def f_R_seen (a1 : Nat) (x2 : Int32) (x3 : Int32) (x4 : Int32) (h : dr_AH) : Option (dr_RS × dr_AH) :=
  (dr_k h a1 3 (dr_cr' (f_R_knownDrill a1 x2 h) fun a6 h5 => if x3 < 0 then dr_th h5 "java/lang/IllegalArgumentException" else if x3 ≤ 9 then if 0 ≤ x4 then (dr_k h5 a6 0 (dr_ci' (f_D_eventSeenBy a6 x3 x4 h5) fun x8 h7 => some (.inl (some (.int x8)), h7))) else dr_th h5 "java/lang/IndexOutOfBoundsException" else dr_th h5 "java/lang/IllegalArgumentException"))
set_option maxRecDepth 100000 in
set_option maxHeartbeats 400000 in
theorem t_R_seen {Q : dr_RS → dr_AH → Prop} : ∀ (a1 : Nat) (x2 : Int32) (x3 : Int32) (x4 : Int32) (h : dr_AH), dr_p (f_R_seen a1 x2 x3 x4 h) Q → dr_W mi_R_seen 7 96 0 [(0, .ref a1), (1, .int x2), (2, .int x3), (3, .int x4)] [] h Q := by
  intro a1 x2 x3 x4 h hp
  unfold f_R_seen at hp
  refine wp_aload_n d_R_seen_0 0 rfl ?_
  refine wp_iload_n d_R_seen_1 1 rfl ?_
  refine wp_k hp (fun hk hp => ?_)
  refine wp_cr (M' := mi_R_knownDrill) (As := [.ref a1, .int x2]) (st := []) (fr' := 6) (wo' := 82) (dr_sV (A := [.int x2]) cl_R hk tw_417 tw_419 tp_12 co_R_knownDrill ⟨by decide, by decide⟩ (by rfl) d_R_seen_2 rfl) co_R_knownDrill (by decide +kernel) (by decide) (Nat.le_of_ble_eq_true rfl) (Nat.le_of_ble_eq_true rfl) (fun Q' hq => t_R_knownDrill _ _ _ hq) hp (fun a6 h5 hp => ?_) (fun E q h3 hp => wx_out (by decide) hp)
  refine wp_astore (l' := [(4, .ref a6), (0, .ref a1), (1, .int x2), (2, .int x3), (3, .int x4)]) d_R_seen_5 (by decide) rfl ?_
  refine wp_iload_n d_R_seen_7 3 rfl ?_
  refine wp_if_lt (tgt := 17) d_R_seen_8 (by decide) hp (fun _ hp => ?_) (fun _ hp => ?_)
  · exact wp_throwS (by decide) (by decide) tw_421 tw_14 tw_501 at_IA d_R_seen_17 d_R_seen_20 d_R_seen_21 d_R_seen_23 d_R_seen_26 (by decide) (by decide) (Nat.le_of_ble_eq_true rfl) hp
  · refine wp_iload_n d_R_seen_11 3 rfl ?_
    refine wp_bipush (v := 9) (by decide) d_R_seen_12 ?_
    refine wp_icmp_le (tgt := 27) d_R_seen_14 (by decide) hp (fun _ hp => ?_) (fun _ hp => ?_)
    · refine wp_iload_n d_R_seen_27 4 rfl ?_
      refine wp_if_ge (tgt := 41) d_R_seen_28 (by decide) hp (fun _ hp => ?_) (fun _ hp => ?_)
      · refine wp_aload d_R_seen_41 0 rfl ?_
        refine wp_iload_n d_R_seen_43 3 rfl ?_
        refine wp_iload_n d_R_seen_44 4 rfl ?_
        refine wp_k hp (fun hk hp => ?_)
        refine wp_ci (M' := mi_D_eventSeenBy) (As := [.ref a6, .int x3, .int x4]) (st := []) (fr' := 1) (wo' := 14) (dr_sV (A := [.int x3, .int x4]) cl_D hk tw_503 tw_504 tw_505 co_D_eventSeenBy ⟨by decide, by decide⟩ (by rfl) d_R_seen_45 rfl) co_D_eventSeenBy (by decide +kernel) (by decide) (Nat.le_of_ble_eq_true rfl) (Nat.le_of_ble_eq_true rfl) (fun Q' hq => t_D_eventSeenBy _ _ _ _ hq) hp (fun x8 h7 hp => ?_) (fun E q h3 hp => wx_out (by decide) hp)
        exact wp_ireturn rfl rfl d_R_seen_48 hp
      · exact wp_throwS (by decide) (by decide) tw_155 tw_9 tw_502 at_IO d_R_seen_31 d_R_seen_34 d_R_seen_35 d_R_seen_37 d_R_seen_40 (by decide) (by decide) (Nat.le_of_ble_eq_true rfl) hp
    · exact wp_throwS (by decide) (by decide) tw_421 tw_14 tw_501 at_IA d_R_seen_17 d_R_seen_20 d_R_seen_21 d_R_seen_23 d_R_seen_26 (by decide) (by decide) (Nat.le_of_ble_eq_true rfl) hp
def f_R_fault (a1 : Nat) (x2 : Int32) (x3 : Int32) (h : dr_AH) : Option (dr_RS × dr_AH) :=
  (dr_k h a1 3 (dr_cr' (f_R_knownDrill a1 x2 h) fun a5 h4 => if x3 < 1 then dr_th h4 "java/lang/IllegalArgumentException" else if x3 ≤ 9 then (dr_gi h4 0 a5 2 fun x6 => if x6 = 0 then dr_rz 0 h4 else (dr_k h4 a5 0 (dr_ci' (f_D_hasBegunFault a5 x3 h4) fun x8 h7 => if x8 = 0 then dr_rz 0 h7 else dr_rz 1 h7))) else dr_th h4 "java/lang/IllegalArgumentException"))
set_option maxRecDepth 100000 in
set_option maxHeartbeats 400000 in
theorem t_R_fault {Q : dr_RS → dr_AH → Prop} : ∀ (a1 : Nat) (x2 : Int32) (x3 : Int32) (h : dr_AH), dr_p (f_R_fault a1 x2 x3 h) Q → dr_W mi_R_fault 7 96 0 [(0, .ref a1), (1, .int x2), (2, .int x3)] [] h Q := by
  intro a1 x2 x3 h hp
  unfold f_R_fault at hp
  refine wp_aload_n d_R_fault_0 0 rfl ?_
  refine wp_iload_n d_R_fault_1 1 rfl ?_
  refine wp_k hp (fun hk hp => ?_)
  refine wp_cr (M' := mi_R_knownDrill) (As := [.ref a1, .int x2]) (st := []) (fr' := 6) (wo' := 82) (dr_sV (A := [.int x2]) cl_R hk tw_417 tw_419 tp_12 co_R_knownDrill ⟨by decide, by decide⟩ (by rfl) d_R_fault_2 rfl) co_R_knownDrill (by decide +kernel) (by decide) (Nat.le_of_ble_eq_true rfl) (Nat.le_of_ble_eq_true rfl) (fun Q' hq => t_R_knownDrill _ _ _ hq) hp (fun a5 h4 hp => ?_) (fun E q h3 hp => wx_out (by decide) hp)
  refine wp_astore_n (l' := [(3, .ref a5), (0, .ref a1), (1, .int x2), (2, .int x3)]) d_R_fault_5 (by decide) rfl ?_
  refine wp_iload_n d_R_fault_6 3 rfl ?_
  refine wp_iconst (v := 1) (by decide) d_R_fault_7 ?_
  refine wp_icmp_lt (tgt := 17) d_R_fault_8 (by decide) hp (fun _ hp => ?_) (fun _ hp => ?_)
  · exact wp_throwS (by decide) (by decide) tw_421 tw_14 tw_518 at_IA d_R_fault_17 d_R_fault_20 d_R_fault_21 d_R_fault_23 d_R_fault_26 (by decide) (by decide) (Nat.le_of_ble_eq_true rfl) hp
  · refine wp_iload_n d_R_fault_11 3 rfl ?_
    refine wp_bipush (v := 9) (by decide) d_R_fault_12 ?_
    refine wp_icmp_le (tgt := 27) d_R_fault_14 (by decide) hp (fun _ hp => ?_) (fun _ hp => ?_)
    · refine wp_aload_n d_R_fault_27 0 rfl ?_
      refine wp_gi cl_D fl_R_109 (by decide) d_R_fault_28 hp (fun x6 hp => ?_)
      refine wp_if_eq (tgt := 46) d_R_fault_31 (by decide) hp (fun _ hp => ?_) (fun _ hp => ?_)
      · refine wp_iconst (v := 0) (by decide) d_R_fault_46 ?_
        exact wp_zreturn rfl d_R_fault_47 hp
      · refine wp_aload_n d_R_fault_34 0 rfl ?_
        refine wp_iload_n d_R_fault_35 3 rfl ?_
        refine wp_k hp (fun hk hp => ?_)
        refine wp_ci (M' := mi_D_hasBegunFault) (As := [.ref a5, .int x3]) (st := []) (fr' := 0) (wo' := 0) (dr_sV (A := [.int x3]) cl_D hk tw_519 tw_520 tw_521 co_D_hasBegunFault ⟨by decide, by decide⟩ (by rfl) d_R_fault_36 rfl) co_D_hasBegunFault (by decide +kernel) (by decide) (Nat.le_of_ble_eq_true rfl) (Nat.le_of_ble_eq_true rfl) (fun Q' hq => t_D_hasBegunFault _ _ _ hq) hp (fun x8 h7 hp => ?_) (fun E q h3 hp => wx_out (by decide) hp)
        refine wp_if_eq (tgt := 46) d_R_fault_39 (by decide) hp (fun _ hp => ?_) (fun _ hp => ?_)
        · refine wp_iconst (v := 0) (by decide) d_R_fault_46 ?_
          exact wp_zreturn rfl d_R_fault_47 hp
        · refine wp_iconst (v := 1) (by decide) d_R_fault_42 ?_
          refine wp_goto (tgt := 47) d_R_fault_43 (by decide) ?_
          exact wp_zreturn rfl d_R_fault_47 hp
    · exact wp_throwS (by decide) (by decide) tw_421 tw_14 tw_518 at_IA d_R_fault_17 d_R_fault_20 d_R_fault_21 d_R_fault_23 d_R_fault_26 (by decide) (by decide) (Nat.le_of_ble_eq_true rfl) hp
def f_R_aim (a1 : Nat) (x2 : Int32) (x3 : Int32) (h : dr_AH) : Option (dr_RS × dr_AH) :=
  (dr_k h a1 3 (dr_cr' (f_R_knownDrill a1 x2 h) fun a5 h4 => (dr_gr' h4 0 a5 0 fun a6 => (dr_k h4 a6 1 (dr_ci' (f_S_hasAim a6 x3 h4) fun x8 h7 => if x8 = 0 then dr_th h7 "java/lang/IllegalArgumentException" else (dr_gi h7 3 a1 4 fun x9 => (dr_k h7 a5 0 (dr_ci' (f_D_stateOfAim a5 x3 x9 h7) fun x11 h10 => some (.inl (some (.int x11)), h10)))))))))
set_option maxRecDepth 100000 in
set_option maxHeartbeats 400000 in
theorem t_R_aim {Q : dr_RS → dr_AH → Prop} : ∀ (a1 : Nat) (x2 : Int32) (x3 : Int32) (h : dr_AH), dr_p (f_R_aim a1 x2 x3 h) Q → dr_W mi_R_aim 7 96 0 [(0, .ref a1), (1, .int x2), (2, .int x3)] [] h Q := by
  intro a1 x2 x3 h hp
  unfold f_R_aim at hp
  refine wp_aload_n d_R_aim_0 0 rfl ?_
  refine wp_iload_n d_R_aim_1 1 rfl ?_
  refine wp_k hp (fun hk hp => ?_)
  refine wp_cr (M' := mi_R_knownDrill) (As := [.ref a1, .int x2]) (st := []) (fr' := 6) (wo' := 82) (dr_sV (A := [.int x2]) cl_R hk tw_417 tw_419 tp_12 co_R_knownDrill ⟨by decide, by decide⟩ (by rfl) d_R_aim_2 rfl) co_R_knownDrill (by decide +kernel) (by decide) (Nat.le_of_ble_eq_true rfl) (Nat.le_of_ble_eq_true rfl) (fun Q' hq => t_R_knownDrill _ _ _ hq) hp (fun a5 h4 hp => ?_) (fun E q h3 hp => wx_out (by decide) hp)
  refine wp_astore_n (l' := [(3, .ref a5), (0, .ref a1), (1, .int x2), (2, .int x3)]) d_R_aim_5 (by decide) rfl ?_
  refine wp_aload_n d_R_aim_6 0 rfl ?_
  refine wp_gr cl_D fl_R_136 (by decide) d_R_aim_7 hp (fun a6 hp => ?_) (fun hp => (dr_p0 hp).elim)
  refine wp_iload_n d_R_aim_10 3 rfl ?_
  refine wp_k hp (fun hk hp => ?_)
  refine wp_ci (M' := mi_S_hasAim) (As := [.ref a6, .int x3]) (st := []) (fr' := 0) (wo' := 0) (dr_sV (A := [.int x3]) cl_S hk tw_530 tw_318 tw_319 co_S_hasAim ⟨by decide, by decide⟩ (by rfl) d_R_aim_11 rfl) co_S_hasAim (by decide +kernel) (by decide) (Nat.le_of_ble_eq_true rfl) (Nat.le_of_ble_eq_true rfl) (fun Q' hq => t_S_hasAim _ _ _ hq) hp (fun x8 h7 hp => ?_) (fun E q h3 hp => wx_out (by decide) hp)
  refine wp_if_ne (tgt := 27) d_R_aim_14 (by decide) hp (fun _ hp => ?_) (fun _ hp => ?_)
  · refine wp_aload_n d_R_aim_27 0 rfl ?_
    refine wp_iload_n d_R_aim_28 3 rfl ?_
    refine wp_aload_n d_R_aim_29 1 rfl ?_
    refine wp_gi cl_R fl_R_30 (by decide) d_R_aim_30 hp (fun x9 hp => ?_)
    refine wp_k hp (fun hk hp => ?_)
    refine wp_ci (M' := mi_D_stateOfAim) (As := [.ref a5, .int x3, .int x9]) (st := []) (fr' := 1) (wo' := 16) (dr_sV (A := [.int x3, .int x9]) cl_D hk tw_532 tw_533 tw_534 co_D_stateOfAim ⟨by decide, by decide⟩ (by rfl) d_R_aim_33 rfl) co_D_stateOfAim (by decide +kernel) (by decide) (Nat.le_of_ble_eq_true rfl) (Nat.le_of_ble_eq_true rfl) (fun Q' hq => t_D_stateOfAim _ _ _ _ hq) hp (fun x11 h10 hp => ?_) (fun E q h3 hp => wx_out (by decide) hp)
    exact wp_ireturn rfl rfl d_R_aim_36 hp
  · exact wp_throwS (by decide) (by decide) tw_421 tw_14 tw_531 at_IA d_R_aim_17 d_R_aim_20 d_R_aim_21 d_R_aim_23 d_R_aim_26 (by decide) (by decide) (Nat.le_of_ble_eq_true rfl) hp
def f_R_inLowestTerms_2 : Nat → Int32 → Int32 → Int32 → Int32 → dr_AH → Option (dr_RS × dr_AH)
  | 0, _, _, _, _, _ => none
  | n + 1, x1, x2, x3, x4, h => if x4 ≤ 1 then some (.inl (some (.int x1)), h) else (if (x4 : Int32) = 0 then none else if (x2 - x2 / x4 * x4) = 0 then (if (x4 : Int32) = 0 then none else if (x3 - x3 / x4 * x4) = 0 then (if (x4 : Int32) = 0 then none else some (.inl (some (.int (x1 / x4))), h)) else f_R_inLowestTerms_2 n x1 x2 x3 (x4 + (-1)) h) else f_R_inLowestTerms_2 n x1 x2 x3 (x4 + (-1)) h)
def f_R_inLowestTerms (x1 : Int32) (x2 : Int32) (x3 : Int32) (h : dr_AH) : Option (dr_RS × dr_AH) :=
  f_R_inLowestTerms_2 dr_fu x1 x2 x3 x3 h
set_option maxRecDepth 100000 in
set_option maxHeartbeats 400000 in
theorem t_R_inLowestTerms_2 {Q : dr_RS → dr_AH → Prop} : ∀ (n : Nat) (x1 : Int32) (x2 : Int32) (x3 : Int32) (x4 : Int32) (h : dr_AH), dr_p (f_R_inLowestTerms_2 n x1 x2 x3 x4 h) Q → dr_W mi_R_inLowestTerms 0 0 2 [(0, .int x1), (1, .int x2), (2, .int x3), (3, .int x4)] [] h Q := by
  intro n
  induction n with
  | zero => intro x1 x2 x3 x4 h hp; exact (dr_p0 hp).elim
  | succ n ih =>
    intro x1 x2 x3 x4 h hp
    unfold f_R_inLowestTerms_2 at hp
    refine wp_iload_n d_R_inLowestTerms_2 3 rfl ?_
    refine wp_iconst (v := 1) (by decide) d_R_inLowestTerms_3 ?_
    refine wp_icmp_le (tgt := 29) d_R_inLowestTerms_4 (by decide) hp (fun _ hp => ?_) (fun _ hp => ?_)
    · refine wp_iload_n d_R_inLowestTerms_29 0 rfl ?_
      exact wp_ireturn rfl rfl d_R_inLowestTerms_30 hp
    · refine wp_iload_n d_R_inLowestTerms_7 1 rfl ?_
      refine wp_iload_n d_R_inLowestTerms_8 3 rfl ?_
      refine wp_irem d_R_inLowestTerms_9 hp (fun _ hp => ?_)
      refine wp_if_ne (tgt := 23) d_R_inLowestTerms_10 (by decide) hp (fun _ hp => ?_) (fun _ hp => ?_)
      · refine wp_iinc (v := (x4 + (-1))) (l' := [(3, .int (x4 + (-1))), (0, .int x1), (1, .int x2), (2, .int x3)]) d_R_inLowestTerms_23 3 rfl rfl (by decide) rfl ?_
        refine wp_goto (tgt := 2) d_R_inLowestTerms_26 (by decide) ?_
        exact wp_sub [1, 2, 3, 0] rfl (ih _ _ _ _ _ hp)
      · refine wp_iload_n d_R_inLowestTerms_13 2 rfl ?_
        refine wp_iload_n d_R_inLowestTerms_14 3 rfl ?_
        refine wp_irem d_R_inLowestTerms_15 hp (fun _ hp => ?_)
        refine wp_if_ne (tgt := 23) d_R_inLowestTerms_16 (by decide) hp (fun _ hp => ?_) (fun _ hp => ?_)
        · refine wp_iinc (v := (x4 + (-1))) (l' := [(3, .int (x4 + (-1))), (0, .int x1), (1, .int x2), (2, .int x3)]) d_R_inLowestTerms_23 3 rfl rfl (by decide) rfl ?_
          refine wp_goto (tgt := 2) d_R_inLowestTerms_26 (by decide) ?_
          exact wp_sub [1, 2, 3, 0] rfl (ih _ _ _ _ _ hp)
        · refine wp_iload_n d_R_inLowestTerms_19 0 rfl ?_
          refine wp_iload_n d_R_inLowestTerms_20 3 rfl ?_
          refine wp_idiv d_R_inLowestTerms_21 hp (fun _ hp => ?_)
          exact wp_ireturn rfl rfl d_R_inLowestTerms_22 hp
set_option maxRecDepth 100000 in
set_option maxHeartbeats 400000 in
theorem t_R_inLowestTerms {Q : dr_RS → dr_AH → Prop} : ∀ (x1 : Int32) (x2 : Int32) (x3 : Int32) (h : dr_AH), dr_p (f_R_inLowestTerms x1 x2 x3 h) Q → dr_W mi_R_inLowestTerms 0 0 0 [(0, .int x1), (1, .int x2), (2, .int x3)] [] h Q := by
  intro x1 x2 x3 h hp
  unfold f_R_inLowestTerms at hp
  refine wp_iload_n d_R_inLowestTerms_0 2 rfl ?_
  refine wp_istore_n (l' := [(3, .int x3), (0, .int x1), (1, .int x2), (2, .int x3)]) d_R_inLowestTerms_1 (by decide) rfl ?_
  exact wp_sub [1, 2, 3, 0] rfl (t_R_inLowestTerms_2 dr_fu _ _ _ _ _ hp)
def f_R_score (a1 : Nat) (x2 : Int32) (x3 : Int32) (h : dr_AH) : Option (dr_RS × dr_AH) :=
  (dr_k h a1 3 (dr_cr' (f_R_knownDrill a1 x2 h) fun a5 h4 => if x3 < 0 then dr_th h4 "java/lang/IllegalArgumentException" else if x3 ≤ 1 then (dr_gr' h4 0 a5 0 fun a6 => (dr_k h4 a6 1 (dr_ci' (f_S_weightOfAims a6 h4) fun x8 h7 => if x8 = 0 then dr_th h7 "java/lang/ArithmeticException" else (dr_gi h7 3 a1 4 fun x9 => (dr_k h7 a5 0 (dr_ci' (f_D_weightOfMetAims a5 x9 h7) fun x11 h10 => if x3 = 0 then (dr_ci' (f_R_inLowestTerms x11 x11 x8 h10) fun x15 h14 => some (.inl (some (.int x15)), h14)) else (dr_ci' (f_R_inLowestTerms x8 x11 x8 h10) fun x13 h12 => some (.inl (some (.int x13)), h12)))))))) else dr_th h4 "java/lang/IllegalArgumentException"))
set_option maxRecDepth 100000 in
set_option maxHeartbeats 400000 in
theorem t_R_score {Q : dr_RS → dr_AH → Prop} : ∀ (a1 : Nat) (x2 : Int32) (x3 : Int32) (h : dr_AH), dr_p (f_R_score a1 x2 x3 h) Q → dr_W mi_R_score 7 96 0 [(0, .ref a1), (1, .int x2), (2, .int x3)] [] h Q := by
  intro a1 x2 x3 h hp
  unfold f_R_score at hp
  refine wp_aload_n d_R_score_0 0 rfl ?_
  refine wp_iload_n d_R_score_1 1 rfl ?_
  refine wp_k hp (fun hk hp => ?_)
  refine wp_cr (M' := mi_R_knownDrill) (As := [.ref a1, .int x2]) (st := []) (fr' := 6) (wo' := 82) (dr_sV (A := [.int x2]) cl_R hk tw_417 tw_419 tp_12 co_R_knownDrill ⟨by decide, by decide⟩ (by rfl) d_R_score_2 rfl) co_R_knownDrill (by decide +kernel) (by decide) (Nat.le_of_ble_eq_true rfl) (Nat.le_of_ble_eq_true rfl) (fun Q' hq => t_R_knownDrill _ _ _ hq) hp (fun a5 h4 hp => ?_) (fun E q h3 hp => wx_out (by decide) hp)
  refine wp_astore_n (l' := [(3, .ref a5), (0, .ref a1), (1, .int x2), (2, .int x3)]) d_R_score_5 (by decide) rfl ?_
  refine wp_iload_n d_R_score_6 3 rfl ?_
  refine wp_if_lt (tgt := 15) d_R_score_7 (by decide) hp (fun _ hp => ?_) (fun _ hp => ?_)
  · exact wp_throwS (by decide) (by decide) tw_421 tw_14 tw_493 at_IA d_R_score_15 d_R_score_18 d_R_score_19 d_R_score_21 d_R_score_24 (by decide) (by decide) (Nat.le_of_ble_eq_true rfl) hp
  · refine wp_iload_n d_R_score_10 3 rfl ?_
    refine wp_iconst (v := 1) (by decide) d_R_score_11 ?_
    refine wp_icmp_le (tgt := 25) d_R_score_12 (by decide) hp (fun _ hp => ?_) (fun _ hp => ?_)
    · refine wp_aload_n d_R_score_25 0 rfl ?_
      refine wp_gr cl_D fl_R_136 (by decide) d_R_score_26 hp (fun a6 hp => ?_) (fun hp => (dr_p0 hp).elim)
      refine wp_k hp (fun hk hp => ?_)
      refine wp_ci (M' := mi_S_weightOfAims) (As := [.ref a6]) (st := []) (fr' := 0) (wo' := 0) (dr_sV (A := []) cl_S hk tw_550 tw_551 tw_552 co_S_weightOfAims ⟨by decide, by decide⟩ (by rfl) d_R_score_29 rfl) co_S_weightOfAims (by decide +kernel) (by decide) (Nat.le_of_ble_eq_true rfl) (Nat.le_of_ble_eq_true rfl) (fun Q' hq => t_S_weightOfAims _ _ hq) hp (fun x8 h7 hp => ?_) (fun E q h3 hp => wx_out (by decide) hp)
      refine wp_istore (l' := [(4, .int x8), (3, .ref a5), (0, .ref a1), (1, .int x2), (2, .int x3)]) d_R_score_32 (by decide) rfl ?_
      refine wp_iload d_R_score_34 0 rfl ?_
      refine wp_if_ne (tgt := 49) d_R_score_36 (by decide) hp (fun _ hp => ?_) (fun _ hp => ?_)
      · refine wp_aload_n d_R_score_49 1 rfl ?_
        refine wp_aload_n d_R_score_50 2 rfl ?_
        refine wp_gi cl_R fl_R_30 (by decide) d_R_score_51 hp (fun x9 hp => ?_)
        refine wp_k hp (fun hk hp => ?_)
        refine wp_ci (M' := mi_D_weightOfMetAims) (As := [.ref a5, .int x9]) (st := []) (fr' := 2) (wo' := 33) (dr_sV (A := [.int x9]) cl_D hk tw_570 tw_571 tw_572 co_D_weightOfMetAims ⟨by decide, by decide⟩ (by rfl) d_R_score_54 rfl) co_D_weightOfMetAims (by decide +kernel) (by decide) (Nat.le_of_ble_eq_true rfl) (Nat.le_of_ble_eq_true rfl) (fun Q' hq => t_D_weightOfMetAims _ _ _ hq) hp (fun x11 h10 hp => ?_) (fun E q h3 hp => wx_out (by decide) hp)
        refine wp_istore (l' := [(5, .int x11), (4, .int x8), (3, .ref a5), (0, .ref a1), (1, .int x2), (2, .int x3)]) d_R_score_57 (by decide) rfl ?_
        refine wp_iload_n d_R_score_59 5 rfl ?_
        refine wp_if_ne (tgt := 68) d_R_score_60 (by decide) hp (fun _ hp => ?_) (fun _ hp => ?_)
        · refine wp_iload d_R_score_68 1 rfl ?_
          refine wp_iload d_R_score_70 0 rfl ?_
          refine wp_iload d_R_score_72 1 rfl ?_
          refine wp_ci (M' := mi_R_inLowestTerms) (As := [.int x8, .int x11, .int x8]) (st := []) (fr' := 0) (wo' := 0) (dr_sS (A := [.int x8, .int x11, .int x8]) tw_575 tw_576 tw_1 co_R_inLowestTerms ⟨by decide, by decide⟩ (by rfl) d_R_score_74 rfl) co_R_inLowestTerms (by decide +kernel) (by decide) (Nat.le_of_ble_eq_true rfl) (Nat.le_of_ble_eq_true rfl) (fun Q' hq => t_R_inLowestTerms _ _ _ _ hq) hp (fun x13 h12 hp => ?_) (fun E q h3 hp => wx_out (by decide) hp)
          exact wp_ireturn rfl rfl d_R_score_77 hp
        · refine wp_iload d_R_score_63 0 rfl ?_
          refine wp_goto (tgt := 70) d_R_score_65 (by decide) ?_
          refine wp_iload d_R_score_70 0 rfl ?_
          refine wp_iload d_R_score_72 1 rfl ?_
          refine wp_ci (M' := mi_R_inLowestTerms) (As := [.int x11, .int x11, .int x8]) (st := []) (fr' := 0) (wo' := 0) (dr_sS (A := [.int x11, .int x11, .int x8]) tw_575 tw_576 tw_1 co_R_inLowestTerms ⟨by decide, by decide⟩ (by rfl) d_R_score_74 rfl) co_R_inLowestTerms (by decide +kernel) (by decide) (Nat.le_of_ble_eq_true rfl) (Nat.le_of_ble_eq_true rfl) (fun Q' hq => t_R_inLowestTerms _ _ _ _ hq) hp (fun x15 h14 hp => ?_) (fun E q h3 hp => wx_out (by decide) hp)
          exact wp_ireturn rfl rfl d_R_score_77 hp
      · exact wp_throwS (by decide) (by decide) tw_554 tw_15 tw_563 at_Ar d_R_score_39 d_R_score_42 d_R_score_43 d_R_score_45 d_R_score_48 (by decide) (by decide) (Nat.le_of_ble_eq_true rfl) hp
    · exact wp_throwS (by decide) (by decide) tw_421 tw_14 tw_493 at_IA d_R_score_15 d_R_score_18 d_R_score_19 d_R_score_21 d_R_score_24 (by decide) (by decide) (Nat.le_of_ble_eq_true rfl) hp
def f_R_compare_56 (rc19 : Nat → Nat → Nat → Int32 → Int32 → dr_AH → Option (dr_RS × dr_AH)) (a1 : Nat) (a2 : Nat) (a3 : Nat) (x4 : Int32) (x5 : Int32) (x6 : Int32) (h : dr_AH) : Option (dr_RS × dr_AH) :=
  if x6 = 0 then rc19 a1 a2 a3 x4 (x5 + 1) h else (dr_gi h 3 a1 4 fun x7 => (dr_k h a2 0 (dr_ci' (f_D_stateOfAim a2 x5 x7 h) fun x9 h8 => (dr_gi h8 3 a1 4 fun x10 => (dr_k h8 a3 0 (dr_ci' (f_D_stateOfAim a3 x5 x10 h8) fun x12 h11 => if x9 = x12 then rc19 a1 a2 a3 x4 (x5 + 1) h11 else rc19 a1 a2 a3 (x4 + 1) (x5 + 1) h11))))))
def f_R_compare_55 (rc19 : Nat → Nat → Nat → Int32 → Int32 → dr_AH → Option (dr_RS × dr_AH)) (a1 : Nat) (a2 : Nat) (a3 : Nat) (x4 : Int32) (x5 : Int32) (h : dr_AH) : Option (dr_RS × dr_AH) :=
  f_R_compare_56 (rc19) a1 a2 a3 x4 x5 0 h
def f_R_compare_19 : Nat → Nat → Nat → Nat → Int32 → Int32 → dr_AH → Option (dr_RS × dr_AH)
  | 0, _, _, _, _, _, _ => none
  | n + 1, a1, a2, a3, x4, x5, h => if 20 < x5 then some (.inl (some (.int x4)), h) else (dr_gr' h 0 a2 0 fun a6 => (dr_k h a6 1 (dr_ci' (f_S_hasAim a6 x5 h) fun x8 h7 => if x8 = 0 then f_R_compare_55 (f_R_compare_19 n) a1 a2 a3 x4 x5 h7 else (dr_gr' h7 0 a3 0 fun a9 => (dr_k h7 a9 1 (dr_ci' (f_S_hasAim a9 x5 h7) fun x11 h10 => if x11 = 0 then f_R_compare_55 (f_R_compare_19 n) a1 a2 a3 x4 x5 h10 else f_R_compare_56 (f_R_compare_19 n) a1 a2 a3 x4 x5 1 h10))))))
def f_R_compare (a1 : Nat) (x2 : Int32) (x3 : Int32) (h : dr_AH) : Option (dr_RS × dr_AH) :=
  (dr_k h a1 3 (dr_cr' (f_R_knownDrill a1 x2 h) fun a5 h4 => (dr_k h4 a1 3 (dr_cr' (f_R_knownDrill a1 x3 h4) fun a7 h6 => f_R_compare_19 dr_fu a1 a5 a7 0 1 h6))))
set_option maxRecDepth 100000 in
set_option maxHeartbeats 400000 in
theorem t_R_compare_56 {Q : dr_RS → dr_AH → Prop} {rc19 : Nat → Nat → Nat → Int32 → Int32 → dr_AH → Option (dr_RS × dr_AH)} (hr19 : ∀ (a1 : Nat) (a2 : Nat) (a3 : Nat) (x4 : Int32) (x5 : Int32) (h : dr_AH), dr_p (rc19 a1 a2 a3 x4 x5 h) Q → dr_W mi_R_compare 7 96 19 [(0, .ref a1), (3, .ref a2), (4, .ref a3), (5, .int x4), (6, .int x5)] [] h Q) : ∀ (a1 : Nat) (a2 : Nat) (a3 : Nat) (x4 : Int32) (x5 : Int32) (x6 : Int32) (h : dr_AH), dr_p (f_R_compare_56 rc19 a1 a2 a3 x4 x5 x6 h) Q → dr_W mi_R_compare 7 96 56 [(0, .ref a1), (3, .ref a2), (4, .ref a3), (5, .int x4), (6, .int x5)] [.int x6] h Q := by
  intro a1 a2 a3 x4 x5 x6 h hp
  unfold f_R_compare_56 at hp
  refine wp_istore (l' := [(7, .int x6), (0, .ref a1), (3, .ref a2), (4, .ref a3), (5, .int x4), (6, .int x5)]) d_R_compare_56 (by decide) rfl ?_
  refine wp_iload d_R_compare_58 0 rfl ?_
  refine wp_if_eq (tgt := 90) d_R_compare_60 (by decide) hp (fun _ hp => ?_) (fun _ hp => ?_)
  · refine wp_iinc (v := (x5 + 1)) (l' := [(6, .int (x5 + 1)), (7, .int x6), (0, .ref a1), (3, .ref a2), (4, .ref a3), (5, .int x4)]) d_R_compare_90 5 rfl rfl (by decide) rfl ?_
    refine wp_goto (tgt := 19) d_R_compare_93 (by decide) ?_
    exact wp_sub [2, 3, 4, 5, 0] rfl (hr19 _ _ _ _ _ _ hp)
  · refine wp_aload_n d_R_compare_63 2 rfl ?_
    refine wp_iload d_R_compare_64 5 rfl ?_
    refine wp_aload_n d_R_compare_66 1 rfl ?_
    refine wp_gi cl_R fl_R_30 (by decide) d_R_compare_67 hp (fun x7 hp => ?_)
    refine wp_k hp (fun hk hp => ?_)
    refine wp_ci (M' := mi_D_stateOfAim) (As := [.ref a2, .int x5, .int x7]) (st := []) (fr' := 1) (wo' := 16) (dr_sV (A := [.int x5, .int x7]) cl_D hk tw_532 tw_533 tw_534 co_D_stateOfAim ⟨by decide, by decide⟩ (by rfl) d_R_compare_70 rfl) co_D_stateOfAim (by decide +kernel) (by decide) (Nat.le_of_ble_eq_true rfl) (Nat.le_of_ble_eq_true rfl) (fun Q' hq => t_D_stateOfAim _ _ _ _ hq) hp (fun x9 h8 hp => ?_) (fun E q h3 hp => wx_out (by decide) hp)
    refine wp_aload d_R_compare_73 3 rfl ?_
    refine wp_iload d_R_compare_75 5 rfl ?_
    refine wp_aload_n d_R_compare_77 1 rfl ?_
    refine wp_gi cl_R fl_R_30 (by decide) d_R_compare_78 hp (fun x10 hp => ?_)
    refine wp_k hp (fun hk hp => ?_)
    refine wp_ci (M' := mi_D_stateOfAim) (As := [.ref a3, .int x5, .int x10]) (st := [.int x9]) (fr' := 1) (wo' := 16) (dr_sV (A := [.int x5, .int x10]) cl_D hk tw_532 tw_533 tw_534 co_D_stateOfAim ⟨by decide, by decide⟩ (by rfl) d_R_compare_81 rfl) co_D_stateOfAim (by decide +kernel) (by decide) (Nat.le_of_ble_eq_true rfl) (Nat.le_of_ble_eq_true rfl) (fun Q' hq => t_D_stateOfAim _ _ _ _ hq) hp (fun x12 h11 hp => ?_) (fun E q h3 hp => wx_out (by decide) hp)
    refine wp_icmp_eq (tgt := 90) d_R_compare_84 (by decide) hp (fun _ hp => ?_) (fun _ hp => ?_)
    · refine wp_iinc (v := (x5 + 1)) (l' := [(6, .int (x5 + 1)), (7, .int x6), (0, .ref a1), (3, .ref a2), (4, .ref a3), (5, .int x4)]) d_R_compare_90 5 rfl rfl (by decide) rfl ?_
      refine wp_goto (tgt := 19) d_R_compare_93 (by decide) ?_
      exact wp_sub [2, 3, 4, 5, 0] rfl (hr19 _ _ _ _ _ _ hp)
    · refine wp_iinc (v := (x4 + 1)) (l' := [(5, .int (x4 + 1)), (7, .int x6), (0, .ref a1), (3, .ref a2), (4, .ref a3), (6, .int x5)]) d_R_compare_87 4 rfl rfl (by decide) rfl ?_
      refine wp_iinc (v := (x5 + 1)) (l' := [(6, .int (x5 + 1)), (5, .int (x4 + 1)), (7, .int x6), (0, .ref a1), (3, .ref a2), (4, .ref a3)]) d_R_compare_90 5 rfl rfl (by decide) rfl ?_
      refine wp_goto (tgt := 19) d_R_compare_93 (by decide) ?_
      exact wp_sub [3, 4, 5, 1, 0] rfl (hr19 _ _ _ _ _ _ hp)
set_option maxRecDepth 100000 in
set_option maxHeartbeats 400000 in
theorem t_R_compare_55 {Q : dr_RS → dr_AH → Prop} {rc19 : Nat → Nat → Nat → Int32 → Int32 → dr_AH → Option (dr_RS × dr_AH)} (hr19 : ∀ (a1 : Nat) (a2 : Nat) (a3 : Nat) (x4 : Int32) (x5 : Int32) (h : dr_AH), dr_p (rc19 a1 a2 a3 x4 x5 h) Q → dr_W mi_R_compare 7 96 19 [(0, .ref a1), (3, .ref a2), (4, .ref a3), (5, .int x4), (6, .int x5)] [] h Q) : ∀ (a1 : Nat) (a2 : Nat) (a3 : Nat) (x4 : Int32) (x5 : Int32) (h : dr_AH), dr_p (f_R_compare_55 rc19 a1 a2 a3 x4 x5 h) Q → dr_W mi_R_compare 7 96 55 [(0, .ref a1), (3, .ref a2), (4, .ref a3), (5, .int x4), (6, .int x5)] [] h Q := by
  intro a1 a2 a3 x4 x5 h hp
  unfold f_R_compare_55 at hp
  refine wp_iconst (v := 0) (by decide) d_R_compare_55 ?_
  exact wp_sub [0, 1, 2, 3, 4] rfl (t_R_compare_56 hr19 _ _ _ _ _ _ _ hp)
set_option maxRecDepth 100000 in
set_option maxHeartbeats 400000 in
theorem t_R_compare_19 {Q : dr_RS → dr_AH → Prop} : ∀ (n : Nat) (a1 : Nat) (a2 : Nat) (a3 : Nat) (x4 : Int32) (x5 : Int32) (h : dr_AH), dr_p (f_R_compare_19 n a1 a2 a3 x4 x5 h) Q → dr_W mi_R_compare 7 96 19 [(0, .ref a1), (3, .ref a2), (4, .ref a3), (5, .int x4), (6, .int x5)] [] h Q := by
  intro n
  induction n with
  | zero => intro a1 a2 a3 x4 x5 h hp; exact (dr_p0 hp).elim
  | succ n ih =>
    intro a1 a2 a3 x4 x5 h hp
    unfold f_R_compare_19 at hp
    refine wp_iload d_R_compare_19 4 rfl ?_
    refine wp_bipush (v := 20) (by decide) d_R_compare_21 ?_
    refine wp_icmp_gt (tgt := 96) d_R_compare_23 (by decide) hp (fun _ hp => ?_) (fun _ hp => ?_)
    · refine wp_iload d_R_compare_96 3 rfl ?_
      exact wp_ireturn rfl rfl d_R_compare_98 hp
    · refine wp_aload_n d_R_compare_26 1 rfl ?_
      refine wp_gr cl_D fl_R_136 (by decide) d_R_compare_27 hp (fun a6 hp => ?_) (fun hp => (dr_p0 hp).elim)
      refine wp_iload d_R_compare_30 4 rfl ?_
      refine wp_k hp (fun hk hp => ?_)
      refine wp_ci (M' := mi_S_hasAim) (As := [.ref a6, .int x5]) (st := []) (fr' := 0) (wo' := 0) (dr_sV (A := [.int x5]) cl_S hk tw_530 tw_318 tw_319 co_S_hasAim ⟨by decide, by decide⟩ (by rfl) d_R_compare_32 rfl) co_S_hasAim (by decide +kernel) (by decide) (Nat.le_of_ble_eq_true rfl) (Nat.le_of_ble_eq_true rfl) (fun Q' hq => t_S_hasAim _ _ _ hq) hp (fun x8 h7 hp => ?_) (fun E q h3 hp => wx_out (by decide) hp)
      refine wp_if_eq (tgt := 55) d_R_compare_35 (by decide) hp (fun _ hp => ?_) (fun _ hp => ?_)
      · exact wp_sub [0, 1, 2, 3, 4] rfl (t_R_compare_55 ih _ _ _ _ _ _ hp)
      · refine wp_aload d_R_compare_38 2 rfl ?_
        refine wp_gr cl_D fl_R_136 (by decide) d_R_compare_40 hp (fun a9 hp => ?_) (fun hp => (dr_p0 hp).elim)
        refine wp_iload d_R_compare_43 4 rfl ?_
        refine wp_k hp (fun hk hp => ?_)
        refine wp_ci (M' := mi_S_hasAim) (As := [.ref a9, .int x5]) (st := []) (fr' := 0) (wo' := 0) (dr_sV (A := [.int x5]) cl_S hk tw_530 tw_318 tw_319 co_S_hasAim ⟨by decide, by decide⟩ (by rfl) d_R_compare_45 rfl) co_S_hasAim (by decide +kernel) (by decide) (Nat.le_of_ble_eq_true rfl) (Nat.le_of_ble_eq_true rfl) (fun Q' hq => t_S_hasAim _ _ _ hq) hp (fun x11 h10 hp => ?_) (fun E q h3 hp => wx_out (by decide) hp)
        refine wp_if_eq (tgt := 55) d_R_compare_48 (by decide) hp (fun _ hp => ?_) (fun _ hp => ?_)
        · exact wp_sub [0, 1, 2, 3, 4] rfl (t_R_compare_55 ih _ _ _ _ _ _ hp)
        · refine wp_iconst (v := 1) (by decide) d_R_compare_51 ?_
          refine wp_goto (tgt := 56) d_R_compare_52 (by decide) ?_
          exact wp_sub [0, 1, 2, 3, 4] rfl (t_R_compare_56 ih _ _ _ _ _ _ _ hp)
set_option maxRecDepth 100000 in
set_option maxHeartbeats 400000 in
theorem t_R_compare {Q : dr_RS → dr_AH → Prop} : ∀ (a1 : Nat) (x2 : Int32) (x3 : Int32) (h : dr_AH), dr_p (f_R_compare a1 x2 x3 h) Q → dr_W mi_R_compare 7 96 0 [(0, .ref a1), (1, .int x2), (2, .int x3)] [] h Q := by
  intro a1 x2 x3 h hp
  unfold f_R_compare at hp
  refine wp_aload_n d_R_compare_0 0 rfl ?_
  refine wp_iload_n d_R_compare_1 1 rfl ?_
  refine wp_k hp (fun hk hp => ?_)
  refine wp_cr (M' := mi_R_knownDrill) (As := [.ref a1, .int x2]) (st := []) (fr' := 6) (wo' := 82) (dr_sV (A := [.int x2]) cl_R hk tw_417 tw_419 tp_12 co_R_knownDrill ⟨by decide, by decide⟩ (by rfl) d_R_compare_2 rfl) co_R_knownDrill (by decide +kernel) (by decide) (Nat.le_of_ble_eq_true rfl) (Nat.le_of_ble_eq_true rfl) (fun Q' hq => t_R_knownDrill _ _ _ hq) hp (fun a5 h4 hp => ?_) (fun E q h3 hp => wx_out (by decide) hp)
  refine wp_astore_n (l' := [(3, .ref a5), (0, .ref a1), (1, .int x2), (2, .int x3)]) d_R_compare_5 (by decide) rfl ?_
  refine wp_aload_n d_R_compare_6 1 rfl ?_
  refine wp_iload_n d_R_compare_7 3 rfl ?_
  refine wp_k hp (fun hk hp => ?_)
  refine wp_cr (M' := mi_R_knownDrill) (As := [.ref a1, .int x3]) (st := []) (fr' := 6) (wo' := 82) (dr_sV (A := [.int x3]) cl_R hk tw_417 tw_419 tp_12 co_R_knownDrill ⟨by decide, by decide⟩ (by rfl) d_R_compare_8 rfl) co_R_knownDrill (by decide +kernel) (by decide) (Nat.le_of_ble_eq_true rfl) (Nat.le_of_ble_eq_true rfl) (fun Q' hq => t_R_knownDrill _ _ _ hq) hp (fun a7 h6 hp => ?_) (fun E q h3 hp => wx_out (by decide) hp)
  refine wp_astore (l' := [(4, .ref a7), (3, .ref a5), (0, .ref a1), (1, .int x2), (2, .int x3)]) d_R_compare_11 (by decide) rfl ?_
  refine wp_iconst (v := 0) (by decide) d_R_compare_13 ?_
  refine wp_istore (l' := [(5, .int 0), (4, .ref a7), (3, .ref a5), (0, .ref a1), (1, .int x2), (2, .int x3)]) d_R_compare_14 (by decide) rfl ?_
  refine wp_iconst (v := 1) (by decide) d_R_compare_16 ?_
  refine wp_istore (l' := [(6, .int 1), (5, .int 0), (4, .ref a7), (3, .ref a5), (0, .ref a1), (1, .int x2), (2, .int x3)]) d_R_compare_17 (by decide) rfl ?_
  exact wp_sub [4, 3, 2, 1, 0] rfl (t_R_compare_19 dr_fu _ _ _ _ _ _ hp)
def f_R_observe (a1 : Nat) (x2 : Int32) (x3 : Int32) (x4 : Int32) (h : dr_AH) : Option (dr_RS × dr_AH) :=
  (dr_k h a1 3 (dr_cr' (f_R_knownDrill a1 x2 h) fun a6 h5 => (dr_gi h5 3 a1 4 fun x7 => (dr_k h5 a6 0 (dr_ci' (f_D_drillSecond a6 x7 h5) fun x9 h8 => if x3 < 0 then dr_th h8 "java/lang/IndexOutOfBoundsException" else if x9 < x3 then dr_th h8 "java/lang/IndexOutOfBoundsException" else if x4 < 0 then dr_th h8 "java/lang/IndexOutOfBoundsException" else if x4 ≤ 9 then (dr_gi h8 3 a1 9 fun x10 => if (x10 * 4) < 0 then dr_th h8 "java/lang/UnsupportedOperationException" else (dr_gr' h8 3 a1 8 fun a11 => (dr_ln h8 0 a11 fun x12 => if ((x10 * 4) + 4) ≤ x12 then (dr_gr' h8 3 a1 8 fun a13 => (dr_si h8 a13 (x10 * 4) x2 fun h14 => (dr_gr' h14 3 a1 8 fun a15 => (dr_si h14 a15 ((x10 * 4) + 1) x3 fun h16 => (dr_gr' h16 3 a1 8 fun a17 => (dr_si h16 a17 ((x10 * 4) + 2) x4 fun h18 => (dr_gr' h18 3 a1 8 fun a19 => if (x9 - x3) ≤ 60 then (dr_si h18 a19 ((x10 * 4) + 3) 0 fun h20 => (dr_gi h20 3 a1 9 fun x21 => (dr_pf h20 3 a1 9 (.int (x21 + 1)) fun h22 => (dr_gi h22 3 a1 9 fun x23 => some (.inl (some (.int (x23 - 1))), h22))))) else (dr_si h18 a19 ((x10 * 4) + 3) 1 fun h24 => (dr_gi h24 3 a1 9 fun x25 => (dr_pf h24 3 a1 9 (.int (x25 + 1)) fun h26 => (dr_gi h26 3 a1 9 fun x27 => some (.inl (some (.int (x27 - 1))), h26)))))))))))) else dr_th h8 "java/lang/UnsupportedOperationException"))) else dr_th h8 "java/lang/IndexOutOfBoundsException")))))
set_option maxRecDepth 100000 in
set_option maxHeartbeats 400000 in
theorem t_R_observe {Q : dr_RS → dr_AH → Prop} : ∀ (a1 : Nat) (x2 : Int32) (x3 : Int32) (x4 : Int32) (h : dr_AH), dr_p (f_R_observe a1 x2 x3 x4 h) Q → dr_W mi_R_observe 7 96 0 [(0, .ref a1), (1, .int x2), (2, .int x3), (3, .int x4)] [] h Q := by
  intro a1 x2 x3 x4 h hp
  unfold f_R_observe at hp
  refine wp_aload_n d_R_observe_0 0 rfl ?_
  refine wp_iload_n d_R_observe_1 1 rfl ?_
  refine wp_k hp (fun hk hp => ?_)
  refine wp_cr (M' := mi_R_knownDrill) (As := [.ref a1, .int x2]) (st := []) (fr' := 6) (wo' := 82) (dr_sV (A := [.int x2]) cl_R hk tw_417 tw_419 tp_12 co_R_knownDrill ⟨by decide, by decide⟩ (by rfl) d_R_observe_2 rfl) co_R_knownDrill (by decide +kernel) (by decide) (Nat.le_of_ble_eq_true rfl) (Nat.le_of_ble_eq_true rfl) (fun Q' hq => t_R_knownDrill _ _ _ hq) hp (fun a6 h5 hp => ?_) (fun E q h3 hp => wx_out (by decide) hp)
  refine wp_astore (l' := [(4, .ref a6), (0, .ref a1), (1, .int x2), (2, .int x3), (3, .int x4)]) d_R_observe_5 (by decide) rfl ?_
  refine wp_aload d_R_observe_7 0 rfl ?_
  refine wp_aload_n d_R_observe_9 1 rfl ?_
  refine wp_gi cl_R fl_R_30 (by decide) d_R_observe_10 hp (fun x7 hp => ?_)
  refine wp_k hp (fun hk hp => ?_)
  refine wp_ci (M' := mi_D_drillSecond) (As := [.ref a6, .int x7]) (st := []) (fr' := 0) (wo' := 0) (dr_sV (A := [.int x7]) cl_D hk tw_592 tw_394 tw_395 co_D_drillSecond ⟨by decide, by decide⟩ (by rfl) d_R_observe_13 rfl) co_D_drillSecond (by decide +kernel) (by decide) (Nat.le_of_ble_eq_true rfl) (Nat.le_of_ble_eq_true rfl) (fun Q' hq => t_D_drillSecond _ _ _ hq) hp (fun x9 h8 hp => ?_) (fun E q h3 hp => wx_out (by decide) hp)
  refine wp_istore (l' := [(5, .int x9), (4, .ref a6), (0, .ref a1), (1, .int x2), (2, .int x3), (3, .int x4)]) d_R_observe_16 (by decide) rfl ?_
  refine wp_iload_n d_R_observe_18 4 rfl ?_
  refine wp_if_lt (tgt := 38) d_R_observe_19 (by decide) hp (fun _ hp => ?_) (fun _ hp => ?_)
  · exact wp_throwS (by decide) (by decide) tw_155 tw_9 tw_593 at_IO d_R_observe_38 d_R_observe_41 d_R_observe_42 d_R_observe_44 d_R_observe_47 (by decide) (by decide) (Nat.le_of_ble_eq_true rfl) hp
  · refine wp_iload_n d_R_observe_22 4 rfl ?_
    refine wp_iload d_R_observe_23 0 rfl ?_
    refine wp_icmp_gt (tgt := 38) d_R_observe_25 (by decide) hp (fun _ hp => ?_) (fun _ hp => ?_)
    · exact wp_throwS (by decide) (by decide) tw_155 tw_9 tw_593 at_IO d_R_observe_38 d_R_observe_41 d_R_observe_42 d_R_observe_44 d_R_observe_47 (by decide) (by decide) (Nat.le_of_ble_eq_true rfl) hp
    · refine wp_iload_n d_R_observe_28 5 rfl ?_
      refine wp_if_lt (tgt := 38) d_R_observe_29 (by decide) hp (fun _ hp => ?_) (fun _ hp => ?_)
      · exact wp_throwS (by decide) (by decide) tw_155 tw_9 tw_593 at_IO d_R_observe_38 d_R_observe_41 d_R_observe_42 d_R_observe_44 d_R_observe_47 (by decide) (by decide) (Nat.le_of_ble_eq_true rfl) hp
      · refine wp_iload_n d_R_observe_32 5 rfl ?_
        refine wp_bipush (v := 9) (by decide) d_R_observe_33 ?_
        refine wp_icmp_le (tgt := 48) d_R_observe_35 (by decide) hp (fun _ hp => ?_) (fun _ hp => ?_)
        · refine wp_aload_n d_R_observe_48 2 rfl ?_
          refine wp_gi cl_R fl_R_49 (by decide) d_R_observe_49 hp (fun x10 hp => ?_)
          refine wp_iconst (v := 4) (by decide) d_R_observe_52 ?_
          refine wp_imul d_R_observe_53 ?_
          refine wp_istore (l' := [(6, .int (x10 * 4)), (5, .int x9), (4, .ref a6), (0, .ref a1), (1, .int x2), (2, .int x3), (3, .int x4)]) d_R_observe_54 (by decide) rfl ?_
          refine wp_iload d_R_observe_56 0 rfl ?_
          refine wp_if_lt (tgt := 73) d_R_observe_58 (by decide) hp (fun _ hp => ?_) (fun _ hp => ?_)
          · exact wp_throwS (by decide) (by decide) tw_229 tw_10 tw_594 at_UO d_R_observe_73 d_R_observe_76 d_R_observe_77 d_R_observe_79 d_R_observe_82 (by decide) (by decide) (Nat.le_of_ble_eq_true rfl) hp
          · refine wp_iload d_R_observe_61 0 rfl ?_
            refine wp_iconst (v := 4) (by decide) d_R_observe_63 ?_
            refine wp_iadd d_R_observe_64 ?_
            refine wp_aload_n d_R_observe_65 3 rfl ?_
            refine wp_gr cl_R fl_R_46 (by decide) d_R_observe_66 hp (fun a11 hp => ?_) (fun hp => (dr_p0 hp).elim)
            refine wp_alen (c := 0) (by decide) d_R_observe_69 hp (fun x12 hp => ?_)
            refine wp_icmp_le (tgt := 83) d_R_observe_70 (by decide) hp (fun _ hp => ?_) (fun _ hp => ?_)
            · refine wp_aload_n d_R_observe_83 3 rfl ?_
              refine wp_gr cl_R fl_R_46 (by decide) d_R_observe_84 hp (fun a13 hp => ?_) (fun hp => (dr_p0 hp).elim)
              refine wp_iload d_R_observe_87 0 rfl ?_
              refine wp_iload_n d_R_observe_89 4 rfl ?_
              refine wp_iastore d_R_observe_90 hp (fun h14 hp => ?_)
              refine wp_aload_n d_R_observe_91 3 rfl ?_
              refine wp_gr cl_R fl_R_46 (by decide) d_R_observe_92 hp (fun a15 hp => ?_) (fun hp => (dr_p0 hp).elim)
              refine wp_iload d_R_observe_95 0 rfl ?_
              refine wp_iconst (v := 1) (by decide) d_R_observe_97 ?_
              refine wp_iadd d_R_observe_98 ?_
              refine wp_iload_n d_R_observe_99 5 rfl ?_
              refine wp_iastore d_R_observe_100 hp (fun h16 hp => ?_)
              refine wp_aload_n d_R_observe_101 3 rfl ?_
              refine wp_gr cl_R fl_R_46 (by decide) d_R_observe_102 hp (fun a17 hp => ?_) (fun hp => (dr_p0 hp).elim)
              refine wp_iload d_R_observe_105 0 rfl ?_
              refine wp_iconst (v := 2) (by decide) d_R_observe_107 ?_
              refine wp_iadd d_R_observe_108 ?_
              refine wp_iload_n d_R_observe_109 6 rfl ?_
              refine wp_iastore d_R_observe_110 hp (fun h18 hp => ?_)
              refine wp_aload_n d_R_observe_111 3 rfl ?_
              refine wp_gr cl_R fl_R_46 (by decide) d_R_observe_112 hp (fun a19 hp => ?_) (fun hp => (dr_p0 hp).elim)
              refine wp_iload d_R_observe_115 0 rfl ?_
              refine wp_iconst (v := 3) (by decide) d_R_observe_117 ?_
              refine wp_iadd d_R_observe_118 ?_
              refine wp_iload d_R_observe_119 1 rfl ?_
              refine wp_iload_n d_R_observe_121 5 rfl ?_
              refine wp_isub d_R_observe_122 ?_
              refine wp_bipush (v := 60) (by decide) d_R_observe_123 ?_
              refine wp_icmp_le (tgt := 132) d_R_observe_125 (by decide) hp (fun _ hp => ?_) (fun _ hp => ?_)
              · refine wp_iconst (v := 0) (by decide) d_R_observe_132 ?_
                refine wp_iastore d_R_observe_133 hp (fun h20 hp => ?_)
                refine wp_aload_n d_R_observe_134 3 rfl ?_
                refine wp_dup rfl d_R_observe_135 ?_
                refine wp_gi cl_R fl_R_49 (by decide) d_R_observe_136 hp (fun x21 hp => ?_)
                refine wp_iconst (v := 1) (by decide) d_R_observe_139 ?_
                refine wp_iadd d_R_observe_140 ?_
                refine wp_put cl_R fl_R_49 (by decide) (Or.inl (by rfl)) (by rfl) (by rfl) d_R_observe_141 hp (fun h22 hp => ?_)
                refine wp_aload_n d_R_observe_144 3 rfl ?_
                refine wp_gi cl_R fl_R_49 (by decide) d_R_observe_145 hp (fun x23 hp => ?_)
                refine wp_iconst (v := 1) (by decide) d_R_observe_148 ?_
                refine wp_isub d_R_observe_149 ?_
                exact wp_ireturn rfl rfl d_R_observe_150 hp
              · refine wp_iconst (v := 1) (by decide) d_R_observe_128 ?_
                refine wp_goto (tgt := 133) d_R_observe_129 (by decide) ?_
                refine wp_iastore d_R_observe_133 hp (fun h24 hp => ?_)
                refine wp_aload_n d_R_observe_134 3 rfl ?_
                refine wp_dup rfl d_R_observe_135 ?_
                refine wp_gi cl_R fl_R_49 (by decide) d_R_observe_136 hp (fun x25 hp => ?_)
                refine wp_iconst (v := 1) (by decide) d_R_observe_139 ?_
                refine wp_iadd d_R_observe_140 ?_
                refine wp_put cl_R fl_R_49 (by decide) (Or.inl (by rfl)) (by rfl) (by rfl) d_R_observe_141 hp (fun h26 hp => ?_)
                refine wp_aload_n d_R_observe_144 3 rfl ?_
                refine wp_gi cl_R fl_R_49 (by decide) d_R_observe_145 hp (fun x27 hp => ?_)
                refine wp_iconst (v := 1) (by decide) d_R_observe_148 ?_
                refine wp_isub d_R_observe_149 ?_
                exact wp_ireturn rfl rfl d_R_observe_150 hp
            · exact wp_throwS (by decide) (by decide) tw_229 tw_10 tw_594 at_UO d_R_observe_73 d_R_observe_76 d_R_observe_77 d_R_observe_79 d_R_observe_82 (by decide) (by decide) (Nat.le_of_ble_eq_true rfl) hp
        · exact wp_throwS (by decide) (by decide) tw_155 tw_9 tw_593 at_IO d_R_observe_38 d_R_observe_41 d_R_observe_42 d_R_observe_44 d_R_observe_47 (by decide) (by decide) (Nat.le_of_ble_eq_true rfl) hp
def f_R_row (a1 : Nat) (x2 : Int32) (x3 : Int32) (h : dr_AH) : Option (dr_RS × dr_AH) :=
  if x2 < 0 then dr_th h "java/lang/IllegalArgumentException" else (dr_gi h 3 a1 9 fun x4 => if x4 ≤ x2 then dr_th h "java/lang/IllegalArgumentException" else if x3 < 0 then dr_th h "java/lang/IllegalArgumentException" else if x3 < 4 then (dr_gr' h 3 a1 8 fun a5 => (dr_ai h a5 ((x2 * 4) + x3) fun x6 => some (.inl (some (.int x6)), h))) else dr_th h "java/lang/IllegalArgumentException")
set_option maxRecDepth 100000 in
set_option maxHeartbeats 400000 in
theorem t_R_row {Q : dr_RS → dr_AH → Prop} : ∀ (a1 : Nat) (x2 : Int32) (x3 : Int32) (h : dr_AH), dr_p (f_R_row a1 x2 x3 h) Q → dr_W mi_R_row 6 82 0 [(0, .ref a1), (1, .int x2), (2, .int x3)] [] h Q := by
  intro a1 x2 x3 h hp
  unfold f_R_row at hp
  refine wp_iload_n d_R_row_0 1 rfl ?_
  refine wp_if_lt (tgt := 21) d_R_row_1 (by decide) hp (fun _ hp => ?_) (fun _ hp => ?_)
  · exact wp_throwS (by decide) (by decide) tw_421 tw_14 tw_602 at_IA d_R_row_21 d_R_row_24 d_R_row_25 d_R_row_27 d_R_row_30 (by decide) (by decide) (Nat.le_of_ble_eq_true rfl) hp
  · refine wp_iload_n d_R_row_4 1 rfl ?_
    refine wp_aload_n d_R_row_5 0 rfl ?_
    refine wp_gi cl_R fl_R_49 (by decide) d_R_row_6 hp (fun x4 hp => ?_)
    refine wp_icmp_ge (tgt := 21) d_R_row_9 (by decide) hp (fun _ hp => ?_) (fun _ hp => ?_)
    · exact wp_throwS (by decide) (by decide) tw_421 tw_14 tw_602 at_IA d_R_row_21 d_R_row_24 d_R_row_25 d_R_row_27 d_R_row_30 (by decide) (by decide) (Nat.le_of_ble_eq_true rfl) hp
    · refine wp_iload_n d_R_row_12 2 rfl ?_
      refine wp_if_lt (tgt := 21) d_R_row_13 (by decide) hp (fun _ hp => ?_) (fun _ hp => ?_)
      · exact wp_throwS (by decide) (by decide) tw_421 tw_14 tw_602 at_IA d_R_row_21 d_R_row_24 d_R_row_25 d_R_row_27 d_R_row_30 (by decide) (by decide) (Nat.le_of_ble_eq_true rfl) hp
      · refine wp_iload_n d_R_row_16 2 rfl ?_
        refine wp_iconst (v := 4) (by decide) d_R_row_17 ?_
        refine wp_icmp_lt (tgt := 31) d_R_row_18 (by decide) hp (fun _ hp => ?_) (fun _ hp => ?_)
        · refine wp_aload_n d_R_row_31 0 rfl ?_
          refine wp_gr cl_R fl_R_46 (by decide) d_R_row_32 hp (fun a5 hp => ?_) (fun hp => (dr_p0 hp).elim)
          refine wp_iload_n d_R_row_35 1 rfl ?_
          refine wp_iconst (v := 4) (by decide) d_R_row_36 ?_
          refine wp_imul d_R_row_37 ?_
          refine wp_iload_n d_R_row_38 2 rfl ?_
          refine wp_iadd d_R_row_39 ?_
          refine wp_iaload d_R_row_40 hp (fun x6 hp => ?_)
          exact wp_ireturn rfl rfl d_R_row_41 hp
        · exact wp_throwS (by decide) (by decide) tw_421 tw_14 tw_602 at_IA d_R_row_21 d_R_row_24 d_R_row_25 d_R_row_27 d_R_row_30 (by decide) (by decide) (Nat.le_of_ble_eq_true rfl) hp
def f_R_play (a1 : Nat) (x2 : Int32) (x3 : Int32) (h : dr_AH) : Option (dr_RS × dr_AH) :=
  (if (20 : Int32) = 0 then none else (dr_k h a1 3 (dr_ci' (f_R_act a1 x2 ((dr_ushr ((x3 * 1103515245) + 12345) 16) - (dr_ushr ((x3 * 1103515245) + 12345) 16) / 20 * 20) h) fun x5 h4 => some (.inl (some (.int x5)), h4))))
set_option maxRecDepth 100000 in
set_option maxHeartbeats 400000 in
theorem t_R_play {Q : dr_RS → dr_AH → Prop} : ∀ (a1 : Nat) (x2 : Int32) (x3 : Int32) (h : dr_AH), dr_p (f_R_play a1 x2 x3 h) Q → dr_W mi_R_play 8 111 0 [(0, .ref a1), (1, .int x2), (2, .int x3)] [] h Q := by
  intro a1 x2 x3 h hp
  unfold f_R_play at hp
  refine wp_iload_n d_R_play_0 2 rfl ?_
  refine wp_ldc (v := 1103515245) tw_610 d_R_play_1 ?_
  refine wp_imul d_R_play_3 ?_
  refine wp_sipush (v := 12345) (by decide) d_R_play_4 ?_
  refine wp_iadd d_R_play_7 ?_
  refine wp_istore_n (l' := [(3, .int ((x3 * 1103515245) + 12345)), (0, .ref a1), (1, .int x2), (2, .int x3)]) d_R_play_8 (by decide) rfl ?_
  refine wp_aload_n d_R_play_9 1 rfl ?_
  refine wp_iload_n d_R_play_10 2 rfl ?_
  refine wp_iload_n d_R_play_11 0 rfl ?_
  refine wp_bipush (v := 16) (by decide) d_R_play_12 ?_
  refine wp_iushr (v := (dr_ushr ((x3 * 1103515245) + 12345) 16)) rfl d_R_play_14 ?_
  refine wp_bipush (v := 20) (by decide) d_R_play_15 ?_
  refine wp_irem d_R_play_17 hp (fun _ hp => ?_)
  refine wp_k hp (fun hk hp => ?_)
  refine wp_ci (M' := mi_R_act) (As := [.ref a1, .int x2, .int ((dr_ushr ((x3 * 1103515245) + 12345) 16) - (dr_ushr ((x3 * 1103515245) + 12345) 16) / 20 * 20)]) (st := []) (fr' := 7) (wo' := 96) (dr_sV (A := [.int x2, .int ((dr_ushr ((x3 * 1103515245) + 12345) 16) - (dr_ushr ((x3 * 1103515245) + 12345) 16) / 20 * 20)]) cl_R hk tw_611 tw_458 tw_459 co_R_act ⟨by decide, by decide⟩ (by rfl) d_R_play_18 rfl) co_R_act (by decide +kernel) (by decide) (Nat.le_of_ble_eq_true rfl) (Nat.le_of_ble_eq_true rfl) (fun Q' hq => t_R_act _ _ _ _ hq) hp (fun x5 h4 hp => ?_) (fun E q h3 hp => wx_out (by decide) hp)
  exact wp_ireturn rfl rfl d_R_play_21 hp
def f_R_countUnits_14 : Nat → Int32 → Int32 → Nat → Int32 → Int32 → dr_AH → Option (dr_RS × dr_AH)
  | 0, _, _, _, _, _, _ => none
  | n + 1, x1, x2, a3, x4, x5, h => if x4 ≤ x5 then some (.inl (some (.int x2)), h) else (dr_ai h a3 x5 fun x6 => if x6 = x1 then f_R_countUnits_14 n x1 (x2 + 1) a3 x4 (x5 + 1) h else f_R_countUnits_14 n x1 x2 a3 x4 (x5 + 1) h)
def f_R_countUnits (a1 : Nat) (x2 : Int32) (h : dr_AH) : Option (dr_RS × dr_AH) :=
  (dr_gr' h 3 a1 7 fun a3 => (dr_ln h 0 a3 fun x4 => f_R_countUnits_14 dr_fu x2 0 a3 x4 0 h))
set_option maxRecDepth 100000 in
set_option maxHeartbeats 400000 in
theorem t_R_countUnits_14 {Q : dr_RS → dr_AH → Prop} : ∀ (n : Nat) (x1 : Int32) (x2 : Int32) (a3 : Nat) (x4 : Int32) (x5 : Int32) (h : dr_AH), dr_p (f_R_countUnits_14 n x1 x2 a3 x4 x5 h) Q → dr_W mi_R_countUnits 0 0 14 [(1, .int x1), (2, .int x2), (3, .ref a3), (4, .int x4), (5, .int x5)] [] h Q := by
  intro n
  induction n with
  | zero => intro x1 x2 a3 x4 x5 h hp; exact (dr_p0 hp).elim
  | succ n ih =>
    intro x1 x2 a3 x4 x5 h hp
    unfold f_R_countUnits_14 at hp
    refine wp_iload d_R_countUnits_14 4 rfl ?_
    refine wp_iload d_R_countUnits_16 3 rfl ?_
    refine wp_icmp_ge (tgt := 42) d_R_countUnits_18 (by decide) hp (fun _ hp => ?_) (fun _ hp => ?_)
    · refine wp_iload_n d_R_countUnits_42 1 rfl ?_
      exact wp_ireturn rfl rfl d_R_countUnits_43 hp
    · refine wp_aload_n d_R_countUnits_21 2 rfl ?_
      refine wp_iload d_R_countUnits_22 4 rfl ?_
      refine wp_iaload d_R_countUnits_24 hp (fun x6 hp => ?_)
      refine wp_istore (l' := [(6, .int x6), (1, .int x1), (2, .int x2), (3, .ref a3), (4, .int x4), (5, .int x5)]) d_R_countUnits_25 (by decide) rfl ?_
      refine wp_iload d_R_countUnits_27 0 rfl ?_
      refine wp_iload_n d_R_countUnits_29 1 rfl ?_
      refine wp_icmp_ne (tgt := 36) d_R_countUnits_30 (by decide) hp (fun _ hp => ?_) (fun _ hp => ?_)
      · refine wp_iinc (v := (x5 + 1)) (l' := [(5, .int (x5 + 1)), (6, .int x6), (1, .int x1), (2, .int x2), (3, .ref a3), (4, .int x4)]) d_R_countUnits_36 5 rfl rfl (by decide) rfl ?_
        refine wp_goto (tgt := 14) d_R_countUnits_39 (by decide) ?_
        exact wp_sub [2, 3, 4, 5, 0] rfl (ih _ _ _ _ _ _ hp)
      · refine wp_iinc (v := (x2 + 1)) (l' := [(2, .int (x2 + 1)), (6, .int x6), (1, .int x1), (3, .ref a3), (4, .int x4), (5, .int x5)]) d_R_countUnits_33 2 rfl rfl (by decide) rfl ?_
        refine wp_iinc (v := (x5 + 1)) (l' := [(5, .int (x5 + 1)), (2, .int (x2 + 1)), (6, .int x6), (1, .int x1), (3, .ref a3), (4, .int x4)]) d_R_countUnits_36 5 rfl rfl (by decide) rfl ?_
        refine wp_goto (tgt := 14) d_R_countUnits_39 (by decide) ?_
        exact wp_sub [3, 1, 4, 5, 0] rfl (ih _ _ _ _ _ _ hp)
set_option maxRecDepth 100000 in
set_option maxHeartbeats 400000 in
theorem t_R_countUnits {Q : dr_RS → dr_AH → Prop} : ∀ (a1 : Nat) (x2 : Int32) (h : dr_AH), dr_p (f_R_countUnits a1 x2 h) Q → dr_W mi_R_countUnits 0 0 0 [(0, .ref a1), (1, .int x2)] [] h Q := by
  intro a1 x2 h hp
  unfold f_R_countUnits at hp
  refine wp_iconst (v := 0) (by decide) d_R_countUnits_0 ?_
  refine wp_istore_n (l' := [(2, .int 0), (0, .ref a1), (1, .int x2)]) d_R_countUnits_1 (by decide) rfl ?_
  refine wp_aload_n d_R_countUnits_2 1 rfl ?_
  refine wp_gr cl_R fl_R_42 (by decide) d_R_countUnits_3 hp (fun a3 hp => ?_) (fun hp => (dr_p0 hp).elim)
  refine wp_astore_n (l' := [(3, .ref a3), (2, .int 0), (0, .ref a1), (1, .int x2)]) d_R_countUnits_6 (by decide) rfl ?_
  refine wp_aload_n d_R_countUnits_7 0 rfl ?_
  refine wp_alen (c := 0) (by decide) d_R_countUnits_8 hp (fun x4 hp => ?_)
  refine wp_istore (l' := [(4, .int x4), (3, .ref a3), (2, .int 0), (0, .ref a1), (1, .int x2)]) d_R_countUnits_9 (by decide) rfl ?_
  refine wp_iconst (v := 0) (by decide) d_R_countUnits_11 ?_
  refine wp_istore (l' := [(5, .int 0), (4, .int x4), (3, .ref a3), (2, .int 0), (0, .ref a1), (1, .int x2)]) d_R_countUnits_12 (by decide) rfl ?_
  exact wp_sub [5, 3, 2, 1, 0] rfl (t_R_countUnits_14 dr_fu _ _ _ _ _ _ hp)
def f_R_drill (a1 : Nat) (x2 : Int32) (x3 : Int32) (h : dr_AH) : Option (dr_RS × dr_AH) :=
  (dr_k h a1 3 (dr_cr' (f_R_knownDrill a1 x2 h) fun a5 h4 => if x3 = 0 then (dr_gi h4 0 a5 2 fun x6 => if x6 = 0 then some (.inl (some (.int 0)), h4) else some (.inl (some (.int 1)), h4)) else if x3 = 1 then (dr_gi h4 0 a5 1 fun x7 => some (.inl (some (.int x7)), h4)) else if x3 = 2 then (dr_gi h4 0 a5 8 fun x8 => some (.inl (some (.int x8)), h4)) else if x3 = 3 then (dr_k h4 a1 3 (dr_ci' (f_R_countUnits a1 x2 h4) fun x10 h9 => some (.inl (some (.int x10)), h9))) else if x3 = 4 then (dr_gi h4 0 a5 4 fun x11 => some (.inl (some (.int x11)), h4)) else dr_th h4 "java/lang/IllegalArgumentException"))
set_option maxRecDepth 100000 in
set_option maxHeartbeats 400000 in
theorem t_R_drill {Q : dr_RS → dr_AH → Prop} : ∀ (a1 : Nat) (x2 : Int32) (x3 : Int32) (h : dr_AH), dr_p (f_R_drill a1 x2 x3 h) Q → dr_W mi_R_drill 7 96 0 [(0, .ref a1), (1, .int x2), (2, .int x3)] [] h Q := by
  intro a1 x2 x3 h hp
  unfold f_R_drill at hp
  refine wp_aload_n d_R_drill_0 0 rfl ?_
  refine wp_iload_n d_R_drill_1 1 rfl ?_
  refine wp_k hp (fun hk hp => ?_)
  refine wp_cr (M' := mi_R_knownDrill) (As := [.ref a1, .int x2]) (st := []) (fr' := 6) (wo' := 82) (dr_sV (A := [.int x2]) cl_R hk tw_417 tw_419 tp_12 co_R_knownDrill ⟨by decide, by decide⟩ (by rfl) d_R_drill_2 rfl) co_R_knownDrill (by decide +kernel) (by decide) (Nat.le_of_ble_eq_true rfl) (Nat.le_of_ble_eq_true rfl) (fun Q' hq => t_R_knownDrill _ _ _ hq) hp (fun a5 h4 hp => ?_) (fun E q h3 hp => wx_out (by decide) hp)
  refine wp_astore_n (l' := [(3, .ref a5), (0, .ref a1), (1, .int x2), (2, .int x3)]) d_R_drill_5 (by decide) rfl ?_
  refine wp_iload_n d_R_drill_6 3 rfl ?_
  refine wp_sw hp (fun hx hp => ?_) (fun hn0 hp => ?_)
  · refine wp_tin (off := 33) (tgt := 40) hx d_R_drill_7 (by decide) (by decide) (by decide) (by decide) ?_
    refine wp_aload_n d_R_drill_40 0 rfl ?_
    refine wp_gi cl_D fl_R_109 (by decide) d_R_drill_41 hp (fun x6 hp => ?_)
    refine wp_if_eq (tgt := 51) d_R_drill_44 (by decide) hp (fun _ hp => ?_) (fun _ hp => ?_)
    · refine wp_iconst (v := 0) (by decide) d_R_drill_51 ?_
      exact wp_ireturn rfl rfl d_R_drill_52 hp
    · refine wp_iconst (v := 1) (by decide) d_R_drill_47 ?_
      refine wp_goto (tgt := 52) d_R_drill_48 (by decide) ?_
      exact wp_ireturn rfl rfl d_R_drill_52 hp
  · refine wp_sw hp (fun hx hp => ?_) (fun hn1 hp => ?_)
    · refine wp_tin (off := 46) (tgt := 53) hx d_R_drill_7 (by decide) (by decide) (by decide) (by decide) ?_
      refine wp_aload_n d_R_drill_53 0 rfl ?_
      refine wp_gi cl_D fl_R_207 (by decide) d_R_drill_54 hp (fun x7 hp => ?_)
      exact wp_ireturn rfl rfl d_R_drill_57 hp
    · refine wp_sw hp (fun hx hp => ?_) (fun hn2 hp => ?_)
      · refine wp_tin (off := 51) (tgt := 58) hx d_R_drill_7 (by decide) (by decide) (by decide) (by decide) ?_
        refine wp_aload_n d_R_drill_58 0 rfl ?_
        refine wp_gi cl_D fl_R_210 (by decide) d_R_drill_59 hp (fun x8 hp => ?_)
        exact wp_ireturn rfl rfl d_R_drill_62 hp
      · refine wp_sw hp (fun hx hp => ?_) (fun hn3 hp => ?_)
        · refine wp_tin (off := 56) (tgt := 63) hx d_R_drill_7 (by decide) (by decide) (by decide) (by decide) ?_
          refine wp_aload_n d_R_drill_63 1 rfl ?_
          refine wp_iload_n d_R_drill_64 2 rfl ?_
          refine wp_k hp (fun hk hp => ?_)
          refine wp_ci (M' := mi_R_countUnits) (As := [.ref a1, .int x2]) (st := []) (fr' := 0) (wo' := 0) (dr_sV (A := [.int x2]) cl_R hk tw_619 tw_621 tp_15 co_R_countUnits ⟨by decide, by decide⟩ (by rfl) d_R_drill_65 rfl) co_R_countUnits (by decide +kernel) (by decide) (Nat.le_of_ble_eq_true rfl) (Nat.le_of_ble_eq_true rfl) (fun Q' hq => t_R_countUnits _ _ _ hq) hp (fun x10 h9 hp => ?_) (fun E q h3 hp => wx_out (by decide) hp)
          exact wp_ireturn rfl rfl d_R_drill_68 hp
        · refine wp_sw hp (fun hx hp => ?_) (fun hn4 hp => ?_)
          · refine wp_tin (off := 62) (tgt := 69) hx d_R_drill_7 (by decide) (by decide) (by decide) (by decide) ?_
            refine wp_aload_n d_R_drill_69 0 rfl ?_
            refine wp_gi cl_D fl_R_216 (by decide) d_R_drill_70 hp (fun x11 hp => ?_)
            exact wp_ireturn rfl rfl d_R_drill_73 hp
          · refine wp_tableOut (tgt := 74) d_R_drill_7 (by have e0 := lv_neT hn0 (a := 0) (by decide); have e1 := lv_neT hn1 (a := 1) (by decide); have e2 := lv_neT hn2 (a := 2) (by decide); have e3 := lv_neT hn3 (a := 3) (by decide); have e4 := lv_neT hn4 (a := 4) (by decide); omega) (by decide) ?_
            exact wp_throwS (by decide) (by decide) tw_421 tw_14 tw_493 at_IA d_R_drill_74 d_R_drill_77 d_R_drill_78 d_R_drill_80 d_R_drill_83 (by decide) (by decide) (Nat.le_of_ble_eq_true rfl) hp
