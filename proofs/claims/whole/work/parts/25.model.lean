def f_M_init_219 : Nat → Nat → Int32 → dr_AH → Option (dr_RS × dr_AH)
  | 0, _, _, _ => none
  | n + 1, a1, x2, h => if 20 ≤ x2 then some (.inl none, h) else (dr_gr' h 4 a1 26 fun a3 => (dr_si h a3 x2 (-1) fun h4 => f_M_init_219 n a1 (x2 + 1) h4))
def f_M_init (a1 : Nat) (h : dr_AH) : Option (dr_RS × dr_AH) :=
  (dr_na h 0 (.int 0) 300 fun a2 h3 => (dr_pf h3 4 a1 3 (.ref a2) fun h4 => (dr_pf h4 4 a1 4 (.int (-1)) fun h5 => (dr_na h5 2 (.int 0) 410 fun a6 h7 => (dr_pf h7 4 a1 7 (.ref a6) fun h8 => (dr_na h8 0 (.int 0) 410 fun a9 h10 => (dr_pf h10 4 a1 8 (.ref a9) fun h11 => (dr_na h11 0 (.int 0) 410 fun a12 h13 => (dr_pf h13 4 a1 9 (.ref a12) fun h14 => (dr_na h14 0 (.int 0) 410 fun a15 h16 => (dr_pf h16 4 a1 10 (.ref a15) fun h17 => (dr_na h17 0 (.int 0) 410 fun a18 h19 => (dr_pf h19 4 a1 11 (.ref a18) fun h20 => (dr_na h20 2 (.int 0) 410 fun a21 h22 => (dr_pf h22 4 a1 12 (.ref a21) fun h23 => (dr_na h23 0 (.int 0) 410 fun a24 h25 => (dr_pf h25 4 a1 13 (.ref a24) fun h26 => (dr_na h26 2 (.int 0) 210 fun a27 h28 => (dr_pf h28 4 a1 14 (.ref a27) fun h29 => (dr_na h29 0 (.int 0) 210 fun a30 h31 => (dr_pf h31 4 a1 15 (.ref a30) fun h32 => (dr_na h32 0 (.int 0) 210 fun a33 h34 => (dr_pf h34 4 a1 16 (.ref a33) fun h35 => (dr_na h35 0 (.int 0) 210 fun a36 h37 => (dr_pf h37 4 a1 17 (.ref a36) fun h38 => (dr_na h38 0 (.int 0) 210 fun a39 h40 => (dr_pf h40 4 a1 18 (.ref a39) fun h41 => (dr_na h41 0 (.int 0) 8 fun a42 h43 => (dr_pf h43 4 a1 20 (.ref a42) fun h44 => (dr_na h44 2 (.int 0) 8 fun a45 h46 => (dr_pf h46 4 a1 21 (.ref a45) fun h47 => (dr_na h47 0 (.int 0) 328 fun a48 h49 => (dr_pf h49 4 a1 22 (.ref a48) fun h50 => (dr_na h50 0 (.int 0) 8 fun a51 h52 => (dr_pf h52 4 a1 23 (.ref a51) fun h53 => (dr_na h53 0 (.int 0) 480 fun a54 h55 => (dr_pf h55 4 a1 24 (.ref a54) fun h56 => (dr_na h56 0 (.int 0) 480 fun a57 h58 => (dr_pf h58 4 a1 25 (.ref a57) fun h59 => (dr_na h59 0 (.int 0) 20 fun a60 h61 => (dr_pf h61 4 a1 26 (.ref a60) fun h62 => (dr_na h62 0 (.int 0) 100 fun a63 h64 => (dr_pf h64 4 a1 28 (.ref a63) fun h65 => (dr_na h65 0 (.int 0) 100 fun a66 h67 => (dr_pf h67 4 a1 29 (.ref a66) fun h68 => (dr_na h68 0 (.int 0) 100 fun a69 h70 => (dr_pf h70 4 a1 30 (.ref a69) fun h71 => (dr_na h71 2 (.int 0) 100 fun a72 h73 => (dr_pf h73 4 a1 31 (.ref a72) fun h74 => f_M_init_219 dr_fu a1 0 h74)))))))))))))))))))))))))))))))))))))))))))))))))
set_option maxRecDepth 100000 in
set_option maxHeartbeats 400000 in
theorem t_M_init_219 {Q : dr_RS → dr_AH → Prop} : ∀ (n : Nat) (a1 : Nat) (x2 : Int32) (h : dr_AH), dr_p (f_M_init_219 n a1 x2 h) Q → dr_W mi_M_init 1 12 219 [(0, .ref a1), (1, .int x2)] [] h Q := by
  intro n
  induction n with
  | zero => intro a1 x2 h hp; exact (dr_p0 hp).elim
  | succ n ih =>
    intro a1 x2 h hp
    unfold f_M_init_219 at hp
    refine wp_iload_n d_M_init_219 1 rfl ?_
    refine wp_bipush (v := 20) (by decide) d_M_init_220 ?_
    refine wp_icmp_ge (tgt := 238) d_M_init_222 (by decide) hp (fun _ hp => ?_) (fun _ hp => ?_)
    · exact wp_return rfl d_M_init_238 hp
    · refine wp_aload_n d_M_init_225 0 rfl ?_
      refine wp_gr cl_M fl_M_72 (by decide) d_M_init_226 hp (fun a3 hp => ?_) (fun hp => (dr_p0 hp).elim)
      refine wp_iload_n d_M_init_229 1 rfl ?_
      refine wp_iconst (v := (-1)) (by decide) d_M_init_230 ?_
      refine wp_iastore d_M_init_231 hp (fun h4 hp => ?_)
      refine wp_iinc (v := (x2 + 1)) (l' := [(1, .int (x2 + 1)), (0, .ref a1)]) d_M_init_232 1 rfl rfl (by decide) rfl ?_
      refine wp_goto (tgt := 219) d_M_init_235 (by decide) ?_
      exact wp_sub [1, 0] rfl (ih _ _ _ hp)
set_option maxRecDepth 100000 in
set_option maxHeartbeats 400000 in
theorem t_M_init {Q : dr_RS → dr_AH → Prop} : ∀ (a1 : Nat) (h : dr_AH), dr_p (f_M_init a1 h) Q → dr_W mi_M_init 1 12 0 [(0, .ref a1)] [] h Q := by
  intro a1 h hp
  unfold f_M_init at hp
  refine wp_aload_n d_M_init_0 0 rfl ?_
  refine wp_objInit tw_628 tw_22 tw_23 (by decide) (Nat.le_of_ble_eq_true rfl) d_M_init_1 ?_
  refine wp_aload_n d_M_init_4 0 rfl ?_
  refine wp_sipush (v := 300) (by decide) d_M_init_5 ?_
  refine wp_newI tw_43 d_M_init_8 hp (fun a2 h3 hp => ?_)
  refine wp_put cl_M fl_M_7 (by decide) (Or.inr ⟨by rfl, by rfl⟩) (by rfl) (by rfl) d_M_init_10 hp (fun h4 hp => ?_)
  refine wp_aload_n d_M_init_13 0 rfl ?_
  refine wp_iconst (v := (-1)) (by decide) d_M_init_14 ?_
  refine wp_put cl_M fl_M_13 (by decide) (Or.inl (by rfl)) (by rfl) (by rfl) d_M_init_15 hp (fun h5 hp => ?_)
  refine wp_aload_n d_M_init_18 0 rfl ?_
  refine wp_sipush (v := 410) (by decide) d_M_init_19 ?_
  refine wp_newZ tw_105 d_M_init_22 hp (fun a6 h7 hp => ?_)
  refine wp_put cl_M fl_M_17 (by decide) (Or.inr ⟨by rfl, by rfl⟩) (by rfl) (by rfl) d_M_init_24 hp (fun h8 hp => ?_)
  refine wp_aload_n d_M_init_27 0 rfl ?_
  refine wp_sipush (v := 410) (by decide) d_M_init_28 ?_
  refine wp_newI tw_43 d_M_init_31 hp (fun a9 h10 hp => ?_)
  refine wp_put cl_M fl_M_21 (by decide) (Or.inr ⟨by rfl, by rfl⟩) (by rfl) (by rfl) d_M_init_33 hp (fun h11 hp => ?_)
  refine wp_aload_n d_M_init_36 0 rfl ?_
  refine wp_sipush (v := 410) (by decide) d_M_init_37 ?_
  refine wp_newI tw_43 d_M_init_40 hp (fun a12 h13 hp => ?_)
  refine wp_put cl_M fl_M_24 (by decide) (Or.inr ⟨by rfl, by rfl⟩) (by rfl) (by rfl) d_M_init_42 hp (fun h14 hp => ?_)
  refine wp_aload_n d_M_init_45 0 rfl ?_
  refine wp_sipush (v := 410) (by decide) d_M_init_46 ?_
  refine wp_newI tw_43 d_M_init_49 hp (fun a15 h16 hp => ?_)
  refine wp_put cl_M fl_M_27 (by decide) (Or.inr ⟨by rfl, by rfl⟩) (by rfl) (by rfl) d_M_init_51 hp (fun h17 hp => ?_)
  refine wp_aload_n d_M_init_54 0 rfl ?_
  refine wp_sipush (v := 410) (by decide) d_M_init_55 ?_
  refine wp_newI tw_43 d_M_init_58 hp (fun a18 h19 hp => ?_)
  refine wp_put cl_M fl_M_30 (by decide) (Or.inr ⟨by rfl, by rfl⟩) (by rfl) (by rfl) d_M_init_60 hp (fun h20 hp => ?_)
  refine wp_aload_n d_M_init_63 0 rfl ?_
  refine wp_sipush (v := 410) (by decide) d_M_init_64 ?_
  refine wp_newZ tw_105 d_M_init_67 hp (fun a21 h22 hp => ?_)
  refine wp_put cl_M fl_M_33 (by decide) (Or.inr ⟨by rfl, by rfl⟩) (by rfl) (by rfl) d_M_init_69 hp (fun h23 hp => ?_)
  refine wp_aload_n d_M_init_72 0 rfl ?_
  refine wp_sipush (v := 410) (by decide) d_M_init_73 ?_
  refine wp_newI tw_43 d_M_init_76 hp (fun a24 h25 hp => ?_)
  refine wp_put cl_M fl_M_36 (by decide) (Or.inr ⟨by rfl, by rfl⟩) (by rfl) (by rfl) d_M_init_78 hp (fun h26 hp => ?_)
  refine wp_aload_n d_M_init_81 0 rfl ?_
  refine wp_sipush (v := 210) (by decide) d_M_init_82 ?_
  refine wp_newZ tw_105 d_M_init_85 hp (fun a27 h28 hp => ?_)
  refine wp_put cl_M fl_M_39 (by decide) (Or.inr ⟨by rfl, by rfl⟩) (by rfl) (by rfl) d_M_init_87 hp (fun h29 hp => ?_)
  refine wp_aload_n d_M_init_90 0 rfl ?_
  refine wp_sipush (v := 210) (by decide) d_M_init_91 ?_
  refine wp_newI tw_43 d_M_init_94 hp (fun a30 h31 hp => ?_)
  refine wp_put cl_M fl_M_42 (by decide) (Or.inr ⟨by rfl, by rfl⟩) (by rfl) (by rfl) d_M_init_96 hp (fun h32 hp => ?_)
  refine wp_aload_n d_M_init_99 0 rfl ?_
  refine wp_sipush (v := 210) (by decide) d_M_init_100 ?_
  refine wp_newI tw_43 d_M_init_103 hp (fun a33 h34 hp => ?_)
  refine wp_put cl_M fl_M_45 (by decide) (Or.inr ⟨by rfl, by rfl⟩) (by rfl) (by rfl) d_M_init_105 hp (fun h35 hp => ?_)
  refine wp_aload_n d_M_init_108 0 rfl ?_
  refine wp_sipush (v := 210) (by decide) d_M_init_109 ?_
  refine wp_newI tw_43 d_M_init_112 hp (fun a36 h37 hp => ?_)
  refine wp_put cl_M fl_M_48 (by decide) (Or.inr ⟨by rfl, by rfl⟩) (by rfl) (by rfl) d_M_init_114 hp (fun h38 hp => ?_)
  refine wp_aload_n d_M_init_117 0 rfl ?_
  refine wp_sipush (v := 210) (by decide) d_M_init_118 ?_
  refine wp_newI tw_43 d_M_init_121 hp (fun a39 h40 hp => ?_)
  refine wp_put cl_M fl_M_51 (by decide) (Or.inr ⟨by rfl, by rfl⟩) (by rfl) (by rfl) d_M_init_123 hp (fun h41 hp => ?_)
  refine wp_aload_n d_M_init_126 0 rfl ?_
  refine wp_bipush (v := 8) (by decide) d_M_init_127 ?_
  refine wp_newI tw_43 d_M_init_129 hp (fun a42 h43 hp => ?_)
  refine wp_put cl_M fl_M_54 (by decide) (Or.inr ⟨by rfl, by rfl⟩) (by rfl) (by rfl) d_M_init_131 hp (fun h44 hp => ?_)
  refine wp_aload_n d_M_init_134 0 rfl ?_
  refine wp_bipush (v := 8) (by decide) d_M_init_135 ?_
  refine wp_newZ tw_105 d_M_init_137 hp (fun a45 h46 hp => ?_)
  refine wp_put cl_M fl_M_57 (by decide) (Or.inr ⟨by rfl, by rfl⟩) (by rfl) (by rfl) d_M_init_139 hp (fun h47 hp => ?_)
  refine wp_aload_n d_M_init_142 0 rfl ?_
  refine wp_sipush (v := 328) (by decide) d_M_init_143 ?_
  refine wp_newI tw_43 d_M_init_146 hp (fun a48 h49 hp => ?_)
  refine wp_put cl_M fl_M_60 (by decide) (Or.inr ⟨by rfl, by rfl⟩) (by rfl) (by rfl) d_M_init_148 hp (fun h50 hp => ?_)
  refine wp_aload_n d_M_init_151 0 rfl ?_
  refine wp_bipush (v := 8) (by decide) d_M_init_152 ?_
  refine wp_newI tw_43 d_M_init_154 hp (fun a51 h52 hp => ?_)
  refine wp_put cl_M fl_M_63 (by decide) (Or.inr ⟨by rfl, by rfl⟩) (by rfl) (by rfl) d_M_init_156 hp (fun h53 hp => ?_)
  refine wp_aload_n d_M_init_159 0 rfl ?_
  refine wp_sipush (v := 480) (by decide) d_M_init_160 ?_
  refine wp_newI tw_43 d_M_init_163 hp (fun a54 h55 hp => ?_)
  refine wp_put cl_M fl_M_66 (by decide) (Or.inr ⟨by rfl, by rfl⟩) (by rfl) (by rfl) d_M_init_165 hp (fun h56 hp => ?_)
  refine wp_aload_n d_M_init_168 0 rfl ?_
  refine wp_sipush (v := 480) (by decide) d_M_init_169 ?_
  refine wp_newI tw_43 d_M_init_172 hp (fun a57 h58 hp => ?_)
  refine wp_put cl_M fl_M_69 (by decide) (Or.inr ⟨by rfl, by rfl⟩) (by rfl) (by rfl) d_M_init_174 hp (fun h59 hp => ?_)
  refine wp_aload_n d_M_init_177 0 rfl ?_
  refine wp_bipush (v := 20) (by decide) d_M_init_178 ?_
  refine wp_newI tw_43 d_M_init_180 hp (fun a60 h61 hp => ?_)
  refine wp_put cl_M fl_M_72 (by decide) (Or.inr ⟨by rfl, by rfl⟩) (by rfl) (by rfl) d_M_init_182 hp (fun h62 hp => ?_)
  refine wp_aload_n d_M_init_185 0 rfl ?_
  refine wp_bipush (v := 100) (by decide) d_M_init_186 ?_
  refine wp_newI tw_43 d_M_init_188 hp (fun a63 h64 hp => ?_)
  refine wp_put cl_M fl_M_75 (by decide) (Or.inr ⟨by rfl, by rfl⟩) (by rfl) (by rfl) d_M_init_190 hp (fun h65 hp => ?_)
  refine wp_aload_n d_M_init_193 0 rfl ?_
  refine wp_bipush (v := 100) (by decide) d_M_init_194 ?_
  refine wp_newI tw_43 d_M_init_196 hp (fun a66 h67 hp => ?_)
  refine wp_put cl_M fl_M_78 (by decide) (Or.inr ⟨by rfl, by rfl⟩) (by rfl) (by rfl) d_M_init_198 hp (fun h68 hp => ?_)
  refine wp_aload_n d_M_init_201 0 rfl ?_
  refine wp_bipush (v := 100) (by decide) d_M_init_202 ?_
  refine wp_newI tw_43 d_M_init_204 hp (fun a69 h70 hp => ?_)
  refine wp_put cl_M fl_M_81 (by decide) (Or.inr ⟨by rfl, by rfl⟩) (by rfl) (by rfl) d_M_init_206 hp (fun h71 hp => ?_)
  refine wp_aload_n d_M_init_209 0 rfl ?_
  refine wp_bipush (v := 100) (by decide) d_M_init_210 ?_
  refine wp_newZ tw_105 d_M_init_212 hp (fun a72 h73 hp => ?_)
  refine wp_put cl_M fl_M_84 (by decide) (Or.inr ⟨by rfl, by rfl⟩) (by rfl) (by rfl) d_M_init_214 hp (fun h74 hp => ?_)
  refine wp_iconst (v := 0) (by decide) d_M_init_217 ?_
  refine wp_istore_n (l' := [(1, .int 0), (0, .ref a1)]) d_M_init_218 (by decide) rfl ?_
  exact wp_sub [1, 0] rfl (t_M_init_219 dr_fu _ _ _ hp)
def f_M_thrown (a1 : Nat) (h : dr_AH) : Option (dr_RS × dr_AH) :=
  (dr_gi h 4 a1 0 fun x2 => some (.inl (some (.int x2)), h))
set_option maxRecDepth 100000 in
set_option maxHeartbeats 400000 in
theorem t_M_thrown {Q : dr_RS → dr_AH → Prop} : ∀ (a1 : Nat) (h : dr_AH), dr_p (f_M_thrown a1 h) Q → dr_W mi_M_thrown 0 0 0 [(0, .ref a1)] [] h Q := by
  intro a1 h hp
  unfold f_M_thrown at hp
  refine wp_aload_n d_M_thrown_0 0 rfl ?_
  refine wp_gi cl_M fl_M_87 (by decide) d_M_thrown_1 hp (fun x2 hp => ?_)
  exact wp_ireturn rfl rfl d_M_thrown_4 hp
def f_M_in (x1 : Int32) (x2 : Int32) (x3 : Int32) (h : dr_AH) : Option (dr_RS × dr_AH) :=
  if x1 < x2 then dr_rz 0 h else if x3 < x1 then dr_rz 0 h else dr_rz 1 h
set_option maxRecDepth 100000 in
set_option maxHeartbeats 400000 in
theorem t_M_in {Q : dr_RS → dr_AH → Prop} : ∀ (x1 : Int32) (x2 : Int32) (x3 : Int32) (h : dr_AH), dr_p (f_M_in x1 x2 x3 h) Q → dr_W mi_M_in 0 0 0 [(0, .int x1), (1, .int x2), (2, .int x3)] [] h Q := by
  intro x1 x2 x3 h hp
  unfold f_M_in at hp
  refine wp_iload_n d_M_in_0 0 rfl ?_
  refine wp_iload_n d_M_in_1 1 rfl ?_
  refine wp_icmp_lt (tgt := 14) d_M_in_2 (by decide) hp (fun _ hp => ?_) (fun _ hp => ?_)
  · refine wp_iconst (v := 0) (by decide) d_M_in_14 ?_
    exact wp_zreturn rfl d_M_in_15 hp
  · refine wp_iload_n d_M_in_5 0 rfl ?_
    refine wp_iload_n d_M_in_6 2 rfl ?_
    refine wp_icmp_gt (tgt := 14) d_M_in_7 (by decide) hp (fun _ hp => ?_) (fun _ hp => ?_)
    · refine wp_iconst (v := 0) (by decide) d_M_in_14 ?_
      exact wp_zreturn rfl d_M_in_15 hp
    · refine wp_iconst (v := 1) (by decide) d_M_in_10 ?_
      refine wp_goto (tgt := 15) d_M_in_11 (by decide) ?_
      exact wp_zreturn rfl d_M_in_15 hp
def f_M_goes (a1 : Nat) (x2 : Int32) (x3 : Int32) (x4 : Int32) (h : dr_AH) : Option (dr_RS × dr_AH) :=
  if x2 = 0 then (dr_pf h 4 a1 0 (.int 1) fun h11 => (dr_gi h11 4 a1 0 fun x12 => if x12 = 0 then dr_rz 1 h11 else dr_rz 0 h11)) else if x3 = 0 then (dr_pf h 4 a1 0 (.int 2) fun h9 => (dr_gi h9 4 a1 0 fun x10 => if x10 = 0 then dr_rz 1 h9 else dr_rz 0 h9)) else if x4 = 0 then (dr_pf h 4 a1 0 (.int 3) fun h7 => (dr_gi h7 4 a1 0 fun x8 => if x8 = 0 then dr_rz 1 h7 else dr_rz 0 h7)) else (dr_pf h 4 a1 0 (.int 0) fun h5 => (dr_gi h5 4 a1 0 fun x6 => if x6 = 0 then dr_rz 1 h5 else dr_rz 0 h5))
set_option maxRecDepth 100000 in
set_option maxHeartbeats 400000 in
theorem t_M_goes {Q : dr_RS → dr_AH → Prop} : ∀ (a1 : Nat) (x2 : Int32) (x3 : Int32) (x4 : Int32) (h : dr_AH), dr_p (f_M_goes a1 x2 x3 x4 h) Q → dr_W mi_M_goes 0 0 0 [(0, .ref a1), (1, .int x2), (2, .int x3), (3, .int x4)] [] h Q := by
  intro a1 x2 x3 x4 h hp
  unfold f_M_goes at hp
  refine wp_aload_n d_M_goes_0 0 rfl ?_
  refine wp_iload_n d_M_goes_1 1 rfl ?_
  refine wp_if_ne (tgt := 9) d_M_goes_2 (by decide) hp (fun _ hp => ?_) (fun _ hp => ?_)
  · refine wp_iload_n d_M_goes_9 2 rfl ?_
    refine wp_if_ne (tgt := 17) d_M_goes_10 (by decide) hp (fun _ hp => ?_) (fun _ hp => ?_)
    · refine wp_iload_n d_M_goes_17 3 rfl ?_
      refine wp_if_ne (tgt := 25) d_M_goes_18 (by decide) hp (fun _ hp => ?_) (fun _ hp => ?_)
      · refine wp_iconst (v := 0) (by decide) d_M_goes_25 ?_
        refine wp_put cl_M fl_M_87 (by decide) (Or.inl (by rfl)) (by rfl) (by rfl) d_M_goes_26 hp (fun h5 hp => ?_)
        refine wp_aload_n d_M_goes_29 0 rfl ?_
        refine wp_gi cl_M fl_M_87 (by decide) d_M_goes_30 hp (fun x6 hp => ?_)
        refine wp_if_ne (tgt := 40) d_M_goes_33 (by decide) hp (fun _ hp => ?_) (fun _ hp => ?_)
        · refine wp_iconst (v := 0) (by decide) d_M_goes_40 ?_
          exact wp_zreturn rfl d_M_goes_41 hp
        · refine wp_iconst (v := 1) (by decide) d_M_goes_36 ?_
          refine wp_goto (tgt := 41) d_M_goes_37 (by decide) ?_
          exact wp_zreturn rfl d_M_goes_41 hp
      · refine wp_iconst (v := 3) (by decide) d_M_goes_21 ?_
        refine wp_goto (tgt := 26) d_M_goes_22 (by decide) ?_
        refine wp_put cl_M fl_M_87 (by decide) (Or.inl (by rfl)) (by rfl) (by rfl) d_M_goes_26 hp (fun h7 hp => ?_)
        refine wp_aload_n d_M_goes_29 0 rfl ?_
        refine wp_gi cl_M fl_M_87 (by decide) d_M_goes_30 hp (fun x8 hp => ?_)
        refine wp_if_ne (tgt := 40) d_M_goes_33 (by decide) hp (fun _ hp => ?_) (fun _ hp => ?_)
        · refine wp_iconst (v := 0) (by decide) d_M_goes_40 ?_
          exact wp_zreturn rfl d_M_goes_41 hp
        · refine wp_iconst (v := 1) (by decide) d_M_goes_36 ?_
          refine wp_goto (tgt := 41) d_M_goes_37 (by decide) ?_
          exact wp_zreturn rfl d_M_goes_41 hp
    · refine wp_iconst (v := 2) (by decide) d_M_goes_13 ?_
      refine wp_goto (tgt := 26) d_M_goes_14 (by decide) ?_
      refine wp_put cl_M fl_M_87 (by decide) (Or.inl (by rfl)) (by rfl) (by rfl) d_M_goes_26 hp (fun h9 hp => ?_)
      refine wp_aload_n d_M_goes_29 0 rfl ?_
      refine wp_gi cl_M fl_M_87 (by decide) d_M_goes_30 hp (fun x10 hp => ?_)
      refine wp_if_ne (tgt := 40) d_M_goes_33 (by decide) hp (fun _ hp => ?_) (fun _ hp => ?_)
      · refine wp_iconst (v := 0) (by decide) d_M_goes_40 ?_
        exact wp_zreturn rfl d_M_goes_41 hp
      · refine wp_iconst (v := 1) (by decide) d_M_goes_36 ?_
        refine wp_goto (tgt := 41) d_M_goes_37 (by decide) ?_
        exact wp_zreturn rfl d_M_goes_41 hp
  · refine wp_iconst (v := 1) (by decide) d_M_goes_5 ?_
    refine wp_goto (tgt := 26) d_M_goes_6 (by decide) ?_
    refine wp_put cl_M fl_M_87 (by decide) (Or.inl (by rfl)) (by rfl) (by rfl) d_M_goes_26 hp (fun h11 hp => ?_)
    refine wp_aload_n d_M_goes_29 0 rfl ?_
    refine wp_gi cl_M fl_M_87 (by decide) d_M_goes_30 hp (fun x12 hp => ?_)
    refine wp_if_ne (tgt := 40) d_M_goes_33 (by decide) hp (fun _ hp => ?_) (fun _ hp => ?_)
    · refine wp_iconst (v := 0) (by decide) d_M_goes_40 ?_
      exact wp_zreturn rfl d_M_goes_41 hp
    · refine wp_iconst (v := 1) (by decide) d_M_goes_36 ?_
      refine wp_goto (tgt := 41) d_M_goes_37 (by decide) ?_
      exact wp_zreturn rfl d_M_goes_41 hp
def f_M_sign_39 : Nat → Nat → Int64 → Int32 → dr_AH → Option (dr_RS × dr_AH)
  | 0, _, _, _, _ => none
  | n + 1, a1, y2, x3, h => if x3 < 0 then (dr_gi h 4 a1 2 fun x4 => some (.inl (some (.int x4)), h)) else (dr_gr' h 4 a1 3 fun a5 => (dr_gi h 4 a1 2 fun x6 => (dr_si h a5 x6 ((Int64.toInt32 (y2 >>> (Int32.toInt64 (8 * x3) &&& 63))) &&& 255) fun h7 => (dr_gi h7 4 a1 2 fun x8 => (dr_pf h7 4 a1 2 (.int (x8 + 1)) fun h9 => f_M_sign_39 n a1 y2 (x3 + (-1)) h9)))))
def f_M_sign (a1 : Nat) (y2 : Int64) (x3 : Int32) (h : dr_AH) : Option (dr_RS × dr_AH) :=
  (dr_ci' (f_M_in x3 1 8 h) fun x5 h4 => (dr_gi h4 4 a1 2 fun x6 => if 300 < (x6 + x3) then (dr_k h4 a1 4 (dr_ci' (f_M_goes a1 x5 0 1 h4) fun x8 h7 => if x8 = 0 then some (.inl (some (.int 0)), h7) else f_M_sign_39 dr_fu a1 y2 (x3 - 1) h7)) else (dr_k h4 a1 4 (dr_ci' (f_M_goes a1 x5 1 1 h4) fun x10 h9 => if x10 = 0 then some (.inl (some (.int 0)), h9) else f_M_sign_39 dr_fu a1 y2 (x3 - 1) h9))))
set_option maxRecDepth 100000 in
set_option maxHeartbeats 400000 in
theorem t_M_sign_39 {Q : dr_RS → dr_AH → Prop} : ∀ (n : Nat) (a1 : Nat) (y2 : Int64) (x3 : Int32) (h : dr_AH), dr_p (f_M_sign_39 n a1 y2 x3 h) Q → dr_W mi_M_sign 1 15 39 [(0, .ref a1), (1, .long y2), (4, .int x3)] [] h Q := by
  intro n
  induction n with
  | zero => intro a1 y2 x3 h hp; exact (dr_p0 hp).elim
  | succ n ih =>
    intro a1 y2 x3 h hp
    unfold f_M_sign_39 at hp
    refine wp_iload d_M_sign_39 2 rfl ?_
    refine wp_if_lt (tgt := 81) d_M_sign_41 (by decide) hp (fun _ hp => ?_) (fun _ hp => ?_)
    · refine wp_aload_n d_M_sign_81 0 rfl ?_
      refine wp_gi cl_M fl_M_94 (by decide) d_M_sign_82 hp (fun x4 hp => ?_)
      exact wp_ireturn rfl rfl d_M_sign_85 hp
    · refine wp_aload_n d_M_sign_44 0 rfl ?_
      refine wp_gr cl_M fl_M_7 (by decide) d_M_sign_45 hp (fun a5 hp => ?_) (fun hp => (dr_p0 hp).elim)
      refine wp_aload_n d_M_sign_48 0 rfl ?_
      refine wp_gi cl_M fl_M_94 (by decide) d_M_sign_49 hp (fun x6 hp => ?_)
      refine wp_lload_n d_M_sign_52 1 rfl ?_
      refine wp_bipush (v := 8) (by decide) d_M_sign_53 ?_
      refine wp_iload d_M_sign_55 2 rfl ?_
      refine wp_imul d_M_sign_57 ?_
      refine wp_lshr (v := (y2 >>> (Int32.toInt64 (8 * x3) &&& 63))) rfl d_M_sign_58 ?_
      refine wp_l2i d_M_sign_59 ?_
      refine wp_sipush (v := 255) (by decide) d_M_sign_60 ?_
      refine wp_iand d_M_sign_63 ?_
      refine wp_iastore d_M_sign_64 hp (fun h7 hp => ?_)
      refine wp_aload_n d_M_sign_65 0 rfl ?_
      refine wp_dup rfl d_M_sign_66 ?_
      refine wp_gi cl_M fl_M_94 (by decide) d_M_sign_67 hp (fun x8 hp => ?_)
      refine wp_iconst (v := 1) (by decide) d_M_sign_70 ?_
      refine wp_iadd d_M_sign_71 ?_
      refine wp_put cl_M fl_M_94 (by decide) (Or.inl (by rfl)) (by rfl) (by rfl) d_M_sign_72 hp (fun h9 hp => ?_)
      refine wp_iinc (v := (x3 + (-1))) (l' := [(4, .int (x3 + (-1))), (0, .ref a1), (1, .long y2)]) d_M_sign_75 2 rfl rfl (by decide) rfl ?_
      refine wp_goto (tgt := 39) d_M_sign_78 (by decide) ?_
      exact wp_sub [1, 2, 0] rfl (ih _ _ _ _ hp)
set_option maxRecDepth 100000 in
set_option maxHeartbeats 400000 in
theorem t_M_sign {Q : dr_RS → dr_AH → Prop} : ∀ (a1 : Nat) (y2 : Int64) (x3 : Int32) (h : dr_AH), dr_p (f_M_sign a1 y2 x3 h) Q → dr_W mi_M_sign 1 15 0 [(0, .ref a1), (1, .long y2), (3, .int x3)] [] h Q := by
  intro a1 y2 x3 h hp
  unfold f_M_sign at hp
  refine wp_aload_n d_M_sign_0 0 rfl ?_
  refine wp_iload_n d_M_sign_1 2 rfl ?_
  refine wp_iconst (v := 1) (by decide) d_M_sign_2 ?_
  refine wp_bipush (v := 8) (by decide) d_M_sign_3 ?_
  refine wp_ci (M' := mi_M_in) (As := [.int x3, .int 1, .int 8]) (st := [.ref a1]) (fr' := 0) (wo' := 0) (dr_sS (A := [.int x3, .int 1, .int 8]) tw_734 tw_735 tw_5 co_M_in ⟨by decide, by decide⟩ (by rfl) d_M_sign_5 rfl) co_M_in (by decide +kernel) (by decide) (Nat.le_of_ble_eq_true rfl) (Nat.le_of_ble_eq_true rfl) (fun Q' hq => t_M_in _ _ _ _ hq) hp (fun x5 h4 hp => ?_) (fun E q h3 hp => wx_out (by decide) hp)
  refine wp_aload_n d_M_sign_8 0 rfl ?_
  refine wp_gi cl_M fl_M_94 (by decide) d_M_sign_9 hp (fun x6 hp => ?_)
  refine wp_iload_n d_M_sign_12 2 rfl ?_
  refine wp_iadd d_M_sign_13 ?_
  refine wp_sipush (v := 300) (by decide) d_M_sign_14 ?_
  refine wp_icmp_gt (tgt := 24) d_M_sign_17 (by decide) hp (fun _ hp => ?_) (fun _ hp => ?_)
  · refine wp_iconst (v := 0) (by decide) d_M_sign_24 ?_
    refine wp_iconst (v := 1) (by decide) d_M_sign_25 ?_
    refine wp_k hp (fun hk hp => ?_)
    refine wp_ci (M' := mi_M_goes) (As := [.ref a1, .int x5, .int 0, .int 1]) (st := []) (fr' := 0) (wo' := 0) (dr_sV (A := [.int x5, .int 0, .int 1]) cl_M hk tw_737 tw_739 tp_16 co_M_goes ⟨by decide, by decide⟩ (by rfl) d_M_sign_26 rfl) co_M_goes (by decide +kernel) (by decide) (Nat.le_of_ble_eq_true rfl) (Nat.le_of_ble_eq_true rfl) (fun Q' hq => t_M_goes _ _ _ _ _ hq) hp (fun x8 h7 hp => ?_) (fun E q h3 hp => wx_out (by decide) hp)
    refine wp_if_ne (tgt := 34) d_M_sign_29 (by decide) hp (fun _ hp => ?_) (fun _ hp => ?_)
    · refine wp_iload_n d_M_sign_34 2 rfl ?_
      refine wp_iconst (v := 1) (by decide) d_M_sign_35 ?_
      refine wp_isub d_M_sign_36 ?_
      refine wp_istore (l' := [(4, .int (x3 - 1)), (0, .ref a1), (1, .long y2), (3, .int x3)]) d_M_sign_37 (by decide) rfl ?_
      exact wp_sub [1, 2, 0] rfl (t_M_sign_39 dr_fu _ _ _ _ hp)
    · refine wp_iconst (v := 0) (by decide) d_M_sign_32 ?_
      exact wp_ireturn rfl rfl d_M_sign_33 hp
  · refine wp_iconst (v := 1) (by decide) d_M_sign_20 ?_
    refine wp_goto (tgt := 25) d_M_sign_21 (by decide) ?_
    refine wp_iconst (v := 1) (by decide) d_M_sign_25 ?_
    refine wp_k hp (fun hk hp => ?_)
    refine wp_ci (M' := mi_M_goes) (As := [.ref a1, .int x5, .int 1, .int 1]) (st := []) (fr' := 0) (wo' := 0) (dr_sV (A := [.int x5, .int 1, .int 1]) cl_M hk tw_737 tw_739 tp_16 co_M_goes ⟨by decide, by decide⟩ (by rfl) d_M_sign_26 rfl) co_M_goes (by decide +kernel) (by decide) (Nat.le_of_ble_eq_true rfl) (Nat.le_of_ble_eq_true rfl) (fun Q' hq => t_M_goes _ _ _ _ _ hq) hp (fun x10 h9 hp => ?_) (fun E q h3 hp => wx_out (by decide) hp)
    refine wp_if_ne (tgt := 34) d_M_sign_29 (by decide) hp (fun _ hp => ?_) (fun _ hp => ?_)
    · refine wp_iload_n d_M_sign_34 2 rfl ?_
      refine wp_iconst (v := 1) (by decide) d_M_sign_35 ?_
      refine wp_isub d_M_sign_36 ?_
      refine wp_istore (l' := [(4, .int (x3 - 1)), (0, .ref a1), (1, .long y2), (3, .int x3)]) d_M_sign_37 (by decide) rfl ?_
      exact wp_sub [1, 2, 0] rfl (t_M_sign_39 dr_fu _ _ _ _ hp)
    · refine wp_iconst (v := 0) (by decide) d_M_sign_32 ?_
      exact wp_ireturn rfl rfl d_M_sign_33 hp
def f_M_here (a1 : Nat) (h : dr_AH) : Option (dr_RS × dr_AH) :=
  (dr_gi h 4 a1 5 fun x2 => (dr_gi h 4 a1 2 fun x3 => if x3 ≤ x2 then some (.inl (some (.int (-1))), h) else (dr_gr' h 4 a1 3 fun a4 => (dr_gi h 4 a1 5 fun x5 => (dr_ai h a4 x5 fun x6 => some (.inl (some (.int x6)), h))))))
set_option maxRecDepth 100000 in
set_option maxHeartbeats 400000 in
theorem t_M_here {Q : dr_RS → dr_AH → Prop} : ∀ (a1 : Nat) (h : dr_AH), dr_p (f_M_here a1 h) Q → dr_W mi_M_here 0 0 0 [(0, .ref a1)] [] h Q := by
  intro a1 h hp
  unfold f_M_here at hp
  refine wp_aload_n d_M_here_0 0 rfl ?_
  refine wp_gi cl_M fl_M_101 (by decide) d_M_here_1 hp (fun x2 hp => ?_)
  refine wp_aload_n d_M_here_4 0 rfl ?_
  refine wp_gi cl_M fl_M_94 (by decide) d_M_here_5 hp (fun x3 hp => ?_)
  refine wp_icmp_ge (tgt := 23) d_M_here_8 (by decide) hp (fun _ hp => ?_) (fun _ hp => ?_)
  · refine wp_iconst (v := (-1)) (by decide) d_M_here_23 ?_
    exact wp_ireturn rfl rfl d_M_here_24 hp
  · refine wp_aload_n d_M_here_11 0 rfl ?_
    refine wp_gr cl_M fl_M_7 (by decide) d_M_here_12 hp (fun a4 hp => ?_) (fun hp => (dr_p0 hp).elim)
    refine wp_aload_n d_M_here_15 0 rfl ?_
    refine wp_gi cl_M fl_M_101 (by decide) d_M_here_16 hp (fun x5 hp => ?_)
    refine wp_iaload d_M_here_19 hp (fun x6 hp => ?_)
    refine wp_goto (tgt := 24) d_M_here_20 (by decide) ?_
    exact wp_ireturn rfl rfl d_M_here_24 hp
def f_M_see_0 : Nat → Nat → dr_AH → Option (dr_RS × dr_AH)
  | 0, _, _ => none
  | n + 1, a1, h => (dr_k h a1 4 (dr_ci' (f_M_here a1 h) fun x3 h2 => if x3 = 32 then (dr_gi h2 4 a1 5 fun x6 => (dr_pf h2 4 a1 5 (.int (x6 + 1)) fun h7 => f_M_see_0 n a1 h7)) else (dr_k h2 a1 4 (dr_ci' (f_M_here a1 h2) fun x5 h4 => some (.inl (some (.int x5)), h4)))))
def f_M_see (a1 : Nat) (h : dr_AH) : Option (dr_RS × dr_AH) :=
  f_M_see_0 dr_fu a1 h
set_option maxRecDepth 100000 in
set_option maxHeartbeats 400000 in
theorem t_M_see_0 {Q : dr_RS → dr_AH → Prop} : ∀ (n : Nat) (a1 : Nat) (h : dr_AH), dr_p (f_M_see_0 n a1 h) Q → dr_W mi_M_see 1 12 0 [(0, .ref a1)] [] h Q := by
  intro n
  induction n with
  | zero => intro a1 h hp; exact (dr_p0 hp).elim
  | succ n ih =>
    intro a1 h hp
    unfold f_M_see_0 at hp
    refine wp_aload_n d_M_see_0 0 rfl ?_
    refine wp_k hp (fun hk hp => ?_)
    refine wp_ci (M' := mi_M_here) (As := [.ref a1]) (st := []) (fr' := 0) (wo' := 0) (dr_sV (A := []) cl_M hk tw_749 tw_751 tp_18 co_M_here ⟨by decide, by decide⟩ (by rfl) d_M_see_1 rfl) co_M_here (by decide +kernel) (by decide) (Nat.le_of_ble_eq_true rfl) (Nat.le_of_ble_eq_true rfl) (fun Q' hq => t_M_here _ _ hq) hp (fun x3 h2 hp => ?_) (fun E q h3 hp => wx_out (by decide) hp)
    refine wp_bipush (v := 32) (by decide) d_M_see_4 ?_
    refine wp_icmp_ne (tgt := 22) d_M_see_6 (by decide) hp (fun _ hp => ?_) (fun _ hp => ?_)
    · refine wp_aload_n d_M_see_22 0 rfl ?_
      refine wp_k hp (fun hk hp => ?_)
      refine wp_ci (M' := mi_M_here) (As := [.ref a1]) (st := []) (fr' := 0) (wo' := 0) (dr_sV (A := []) cl_M hk tw_749 tw_751 tp_18 co_M_here ⟨by decide, by decide⟩ (by rfl) d_M_see_23 rfl) co_M_here (by decide +kernel) (by decide) (Nat.le_of_ble_eq_true rfl) (Nat.le_of_ble_eq_true rfl) (fun Q' hq => t_M_here _ _ hq) hp (fun x5 h4 hp => ?_) (fun E q h3 hp => wx_out (by decide) hp)
      exact wp_ireturn rfl rfl d_M_see_26 hp
    · refine wp_aload_n d_M_see_9 0 rfl ?_
      refine wp_dup rfl d_M_see_10 ?_
      refine wp_gi cl_M fl_M_101 (by decide) d_M_see_11 hp (fun x6 hp => ?_)
      refine wp_iconst (v := 1) (by decide) d_M_see_14 ?_
      refine wp_iadd d_M_see_15 ?_
      refine wp_put cl_M fl_M_101 (by decide) (Or.inl (by rfl)) (by rfl) (by rfl) d_M_see_16 hp (fun h7 hp => ?_)
      refine wp_goto (tgt := 0) d_M_see_19 (by decide) ?_
      exact wp_sub [0] rfl (ih _ _ hp)
set_option maxRecDepth 100000 in
set_option maxHeartbeats 400000 in
theorem t_M_see {Q : dr_RS → dr_AH → Prop} : ∀ (a1 : Nat) (h : dr_AH), dr_p (f_M_see a1 h) Q → dr_W mi_M_see 1 12 0 [(0, .ref a1)] [] h Q := by
  intro a1 h hp
  unfold f_M_see at hp
  exact wp_sub [0] rfl (t_M_see_0 dr_fu _ _ hp)
def f_M_fail (a1 : Nat) (x2 : Int32) (h : dr_AH) : Option (dr_RS × dr_AH) :=
  (dr_gi h 4 a1 6 fun x3 => if 0 ≤ x3 then some (.inl none, h) else (dr_pf h 4 a1 6 (.int x2) fun h4 => some (.inl none, h4)))
set_option maxRecDepth 100000 in
set_option maxHeartbeats 400000 in
theorem t_M_fail {Q : dr_RS → dr_AH → Prop} : ∀ (a1 : Nat) (x2 : Int32) (h : dr_AH), dr_p (f_M_fail a1 x2 h) Q → dr_W mi_M_fail 0 0 0 [(0, .ref a1), (1, .int x2)] [] h Q := by
  intro a1 x2 h hp
  unfold f_M_fail at hp
  refine wp_aload_n d_M_fail_0 0 rfl ?_
  refine wp_gi cl_M fl_M_108 (by decide) d_M_fail_1 hp (fun x3 hp => ?_)
  refine wp_if_ge (tgt := 12) d_M_fail_4 (by decide) hp (fun _ hp => ?_) (fun _ hp => ?_)
  · exact wp_return rfl d_M_fail_12 hp
  · refine wp_aload_n d_M_fail_7 0 rfl ?_
    refine wp_iload_n d_M_fail_8 1 rfl ?_
    refine wp_put cl_M fl_M_108 (by decide) (Or.inl (by rfl)) (by rfl) (by rfl) d_M_fail_9 hp (fun h4 hp => ?_)
    exact wp_return rfl d_M_fail_12 hp
def f_M_take (a1 : Nat) (x2 : Int32) (h : dr_AH) : Option (dr_RS × dr_AH) :=
  (dr_gi h 4 a1 6 fun x3 => if x3 < 0 then (dr_k h a1 4 (dr_ci' (f_M_see a1 h) fun x5 h4 => if x5 = x2 then (dr_gi h4 4 a1 5 fun x6 => (dr_pf h4 4 a1 5 (.int (x6 + 1)) fun h7 => some (.inl none, h7))) else (dr_gi h4 4 a1 5 fun x8 => (dr_k h4 a1 4 (dr_cv' (f_M_fail a1 x8 h4) fun h9 => some (.inl none, h9)))))) else some (.inl none, h))
set_option maxRecDepth 100000 in
set_option maxHeartbeats 400000 in
theorem t_M_take {Q : dr_RS → dr_AH → Prop} : ∀ (a1 : Nat) (x2 : Int32) (h : dr_AH), dr_p (f_M_take a1 x2 h) Q → dr_W mi_M_take 2 24 0 [(0, .ref a1), (1, .int x2)] [] h Q := by
  intro a1 x2 h hp
  unfold f_M_take at hp
  refine wp_aload_n d_M_take_0 0 rfl ?_
  refine wp_gi cl_M fl_M_108 (by decide) d_M_take_1 hp (fun x3 hp => ?_)
  refine wp_if_lt (tgt := 8) d_M_take_4 (by decide) hp (fun _ hp => ?_) (fun _ hp => ?_)
  · refine wp_aload_n d_M_take_8 0 rfl ?_
    refine wp_k hp (fun hk hp => ?_)
    refine wp_ci (M' := mi_M_see) (As := [.ref a1]) (st := []) (fr' := 1) (wo' := 12) (dr_sV (A := []) cl_M hk tw_745 tw_747 tp_17 co_M_see ⟨by decide, by decide⟩ (by rfl) d_M_take_9 rfl) co_M_see (by decide +kernel) (by decide) (Nat.le_of_ble_eq_true rfl) (Nat.le_of_ble_eq_true rfl) (fun Q' hq => t_M_see _ _ hq) hp (fun x5 h4 hp => ?_) (fun E q h3 hp => wx_out (by decide) hp)
    refine wp_iload_n d_M_take_12 1 rfl ?_
    refine wp_icmp_eq (tgt := 27) d_M_take_13 (by decide) hp (fun _ hp => ?_) (fun _ hp => ?_)
    · refine wp_aload_n d_M_take_27 0 rfl ?_
      refine wp_dup rfl d_M_take_28 ?_
      refine wp_gi cl_M fl_M_101 (by decide) d_M_take_29 hp (fun x6 hp => ?_)
      refine wp_iconst (v := 1) (by decide) d_M_take_32 ?_
      refine wp_iadd d_M_take_33 ?_
      refine wp_put cl_M fl_M_101 (by decide) (Or.inl (by rfl)) (by rfl) (by rfl) d_M_take_34 hp (fun h7 hp => ?_)
      exact wp_return rfl d_M_take_37 hp
    · refine wp_aload_n d_M_take_16 0 rfl ?_
      refine wp_aload_n d_M_take_17 0 rfl ?_
      refine wp_gi cl_M fl_M_101 (by decide) d_M_take_18 hp (fun x8 hp => ?_)
      refine wp_k hp (fun hk hp => ?_)
      refine wp_cv (M' := mi_M_fail) (As := [.ref a1, .int x8]) (st := []) (fr' := 0) (wo' := 0) (dr_sV (A := [.int x8]) cl_M hk tw_769 tw_771 tp_23 co_M_fail ⟨by decide, by decide⟩ (by rfl) d_M_take_21 rfl) co_M_fail (by decide +kernel) (by decide) (Nat.le_of_ble_eq_true rfl) (Nat.le_of_ble_eq_true rfl) (fun Q' hq => t_M_fail _ _ _ hq) hp (fun h9 hp => ?_) (fun E q h3 hp => wx_out (by decide) hp)
      refine wp_goto (tgt := 37) d_M_take_24 (by decide) ?_
      exact wp_return rfl d_M_take_37 hp
  · exact wp_return rfl d_M_take_7 hp
def f_M_takes (a1 : Nat) (x2 : Int32) (h : dr_AH) : Option (dr_RS × dr_AH) :=
  (dr_gi h 4 a1 6 fun x3 => if 0 ≤ x3 then dr_rz 0 h else (dr_k h a1 4 (dr_ci' (f_M_see a1 h) fun x5 h4 => if x5 = x2 then (dr_gi h4 4 a1 5 fun x6 => (dr_pf h4 4 a1 5 (.int (x6 + 1)) fun h7 => dr_rz 1 h7)) else dr_rz 0 h4)))
set_option maxRecDepth 100000 in
set_option maxHeartbeats 400000 in
theorem t_M_takes {Q : dr_RS → dr_AH → Prop} : ∀ (a1 : Nat) (x2 : Int32) (h : dr_AH), dr_p (f_M_takes a1 x2 h) Q → dr_W mi_M_takes 2 24 0 [(0, .ref a1), (1, .int x2)] [] h Q := by
  intro a1 x2 h hp
  unfold f_M_takes at hp
  refine wp_aload_n d_M_takes_0 0 rfl ?_
  refine wp_gi cl_M fl_M_108 (by decide) d_M_takes_1 hp (fun x3 hp => ?_)
  refine wp_if_ge (tgt := 15) d_M_takes_4 (by decide) hp (fun _ hp => ?_) (fun _ hp => ?_)
  · refine wp_iconst (v := 0) (by decide) d_M_takes_15 ?_
    exact wp_zreturn rfl d_M_takes_16 hp
  · refine wp_aload_n d_M_takes_7 0 rfl ?_
    refine wp_k hp (fun hk hp => ?_)
    refine wp_ci (M' := mi_M_see) (As := [.ref a1]) (st := []) (fr' := 1) (wo' := 12) (dr_sV (A := []) cl_M hk tw_745 tw_747 tp_17 co_M_see ⟨by decide, by decide⟩ (by rfl) d_M_takes_8 rfl) co_M_see (by decide +kernel) (by decide) (Nat.le_of_ble_eq_true rfl) (Nat.le_of_ble_eq_true rfl) (fun Q' hq => t_M_see _ _ hq) hp (fun x5 h4 hp => ?_) (fun E q h3 hp => wx_out (by decide) hp)
    refine wp_iload_n d_M_takes_11 1 rfl ?_
    refine wp_icmp_eq (tgt := 17) d_M_takes_12 (by decide) hp (fun _ hp => ?_) (fun _ hp => ?_)
    · refine wp_aload_n d_M_takes_17 0 rfl ?_
      refine wp_dup rfl d_M_takes_18 ?_
      refine wp_gi cl_M fl_M_101 (by decide) d_M_takes_19 hp (fun x6 hp => ?_)
      refine wp_iconst (v := 1) (by decide) d_M_takes_22 ?_
      refine wp_iadd d_M_takes_23 ?_
      refine wp_put cl_M fl_M_101 (by decide) (Or.inl (by rfl)) (by rfl) (by rfl) d_M_takes_24 hp (fun h7 hp => ?_)
      refine wp_iconst (v := 1) (by decide) d_M_takes_27 ?_
      exact wp_zreturn rfl d_M_takes_28 hp
    · refine wp_iconst (v := 0) (by decide) d_M_takes_15 ?_
      exact wp_zreturn rfl d_M_takes_16 hp
def f_M_isDigit (a1 : Nat) (h : dr_AH) : Option (dr_RS × dr_AH) :=
  (dr_k h a1 4 (dr_ci' (f_M_here a1 h) fun x3 h2 => (dr_ci' (f_M_in x3 48 57 h2) fun x5 h4 => dr_rz x5 h4)))
set_option maxRecDepth 100000 in
set_option maxHeartbeats 400000 in
theorem t_M_isDigit {Q : dr_RS → dr_AH → Prop} : ∀ (a1 : Nat) (h : dr_AH), dr_p (f_M_isDigit a1 h) Q → dr_W mi_M_isDigit 1 14 0 [(0, .ref a1)] [] h Q := by
  intro a1 h hp
  unfold f_M_isDigit at hp
  refine wp_aload_n d_M_isDigit_0 0 rfl ?_
  refine wp_k hp (fun hk hp => ?_)
  refine wp_ci (M' := mi_M_here) (As := [.ref a1]) (st := []) (fr' := 0) (wo' := 0) (dr_sV (A := []) cl_M hk tw_749 tw_751 tp_18 co_M_here ⟨by decide, by decide⟩ (by rfl) d_M_isDigit_1 rfl) co_M_here (by decide +kernel) (by decide) (Nat.le_of_ble_eq_true rfl) (Nat.le_of_ble_eq_true rfl) (fun Q' hq => t_M_here _ _ hq) hp (fun x3 h2 hp => ?_) (fun E q h3 hp => wx_out (by decide) hp)
  refine wp_bipush (v := 48) (by decide) d_M_isDigit_4 ?_
  refine wp_bipush (v := 57) (by decide) d_M_isDigit_6 ?_
  refine wp_ci (M' := mi_M_in) (As := [.int x3, .int 48, .int 57]) (st := []) (fr' := 0) (wo' := 0) (dr_sS (A := [.int x3, .int 48, .int 57]) tw_734 tw_735 tw_5 co_M_in ⟨by decide, by decide⟩ (by rfl) d_M_isDigit_8 rfl) co_M_in (by decide +kernel) (by decide) (Nat.le_of_ble_eq_true rfl) (Nat.le_of_ble_eq_true rfl) (fun Q' hq => t_M_in _ _ _ _ hq) hp (fun x5 h4 hp => ?_) (fun E q h3 hp => wx_out (by decide) hp)
  exact wp_zreturn rfl d_M_isDigit_11 hp
def f_M_number_111 (a1 : Nat) (x2 : Int32) (x3 : Int32) (x4 : Int32) (h : dr_AH) : Option (dr_RS × dr_AH) :=
  if x4 = 4 then (dr_k h a1 4 (dr_ci' (f_M_isDigit a1 h) fun x7 h6 => if x7 = 0 then (dr_gi h6 4 a1 6 fun x8 => if 0 ≤ x8 then some (.inl (some (.int x2)), h6) else some (.inl (some (.int x3)), h6)) else (dr_gi h6 4 a1 5 fun x9 => (dr_k h6 a1 4 (dr_cv' (f_M_fail a1 x9 h6) fun h10 => (dr_gi h10 4 a1 6 fun x11 => if 0 ≤ x11 then some (.inl (some (.int x2)), h10) else some (.inl (some (.int x3)), h10))))))) else (dr_gi h 4 a1 6 fun x5 => if 0 ≤ x5 then some (.inl (some (.int x2)), h) else some (.inl (some (.int x3)), h))
def f_M_number_92 (a1 : Nat) (x2 : Int32) (x3 : Int32) (x4 : Int32) (x5 : Int32) (h : dr_AH) : Option (dr_RS × dr_AH) :=
  (dr_ci' (f_M_in x4 x2 x3 h) fun x7 h6 => if x7 = 0 then (dr_gi h6 4 a1 5 fun x8 => (dr_k h6 a1 4 (dr_cv' (f_M_fail a1 (x8 - 1) h6) fun h9 => f_M_number_111 a1 x2 x4 x5 h9))) else f_M_number_111 a1 x2 x4 x5 h6)
def f_M_number_63 (rc34 : Nat → Int32 → Int32 → Int32 → Int32 → dr_AH → Option (dr_RS × dr_AH)) (a1 : Nat) (x2 : Int32) (x3 : Int32) (x4 : Int32) (x5 : Int32) (h : dr_AH) : Option (dr_RS × dr_AH) :=
  (dr_k h a1 4 (dr_ci' (f_M_here a1 h) fun x7 h6 => (dr_gi h6 4 a1 5 fun x8 => (dr_pf h6 4 a1 5 (.int (x8 + 1)) fun h9 => rc34 a1 x2 x3 (((10 * x4) + x7) - 48) (x5 + 1) h9))))
def f_M_number_34 : Nat → Nat → Int32 → Int32 → Int32 → Int32 → dr_AH → Option (dr_RS × dr_AH)
  | 0, _, _, _, _, _, _ => none
  | n + 1, a1, x2, x3, x4, x5, h => (dr_gi h 4 a1 6 fun x6 => if 0 ≤ x6 then f_M_number_92 a1 x2 x3 x4 x5 h else (dr_k h a1 4 (dr_ci' (f_M_isDigit a1 h) fun x8 h7 => if x8 = 0 then f_M_number_92 a1 x2 x3 x4 x5 h7 else if 4 ≤ x5 then f_M_number_92 a1 x2 x3 x4 x5 h7 else if x5 = 0 then f_M_number_63 (f_M_number_34 n) a1 x2 x3 x4 x5 h7 else if x4 ≤ 0 then f_M_number_92 a1 x2 x3 x4 x5 h7 else f_M_number_63 (f_M_number_34 n) a1 x2 x3 x4 x5 h7)))
def f_M_number (a1 : Nat) (x2 : Int32) (x3 : Int32) (h : dr_AH) : Option (dr_RS × dr_AH) :=
  (dr_gi h 4 a1 6 fun x4 => if x4 < 0 then (dr_k h a1 4 (dr_ci' (f_M_see a1 h) fun x6 h5 => (dr_k h5 a1 4 (dr_ci' (f_M_isDigit a1 h5) fun x8 h7 => if x8 = 0 then (dr_gi h7 4 a1 5 fun x9 => (dr_k h7 a1 4 (dr_cv' (f_M_fail a1 x9 h7) fun h10 => f_M_number_34 dr_fu a1 x2 x3 0 0 h10))) else f_M_number_34 dr_fu a1 x2 x3 0 0 h7)))) else some (.inl (some (.int x2)), h))
set_option maxRecDepth 100000 in
set_option maxHeartbeats 400000 in
theorem t_M_number_111 {Q : dr_RS → dr_AH → Prop} : ∀ (a1 : Nat) (x2 : Int32) (x3 : Int32) (x4 : Int32) (h : dr_AH), dr_p (f_M_number_111 a1 x2 x3 x4 h) Q → dr_W mi_M_number 2 26 111 [(0, .ref a1), (1, .int x2), (3, .int x3), (4, .int x4)] [] h Q := by
  intro a1 x2 x3 x4 h hp
  unfold f_M_number_111 at hp
  refine wp_iload d_M_number_111 3 rfl ?_
  refine wp_iconst (v := 4) (by decide) d_M_number_113 ?_
  refine wp_icmp_ne (tgt := 132) d_M_number_114 (by decide) hp (fun _ hp => ?_) (fun _ hp => ?_)
  · refine wp_aload_n d_M_number_132 0 rfl ?_
    refine wp_gi cl_M fl_M_108 (by decide) d_M_number_133 hp (fun x5 hp => ?_)
    refine wp_if_ge (tgt := 143) d_M_number_136 (by decide) hp (fun _ hp => ?_) (fun _ hp => ?_)
    · refine wp_iload_n d_M_number_143 1 rfl ?_
      exact wp_ireturn rfl rfl d_M_number_144 hp
    · refine wp_iload_n d_M_number_139 2 rfl ?_
      refine wp_goto (tgt := 144) d_M_number_140 (by decide) ?_
      exact wp_ireturn rfl rfl d_M_number_144 hp
  · refine wp_aload_n d_M_number_117 0 rfl ?_
    refine wp_k hp (fun hk hp => ?_)
    refine wp_ci (M' := mi_M_isDigit) (As := [.ref a1]) (st := []) (fr' := 1) (wo' := 14) (dr_sV (A := []) cl_M hk tw_765 tw_767 tp_22 co_M_isDigit ⟨by decide, by decide⟩ (by rfl) d_M_number_118 rfl) co_M_isDigit (by decide +kernel) (by decide) (Nat.le_of_ble_eq_true rfl) (Nat.le_of_ble_eq_true rfl) (fun Q' hq => t_M_isDigit _ _ hq) hp (fun x7 h6 hp => ?_) (fun E q h3 hp => wx_out (by decide) hp)
    refine wp_if_eq (tgt := 132) d_M_number_121 (by decide) hp (fun _ hp => ?_) (fun _ hp => ?_)
    · refine wp_aload_n d_M_number_132 0 rfl ?_
      refine wp_gi cl_M fl_M_108 (by decide) d_M_number_133 hp (fun x8 hp => ?_)
      refine wp_if_ge (tgt := 143) d_M_number_136 (by decide) hp (fun _ hp => ?_) (fun _ hp => ?_)
      · refine wp_iload_n d_M_number_143 1 rfl ?_
        exact wp_ireturn rfl rfl d_M_number_144 hp
      · refine wp_iload_n d_M_number_139 2 rfl ?_
        refine wp_goto (tgt := 144) d_M_number_140 (by decide) ?_
        exact wp_ireturn rfl rfl d_M_number_144 hp
    · refine wp_aload_n d_M_number_124 0 rfl ?_
      refine wp_aload_n d_M_number_125 0 rfl ?_
      refine wp_gi cl_M fl_M_101 (by decide) d_M_number_126 hp (fun x9 hp => ?_)
      refine wp_k hp (fun hk hp => ?_)
      refine wp_cv (M' := mi_M_fail) (As := [.ref a1, .int x9]) (st := []) (fr' := 0) (wo' := 0) (dr_sV (A := [.int x9]) cl_M hk tw_769 tw_771 tp_23 co_M_fail ⟨by decide, by decide⟩ (by rfl) d_M_number_129 rfl) co_M_fail (by decide +kernel) (by decide) (Nat.le_of_ble_eq_true rfl) (Nat.le_of_ble_eq_true rfl) (fun Q' hq => t_M_fail _ _ _ hq) hp (fun h10 hp => ?_) (fun E q h3 hp => wx_out (by decide) hp)
      refine wp_aload_n d_M_number_132 0 rfl ?_
      refine wp_gi cl_M fl_M_108 (by decide) d_M_number_133 hp (fun x11 hp => ?_)
      refine wp_if_ge (tgt := 143) d_M_number_136 (by decide) hp (fun _ hp => ?_) (fun _ hp => ?_)
      · refine wp_iload_n d_M_number_143 1 rfl ?_
        exact wp_ireturn rfl rfl d_M_number_144 hp
      · refine wp_iload_n d_M_number_139 2 rfl ?_
        refine wp_goto (tgt := 144) d_M_number_140 (by decide) ?_
        exact wp_ireturn rfl rfl d_M_number_144 hp
set_option maxRecDepth 100000 in
set_option maxHeartbeats 400000 in
theorem t_M_number_92 {Q : dr_RS → dr_AH → Prop} : ∀ (a1 : Nat) (x2 : Int32) (x3 : Int32) (x4 : Int32) (x5 : Int32) (h : dr_AH), dr_p (f_M_number_92 a1 x2 x3 x4 x5 h) Q → dr_W mi_M_number 2 26 92 [(0, .ref a1), (1, .int x2), (2, .int x3), (3, .int x4), (4, .int x5)] [] h Q := by
  intro a1 x2 x3 x4 x5 h hp
  unfold f_M_number_92 at hp
  refine wp_iload_n d_M_number_92 3 rfl ?_
  refine wp_iload_n d_M_number_93 1 rfl ?_
  refine wp_iload_n d_M_number_94 2 rfl ?_
  refine wp_ci (M' := mi_M_in) (As := [.int x4, .int x2, .int x3]) (st := []) (fr' := 0) (wo' := 0) (dr_sS (A := [.int x4, .int x2, .int x3]) tw_734 tw_735 tw_5 co_M_in ⟨by decide, by decide⟩ (by rfl) d_M_number_95 rfl) co_M_in (by decide +kernel) (by decide) (Nat.le_of_ble_eq_true rfl) (Nat.le_of_ble_eq_true rfl) (fun Q' hq => t_M_in _ _ _ _ hq) hp (fun x7 h6 hp => ?_) (fun E q h3 hp => wx_out (by decide) hp)
  refine wp_if_ne (tgt := 111) d_M_number_98 (by decide) hp (fun _ hp => ?_) (fun _ hp => ?_)
  · exact wp_sub [0, 1, 3, 4] rfl (t_M_number_111 _ _ _ _ _ hp)
  · refine wp_aload_n d_M_number_101 0 rfl ?_
    refine wp_aload_n d_M_number_102 0 rfl ?_
    refine wp_gi cl_M fl_M_101 (by decide) d_M_number_103 hp (fun x8 hp => ?_)
    refine wp_iconst (v := 1) (by decide) d_M_number_106 ?_
    refine wp_isub d_M_number_107 ?_
    refine wp_k hp (fun hk hp => ?_)
    refine wp_cv (M' := mi_M_fail) (As := [.ref a1, .int (x8 - 1)]) (st := []) (fr' := 0) (wo' := 0) (dr_sV (A := [.int (x8 - 1)]) cl_M hk tw_769 tw_771 tp_23 co_M_fail ⟨by decide, by decide⟩ (by rfl) d_M_number_108 rfl) co_M_fail (by decide +kernel) (by decide) (Nat.le_of_ble_eq_true rfl) (Nat.le_of_ble_eq_true rfl) (fun Q' hq => t_M_fail _ _ _ hq) hp (fun h9 hp => ?_) (fun E q h3 hp => wx_out (by decide) hp)
    exact wp_sub [0, 1, 3, 4] rfl (t_M_number_111 _ _ _ _ _ hp)
set_option maxRecDepth 100000 in
set_option maxHeartbeats 400000 in
theorem t_M_number_63 {Q : dr_RS → dr_AH → Prop} {rc34 : Nat → Int32 → Int32 → Int32 → Int32 → dr_AH → Option (dr_RS × dr_AH)} (hr34 : ∀ (a1 : Nat) (x2 : Int32) (x3 : Int32) (x4 : Int32) (x5 : Int32) (h : dr_AH), dr_p (rc34 a1 x2 x3 x4 x5 h) Q → dr_W mi_M_number 2 26 34 [(0, .ref a1), (1, .int x2), (2, .int x3), (3, .int x4), (4, .int x5)] [] h Q) : ∀ (a1 : Nat) (x2 : Int32) (x3 : Int32) (x4 : Int32) (x5 : Int32) (h : dr_AH), dr_p (f_M_number_63 rc34 a1 x2 x3 x4 x5 h) Q → dr_W mi_M_number 2 26 63 [(0, .ref a1), (1, .int x2), (2, .int x3), (3, .int x4), (4, .int x5)] [] h Q := by
  intro a1 x2 x3 x4 x5 h hp
  unfold f_M_number_63 at hp
  refine wp_bipush (v := 10) (by decide) d_M_number_63 ?_
  refine wp_iload_n d_M_number_65 3 rfl ?_
  refine wp_imul d_M_number_66 ?_
  refine wp_aload_n d_M_number_67 0 rfl ?_
  refine wp_k hp (fun hk hp => ?_)
  refine wp_ci (M' := mi_M_here) (As := [.ref a1]) (st := [.int (10 * x4)]) (fr' := 0) (wo' := 0) (dr_sV (A := []) cl_M hk tw_749 tw_751 tp_18 co_M_here ⟨by decide, by decide⟩ (by rfl) d_M_number_68 rfl) co_M_here (by decide +kernel) (by decide) (Nat.le_of_ble_eq_true rfl) (Nat.le_of_ble_eq_true rfl) (fun Q' hq => t_M_here _ _ hq) hp (fun x7 h6 hp => ?_) (fun E q h3 hp => wx_out (by decide) hp)
  refine wp_iadd d_M_number_71 ?_
  refine wp_bipush (v := 48) (by decide) d_M_number_72 ?_
  refine wp_isub d_M_number_74 ?_
  refine wp_istore_n (l' := [(3, .int (((10 * x4) + x7) - 48)), (0, .ref a1), (1, .int x2), (2, .int x3), (4, .int x5)]) d_M_number_75 (by decide) rfl ?_
  refine wp_iinc (v := (x5 + 1)) (l' := [(4, .int (x5 + 1)), (3, .int (((10 * x4) + x7) - 48)), (0, .ref a1), (1, .int x2), (2, .int x3)]) d_M_number_76 4 rfl rfl (by decide) rfl ?_
  refine wp_aload_n d_M_number_79 2 rfl ?_
  refine wp_dup rfl d_M_number_80 ?_
  refine wp_gi cl_M fl_M_101 (by decide) d_M_number_81 hp (fun x8 hp => ?_)
  refine wp_iconst (v := 1) (by decide) d_M_number_84 ?_
  refine wp_iadd d_M_number_85 ?_
  refine wp_put cl_M fl_M_101 (by decide) (Or.inl (by rfl)) (by rfl) (by rfl) d_M_number_86 hp (fun h9 hp => ?_)
  refine wp_goto (tgt := 34) d_M_number_89 (by decide) ?_
  exact wp_sub [2, 3, 4, 1, 0] rfl (hr34 _ _ _ _ _ _ hp)
set_option maxRecDepth 100000 in
set_option maxHeartbeats 400000 in
theorem t_M_number_34 {Q : dr_RS → dr_AH → Prop} : ∀ (n : Nat) (a1 : Nat) (x2 : Int32) (x3 : Int32) (x4 : Int32) (x5 : Int32) (h : dr_AH), dr_p (f_M_number_34 n a1 x2 x3 x4 x5 h) Q → dr_W mi_M_number 2 26 34 [(0, .ref a1), (1, .int x2), (2, .int x3), (3, .int x4), (4, .int x5)] [] h Q := by
  intro n
  induction n with
  | zero => intro a1 x2 x3 x4 x5 h hp; exact (dr_p0 hp).elim
  | succ n ih =>
    intro a1 x2 x3 x4 x5 h hp
    unfold f_M_number_34 at hp
    refine wp_aload_n d_M_number_34 0 rfl ?_
    refine wp_gi cl_M fl_M_108 (by decide) d_M_number_35 hp (fun x6 hp => ?_)
    refine wp_if_ge (tgt := 92) d_M_number_38 (by decide) hp (fun _ hp => ?_) (fun _ hp => ?_)
    · exact wp_sub [0, 1, 2, 3, 4] rfl (t_M_number_92 _ _ _ _ _ _ hp)
    · refine wp_aload_n d_M_number_41 0 rfl ?_
      refine wp_k hp (fun hk hp => ?_)
      refine wp_ci (M' := mi_M_isDigit) (As := [.ref a1]) (st := []) (fr' := 1) (wo' := 14) (dr_sV (A := []) cl_M hk tw_765 tw_767 tp_22 co_M_isDigit ⟨by decide, by decide⟩ (by rfl) d_M_number_42 rfl) co_M_isDigit (by decide +kernel) (by decide) (Nat.le_of_ble_eq_true rfl) (Nat.le_of_ble_eq_true rfl) (fun Q' hq => t_M_isDigit _ _ hq) hp (fun x8 h7 hp => ?_) (fun E q h3 hp => wx_out (by decide) hp)
      refine wp_if_eq (tgt := 92) d_M_number_45 (by decide) hp (fun _ hp => ?_) (fun _ hp => ?_)
      · exact wp_sub [0, 1, 2, 3, 4] rfl (t_M_number_92 _ _ _ _ _ _ hp)
      · refine wp_iload d_M_number_48 4 rfl ?_
        refine wp_iconst (v := 4) (by decide) d_M_number_50 ?_
        refine wp_icmp_ge (tgt := 92) d_M_number_51 (by decide) hp (fun _ hp => ?_) (fun _ hp => ?_)
        · exact wp_sub [0, 1, 2, 3, 4] rfl (t_M_number_92 _ _ _ _ _ _ hp)
        · refine wp_iload d_M_number_54 4 rfl ?_
          refine wp_if_eq (tgt := 63) d_M_number_56 (by decide) hp (fun _ hp => ?_) (fun _ hp => ?_)
          · exact wp_sub [0, 1, 2, 3, 4] rfl (t_M_number_63 ih _ _ _ _ _ _ hp)
          · refine wp_iload_n d_M_number_59 3 rfl ?_
            refine wp_if_le (tgt := 92) d_M_number_60 (by decide) hp (fun _ hp => ?_) (fun _ hp => ?_)
            · exact wp_sub [0, 1, 2, 3, 4] rfl (t_M_number_92 _ _ _ _ _ _ hp)
            · exact wp_sub [0, 1, 2, 3, 4] rfl (t_M_number_63 ih _ _ _ _ _ _ hp)
set_option maxRecDepth 100000 in
set_option maxHeartbeats 400000 in
theorem t_M_number {Q : dr_RS → dr_AH → Prop} : ∀ (a1 : Nat) (x2 : Int32) (x3 : Int32) (h : dr_AH), dr_p (f_M_number a1 x2 x3 h) Q → dr_W mi_M_number 2 26 0 [(0, .ref a1), (1, .int x2), (2, .int x3)] [] h Q := by
  intro a1 x2 x3 h hp
  unfold f_M_number at hp
  refine wp_aload_n d_M_number_0 0 rfl ?_
  refine wp_gi cl_M fl_M_108 (by decide) d_M_number_1 hp (fun x4 hp => ?_)
  refine wp_if_lt (tgt := 9) d_M_number_4 (by decide) hp (fun _ hp => ?_) (fun _ hp => ?_)
  · refine wp_aload_n d_M_number_9 0 rfl ?_
    refine wp_k hp (fun hk hp => ?_)
    refine wp_ci (M' := mi_M_see) (As := [.ref a1]) (st := []) (fr' := 1) (wo' := 12) (dr_sV (A := []) cl_M hk tw_745 tw_747 tp_17 co_M_see ⟨by decide, by decide⟩ (by rfl) d_M_number_10 rfl) co_M_see (by decide +kernel) (by decide) (Nat.le_of_ble_eq_true rfl) (Nat.le_of_ble_eq_true rfl) (fun Q' hq => t_M_see _ _ hq) hp (fun x6 h5 hp => ?_) (fun E q h3 hp => wx_out (by decide) hp)
    refine wp_pop rfl d_M_number_13 ?_
    refine wp_aload_n d_M_number_14 0 rfl ?_
    refine wp_k hp (fun hk hp => ?_)
    refine wp_ci (M' := mi_M_isDigit) (As := [.ref a1]) (st := []) (fr' := 1) (wo' := 14) (dr_sV (A := []) cl_M hk tw_765 tw_767 tp_22 co_M_isDigit ⟨by decide, by decide⟩ (by rfl) d_M_number_15 rfl) co_M_isDigit (by decide +kernel) (by decide) (Nat.le_of_ble_eq_true rfl) (Nat.le_of_ble_eq_true rfl) (fun Q' hq => t_M_isDigit _ _ hq) hp (fun x8 h7 hp => ?_) (fun E q h3 hp => wx_out (by decide) hp)
    refine wp_if_ne (tgt := 29) d_M_number_18 (by decide) hp (fun _ hp => ?_) (fun _ hp => ?_)
    · refine wp_iconst (v := 0) (by decide) d_M_number_29 ?_
      refine wp_istore_n (l' := [(3, .int 0), (0, .ref a1), (1, .int x2), (2, .int x3)]) d_M_number_30 (by decide) rfl ?_
      refine wp_iconst (v := 0) (by decide) d_M_number_31 ?_
      refine wp_istore (l' := [(4, .int 0), (3, .int 0), (0, .ref a1), (1, .int x2), (2, .int x3)]) d_M_number_32 (by decide) rfl ?_
      exact wp_sub [2, 3, 4, 1, 0] rfl (t_M_number_34 dr_fu _ _ _ _ _ _ hp)
    · refine wp_aload_n d_M_number_21 0 rfl ?_
      refine wp_aload_n d_M_number_22 0 rfl ?_
      refine wp_gi cl_M fl_M_101 (by decide) d_M_number_23 hp (fun x9 hp => ?_)
      refine wp_k hp (fun hk hp => ?_)
      refine wp_cv (M' := mi_M_fail) (As := [.ref a1, .int x9]) (st := []) (fr' := 0) (wo' := 0) (dr_sV (A := [.int x9]) cl_M hk tw_769 tw_771 tp_23 co_M_fail ⟨by decide, by decide⟩ (by rfl) d_M_number_26 rfl) co_M_fail (by decide +kernel) (by decide) (Nat.le_of_ble_eq_true rfl) (Nat.le_of_ble_eq_true rfl) (fun Q' hq => t_M_fail _ _ _ hq) hp (fun h10 hp => ?_) (fun E q h3 hp => wx_out (by decide) hp)
      refine wp_iconst (v := 0) (by decide) d_M_number_29 ?_
      refine wp_istore_n (l' := [(3, .int 0), (0, .ref a1), (1, .int x2), (2, .int x3)]) d_M_number_30 (by decide) rfl ?_
      refine wp_iconst (v := 0) (by decide) d_M_number_31 ?_
      refine wp_istore (l' := [(4, .int 0), (3, .int 0), (0, .ref a1), (1, .int x2), (2, .int x3)]) d_M_number_32 (by decide) rfl ?_
      exact wp_sub [2, 3, 4, 1, 0] rfl (t_M_number_34 dr_fu _ _ _ _ _ _ hp)
  · refine wp_iload_n d_M_number_7 1 rfl ?_
    exact wp_ireturn rfl rfl d_M_number_8 hp
def f_M_eventRow_119 (a1 : Nat) (x2 : Int32) (h : dr_AH) : Option (dr_RS × dr_AH) :=
  (dr_gr' h 4 a1 8 fun a3 => (dr_k h a1 4 (dr_ci' (f_M_number a1 0 9999 h) fun x5 h4 => (dr_si h4 a3 x2 x5 fun h6 => (dr_k h6 a1 4 (dr_cv' (f_M_take a1 112 h6) fun h7 => (dr_gr' h7 4 a1 11 fun a8 => (dr_k h7 a1 4 (dr_ci' (f_M_number a1 0 9 h7) fun x10 h9 => (dr_si h9 a8 x2 x10 fun h11 => (dr_gr' h11 4 a1 12 fun a12 => (dr_k h11 a1 4 (dr_ci' (f_M_takes a1 33 h11) fun x14 h13 => (dr_sz h13 a12 x2 x14 fun h15 => (dr_gr' h15 4 a1 13 fun a16 => (dr_k h15 a1 4 (dr_ci' (f_M_takes a1 102 h15) fun x18 h17 => if x18 = 0 then (dr_si h17 a16 x2 0 fun h19 => (dr_k h19 a1 4 (dr_cv' (f_M_take a1 59 h19) fun h20 => (dr_gr' h20 4 a1 7 fun a21 => (dr_sz h20 a21 x2 1 fun h22 => some (.inl none, h22)))))) else (dr_k h17 a1 4 (dr_ci' (f_M_number a1 1 9 h17) fun x24 h23 => (dr_si h23 a16 x2 x24 fun h25 => (dr_k h25 a1 4 (dr_cv' (f_M_take a1 59 h25) fun h26 => (dr_gr' h26 4 a1 7 fun a27 => (dr_sz h26 a27 x2 1 fun h28 => some (.inl none, h28)))))))))))))))))))))))))
def f_M_eventRow_40 (a1 : Nat) (x2 : Int32) (h : dr_AH) : Option (dr_RS × dr_AH) :=
  (dr_gi h 4 a1 6 fun x3 => if x3 < 0 then (dr_gr' h 4 a1 9 fun a4 => (dr_si h a4 x2 (-1) fun h5 => (dr_gr' h5 4 a1 10 fun a6 => (dr_si h5 a6 x2 0 fun h7 => (dr_k h7 a1 4 (dr_ci' (f_M_takes a1 62 h7) fun x9 h8 => if x9 = 0 then (dr_k h8 a1 4 (dr_cv' (f_M_take a1 64 h8) fun h10 => f_M_eventRow_119 a1 x2 h10)) else (dr_gr' h8 4 a1 9 fun a11 => (dr_k h8 a1 4 (dr_ci' (f_M_number a1 0 19 h8) fun x13 h12 => (dr_si h12 a11 x2 x13 fun h14 => (dr_k h14 a1 4 (dr_cv' (f_M_take a1 43 h14) fun h15 => (dr_gr' h15 4 a1 10 fun a16 => (dr_k h15 a1 4 (dr_ci' (f_M_number a1 0 999 h15) fun x18 h17 => (dr_si h17 a16 x2 x18 fun h19 => (dr_k h19 a1 4 (dr_cv' (f_M_take a1 126 h19) fun h20 => f_M_eventRow_119 a1 x2 h20)))))))))))))))))) else some (.inl none, h))
def f_M_eventRow (a1 : Nat) (h : dr_AH) : Option (dr_RS × dr_AH) :=
  (dr_k h a1 4 (dr_ci' (f_M_number a1 1 40 h) fun x3 h2 => (dr_gi h2 4 a1 6 fun x4 => if 0 ≤ x4 then f_M_eventRow_40 a1 (369 + x3) h2 else (dr_gr' h2 4 a1 7 fun a5 => (dr_az h2 a5 (369 + x3) fun x6 => if x6 = 0 then f_M_eventRow_40 a1 (369 + x3) h2 else (dr_gi h2 4 a1 5 fun x7 => (dr_k h2 a1 4 (dr_cv' (f_M_fail a1 (x7 - 1) h2) fun h8 => f_M_eventRow_40 a1 (369 + x3) h8))))))))
set_option maxRecDepth 100000 in
set_option maxHeartbeats 400000 in
theorem t_M_eventRow_119 {Q : dr_RS → dr_AH → Prop} : ∀ (a1 : Nat) (x2 : Int32) (h : dr_AH), dr_p (f_M_eventRow_119 a1 x2 h) Q → dr_W mi_M_eventRow 3 44 119 [(0, .ref a1), (2, .int x2)] [] h Q := by
  intro a1 x2 h hp
  unfold f_M_eventRow_119 at hp
  refine wp_aload_n d_M_eventRow_119 0 rfl ?_
  refine wp_gr cl_M fl_M_21 (by decide) d_M_eventRow_120 hp (fun a3 hp => ?_) (fun hp => (dr_p0 hp).elim)
  refine wp_iload_n d_M_eventRow_123 1 rfl ?_
  refine wp_aload_n d_M_eventRow_124 0 rfl ?_
  refine wp_iconst (v := 0) (by decide) d_M_eventRow_125 ?_
  refine wp_sipush (v := 9999) (by decide) d_M_eventRow_126 ?_
  refine wp_k hp (fun hk hp => ?_)
  refine wp_ci (M' := mi_M_number) (As := [.ref a1, .int 0, .int 9999]) (st := [.int x2, .ref a3]) (fr' := 2) (wo' := 26) (dr_sV (A := [.int 0, .int 9999]) cl_M hk tw_761 tw_763 tp_21 co_M_number ⟨by decide, by decide⟩ (by rfl) d_M_eventRow_129 rfl) co_M_number (by decide +kernel) (by decide) (Nat.le_of_ble_eq_true rfl) (Nat.le_of_ble_eq_true rfl) (fun Q' hq => t_M_number _ _ _ _ hq) hp (fun x5 h4 hp => ?_) (fun E q h3 hp => wx_out (by decide) hp)
  refine wp_iastore d_M_eventRow_132 hp (fun h6 hp => ?_)
  refine wp_aload_n d_M_eventRow_133 0 rfl ?_
  refine wp_bipush (v := 112) (by decide) d_M_eventRow_134 ?_
  refine wp_k hp (fun hk hp => ?_)
  refine wp_cv (M' := mi_M_take) (As := [.ref a1, .int 112]) (st := []) (fr' := 2) (wo' := 24) (dr_sV (A := [.int 112]) cl_M hk tw_773 tw_775 tp_24 co_M_take ⟨by decide, by decide⟩ (by rfl) d_M_eventRow_136 rfl) co_M_take (by decide +kernel) (by decide) (Nat.le_of_ble_eq_true rfl) (Nat.le_of_ble_eq_true rfl) (fun Q' hq => t_M_take _ _ _ hq) hp (fun h7 hp => ?_) (fun E q h3 hp => wx_out (by decide) hp)
  refine wp_aload_n d_M_eventRow_139 0 rfl ?_
  refine wp_gr cl_M fl_M_30 (by decide) d_M_eventRow_140 hp (fun a8 hp => ?_) (fun hp => (dr_p0 hp).elim)
  refine wp_iload_n d_M_eventRow_143 1 rfl ?_
  refine wp_aload_n d_M_eventRow_144 0 rfl ?_
  refine wp_iconst (v := 0) (by decide) d_M_eventRow_145 ?_
  refine wp_bipush (v := 9) (by decide) d_M_eventRow_146 ?_
  refine wp_k hp (fun hk hp => ?_)
  refine wp_ci (M' := mi_M_number) (As := [.ref a1, .int 0, .int 9]) (st := [.int x2, .ref a8]) (fr' := 2) (wo' := 26) (dr_sV (A := [.int 0, .int 9]) cl_M hk tw_761 tw_763 tp_21 co_M_number ⟨by decide, by decide⟩ (by rfl) d_M_eventRow_148 rfl) co_M_number (by decide +kernel) (by decide) (Nat.le_of_ble_eq_true rfl) (Nat.le_of_ble_eq_true rfl) (fun Q' hq => t_M_number _ _ _ _ hq) hp (fun x10 h9 hp => ?_) (fun E q h3 hp => wx_out (by decide) hp)
  refine wp_iastore d_M_eventRow_151 hp (fun h11 hp => ?_)
  refine wp_aload_n d_M_eventRow_152 0 rfl ?_
  refine wp_gr cl_M fl_M_33 (by decide) d_M_eventRow_153 hp (fun a12 hp => ?_) (fun hp => (dr_p0 hp).elim)
  refine wp_iload_n d_M_eventRow_156 1 rfl ?_
  refine wp_aload_n d_M_eventRow_157 0 rfl ?_
  refine wp_bipush (v := 33) (by decide) d_M_eventRow_158 ?_
  refine wp_k hp (fun hk hp => ?_)
  refine wp_ci (M' := mi_M_takes) (As := [.ref a1, .int 33]) (st := [.int x2, .ref a12]) (fr' := 2) (wo' := 24) (dr_sV (A := [.int 33]) cl_M hk tw_753 tw_755 tp_19 co_M_takes ⟨by decide, by decide⟩ (by rfl) d_M_eventRow_160 rfl) co_M_takes (by decide +kernel) (by decide) (Nat.le_of_ble_eq_true rfl) (Nat.le_of_ble_eq_true rfl) (fun Q' hq => t_M_takes _ _ _ hq) hp (fun x14 h13 hp => ?_) (fun E q h3 hp => wx_out (by decide) hp)
  refine wp_zastore d_M_eventRow_163 hp (fun h15 hp => ?_)
  refine wp_aload_n d_M_eventRow_164 0 rfl ?_
  refine wp_gr cl_M fl_M_36 (by decide) d_M_eventRow_165 hp (fun a16 hp => ?_) (fun hp => (dr_p0 hp).elim)
  refine wp_iload_n d_M_eventRow_168 1 rfl ?_
  refine wp_aload_n d_M_eventRow_169 0 rfl ?_
  refine wp_bipush (v := 102) (by decide) d_M_eventRow_170 ?_
  refine wp_k hp (fun hk hp => ?_)
  refine wp_ci (M' := mi_M_takes) (As := [.ref a1, .int 102]) (st := [.int x2, .ref a16]) (fr' := 2) (wo' := 24) (dr_sV (A := [.int 102]) cl_M hk tw_753 tw_755 tp_19 co_M_takes ⟨by decide, by decide⟩ (by rfl) d_M_eventRow_172 rfl) co_M_takes (by decide +kernel) (by decide) (Nat.le_of_ble_eq_true rfl) (Nat.le_of_ble_eq_true rfl) (fun Q' hq => t_M_takes _ _ _ hq) hp (fun x18 h17 hp => ?_) (fun E q h3 hp => wx_out (by decide) hp)
  refine wp_if_eq (tgt := 188) d_M_eventRow_175 (by decide) hp (fun _ hp => ?_) (fun _ hp => ?_)
  · refine wp_iconst (v := 0) (by decide) d_M_eventRow_188 ?_
    refine wp_iastore d_M_eventRow_189 hp (fun h19 hp => ?_)
    refine wp_aload_n d_M_eventRow_190 0 rfl ?_
    refine wp_bipush (v := 59) (by decide) d_M_eventRow_191 ?_
    refine wp_k hp (fun hk hp => ?_)
    refine wp_cv (M' := mi_M_take) (As := [.ref a1, .int 59]) (st := []) (fr' := 2) (wo' := 24) (dr_sV (A := [.int 59]) cl_M hk tw_773 tw_775 tp_24 co_M_take ⟨by decide, by decide⟩ (by rfl) d_M_eventRow_193 rfl) co_M_take (by decide +kernel) (by decide) (Nat.le_of_ble_eq_true rfl) (Nat.le_of_ble_eq_true rfl) (fun Q' hq => t_M_take _ _ _ hq) hp (fun h20 hp => ?_) (fun E q h3 hp => wx_out (by decide) hp)
    refine wp_aload_n d_M_eventRow_196 0 rfl ?_
    refine wp_gr cl_M fl_M_17 (by decide) d_M_eventRow_197 hp (fun a21 hp => ?_) (fun hp => (dr_p0 hp).elim)
    refine wp_iload_n d_M_eventRow_200 1 rfl ?_
    refine wp_iconst (v := 1) (by decide) d_M_eventRow_201 ?_
    refine wp_zastore d_M_eventRow_202 hp (fun h22 hp => ?_)
    exact wp_return rfl d_M_eventRow_203 hp
  · refine wp_aload_n d_M_eventRow_178 0 rfl ?_
    refine wp_iconst (v := 1) (by decide) d_M_eventRow_179 ?_
    refine wp_bipush (v := 9) (by decide) d_M_eventRow_180 ?_
    refine wp_k hp (fun hk hp => ?_)
    refine wp_ci (M' := mi_M_number) (As := [.ref a1, .int 1, .int 9]) (st := [.int x2, .ref a16]) (fr' := 2) (wo' := 26) (dr_sV (A := [.int 1, .int 9]) cl_M hk tw_761 tw_763 tp_21 co_M_number ⟨by decide, by decide⟩ (by rfl) d_M_eventRow_182 rfl) co_M_number (by decide +kernel) (by decide) (Nat.le_of_ble_eq_true rfl) (Nat.le_of_ble_eq_true rfl) (fun Q' hq => t_M_number _ _ _ _ hq) hp (fun x24 h23 hp => ?_) (fun E q h3 hp => wx_out (by decide) hp)
    refine wp_goto (tgt := 189) d_M_eventRow_185 (by decide) ?_
    refine wp_iastore d_M_eventRow_189 hp (fun h25 hp => ?_)
    refine wp_aload_n d_M_eventRow_190 0 rfl ?_
    refine wp_bipush (v := 59) (by decide) d_M_eventRow_191 ?_
    refine wp_k hp (fun hk hp => ?_)
    refine wp_cv (M' := mi_M_take) (As := [.ref a1, .int 59]) (st := []) (fr' := 2) (wo' := 24) (dr_sV (A := [.int 59]) cl_M hk tw_773 tw_775 tp_24 co_M_take ⟨by decide, by decide⟩ (by rfl) d_M_eventRow_193 rfl) co_M_take (by decide +kernel) (by decide) (Nat.le_of_ble_eq_true rfl) (Nat.le_of_ble_eq_true rfl) (fun Q' hq => t_M_take _ _ _ hq) hp (fun h26 hp => ?_) (fun E q h3 hp => wx_out (by decide) hp)
    refine wp_aload_n d_M_eventRow_196 0 rfl ?_
    refine wp_gr cl_M fl_M_17 (by decide) d_M_eventRow_197 hp (fun a27 hp => ?_) (fun hp => (dr_p0 hp).elim)
    refine wp_iload_n d_M_eventRow_200 1 rfl ?_
    refine wp_iconst (v := 1) (by decide) d_M_eventRow_201 ?_
    refine wp_zastore d_M_eventRow_202 hp (fun h28 hp => ?_)
    exact wp_return rfl d_M_eventRow_203 hp
set_option maxRecDepth 100000 in
set_option maxHeartbeats 400000 in
theorem t_M_eventRow_40 {Q : dr_RS → dr_AH → Prop} : ∀ (a1 : Nat) (x2 : Int32) (h : dr_AH), dr_p (f_M_eventRow_40 a1 x2 h) Q → dr_W mi_M_eventRow 3 44 40 [(0, .ref a1), (2, .int x2)] [] h Q := by
  intro a1 x2 h hp
  unfold f_M_eventRow_40 at hp
  refine wp_aload_n d_M_eventRow_40 0 rfl ?_
  refine wp_gi cl_M fl_M_108 (by decide) d_M_eventRow_41 hp (fun x3 hp => ?_)
  refine wp_if_lt (tgt := 48) d_M_eventRow_44 (by decide) hp (fun _ hp => ?_) (fun _ hp => ?_)
  · refine wp_aload_n d_M_eventRow_48 0 rfl ?_
    refine wp_gr cl_M fl_M_24 (by decide) d_M_eventRow_49 hp (fun a4 hp => ?_) (fun hp => (dr_p0 hp).elim)
    refine wp_iload_n d_M_eventRow_52 1 rfl ?_
    refine wp_iconst (v := (-1)) (by decide) d_M_eventRow_53 ?_
    refine wp_iastore d_M_eventRow_54 hp (fun h5 hp => ?_)
    refine wp_aload_n d_M_eventRow_55 0 rfl ?_
    refine wp_gr cl_M fl_M_27 (by decide) d_M_eventRow_56 hp (fun a6 hp => ?_) (fun hp => (dr_p0 hp).elim)
    refine wp_iload_n d_M_eventRow_59 1 rfl ?_
    refine wp_iconst (v := 0) (by decide) d_M_eventRow_60 ?_
    refine wp_iastore d_M_eventRow_61 hp (fun h7 hp => ?_)
    refine wp_aload_n d_M_eventRow_62 0 rfl ?_
    refine wp_bipush (v := 62) (by decide) d_M_eventRow_63 ?_
    refine wp_k hp (fun hk hp => ?_)
    refine wp_ci (M' := mi_M_takes) (As := [.ref a1, .int 62]) (st := []) (fr' := 2) (wo' := 24) (dr_sV (A := [.int 62]) cl_M hk tw_753 tw_755 tp_19 co_M_takes ⟨by decide, by decide⟩ (by rfl) d_M_eventRow_65 rfl) co_M_takes (by decide +kernel) (by decide) (Nat.le_of_ble_eq_true rfl) (Nat.le_of_ble_eq_true rfl) (fun Q' hq => t_M_takes _ _ _ hq) hp (fun x9 h8 hp => ?_) (fun E q h3 hp => wx_out (by decide) hp)
    refine wp_if_eq (tgt := 113) d_M_eventRow_68 (by decide) hp (fun _ hp => ?_) (fun _ hp => ?_)
    · refine wp_aload_n d_M_eventRow_113 0 rfl ?_
      refine wp_bipush (v := 64) (by decide) d_M_eventRow_114 ?_
      refine wp_k hp (fun hk hp => ?_)
      refine wp_cv (M' := mi_M_take) (As := [.ref a1, .int 64]) (st := []) (fr' := 2) (wo' := 24) (dr_sV (A := [.int 64]) cl_M hk tw_773 tw_775 tp_24 co_M_take ⟨by decide, by decide⟩ (by rfl) d_M_eventRow_116 rfl) co_M_take (by decide +kernel) (by decide) (Nat.le_of_ble_eq_true rfl) (Nat.le_of_ble_eq_true rfl) (fun Q' hq => t_M_take _ _ _ hq) hp (fun h10 hp => ?_) (fun E q h3 hp => wx_out (by decide) hp)
      exact wp_sub [0, 1] rfl (t_M_eventRow_119 _ _ _ hp)
    · refine wp_aload_n d_M_eventRow_71 0 rfl ?_
      refine wp_gr cl_M fl_M_24 (by decide) d_M_eventRow_72 hp (fun a11 hp => ?_) (fun hp => (dr_p0 hp).elim)
      refine wp_iload_n d_M_eventRow_75 1 rfl ?_
      refine wp_aload_n d_M_eventRow_76 0 rfl ?_
      refine wp_iconst (v := 0) (by decide) d_M_eventRow_77 ?_
      refine wp_bipush (v := 19) (by decide) d_M_eventRow_78 ?_
      refine wp_k hp (fun hk hp => ?_)
      refine wp_ci (M' := mi_M_number) (As := [.ref a1, .int 0, .int 19]) (st := [.int x2, .ref a11]) (fr' := 2) (wo' := 26) (dr_sV (A := [.int 0, .int 19]) cl_M hk tw_761 tw_763 tp_21 co_M_number ⟨by decide, by decide⟩ (by rfl) d_M_eventRow_80 rfl) co_M_number (by decide +kernel) (by decide) (Nat.le_of_ble_eq_true rfl) (Nat.le_of_ble_eq_true rfl) (fun Q' hq => t_M_number _ _ _ _ hq) hp (fun x13 h12 hp => ?_) (fun E q h3 hp => wx_out (by decide) hp)
      refine wp_iastore d_M_eventRow_83 hp (fun h14 hp => ?_)
      refine wp_aload_n d_M_eventRow_84 0 rfl ?_
      refine wp_bipush (v := 43) (by decide) d_M_eventRow_85 ?_
      refine wp_k hp (fun hk hp => ?_)
      refine wp_cv (M' := mi_M_take) (As := [.ref a1, .int 43]) (st := []) (fr' := 2) (wo' := 24) (dr_sV (A := [.int 43]) cl_M hk tw_773 tw_775 tp_24 co_M_take ⟨by decide, by decide⟩ (by rfl) d_M_eventRow_87 rfl) co_M_take (by decide +kernel) (by decide) (Nat.le_of_ble_eq_true rfl) (Nat.le_of_ble_eq_true rfl) (fun Q' hq => t_M_take _ _ _ hq) hp (fun h15 hp => ?_) (fun E q h3 hp => wx_out (by decide) hp)
      refine wp_aload_n d_M_eventRow_90 0 rfl ?_
      refine wp_gr cl_M fl_M_27 (by decide) d_M_eventRow_91 hp (fun a16 hp => ?_) (fun hp => (dr_p0 hp).elim)
      refine wp_iload_n d_M_eventRow_94 1 rfl ?_
      refine wp_aload_n d_M_eventRow_95 0 rfl ?_
      refine wp_iconst (v := 0) (by decide) d_M_eventRow_96 ?_
      refine wp_sipush (v := 999) (by decide) d_M_eventRow_97 ?_
      refine wp_k hp (fun hk hp => ?_)
      refine wp_ci (M' := mi_M_number) (As := [.ref a1, .int 0, .int 999]) (st := [.int x2, .ref a16]) (fr' := 2) (wo' := 26) (dr_sV (A := [.int 0, .int 999]) cl_M hk tw_761 tw_763 tp_21 co_M_number ⟨by decide, by decide⟩ (by rfl) d_M_eventRow_100 rfl) co_M_number (by decide +kernel) (by decide) (Nat.le_of_ble_eq_true rfl) (Nat.le_of_ble_eq_true rfl) (fun Q' hq => t_M_number _ _ _ _ hq) hp (fun x18 h17 hp => ?_) (fun E q h3 hp => wx_out (by decide) hp)
      refine wp_iastore d_M_eventRow_103 hp (fun h19 hp => ?_)
      refine wp_aload_n d_M_eventRow_104 0 rfl ?_
      refine wp_bipush (v := 126) (by decide) d_M_eventRow_105 ?_
      refine wp_k hp (fun hk hp => ?_)
      refine wp_cv (M' := mi_M_take) (As := [.ref a1, .int 126]) (st := []) (fr' := 2) (wo' := 24) (dr_sV (A := [.int 126]) cl_M hk tw_773 tw_775 tp_24 co_M_take ⟨by decide, by decide⟩ (by rfl) d_M_eventRow_107 rfl) co_M_take (by decide +kernel) (by decide) (Nat.le_of_ble_eq_true rfl) (Nat.le_of_ble_eq_true rfl) (fun Q' hq => t_M_take _ _ _ hq) hp (fun h20 hp => ?_) (fun E q h3 hp => wx_out (by decide) hp)
      refine wp_goto (tgt := 119) d_M_eventRow_110 (by decide) ?_
      exact wp_sub [0, 1] rfl (t_M_eventRow_119 _ _ _ hp)
  · exact wp_return rfl d_M_eventRow_47 hp
set_option maxRecDepth 100000 in
set_option maxHeartbeats 400000 in
theorem t_M_eventRow {Q : dr_RS → dr_AH → Prop} : ∀ (a1 : Nat) (h : dr_AH), dr_p (f_M_eventRow a1 h) Q → dr_W mi_M_eventRow 3 44 0 [(0, .ref a1)] [] h Q := by
  intro a1 h hp
  unfold f_M_eventRow at hp
  refine wp_aload_n d_M_eventRow_0 0 rfl ?_
  refine wp_iconst (v := 1) (by decide) d_M_eventRow_1 ?_
  refine wp_bipush (v := 40) (by decide) d_M_eventRow_2 ?_
  refine wp_k hp (fun hk hp => ?_)
  refine wp_ci (M' := mi_M_number) (As := [.ref a1, .int 1, .int 40]) (st := []) (fr' := 2) (wo' := 26) (dr_sV (A := [.int 1, .int 40]) cl_M hk tw_761 tw_763 tp_21 co_M_number ⟨by decide, by decide⟩ (by rfl) d_M_eventRow_4 rfl) co_M_number (by decide +kernel) (by decide) (Nat.le_of_ble_eq_true rfl) (Nat.le_of_ble_eq_true rfl) (fun Q' hq => t_M_number _ _ _ _ hq) hp (fun x3 h2 hp => ?_) (fun E q h3 hp => wx_out (by decide) hp)
  refine wp_istore_n (l' := [(1, .int x3), (0, .ref a1)]) d_M_eventRow_7 (by decide) rfl ?_
  refine wp_sipush (v := 369) (by decide) d_M_eventRow_8 ?_
  refine wp_iload_n d_M_eventRow_11 0 rfl ?_
  refine wp_iadd d_M_eventRow_12 ?_
  refine wp_istore_n (l' := [(2, .int (369 + x3)), (1, .int x3), (0, .ref a1)]) d_M_eventRow_13 (by decide) rfl ?_
  refine wp_aload_n d_M_eventRow_14 2 rfl ?_
  refine wp_gi cl_M fl_M_108 (by decide) d_M_eventRow_15 hp (fun x4 hp => ?_)
  refine wp_if_ge (tgt := 40) d_M_eventRow_18 (by decide) hp (fun _ hp => ?_) (fun _ hp => ?_)
  · exact wp_sub [2, 0] rfl (t_M_eventRow_40 _ _ _ hp)
  · refine wp_aload_n d_M_eventRow_21 2 rfl ?_
    refine wp_gr cl_M fl_M_17 (by decide) d_M_eventRow_22 hp (fun a5 hp => ?_) (fun hp => (dr_p0 hp).elim)
    refine wp_iload_n d_M_eventRow_25 0 rfl ?_
    refine wp_zaload d_M_eventRow_26 hp (fun x6 hp => ?_)
    refine wp_if_eq (tgt := 40) d_M_eventRow_27 (by decide) hp (fun _ hp => ?_) (fun _ hp => ?_)
    · exact wp_sub [2, 0] rfl (t_M_eventRow_40 _ _ _ hp)
    · refine wp_aload_n d_M_eventRow_30 2 rfl ?_
      refine wp_aload_n d_M_eventRow_31 2 rfl ?_
      refine wp_gi cl_M fl_M_101 (by decide) d_M_eventRow_32 hp (fun x7 hp => ?_)
      refine wp_iconst (v := 1) (by decide) d_M_eventRow_35 ?_
      refine wp_isub d_M_eventRow_36 ?_
      refine wp_k hp (fun hk hp => ?_)
      refine wp_cv (M' := mi_M_fail) (As := [.ref a1, .int (x7 - 1)]) (st := []) (fr' := 0) (wo' := 0) (dr_sV (A := [.int (x7 - 1)]) cl_M hk tw_769 tw_771 tp_23 co_M_fail ⟨by decide, by decide⟩ (by rfl) d_M_eventRow_37 rfl) co_M_fail (by decide +kernel) (by decide) (Nat.le_of_ble_eq_true rfl) (Nat.le_of_ble_eq_true rfl) (fun Q' hq => t_M_fail _ _ _ hq) hp (fun h8 hp => ?_) (fun E q h3 hp => wx_out (by decide) hp)
      exact wp_sub [2, 0] rfl (t_M_eventRow_40 _ _ _ hp)
def f_M_aimRow_94 (a1 : Nat) (x2 : Int32) (h : dr_AH) : Option (dr_RS × dr_AH) :=
  (dr_k h a1 4 (dr_cv' (f_M_take a1 62 h) fun h3 => (dr_gr' h3 4 a1 16 fun a4 => (dr_k h3 a1 4 (dr_ci' (f_M_number a1 0 19 h3) fun x6 h5 => (dr_si h5 a4 x2 x6 fun h7 => (dr_k h7 a1 4 (dr_cv' (f_M_take a1 60 h7) fun h8 => (dr_gr' h8 4 a1 17 fun a9 => (dr_k h8 a1 4 (dr_ci' (f_M_number a1 1 999 h8) fun x11 h10 => (dr_si h10 a9 x2 x11 fun h12 => (dr_k h12 a1 4 (dr_cv' (f_M_take a1 119 h12) fun h13 => (dr_gr' h13 4 a1 18 fun a14 => (dr_k h13 a1 4 (dr_ci' (f_M_number a1 1 9 h13) fun x16 h15 => (dr_si h15 a14 x2 x16 fun h17 => (dr_k h17 a1 4 (dr_cv' (f_M_take a1 59 h17) fun h18 => (dr_gr' h18 4 a1 14 fun a19 => (dr_sz h18 a19 x2 1 fun h20 => some (.inl none, h20)))))))))))))))))))))))
def f_M_aimRow_40 (a1 : Nat) (x2 : Int32) (h : dr_AH) : Option (dr_RS × dr_AH) :=
  (dr_k h a1 4 (dr_cv' (f_M_take a1 101 h) fun h3 => (dr_gr' h3 4 a1 15 fun a4 => (dr_k h3 a1 4 (dr_ci' (f_M_number a1 1 40 h3) fun x6 h5 => (dr_si h5 a4 x2 x6 fun h7 => (dr_gi h7 4 a1 6 fun x8 => if 0 ≤ x8 then f_M_aimRow_94 a1 x2 h7 else (dr_gr' h7 4 a1 7 fun a9 => (dr_gr' h7 4 a1 15 fun a10 => (dr_ai h7 a10 x2 fun x11 => (dr_az h7 a9 (369 + x11) fun x12 => if x12 = 0 then (dr_gi h7 4 a1 5 fun x13 => (dr_k h7 a1 4 (dr_cv' (f_M_fail a1 (x13 - 1) h7) fun h14 => f_M_aimRow_94 a1 x2 h14))) else f_M_aimRow_94 a1 x2 h7)))))))))))
def f_M_aimRow (a1 : Nat) (h : dr_AH) : Option (dr_RS × dr_AH) :=
  (dr_k h a1 4 (dr_ci' (f_M_number a1 1 20 h) fun x3 h2 => (dr_gi h2 4 a1 6 fun x4 => if 0 ≤ x4 then f_M_aimRow_40 a1 (189 + x3) h2 else (dr_gr' h2 4 a1 14 fun a5 => (dr_az h2 a5 (189 + x3) fun x6 => if x6 = 0 then f_M_aimRow_40 a1 (189 + x3) h2 else (dr_gi h2 4 a1 5 fun x7 => (dr_k h2 a1 4 (dr_cv' (f_M_fail a1 (x7 - 1) h2) fun h8 => f_M_aimRow_40 a1 (189 + x3) h8))))))))
set_option maxRecDepth 100000 in
set_option maxHeartbeats 400000 in
theorem t_M_aimRow_94 {Q : dr_RS → dr_AH → Prop} : ∀ (a1 : Nat) (x2 : Int32) (h : dr_AH), dr_p (f_M_aimRow_94 a1 x2 h) Q → dr_W mi_M_aimRow 3 44 94 [(0, .ref a1), (2, .int x2)] [] h Q := by
  intro a1 x2 h hp
  unfold f_M_aimRow_94 at hp
  refine wp_aload_n d_M_aimRow_94 0 rfl ?_
  refine wp_bipush (v := 62) (by decide) d_M_aimRow_95 ?_
  refine wp_k hp (fun hk hp => ?_)
  refine wp_cv (M' := mi_M_take) (As := [.ref a1, .int 62]) (st := []) (fr' := 2) (wo' := 24) (dr_sV (A := [.int 62]) cl_M hk tw_773 tw_775 tp_24 co_M_take ⟨by decide, by decide⟩ (by rfl) d_M_aimRow_97 rfl) co_M_take (by decide +kernel) (by decide) (Nat.le_of_ble_eq_true rfl) (Nat.le_of_ble_eq_true rfl) (fun Q' hq => t_M_take _ _ _ hq) hp (fun h3 hp => ?_) (fun E q h3 hp => wx_out (by decide) hp)
  refine wp_aload_n d_M_aimRow_100 0 rfl ?_
  refine wp_gr cl_M fl_M_45 (by decide) d_M_aimRow_101 hp (fun a4 hp => ?_) (fun hp => (dr_p0 hp).elim)
  refine wp_iload_n d_M_aimRow_104 1 rfl ?_
  refine wp_aload_n d_M_aimRow_105 0 rfl ?_
  refine wp_iconst (v := 0) (by decide) d_M_aimRow_106 ?_
  refine wp_bipush (v := 19) (by decide) d_M_aimRow_107 ?_
  refine wp_k hp (fun hk hp => ?_)
  refine wp_ci (M' := mi_M_number) (As := [.ref a1, .int 0, .int 19]) (st := [.int x2, .ref a4]) (fr' := 2) (wo' := 26) (dr_sV (A := [.int 0, .int 19]) cl_M hk tw_761 tw_763 tp_21 co_M_number ⟨by decide, by decide⟩ (by rfl) d_M_aimRow_109 rfl) co_M_number (by decide +kernel) (by decide) (Nat.le_of_ble_eq_true rfl) (Nat.le_of_ble_eq_true rfl) (fun Q' hq => t_M_number _ _ _ _ hq) hp (fun x6 h5 hp => ?_) (fun E q h3 hp => wx_out (by decide) hp)
  refine wp_iastore d_M_aimRow_112 hp (fun h7 hp => ?_)
  refine wp_aload_n d_M_aimRow_113 0 rfl ?_
  refine wp_bipush (v := 60) (by decide) d_M_aimRow_114 ?_
  refine wp_k hp (fun hk hp => ?_)
  refine wp_cv (M' := mi_M_take) (As := [.ref a1, .int 60]) (st := []) (fr' := 2) (wo' := 24) (dr_sV (A := [.int 60]) cl_M hk tw_773 tw_775 tp_24 co_M_take ⟨by decide, by decide⟩ (by rfl) d_M_aimRow_116 rfl) co_M_take (by decide +kernel) (by decide) (Nat.le_of_ble_eq_true rfl) (Nat.le_of_ble_eq_true rfl) (fun Q' hq => t_M_take _ _ _ hq) hp (fun h8 hp => ?_) (fun E q h3 hp => wx_out (by decide) hp)
  refine wp_aload_n d_M_aimRow_119 0 rfl ?_
  refine wp_gr cl_M fl_M_48 (by decide) d_M_aimRow_120 hp (fun a9 hp => ?_) (fun hp => (dr_p0 hp).elim)
  refine wp_iload_n d_M_aimRow_123 1 rfl ?_
  refine wp_aload_n d_M_aimRow_124 0 rfl ?_
  refine wp_iconst (v := 1) (by decide) d_M_aimRow_125 ?_
  refine wp_sipush (v := 999) (by decide) d_M_aimRow_126 ?_
  refine wp_k hp (fun hk hp => ?_)
  refine wp_ci (M' := mi_M_number) (As := [.ref a1, .int 1, .int 999]) (st := [.int x2, .ref a9]) (fr' := 2) (wo' := 26) (dr_sV (A := [.int 1, .int 999]) cl_M hk tw_761 tw_763 tp_21 co_M_number ⟨by decide, by decide⟩ (by rfl) d_M_aimRow_129 rfl) co_M_number (by decide +kernel) (by decide) (Nat.le_of_ble_eq_true rfl) (Nat.le_of_ble_eq_true rfl) (fun Q' hq => t_M_number _ _ _ _ hq) hp (fun x11 h10 hp => ?_) (fun E q h3 hp => wx_out (by decide) hp)
  refine wp_iastore d_M_aimRow_132 hp (fun h12 hp => ?_)
  refine wp_aload_n d_M_aimRow_133 0 rfl ?_
  refine wp_bipush (v := 119) (by decide) d_M_aimRow_134 ?_
  refine wp_k hp (fun hk hp => ?_)
  refine wp_cv (M' := mi_M_take) (As := [.ref a1, .int 119]) (st := []) (fr' := 2) (wo' := 24) (dr_sV (A := [.int 119]) cl_M hk tw_773 tw_775 tp_24 co_M_take ⟨by decide, by decide⟩ (by rfl) d_M_aimRow_136 rfl) co_M_take (by decide +kernel) (by decide) (Nat.le_of_ble_eq_true rfl) (Nat.le_of_ble_eq_true rfl) (fun Q' hq => t_M_take _ _ _ hq) hp (fun h13 hp => ?_) (fun E q h3 hp => wx_out (by decide) hp)
  refine wp_aload_n d_M_aimRow_139 0 rfl ?_
  refine wp_gr cl_M fl_M_51 (by decide) d_M_aimRow_140 hp (fun a14 hp => ?_) (fun hp => (dr_p0 hp).elim)
  refine wp_iload_n d_M_aimRow_143 1 rfl ?_
  refine wp_aload_n d_M_aimRow_144 0 rfl ?_
  refine wp_iconst (v := 1) (by decide) d_M_aimRow_145 ?_
  refine wp_bipush (v := 9) (by decide) d_M_aimRow_146 ?_
  refine wp_k hp (fun hk hp => ?_)
  refine wp_ci (M' := mi_M_number) (As := [.ref a1, .int 1, .int 9]) (st := [.int x2, .ref a14]) (fr' := 2) (wo' := 26) (dr_sV (A := [.int 1, .int 9]) cl_M hk tw_761 tw_763 tp_21 co_M_number ⟨by decide, by decide⟩ (by rfl) d_M_aimRow_148 rfl) co_M_number (by decide +kernel) (by decide) (Nat.le_of_ble_eq_true rfl) (Nat.le_of_ble_eq_true rfl) (fun Q' hq => t_M_number _ _ _ _ hq) hp (fun x16 h15 hp => ?_) (fun E q h3 hp => wx_out (by decide) hp)
  refine wp_iastore d_M_aimRow_151 hp (fun h17 hp => ?_)
  refine wp_aload_n d_M_aimRow_152 0 rfl ?_
  refine wp_bipush (v := 59) (by decide) d_M_aimRow_153 ?_
  refine wp_k hp (fun hk hp => ?_)
  refine wp_cv (M' := mi_M_take) (As := [.ref a1, .int 59]) (st := []) (fr' := 2) (wo' := 24) (dr_sV (A := [.int 59]) cl_M hk tw_773 tw_775 tp_24 co_M_take ⟨by decide, by decide⟩ (by rfl) d_M_aimRow_155 rfl) co_M_take (by decide +kernel) (by decide) (Nat.le_of_ble_eq_true rfl) (Nat.le_of_ble_eq_true rfl) (fun Q' hq => t_M_take _ _ _ hq) hp (fun h18 hp => ?_) (fun E q h3 hp => wx_out (by decide) hp)
  refine wp_aload_n d_M_aimRow_158 0 rfl ?_
  refine wp_gr cl_M fl_M_39 (by decide) d_M_aimRow_159 hp (fun a19 hp => ?_) (fun hp => (dr_p0 hp).elim)
  refine wp_iload_n d_M_aimRow_162 1 rfl ?_
  refine wp_iconst (v := 1) (by decide) d_M_aimRow_163 ?_
  refine wp_zastore d_M_aimRow_164 hp (fun h20 hp => ?_)
  exact wp_return rfl d_M_aimRow_165 hp
set_option maxRecDepth 100000 in
set_option maxHeartbeats 400000 in
theorem t_M_aimRow_40 {Q : dr_RS → dr_AH → Prop} : ∀ (a1 : Nat) (x2 : Int32) (h : dr_AH), dr_p (f_M_aimRow_40 a1 x2 h) Q → dr_W mi_M_aimRow 3 44 40 [(0, .ref a1), (2, .int x2)] [] h Q := by
  intro a1 x2 h hp
  unfold f_M_aimRow_40 at hp
  refine wp_aload_n d_M_aimRow_40 0 rfl ?_
  refine wp_bipush (v := 101) (by decide) d_M_aimRow_41 ?_
  refine wp_k hp (fun hk hp => ?_)
  refine wp_cv (M' := mi_M_take) (As := [.ref a1, .int 101]) (st := []) (fr' := 2) (wo' := 24) (dr_sV (A := [.int 101]) cl_M hk tw_773 tw_775 tp_24 co_M_take ⟨by decide, by decide⟩ (by rfl) d_M_aimRow_43 rfl) co_M_take (by decide +kernel) (by decide) (Nat.le_of_ble_eq_true rfl) (Nat.le_of_ble_eq_true rfl) (fun Q' hq => t_M_take _ _ _ hq) hp (fun h3 hp => ?_) (fun E q h3 hp => wx_out (by decide) hp)
  refine wp_aload_n d_M_aimRow_46 0 rfl ?_
  refine wp_gr cl_M fl_M_42 (by decide) d_M_aimRow_47 hp (fun a4 hp => ?_) (fun hp => (dr_p0 hp).elim)
  refine wp_iload_n d_M_aimRow_50 1 rfl ?_
  refine wp_aload_n d_M_aimRow_51 0 rfl ?_
  refine wp_iconst (v := 1) (by decide) d_M_aimRow_52 ?_
  refine wp_bipush (v := 40) (by decide) d_M_aimRow_53 ?_
  refine wp_k hp (fun hk hp => ?_)
  refine wp_ci (M' := mi_M_number) (As := [.ref a1, .int 1, .int 40]) (st := [.int x2, .ref a4]) (fr' := 2) (wo' := 26) (dr_sV (A := [.int 1, .int 40]) cl_M hk tw_761 tw_763 tp_21 co_M_number ⟨by decide, by decide⟩ (by rfl) d_M_aimRow_55 rfl) co_M_number (by decide +kernel) (by decide) (Nat.le_of_ble_eq_true rfl) (Nat.le_of_ble_eq_true rfl) (fun Q' hq => t_M_number _ _ _ _ hq) hp (fun x6 h5 hp => ?_) (fun E q h3 hp => wx_out (by decide) hp)
  refine wp_iastore d_M_aimRow_58 hp (fun h7 hp => ?_)
  refine wp_aload_n d_M_aimRow_59 0 rfl ?_
  refine wp_gi cl_M fl_M_108 (by decide) d_M_aimRow_60 hp (fun x8 hp => ?_)
  refine wp_if_ge (tgt := 94) d_M_aimRow_63 (by decide) hp (fun _ hp => ?_) (fun _ hp => ?_)
  · exact wp_sub [0, 1] rfl (t_M_aimRow_94 _ _ _ hp)
  · refine wp_aload_n d_M_aimRow_66 0 rfl ?_
    refine wp_gr cl_M fl_M_17 (by decide) d_M_aimRow_67 hp (fun a9 hp => ?_) (fun hp => (dr_p0 hp).elim)
    refine wp_sipush (v := 369) (by decide) d_M_aimRow_70 ?_
    refine wp_aload_n d_M_aimRow_73 0 rfl ?_
    refine wp_gr cl_M fl_M_42 (by decide) d_M_aimRow_74 hp (fun a10 hp => ?_) (fun hp => (dr_p0 hp).elim)
    refine wp_iload_n d_M_aimRow_77 1 rfl ?_
    refine wp_iaload d_M_aimRow_78 hp (fun x11 hp => ?_)
    refine wp_iadd d_M_aimRow_79 ?_
    refine wp_zaload d_M_aimRow_80 hp (fun x12 hp => ?_)
    refine wp_if_ne (tgt := 94) d_M_aimRow_81 (by decide) hp (fun _ hp => ?_) (fun _ hp => ?_)
    · exact wp_sub [0, 1] rfl (t_M_aimRow_94 _ _ _ hp)
    · refine wp_aload_n d_M_aimRow_84 0 rfl ?_
      refine wp_aload_n d_M_aimRow_85 0 rfl ?_
      refine wp_gi cl_M fl_M_101 (by decide) d_M_aimRow_86 hp (fun x13 hp => ?_)
      refine wp_iconst (v := 1) (by decide) d_M_aimRow_89 ?_
      refine wp_isub d_M_aimRow_90 ?_
      refine wp_k hp (fun hk hp => ?_)
      refine wp_cv (M' := mi_M_fail) (As := [.ref a1, .int (x13 - 1)]) (st := []) (fr' := 0) (wo' := 0) (dr_sV (A := [.int (x13 - 1)]) cl_M hk tw_769 tw_771 tp_23 co_M_fail ⟨by decide, by decide⟩ (by rfl) d_M_aimRow_91 rfl) co_M_fail (by decide +kernel) (by decide) (Nat.le_of_ble_eq_true rfl) (Nat.le_of_ble_eq_true rfl) (fun Q' hq => t_M_fail _ _ _ hq) hp (fun h14 hp => ?_) (fun E q h3 hp => wx_out (by decide) hp)
      exact wp_sub [0, 1] rfl (t_M_aimRow_94 _ _ _ hp)
set_option maxRecDepth 100000 in
set_option maxHeartbeats 400000 in
theorem t_M_aimRow {Q : dr_RS → dr_AH → Prop} : ∀ (a1 : Nat) (h : dr_AH), dr_p (f_M_aimRow a1 h) Q → dr_W mi_M_aimRow 3 44 0 [(0, .ref a1)] [] h Q := by
  intro a1 h hp
  unfold f_M_aimRow at hp
  refine wp_aload_n d_M_aimRow_0 0 rfl ?_
  refine wp_iconst (v := 1) (by decide) d_M_aimRow_1 ?_
  refine wp_bipush (v := 20) (by decide) d_M_aimRow_2 ?_
  refine wp_k hp (fun hk hp => ?_)
  refine wp_ci (M' := mi_M_number) (As := [.ref a1, .int 1, .int 20]) (st := []) (fr' := 2) (wo' := 26) (dr_sV (A := [.int 1, .int 20]) cl_M hk tw_761 tw_763 tp_21 co_M_number ⟨by decide, by decide⟩ (by rfl) d_M_aimRow_4 rfl) co_M_number (by decide +kernel) (by decide) (Nat.le_of_ble_eq_true rfl) (Nat.le_of_ble_eq_true rfl) (fun Q' hq => t_M_number _ _ _ _ hq) hp (fun x3 h2 hp => ?_) (fun E q h3 hp => wx_out (by decide) hp)
  refine wp_istore_n (l' := [(1, .int x3), (0, .ref a1)]) d_M_aimRow_7 (by decide) rfl ?_
  refine wp_sipush (v := 189) (by decide) d_M_aimRow_8 ?_
  refine wp_iload_n d_M_aimRow_11 0 rfl ?_
  refine wp_iadd d_M_aimRow_12 ?_
  refine wp_istore_n (l' := [(2, .int (189 + x3)), (1, .int x3), (0, .ref a1)]) d_M_aimRow_13 (by decide) rfl ?_
  refine wp_aload_n d_M_aimRow_14 2 rfl ?_
  refine wp_gi cl_M fl_M_108 (by decide) d_M_aimRow_15 hp (fun x4 hp => ?_)
  refine wp_if_ge (tgt := 40) d_M_aimRow_18 (by decide) hp (fun _ hp => ?_) (fun _ hp => ?_)
  · exact wp_sub [2, 0] rfl (t_M_aimRow_40 _ _ _ hp)
  · refine wp_aload_n d_M_aimRow_21 2 rfl ?_
    refine wp_gr cl_M fl_M_39 (by decide) d_M_aimRow_22 hp (fun a5 hp => ?_) (fun hp => (dr_p0 hp).elim)
    refine wp_iload_n d_M_aimRow_25 0 rfl ?_
    refine wp_zaload d_M_aimRow_26 hp (fun x6 hp => ?_)
    refine wp_if_eq (tgt := 40) d_M_aimRow_27 (by decide) hp (fun _ hp => ?_) (fun _ hp => ?_)
    · exact wp_sub [2, 0] rfl (t_M_aimRow_40 _ _ _ hp)
    · refine wp_aload_n d_M_aimRow_30 2 rfl ?_
      refine wp_aload_n d_M_aimRow_31 2 rfl ?_
      refine wp_gi cl_M fl_M_101 (by decide) d_M_aimRow_32 hp (fun x7 hp => ?_)
      refine wp_iconst (v := 1) (by decide) d_M_aimRow_35 ?_
      refine wp_isub d_M_aimRow_36 ?_
      refine wp_k hp (fun hk hp => ?_)
      refine wp_cv (M' := mi_M_fail) (As := [.ref a1, .int (x7 - 1)]) (st := []) (fr' := 0) (wo' := 0) (dr_sV (A := [.int (x7 - 1)]) cl_M hk tw_769 tw_771 tp_23 co_M_fail ⟨by decide, by decide⟩ (by rfl) d_M_aimRow_37 rfl) co_M_fail (by decide +kernel) (by decide) (Nat.le_of_ble_eq_true rfl) (Nat.le_of_ble_eq_true rfl) (fun Q' hq => t_M_fail _ _ _ hq) hp (fun h8 hp => ?_) (fun E q h3 hp => wx_out (by decide) hp)
      exact wp_sub [2, 0] rfl (t_M_aimRow_40 _ _ _ hp)
def f_M_copy_130 : Nat → Nat → Int32 → Int32 → Int32 → dr_AH → Option (dr_RS × dr_AH)
  | 0, _, _, _, _, _ => none
  | n + 1, a1, x2, x3, x4, h => if 21 ≤ x4 then some (.inl none, h) else (dr_gr' h 4 a1 14 fun a5 => (dr_gr' h 4 a1 14 fun a6 => (dr_az h a6 ((x2 * 21) + x4) fun x7 => (dr_sz h a5 ((x3 * 21) + x4) x7 fun h8 => (dr_gr' h8 4 a1 15 fun a9 => (dr_gr' h8 4 a1 15 fun a10 => (dr_ai h8 a10 ((x2 * 21) + x4) fun x11 => (dr_si h8 a9 ((x3 * 21) + x4) x11 fun h12 => (dr_gr' h12 4 a1 16 fun a13 => (dr_gr' h12 4 a1 16 fun a14 => (dr_ai h12 a14 ((x2 * 21) + x4) fun x15 => (dr_si h12 a13 ((x3 * 21) + x4) x15 fun h16 => (dr_gr' h16 4 a1 17 fun a17 => (dr_gr' h16 4 a1 17 fun a18 => (dr_ai h16 a18 ((x2 * 21) + x4) fun x19 => (dr_si h16 a17 ((x3 * 21) + x4) x19 fun h20 => (dr_gr' h20 4 a1 18 fun a21 => (dr_gr' h20 4 a1 18 fun a22 => (dr_ai h20 a22 ((x2 * 21) + x4) fun x23 => (dr_si h20 a21 ((x3 * 21) + x4) x23 fun h24 => f_M_copy_130 n a1 x2 x3 (x4 + 1) h24))))))))))))))))))))
def f_M_copy_2 : Nat → Nat → Int32 → Int32 → Int32 → dr_AH → Option (dr_RS × dr_AH)
  | 0, _, _, _, _, _ => none
  | n + 1, a1, x2, x3, x4, h => if 41 ≤ x4 then f_M_copy_130 dr_fu a1 x2 x3 0 h else (dr_gr' h 4 a1 7 fun a5 => (dr_gr' h 4 a1 7 fun a6 => (dr_az h a6 ((x2 * 41) + x4) fun x7 => (dr_sz h a5 ((x3 * 41) + x4) x7 fun h8 => (dr_gr' h8 4 a1 8 fun a9 => (dr_gr' h8 4 a1 8 fun a10 => (dr_ai h8 a10 ((x2 * 41) + x4) fun x11 => (dr_si h8 a9 ((x3 * 41) + x4) x11 fun h12 => (dr_gr' h12 4 a1 9 fun a13 => (dr_gr' h12 4 a1 9 fun a14 => (dr_ai h12 a14 ((x2 * 41) + x4) fun x15 => (dr_si h12 a13 ((x3 * 41) + x4) x15 fun h16 => (dr_gr' h16 4 a1 10 fun a17 => (dr_gr' h16 4 a1 10 fun a18 => (dr_ai h16 a18 ((x2 * 41) + x4) fun x19 => (dr_si h16 a17 ((x3 * 41) + x4) x19 fun h20 => (dr_gr' h20 4 a1 11 fun a21 => (dr_gr' h20 4 a1 11 fun a22 => (dr_ai h20 a22 ((x2 * 41) + x4) fun x23 => (dr_si h20 a21 ((x3 * 41) + x4) x23 fun h24 => (dr_gr' h24 4 a1 12 fun a25 => (dr_gr' h24 4 a1 12 fun a26 => (dr_az h24 a26 ((x2 * 41) + x4) fun x27 => (dr_sz h24 a25 ((x3 * 41) + x4) x27 fun h28 => (dr_gr' h28 4 a1 13 fun a29 => (dr_gr' h28 4 a1 13 fun a30 => (dr_ai h28 a30 ((x2 * 41) + x4) fun x31 => (dr_si h28 a29 ((x3 * 41) + x4) x31 fun h32 => f_M_copy_2 n a1 x2 x3 (x4 + 1) h32))))))))))))))))))))))))))))
def f_M_copy (a1 : Nat) (x2 : Int32) (x3 : Int32) (h : dr_AH) : Option (dr_RS × dr_AH) :=
  f_M_copy_2 dr_fu a1 x2 x3 0 h
set_option maxRecDepth 100000 in
set_option maxHeartbeats 400000 in
theorem t_M_copy_130 {Q : dr_RS → dr_AH → Prop} : ∀ (n : Nat) (a1 : Nat) (x2 : Int32) (x3 : Int32) (x4 : Int32) (h : dr_AH), dr_p (f_M_copy_130 n a1 x2 x3 x4 h) Q → dr_W mi_M_copy 0 0 130 [(0, .ref a1), (1, .int x2), (2, .int x3), (3, .int x4)] [] h Q := by
  intro n
  induction n with
  | zero => intro a1 x2 x3 x4 h hp; exact (dr_p0 hp).elim
  | succ n ih =>
    intro a1 x2 x3 x4 h hp
    unfold f_M_copy_130 at hp
    refine wp_iload_n d_M_copy_130 3 rfl ?_
    refine wp_bipush (v := 21) (by decide) d_M_copy_131 ?_
    refine wp_icmp_ge (tgt := 228) d_M_copy_133 (by decide) hp (fun _ hp => ?_) (fun _ hp => ?_)
    · exact wp_return rfl d_M_copy_228 hp
    · refine wp_iload_n d_M_copy_136 1 rfl ?_
      refine wp_bipush (v := 21) (by decide) d_M_copy_137 ?_
      refine wp_imul d_M_copy_139 ?_
      refine wp_iload_n d_M_copy_140 3 rfl ?_
      refine wp_iadd d_M_copy_141 ?_
      refine wp_istore (l' := [(4, .int ((x2 * 21) + x4)), (0, .ref a1), (1, .int x2), (2, .int x3), (3, .int x4)]) d_M_copy_142 (by decide) rfl ?_
      refine wp_iload_n d_M_copy_144 3 rfl ?_
      refine wp_bipush (v := 21) (by decide) d_M_copy_145 ?_
      refine wp_imul d_M_copy_147 ?_
      refine wp_iload_n d_M_copy_148 4 rfl ?_
      refine wp_iadd d_M_copy_149 ?_
      refine wp_istore (l' := [(5, .int ((x3 * 21) + x4)), (4, .int ((x2 * 21) + x4)), (0, .ref a1), (1, .int x2), (2, .int x3), (3, .int x4)]) d_M_copy_150 (by decide) rfl ?_
      refine wp_aload_n d_M_copy_152 2 rfl ?_
      refine wp_gr cl_M fl_M_39 (by decide) d_M_copy_153 hp (fun a5 hp => ?_) (fun hp => (dr_p0 hp).elim)
      refine wp_iload d_M_copy_156 0 rfl ?_
      refine wp_aload_n d_M_copy_158 2 rfl ?_
      refine wp_gr cl_M fl_M_39 (by decide) d_M_copy_159 hp (fun a6 hp => ?_) (fun hp => (dr_p0 hp).elim)
      refine wp_iload d_M_copy_162 1 rfl ?_
      refine wp_zaload d_M_copy_164 hp (fun x7 hp => ?_)
      refine wp_zastore d_M_copy_165 hp (fun h8 hp => ?_)
      refine wp_aload_n d_M_copy_166 2 rfl ?_
      refine wp_gr cl_M fl_M_42 (by decide) d_M_copy_167 hp (fun a9 hp => ?_) (fun hp => (dr_p0 hp).elim)
      refine wp_iload d_M_copy_170 0 rfl ?_
      refine wp_aload_n d_M_copy_172 2 rfl ?_
      refine wp_gr cl_M fl_M_42 (by decide) d_M_copy_173 hp (fun a10 hp => ?_) (fun hp => (dr_p0 hp).elim)
      refine wp_iload d_M_copy_176 1 rfl ?_
      refine wp_iaload d_M_copy_178 hp (fun x11 hp => ?_)
      refine wp_iastore d_M_copy_179 hp (fun h12 hp => ?_)
      refine wp_aload_n d_M_copy_180 2 rfl ?_
      refine wp_gr cl_M fl_M_45 (by decide) d_M_copy_181 hp (fun a13 hp => ?_) (fun hp => (dr_p0 hp).elim)
      refine wp_iload d_M_copy_184 0 rfl ?_
      refine wp_aload_n d_M_copy_186 2 rfl ?_
      refine wp_gr cl_M fl_M_45 (by decide) d_M_copy_187 hp (fun a14 hp => ?_) (fun hp => (dr_p0 hp).elim)
      refine wp_iload d_M_copy_190 1 rfl ?_
      refine wp_iaload d_M_copy_192 hp (fun x15 hp => ?_)
      refine wp_iastore d_M_copy_193 hp (fun h16 hp => ?_)
      refine wp_aload_n d_M_copy_194 2 rfl ?_
      refine wp_gr cl_M fl_M_48 (by decide) d_M_copy_195 hp (fun a17 hp => ?_) (fun hp => (dr_p0 hp).elim)
      refine wp_iload d_M_copy_198 0 rfl ?_
      refine wp_aload_n d_M_copy_200 2 rfl ?_
      refine wp_gr cl_M fl_M_48 (by decide) d_M_copy_201 hp (fun a18 hp => ?_) (fun hp => (dr_p0 hp).elim)
      refine wp_iload d_M_copy_204 1 rfl ?_
      refine wp_iaload d_M_copy_206 hp (fun x19 hp => ?_)
      refine wp_iastore d_M_copy_207 hp (fun h20 hp => ?_)
      refine wp_aload_n d_M_copy_208 2 rfl ?_
      refine wp_gr cl_M fl_M_51 (by decide) d_M_copy_209 hp (fun a21 hp => ?_) (fun hp => (dr_p0 hp).elim)
      refine wp_iload d_M_copy_212 0 rfl ?_
      refine wp_aload_n d_M_copy_214 2 rfl ?_
      refine wp_gr cl_M fl_M_51 (by decide) d_M_copy_215 hp (fun a22 hp => ?_) (fun hp => (dr_p0 hp).elim)
      refine wp_iload d_M_copy_218 1 rfl ?_
      refine wp_iaload d_M_copy_220 hp (fun x23 hp => ?_)
      refine wp_iastore d_M_copy_221 hp (fun h24 hp => ?_)
      refine wp_iinc (v := (x4 + 1)) (l' := [(3, .int (x4 + 1)), (5, .int ((x3 * 21) + x4)), (4, .int ((x2 * 21) + x4)), (0, .ref a1), (1, .int x2), (2, .int x3)]) d_M_copy_222 5 rfl rfl (by decide) rfl ?_
      refine wp_goto (tgt := 130) d_M_copy_225 (by decide) ?_
      exact wp_sub [3, 4, 5, 0] rfl (ih _ _ _ _ _ hp)
set_option maxRecDepth 100000 in
set_option maxHeartbeats 400000 in
theorem t_M_copy_2 {Q : dr_RS → dr_AH → Prop} : ∀ (n : Nat) (a1 : Nat) (x2 : Int32) (x3 : Int32) (x4 : Int32) (h : dr_AH), dr_p (f_M_copy_2 n a1 x2 x3 x4 h) Q → dr_W mi_M_copy 0 0 2 [(0, .ref a1), (1, .int x2), (2, .int x3), (3, .int x4)] [] h Q := by
  intro n
  induction n with
  | zero => intro a1 x2 x3 x4 h hp; exact (dr_p0 hp).elim
  | succ n ih =>
    intro a1 x2 x3 x4 h hp
    unfold f_M_copy_2 at hp
    refine wp_iload_n d_M_copy_2 3 rfl ?_
    refine wp_bipush (v := 41) (by decide) d_M_copy_3 ?_
    refine wp_icmp_ge (tgt := 128) d_M_copy_5 (by decide) hp (fun _ hp => ?_) (fun _ hp => ?_)
    · refine wp_iconst (v := 0) (by decide) d_M_copy_128 ?_
      refine wp_istore_n (l' := [(3, .int 0), (0, .ref a1), (1, .int x2), (2, .int x3)]) d_M_copy_129 (by decide) rfl ?_
      exact wp_sub [1, 2, 3, 0] rfl (t_M_copy_130 dr_fu _ _ _ _ _ hp)
    · refine wp_iload_n d_M_copy_8 1 rfl ?_
      refine wp_bipush (v := 41) (by decide) d_M_copy_9 ?_
      refine wp_imul d_M_copy_11 ?_
      refine wp_iload_n d_M_copy_12 3 rfl ?_
      refine wp_iadd d_M_copy_13 ?_
      refine wp_istore (l' := [(4, .int ((x2 * 41) + x4)), (0, .ref a1), (1, .int x2), (2, .int x3), (3, .int x4)]) d_M_copy_14 (by decide) rfl ?_
      refine wp_iload_n d_M_copy_16 3 rfl ?_
      refine wp_bipush (v := 41) (by decide) d_M_copy_17 ?_
      refine wp_imul d_M_copy_19 ?_
      refine wp_iload_n d_M_copy_20 4 rfl ?_
      refine wp_iadd d_M_copy_21 ?_
      refine wp_istore (l' := [(5, .int ((x3 * 41) + x4)), (4, .int ((x2 * 41) + x4)), (0, .ref a1), (1, .int x2), (2, .int x3), (3, .int x4)]) d_M_copy_22 (by decide) rfl ?_
      refine wp_aload_n d_M_copy_24 2 rfl ?_
      refine wp_gr cl_M fl_M_17 (by decide) d_M_copy_25 hp (fun a5 hp => ?_) (fun hp => (dr_p0 hp).elim)
      refine wp_iload d_M_copy_28 0 rfl ?_
      refine wp_aload_n d_M_copy_30 2 rfl ?_
      refine wp_gr cl_M fl_M_17 (by decide) d_M_copy_31 hp (fun a6 hp => ?_) (fun hp => (dr_p0 hp).elim)
      refine wp_iload d_M_copy_34 1 rfl ?_
      refine wp_zaload d_M_copy_36 hp (fun x7 hp => ?_)
      refine wp_zastore d_M_copy_37 hp (fun h8 hp => ?_)
      refine wp_aload_n d_M_copy_38 2 rfl ?_
      refine wp_gr cl_M fl_M_21 (by decide) d_M_copy_39 hp (fun a9 hp => ?_) (fun hp => (dr_p0 hp).elim)
      refine wp_iload d_M_copy_42 0 rfl ?_
      refine wp_aload_n d_M_copy_44 2 rfl ?_
      refine wp_gr cl_M fl_M_21 (by decide) d_M_copy_45 hp (fun a10 hp => ?_) (fun hp => (dr_p0 hp).elim)
      refine wp_iload d_M_copy_48 1 rfl ?_
      refine wp_iaload d_M_copy_50 hp (fun x11 hp => ?_)
      refine wp_iastore d_M_copy_51 hp (fun h12 hp => ?_)
      refine wp_aload_n d_M_copy_52 2 rfl ?_
      refine wp_gr cl_M fl_M_24 (by decide) d_M_copy_53 hp (fun a13 hp => ?_) (fun hp => (dr_p0 hp).elim)
      refine wp_iload d_M_copy_56 0 rfl ?_
      refine wp_aload_n d_M_copy_58 2 rfl ?_
      refine wp_gr cl_M fl_M_24 (by decide) d_M_copy_59 hp (fun a14 hp => ?_) (fun hp => (dr_p0 hp).elim)
      refine wp_iload d_M_copy_62 1 rfl ?_
      refine wp_iaload d_M_copy_64 hp (fun x15 hp => ?_)
      refine wp_iastore d_M_copy_65 hp (fun h16 hp => ?_)
      refine wp_aload_n d_M_copy_66 2 rfl ?_
      refine wp_gr cl_M fl_M_27 (by decide) d_M_copy_67 hp (fun a17 hp => ?_) (fun hp => (dr_p0 hp).elim)
      refine wp_iload d_M_copy_70 0 rfl ?_
      refine wp_aload_n d_M_copy_72 2 rfl ?_
      refine wp_gr cl_M fl_M_27 (by decide) d_M_copy_73 hp (fun a18 hp => ?_) (fun hp => (dr_p0 hp).elim)
      refine wp_iload d_M_copy_76 1 rfl ?_
      refine wp_iaload d_M_copy_78 hp (fun x19 hp => ?_)
      refine wp_iastore d_M_copy_79 hp (fun h20 hp => ?_)
      refine wp_aload_n d_M_copy_80 2 rfl ?_
      refine wp_gr cl_M fl_M_30 (by decide) d_M_copy_81 hp (fun a21 hp => ?_) (fun hp => (dr_p0 hp).elim)
      refine wp_iload d_M_copy_84 0 rfl ?_
      refine wp_aload_n d_M_copy_86 2 rfl ?_
      refine wp_gr cl_M fl_M_30 (by decide) d_M_copy_87 hp (fun a22 hp => ?_) (fun hp => (dr_p0 hp).elim)
      refine wp_iload d_M_copy_90 1 rfl ?_
      refine wp_iaload d_M_copy_92 hp (fun x23 hp => ?_)
      refine wp_iastore d_M_copy_93 hp (fun h24 hp => ?_)
      refine wp_aload_n d_M_copy_94 2 rfl ?_
      refine wp_gr cl_M fl_M_33 (by decide) d_M_copy_95 hp (fun a25 hp => ?_) (fun hp => (dr_p0 hp).elim)
      refine wp_iload d_M_copy_98 0 rfl ?_
      refine wp_aload_n d_M_copy_100 2 rfl ?_
      refine wp_gr cl_M fl_M_33 (by decide) d_M_copy_101 hp (fun a26 hp => ?_) (fun hp => (dr_p0 hp).elim)
      refine wp_iload d_M_copy_104 1 rfl ?_
      refine wp_zaload d_M_copy_106 hp (fun x27 hp => ?_)
      refine wp_zastore d_M_copy_107 hp (fun h28 hp => ?_)
      refine wp_aload_n d_M_copy_108 2 rfl ?_
      refine wp_gr cl_M fl_M_36 (by decide) d_M_copy_109 hp (fun a29 hp => ?_) (fun hp => (dr_p0 hp).elim)
      refine wp_iload d_M_copy_112 0 rfl ?_
      refine wp_aload_n d_M_copy_114 2 rfl ?_
      refine wp_gr cl_M fl_M_36 (by decide) d_M_copy_115 hp (fun a30 hp => ?_) (fun hp => (dr_p0 hp).elim)
      refine wp_iload d_M_copy_118 1 rfl ?_
      refine wp_iaload d_M_copy_120 hp (fun x31 hp => ?_)
      refine wp_iastore d_M_copy_121 hp (fun h32 hp => ?_)
      refine wp_iinc (v := (x4 + 1)) (l' := [(3, .int (x4 + 1)), (5, .int ((x3 * 41) + x4)), (4, .int ((x2 * 41) + x4)), (0, .ref a1), (1, .int x2), (2, .int x3)]) d_M_copy_122 5 rfl rfl (by decide) rfl ?_
      refine wp_goto (tgt := 2) d_M_copy_125 (by decide) ?_
      exact wp_sub [3, 4, 5, 0] rfl (ih _ _ _ _ _ hp)
set_option maxRecDepth 100000 in
set_option maxHeartbeats 400000 in
theorem t_M_copy {Q : dr_RS → dr_AH → Prop} : ∀ (a1 : Nat) (x2 : Int32) (x3 : Int32) (h : dr_AH), dr_p (f_M_copy a1 x2 x3 h) Q → dr_W mi_M_copy 0 0 0 [(0, .ref a1), (1, .int x2), (2, .int x3)] [] h Q := by
  intro a1 x2 x3 h hp
  unfold f_M_copy at hp
  refine wp_iconst (v := 0) (by decide) d_M_copy_0 ?_
  refine wp_istore_n (l' := [(3, .int 0), (0, .ref a1), (1, .int x2), (2, .int x3)]) d_M_copy_1 (by decide) rfl ?_
  exact wp_sub [1, 2, 3, 0] rfl (t_M_copy_2 dr_fu _ _ _ _ _ hp)
def f_M_size_4 : Nat → Nat → Int32 → Int32 → Int32 → dr_AH → Option (dr_RS × dr_AH)
  | 0, _, _, _, _, _ => none
  | n + 1, a1, x2, x3, x4, h => if 41 ≤ x4 then some (.inl (some (.int x3)), h) else (dr_gr' h 4 a1 7 fun a5 => (dr_az h a5 ((x2 * 41) + x4) fun x6 => if x6 = 0 then f_M_size_4 n a1 x2 x3 (x4 + 1) h else f_M_size_4 n a1 x2 (x3 + 1) (x4 + 1) h))
def f_M_size (a1 : Nat) (x2 : Int32) (h : dr_AH) : Option (dr_RS × dr_AH) :=
  f_M_size_4 dr_fu a1 x2 0 1 h
set_option maxRecDepth 100000 in
set_option maxHeartbeats 400000 in
theorem t_M_size_4 {Q : dr_RS → dr_AH → Prop} : ∀ (n : Nat) (a1 : Nat) (x2 : Int32) (x3 : Int32) (x4 : Int32) (h : dr_AH), dr_p (f_M_size_4 n a1 x2 x3 x4 h) Q → dr_W mi_M_size 0 0 4 [(0, .ref a1), (1, .int x2), (2, .int x3), (3, .int x4)] [] h Q := by
  intro n
  induction n with
  | zero => intro a1 x2 x3 x4 h hp; exact (dr_p0 hp).elim
  | succ n ih =>
    intro a1 x2 x3 x4 h hp
    unfold f_M_size_4 at hp
    refine wp_iload_n d_M_size_4 3 rfl ?_
    refine wp_bipush (v := 41) (by decide) d_M_size_5 ?_
    refine wp_icmp_ge (tgt := 33) d_M_size_7 (by decide) hp (fun _ hp => ?_) (fun _ hp => ?_)
    · refine wp_iload_n d_M_size_33 2 rfl ?_
      exact wp_ireturn rfl rfl d_M_size_34 hp
    · refine wp_aload_n d_M_size_10 0 rfl ?_
      refine wp_gr cl_M fl_M_17 (by decide) d_M_size_11 hp (fun a5 hp => ?_) (fun hp => (dr_p0 hp).elim)
      refine wp_iload_n d_M_size_14 1 rfl ?_
      refine wp_bipush (v := 41) (by decide) d_M_size_15 ?_
      refine wp_imul d_M_size_17 ?_
      refine wp_iload_n d_M_size_18 3 rfl ?_
      refine wp_iadd d_M_size_19 ?_
      refine wp_zaload d_M_size_20 hp (fun x6 hp => ?_)
      refine wp_if_eq (tgt := 27) d_M_size_21 (by decide) hp (fun _ hp => ?_) (fun _ hp => ?_)
      · refine wp_iinc (v := (x4 + 1)) (l' := [(3, .int (x4 + 1)), (0, .ref a1), (1, .int x2), (2, .int x3)]) d_M_size_27 3 rfl rfl (by decide) rfl ?_
        refine wp_goto (tgt := 4) d_M_size_30 (by decide) ?_
        exact wp_sub [1, 2, 3, 0] rfl (ih _ _ _ _ _ hp)
      · refine wp_iinc (v := (x3 + 1)) (l' := [(2, .int (x3 + 1)), (0, .ref a1), (1, .int x2), (3, .int x4)]) d_M_size_24 2 rfl rfl (by decide) rfl ?_
        refine wp_iinc (v := (x4 + 1)) (l' := [(3, .int (x4 + 1)), (2, .int (x3 + 1)), (0, .ref a1), (1, .int x2)]) d_M_size_27 3 rfl rfl (by decide) rfl ?_
        refine wp_goto (tgt := 4) d_M_size_30 (by decide) ?_
        exact wp_sub [2, 3, 1, 0] rfl (ih _ _ _ _ _ hp)
set_option maxRecDepth 100000 in
set_option maxHeartbeats 400000 in
theorem t_M_size {Q : dr_RS → dr_AH → Prop} : ∀ (a1 : Nat) (x2 : Int32) (h : dr_AH), dr_p (f_M_size a1 x2 h) Q → dr_W mi_M_size 0 0 0 [(0, .ref a1), (1, .int x2)] [] h Q := by
  intro a1 x2 h hp
  unfold f_M_size at hp
  refine wp_iconst (v := 0) (by decide) d_M_size_0 ?_
  refine wp_istore_n (l' := [(2, .int 0), (0, .ref a1), (1, .int x2)]) d_M_size_1 (by decide) rfl ?_
  refine wp_iconst (v := 1) (by decide) d_M_size_2 ?_
  refine wp_istore_n (l' := [(3, .int 1), (2, .int 0), (0, .ref a1), (1, .int x2)]) d_M_size_3 (by decide) rfl ?_
  exact wp_sub [2, 3, 1, 0] rfl (t_M_size_4 dr_fu _ _ _ _ _ hp)
def f_M_read_143 (a1 : Nat) (x2 : Int32) (a3 : Nat) (h : dr_AH) : Option (dr_RS × dr_AH) :=
  (dr_k h a3 4 (dr_ci' (f_M_goes a3 x2 1 1 h) fun x5 h4 => if x5 = 0 then some (.inl (some (.int 0)), h4) else (dr_k h4 a1 4 (dr_cv' (f_M_copy a1 9 8 h4) fun h6 => (dr_k h6 a1 4 (dr_ci' (f_M_size a1 8 h6) fun x8 h7 => some (.inl (some (.int x8)), h7)))))))
def f_M_read_117 (a1 : Nat) (h : dr_AH) : Option (dr_RS × dr_AH) :=
  (dr_pf h 4 a1 2 (.int 0) fun h2 => (dr_gi h2 4 a1 6 fun x3 => (dr_pf h2 4 a1 4 (.int x3) fun h4 => (dr_gi h4 4 a1 6 fun x5 => if 0 ≤ x5 then f_M_read_143 a1 0 a1 h4 else f_M_read_143 a1 1 a1 h4))))
def f_M_read_60 : Nat → Nat → dr_AH → Option (dr_RS × dr_AH)
  | 0, _, _ => none
  | n + 1, a1, h => (dr_gi h 4 a1 6 fun x2 => if 0 ≤ x2 then f_M_read_117 a1 h else (dr_k h a1 4 (dr_ci' (f_M_see a1 h) fun x4 h3 => if x4 < 0 then f_M_read_117 a1 h3 else (dr_k h3 a1 4 (dr_ci' (f_M_takes a1 101 h3) fun x6 h5 => if x6 = 0 then (dr_k h5 a1 4 (dr_ci' (f_M_takes a1 97 h5) fun x8 h7 => if x8 = 0 then (dr_gi h7 4 a1 5 fun x9 => (dr_k h7 a1 4 (dr_cv' (f_M_fail a1 x9 h7) fun h10 => f_M_read_60 n a1 h10))) else (dr_k h7 a1 4 (dr_cv' (f_M_aimRow a1 h7) fun h11 => f_M_read_60 n a1 h11)))) else (dr_k h5 a1 4 (dr_cv' (f_M_eventRow a1 h5) fun h12 => f_M_read_60 n a1 h12)))))))
def f_M_read_27 : Nat → Nat → Int32 → dr_AH → Option (dr_RS × dr_AH)
  | 0, _, _, _ => none
  | n + 1, a1, x2, h => if 21 ≤ x2 then (dr_pf h 4 a1 5 (.int 0) fun h3 => (dr_pf h3 4 a1 6 (.int (-1)) fun h4 => f_M_read_60 dr_fu a1 h4)) else (dr_gr' h 4 a1 14 fun a5 => (dr_sz h a5 (189 + x2) 0 fun h6 => f_M_read_27 n a1 (x2 + 1) h6))
def f_M_read_2 : Nat → Nat → Int32 → dr_AH → Option (dr_RS × dr_AH)
  | 0, _, _, _ => none
  | n + 1, a1, x2, h => if 41 ≤ x2 then f_M_read_27 dr_fu a1 0 h else (dr_gr' h 4 a1 7 fun a3 => (dr_sz h a3 (369 + x2) 0 fun h4 => f_M_read_2 n a1 (x2 + 1) h4))
def f_M_read (a1 : Nat) (h : dr_AH) : Option (dr_RS × dr_AH) :=
  f_M_read_2 dr_fu a1 0 h
set_option maxRecDepth 100000 in
set_option maxHeartbeats 400000 in
theorem t_M_read_143 {Q : dr_RS → dr_AH → Prop} : ∀ (a1 : Nat) (x2 : Int32) (a3 : Nat) (h : dr_AH), dr_p (f_M_read_143 a1 x2 a3 h) Q → dr_W mi_M_read 4 58 143 [(0, .ref a1)] [.int x2, .ref a3] h Q := by
  intro a1 x2 a3 h hp
  unfold f_M_read_143 at hp
  refine wp_iconst (v := 1) (by decide) d_M_read_143 ?_
  refine wp_iconst (v := 1) (by decide) d_M_read_144 ?_
  refine wp_k hp (fun hk hp => ?_)
  refine wp_ci (M' := mi_M_goes) (As := [.ref a3, .int x2, .int 1, .int 1]) (st := []) (fr' := 0) (wo' := 0) (dr_sV (A := [.int x2, .int 1, .int 1]) cl_M hk tw_737 tw_739 tp_16 co_M_goes ⟨by decide, by decide⟩ (by rfl) d_M_read_145 rfl) co_M_goes (by decide +kernel) (by decide) (Nat.le_of_ble_eq_true rfl) (Nat.le_of_ble_eq_true rfl) (fun Q' hq => t_M_goes _ _ _ _ _ hq) hp (fun x5 h4 hp => ?_) (fun E q h3 hp => wx_out (by decide) hp)
  refine wp_if_ne (tgt := 153) d_M_read_148 (by decide) hp (fun _ hp => ?_) (fun _ hp => ?_)
  · refine wp_aload_n d_M_read_153 0 rfl ?_
    refine wp_bipush (v := 9) (by decide) d_M_read_154 ?_
    refine wp_bipush (v := 8) (by decide) d_M_read_156 ?_
    refine wp_k hp (fun hk hp => ?_)
    refine wp_cv (M' := mi_M_copy) (As := [.ref a1, .int 9, .int 8]) (st := []) (fr' := 0) (wo' := 0) (dr_sV (A := [.int 9, .int 8]) cl_M hk tw_781 tw_783 tp_26 co_M_copy ⟨by decide, by decide⟩ (by rfl) d_M_read_158 rfl) co_M_copy (by decide +kernel) (by decide) (Nat.le_of_ble_eq_true rfl) (Nat.le_of_ble_eq_true rfl) (fun Q' hq => t_M_copy _ _ _ _ hq) hp (fun h6 hp => ?_) (fun E q h3 hp => wx_out (by decide) hp)
    refine wp_aload_n d_M_read_161 0 rfl ?_
    refine wp_bipush (v := 8) (by decide) d_M_read_162 ?_
    refine wp_k hp (fun hk hp => ?_)
    refine wp_ci (M' := mi_M_size) (As := [.ref a1, .int 8]) (st := []) (fr' := 0) (wo' := 0) (dr_sV (A := [.int 8]) cl_M hk tw_785 tw_787 tp_27 co_M_size ⟨by decide, by decide⟩ (by rfl) d_M_read_164 rfl) co_M_size (by decide +kernel) (by decide) (Nat.le_of_ble_eq_true rfl) (Nat.le_of_ble_eq_true rfl) (fun Q' hq => t_M_size _ _ _ hq) hp (fun x8 h7 hp => ?_) (fun E q h3 hp => wx_out (by decide) hp)
    exact wp_ireturn rfl rfl d_M_read_167 hp
  · refine wp_iconst (v := 0) (by decide) d_M_read_151 ?_
    exact wp_ireturn rfl rfl d_M_read_152 hp
set_option maxRecDepth 100000 in
set_option maxHeartbeats 400000 in
theorem t_M_read_117 {Q : dr_RS → dr_AH → Prop} : ∀ (a1 : Nat) (h : dr_AH), dr_p (f_M_read_117 a1 h) Q → dr_W mi_M_read 4 58 117 [(0, .ref a1)] [] h Q := by
  intro a1 h hp
  unfold f_M_read_117 at hp
  refine wp_aload_n d_M_read_117 0 rfl ?_
  refine wp_iconst (v := 0) (by decide) d_M_read_118 ?_
  refine wp_put cl_M fl_M_94 (by decide) (Or.inl (by rfl)) (by rfl) (by rfl) d_M_read_119 hp (fun h2 hp => ?_)
  refine wp_aload_n d_M_read_122 0 rfl ?_
  refine wp_aload_n d_M_read_123 0 rfl ?_
  refine wp_gi cl_M fl_M_108 (by decide) d_M_read_124 hp (fun x3 hp => ?_)
  refine wp_put cl_M fl_M_13 (by decide) (Or.inl (by rfl)) (by rfl) (by rfl) d_M_read_127 hp (fun h4 hp => ?_)
  refine wp_aload_n d_M_read_130 0 rfl ?_
  refine wp_aload_n d_M_read_131 0 rfl ?_
  refine wp_gi cl_M fl_M_108 (by decide) d_M_read_132 hp (fun x5 hp => ?_)
  refine wp_if_ge (tgt := 142) d_M_read_135 (by decide) hp (fun _ hp => ?_) (fun _ hp => ?_)
  · refine wp_iconst (v := 0) (by decide) d_M_read_142 ?_
    exact wp_sub [0] rfl (t_M_read_143 _ _ _ _ hp)
  · refine wp_iconst (v := 1) (by decide) d_M_read_138 ?_
    refine wp_goto (tgt := 143) d_M_read_139 (by decide) ?_
    exact wp_sub [0] rfl (t_M_read_143 _ _ _ _ hp)
set_option maxRecDepth 100000 in
set_option maxHeartbeats 400000 in
theorem t_M_read_60 {Q : dr_RS → dr_AH → Prop} : ∀ (n : Nat) (a1 : Nat) (h : dr_AH), dr_p (f_M_read_60 n a1 h) Q → dr_W mi_M_read 4 58 60 [(0, .ref a1)] [] h Q := by
  intro n
  induction n with
  | zero => intro a1 h hp; exact (dr_p0 hp).elim
  | succ n ih =>
    intro a1 h hp
    unfold f_M_read_60 at hp
    refine wp_aload_n d_M_read_60 0 rfl ?_
    refine wp_gi cl_M fl_M_108 (by decide) d_M_read_61 hp (fun x2 hp => ?_)
    refine wp_if_ge (tgt := 117) d_M_read_64 (by decide) hp (fun _ hp => ?_) (fun _ hp => ?_)
    · exact wp_sub [0] rfl (t_M_read_117 _ _ hp)
    · refine wp_aload_n d_M_read_67 0 rfl ?_
      refine wp_k hp (fun hk hp => ?_)
      refine wp_ci (M' := mi_M_see) (As := [.ref a1]) (st := []) (fr' := 1) (wo' := 12) (dr_sV (A := []) cl_M hk tw_745 tw_747 tp_17 co_M_see ⟨by decide, by decide⟩ (by rfl) d_M_read_68 rfl) co_M_see (by decide +kernel) (by decide) (Nat.le_of_ble_eq_true rfl) (Nat.le_of_ble_eq_true rfl) (fun Q' hq => t_M_see _ _ hq) hp (fun x4 h3 hp => ?_) (fun E q h3 hp => wx_out (by decide) hp)
      refine wp_if_lt (tgt := 117) d_M_read_71 (by decide) hp (fun _ hp => ?_) (fun _ hp => ?_)
      · exact wp_sub [0] rfl (t_M_read_117 _ _ hp)
      · refine wp_aload_n d_M_read_74 0 rfl ?_
        refine wp_bipush (v := 101) (by decide) d_M_read_75 ?_
        refine wp_k hp (fun hk hp => ?_)
        refine wp_ci (M' := mi_M_takes) (As := [.ref a1, .int 101]) (st := []) (fr' := 2) (wo' := 24) (dr_sV (A := [.int 101]) cl_M hk tw_753 tw_755 tp_19 co_M_takes ⟨by decide, by decide⟩ (by rfl) d_M_read_77 rfl) co_M_takes (by decide +kernel) (by decide) (Nat.le_of_ble_eq_true rfl) (Nat.le_of_ble_eq_true rfl) (fun Q' hq => t_M_takes _ _ _ hq) hp (fun x6 h5 hp => ?_) (fun E q h3 hp => wx_out (by decide) hp)
        refine wp_if_eq (tgt := 90) d_M_read_80 (by decide) hp (fun _ hp => ?_) (fun _ hp => ?_)
        · refine wp_aload_n d_M_read_90 0 rfl ?_
          refine wp_bipush (v := 97) (by decide) d_M_read_91 ?_
          refine wp_k hp (fun hk hp => ?_)
          refine wp_ci (M' := mi_M_takes) (As := [.ref a1, .int 97]) (st := []) (fr' := 2) (wo' := 24) (dr_sV (A := [.int 97]) cl_M hk tw_753 tw_755 tp_19 co_M_takes ⟨by decide, by decide⟩ (by rfl) d_M_read_93 rfl) co_M_takes (by decide +kernel) (by decide) (Nat.le_of_ble_eq_true rfl) (Nat.le_of_ble_eq_true rfl) (fun Q' hq => t_M_takes _ _ _ hq) hp (fun x8 h7 hp => ?_) (fun E q h3 hp => wx_out (by decide) hp)
          refine wp_if_eq (tgt := 106) d_M_read_96 (by decide) hp (fun _ hp => ?_) (fun _ hp => ?_)
          · refine wp_aload_n d_M_read_106 0 rfl ?_
            refine wp_aload_n d_M_read_107 0 rfl ?_
            refine wp_gi cl_M fl_M_101 (by decide) d_M_read_108 hp (fun x9 hp => ?_)
            refine wp_k hp (fun hk hp => ?_)
            refine wp_cv (M' := mi_M_fail) (As := [.ref a1, .int x9]) (st := []) (fr' := 0) (wo' := 0) (dr_sV (A := [.int x9]) cl_M hk tw_769 tw_771 tp_23 co_M_fail ⟨by decide, by decide⟩ (by rfl) d_M_read_111 rfl) co_M_fail (by decide +kernel) (by decide) (Nat.le_of_ble_eq_true rfl) (Nat.le_of_ble_eq_true rfl) (fun Q' hq => t_M_fail _ _ _ hq) hp (fun h10 hp => ?_) (fun E q h3 hp => wx_out (by decide) hp)
            refine wp_goto (tgt := 60) d_M_read_114 (by decide) ?_
            exact wp_sub [0] rfl (ih _ _ hp)
          · refine wp_aload_n d_M_read_99 0 rfl ?_
            refine wp_k hp (fun hk hp => ?_)
            refine wp_cv (M' := mi_M_aimRow) (As := [.ref a1]) (st := []) (fr' := 3) (wo' := 44) (dr_sV (A := []) cl_M hk tw_777 tw_779 tp_25 co_M_aimRow ⟨by decide, by decide⟩ (by rfl) d_M_read_100 rfl) co_M_aimRow (by decide +kernel) (by decide) (Nat.le_of_ble_eq_true rfl) (Nat.le_of_ble_eq_true rfl) (fun Q' hq => t_M_aimRow _ _ hq) hp (fun h11 hp => ?_) (fun E q h3 hp => wx_out (by decide) hp)
            refine wp_goto (tgt := 60) d_M_read_103 (by decide) ?_
            exact wp_sub [0] rfl (ih _ _ hp)
        · refine wp_aload_n d_M_read_83 0 rfl ?_
          refine wp_k hp (fun hk hp => ?_)
          refine wp_cv (M' := mi_M_eventRow) (As := [.ref a1]) (st := []) (fr' := 3) (wo' := 44) (dr_sV (A := []) cl_M hk tw_757 tw_759 tp_20 co_M_eventRow ⟨by decide, by decide⟩ (by rfl) d_M_read_84 rfl) co_M_eventRow (by decide +kernel) (by decide) (Nat.le_of_ble_eq_true rfl) (Nat.le_of_ble_eq_true rfl) (fun Q' hq => t_M_eventRow _ _ hq) hp (fun h12 hp => ?_) (fun E q h3 hp => wx_out (by decide) hp)
          refine wp_goto (tgt := 60) d_M_read_87 (by decide) ?_
          exact wp_sub [0] rfl (ih _ _ hp)
set_option maxRecDepth 100000 in
set_option maxHeartbeats 400000 in
theorem t_M_read_27 {Q : dr_RS → dr_AH → Prop} : ∀ (n : Nat) (a1 : Nat) (x2 : Int32) (h : dr_AH), dr_p (f_M_read_27 n a1 x2 h) Q → dr_W mi_M_read 4 58 27 [(0, .ref a1), (1, .int x2)] [] h Q := by
  intro n
  induction n with
  | zero => intro a1 x2 h hp; exact (dr_p0 hp).elim
  | succ n ih =>
    intro a1 x2 h hp
    unfold f_M_read_27 at hp
    refine wp_iload_n d_M_read_27 1 rfl ?_
    refine wp_bipush (v := 21) (by decide) d_M_read_28 ?_
    refine wp_icmp_ge (tgt := 50) d_M_read_30 (by decide) hp (fun _ hp => ?_) (fun _ hp => ?_)
    · refine wp_aload_n d_M_read_50 0 rfl ?_
      refine wp_iconst (v := 0) (by decide) d_M_read_51 ?_
      refine wp_put cl_M fl_M_101 (by decide) (Or.inl (by rfl)) (by rfl) (by rfl) d_M_read_52 hp (fun h3 hp => ?_)
      refine wp_aload_n d_M_read_55 0 rfl ?_
      refine wp_iconst (v := (-1)) (by decide) d_M_read_56 ?_
      refine wp_put cl_M fl_M_108 (by decide) (Or.inl (by rfl)) (by rfl) (by rfl) d_M_read_57 hp (fun h4 hp => ?_)
      exact wp_sub [0] rfl (t_M_read_60 dr_fu _ _ hp)
    · refine wp_aload_n d_M_read_33 0 rfl ?_
      refine wp_gr cl_M fl_M_39 (by decide) d_M_read_34 hp (fun a5 hp => ?_) (fun hp => (dr_p0 hp).elim)
      refine wp_sipush (v := 189) (by decide) d_M_read_37 ?_
      refine wp_iload_n d_M_read_40 1 rfl ?_
      refine wp_iadd d_M_read_41 ?_
      refine wp_iconst (v := 0) (by decide) d_M_read_42 ?_
      refine wp_zastore d_M_read_43 hp (fun h6 hp => ?_)
      refine wp_iinc (v := (x2 + 1)) (l' := [(1, .int (x2 + 1)), (0, .ref a1)]) d_M_read_44 1 rfl rfl (by decide) rfl ?_
      refine wp_goto (tgt := 27) d_M_read_47 (by decide) ?_
      exact wp_sub [1, 0] rfl (ih _ _ _ hp)
set_option maxRecDepth 100000 in
set_option maxHeartbeats 400000 in
theorem t_M_read_2 {Q : dr_RS → dr_AH → Prop} : ∀ (n : Nat) (a1 : Nat) (x2 : Int32) (h : dr_AH), dr_p (f_M_read_2 n a1 x2 h) Q → dr_W mi_M_read 4 58 2 [(0, .ref a1), (1, .int x2)] [] h Q := by
  intro n
  induction n with
  | zero => intro a1 x2 h hp; exact (dr_p0 hp).elim
  | succ n ih =>
    intro a1 x2 h hp
    unfold f_M_read_2 at hp
    refine wp_iload_n d_M_read_2 1 rfl ?_
    refine wp_bipush (v := 41) (by decide) d_M_read_3 ?_
    refine wp_icmp_ge (tgt := 25) d_M_read_5 (by decide) hp (fun _ hp => ?_) (fun _ hp => ?_)
    · refine wp_iconst (v := 0) (by decide) d_M_read_25 ?_
      refine wp_istore_n (l' := [(1, .int 0), (0, .ref a1)]) d_M_read_26 (by decide) rfl ?_
      exact wp_sub [1, 0] rfl (t_M_read_27 dr_fu _ _ _ hp)
    · refine wp_aload_n d_M_read_8 0 rfl ?_
      refine wp_gr cl_M fl_M_17 (by decide) d_M_read_9 hp (fun a3 hp => ?_) (fun hp => (dr_p0 hp).elim)
      refine wp_sipush (v := 369) (by decide) d_M_read_12 ?_
      refine wp_iload_n d_M_read_15 1 rfl ?_
      refine wp_iadd d_M_read_16 ?_
      refine wp_iconst (v := 0) (by decide) d_M_read_17 ?_
      refine wp_zastore d_M_read_18 hp (fun h4 hp => ?_)
      refine wp_iinc (v := (x2 + 1)) (l' := [(1, .int (x2 + 1)), (0, .ref a1)]) d_M_read_19 1 rfl rfl (by decide) rfl ?_
      refine wp_goto (tgt := 2) d_M_read_22 (by decide) ?_
      exact wp_sub [1, 0] rfl (ih _ _ _ hp)
set_option maxRecDepth 100000 in
set_option maxHeartbeats 400000 in
theorem t_M_read {Q : dr_RS → dr_AH → Prop} : ∀ (a1 : Nat) (h : dr_AH), dr_p (f_M_read a1 h) Q → dr_W mi_M_read 4 58 0 [(0, .ref a1)] [] h Q := by
  intro a1 h hp
  unfold f_M_read at hp
  refine wp_iconst (v := 0) (by decide) d_M_read_0 ?_
  refine wp_istore_n (l' := [(1, .int 0), (0, .ref a1)]) d_M_read_1 (by decide) rfl ?_
  exact wp_sub [1, 0] rfl (t_M_read_2 dr_fu _ _ _ hp)
def f_M_place (a1 : Nat) (h : dr_AH) : Option (dr_RS × dr_AH) :=
  (dr_pf h 4 a1 0 (.int 0) fun h2 => (dr_gi h2 4 a1 4 fun x3 => some (.inl (some (.int x3)), h2)))
set_option maxRecDepth 100000 in
set_option maxHeartbeats 400000 in
theorem t_M_place {Q : dr_RS → dr_AH → Prop} : ∀ (a1 : Nat) (h : dr_AH), dr_p (f_M_place a1 h) Q → dr_W mi_M_place 0 0 0 [(0, .ref a1)] [] h Q := by
  intro a1 h hp
  unfold f_M_place at hp
  refine wp_aload_n d_M_place_0 0 rfl ?_
  refine wp_iconst (v := 0) (by decide) d_M_place_1 ?_
  refine wp_put cl_M fl_M_87 (by decide) (Or.inl (by rfl)) (by rfl) (by rfl) d_M_place_2 hp (fun h2 hp => ?_)
  refine wp_aload_n d_M_place_5 0 rfl ?_
  refine wp_gi cl_M fl_M_13 (by decide) d_M_place_6 hp (fun x3 hp => ?_)
  exact wp_ireturn rfl rfl d_M_place_9 hp
def f_M_relative (a1 : Nat) (x2 : Int32) (h : dr_AH) : Option (dr_RS × dr_AH) :=
  (dr_gi h 4 a1 1 fun x3 => (dr_gr' h 4 a1 20 fun a4 => (dr_ai h a4 x2 fun x5 => some (.inl (some (.int (x3 - x5))), h))))
set_option maxRecDepth 100000 in
set_option maxHeartbeats 400000 in
theorem t_M_relative {Q : dr_RS → dr_AH → Prop} : ∀ (a1 : Nat) (x2 : Int32) (h : dr_AH), dr_p (f_M_relative a1 x2 h) Q → dr_W mi_M_relative 0 0 0 [(0, .ref a1), (1, .int x2)] [] h Q := by
  intro a1 x2 h hp
  unfold f_M_relative at hp
  refine wp_aload_n d_M_relative_0 0 rfl ?_
  refine wp_gi cl_M fl_M_147 (by decide) d_M_relative_1 hp (fun x3 hp => ?_)
  refine wp_aload_n d_M_relative_4 0 rfl ?_
  refine wp_gr cl_M fl_M_54 (by decide) d_M_relative_5 hp (fun a4 hp => ?_) (fun hp => (dr_p0 hp).elim)
  refine wp_iload_n d_M_relative_8 1 rfl ?_
  refine wp_iaload d_M_relative_9 hp (fun x5 hp => ?_)
  refine wp_isub d_M_relative_10 ?_
  exact wp_ireturn rfl rfl d_M_relative_11 hp
def f_M_first_3 : Nat → Nat → Int32 → Int32 → Int32 → Int32 → dr_AH → Option (dr_RS × dr_AH)
  | 0, _, _, _, _, _, _ => none
  | n + 1, a1, x2, x3, x4, x5, h => (dr_gr' h 4 a1 23 fun a6 => (dr_ai h a6 x2 fun x7 => if x7 ≤ x5 then some (.inl (some (.int (-1))), h) else (dr_gr' h 4 a1 24 fun a8 => (dr_ai h a8 ((x2 * 60) + x5) fun x9 => if x9 = x3 then (dr_gr' h 4 a1 25 fun a10 => (dr_ai h a10 ((x2 * 60) + x5) fun x11 => if x11 < x4 then f_M_first_3 n a1 x2 x3 x4 (x5 + 1) h else (dr_gr' h 4 a1 25 fun a12 => (dr_ai h a12 ((x2 * 60) + x5) fun x13 => some (.inl (some (.int x13)), h))))) else f_M_first_3 n a1 x2 x3 x4 (x5 + 1) h))))
def f_M_first (a1 : Nat) (x2 : Int32) (x3 : Int32) (x4 : Int32) (h : dr_AH) : Option (dr_RS × dr_AH) :=
  f_M_first_3 dr_fu a1 x2 x3 x4 0 h
set_option maxRecDepth 100000 in
set_option maxHeartbeats 400000 in
theorem t_M_first_3 {Q : dr_RS → dr_AH → Prop} : ∀ (n : Nat) (a1 : Nat) (x2 : Int32) (x3 : Int32) (x4 : Int32) (x5 : Int32) (h : dr_AH), dr_p (f_M_first_3 n a1 x2 x3 x4 x5 h) Q → dr_W mi_M_first 0 0 3 [(0, .ref a1), (1, .int x2), (2, .int x3), (3, .int x4), (4, .int x5)] [] h Q := by
  intro n
  induction n with
  | zero => intro a1 x2 x3 x4 x5 h hp; exact (dr_p0 hp).elim
  | succ n ih =>
    intro a1 x2 x3 x4 x5 h hp
    unfold f_M_first_3 at hp
    refine wp_iload d_M_first_3 4 rfl ?_
    refine wp_aload_n d_M_first_5 0 rfl ?_
    refine wp_gr cl_M fl_M_63 (by decide) d_M_first_6 hp (fun a6 hp => ?_) (fun hp => (dr_p0 hp).elim)
    refine wp_iload_n d_M_first_9 1 rfl ?_
    refine wp_iaload d_M_first_10 hp (fun x7 hp => ?_)
    refine wp_icmp_ge (tgt := 65) d_M_first_11 (by decide) hp (fun _ hp => ?_) (fun _ hp => ?_)
    · refine wp_iconst (v := (-1)) (by decide) d_M_first_65 ?_
      exact wp_ireturn rfl rfl d_M_first_66 hp
    · refine wp_aload_n d_M_first_14 0 rfl ?_
      refine wp_gr cl_M fl_M_66 (by decide) d_M_first_15 hp (fun a8 hp => ?_) (fun hp => (dr_p0 hp).elim)
      refine wp_iload_n d_M_first_18 1 rfl ?_
      refine wp_bipush (v := 60) (by decide) d_M_first_19 ?_
      refine wp_imul d_M_first_21 ?_
      refine wp_iload d_M_first_22 4 rfl ?_
      refine wp_iadd d_M_first_24 ?_
      refine wp_iaload d_M_first_25 hp (fun x9 hp => ?_)
      refine wp_iload_n d_M_first_26 2 rfl ?_
      refine wp_icmp_ne (tgt := 59) d_M_first_27 (by decide) hp (fun _ hp => ?_) (fun _ hp => ?_)
      · refine wp_iinc (v := (x5 + 1)) (l' := [(4, .int (x5 + 1)), (0, .ref a1), (1, .int x2), (2, .int x3), (3, .int x4)]) d_M_first_59 4 rfl rfl (by decide) rfl ?_
        refine wp_goto (tgt := 3) d_M_first_62 (by decide) ?_
        exact wp_sub [1, 2, 3, 4, 0] rfl (ih _ _ _ _ _ _ hp)
      · refine wp_aload_n d_M_first_30 0 rfl ?_
        refine wp_gr cl_M fl_M_69 (by decide) d_M_first_31 hp (fun a10 hp => ?_) (fun hp => (dr_p0 hp).elim)
        refine wp_iload_n d_M_first_34 1 rfl ?_
        refine wp_bipush (v := 60) (by decide) d_M_first_35 ?_
        refine wp_imul d_M_first_37 ?_
        refine wp_iload d_M_first_38 4 rfl ?_
        refine wp_iadd d_M_first_40 ?_
        refine wp_iaload d_M_first_41 hp (fun x11 hp => ?_)
        refine wp_iload_n d_M_first_42 3 rfl ?_
        refine wp_icmp_lt (tgt := 59) d_M_first_43 (by decide) hp (fun _ hp => ?_) (fun _ hp => ?_)
        · refine wp_iinc (v := (x5 + 1)) (l' := [(4, .int (x5 + 1)), (0, .ref a1), (1, .int x2), (2, .int x3), (3, .int x4)]) d_M_first_59 4 rfl rfl (by decide) rfl ?_
          refine wp_goto (tgt := 3) d_M_first_62 (by decide) ?_
          exact wp_sub [1, 2, 3, 4, 0] rfl (ih _ _ _ _ _ _ hp)
        · refine wp_aload_n d_M_first_46 0 rfl ?_
          refine wp_gr cl_M fl_M_69 (by decide) d_M_first_47 hp (fun a12 hp => ?_) (fun hp => (dr_p0 hp).elim)
          refine wp_iload_n d_M_first_50 1 rfl ?_
          refine wp_bipush (v := 60) (by decide) d_M_first_51 ?_
          refine wp_imul d_M_first_53 ?_
          refine wp_iload d_M_first_54 4 rfl ?_
          refine wp_iadd d_M_first_56 ?_
          refine wp_iaload d_M_first_57 hp (fun x13 hp => ?_)
          exact wp_ireturn rfl rfl d_M_first_58 hp
set_option maxRecDepth 100000 in
set_option maxHeartbeats 400000 in
theorem t_M_first {Q : dr_RS → dr_AH → Prop} : ∀ (a1 : Nat) (x2 : Int32) (x3 : Int32) (x4 : Int32) (h : dr_AH), dr_p (f_M_first a1 x2 x3 x4 h) Q → dr_W mi_M_first 0 0 0 [(0, .ref a1), (1, .int x2), (2, .int x3), (3, .int x4)] [] h Q := by
  intro a1 x2 x3 x4 h hp
  unfold f_M_first at hp
  refine wp_iconst (v := 0) (by decide) d_M_first_0 ?_
  refine wp_istore (l' := [(4, .int 0), (0, .ref a1), (1, .int x2), (2, .int x3), (3, .int x4)]) d_M_first_1 (by decide) rfl ?_
  exact wp_sub [1, 2, 3, 4, 0] rfl (t_M_first_3 dr_fu _ _ _ _ _ _ hp)
def f_M_isDue (a1 : Nat) (x2 : Int32) (x3 : Int32) (h : dr_AH) : Option (dr_RS × dr_AH) :=
  (dr_k h a1 4 (dr_ci' (f_M_relative a1 x2 h) fun x5 h4 => (dr_gr' h4 4 a1 8 fun a6 => (dr_ai h4 a6 ((x2 * 41) + x3) fun x7 => if x5 < x7 then (dr_gr' h4 4 a1 9 fun a8 => (dr_ai h4 a8 ((x2 * 41) + x3) fun x9 => if 0 ≤ x9 then (dr_gr' h4 4 a1 9 fun a10 => (dr_ai h4 a10 ((x2 * 41) + x3) fun x11 => (dr_k h4 a1 4 (dr_ci' (f_M_first a1 x2 x11 0 h4) fun x13 h12 => if x13 < 0 then dr_rz 0 h12 else (dr_k h12 a1 4 (dr_ci' (f_M_relative a1 x2 h12) fun x15 h14 => (dr_gr' h14 4 a1 10 fun a16 => (dr_ai h14 a16 ((x2 * 41) + x3) fun x17 => if x15 < (x13 + x17) then dr_rz 0 h14 else dr_rz 1 h14)))))))) else dr_rz 0 h4)) else dr_rz 1 h4))))
set_option maxRecDepth 100000 in
set_option maxHeartbeats 400000 in
theorem t_M_isDue {Q : dr_RS → dr_AH → Prop} : ∀ (a1 : Nat) (x2 : Int32) (x3 : Int32) (h : dr_AH), dr_p (f_M_isDue a1 x2 x3 h) Q → dr_W mi_M_isDue 1 16 0 [(0, .ref a1), (1, .int x2), (2, .int x3)] [] h Q := by
  intro a1 x2 x3 h hp
  unfold f_M_isDue at hp
  refine wp_iload_n d_M_isDue_0 1 rfl ?_
  refine wp_bipush (v := 41) (by decide) d_M_isDue_1 ?_
  refine wp_imul d_M_isDue_3 ?_
  refine wp_iload_n d_M_isDue_4 2 rfl ?_
  refine wp_iadd d_M_isDue_5 ?_
  refine wp_istore_n (l' := [(3, .int ((x2 * 41) + x3)), (0, .ref a1), (1, .int x2), (2, .int x3)]) d_M_isDue_6 (by decide) rfl ?_
  refine wp_aload_n d_M_isDue_7 1 rfl ?_
  refine wp_iload_n d_M_isDue_8 2 rfl ?_
  refine wp_k hp (fun hk hp => ?_)
  refine wp_ci (M' := mi_M_relative) (As := [.ref a1, .int x2]) (st := []) (fr' := 0) (wo' := 0) (dr_sV (A := [.int x2]) cl_M hk tw_805 tw_807 tp_30 co_M_relative ⟨by decide, by decide⟩ (by rfl) d_M_isDue_9 rfl) co_M_relative (by decide +kernel) (by decide) (Nat.le_of_ble_eq_true rfl) (Nat.le_of_ble_eq_true rfl) (fun Q' hq => t_M_relative _ _ _ hq) hp (fun x5 h4 hp => ?_) (fun E q h3 hp => wx_out (by decide) hp)
  refine wp_aload_n d_M_isDue_12 1 rfl ?_
  refine wp_gr cl_M fl_M_21 (by decide) d_M_isDue_13 hp (fun a6 hp => ?_) (fun hp => (dr_p0 hp).elim)
  refine wp_iload_n d_M_isDue_16 0 rfl ?_
  refine wp_iaload d_M_isDue_17 hp (fun x7 hp => ?_)
  refine wp_icmp_lt (tgt := 23) d_M_isDue_18 (by decide) hp (fun _ hp => ?_) (fun _ hp => ?_)
  · refine wp_aload_n d_M_isDue_23 1 rfl ?_
    refine wp_gr cl_M fl_M_24 (by decide) d_M_isDue_24 hp (fun a8 hp => ?_) (fun hp => (dr_p0 hp).elim)
    refine wp_iload_n d_M_isDue_27 0 rfl ?_
    refine wp_iaload d_M_isDue_28 hp (fun x9 hp => ?_)
    refine wp_if_ge (tgt := 34) d_M_isDue_29 (by decide) hp (fun _ hp => ?_) (fun _ hp => ?_)
    · refine wp_aload_n d_M_isDue_34 1 rfl ?_
      refine wp_iload_n d_M_isDue_35 2 rfl ?_
      refine wp_aload_n d_M_isDue_36 1 rfl ?_
      refine wp_gr cl_M fl_M_24 (by decide) d_M_isDue_37 hp (fun a10 hp => ?_) (fun hp => (dr_p0 hp).elim)
      refine wp_iload_n d_M_isDue_40 0 rfl ?_
      refine wp_iaload d_M_isDue_41 hp (fun x11 hp => ?_)
      refine wp_iconst (v := 0) (by decide) d_M_isDue_42 ?_
      refine wp_k hp (fun hk hp => ?_)
      refine wp_ci (M' := mi_M_first) (As := [.ref a1, .int x2, .int x11, .int 0]) (st := []) (fr' := 0) (wo' := 0) (dr_sV (A := [.int x2, .int x11, .int 0]) cl_M hk tw_809 tw_811 tp_31 co_M_first ⟨by decide, by decide⟩ (by rfl) d_M_isDue_43 rfl) co_M_first (by decide +kernel) (by decide) (Nat.le_of_ble_eq_true rfl) (Nat.le_of_ble_eq_true rfl) (fun Q' hq => t_M_first _ _ _ _ _ hq) hp (fun x13 h12 hp => ?_) (fun E q h3 hp => wx_out (by decide) hp)
      refine wp_istore (l' := [(4, .int x13), (3, .int ((x2 * 41) + x3)), (0, .ref a1), (1, .int x2), (2, .int x3)]) d_M_isDue_46 (by decide) rfl ?_
      refine wp_iload d_M_isDue_48 0 rfl ?_
      refine wp_if_lt (tgt := 74) d_M_isDue_50 (by decide) hp (fun _ hp => ?_) (fun _ hp => ?_)
      · refine wp_iconst (v := 0) (by decide) d_M_isDue_74 ?_
        exact wp_zreturn rfl d_M_isDue_75 hp
      · refine wp_aload_n d_M_isDue_53 2 rfl ?_
        refine wp_iload_n d_M_isDue_54 3 rfl ?_
        refine wp_k hp (fun hk hp => ?_)
        refine wp_ci (M' := mi_M_relative) (As := [.ref a1, .int x2]) (st := []) (fr' := 0) (wo' := 0) (dr_sV (A := [.int x2]) cl_M hk tw_805 tw_807 tp_30 co_M_relative ⟨by decide, by decide⟩ (by rfl) d_M_isDue_55 rfl) co_M_relative (by decide +kernel) (by decide) (Nat.le_of_ble_eq_true rfl) (Nat.le_of_ble_eq_true rfl) (fun Q' hq => t_M_relative _ _ _ hq) hp (fun x15 h14 hp => ?_) (fun E q h3 hp => wx_out (by decide) hp)
        refine wp_iload d_M_isDue_58 0 rfl ?_
        refine wp_aload_n d_M_isDue_60 2 rfl ?_
        refine wp_gr cl_M fl_M_27 (by decide) d_M_isDue_61 hp (fun a16 hp => ?_) (fun hp => (dr_p0 hp).elim)
        refine wp_iload_n d_M_isDue_64 1 rfl ?_
        refine wp_iaload d_M_isDue_65 hp (fun x17 hp => ?_)
        refine wp_iadd d_M_isDue_66 ?_
        refine wp_icmp_lt (tgt := 74) d_M_isDue_67 (by decide) hp (fun _ hp => ?_) (fun _ hp => ?_)
        · refine wp_iconst (v := 0) (by decide) d_M_isDue_74 ?_
          exact wp_zreturn rfl d_M_isDue_75 hp
        · refine wp_iconst (v := 1) (by decide) d_M_isDue_70 ?_
          refine wp_goto (tgt := 75) d_M_isDue_71 (by decide) ?_
          exact wp_zreturn rfl d_M_isDue_75 hp
    · refine wp_iconst (v := 0) (by decide) d_M_isDue_32 ?_
      exact wp_zreturn rfl d_M_isDue_33 hp
  · refine wp_iconst (v := 1) (by decide) d_M_isDue_21 ?_
    exact wp_zreturn rfl d_M_isDue_22 hp
def f_M_look_4 : Nat → Nat → Int32 → Int32 → Int32 → dr_AH → Option (dr_RS × dr_AH)
  | 0, _, _, _, _, _ => none
  | n + 1, a1, x2, x3, x4, h => if 41 ≤ x4 then some (.inl (some (.int x3)), h) else (dr_gr' h 4 a1 7 fun a5 => (dr_az h a5 ((x2 * 41) + x4) fun x6 => if x6 = 0 then f_M_look_4 n a1 x2 x3 (x4 + 1) h else (dr_gr' h 4 a1 22 fun a7 => (dr_ai h a7 ((x2 * 41) + x4) fun x8 => if 0 ≤ x8 then f_M_look_4 n a1 x2 x3 (x4 + 1) h else (dr_k h a1 4 (dr_ci' (f_M_isDue a1 x2 x4 h) fun x10 h9 => if x10 = 0 then f_M_look_4 n a1 x2 x3 (x4 + 1) h9 else (dr_gr' h9 4 a1 22 fun a11 => (dr_k h9 a1 4 (dr_ci' (f_M_relative a1 x2 h9) fun x13 h12 => (dr_si h12 a11 ((x2 * 41) + x4) x13 fun h14 => f_M_look_4 n a1 x2 (x3 + 1) (x4 + 1) h14))))))))))
def f_M_look (a1 : Nat) (x2 : Int32) (h : dr_AH) : Option (dr_RS × dr_AH) :=
  f_M_look_4 dr_fu a1 x2 0 1 h
set_option maxRecDepth 100000 in
set_option maxHeartbeats 400000 in
theorem t_M_look_4 {Q : dr_RS → dr_AH → Prop} : ∀ (n : Nat) (a1 : Nat) (x2 : Int32) (x3 : Int32) (x4 : Int32) (h : dr_AH), dr_p (f_M_look_4 n a1 x2 x3 x4 h) Q → dr_W mi_M_look 2 32 4 [(0, .ref a1), (1, .int x2), (2, .int x3), (3, .int x4)] [] h Q := by
  intro n
  induction n with
  | zero => intro a1 x2 x3 x4 h hp; exact (dr_p0 hp).elim
  | succ n ih =>
    intro a1 x2 x3 x4 h hp
    unfold f_M_look_4 at hp
    refine wp_iload_n d_M_look_4 3 rfl ?_
    refine wp_bipush (v := 41) (by decide) d_M_look_5 ?_
    refine wp_icmp_ge (tgt := 71) d_M_look_7 (by decide) hp (fun _ hp => ?_) (fun _ hp => ?_)
    · refine wp_iload_n d_M_look_71 2 rfl ?_
      exact wp_ireturn rfl rfl d_M_look_72 hp
    · refine wp_iload_n d_M_look_10 1 rfl ?_
      refine wp_bipush (v := 41) (by decide) d_M_look_11 ?_
      refine wp_imul d_M_look_13 ?_
      refine wp_iload_n d_M_look_14 3 rfl ?_
      refine wp_iadd d_M_look_15 ?_
      refine wp_istore (l' := [(4, .int ((x2 * 41) + x4)), (0, .ref a1), (1, .int x2), (2, .int x3), (3, .int x4)]) d_M_look_16 (by decide) rfl ?_
      refine wp_aload_n d_M_look_18 1 rfl ?_
      refine wp_gr cl_M fl_M_17 (by decide) d_M_look_19 hp (fun a5 hp => ?_) (fun hp => (dr_p0 hp).elim)
      refine wp_iload d_M_look_22 0 rfl ?_
      refine wp_zaload d_M_look_24 hp (fun x6 hp => ?_)
      refine wp_if_eq (tgt := 65) d_M_look_25 (by decide) hp (fun _ hp => ?_) (fun _ hp => ?_)
      · refine wp_iinc (v := (x4 + 1)) (l' := [(3, .int (x4 + 1)), (4, .int ((x2 * 41) + x4)), (0, .ref a1), (1, .int x2), (2, .int x3)]) d_M_look_65 4 rfl rfl (by decide) rfl ?_
        refine wp_goto (tgt := 4) d_M_look_68 (by decide) ?_
        exact wp_sub [2, 3, 4, 0] rfl (ih _ _ _ _ _ hp)
      · refine wp_aload_n d_M_look_28 1 rfl ?_
        refine wp_gr cl_M fl_M_60 (by decide) d_M_look_29 hp (fun a7 hp => ?_) (fun hp => (dr_p0 hp).elim)
        refine wp_iload d_M_look_32 0 rfl ?_
        refine wp_iaload d_M_look_34 hp (fun x8 hp => ?_)
        refine wp_if_ge (tgt := 65) d_M_look_35 (by decide) hp (fun _ hp => ?_) (fun _ hp => ?_)
        · refine wp_iinc (v := (x4 + 1)) (l' := [(3, .int (x4 + 1)), (4, .int ((x2 * 41) + x4)), (0, .ref a1), (1, .int x2), (2, .int x3)]) d_M_look_65 4 rfl rfl (by decide) rfl ?_
          refine wp_goto (tgt := 4) d_M_look_68 (by decide) ?_
          exact wp_sub [2, 3, 4, 0] rfl (ih _ _ _ _ _ hp)
        · refine wp_aload_n d_M_look_38 1 rfl ?_
          refine wp_iload_n d_M_look_39 2 rfl ?_
          refine wp_iload_n d_M_look_40 4 rfl ?_
          refine wp_k hp (fun hk hp => ?_)
          refine wp_ci (M' := mi_M_isDue) (As := [.ref a1, .int x2, .int x4]) (st := []) (fr' := 1) (wo' := 16) (dr_sV (A := [.int x2, .int x4]) cl_M hk tw_801 tw_803 tp_29 co_M_isDue ⟨by decide, by decide⟩ (by rfl) d_M_look_41 rfl) co_M_isDue (by decide +kernel) (by decide) (Nat.le_of_ble_eq_true rfl) (Nat.le_of_ble_eq_true rfl) (fun Q' hq => t_M_isDue _ _ _ _ hq) hp (fun x10 h9 hp => ?_) (fun E q h3 hp => wx_out (by decide) hp)
          refine wp_if_ne (tgt := 50) d_M_look_44 (by decide) hp (fun _ hp => ?_) (fun _ hp => ?_)
          · refine wp_aload_n d_M_look_50 1 rfl ?_
            refine wp_gr cl_M fl_M_60 (by decide) d_M_look_51 hp (fun a11 hp => ?_) (fun hp => (dr_p0 hp).elim)
            refine wp_iload d_M_look_54 0 rfl ?_
            refine wp_aload_n d_M_look_56 1 rfl ?_
            refine wp_iload_n d_M_look_57 2 rfl ?_
            refine wp_k hp (fun hk hp => ?_)
            refine wp_ci (M' := mi_M_relative) (As := [.ref a1, .int x2]) (st := [.int ((x2 * 41) + x4), .ref a11]) (fr' := 0) (wo' := 0) (dr_sV (A := [.int x2]) cl_M hk tw_805 tw_807 tp_30 co_M_relative ⟨by decide, by decide⟩ (by rfl) d_M_look_58 rfl) co_M_relative (by decide +kernel) (by decide) (Nat.le_of_ble_eq_true rfl) (Nat.le_of_ble_eq_true rfl) (fun Q' hq => t_M_relative _ _ _ hq) hp (fun x13 h12 hp => ?_) (fun E q h3 hp => wx_out (by decide) hp)
            refine wp_iastore d_M_look_61 hp (fun h14 hp => ?_)
            refine wp_iinc (v := (x3 + 1)) (l' := [(2, .int (x3 + 1)), (4, .int ((x2 * 41) + x4)), (0, .ref a1), (1, .int x2), (3, .int x4)]) d_M_look_62 3 rfl rfl (by decide) rfl ?_
            refine wp_iinc (v := (x4 + 1)) (l' := [(3, .int (x4 + 1)), (2, .int (x3 + 1)), (4, .int ((x2 * 41) + x4)), (0, .ref a1), (1, .int x2)]) d_M_look_65 4 rfl rfl (by decide) rfl ?_
            refine wp_goto (tgt := 4) d_M_look_68 (by decide) ?_
            exact wp_sub [3, 4, 1, 0] rfl (ih _ _ _ _ _ hp)
          · refine wp_goto (tgt := 65) d_M_look_47 (by decide) ?_
            refine wp_iinc (v := (x4 + 1)) (l' := [(3, .int (x4 + 1)), (4, .int ((x2 * 41) + x4)), (0, .ref a1), (1, .int x2), (2, .int x3)]) d_M_look_65 4 rfl rfl (by decide) rfl ?_
            refine wp_goto (tgt := 4) d_M_look_68 (by decide) ?_
            exact wp_sub [2, 3, 4, 0] rfl (ih _ _ _ _ _ hp)
set_option maxRecDepth 100000 in
set_option maxHeartbeats 400000 in
theorem t_M_look {Q : dr_RS → dr_AH → Prop} : ∀ (a1 : Nat) (x2 : Int32) (h : dr_AH), dr_p (f_M_look a1 x2 h) Q → dr_W mi_M_look 2 32 0 [(0, .ref a1), (1, .int x2)] [] h Q := by
  intro a1 x2 h hp
  unfold f_M_look at hp
  refine wp_iconst (v := 0) (by decide) d_M_look_0 ?_
  refine wp_istore_n (l' := [(2, .int 0), (0, .ref a1), (1, .int x2)]) d_M_look_1 (by decide) rfl ?_
  refine wp_iconst (v := 1) (by decide) d_M_look_2 ?_
  refine wp_istore_n (l' := [(3, .int 1), (2, .int 0), (0, .ref a1), (1, .int x2)]) d_M_look_3 (by decide) rfl ?_
  exact wp_sub [2, 3, 1, 0] rfl (t_M_look_4 dr_fu _ _ _ _ _ hp)
def f_M_begin_63 : Nat → Nat → Int32 → dr_AH → Option (dr_RS × dr_AH)
  | 0, _, _, _ => none
  | n + 1, a1, x2, h => if 41 ≤ x2 then (dr_gi h 4 a1 19 fun x3 => (dr_pf h 4 a1 19 (.int (x3 + 1)) fun h4 => (dr_gi h4 4 a1 19 fun x5 => (dr_k h4 a1 4 (dr_ci' (f_M_look a1 (x5 - 1) h4) fun x7 h6 => (dr_gi h6 4 a1 19 fun x8 => some (.inl (some (.int (x8 - 1))), h6))))))) else (dr_gr' h 4 a1 22 fun a9 => (dr_gi h 4 a1 19 fun x10 => (dr_si h a9 ((x10 * 41) + x2) (-1) fun h11 => f_M_begin_63 n a1 (x2 + 1) h11)))
def f_M_begin_29 (a1 : Nat) (x2 : Int32) (x3 : Int32) (a4 : Nat) (h : dr_AH) : Option (dr_RS × dr_AH) :=
  (dr_k h a4 4 (dr_ci' (f_M_goes a4 x3 x2 1 h) fun x6 h5 => if x6 = 0 then some (.inl (some (.int 0)), h5) else (dr_gi h5 4 a1 19 fun x7 => (dr_k h5 a1 4 (dr_cv' (f_M_copy a1 8 x7 h5) fun h8 => (dr_gr' h8 4 a1 20 fun a9 => (dr_gi h8 4 a1 19 fun x10 => (dr_gi h8 4 a1 1 fun x11 => (dr_si h8 a9 x10 x11 fun h12 => f_M_begin_63 dr_fu a1 0 h12)))))))))
def f_M_begin_15 (a1 : Nat) (x2 : Int32) (a3 : Nat) (h : dr_AH) : Option (dr_RS × dr_AH) :=
  (dr_gi h 4 a1 19 fun x4 => if 8 ≤ x4 then f_M_begin_29 a1 0 x2 a3 h else f_M_begin_29 a1 1 x2 a3 h)
def f_M_begin (a1 : Nat) (h : dr_AH) : Option (dr_RS × dr_AH) :=
  (dr_k h a1 4 (dr_ci' (f_M_size a1 8 h) fun x3 h2 => if x3 ≤ 0 then f_M_begin_15 a1 0 a1 h2 else f_M_begin_15 a1 1 a1 h2))
set_option maxRecDepth 100000 in
set_option maxHeartbeats 400000 in
theorem t_M_begin_63 {Q : dr_RS → dr_AH → Prop} : ∀ (n : Nat) (a1 : Nat) (x2 : Int32) (h : dr_AH), dr_p (f_M_begin_63 n a1 x2 h) Q → dr_W mi_M_begin 3 48 63 [(0, .ref a1), (1, .int x2)] [] h Q := by
  intro n
  induction n with
  | zero => intro a1 x2 h hp; exact (dr_p0 hp).elim
  | succ n ih =>
    intro a1 x2 h hp
    unfold f_M_begin_63 at hp
    refine wp_iload_n d_M_begin_63 1 rfl ?_
    refine wp_bipush (v := 41) (by decide) d_M_begin_64 ?_
    refine wp_icmp_ge (tgt := 90) d_M_begin_66 (by decide) hp (fun _ hp => ?_) (fun _ hp => ?_)
    · refine wp_aload_n d_M_begin_90 0 rfl ?_
      refine wp_dup rfl d_M_begin_91 ?_
      refine wp_gi cl_M fl_M_161 (by decide) d_M_begin_92 hp (fun x3 hp => ?_)
      refine wp_iconst (v := 1) (by decide) d_M_begin_95 ?_
      refine wp_iadd d_M_begin_96 ?_
      refine wp_put cl_M fl_M_161 (by decide) (Or.inl (by rfl)) (by rfl) (by rfl) d_M_begin_97 hp (fun h4 hp => ?_)
      refine wp_aload_n d_M_begin_100 0 rfl ?_
      refine wp_aload_n d_M_begin_101 0 rfl ?_
      refine wp_gi cl_M fl_M_161 (by decide) d_M_begin_102 hp (fun x5 hp => ?_)
      refine wp_iconst (v := 1) (by decide) d_M_begin_105 ?_
      refine wp_isub d_M_begin_106 ?_
      refine wp_k hp (fun hk hp => ?_)
      refine wp_ci (M' := mi_M_look) (As := [.ref a1, .int (x5 - 1)]) (st := []) (fr' := 2) (wo' := 32) (dr_sV (A := [.int (x5 - 1)]) cl_M hk tw_797 tw_799 tp_28 co_M_look ⟨by decide, by decide⟩ (by rfl) d_M_begin_107 rfl) co_M_look (by decide +kernel) (by decide) (Nat.le_of_ble_eq_true rfl) (Nat.le_of_ble_eq_true rfl) (fun Q' hq => t_M_look _ _ _ hq) hp (fun x7 h6 hp => ?_) (fun E q h3 hp => wx_out (by decide) hp)
      refine wp_pop rfl d_M_begin_110 ?_
      refine wp_aload_n d_M_begin_111 0 rfl ?_
      refine wp_gi cl_M fl_M_161 (by decide) d_M_begin_112 hp (fun x8 hp => ?_)
      refine wp_iconst (v := 1) (by decide) d_M_begin_115 ?_
      refine wp_isub d_M_begin_116 ?_
      exact wp_ireturn rfl rfl d_M_begin_117 hp
    · refine wp_aload_n d_M_begin_69 0 rfl ?_
      refine wp_gr cl_M fl_M_60 (by decide) d_M_begin_70 hp (fun a9 hp => ?_) (fun hp => (dr_p0 hp).elim)
      refine wp_aload_n d_M_begin_73 0 rfl ?_
      refine wp_gi cl_M fl_M_161 (by decide) d_M_begin_74 hp (fun x10 hp => ?_)
      refine wp_bipush (v := 41) (by decide) d_M_begin_77 ?_
      refine wp_imul d_M_begin_79 ?_
      refine wp_iload_n d_M_begin_80 1 rfl ?_
      refine wp_iadd d_M_begin_81 ?_
      refine wp_iconst (v := (-1)) (by decide) d_M_begin_82 ?_
      refine wp_iastore d_M_begin_83 hp (fun h11 hp => ?_)
      refine wp_iinc (v := (x2 + 1)) (l' := [(1, .int (x2 + 1)), (0, .ref a1)]) d_M_begin_84 1 rfl rfl (by decide) rfl ?_
      refine wp_goto (tgt := 63) d_M_begin_87 (by decide) ?_
      exact wp_sub [1, 0] rfl (ih _ _ _ hp)
set_option maxRecDepth 100000 in
set_option maxHeartbeats 400000 in
theorem t_M_begin_29 {Q : dr_RS → dr_AH → Prop} : ∀ (a1 : Nat) (x2 : Int32) (x3 : Int32) (a4 : Nat) (h : dr_AH), dr_p (f_M_begin_29 a1 x2 x3 a4 h) Q → dr_W mi_M_begin 3 48 29 [(0, .ref a1)] [.int x2, .int x3, .ref a4] h Q := by
  intro a1 x2 x3 a4 h hp
  unfold f_M_begin_29 at hp
  refine wp_iconst (v := 1) (by decide) d_M_begin_29 ?_
  refine wp_k hp (fun hk hp => ?_)
  refine wp_ci (M' := mi_M_goes) (As := [.ref a4, .int x3, .int x2, .int 1]) (st := []) (fr' := 0) (wo' := 0) (dr_sV (A := [.int x3, .int x2, .int 1]) cl_M hk tw_737 tw_739 tp_16 co_M_goes ⟨by decide, by decide⟩ (by rfl) d_M_begin_30 rfl) co_M_goes (by decide +kernel) (by decide) (Nat.le_of_ble_eq_true rfl) (Nat.le_of_ble_eq_true rfl) (fun Q' hq => t_M_goes _ _ _ _ _ hq) hp (fun x6 h5 hp => ?_) (fun E q h3 hp => wx_out (by decide) hp)
  refine wp_if_ne (tgt := 38) d_M_begin_33 (by decide) hp (fun _ hp => ?_) (fun _ hp => ?_)
  · refine wp_aload_n d_M_begin_38 0 rfl ?_
    refine wp_bipush (v := 8) (by decide) d_M_begin_39 ?_
    refine wp_aload_n d_M_begin_41 0 rfl ?_
    refine wp_gi cl_M fl_M_161 (by decide) d_M_begin_42 hp (fun x7 hp => ?_)
    refine wp_k hp (fun hk hp => ?_)
    refine wp_cv (M' := mi_M_copy) (As := [.ref a1, .int 8, .int x7]) (st := []) (fr' := 0) (wo' := 0) (dr_sV (A := [.int 8, .int x7]) cl_M hk tw_781 tw_783 tp_26 co_M_copy ⟨by decide, by decide⟩ (by rfl) d_M_begin_45 rfl) co_M_copy (by decide +kernel) (by decide) (Nat.le_of_ble_eq_true rfl) (Nat.le_of_ble_eq_true rfl) (fun Q' hq => t_M_copy _ _ _ _ hq) hp (fun h8 hp => ?_) (fun E q h3 hp => wx_out (by decide) hp)
    refine wp_aload_n d_M_begin_48 0 rfl ?_
    refine wp_gr cl_M fl_M_54 (by decide) d_M_begin_49 hp (fun a9 hp => ?_) (fun hp => (dr_p0 hp).elim)
    refine wp_aload_n d_M_begin_52 0 rfl ?_
    refine wp_gi cl_M fl_M_161 (by decide) d_M_begin_53 hp (fun x10 hp => ?_)
    refine wp_aload_n d_M_begin_56 0 rfl ?_
    refine wp_gi cl_M fl_M_147 (by decide) d_M_begin_57 hp (fun x11 hp => ?_)
    refine wp_iastore d_M_begin_60 hp (fun h12 hp => ?_)
    refine wp_iconst (v := 0) (by decide) d_M_begin_61 ?_
    refine wp_istore_n (l' := [(1, .int 0), (0, .ref a1)]) d_M_begin_62 (by decide) rfl ?_
    exact wp_sub [1, 0] rfl (t_M_begin_63 dr_fu _ _ _ hp)
  · refine wp_iconst (v := 0) (by decide) d_M_begin_36 ?_
    exact wp_ireturn rfl rfl d_M_begin_37 hp
set_option maxRecDepth 100000 in
set_option maxHeartbeats 400000 in
theorem t_M_begin_15 {Q : dr_RS → dr_AH → Prop} : ∀ (a1 : Nat) (x2 : Int32) (a3 : Nat) (h : dr_AH), dr_p (f_M_begin_15 a1 x2 a3 h) Q → dr_W mi_M_begin 3 48 15 [(0, .ref a1)] [.int x2, .ref a3] h Q := by
  intro a1 x2 a3 h hp
  unfold f_M_begin_15 at hp
  refine wp_aload_n d_M_begin_15 0 rfl ?_
  refine wp_gi cl_M fl_M_161 (by decide) d_M_begin_16 hp (fun x4 hp => ?_)
  refine wp_bipush (v := 8) (by decide) d_M_begin_19 ?_
  refine wp_icmp_ge (tgt := 28) d_M_begin_21 (by decide) hp (fun _ hp => ?_) (fun _ hp => ?_)
  · refine wp_iconst (v := 0) (by decide) d_M_begin_28 ?_
    exact wp_sub [0] rfl (t_M_begin_29 _ _ _ _ _ hp)
  · refine wp_iconst (v := 1) (by decide) d_M_begin_24 ?_
    refine wp_goto (tgt := 29) d_M_begin_25 (by decide) ?_
    exact wp_sub [0] rfl (t_M_begin_29 _ _ _ _ _ hp)
set_option maxRecDepth 100000 in
set_option maxHeartbeats 400000 in
theorem t_M_begin {Q : dr_RS → dr_AH → Prop} : ∀ (a1 : Nat) (h : dr_AH), dr_p (f_M_begin a1 h) Q → dr_W mi_M_begin 3 48 0 [(0, .ref a1)] [] h Q := by
  intro a1 h hp
  unfold f_M_begin at hp
  refine wp_aload_n d_M_begin_0 0 rfl ?_
  refine wp_aload_n d_M_begin_1 0 rfl ?_
  refine wp_bipush (v := 8) (by decide) d_M_begin_2 ?_
  refine wp_k hp (fun hk hp => ?_)
  refine wp_ci (M' := mi_M_size) (As := [.ref a1, .int 8]) (st := [.ref a1]) (fr' := 0) (wo' := 0) (dr_sV (A := [.int 8]) cl_M hk tw_785 tw_787 tp_27 co_M_size ⟨by decide, by decide⟩ (by rfl) d_M_begin_4 rfl) co_M_size (by decide +kernel) (by decide) (Nat.le_of_ble_eq_true rfl) (Nat.le_of_ble_eq_true rfl) (fun Q' hq => t_M_size _ _ _ hq) hp (fun x3 h2 hp => ?_) (fun E q h3 hp => wx_out (by decide) hp)
  refine wp_if_le (tgt := 14) d_M_begin_7 (by decide) hp (fun _ hp => ?_) (fun _ hp => ?_)
  · refine wp_iconst (v := 0) (by decide) d_M_begin_14 ?_
    exact wp_sub [0] rfl (t_M_begin_15 _ _ _ _ hp)
  · refine wp_iconst (v := 1) (by decide) d_M_begin_10 ?_
    refine wp_goto (tgt := 15) d_M_begin_11 (by decide) ?_
    exact wp_sub [0] rfl (t_M_begin_15 _ _ _ _ hp)
def f_M_isDrill (a1 : Nat) (x2 : Int32) (h : dr_AH) : Option (dr_RS × dr_AH) :=
  (dr_gi h 4 a1 19 fun x3 => (dr_ci' (f_M_in x2 0 (x3 - 1) h) fun x5 h4 => dr_rz x5 h4))
set_option maxRecDepth 100000 in
set_option maxHeartbeats 400000 in
theorem t_M_isDrill {Q : dr_RS → dr_AH → Prop} : ∀ (a1 : Nat) (x2 : Int32) (h : dr_AH), dr_p (f_M_isDrill a1 x2 h) Q → dr_W mi_M_isDrill 1 14 0 [(0, .ref a1), (1, .int x2)] [] h Q := by
  intro a1 x2 h hp
  unfold f_M_isDrill at hp
  refine wp_iload_n d_M_isDrill_0 1 rfl ?_
  refine wp_iconst (v := 0) (by decide) d_M_isDrill_1 ?_
  refine wp_aload_n d_M_isDrill_2 0 rfl ?_
  refine wp_gi cl_M fl_M_161 (by decide) d_M_isDrill_3 hp (fun x3 hp => ?_)
  refine wp_iconst (v := 1) (by decide) d_M_isDrill_6 ?_
  refine wp_isub d_M_isDrill_7 ?_
  refine wp_ci (M' := mi_M_in) (As := [.int x2, .int 0, .int (x3 - 1)]) (st := []) (fr' := 0) (wo' := 0) (dr_sS (A := [.int x2, .int 0, .int (x3 - 1)]) tw_734 tw_735 tw_5 co_M_in ⟨by decide, by decide⟩ (by rfl) d_M_isDrill_8 rfl) co_M_in (by decide +kernel) (by decide) (Nat.le_of_ble_eq_true rfl) (Nat.le_of_ble_eq_true rfl) (fun Q' hq => t_M_in _ _ _ _ hq) hp (fun x5 h4 hp => ?_) (fun E q h3 hp => wx_out (by decide) hp)
  exact wp_zreturn rfl d_M_isDrill_11 hp
def f_M_stop_45 : Nat → Nat → Int32 → Int32 → dr_AH → Option (dr_RS × dr_AH)
  | 0, _, _, _, _ => none
  | n + 1, a1, x2, x3, h => if 20 ≤ x3 then some (.inl none, h) else (dr_gr' h 4 a1 26 fun a4 => (dr_ai h a4 x3 fun x5 => if x5 = x2 then (dr_gr' h 4 a1 26 fun a6 => (dr_si h a6 x3 (-1) fun h7 => f_M_stop_45 n a1 x2 (x3 + 1) h7)) else f_M_stop_45 n a1 x2 (x3 + 1) h))
def f_M_stop_28 (a1 : Nat) (x2 : Int32) (x3 : Int32) (x4 : Int32) (a5 : Nat) (h : dr_AH) : Option (dr_RS × dr_AH) :=
  (dr_k h a5 4 (dr_ci' (f_M_goes a5 x4 x3 1 h) fun x7 h6 => if x7 = 0 then some (.inl none, h6) else (dr_gr' h6 4 a1 21 fun a8 => (dr_sz h6 a8 x2 1 fun h9 => f_M_stop_45 dr_fu a1 x2 0 h9))))
def f_M_stop_27 (a1 : Nat) (x2 : Int32) (x3 : Int32) (a4 : Nat) (h : dr_AH) : Option (dr_RS × dr_AH) :=
  f_M_stop_28 a1 x2 0 x3 a4 h
def f_M_stop (a1 : Nat) (x2 : Int32) (h : dr_AH) : Option (dr_RS × dr_AH) :=
  (dr_k h a1 4 (dr_ci' (f_M_isDrill a1 x2 h) fun x4 h3 => (dr_k h3 a1 4 (dr_ci' (f_M_isDrill a1 x2 h3) fun x6 h5 => if x6 = 0 then f_M_stop_27 a1 x2 x4 a1 h5 else (dr_gr' h5 4 a1 21 fun a7 => (dr_az h5 a7 x2 fun x8 => if x8 = 0 then f_M_stop_28 a1 x2 1 x4 a1 h5 else f_M_stop_27 a1 x2 x4 a1 h5))))))
set_option maxRecDepth 100000 in
set_option maxHeartbeats 400000 in
theorem t_M_stop_45 {Q : dr_RS → dr_AH → Prop} : ∀ (n : Nat) (a1 : Nat) (x2 : Int32) (x3 : Int32) (h : dr_AH), dr_p (f_M_stop_45 n a1 x2 x3 h) Q → dr_W mi_M_stop 2 29 45 [(0, .ref a1), (1, .int x2), (2, .int x3)] [] h Q := by
  intro n
  induction n with
  | zero => intro a1 x2 x3 h hp; exact (dr_p0 hp).elim
  | succ n ih =>
    intro a1 x2 x3 h hp
    unfold f_M_stop_45 at hp
    refine wp_iload_n d_M_stop_45 2 rfl ?_
    refine wp_bipush (v := 20) (by decide) d_M_stop_46 ?_
    refine wp_icmp_ge (tgt := 74) d_M_stop_48 (by decide) hp (fun _ hp => ?_) (fun _ hp => ?_)
    · exact wp_return rfl d_M_stop_74 hp
    · refine wp_aload_n d_M_stop_51 0 rfl ?_
      refine wp_gr cl_M fl_M_72 (by decide) d_M_stop_52 hp (fun a4 hp => ?_) (fun hp => (dr_p0 hp).elim)
      refine wp_iload_n d_M_stop_55 2 rfl ?_
      refine wp_iaload d_M_stop_56 hp (fun x5 hp => ?_)
      refine wp_iload_n d_M_stop_57 1 rfl ?_
      refine wp_icmp_ne (tgt := 68) d_M_stop_58 (by decide) hp (fun _ hp => ?_) (fun _ hp => ?_)
      · refine wp_iinc (v := (x3 + 1)) (l' := [(2, .int (x3 + 1)), (0, .ref a1), (1, .int x2)]) d_M_stop_68 2 rfl rfl (by decide) rfl ?_
        refine wp_goto (tgt := 45) d_M_stop_71 (by decide) ?_
        exact wp_sub [1, 2, 0] rfl (ih _ _ _ _ hp)
      · refine wp_aload_n d_M_stop_61 0 rfl ?_
        refine wp_gr cl_M fl_M_72 (by decide) d_M_stop_62 hp (fun a6 hp => ?_) (fun hp => (dr_p0 hp).elim)
        refine wp_iload_n d_M_stop_65 2 rfl ?_
        refine wp_iconst (v := (-1)) (by decide) d_M_stop_66 ?_
        refine wp_iastore d_M_stop_67 hp (fun h7 hp => ?_)
        refine wp_iinc (v := (x3 + 1)) (l' := [(2, .int (x3 + 1)), (0, .ref a1), (1, .int x2)]) d_M_stop_68 2 rfl rfl (by decide) rfl ?_
        refine wp_goto (tgt := 45) d_M_stop_71 (by decide) ?_
        exact wp_sub [1, 2, 0] rfl (ih _ _ _ _ hp)
set_option maxRecDepth 100000 in
set_option maxHeartbeats 400000 in
theorem t_M_stop_28 {Q : dr_RS → dr_AH → Prop} : ∀ (a1 : Nat) (x2 : Int32) (x3 : Int32) (x4 : Int32) (a5 : Nat) (h : dr_AH), dr_p (f_M_stop_28 a1 x2 x3 x4 a5 h) Q → dr_W mi_M_stop 2 29 28 [(0, .ref a1), (1, .int x2)] [.int x3, .int x4, .ref a5] h Q := by
  intro a1 x2 x3 x4 a5 h hp
  unfold f_M_stop_28 at hp
  refine wp_iconst (v := 1) (by decide) d_M_stop_28 ?_
  refine wp_k hp (fun hk hp => ?_)
  refine wp_ci (M' := mi_M_goes) (As := [.ref a5, .int x4, .int x3, .int 1]) (st := []) (fr' := 0) (wo' := 0) (dr_sV (A := [.int x4, .int x3, .int 1]) cl_M hk tw_737 tw_739 tp_16 co_M_goes ⟨by decide, by decide⟩ (by rfl) d_M_stop_29 rfl) co_M_goes (by decide +kernel) (by decide) (Nat.le_of_ble_eq_true rfl) (Nat.le_of_ble_eq_true rfl) (fun Q' hq => t_M_goes _ _ _ _ _ hq) hp (fun x7 h6 hp => ?_) (fun E q h3 hp => wx_out (by decide) hp)
  refine wp_if_ne (tgt := 36) d_M_stop_32 (by decide) hp (fun _ hp => ?_) (fun _ hp => ?_)
  · refine wp_aload_n d_M_stop_36 0 rfl ?_
    refine wp_gr cl_M fl_M_57 (by decide) d_M_stop_37 hp (fun a8 hp => ?_) (fun hp => (dr_p0 hp).elim)
    refine wp_iload_n d_M_stop_40 1 rfl ?_
    refine wp_iconst (v := 1) (by decide) d_M_stop_41 ?_
    refine wp_zastore d_M_stop_42 hp (fun h9 hp => ?_)
    refine wp_iconst (v := 0) (by decide) d_M_stop_43 ?_
    refine wp_istore_n (l' := [(2, .int 0), (0, .ref a1), (1, .int x2)]) d_M_stop_44 (by decide) rfl ?_
    exact wp_sub [1, 2, 0] rfl (t_M_stop_45 dr_fu _ _ _ _ hp)
  · exact wp_return rfl d_M_stop_35 hp
set_option maxRecDepth 100000 in
set_option maxHeartbeats 400000 in
theorem t_M_stop_27 {Q : dr_RS → dr_AH → Prop} : ∀ (a1 : Nat) (x2 : Int32) (x3 : Int32) (a4 : Nat) (h : dr_AH), dr_p (f_M_stop_27 a1 x2 x3 a4 h) Q → dr_W mi_M_stop 2 29 27 [(0, .ref a1), (1, .int x2)] [.int x3, .ref a4] h Q := by
  intro a1 x2 x3 a4 h hp
  unfold f_M_stop_27 at hp
  refine wp_iconst (v := 0) (by decide) d_M_stop_27 ?_
  exact wp_sub [0, 1] rfl (t_M_stop_28 _ _ _ _ _ _ hp)
set_option maxRecDepth 100000 in
set_option maxHeartbeats 400000 in
theorem t_M_stop {Q : dr_RS → dr_AH → Prop} : ∀ (a1 : Nat) (x2 : Int32) (h : dr_AH), dr_p (f_M_stop a1 x2 h) Q → dr_W mi_M_stop 2 29 0 [(0, .ref a1), (1, .int x2)] [] h Q := by
  intro a1 x2 h hp
  unfold f_M_stop at hp
  refine wp_aload_n d_M_stop_0 0 rfl ?_
  refine wp_aload_n d_M_stop_1 0 rfl ?_
  refine wp_iload_n d_M_stop_2 1 rfl ?_
  refine wp_k hp (fun hk hp => ?_)
  refine wp_ci (M' := mi_M_isDrill) (As := [.ref a1, .int x2]) (st := [.ref a1]) (fr' := 1) (wo' := 14) (dr_sV (A := [.int x2]) cl_M hk tw_817 tw_819 tp_32 co_M_isDrill ⟨by decide, by decide⟩ (by rfl) d_M_stop_3 rfl) co_M_isDrill (by decide +kernel) (by decide) (Nat.le_of_ble_eq_true rfl) (Nat.le_of_ble_eq_true rfl) (fun Q' hq => t_M_isDrill _ _ _ hq) hp (fun x4 h3 hp => ?_) (fun E q h3 hp => wx_out (by decide) hp)
  refine wp_aload_n d_M_stop_6 0 rfl ?_
  refine wp_iload_n d_M_stop_7 1 rfl ?_
  refine wp_k hp (fun hk hp => ?_)
  refine wp_ci (M' := mi_M_isDrill) (As := [.ref a1, .int x2]) (st := [.int x4, .ref a1]) (fr' := 1) (wo' := 14) (dr_sV (A := [.int x2]) cl_M hk tw_817 tw_819 tp_32 co_M_isDrill ⟨by decide, by decide⟩ (by rfl) d_M_stop_8 rfl) co_M_isDrill (by decide +kernel) (by decide) (Nat.le_of_ble_eq_true rfl) (Nat.le_of_ble_eq_true rfl) (fun Q' hq => t_M_isDrill _ _ _ hq) hp (fun x6 h5 hp => ?_) (fun E q h3 hp => wx_out (by decide) hp)
  refine wp_if_eq (tgt := 27) d_M_stop_11 (by decide) hp (fun _ hp => ?_) (fun _ hp => ?_)
  · exact wp_sub [0, 1] rfl (t_M_stop_27 _ _ _ _ _ hp)
  · refine wp_aload_n d_M_stop_14 0 rfl ?_
    refine wp_gr cl_M fl_M_57 (by decide) d_M_stop_15 hp (fun a7 hp => ?_) (fun hp => (dr_p0 hp).elim)
    refine wp_iload_n d_M_stop_18 1 rfl ?_
    refine wp_zaload d_M_stop_19 hp (fun x8 hp => ?_)
    refine wp_if_ne (tgt := 27) d_M_stop_20 (by decide) hp (fun _ hp => ?_) (fun _ hp => ?_)
    · exact wp_sub [0, 1] rfl (t_M_stop_27 _ _ _ _ _ hp)
    · refine wp_iconst (v := 1) (by decide) d_M_stop_23 ?_
      refine wp_goto (tgt := 28) d_M_stop_24 (by decide) ?_
      exact wp_sub [0, 1] rfl (t_M_stop_28 _ _ _ _ _ _ hp)
def f_M_unit_23 (a1 : Nat) (x2 : Int32) (x3 : Int32) (x4 : Int32) (h : dr_AH) : Option (dr_RS × dr_AH) :=
  if x4 = 0 then (dr_k h a1 4 (dr_ci' (f_M_goes a1 x4 0 1 h) fun x6 h5 => if x6 = 0 then some (.inl none, h5) else (dr_gr' h5 4 a1 26 fun a7 => (dr_si h5 a7 x3 x2 fun h8 => some (.inl none, h8))))) else (dr_gr' h 4 a1 21 fun a9 => (dr_az h a9 x2 fun x10 => if x10 = 0 then (dr_gr' h 4 a1 26 fun a15 => (dr_ai h a15 x3 fun x16 => if 0 ≤ x16 then (dr_k h a1 4 (dr_ci' (f_M_goes a1 x4 0 1 h) fun x18 h17 => if x18 = 0 then some (.inl none, h17) else (dr_gr' h17 4 a1 26 fun a19 => (dr_si h17 a19 x3 x2 fun h20 => some (.inl none, h20))))) else (dr_k h a1 4 (dr_ci' (f_M_goes a1 x4 1 1 h) fun x22 h21 => if x22 = 0 then some (.inl none, h21) else (dr_gr' h21 4 a1 26 fun a23 => (dr_si h21 a23 x3 x2 fun h24 => some (.inl none, h24))))))) else (dr_k h a1 4 (dr_ci' (f_M_goes a1 x4 0 1 h) fun x12 h11 => if x12 = 0 then some (.inl none, h11) else (dr_gr' h11 4 a1 26 fun a13 => (dr_si h11 a13 x3 x2 fun h14 => some (.inl none, h14)))))))
def f_M_unit_22 (a1 : Nat) (x2 : Int32) (x3 : Int32) (h : dr_AH) : Option (dr_RS × dr_AH) :=
  f_M_unit_23 a1 x2 x3 0 h
def f_M_unit (a1 : Nat) (x2 : Int32) (x3 : Int32) (h : dr_AH) : Option (dr_RS × dr_AH) :=
  (dr_k h a1 4 (dr_ci' (f_M_isDrill a1 x2 h) fun x5 h4 => if x5 = 0 then f_M_unit_22 a1 x2 x3 h4 else (dr_ci' (f_M_in x3 0 19 h4) fun x7 h6 => if x7 = 0 then f_M_unit_22 a1 x2 x3 h6 else f_M_unit_23 a1 x2 x3 1 h6)))
set_option maxRecDepth 100000 in
set_option maxHeartbeats 400000 in
theorem t_M_unit_23 {Q : dr_RS → dr_AH → Prop} : ∀ (a1 : Nat) (x2 : Int32) (x3 : Int32) (x4 : Int32) (h : dr_AH), dr_p (f_M_unit_23 a1 x2 x3 x4 h) Q → dr_W mi_M_unit 2 27 23 [(0, .ref a1), (1, .int x2), (2, .int x3)] [.int x4] h Q := by
  intro a1 x2 x3 x4 h hp
  unfold f_M_unit_23 at hp
  refine wp_istore_n (l' := [(3, .int x4), (0, .ref a1), (1, .int x2), (2, .int x3)]) d_M_unit_23 (by decide) rfl ?_
  refine wp_aload_n d_M_unit_24 1 rfl ?_
  refine wp_iload_n d_M_unit_25 0 rfl ?_
  refine wp_iload_n d_M_unit_26 0 rfl ?_
  refine wp_if_eq (tgt := 52) d_M_unit_27 (by decide) hp (fun _ hp => ?_) (fun _ hp => ?_)
  · refine wp_iconst (v := 0) (by decide) d_M_unit_52 ?_
    refine wp_iconst (v := 1) (by decide) d_M_unit_53 ?_
    refine wp_k hp (fun hk hp => ?_)
    refine wp_ci (M' := mi_M_goes) (As := [.ref a1, .int x4, .int 0, .int 1]) (st := []) (fr' := 0) (wo' := 0) (dr_sV (A := [.int x4, .int 0, .int 1]) cl_M hk tw_737 tw_739 tp_16 co_M_goes ⟨by decide, by decide⟩ (by rfl) d_M_unit_54 rfl) co_M_goes (by decide +kernel) (by decide) (Nat.le_of_ble_eq_true rfl) (Nat.le_of_ble_eq_true rfl) (fun Q' hq => t_M_goes _ _ _ _ _ hq) hp (fun x6 h5 hp => ?_) (fun E q h3 hp => wx_out (by decide) hp)
    refine wp_if_eq (tgt := 67) d_M_unit_57 (by decide) hp (fun _ hp => ?_) (fun _ hp => ?_)
    · exact wp_return rfl d_M_unit_67 hp
    · refine wp_aload_n d_M_unit_60 1 rfl ?_
      refine wp_gr cl_M fl_M_72 (by decide) d_M_unit_61 hp (fun a7 hp => ?_) (fun hp => (dr_p0 hp).elim)
      refine wp_iload_n d_M_unit_64 3 rfl ?_
      refine wp_iload_n d_M_unit_65 2 rfl ?_
      refine wp_iastore d_M_unit_66 hp (fun h8 hp => ?_)
      exact wp_return rfl d_M_unit_67 hp
  · refine wp_aload_n d_M_unit_30 1 rfl ?_
    refine wp_gr cl_M fl_M_57 (by decide) d_M_unit_31 hp (fun a9 hp => ?_) (fun hp => (dr_p0 hp).elim)
    refine wp_iload_n d_M_unit_34 2 rfl ?_
    refine wp_zaload d_M_unit_35 hp (fun x10 hp => ?_)
    refine wp_if_ne (tgt := 52) d_M_unit_36 (by decide) hp (fun _ hp => ?_) (fun _ hp => ?_)
    · refine wp_iconst (v := 0) (by decide) d_M_unit_52 ?_
      refine wp_iconst (v := 1) (by decide) d_M_unit_53 ?_
      refine wp_k hp (fun hk hp => ?_)
      refine wp_ci (M' := mi_M_goes) (As := [.ref a1, .int x4, .int 0, .int 1]) (st := []) (fr' := 0) (wo' := 0) (dr_sV (A := [.int x4, .int 0, .int 1]) cl_M hk tw_737 tw_739 tp_16 co_M_goes ⟨by decide, by decide⟩ (by rfl) d_M_unit_54 rfl) co_M_goes (by decide +kernel) (by decide) (Nat.le_of_ble_eq_true rfl) (Nat.le_of_ble_eq_true rfl) (fun Q' hq => t_M_goes _ _ _ _ _ hq) hp (fun x12 h11 hp => ?_) (fun E q h3 hp => wx_out (by decide) hp)
      refine wp_if_eq (tgt := 67) d_M_unit_57 (by decide) hp (fun _ hp => ?_) (fun _ hp => ?_)
      · exact wp_return rfl d_M_unit_67 hp
      · refine wp_aload_n d_M_unit_60 1 rfl ?_
        refine wp_gr cl_M fl_M_72 (by decide) d_M_unit_61 hp (fun a13 hp => ?_) (fun hp => (dr_p0 hp).elim)
        refine wp_iload_n d_M_unit_64 3 rfl ?_
        refine wp_iload_n d_M_unit_65 2 rfl ?_
        refine wp_iastore d_M_unit_66 hp (fun h14 hp => ?_)
        exact wp_return rfl d_M_unit_67 hp
    · refine wp_aload_n d_M_unit_39 1 rfl ?_
      refine wp_gr cl_M fl_M_72 (by decide) d_M_unit_40 hp (fun a15 hp => ?_) (fun hp => (dr_p0 hp).elim)
      refine wp_iload_n d_M_unit_43 3 rfl ?_
      refine wp_iaload d_M_unit_44 hp (fun x16 hp => ?_)
      refine wp_if_ge (tgt := 52) d_M_unit_45 (by decide) hp (fun _ hp => ?_) (fun _ hp => ?_)
      · refine wp_iconst (v := 0) (by decide) d_M_unit_52 ?_
        refine wp_iconst (v := 1) (by decide) d_M_unit_53 ?_
        refine wp_k hp (fun hk hp => ?_)
        refine wp_ci (M' := mi_M_goes) (As := [.ref a1, .int x4, .int 0, .int 1]) (st := []) (fr' := 0) (wo' := 0) (dr_sV (A := [.int x4, .int 0, .int 1]) cl_M hk tw_737 tw_739 tp_16 co_M_goes ⟨by decide, by decide⟩ (by rfl) d_M_unit_54 rfl) co_M_goes (by decide +kernel) (by decide) (Nat.le_of_ble_eq_true rfl) (Nat.le_of_ble_eq_true rfl) (fun Q' hq => t_M_goes _ _ _ _ _ hq) hp (fun x18 h17 hp => ?_) (fun E q h3 hp => wx_out (by decide) hp)
        refine wp_if_eq (tgt := 67) d_M_unit_57 (by decide) hp (fun _ hp => ?_) (fun _ hp => ?_)
        · exact wp_return rfl d_M_unit_67 hp
        · refine wp_aload_n d_M_unit_60 1 rfl ?_
          refine wp_gr cl_M fl_M_72 (by decide) d_M_unit_61 hp (fun a19 hp => ?_) (fun hp => (dr_p0 hp).elim)
          refine wp_iload_n d_M_unit_64 3 rfl ?_
          refine wp_iload_n d_M_unit_65 2 rfl ?_
          refine wp_iastore d_M_unit_66 hp (fun h20 hp => ?_)
          exact wp_return rfl d_M_unit_67 hp
      · refine wp_iconst (v := 1) (by decide) d_M_unit_48 ?_
        refine wp_goto (tgt := 53) d_M_unit_49 (by decide) ?_
        refine wp_iconst (v := 1) (by decide) d_M_unit_53 ?_
        refine wp_k hp (fun hk hp => ?_)
        refine wp_ci (M' := mi_M_goes) (As := [.ref a1, .int x4, .int 1, .int 1]) (st := []) (fr' := 0) (wo' := 0) (dr_sV (A := [.int x4, .int 1, .int 1]) cl_M hk tw_737 tw_739 tp_16 co_M_goes ⟨by decide, by decide⟩ (by rfl) d_M_unit_54 rfl) co_M_goes (by decide +kernel) (by decide) (Nat.le_of_ble_eq_true rfl) (Nat.le_of_ble_eq_true rfl) (fun Q' hq => t_M_goes _ _ _ _ _ hq) hp (fun x22 h21 hp => ?_) (fun E q h3 hp => wx_out (by decide) hp)
        refine wp_if_eq (tgt := 67) d_M_unit_57 (by decide) hp (fun _ hp => ?_) (fun _ hp => ?_)
        · exact wp_return rfl d_M_unit_67 hp
        · refine wp_aload_n d_M_unit_60 1 rfl ?_
          refine wp_gr cl_M fl_M_72 (by decide) d_M_unit_61 hp (fun a23 hp => ?_) (fun hp => (dr_p0 hp).elim)
          refine wp_iload_n d_M_unit_64 3 rfl ?_
          refine wp_iload_n d_M_unit_65 2 rfl ?_
          refine wp_iastore d_M_unit_66 hp (fun h24 hp => ?_)
          exact wp_return rfl d_M_unit_67 hp
set_option maxRecDepth 100000 in
set_option maxHeartbeats 400000 in
theorem t_M_unit_22 {Q : dr_RS → dr_AH → Prop} : ∀ (a1 : Nat) (x2 : Int32) (x3 : Int32) (h : dr_AH), dr_p (f_M_unit_22 a1 x2 x3 h) Q → dr_W mi_M_unit 2 27 22 [(0, .ref a1), (1, .int x2), (2, .int x3)] [] h Q := by
  intro a1 x2 x3 h hp
  unfold f_M_unit_22 at hp
  refine wp_iconst (v := 0) (by decide) d_M_unit_22 ?_
  exact wp_sub [0, 1, 2] rfl (t_M_unit_23 _ _ _ _ _ hp)
set_option maxRecDepth 100000 in
set_option maxHeartbeats 400000 in
theorem t_M_unit {Q : dr_RS → dr_AH → Prop} : ∀ (a1 : Nat) (x2 : Int32) (x3 : Int32) (h : dr_AH), dr_p (f_M_unit a1 x2 x3 h) Q → dr_W mi_M_unit 2 27 0 [(0, .ref a1), (1, .int x2), (2, .int x3)] [] h Q := by
  intro a1 x2 x3 h hp
  unfold f_M_unit at hp
  refine wp_aload_n d_M_unit_0 0 rfl ?_
  refine wp_iload_n d_M_unit_1 1 rfl ?_
  refine wp_k hp (fun hk hp => ?_)
  refine wp_ci (M' := mi_M_isDrill) (As := [.ref a1, .int x2]) (st := []) (fr' := 1) (wo' := 14) (dr_sV (A := [.int x2]) cl_M hk tw_817 tw_819 tp_32 co_M_isDrill ⟨by decide, by decide⟩ (by rfl) d_M_unit_2 rfl) co_M_isDrill (by decide +kernel) (by decide) (Nat.le_of_ble_eq_true rfl) (Nat.le_of_ble_eq_true rfl) (fun Q' hq => t_M_isDrill _ _ _ hq) hp (fun x5 h4 hp => ?_) (fun E q h3 hp => wx_out (by decide) hp)
  refine wp_if_eq (tgt := 22) d_M_unit_5 (by decide) hp (fun _ hp => ?_) (fun _ hp => ?_)
  · exact wp_sub [0, 1, 2] rfl (t_M_unit_22 _ _ _ _ hp)
  · refine wp_iload_n d_M_unit_8 2 rfl ?_
    refine wp_iconst (v := 0) (by decide) d_M_unit_9 ?_
    refine wp_bipush (v := 19) (by decide) d_M_unit_10 ?_
    refine wp_ci (M' := mi_M_in) (As := [.int x3, .int 0, .int 19]) (st := []) (fr' := 0) (wo' := 0) (dr_sS (A := [.int x3, .int 0, .int 19]) tw_734 tw_735 tw_5 co_M_in ⟨by decide, by decide⟩ (by rfl) d_M_unit_12 rfl) co_M_in (by decide +kernel) (by decide) (Nat.le_of_ble_eq_true rfl) (Nat.le_of_ble_eq_true rfl) (fun Q' hq => t_M_in _ _ _ _ hq) hp (fun x7 h6 hp => ?_) (fun E q h3 hp => wx_out (by decide) hp)
    refine wp_if_eq (tgt := 22) d_M_unit_15 (by decide) hp (fun _ hp => ?_) (fun _ hp => ?_)
    · exact wp_sub [0, 1, 2] rfl (t_M_unit_22 _ _ _ _ hp)
    · refine wp_iconst (v := 1) (by decide) d_M_unit_18 ?_
      refine wp_goto (tgt := 23) d_M_unit_19 (by decide) ?_
      exact wp_sub [0, 1, 2] rfl (t_M_unit_23 _ _ _ _ _ hp)
def f_M_real (a1 : Nat) (x2 : Int32) (h : dr_AH) : Option (dr_RS × dr_AH) :=
  (dr_ci' (f_M_in x2 0 19 h) fun x4 h3 => (dr_k h3 a1 4 (dr_ci' (f_M_goes a1 x4 1 1 h3) fun x6 h5 => if x6 = 0 then some (.inl (some (.int 0)), h5) else (dr_gr' h5 4 a1 26 fun a7 => (dr_ai h5 a7 x2 fun x8 => (dr_gr' h5 4 a1 26 fun a9 => (dr_si h5 a9 x2 (-1) fun h10 => some (.inl (some (.int x8)), h10))))))))
set_option maxRecDepth 100000 in
set_option maxHeartbeats 400000 in
theorem t_M_real {Q : dr_RS → dr_AH → Prop} : ∀ (a1 : Nat) (x2 : Int32) (h : dr_AH), dr_p (f_M_real a1 x2 h) Q → dr_W mi_M_real 1 15 0 [(0, .ref a1), (1, .int x2)] [] h Q := by
  intro a1 x2 h hp
  unfold f_M_real at hp
  refine wp_aload_n d_M_real_0 0 rfl ?_
  refine wp_iload_n d_M_real_1 1 rfl ?_
  refine wp_iconst (v := 0) (by decide) d_M_real_2 ?_
  refine wp_bipush (v := 19) (by decide) d_M_real_3 ?_
  refine wp_ci (M' := mi_M_in) (As := [.int x2, .int 0, .int 19]) (st := [.ref a1]) (fr' := 0) (wo' := 0) (dr_sS (A := [.int x2, .int 0, .int 19]) tw_734 tw_735 tw_5 co_M_in ⟨by decide, by decide⟩ (by rfl) d_M_real_5 rfl) co_M_in (by decide +kernel) (by decide) (Nat.le_of_ble_eq_true rfl) (Nat.le_of_ble_eq_true rfl) (fun Q' hq => t_M_in _ _ _ _ hq) hp (fun x4 h3 hp => ?_) (fun E q h3 hp => wx_out (by decide) hp)
  refine wp_iconst (v := 1) (by decide) d_M_real_8 ?_
  refine wp_iconst (v := 1) (by decide) d_M_real_9 ?_
  refine wp_k hp (fun hk hp => ?_)
  refine wp_ci (M' := mi_M_goes) (As := [.ref a1, .int x4, .int 1, .int 1]) (st := []) (fr' := 0) (wo' := 0) (dr_sV (A := [.int x4, .int 1, .int 1]) cl_M hk tw_737 tw_739 tp_16 co_M_goes ⟨by decide, by decide⟩ (by rfl) d_M_real_10 rfl) co_M_goes (by decide +kernel) (by decide) (Nat.le_of_ble_eq_true rfl) (Nat.le_of_ble_eq_true rfl) (fun Q' hq => t_M_goes _ _ _ _ _ hq) hp (fun x6 h5 hp => ?_) (fun E q h3 hp => wx_out (by decide) hp)
  refine wp_if_ne (tgt := 18) d_M_real_13 (by decide) hp (fun _ hp => ?_) (fun _ hp => ?_)
  · refine wp_aload_n d_M_real_18 0 rfl ?_
    refine wp_gr cl_M fl_M_72 (by decide) d_M_real_19 hp (fun a7 hp => ?_) (fun hp => (dr_p0 hp).elim)
    refine wp_iload_n d_M_real_22 1 rfl ?_
    refine wp_iaload d_M_real_23 hp (fun x8 hp => ?_)
    refine wp_istore_n (l' := [(2, .int x8), (0, .ref a1), (1, .int x2)]) d_M_real_24 (by decide) rfl ?_
    refine wp_aload_n d_M_real_25 1 rfl ?_
    refine wp_gr cl_M fl_M_72 (by decide) d_M_real_26 hp (fun a9 hp => ?_) (fun hp => (dr_p0 hp).elim)
    refine wp_iload_n d_M_real_29 2 rfl ?_
    refine wp_iconst (v := (-1)) (by decide) d_M_real_30 ?_
    refine wp_iastore d_M_real_31 hp (fun h10 hp => ?_)
    refine wp_iload_n d_M_real_32 0 rfl ?_
    exact wp_ireturn rfl rfl d_M_real_33 hp
  · refine wp_iconst (v := 0) (by decide) d_M_real_16 ?_
    exact wp_ireturn rfl rfl d_M_real_17 hp
def f_M_does (a1 : Nat) (x2 : Int32) (x3 : Int32) (h : dr_AH) : Option (dr_RS × dr_AH) :=
  (dr_gr' h 4 a1 24 fun a4 => (dr_gr' h 4 a1 23 fun a5 => (dr_ai h a5 x2 fun x6 => (dr_si h a4 ((x2 * 60) + x6) x3 fun h7 => (dr_gr' h7 4 a1 25 fun a8 => (dr_gr' h7 4 a1 23 fun a9 => (dr_ai h7 a9 x2 fun x10 => (dr_k h7 a1 4 (dr_ci' (f_M_relative a1 x2 h7) fun x12 h11 => (dr_si h11 a8 ((x2 * 60) + x10) x12 fun h13 => (dr_gr' h13 4 a1 23 fun a14 => (dr_ai h13 a14 x2 fun x15 => (dr_si h13 a14 x2 (x15 + 1) fun h16 => (dr_k h16 a1 4 (dr_ci' (f_M_look a1 x2 h16) fun x18 h17 => some (.inl (some (.int x18)), h17))))))))))))))))
set_option maxRecDepth 100000 in
set_option maxHeartbeats 400000 in
theorem t_M_does {Q : dr_RS → dr_AH → Prop} : ∀ (a1 : Nat) (x2 : Int32) (x3 : Int32) (h : dr_AH), dr_p (f_M_does a1 x2 x3 h) Q → dr_W mi_M_does 3 48 0 [(0, .ref a1), (1, .int x2), (2, .int x3)] [] h Q := by
  intro a1 x2 x3 h hp
  unfold f_M_does at hp
  refine wp_aload_n d_M_does_0 0 rfl ?_
  refine wp_gr cl_M fl_M_66 (by decide) d_M_does_1 hp (fun a4 hp => ?_) (fun hp => (dr_p0 hp).elim)
  refine wp_iload_n d_M_does_4 1 rfl ?_
  refine wp_bipush (v := 60) (by decide) d_M_does_5 ?_
  refine wp_imul d_M_does_7 ?_
  refine wp_aload_n d_M_does_8 0 rfl ?_
  refine wp_gr cl_M fl_M_63 (by decide) d_M_does_9 hp (fun a5 hp => ?_) (fun hp => (dr_p0 hp).elim)
  refine wp_iload_n d_M_does_12 1 rfl ?_
  refine wp_iaload d_M_does_13 hp (fun x6 hp => ?_)
  refine wp_iadd d_M_does_14 ?_
  refine wp_iload_n d_M_does_15 2 rfl ?_
  refine wp_iastore d_M_does_16 hp (fun h7 hp => ?_)
  refine wp_aload_n d_M_does_17 0 rfl ?_
  refine wp_gr cl_M fl_M_69 (by decide) d_M_does_18 hp (fun a8 hp => ?_) (fun hp => (dr_p0 hp).elim)
  refine wp_iload_n d_M_does_21 1 rfl ?_
  refine wp_bipush (v := 60) (by decide) d_M_does_22 ?_
  refine wp_imul d_M_does_24 ?_
  refine wp_aload_n d_M_does_25 0 rfl ?_
  refine wp_gr cl_M fl_M_63 (by decide) d_M_does_26 hp (fun a9 hp => ?_) (fun hp => (dr_p0 hp).elim)
  refine wp_iload_n d_M_does_29 1 rfl ?_
  refine wp_iaload d_M_does_30 hp (fun x10 hp => ?_)
  refine wp_iadd d_M_does_31 ?_
  refine wp_aload_n d_M_does_32 0 rfl ?_
  refine wp_iload_n d_M_does_33 1 rfl ?_
  refine wp_k hp (fun hk hp => ?_)
  refine wp_ci (M' := mi_M_relative) (As := [.ref a1, .int x2]) (st := [.int ((x2 * 60) + x10), .ref a8]) (fr' := 0) (wo' := 0) (dr_sV (A := [.int x2]) cl_M hk tw_805 tw_807 tp_30 co_M_relative ⟨by decide, by decide⟩ (by rfl) d_M_does_34 rfl) co_M_relative (by decide +kernel) (by decide) (Nat.le_of_ble_eq_true rfl) (Nat.le_of_ble_eq_true rfl) (fun Q' hq => t_M_relative _ _ _ hq) hp (fun x12 h11 hp => ?_) (fun E q h3 hp => wx_out (by decide) hp)
  refine wp_iastore d_M_does_37 hp (fun h13 hp => ?_)
  refine wp_aload_n d_M_does_38 0 rfl ?_
  refine wp_gr cl_M fl_M_63 (by decide) d_M_does_39 hp (fun a14 hp => ?_) (fun hp => (dr_p0 hp).elim)
  refine wp_iload_n d_M_does_42 1 rfl ?_
  refine wp_dup2 rfl rfl d_M_does_43 ?_
  refine wp_iaload d_M_does_44 hp (fun x15 hp => ?_)
  refine wp_iconst (v := 1) (by decide) d_M_does_45 ?_
  refine wp_iadd d_M_does_46 ?_
  refine wp_iastore d_M_does_47 hp (fun h16 hp => ?_)
  refine wp_aload_n d_M_does_48 0 rfl ?_
  refine wp_iload_n d_M_does_49 1 rfl ?_
  refine wp_k hp (fun hk hp => ?_)
  refine wp_ci (M' := mi_M_look) (As := [.ref a1, .int x2]) (st := []) (fr' := 2) (wo' := 32) (dr_sV (A := [.int x2]) cl_M hk tw_797 tw_799 tp_28 co_M_look ⟨by decide, by decide⟩ (by rfl) d_M_does_50 rfl) co_M_look (by decide +kernel) (by decide) (Nat.le_of_ble_eq_true rfl) (Nat.le_of_ble_eq_true rfl) (fun Q' hq => t_M_look _ _ _ hq) hp (fun x18 h17 hp => ?_) (fun E q h3 hp => wx_out (by decide) hp)
  exact wp_ireturn rfl rfl d_M_does_53 hp
def f_M_act_64 (a1 : Nat) (x2 : Int32) (x3 : Int32) (x4 : Int32) (x5 : Int32) (x6 : Int32) (a7 : Nat) (h : dr_AH) : Option (dr_RS × dr_AH) :=
  (dr_k h a7 4 (dr_ci' (f_M_goes a7 x6 x5 x4 h) fun x9 h8 => if x9 = 0 then some (.inl (some (.int 0)), h8) else (dr_k h8 a1 4 (dr_ci' (f_M_does a1 x2 x3 h8) fun x11 h10 => some (.inl (some (.int x11)), h10)))))
def f_M_act_63 (a1 : Nat) (x2 : Int32) (x3 : Int32) (x4 : Int32) (x5 : Int32) (a6 : Nat) (h : dr_AH) : Option (dr_RS × dr_AH) :=
  f_M_act_64 a1 x2 x3 0 x4 x5 a6 h
def f_M_act_44 (a1 : Nat) (x2 : Int32) (x3 : Int32) (x4 : Int32) (x5 : Int32) (x6 : Int32) (a7 : Nat) (h : dr_AH) : Option (dr_RS × dr_AH) :=
  if x4 = 0 then f_M_act_63 a1 x2 x3 x5 x6 a7 h else (dr_gr' h 4 a1 23 fun a8 => (dr_ai h a8 x2 fun x9 => if 60 ≤ x9 then f_M_act_63 a1 x2 x3 x5 x6 a7 h else f_M_act_64 a1 x2 x3 1 x5 x6 a7 h))
def f_M_act_43 (a1 : Nat) (x2 : Int32) (x3 : Int32) (x4 : Int32) (x5 : Int32) (a6 : Nat) (h : dr_AH) : Option (dr_RS × dr_AH) :=
  f_M_act_44 a1 x2 x3 x4 0 x5 a6 h
def f_M_act_23 (a1 : Nat) (x2 : Int32) (x3 : Int32) (x4 : Int32) (h : dr_AH) : Option (dr_RS × dr_AH) :=
  if x4 = 0 then f_M_act_43 a1 x2 x3 x4 x4 a1 h else (dr_gr' h 4 a1 21 fun a5 => (dr_az h a5 x2 fun x6 => if x6 = 0 then f_M_act_44 a1 x2 x3 x4 1 x4 a1 h else f_M_act_43 a1 x2 x3 x4 x4 a1 h))
def f_M_act_22 (a1 : Nat) (x2 : Int32) (x3 : Int32) (h : dr_AH) : Option (dr_RS × dr_AH) :=
  f_M_act_23 a1 x2 x3 0 h
def f_M_act (a1 : Nat) (x2 : Int32) (x3 : Int32) (h : dr_AH) : Option (dr_RS × dr_AH) :=
  (dr_k h a1 4 (dr_ci' (f_M_isDrill a1 x2 h) fun x5 h4 => if x5 = 0 then f_M_act_22 a1 x2 x3 h4 else (dr_ci' (f_M_in x3 0 19 h4) fun x7 h6 => if x7 = 0 then f_M_act_22 a1 x2 x3 h6 else f_M_act_23 a1 x2 x3 1 h6)))
set_option maxRecDepth 100000 in
set_option maxHeartbeats 400000 in
theorem t_M_act_64 {Q : dr_RS → dr_AH → Prop} : ∀ (a1 : Nat) (x2 : Int32) (x3 : Int32) (x4 : Int32) (x5 : Int32) (x6 : Int32) (a7 : Nat) (h : dr_AH), dr_p (f_M_act_64 a1 x2 x3 x4 x5 x6 a7 h) Q → dr_W mi_M_act 4 62 64 [(0, .ref a1), (1, .int x2), (2, .int x3)] [.int x4, .int x5, .int x6, .ref a7] h Q := by
  intro a1 x2 x3 x4 x5 x6 a7 h hp
  unfold f_M_act_64 at hp
  refine wp_k hp (fun hk hp => ?_)
  refine wp_ci (M' := mi_M_goes) (As := [.ref a7, .int x6, .int x5, .int x4]) (st := []) (fr' := 0) (wo' := 0) (dr_sV (A := [.int x6, .int x5, .int x4]) cl_M hk tw_737 tw_739 tp_16 co_M_goes ⟨by decide, by decide⟩ (by rfl) d_M_act_64 rfl) co_M_goes (by decide +kernel) (by decide) (Nat.le_of_ble_eq_true rfl) (Nat.le_of_ble_eq_true rfl) (fun Q' hq => t_M_goes _ _ _ _ _ hq) hp (fun x9 h8 hp => ?_) (fun E q h3 hp => wx_out (by decide) hp)
  refine wp_if_ne (tgt := 72) d_M_act_67 (by decide) hp (fun _ hp => ?_) (fun _ hp => ?_)
  · refine wp_aload_n d_M_act_72 0 rfl ?_
    refine wp_iload_n d_M_act_73 1 rfl ?_
    refine wp_iload_n d_M_act_74 2 rfl ?_
    refine wp_k hp (fun hk hp => ?_)
    refine wp_ci (M' := mi_M_does) (As := [.ref a1, .int x2, .int x3]) (st := []) (fr' := 3) (wo' := 48) (dr_sV (A := [.int x2, .int x3]) cl_M hk tw_833 tw_835 tp_33 co_M_does ⟨by decide, by decide⟩ (by rfl) d_M_act_75 rfl) co_M_does (by decide +kernel) (by decide) (Nat.le_of_ble_eq_true rfl) (Nat.le_of_ble_eq_true rfl) (fun Q' hq => t_M_does _ _ _ _ hq) hp (fun x11 h10 hp => ?_) (fun E q h3 hp => wx_out (by decide) hp)
    exact wp_ireturn rfl rfl d_M_act_78 hp
  · refine wp_iconst (v := 0) (by decide) d_M_act_70 ?_
    exact wp_ireturn rfl rfl d_M_act_71 hp
set_option maxRecDepth 100000 in
set_option maxHeartbeats 400000 in
theorem t_M_act_63 {Q : dr_RS → dr_AH → Prop} : ∀ (a1 : Nat) (x2 : Int32) (x3 : Int32) (x4 : Int32) (x5 : Int32) (a6 : Nat) (h : dr_AH), dr_p (f_M_act_63 a1 x2 x3 x4 x5 a6 h) Q → dr_W mi_M_act 4 62 63 [(0, .ref a1), (1, .int x2), (2, .int x3)] [.int x4, .int x5, .ref a6] h Q := by
  intro a1 x2 x3 x4 x5 a6 h hp
  unfold f_M_act_63 at hp
  refine wp_iconst (v := 0) (by decide) d_M_act_63 ?_
  exact wp_sub [0, 1, 2] rfl (t_M_act_64 _ _ _ _ _ _ _ _ hp)
set_option maxRecDepth 100000 in
set_option maxHeartbeats 400000 in
theorem t_M_act_44 {Q : dr_RS → dr_AH → Prop} : ∀ (a1 : Nat) (x2 : Int32) (x3 : Int32) (x4 : Int32) (x5 : Int32) (x6 : Int32) (a7 : Nat) (h : dr_AH), dr_p (f_M_act_44 a1 x2 x3 x4 x5 x6 a7 h) Q → dr_W mi_M_act 4 62 44 [(0, .ref a1), (1, .int x2), (2, .int x3), (3, .int x4)] [.int x5, .int x6, .ref a7] h Q := by
  intro a1 x2 x3 x4 x5 x6 a7 h hp
  unfold f_M_act_44 at hp
  refine wp_iload_n d_M_act_44 3 rfl ?_
  refine wp_if_eq (tgt := 63) d_M_act_45 (by decide) hp (fun _ hp => ?_) (fun _ hp => ?_)
  · exact wp_sub [0, 1, 2] rfl (t_M_act_63 _ _ _ _ _ _ _ hp)
  · refine wp_aload_n d_M_act_48 0 rfl ?_
    refine wp_gr cl_M fl_M_63 (by decide) d_M_act_49 hp (fun a8 hp => ?_) (fun hp => (dr_p0 hp).elim)
    refine wp_iload_n d_M_act_52 1 rfl ?_
    refine wp_iaload d_M_act_53 hp (fun x9 hp => ?_)
    refine wp_bipush (v := 60) (by decide) d_M_act_54 ?_
    refine wp_icmp_ge (tgt := 63) d_M_act_56 (by decide) hp (fun _ hp => ?_) (fun _ hp => ?_)
    · exact wp_sub [0, 1, 2] rfl (t_M_act_63 _ _ _ _ _ _ _ hp)
    · refine wp_iconst (v := 1) (by decide) d_M_act_59 ?_
      refine wp_goto (tgt := 64) d_M_act_60 (by decide) ?_
      exact wp_sub [0, 1, 2] rfl (t_M_act_64 _ _ _ _ _ _ _ _ hp)
set_option maxRecDepth 100000 in
set_option maxHeartbeats 400000 in
theorem t_M_act_43 {Q : dr_RS → dr_AH → Prop} : ∀ (a1 : Nat) (x2 : Int32) (x3 : Int32) (x4 : Int32) (x5 : Int32) (a6 : Nat) (h : dr_AH), dr_p (f_M_act_43 a1 x2 x3 x4 x5 a6 h) Q → dr_W mi_M_act 4 62 43 [(0, .ref a1), (1, .int x2), (2, .int x3), (3, .int x4)] [.int x5, .ref a6] h Q := by
  intro a1 x2 x3 x4 x5 a6 h hp
  unfold f_M_act_43 at hp
  refine wp_iconst (v := 0) (by decide) d_M_act_43 ?_
  exact wp_sub [0, 1, 2, 3] rfl (t_M_act_44 _ _ _ _ _ _ _ _ hp)
set_option maxRecDepth 100000 in
set_option maxHeartbeats 400000 in
theorem t_M_act_23 {Q : dr_RS → dr_AH → Prop} : ∀ (a1 : Nat) (x2 : Int32) (x3 : Int32) (x4 : Int32) (h : dr_AH), dr_p (f_M_act_23 a1 x2 x3 x4 h) Q → dr_W mi_M_act 4 62 23 [(0, .ref a1), (1, .int x2), (2, .int x3)] [.int x4] h Q := by
  intro a1 x2 x3 x4 h hp
  unfold f_M_act_23 at hp
  refine wp_istore_n (l' := [(3, .int x4), (0, .ref a1), (1, .int x2), (2, .int x3)]) d_M_act_23 (by decide) rfl ?_
  refine wp_aload_n d_M_act_24 1 rfl ?_
  refine wp_iload_n d_M_act_25 0 rfl ?_
  refine wp_iload_n d_M_act_26 0 rfl ?_
  refine wp_if_eq (tgt := 43) d_M_act_27 (by decide) hp (fun _ hp => ?_) (fun _ hp => ?_)
  · exact wp_sub [1, 2, 3, 0] rfl (t_M_act_43 _ _ _ _ _ _ _ hp)
  · refine wp_aload_n d_M_act_30 1 rfl ?_
    refine wp_gr cl_M fl_M_57 (by decide) d_M_act_31 hp (fun a5 hp => ?_) (fun hp => (dr_p0 hp).elim)
    refine wp_iload_n d_M_act_34 2 rfl ?_
    refine wp_zaload d_M_act_35 hp (fun x6 hp => ?_)
    refine wp_if_ne (tgt := 43) d_M_act_36 (by decide) hp (fun _ hp => ?_) (fun _ hp => ?_)
    · exact wp_sub [1, 2, 3, 0] rfl (t_M_act_43 _ _ _ _ _ _ _ hp)
    · refine wp_iconst (v := 1) (by decide) d_M_act_39 ?_
      refine wp_goto (tgt := 44) d_M_act_40 (by decide) ?_
      exact wp_sub [1, 2, 3, 0] rfl (t_M_act_44 _ _ _ _ _ _ _ _ hp)
set_option maxRecDepth 100000 in
set_option maxHeartbeats 400000 in
theorem t_M_act_22 {Q : dr_RS → dr_AH → Prop} : ∀ (a1 : Nat) (x2 : Int32) (x3 : Int32) (h : dr_AH), dr_p (f_M_act_22 a1 x2 x3 h) Q → dr_W mi_M_act 4 62 22 [(0, .ref a1), (1, .int x2), (2, .int x3)] [] h Q := by
  intro a1 x2 x3 h hp
  unfold f_M_act_22 at hp
  refine wp_iconst (v := 0) (by decide) d_M_act_22 ?_
  exact wp_sub [0, 1, 2] rfl (t_M_act_23 _ _ _ _ _ hp)
set_option maxRecDepth 100000 in
set_option maxHeartbeats 400000 in
theorem t_M_act {Q : dr_RS → dr_AH → Prop} : ∀ (a1 : Nat) (x2 : Int32) (x3 : Int32) (h : dr_AH), dr_p (f_M_act a1 x2 x3 h) Q → dr_W mi_M_act 4 62 0 [(0, .ref a1), (1, .int x2), (2, .int x3)] [] h Q := by
  intro a1 x2 x3 h hp
  unfold f_M_act at hp
  refine wp_aload_n d_M_act_0 0 rfl ?_
  refine wp_iload_n d_M_act_1 1 rfl ?_
  refine wp_k hp (fun hk hp => ?_)
  refine wp_ci (M' := mi_M_isDrill) (As := [.ref a1, .int x2]) (st := []) (fr' := 1) (wo' := 14) (dr_sV (A := [.int x2]) cl_M hk tw_817 tw_819 tp_32 co_M_isDrill ⟨by decide, by decide⟩ (by rfl) d_M_act_2 rfl) co_M_isDrill (by decide +kernel) (by decide) (Nat.le_of_ble_eq_true rfl) (Nat.le_of_ble_eq_true rfl) (fun Q' hq => t_M_isDrill _ _ _ hq) hp (fun x5 h4 hp => ?_) (fun E q h3 hp => wx_out (by decide) hp)
  refine wp_if_eq (tgt := 22) d_M_act_5 (by decide) hp (fun _ hp => ?_) (fun _ hp => ?_)
  · exact wp_sub [0, 1, 2] rfl (t_M_act_22 _ _ _ _ hp)
  · refine wp_iload_n d_M_act_8 2 rfl ?_
    refine wp_iconst (v := 0) (by decide) d_M_act_9 ?_
    refine wp_bipush (v := 19) (by decide) d_M_act_10 ?_
    refine wp_ci (M' := mi_M_in) (As := [.int x3, .int 0, .int 19]) (st := []) (fr' := 0) (wo' := 0) (dr_sS (A := [.int x3, .int 0, .int 19]) tw_734 tw_735 tw_5 co_M_in ⟨by decide, by decide⟩ (by rfl) d_M_act_12 rfl) co_M_in (by decide +kernel) (by decide) (Nat.le_of_ble_eq_true rfl) (Nat.le_of_ble_eq_true rfl) (fun Q' hq => t_M_in _ _ _ _ hq) hp (fun x7 h6 hp => ?_) (fun E q h3 hp => wx_out (by decide) hp)
    refine wp_if_eq (tgt := 22) d_M_act_15 (by decide) hp (fun _ hp => ?_) (fun _ hp => ?_)
    · exact wp_sub [0, 1, 2] rfl (t_M_act_22 _ _ _ _ hp)
    · refine wp_iconst (v := 1) (by decide) d_M_act_18 ?_
      refine wp_goto (tgt := 23) d_M_act_19 (by decide) ?_
      exact wp_sub [0, 1, 2] rfl (t_M_act_23 _ _ _ _ _ hp)
def f_M_play_46 (a1 : Nat) (x2 : Int32) (x3 : Int32) (x4 : Int32) (x5 : Int32) (x6 : Int32) (a7 : Nat) (h : dr_AH) : Option (dr_RS × dr_AH) :=
  (dr_k h a7 4 (dr_ci' (f_M_goes a7 x6 x5 x4 h) fun x9 h8 => if x9 = 0 then some (.inl (some (.int 0)), h8) else (if (20 : Int32) = 0 then none else (dr_k h8 a1 4 (dr_ci' (f_M_does a1 x2 ((dr_ushr ((x3 * 1103515245) + 12345) 16) - (dr_ushr ((x3 * 1103515245) + 12345) 16) / 20 * 20) h8) fun x11 h10 => some (.inl (some (.int x11)), h10))))))
def f_M_play_45 (a1 : Nat) (x2 : Int32) (x3 : Int32) (x4 : Int32) (x5 : Int32) (a6 : Nat) (h : dr_AH) : Option (dr_RS × dr_AH) :=
  f_M_play_46 a1 x2 x3 0 x4 x5 a6 h
def f_M_play_26 (a1 : Nat) (x2 : Int32) (x3 : Int32) (x4 : Int32) (x5 : Int32) (x6 : Int32) (a7 : Nat) (h : dr_AH) : Option (dr_RS × dr_AH) :=
  if x4 = 0 then f_M_play_45 a1 x2 x3 x5 x6 a7 h else (dr_gr' h 4 a1 23 fun a8 => (dr_ai h a8 x2 fun x9 => if 60 ≤ x9 then f_M_play_45 a1 x2 x3 x5 x6 a7 h else f_M_play_46 a1 x2 x3 1 x5 x6 a7 h))
def f_M_play_25 (a1 : Nat) (x2 : Int32) (x3 : Int32) (x4 : Int32) (x5 : Int32) (a6 : Nat) (h : dr_AH) : Option (dr_RS × dr_AH) :=
  f_M_play_26 a1 x2 x3 x4 0 x5 a6 h
def f_M_play (a1 : Nat) (x2 : Int32) (x3 : Int32) (h : dr_AH) : Option (dr_RS × dr_AH) :=
  (dr_k h a1 4 (dr_ci' (f_M_isDrill a1 x2 h) fun x5 h4 => if x5 = 0 then f_M_play_25 a1 x2 x3 x5 x5 a1 h4 else (dr_gr' h4 4 a1 21 fun a6 => (dr_az h4 a6 x2 fun x7 => if x7 = 0 then f_M_play_26 a1 x2 x3 x5 1 x5 a1 h4 else f_M_play_25 a1 x2 x3 x5 x5 a1 h4))))
set_option maxRecDepth 100000 in
set_option maxHeartbeats 400000 in
theorem t_M_play_46 {Q : dr_RS → dr_AH → Prop} : ∀ (a1 : Nat) (x2 : Int32) (x3 : Int32) (x4 : Int32) (x5 : Int32) (x6 : Int32) (a7 : Nat) (h : dr_AH), dr_p (f_M_play_46 a1 x2 x3 x4 x5 x6 a7 h) Q → dr_W mi_M_play 4 62 46 [(0, .ref a1), (1, .int x2), (2, .int x3)] [.int x4, .int x5, .int x6, .ref a7] h Q := by
  intro a1 x2 x3 x4 x5 x6 a7 h hp
  unfold f_M_play_46 at hp
  refine wp_k hp (fun hk hp => ?_)
  refine wp_ci (M' := mi_M_goes) (As := [.ref a7, .int x6, .int x5, .int x4]) (st := []) (fr' := 0) (wo' := 0) (dr_sV (A := [.int x6, .int x5, .int x4]) cl_M hk tw_737 tw_739 tp_16 co_M_goes ⟨by decide, by decide⟩ (by rfl) d_M_play_46 rfl) co_M_goes (by decide +kernel) (by decide) (Nat.le_of_ble_eq_true rfl) (Nat.le_of_ble_eq_true rfl) (fun Q' hq => t_M_goes _ _ _ _ _ hq) hp (fun x9 h8 hp => ?_) (fun E q h3 hp => wx_out (by decide) hp)
  refine wp_if_ne (tgt := 54) d_M_play_49 (by decide) hp (fun _ hp => ?_) (fun _ hp => ?_)
  · refine wp_iload_n d_M_play_54 2 rfl ?_
    refine wp_ldc (v := 1103515245) tw_841 d_M_play_55 ?_
    refine wp_imul d_M_play_57 ?_
    refine wp_sipush (v := 12345) (by decide) d_M_play_58 ?_
    refine wp_iadd d_M_play_61 ?_
    refine wp_istore (l' := [(4, .int ((x3 * 1103515245) + 12345)), (0, .ref a1), (1, .int x2), (2, .int x3)]) d_M_play_62 (by decide) rfl ?_
    refine wp_aload_n d_M_play_64 1 rfl ?_
    refine wp_iload_n d_M_play_65 2 rfl ?_
    refine wp_iload d_M_play_66 0 rfl ?_
    refine wp_bipush (v := 16) (by decide) d_M_play_68 ?_
    refine wp_iushr (v := (dr_ushr ((x3 * 1103515245) + 12345) 16)) rfl d_M_play_70 ?_
    refine wp_bipush (v := 20) (by decide) d_M_play_71 ?_
    refine wp_irem d_M_play_73 hp (fun _ hp => ?_)
    refine wp_k hp (fun hk hp => ?_)
    refine wp_ci (M' := mi_M_does) (As := [.ref a1, .int x2, .int ((dr_ushr ((x3 * 1103515245) + 12345) 16) - (dr_ushr ((x3 * 1103515245) + 12345) 16) / 20 * 20)]) (st := []) (fr' := 3) (wo' := 48) (dr_sV (A := [.int x2, .int ((dr_ushr ((x3 * 1103515245) + 12345) 16) - (dr_ushr ((x3 * 1103515245) + 12345) 16) / 20 * 20)]) cl_M hk tw_833 tw_835 tp_33 co_M_does ⟨by decide, by decide⟩ (by rfl) d_M_play_74 rfl) co_M_does (by decide +kernel) (by decide) (Nat.le_of_ble_eq_true rfl) (Nat.le_of_ble_eq_true rfl) (fun Q' hq => t_M_does _ _ _ _ hq) hp (fun x11 h10 hp => ?_) (fun E q h3 hp => wx_out (by decide) hp)
    exact wp_ireturn rfl rfl d_M_play_77 hp
  · refine wp_iconst (v := 0) (by decide) d_M_play_52 ?_
    exact wp_ireturn rfl rfl d_M_play_53 hp
set_option maxRecDepth 100000 in
set_option maxHeartbeats 400000 in
theorem t_M_play_45 {Q : dr_RS → dr_AH → Prop} : ∀ (a1 : Nat) (x2 : Int32) (x3 : Int32) (x4 : Int32) (x5 : Int32) (a6 : Nat) (h : dr_AH), dr_p (f_M_play_45 a1 x2 x3 x4 x5 a6 h) Q → dr_W mi_M_play 4 62 45 [(0, .ref a1), (1, .int x2), (2, .int x3)] [.int x4, .int x5, .ref a6] h Q := by
  intro a1 x2 x3 x4 x5 a6 h hp
  unfold f_M_play_45 at hp
  refine wp_iconst (v := 0) (by decide) d_M_play_45 ?_
  exact wp_sub [0, 1, 2] rfl (t_M_play_46 _ _ _ _ _ _ _ _ hp)
set_option maxRecDepth 100000 in
set_option maxHeartbeats 400000 in
theorem t_M_play_26 {Q : dr_RS → dr_AH → Prop} : ∀ (a1 : Nat) (x2 : Int32) (x3 : Int32) (x4 : Int32) (x5 : Int32) (x6 : Int32) (a7 : Nat) (h : dr_AH), dr_p (f_M_play_26 a1 x2 x3 x4 x5 x6 a7 h) Q → dr_W mi_M_play 4 62 26 [(0, .ref a1), (1, .int x2), (2, .int x3), (3, .int x4)] [.int x5, .int x6, .ref a7] h Q := by
  intro a1 x2 x3 x4 x5 x6 a7 h hp
  unfold f_M_play_26 at hp
  refine wp_iload_n d_M_play_26 3 rfl ?_
  refine wp_if_eq (tgt := 45) d_M_play_27 (by decide) hp (fun _ hp => ?_) (fun _ hp => ?_)
  · exact wp_sub [0, 1, 2] rfl (t_M_play_45 _ _ _ _ _ _ _ hp)
  · refine wp_aload_n d_M_play_30 0 rfl ?_
    refine wp_gr cl_M fl_M_63 (by decide) d_M_play_31 hp (fun a8 hp => ?_) (fun hp => (dr_p0 hp).elim)
    refine wp_iload_n d_M_play_34 1 rfl ?_
    refine wp_iaload d_M_play_35 hp (fun x9 hp => ?_)
    refine wp_bipush (v := 60) (by decide) d_M_play_36 ?_
    refine wp_icmp_ge (tgt := 45) d_M_play_38 (by decide) hp (fun _ hp => ?_) (fun _ hp => ?_)
    · exact wp_sub [0, 1, 2] rfl (t_M_play_45 _ _ _ _ _ _ _ hp)
    · refine wp_iconst (v := 1) (by decide) d_M_play_41 ?_
      refine wp_goto (tgt := 46) d_M_play_42 (by decide) ?_
      exact wp_sub [0, 1, 2] rfl (t_M_play_46 _ _ _ _ _ _ _ _ hp)
set_option maxRecDepth 100000 in
set_option maxHeartbeats 400000 in
theorem t_M_play_25 {Q : dr_RS → dr_AH → Prop} : ∀ (a1 : Nat) (x2 : Int32) (x3 : Int32) (x4 : Int32) (x5 : Int32) (a6 : Nat) (h : dr_AH), dr_p (f_M_play_25 a1 x2 x3 x4 x5 a6 h) Q → dr_W mi_M_play 4 62 25 [(0, .ref a1), (1, .int x2), (2, .int x3), (3, .int x4)] [.int x5, .ref a6] h Q := by
  intro a1 x2 x3 x4 x5 a6 h hp
  unfold f_M_play_25 at hp
  refine wp_iconst (v := 0) (by decide) d_M_play_25 ?_
  exact wp_sub [0, 1, 2, 3] rfl (t_M_play_26 _ _ _ _ _ _ _ _ hp)
set_option maxRecDepth 100000 in
set_option maxHeartbeats 400000 in
theorem t_M_play {Q : dr_RS → dr_AH → Prop} : ∀ (a1 : Nat) (x2 : Int32) (x3 : Int32) (h : dr_AH), dr_p (f_M_play a1 x2 x3 h) Q → dr_W mi_M_play 4 62 0 [(0, .ref a1), (1, .int x2), (2, .int x3)] [] h Q := by
  intro a1 x2 x3 h hp
  unfold f_M_play at hp
  refine wp_aload_n d_M_play_0 0 rfl ?_
  refine wp_iload_n d_M_play_1 1 rfl ?_
  refine wp_k hp (fun hk hp => ?_)
  refine wp_ci (M' := mi_M_isDrill) (As := [.ref a1, .int x2]) (st := []) (fr' := 1) (wo' := 14) (dr_sV (A := [.int x2]) cl_M hk tw_817 tw_819 tp_32 co_M_isDrill ⟨by decide, by decide⟩ (by rfl) d_M_play_2 rfl) co_M_isDrill (by decide +kernel) (by decide) (Nat.le_of_ble_eq_true rfl) (Nat.le_of_ble_eq_true rfl) (fun Q' hq => t_M_isDrill _ _ _ hq) hp (fun x5 h4 hp => ?_) (fun E q h3 hp => wx_out (by decide) hp)
  refine wp_istore_n (l' := [(3, .int x5), (0, .ref a1), (1, .int x2), (2, .int x3)]) d_M_play_5 (by decide) rfl ?_
  refine wp_aload_n d_M_play_6 1 rfl ?_
  refine wp_iload_n d_M_play_7 0 rfl ?_
  refine wp_iload_n d_M_play_8 0 rfl ?_
  refine wp_if_eq (tgt := 25) d_M_play_9 (by decide) hp (fun _ hp => ?_) (fun _ hp => ?_)
  · exact wp_sub [1, 2, 3, 0] rfl (t_M_play_25 _ _ _ _ _ _ _ hp)
  · refine wp_aload_n d_M_play_12 1 rfl ?_
    refine wp_gr cl_M fl_M_57 (by decide) d_M_play_13 hp (fun a6 hp => ?_) (fun hp => (dr_p0 hp).elim)
    refine wp_iload_n d_M_play_16 2 rfl ?_
    refine wp_zaload d_M_play_17 hp (fun x7 hp => ?_)
    refine wp_if_ne (tgt := 25) d_M_play_18 (by decide) hp (fun _ hp => ?_) (fun _ hp => ?_)
    · exact wp_sub [1, 2, 3, 0] rfl (t_M_play_25 _ _ _ _ _ _ _ hp)
    · refine wp_iconst (v := 1) (by decide) d_M_play_21 ?_
      refine wp_goto (tgt := 26) d_M_play_22 (by decide) ?_
      exact wp_sub [1, 2, 3, 0] rfl (t_M_play_26 _ _ _ _ _ _ _ _ hp)
def f_M_tick_60 (rc42 : Nat → Int32 → Int32 → Int32 → dr_AH → Option (dr_RS × dr_AH)) : Nat → Nat → Int32 → Int32 → Int32 → Int32 → dr_AH → Option (dr_RS × dr_AH)
  | 0, _, _, _, _, _, _ => none
  | n + 1, a1, x2, x3, x4, x5, h => (dr_gi h 4 a1 19 fun x6 => if x6 ≤ x5 then rc42 a1 x2 x3 (x4 + 1) h else (dr_gr' h 4 a1 21 fun a7 => (dr_az h a7 x5 fun x8 => if x8 = 0 then (dr_k h a1 4 (dr_ci' (f_M_look a1 x5 h) fun x10 h9 => f_M_tick_60 rc42 n a1 x2 (x3 + x10) x4 (x5 + 1) h9)) else f_M_tick_60 rc42 n a1 x2 x3 x4 (x5 + 1) h)))
def f_M_tick_42 : Nat → Nat → Int32 → Int32 → Int32 → dr_AH → Option (dr_RS × dr_AH)
  | 0, _, _, _, _, _ => none
  | n + 1, a1, x2, x3, x4, h => if x2 ≤ x4 then some (.inl (some (.int x3)), h) else (dr_gi h 4 a1 1 fun x5 => (dr_pf h 4 a1 1 (.int (x5 + 1)) fun h6 => f_M_tick_60 (f_M_tick_42 n) dr_fu a1 x2 x3 x4 0 h6))
def f_M_tick_27 (a1 : Nat) (x2 : Int32) (a3 : Nat) (h : dr_AH) : Option (dr_RS × dr_AH) :=
  (dr_k h a3 4 (dr_ci' (f_M_goes a3 0 1 1 h) fun x5 h4 => if x5 = 0 then some (.inl (some (.int 0)), h4) else f_M_tick_42 dr_fu a1 x2 0 0 h4))
def f_M_tick (a1 : Nat) (x2 : Int32) (h : dr_AH) : Option (dr_RS × dr_AH) :=
  (dr_ci' (f_M_in x2 1 5000 h) fun x4 h3 => if x4 = 0 then f_M_tick_27 a1 x2 a1 h3 else (dr_gi h3 4 a1 1 fun x5 => if (99999 - x5) < x2 then f_M_tick_27 a1 x2 a1 h3 else (dr_k h3 a1 4 (dr_ci' (f_M_goes a1 1 1 1 h3) fun x7 h6 => if x7 = 0 then some (.inl (some (.int 0)), h6) else f_M_tick_42 dr_fu a1 x2 0 0 h6))))
set_option maxRecDepth 100000 in
set_option maxHeartbeats 400000 in
theorem t_M_tick_60 {Q : dr_RS → dr_AH → Prop} {rc42 : Nat → Int32 → Int32 → Int32 → dr_AH → Option (dr_RS × dr_AH)} (hr42 : ∀ (a1 : Nat) (x2 : Int32) (x3 : Int32) (x4 : Int32) (h : dr_AH), dr_p (rc42 a1 x2 x3 x4 h) Q → dr_W mi_M_tick 3 49 42 [(0, .ref a1), (1, .int x2), (2, .int x3), (3, .int x4)] [] h Q) : ∀ (n : Nat) (a1 : Nat) (x2 : Int32) (x3 : Int32) (x4 : Int32) (x5 : Int32) (h : dr_AH), dr_p (f_M_tick_60 rc42 n a1 x2 x3 x4 x5 h) Q → dr_W mi_M_tick 3 49 60 [(0, .ref a1), (1, .int x2), (2, .int x3), (3, .int x4), (4, .int x5)] [] h Q := by
  intro n
  induction n with
  | zero => intro a1 x2 x3 x4 x5 h hp; exact (dr_p0 hp).elim
  | succ n ih =>
    intro a1 x2 x3 x4 x5 h hp
    unfold f_M_tick_60 at hp
    refine wp_iload d_M_tick_60 4 rfl ?_
    refine wp_aload_n d_M_tick_62 0 rfl ?_
    refine wp_gi cl_M fl_M_161 (by decide) d_M_tick_63 hp (fun x6 hp => ?_)
    refine wp_icmp_ge (tgt := 94) d_M_tick_66 (by decide) hp (fun _ hp => ?_) (fun _ hp => ?_)
    · refine wp_iinc (v := (x4 + 1)) (l' := [(3, .int (x4 + 1)), (0, .ref a1), (1, .int x2), (2, .int x3), (4, .int x5)]) d_M_tick_94 3 rfl rfl (by decide) rfl ?_
      refine wp_goto (tgt := 42) d_M_tick_97 (by decide) ?_
      exact wp_sub [1, 2, 3, 0] rfl (hr42 _ _ _ _ _ hp)
    · refine wp_aload_n d_M_tick_69 0 rfl ?_
      refine wp_gr cl_M fl_M_57 (by decide) d_M_tick_70 hp (fun a7 hp => ?_) (fun hp => (dr_p0 hp).elim)
      refine wp_iload d_M_tick_73 4 rfl ?_
      refine wp_zaload d_M_tick_75 hp (fun x8 hp => ?_)
      refine wp_if_ne (tgt := 88) d_M_tick_76 (by decide) hp (fun _ hp => ?_) (fun _ hp => ?_)
      · refine wp_iinc (v := (x5 + 1)) (l' := [(4, .int (x5 + 1)), (0, .ref a1), (1, .int x2), (2, .int x3), (3, .int x4)]) d_M_tick_88 4 rfl rfl (by decide) rfl ?_
        refine wp_goto (tgt := 60) d_M_tick_91 (by decide) ?_
        exact wp_sub [1, 2, 3, 4, 0] rfl (ih _ _ _ _ _ _ hp)
      · refine wp_iload_n d_M_tick_79 2 rfl ?_
        refine wp_aload_n d_M_tick_80 0 rfl ?_
        refine wp_iload d_M_tick_81 4 rfl ?_
        refine wp_k hp (fun hk hp => ?_)
        refine wp_ci (M' := mi_M_look) (As := [.ref a1, .int x5]) (st := [.int x3]) (fr' := 2) (wo' := 32) (dr_sV (A := [.int x5]) cl_M hk tw_797 tw_799 tp_28 co_M_look ⟨by decide, by decide⟩ (by rfl) d_M_tick_83 rfl) co_M_look (by decide +kernel) (by decide) (Nat.le_of_ble_eq_true rfl) (Nat.le_of_ble_eq_true rfl) (fun Q' hq => t_M_look _ _ _ hq) hp (fun x10 h9 hp => ?_) (fun E q h3 hp => wx_out (by decide) hp)
        refine wp_iadd d_M_tick_86 ?_
        refine wp_istore_n (l' := [(2, .int (x3 + x10)), (0, .ref a1), (1, .int x2), (3, .int x4), (4, .int x5)]) d_M_tick_87 (by decide) rfl ?_
        refine wp_iinc (v := (x5 + 1)) (l' := [(4, .int (x5 + 1)), (2, .int (x3 + x10)), (0, .ref a1), (1, .int x2), (3, .int x4)]) d_M_tick_88 4 rfl rfl (by decide) rfl ?_
        refine wp_goto (tgt := 60) d_M_tick_91 (by decide) ?_
        exact wp_sub [2, 3, 1, 4, 0] rfl (ih _ _ _ _ _ _ hp)
set_option maxRecDepth 100000 in
set_option maxHeartbeats 400000 in
theorem t_M_tick_42 {Q : dr_RS → dr_AH → Prop} : ∀ (n : Nat) (a1 : Nat) (x2 : Int32) (x3 : Int32) (x4 : Int32) (h : dr_AH), dr_p (f_M_tick_42 n a1 x2 x3 x4 h) Q → dr_W mi_M_tick 3 49 42 [(0, .ref a1), (1, .int x2), (2, .int x3), (3, .int x4)] [] h Q := by
  intro n
  induction n with
  | zero => intro a1 x2 x3 x4 h hp; exact (dr_p0 hp).elim
  | succ n ih =>
    intro a1 x2 x3 x4 h hp
    unfold f_M_tick_42 at hp
    refine wp_iload_n d_M_tick_42 3 rfl ?_
    refine wp_iload_n d_M_tick_43 1 rfl ?_
    refine wp_icmp_ge (tgt := 100) d_M_tick_44 (by decide) hp (fun _ hp => ?_) (fun _ hp => ?_)
    · refine wp_iload_n d_M_tick_100 2 rfl ?_
      exact wp_ireturn rfl rfl d_M_tick_101 hp
    · refine wp_aload_n d_M_tick_47 0 rfl ?_
      refine wp_dup rfl d_M_tick_48 ?_
      refine wp_gi cl_M fl_M_147 (by decide) d_M_tick_49 hp (fun x5 hp => ?_)
      refine wp_iconst (v := 1) (by decide) d_M_tick_52 ?_
      refine wp_iadd d_M_tick_53 ?_
      refine wp_put cl_M fl_M_147 (by decide) (Or.inl (by rfl)) (by rfl) (by rfl) d_M_tick_54 hp (fun h6 hp => ?_)
      refine wp_iconst (v := 0) (by decide) d_M_tick_57 ?_
      refine wp_istore (l' := [(4, .int 0), (0, .ref a1), (1, .int x2), (2, .int x3), (3, .int x4)]) d_M_tick_58 (by decide) rfl ?_
      exact wp_sub [1, 2, 3, 4, 0] rfl (t_M_tick_60 ih dr_fu _ _ _ _ _ _ hp)
set_option maxRecDepth 100000 in
set_option maxHeartbeats 400000 in
theorem t_M_tick_27 {Q : dr_RS → dr_AH → Prop} : ∀ (a1 : Nat) (x2 : Int32) (a3 : Nat) (h : dr_AH), dr_p (f_M_tick_27 a1 x2 a3 h) Q → dr_W mi_M_tick 3 49 27 [(0, .ref a1), (1, .int x2)] [.ref a3] h Q := by
  intro a1 x2 a3 h hp
  unfold f_M_tick_27 at hp
  refine wp_iconst (v := 0) (by decide) d_M_tick_27 ?_
  refine wp_iconst (v := 1) (by decide) d_M_tick_28 ?_
  refine wp_iconst (v := 1) (by decide) d_M_tick_29 ?_
  refine wp_k hp (fun hk hp => ?_)
  refine wp_ci (M' := mi_M_goes) (As := [.ref a3, .int 0, .int 1, .int 1]) (st := []) (fr' := 0) (wo' := 0) (dr_sV (A := [.int 0, .int 1, .int 1]) cl_M hk tw_737 tw_739 tp_16 co_M_goes ⟨by decide, by decide⟩ (by rfl) d_M_tick_30 rfl) co_M_goes (by decide +kernel) (by decide) (Nat.le_of_ble_eq_true rfl) (Nat.le_of_ble_eq_true rfl) (fun Q' hq => t_M_goes _ _ _ _ _ hq) hp (fun x5 h4 hp => ?_) (fun E q h3 hp => wx_out (by decide) hp)
  refine wp_if_ne (tgt := 38) d_M_tick_33 (by decide) hp (fun _ hp => ?_) (fun _ hp => ?_)
  · refine wp_iconst (v := 0) (by decide) d_M_tick_38 ?_
    refine wp_istore_n (l' := [(2, .int 0), (0, .ref a1), (1, .int x2)]) d_M_tick_39 (by decide) rfl ?_
    refine wp_iconst (v := 0) (by decide) d_M_tick_40 ?_
    refine wp_istore_n (l' := [(3, .int 0), (2, .int 0), (0, .ref a1), (1, .int x2)]) d_M_tick_41 (by decide) rfl ?_
    exact wp_sub [2, 3, 1, 0] rfl (t_M_tick_42 dr_fu _ _ _ _ _ hp)
  · refine wp_iconst (v := 0) (by decide) d_M_tick_36 ?_
    exact wp_ireturn rfl rfl d_M_tick_37 hp
set_option maxRecDepth 100000 in
set_option maxHeartbeats 400000 in
theorem t_M_tick {Q : dr_RS → dr_AH → Prop} : ∀ (a1 : Nat) (x2 : Int32) (h : dr_AH), dr_p (f_M_tick a1 x2 h) Q → dr_W mi_M_tick 3 49 0 [(0, .ref a1), (1, .int x2)] [] h Q := by
  intro a1 x2 h hp
  unfold f_M_tick at hp
  refine wp_aload_n d_M_tick_0 0 rfl ?_
  refine wp_iload_n d_M_tick_1 1 rfl ?_
  refine wp_iconst (v := 1) (by decide) d_M_tick_2 ?_
  refine wp_sipush (v := 5000) (by decide) d_M_tick_3 ?_
  refine wp_ci (M' := mi_M_in) (As := [.int x2, .int 1, .int 5000]) (st := [.ref a1]) (fr' := 0) (wo' := 0) (dr_sS (A := [.int x2, .int 1, .int 5000]) tw_734 tw_735 tw_5 co_M_in ⟨by decide, by decide⟩ (by rfl) d_M_tick_6 rfl) co_M_in (by decide +kernel) (by decide) (Nat.le_of_ble_eq_true rfl) (Nat.le_of_ble_eq_true rfl) (fun Q' hq => t_M_in _ _ _ _ hq) hp (fun x4 h3 hp => ?_) (fun E q h3 hp => wx_out (by decide) hp)
  refine wp_if_eq (tgt := 27) d_M_tick_9 (by decide) hp (fun _ hp => ?_) (fun _ hp => ?_)
  · exact wp_sub [0, 1] rfl (t_M_tick_27 _ _ _ _ hp)
  · refine wp_iload_n d_M_tick_12 1 rfl ?_
    refine wp_ldc (v := 99999) tw_846 d_M_tick_13 ?_
    refine wp_aload_n d_M_tick_15 0 rfl ?_
    refine wp_gi cl_M fl_M_147 (by decide) d_M_tick_16 hp (fun x5 hp => ?_)
    refine wp_isub d_M_tick_19 ?_
    refine wp_icmp_gt (tgt := 27) d_M_tick_20 (by decide) hp (fun _ hp => ?_) (fun _ hp => ?_)
    · exact wp_sub [0, 1] rfl (t_M_tick_27 _ _ _ _ hp)
    · refine wp_iconst (v := 1) (by decide) d_M_tick_23 ?_
      refine wp_goto (tgt := 28) d_M_tick_24 (by decide) ?_
      refine wp_iconst (v := 1) (by decide) d_M_tick_28 ?_
      refine wp_iconst (v := 1) (by decide) d_M_tick_29 ?_
      refine wp_k hp (fun hk hp => ?_)
      refine wp_ci (M' := mi_M_goes) (As := [.ref a1, .int 1, .int 1, .int 1]) (st := []) (fr' := 0) (wo' := 0) (dr_sV (A := [.int 1, .int 1, .int 1]) cl_M hk tw_737 tw_739 tp_16 co_M_goes ⟨by decide, by decide⟩ (by rfl) d_M_tick_30 rfl) co_M_goes (by decide +kernel) (by decide) (Nat.le_of_ble_eq_true rfl) (Nat.le_of_ble_eq_true rfl) (fun Q' hq => t_M_goes _ _ _ _ _ hq) hp (fun x7 h6 hp => ?_) (fun E q h3 hp => wx_out (by decide) hp)
      refine wp_if_ne (tgt := 38) d_M_tick_33 (by decide) hp (fun _ hp => ?_) (fun _ hp => ?_)
      · refine wp_iconst (v := 0) (by decide) d_M_tick_38 ?_
        refine wp_istore_n (l' := [(2, .int 0), (0, .ref a1), (1, .int x2)]) d_M_tick_39 (by decide) rfl ?_
        refine wp_iconst (v := 0) (by decide) d_M_tick_40 ?_
        refine wp_istore_n (l' := [(3, .int 0), (2, .int 0), (0, .ref a1), (1, .int x2)]) d_M_tick_41 (by decide) rfl ?_
        exact wp_sub [2, 3, 1, 0] rfl (t_M_tick_42 dr_fu _ _ _ _ _ hp)
      · refine wp_iconst (v := 0) (by decide) d_M_tick_36 ?_
        exact wp_ireturn rfl rfl d_M_tick_37 hp
def f_M_event_68 (a1 : Nat) (x2 : Int32) (x3 : Int32) (x4 : Int32) (x5 : Int32) (a6 : Nat) (h : dr_AH) : Option (dr_RS × dr_AH) :=
  (dr_k h a6 4 (dr_ci' (f_M_goes a6 x5 1 1 h) fun x8 h7 => if x8 = 0 then some (.inl (some (.int 0)), h7) else if x4 = 0 then (dr_gr' h7 4 a1 22 fun a15 => (dr_ai h7 a15 ((x2 * 41) + x3) fun x16 => some (.inl (some (.int x16)), h7))) else if x4 = 1 then (dr_gr' h7 4 a1 11 fun a13 => (dr_ai h7 a13 ((x2 * 41) + x3) fun x14 => some (.inl (some (.int x14)), h7))) else if x4 = 2 then (dr_gr' h7 4 a1 12 fun a11 => (dr_az h7 a11 ((x2 * 41) + x3) fun x12 => if x12 = 0 then some (.inl (some (.int 0)), h7) else some (.inl (some (.int 1)), h7))) else (dr_gr' h7 4 a1 13 fun a9 => (dr_ai h7 a9 ((x2 * 41) + x3) fun x10 => some (.inl (some (.int x10)), h7)))))
def f_M_event_67 (a1 : Nat) (x2 : Int32) (x3 : Int32) (x4 : Int32) (a5 : Nat) (h : dr_AH) : Option (dr_RS × dr_AH) :=
  f_M_event_68 a1 x2 x3 x4 0 a5 h
def f_M_event_59 (a1 : Nat) (x2 : Int32) (x3 : Int32) (x4 : Int32) (x5 : Int32) (a6 : Nat) (a7 : Nat) (h : dr_AH) : Option (dr_RS × dr_AH) :=
  (dr_az h a6 x5 fun x8 => if x8 = 0 then f_M_event_67 a1 x2 x3 x4 a7 h else f_M_event_68 a1 x2 x3 x4 1 a7 h)
def f_M_event_32 (a1 : Nat) (x2 : Int32) (x3 : Int32) (x4 : Int32) (x5 : Int32) (h : dr_AH) : Option (dr_RS × dr_AH) :=
  if x5 = 0 then f_M_event_67 a1 x2 x3 x4 a1 h else (dr_gr' h 4 a1 7 fun a6 => if x5 = 0 then f_M_event_59 a1 x2 x3 x4 0 a6 a1 h else f_M_event_59 a1 x2 x3 x4 ((x2 * 41) + x3) a6 a1 h)
def f_M_event_31 (a1 : Nat) (x2 : Int32) (x3 : Int32) (x4 : Int32) (h : dr_AH) : Option (dr_RS × dr_AH) :=
  f_M_event_32 a1 x2 x3 x4 0 h
def f_M_event (a1 : Nat) (x2 : Int32) (x3 : Int32) (x4 : Int32) (h : dr_AH) : Option (dr_RS × dr_AH) :=
  (dr_k h a1 4 (dr_ci' (f_M_isDrill a1 x2 h) fun x6 h5 => if x6 = 0 then f_M_event_31 a1 x2 x3 x4 h5 else (dr_ci' (f_M_in x3 1 40 h5) fun x8 h7 => if x8 = 0 then f_M_event_31 a1 x2 x3 x4 h7 else (dr_ci' (f_M_in x4 0 3 h7) fun x10 h9 => if x10 = 0 then f_M_event_31 a1 x2 x3 x4 h9 else f_M_event_32 a1 x2 x3 x4 1 h9))))
set_option maxRecDepth 100000 in
set_option maxHeartbeats 400000 in
theorem t_M_event_68 {Q : dr_RS → dr_AH → Prop} : ∀ (a1 : Nat) (x2 : Int32) (x3 : Int32) (x4 : Int32) (x5 : Int32) (a6 : Nat) (h : dr_AH), dr_p (f_M_event_68 a1 x2 x3 x4 x5 a6 h) Q → dr_W mi_M_event 2 27 68 [(0, .ref a1), (1, .int x2), (2, .int x3), (3, .int x4)] [.int x5, .ref a6] h Q := by
  intro a1 x2 x3 x4 x5 a6 h hp
  unfold f_M_event_68 at hp
  refine wp_iconst (v := 1) (by decide) d_M_event_68 ?_
  refine wp_iconst (v := 1) (by decide) d_M_event_69 ?_
  refine wp_k hp (fun hk hp => ?_)
  refine wp_ci (M' := mi_M_goes) (As := [.ref a6, .int x5, .int 1, .int 1]) (st := []) (fr' := 0) (wo' := 0) (dr_sV (A := [.int x5, .int 1, .int 1]) cl_M hk tw_737 tw_739 tp_16 co_M_goes ⟨by decide, by decide⟩ (by rfl) d_M_event_70 rfl) co_M_goes (by decide +kernel) (by decide) (Nat.le_of_ble_eq_true rfl) (Nat.le_of_ble_eq_true rfl) (fun Q' hq => t_M_goes _ _ _ _ _ hq) hp (fun x8 h7 hp => ?_) (fun E q h3 hp => wx_out (by decide) hp)
  refine wp_if_ne (tgt := 78) d_M_event_73 (by decide) hp (fun _ hp => ?_) (fun _ hp => ?_)
  · refine wp_iload_n d_M_event_78 1 rfl ?_
    refine wp_bipush (v := 41) (by decide) d_M_event_79 ?_
    refine wp_imul d_M_event_81 ?_
    refine wp_iload_n d_M_event_82 2 rfl ?_
    refine wp_iadd d_M_event_83 ?_
    refine wp_istore (l' := [(5, .int ((x2 * 41) + x3)), (0, .ref a1), (1, .int x2), (2, .int x3), (3, .int x4)]) d_M_event_84 (by decide) rfl ?_
    refine wp_iload_n d_M_event_86 4 rfl ?_
    refine wp_if_ne (tgt := 100) d_M_event_87 (by decide) hp (fun _ hp => ?_) (fun _ hp => ?_)
    · refine wp_iload_n d_M_event_100 4 rfl ?_
      refine wp_iconst (v := 1) (by decide) d_M_event_101 ?_
      refine wp_icmp_ne (tgt := 115) d_M_event_102 (by decide) hp (fun _ hp => ?_) (fun _ hp => ?_)
      · refine wp_iload_n d_M_event_115 4 rfl ?_
        refine wp_iconst (v := 2) (by decide) d_M_event_116 ?_
        refine wp_icmp_ne (tgt := 138) d_M_event_117 (by decide) hp (fun _ hp => ?_) (fun _ hp => ?_)
        · refine wp_aload_n d_M_event_138 1 rfl ?_
          refine wp_gr cl_M fl_M_36 (by decide) d_M_event_139 hp (fun a9 hp => ?_) (fun hp => (dr_p0 hp).elim)
          refine wp_iload d_M_event_142 0 rfl ?_
          refine wp_iaload d_M_event_144 hp (fun x10 hp => ?_)
          exact wp_ireturn rfl rfl d_M_event_145 hp
        · refine wp_aload_n d_M_event_120 1 rfl ?_
          refine wp_gr cl_M fl_M_33 (by decide) d_M_event_121 hp (fun a11 hp => ?_) (fun hp => (dr_p0 hp).elim)
          refine wp_iload d_M_event_124 0 rfl ?_
          refine wp_zaload d_M_event_126 hp (fun x12 hp => ?_)
          refine wp_if_eq (tgt := 134) d_M_event_127 (by decide) hp (fun _ hp => ?_) (fun _ hp => ?_)
          · refine wp_iconst (v := 0) (by decide) d_M_event_134 ?_
            refine wp_goto (tgt := 145) d_M_event_135 (by decide) ?_
            exact wp_ireturn rfl rfl d_M_event_145 hp
          · refine wp_iconst (v := 1) (by decide) d_M_event_130 ?_
            refine wp_goto (tgt := 145) d_M_event_131 (by decide) ?_
            exact wp_ireturn rfl rfl d_M_event_145 hp
      · refine wp_aload_n d_M_event_105 1 rfl ?_
        refine wp_gr cl_M fl_M_30 (by decide) d_M_event_106 hp (fun a13 hp => ?_) (fun hp => (dr_p0 hp).elim)
        refine wp_iload d_M_event_109 0 rfl ?_
        refine wp_iaload d_M_event_111 hp (fun x14 hp => ?_)
        refine wp_goto (tgt := 145) d_M_event_112 (by decide) ?_
        exact wp_ireturn rfl rfl d_M_event_145 hp
    · refine wp_aload_n d_M_event_90 1 rfl ?_
      refine wp_gr cl_M fl_M_60 (by decide) d_M_event_91 hp (fun a15 hp => ?_) (fun hp => (dr_p0 hp).elim)
      refine wp_iload d_M_event_94 0 rfl ?_
      refine wp_iaload d_M_event_96 hp (fun x16 hp => ?_)
      refine wp_goto (tgt := 145) d_M_event_97 (by decide) ?_
      exact wp_ireturn rfl rfl d_M_event_145 hp
  · refine wp_iconst (v := 0) (by decide) d_M_event_76 ?_
    exact wp_ireturn rfl rfl d_M_event_77 hp
set_option maxRecDepth 100000 in
set_option maxHeartbeats 400000 in
theorem t_M_event_67 {Q : dr_RS → dr_AH → Prop} : ∀ (a1 : Nat) (x2 : Int32) (x3 : Int32) (x4 : Int32) (a5 : Nat) (h : dr_AH), dr_p (f_M_event_67 a1 x2 x3 x4 a5 h) Q → dr_W mi_M_event 2 27 67 [(0, .ref a1), (1, .int x2), (2, .int x3), (3, .int x4)] [.ref a5] h Q := by
  intro a1 x2 x3 x4 a5 h hp
  unfold f_M_event_67 at hp
  refine wp_iconst (v := 0) (by decide) d_M_event_67 ?_
  exact wp_sub [0, 1, 2, 3] rfl (t_M_event_68 _ _ _ _ _ _ _ hp)
set_option maxRecDepth 100000 in
set_option maxHeartbeats 400000 in
theorem t_M_event_59 {Q : dr_RS → dr_AH → Prop} : ∀ (a1 : Nat) (x2 : Int32) (x3 : Int32) (x4 : Int32) (x5 : Int32) (a6 : Nat) (a7 : Nat) (h : dr_AH), dr_p (f_M_event_59 a1 x2 x3 x4 x5 a6 a7 h) Q → dr_W mi_M_event 2 27 59 [(0, .ref a1), (1, .int x2), (2, .int x3), (3, .int x4)] [.int x5, .ref a6, .ref a7] h Q := by
  intro a1 x2 x3 x4 x5 a6 a7 h hp
  unfold f_M_event_59 at hp
  refine wp_zaload d_M_event_59 hp (fun x8 hp => ?_)
  refine wp_if_eq (tgt := 67) d_M_event_60 (by decide) hp (fun _ hp => ?_) (fun _ hp => ?_)
  · exact wp_sub [0, 1, 2, 3] rfl (t_M_event_67 _ _ _ _ _ _ hp)
  · refine wp_iconst (v := 1) (by decide) d_M_event_63 ?_
    refine wp_goto (tgt := 68) d_M_event_64 (by decide) ?_
    exact wp_sub [0, 1, 2, 3] rfl (t_M_event_68 _ _ _ _ _ _ _ hp)
set_option maxRecDepth 100000 in
set_option maxHeartbeats 400000 in
theorem t_M_event_32 {Q : dr_RS → dr_AH → Prop} : ∀ (a1 : Nat) (x2 : Int32) (x3 : Int32) (x4 : Int32) (x5 : Int32) (h : dr_AH), dr_p (f_M_event_32 a1 x2 x3 x4 x5 h) Q → dr_W mi_M_event 2 27 32 [(0, .ref a1), (1, .int x2), (2, .int x3), (3, .int x4)] [.int x5] h Q := by
  intro a1 x2 x3 x4 x5 h hp
  unfold f_M_event_32 at hp
  refine wp_istore (l' := [(4, .int x5), (0, .ref a1), (1, .int x2), (2, .int x3), (3, .int x4)]) d_M_event_32 (by decide) rfl ?_
  refine wp_aload_n d_M_event_34 1 rfl ?_
  refine wp_iload d_M_event_35 0 rfl ?_
  refine wp_if_eq (tgt := 67) d_M_event_37 (by decide) hp (fun _ hp => ?_) (fun _ hp => ?_)
  · exact wp_sub [1, 2, 3, 4] rfl (t_M_event_67 _ _ _ _ _ _ hp)
  · refine wp_aload_n d_M_event_40 1 rfl ?_
    refine wp_gr cl_M fl_M_17 (by decide) d_M_event_41 hp (fun a6 hp => ?_) (fun hp => (dr_p0 hp).elim)
    refine wp_iload d_M_event_44 0 rfl ?_
    refine wp_if_eq (tgt := 58) d_M_event_46 (by decide) hp (fun _ hp => ?_) (fun _ hp => ?_)
    · refine wp_iconst (v := 0) (by decide) d_M_event_58 ?_
      exact wp_sub [1, 2, 3, 4] rfl (t_M_event_59 _ _ _ _ _ _ _ _ hp)
    · refine wp_iload_n d_M_event_49 2 rfl ?_
      refine wp_bipush (v := 41) (by decide) d_M_event_50 ?_
      refine wp_imul d_M_event_52 ?_
      refine wp_iload_n d_M_event_53 3 rfl ?_
      refine wp_iadd d_M_event_54 ?_
      refine wp_goto (tgt := 59) d_M_event_55 (by decide) ?_
      exact wp_sub [1, 2, 3, 4] rfl (t_M_event_59 _ _ _ _ _ _ _ _ hp)
set_option maxRecDepth 100000 in
set_option maxHeartbeats 400000 in
theorem t_M_event_31 {Q : dr_RS → dr_AH → Prop} : ∀ (a1 : Nat) (x2 : Int32) (x3 : Int32) (x4 : Int32) (h : dr_AH), dr_p (f_M_event_31 a1 x2 x3 x4 h) Q → dr_W mi_M_event 2 27 31 [(0, .ref a1), (1, .int x2), (2, .int x3), (3, .int x4)] [] h Q := by
  intro a1 x2 x3 x4 h hp
  unfold f_M_event_31 at hp
  refine wp_iconst (v := 0) (by decide) d_M_event_31 ?_
  exact wp_sub [0, 1, 2, 3] rfl (t_M_event_32 _ _ _ _ _ _ hp)
set_option maxRecDepth 100000 in
set_option maxHeartbeats 400000 in
theorem t_M_event {Q : dr_RS → dr_AH → Prop} : ∀ (a1 : Nat) (x2 : Int32) (x3 : Int32) (x4 : Int32) (h : dr_AH), dr_p (f_M_event a1 x2 x3 x4 h) Q → dr_W mi_M_event 2 27 0 [(0, .ref a1), (1, .int x2), (2, .int x3), (3, .int x4)] [] h Q := by
  intro a1 x2 x3 x4 h hp
  unfold f_M_event at hp
  refine wp_aload_n d_M_event_0 0 rfl ?_
  refine wp_iload_n d_M_event_1 1 rfl ?_
  refine wp_k hp (fun hk hp => ?_)
  refine wp_ci (M' := mi_M_isDrill) (As := [.ref a1, .int x2]) (st := []) (fr' := 1) (wo' := 14) (dr_sV (A := [.int x2]) cl_M hk tw_817 tw_819 tp_32 co_M_isDrill ⟨by decide, by decide⟩ (by rfl) d_M_event_2 rfl) co_M_isDrill (by decide +kernel) (by decide) (Nat.le_of_ble_eq_true rfl) (Nat.le_of_ble_eq_true rfl) (fun Q' hq => t_M_isDrill _ _ _ hq) hp (fun x6 h5 hp => ?_) (fun E q h3 hp => wx_out (by decide) hp)
  refine wp_if_eq (tgt := 31) d_M_event_5 (by decide) hp (fun _ hp => ?_) (fun _ hp => ?_)
  · exact wp_sub [0, 1, 2, 3] rfl (t_M_event_31 _ _ _ _ _ hp)
  · refine wp_iload_n d_M_event_8 2 rfl ?_
    refine wp_iconst (v := 1) (by decide) d_M_event_9 ?_
    refine wp_bipush (v := 40) (by decide) d_M_event_10 ?_
    refine wp_ci (M' := mi_M_in) (As := [.int x3, .int 1, .int 40]) (st := []) (fr' := 0) (wo' := 0) (dr_sS (A := [.int x3, .int 1, .int 40]) tw_734 tw_735 tw_5 co_M_in ⟨by decide, by decide⟩ (by rfl) d_M_event_12 rfl) co_M_in (by decide +kernel) (by decide) (Nat.le_of_ble_eq_true rfl) (Nat.le_of_ble_eq_true rfl) (fun Q' hq => t_M_in _ _ _ _ hq) hp (fun x8 h7 hp => ?_) (fun E q h3 hp => wx_out (by decide) hp)
    refine wp_if_eq (tgt := 31) d_M_event_15 (by decide) hp (fun _ hp => ?_) (fun _ hp => ?_)
    · exact wp_sub [0, 1, 2, 3] rfl (t_M_event_31 _ _ _ _ _ hp)
    · refine wp_iload_n d_M_event_18 3 rfl ?_
      refine wp_iconst (v := 0) (by decide) d_M_event_19 ?_
      refine wp_iconst (v := 3) (by decide) d_M_event_20 ?_
      refine wp_ci (M' := mi_M_in) (As := [.int x4, .int 0, .int 3]) (st := []) (fr' := 0) (wo' := 0) (dr_sS (A := [.int x4, .int 0, .int 3]) tw_734 tw_735 tw_5 co_M_in ⟨by decide, by decide⟩ (by rfl) d_M_event_21 rfl) co_M_in (by decide +kernel) (by decide) (Nat.le_of_ble_eq_true rfl) (Nat.le_of_ble_eq_true rfl) (fun Q' hq => t_M_in _ _ _ _ hq) hp (fun x10 h9 hp => ?_) (fun E q h3 hp => wx_out (by decide) hp)
      refine wp_if_eq (tgt := 31) d_M_event_24 (by decide) hp (fun _ hp => ?_) (fun _ hp => ?_)
      · exact wp_sub [0, 1, 2, 3] rfl (t_M_event_31 _ _ _ _ _ hp)
      · refine wp_iconst (v := 1) (by decide) d_M_event_27 ?_
        refine wp_goto (tgt := 32) d_M_event_28 (by decide) ?_
        exact wp_sub [0, 1, 2, 3] rfl (t_M_event_32 _ _ _ _ _ _ hp)
def f_M_seen_48 : Nat → Nat → Int32 → Int32 → Int32 → Int32 → dr_AH → Option (dr_RS × dr_AH)
  | 0, _, _, _, _, _, _ => none
  | n + 1, a1, x2, x3, x4, x5, h => if 41 ≤ x5 then some (.inl (some (.int (-1))), h) else (dr_gr' h 4 a1 7 fun a6 => (dr_az h a6 ((x2 * 41) + x5) fun x7 => if x7 = 0 then f_M_seen_48 n a1 x2 x3 x4 (x5 + 1) h else (dr_gr' h 4 a1 22 fun a8 => (dr_ai h a8 ((x2 * 41) + x5) fun x9 => if x9 < 0 then f_M_seen_48 n a1 x2 x3 x4 (x5 + 1) h else (dr_gr' h 4 a1 12 fun a10 => (dr_az h a10 ((x2 * 41) + x5) fun x11 => if x11 = 0 then if x4 = 0 then some (.inl (some (.int x5)), h) else f_M_seen_48 n a1 x2 x3 (x4 + (-1)) (x5 + 1) h else (dr_gr' h 4 a1 11 fun a12 => (dr_ai h a12 ((x2 * 41) + x5) fun x13 => if x13 = x3 then if x4 = 0 then some (.inl (some (.int x5)), h) else f_M_seen_48 n a1 x2 x3 (x4 + (-1)) (x5 + 1) h else f_M_seen_48 n a1 x2 x3 x4 (x5 + 1) h))))))))
def f_M_seen_24 (a1 : Nat) (x2 : Int32) (x3 : Int32) (x4 : Int32) (x5 : Int32) (a6 : Nat) (h : dr_AH) : Option (dr_RS × dr_AH) :=
  if x4 < 0 then (dr_k h a6 4 (dr_ci' (f_M_goes a6 x5 0 1 h) fun x8 h7 => if x8 = 0 then some (.inl (some (.int 0)), h7) else f_M_seen_48 dr_fu a1 x2 x3 x4 1 h7)) else (dr_k h a6 4 (dr_ci' (f_M_goes a6 x5 1 1 h) fun x10 h9 => if x10 = 0 then some (.inl (some (.int 0)), h9) else f_M_seen_48 dr_fu a1 x2 x3 x4 1 h9))
def f_M_seen_23 (a1 : Nat) (x2 : Int32) (x3 : Int32) (x4 : Int32) (a5 : Nat) (h : dr_AH) : Option (dr_RS × dr_AH) :=
  f_M_seen_24 a1 x2 x3 x4 0 a5 h
def f_M_seen (a1 : Nat) (x2 : Int32) (x3 : Int32) (x4 : Int32) (h : dr_AH) : Option (dr_RS × dr_AH) :=
  (dr_k h a1 4 (dr_ci' (f_M_isDrill a1 x2 h) fun x6 h5 => if x6 = 0 then f_M_seen_23 a1 x2 x3 x4 a1 h5 else (dr_ci' (f_M_in x3 0 9 h5) fun x8 h7 => if x8 = 0 then f_M_seen_23 a1 x2 x3 x4 a1 h7 else f_M_seen_24 a1 x2 x3 x4 1 a1 h7)))
set_option maxRecDepth 100000 in
set_option maxHeartbeats 400000 in
theorem t_M_seen_48 {Q : dr_RS → dr_AH → Prop} : ∀ (n : Nat) (a1 : Nat) (x2 : Int32) (x3 : Int32) (x4 : Int32) (x5 : Int32) (h : dr_AH), dr_p (f_M_seen_48 n a1 x2 x3 x4 x5 h) Q → dr_W mi_M_seen 2 28 48 [(0, .ref a1), (1, .int x2), (2, .int x3), (4, .int x4), (5, .int x5)] [] h Q := by
  intro n
  induction n with
  | zero => intro a1 x2 x3 x4 x5 h hp; exact (dr_p0 hp).elim
  | succ n ih =>
    intro a1 x2 x3 x4 x5 h hp
    unfold f_M_seen_48 at hp
    refine wp_iload d_M_seen_48 4 rfl ?_
    refine wp_bipush (v := 41) (by decide) d_M_seen_50 ?_
    refine wp_icmp_ge (tgt := 125) d_M_seen_52 (by decide) hp (fun _ hp => ?_) (fun _ hp => ?_)
    · refine wp_iconst (v := (-1)) (by decide) d_M_seen_125 ?_
      exact wp_ireturn rfl rfl d_M_seen_126 hp
    · refine wp_iload_n d_M_seen_55 1 rfl ?_
      refine wp_bipush (v := 41) (by decide) d_M_seen_56 ?_
      refine wp_imul d_M_seen_58 ?_
      refine wp_iload d_M_seen_59 4 rfl ?_
      refine wp_iadd d_M_seen_61 ?_
      refine wp_istore (l' := [(6, .int ((x2 * 41) + x5)), (0, .ref a1), (1, .int x2), (2, .int x3), (4, .int x4), (5, .int x5)]) d_M_seen_62 (by decide) rfl ?_
      refine wp_aload_n d_M_seen_64 1 rfl ?_
      refine wp_gr cl_M fl_M_17 (by decide) d_M_seen_65 hp (fun a6 hp => ?_) (fun hp => (dr_p0 hp).elim)
      refine wp_iload d_M_seen_68 0 rfl ?_
      refine wp_zaload d_M_seen_70 hp (fun x7 hp => ?_)
      refine wp_if_eq (tgt := 119) d_M_seen_71 (by decide) hp (fun _ hp => ?_) (fun _ hp => ?_)
      · refine wp_iinc (v := (x5 + 1)) (l' := [(5, .int (x5 + 1)), (6, .int ((x2 * 41) + x5)), (0, .ref a1), (1, .int x2), (2, .int x3), (4, .int x4)]) d_M_seen_119 5 rfl rfl (by decide) rfl ?_
        refine wp_goto (tgt := 48) d_M_seen_122 (by decide) ?_
        exact wp_sub [2, 3, 4, 5, 0] rfl (ih _ _ _ _ _ _ hp)
      · refine wp_aload_n d_M_seen_74 1 rfl ?_
        refine wp_gr cl_M fl_M_60 (by decide) d_M_seen_75 hp (fun a8 hp => ?_) (fun hp => (dr_p0 hp).elim)
        refine wp_iload d_M_seen_78 0 rfl ?_
        refine wp_iaload d_M_seen_80 hp (fun x9 hp => ?_)
        refine wp_if_lt (tgt := 119) d_M_seen_81 (by decide) hp (fun _ hp => ?_) (fun _ hp => ?_)
        · refine wp_iinc (v := (x5 + 1)) (l' := [(5, .int (x5 + 1)), (6, .int ((x2 * 41) + x5)), (0, .ref a1), (1, .int x2), (2, .int x3), (4, .int x4)]) d_M_seen_119 5 rfl rfl (by decide) rfl ?_
          refine wp_goto (tgt := 48) d_M_seen_122 (by decide) ?_
          exact wp_sub [2, 3, 4, 5, 0] rfl (ih _ _ _ _ _ _ hp)
        · refine wp_aload_n d_M_seen_84 1 rfl ?_
          refine wp_gr cl_M fl_M_33 (by decide) d_M_seen_85 hp (fun a10 hp => ?_) (fun hp => (dr_p0 hp).elim)
          refine wp_iload d_M_seen_88 0 rfl ?_
          refine wp_zaload d_M_seen_90 hp (fun x11 hp => ?_)
          refine wp_if_eq (tgt := 108) d_M_seen_91 (by decide) hp (fun _ hp => ?_) (fun _ hp => ?_)
          · refine wp_iload d_M_seen_108 4 rfl ?_
            refine wp_if_ne (tgt := 116) d_M_seen_110 (by decide) hp (fun _ hp => ?_) (fun _ hp => ?_)
            · refine wp_iinc (v := (x4 + (-1))) (l' := [(4, .int (x4 + (-1))), (6, .int ((x2 * 41) + x5)), (0, .ref a1), (1, .int x2), (2, .int x3), (5, .int x5)]) d_M_seen_116 4 rfl rfl (by decide) rfl ?_
              refine wp_iinc (v := (x5 + 1)) (l' := [(5, .int (x5 + 1)), (4, .int (x4 + (-1))), (6, .int ((x2 * 41) + x5)), (0, .ref a1), (1, .int x2), (2, .int x3)]) d_M_seen_119 5 rfl rfl (by decide) rfl ?_
              refine wp_goto (tgt := 48) d_M_seen_122 (by decide) ?_
              exact wp_sub [3, 4, 5, 1, 0] rfl (ih _ _ _ _ _ _ hp)
            · refine wp_iload d_M_seen_113 5 rfl ?_
              exact wp_ireturn rfl rfl d_M_seen_115 hp
          · refine wp_aload_n d_M_seen_94 1 rfl ?_
            refine wp_gr cl_M fl_M_30 (by decide) d_M_seen_95 hp (fun a12 hp => ?_) (fun hp => (dr_p0 hp).elim)
            refine wp_iload d_M_seen_98 0 rfl ?_
            refine wp_iaload d_M_seen_100 hp (fun x13 hp => ?_)
            refine wp_iload_n d_M_seen_101 3 rfl ?_
            refine wp_icmp_eq (tgt := 108) d_M_seen_102 (by decide) hp (fun _ hp => ?_) (fun _ hp => ?_)
            · refine wp_iload d_M_seen_108 4 rfl ?_
              refine wp_if_ne (tgt := 116) d_M_seen_110 (by decide) hp (fun _ hp => ?_) (fun _ hp => ?_)
              · refine wp_iinc (v := (x4 + (-1))) (l' := [(4, .int (x4 + (-1))), (6, .int ((x2 * 41) + x5)), (0, .ref a1), (1, .int x2), (2, .int x3), (5, .int x5)]) d_M_seen_116 4 rfl rfl (by decide) rfl ?_
                refine wp_iinc (v := (x5 + 1)) (l' := [(5, .int (x5 + 1)), (4, .int (x4 + (-1))), (6, .int ((x2 * 41) + x5)), (0, .ref a1), (1, .int x2), (2, .int x3)]) d_M_seen_119 5 rfl rfl (by decide) rfl ?_
                refine wp_goto (tgt := 48) d_M_seen_122 (by decide) ?_
                exact wp_sub [3, 4, 5, 1, 0] rfl (ih _ _ _ _ _ _ hp)
              · refine wp_iload d_M_seen_113 5 rfl ?_
                exact wp_ireturn rfl rfl d_M_seen_115 hp
            · refine wp_goto (tgt := 119) d_M_seen_105 (by decide) ?_
              refine wp_iinc (v := (x5 + 1)) (l' := [(5, .int (x5 + 1)), (6, .int ((x2 * 41) + x5)), (0, .ref a1), (1, .int x2), (2, .int x3), (4, .int x4)]) d_M_seen_119 5 rfl rfl (by decide) rfl ?_
              refine wp_goto (tgt := 48) d_M_seen_122 (by decide) ?_
              exact wp_sub [2, 3, 4, 5, 0] rfl (ih _ _ _ _ _ _ hp)
set_option maxRecDepth 100000 in
set_option maxHeartbeats 400000 in
theorem t_M_seen_24 {Q : dr_RS → dr_AH → Prop} : ∀ (a1 : Nat) (x2 : Int32) (x3 : Int32) (x4 : Int32) (x5 : Int32) (a6 : Nat) (h : dr_AH), dr_p (f_M_seen_24 a1 x2 x3 x4 x5 a6 h) Q → dr_W mi_M_seen 2 28 24 [(0, .ref a1), (1, .int x2), (2, .int x3), (3, .int x4)] [.int x5, .ref a6] h Q := by
  intro a1 x2 x3 x4 x5 a6 h hp
  unfold f_M_seen_24 at hp
  refine wp_iload_n d_M_seen_24 3 rfl ?_
  refine wp_if_lt (tgt := 32) d_M_seen_25 (by decide) hp (fun _ hp => ?_) (fun _ hp => ?_)
  · refine wp_iconst (v := 0) (by decide) d_M_seen_32 ?_
    refine wp_iconst (v := 1) (by decide) d_M_seen_33 ?_
    refine wp_k hp (fun hk hp => ?_)
    refine wp_ci (M' := mi_M_goes) (As := [.ref a6, .int x5, .int 0, .int 1]) (st := []) (fr' := 0) (wo' := 0) (dr_sV (A := [.int x5, .int 0, .int 1]) cl_M hk tw_737 tw_739 tp_16 co_M_goes ⟨by decide, by decide⟩ (by rfl) d_M_seen_34 rfl) co_M_goes (by decide +kernel) (by decide) (Nat.le_of_ble_eq_true rfl) (Nat.le_of_ble_eq_true rfl) (fun Q' hq => t_M_goes _ _ _ _ _ hq) hp (fun x8 h7 hp => ?_) (fun E q h3 hp => wx_out (by decide) hp)
    refine wp_if_ne (tgt := 42) d_M_seen_37 (by decide) hp (fun _ hp => ?_) (fun _ hp => ?_)
    · refine wp_iload_n d_M_seen_42 3 rfl ?_
      refine wp_istore (l' := [(4, .int x4), (0, .ref a1), (1, .int x2), (2, .int x3), (3, .int x4)]) d_M_seen_43 (by decide) rfl ?_
      refine wp_iconst (v := 1) (by decide) d_M_seen_45 ?_
      refine wp_istore (l' := [(5, .int 1), (4, .int x4), (0, .ref a1), (1, .int x2), (2, .int x3), (3, .int x4)]) d_M_seen_46 (by decide) rfl ?_
      exact wp_sub [2, 3, 4, 1, 0] rfl (t_M_seen_48 dr_fu _ _ _ _ _ _ hp)
    · refine wp_iconst (v := 0) (by decide) d_M_seen_40 ?_
      exact wp_ireturn rfl rfl d_M_seen_41 hp
  · refine wp_iconst (v := 1) (by decide) d_M_seen_28 ?_
    refine wp_goto (tgt := 33) d_M_seen_29 (by decide) ?_
    refine wp_iconst (v := 1) (by decide) d_M_seen_33 ?_
    refine wp_k hp (fun hk hp => ?_)
    refine wp_ci (M' := mi_M_goes) (As := [.ref a6, .int x5, .int 1, .int 1]) (st := []) (fr' := 0) (wo' := 0) (dr_sV (A := [.int x5, .int 1, .int 1]) cl_M hk tw_737 tw_739 tp_16 co_M_goes ⟨by decide, by decide⟩ (by rfl) d_M_seen_34 rfl) co_M_goes (by decide +kernel) (by decide) (Nat.le_of_ble_eq_true rfl) (Nat.le_of_ble_eq_true rfl) (fun Q' hq => t_M_goes _ _ _ _ _ hq) hp (fun x10 h9 hp => ?_) (fun E q h3 hp => wx_out (by decide) hp)
    refine wp_if_ne (tgt := 42) d_M_seen_37 (by decide) hp (fun _ hp => ?_) (fun _ hp => ?_)
    · refine wp_iload_n d_M_seen_42 3 rfl ?_
      refine wp_istore (l' := [(4, .int x4), (0, .ref a1), (1, .int x2), (2, .int x3), (3, .int x4)]) d_M_seen_43 (by decide) rfl ?_
      refine wp_iconst (v := 1) (by decide) d_M_seen_45 ?_
      refine wp_istore (l' := [(5, .int 1), (4, .int x4), (0, .ref a1), (1, .int x2), (2, .int x3), (3, .int x4)]) d_M_seen_46 (by decide) rfl ?_
      exact wp_sub [2, 3, 4, 1, 0] rfl (t_M_seen_48 dr_fu _ _ _ _ _ _ hp)
    · refine wp_iconst (v := 0) (by decide) d_M_seen_40 ?_
      exact wp_ireturn rfl rfl d_M_seen_41 hp
set_option maxRecDepth 100000 in
set_option maxHeartbeats 400000 in
theorem t_M_seen_23 {Q : dr_RS → dr_AH → Prop} : ∀ (a1 : Nat) (x2 : Int32) (x3 : Int32) (x4 : Int32) (a5 : Nat) (h : dr_AH), dr_p (f_M_seen_23 a1 x2 x3 x4 a5 h) Q → dr_W mi_M_seen 2 28 23 [(0, .ref a1), (1, .int x2), (2, .int x3), (3, .int x4)] [.ref a5] h Q := by
  intro a1 x2 x3 x4 a5 h hp
  unfold f_M_seen_23 at hp
  refine wp_iconst (v := 0) (by decide) d_M_seen_23 ?_
  exact wp_sub [0, 1, 2, 3] rfl (t_M_seen_24 _ _ _ _ _ _ _ hp)
set_option maxRecDepth 100000 in
set_option maxHeartbeats 400000 in
theorem t_M_seen {Q : dr_RS → dr_AH → Prop} : ∀ (a1 : Nat) (x2 : Int32) (x3 : Int32) (x4 : Int32) (h : dr_AH), dr_p (f_M_seen a1 x2 x3 x4 h) Q → dr_W mi_M_seen 2 28 0 [(0, .ref a1), (1, .int x2), (2, .int x3), (3, .int x4)] [] h Q := by
  intro a1 x2 x3 x4 h hp
  unfold f_M_seen at hp
  refine wp_aload_n d_M_seen_0 0 rfl ?_
  refine wp_aload_n d_M_seen_1 0 rfl ?_
  refine wp_iload_n d_M_seen_2 1 rfl ?_
  refine wp_k hp (fun hk hp => ?_)
  refine wp_ci (M' := mi_M_isDrill) (As := [.ref a1, .int x2]) (st := [.ref a1]) (fr' := 1) (wo' := 14) (dr_sV (A := [.int x2]) cl_M hk tw_817 tw_819 tp_32 co_M_isDrill ⟨by decide, by decide⟩ (by rfl) d_M_seen_3 rfl) co_M_isDrill (by decide +kernel) (by decide) (Nat.le_of_ble_eq_true rfl) (Nat.le_of_ble_eq_true rfl) (fun Q' hq => t_M_isDrill _ _ _ hq) hp (fun x6 h5 hp => ?_) (fun E q h3 hp => wx_out (by decide) hp)
  refine wp_if_eq (tgt := 23) d_M_seen_6 (by decide) hp (fun _ hp => ?_) (fun _ hp => ?_)
  · exact wp_sub [0, 1, 2, 3] rfl (t_M_seen_23 _ _ _ _ _ _ hp)
  · refine wp_iload_n d_M_seen_9 2 rfl ?_
    refine wp_iconst (v := 0) (by decide) d_M_seen_10 ?_
    refine wp_bipush (v := 9) (by decide) d_M_seen_11 ?_
    refine wp_ci (M' := mi_M_in) (As := [.int x3, .int 0, .int 9]) (st := [.ref a1]) (fr' := 0) (wo' := 0) (dr_sS (A := [.int x3, .int 0, .int 9]) tw_734 tw_735 tw_5 co_M_in ⟨by decide, by decide⟩ (by rfl) d_M_seen_13 rfl) co_M_in (by decide +kernel) (by decide) (Nat.le_of_ble_eq_true rfl) (Nat.le_of_ble_eq_true rfl) (fun Q' hq => t_M_in _ _ _ _ hq) hp (fun x8 h7 hp => ?_) (fun E q h3 hp => wx_out (by decide) hp)
    refine wp_if_eq (tgt := 23) d_M_seen_16 (by decide) hp (fun _ hp => ?_) (fun _ hp => ?_)
    · exact wp_sub [0, 1, 2, 3] rfl (t_M_seen_23 _ _ _ _ _ _ hp)
    · refine wp_iconst (v := 1) (by decide) d_M_seen_19 ?_
      refine wp_goto (tgt := 24) d_M_seen_20 (by decide) ?_
      exact wp_sub [0, 1, 2, 3] rfl (t_M_seen_24 _ _ _ _ _ _ _ hp)
def f_M_fault_45 : Nat → Nat → Int32 → Int32 → Int32 → dr_AH → Option (dr_RS × dr_AH)
  | 0, _, _, _, _, _ => none
  | n + 1, a1, x2, x3, x4, h => if 41 ≤ x4 then dr_rz 0 h else (dr_gr' h 4 a1 7 fun a5 => (dr_az h a5 ((x2 * 41) + x4) fun x6 => if x6 = 0 then f_M_fault_45 n a1 x2 x3 (x4 + 1) h else (dr_gr' h 4 a1 22 fun a7 => (dr_ai h a7 ((x2 * 41) + x4) fun x8 => if x8 < 0 then f_M_fault_45 n a1 x2 x3 (x4 + 1) h else (dr_gr' h 4 a1 13 fun a9 => (dr_ai h a9 ((x2 * 41) + x4) fun x10 => if x10 = x3 then dr_rz 1 h else f_M_fault_45 n a1 x2 x3 (x4 + 1) h))))))
def f_M_fault_24 (a1 : Nat) (x2 : Int32) (x3 : Int32) (x4 : Int32) (a5 : Nat) (h : dr_AH) : Option (dr_RS × dr_AH) :=
  (dr_k h a5 4 (dr_ci' (f_M_goes a5 x4 1 1 h) fun x7 h6 => if x7 = 0 then dr_rz 0 h6 else (dr_gr' h6 4 a1 21 fun a8 => (dr_az h6 a8 x2 fun x9 => if x9 = 0 then f_M_fault_45 dr_fu a1 x2 x3 1 h6 else dr_rz 0 h6))))
def f_M_fault_23 (a1 : Nat) (x2 : Int32) (x3 : Int32) (a4 : Nat) (h : dr_AH) : Option (dr_RS × dr_AH) :=
  f_M_fault_24 a1 x2 x3 0 a4 h
def f_M_fault (a1 : Nat) (x2 : Int32) (x3 : Int32) (h : dr_AH) : Option (dr_RS × dr_AH) :=
  (dr_k h a1 4 (dr_ci' (f_M_isDrill a1 x2 h) fun x5 h4 => if x5 = 0 then f_M_fault_23 a1 x2 x3 a1 h4 else (dr_ci' (f_M_in x3 1 9 h4) fun x7 h6 => if x7 = 0 then f_M_fault_23 a1 x2 x3 a1 h6 else f_M_fault_24 a1 x2 x3 1 a1 h6)))
set_option maxRecDepth 100000 in
set_option maxHeartbeats 400000 in
theorem t_M_fault_45 {Q : dr_RS → dr_AH → Prop} : ∀ (n : Nat) (a1 : Nat) (x2 : Int32) (x3 : Int32) (x4 : Int32) (h : dr_AH), dr_p (f_M_fault_45 n a1 x2 x3 x4 h) Q → dr_W mi_M_fault 2 28 45 [(0, .ref a1), (1, .int x2), (2, .int x3), (3, .int x4)] [] h Q := by
  intro n
  induction n with
  | zero => intro a1 x2 x3 x4 h hp; exact (dr_p0 hp).elim
  | succ n ih =>
    intro a1 x2 x3 x4 h hp
    unfold f_M_fault_45 at hp
    refine wp_iload_n d_M_fault_45 3 rfl ?_
    refine wp_bipush (v := 41) (by decide) d_M_fault_46 ?_
    refine wp_icmp_ge (tgt := 102) d_M_fault_48 (by decide) hp (fun _ hp => ?_) (fun _ hp => ?_)
    · refine wp_iconst (v := 0) (by decide) d_M_fault_102 ?_
      exact wp_zreturn rfl d_M_fault_103 hp
    · refine wp_aload_n d_M_fault_51 0 rfl ?_
      refine wp_gr cl_M fl_M_17 (by decide) d_M_fault_52 hp (fun a5 hp => ?_) (fun hp => (dr_p0 hp).elim)
      refine wp_iload_n d_M_fault_55 1 rfl ?_
      refine wp_bipush (v := 41) (by decide) d_M_fault_56 ?_
      refine wp_imul d_M_fault_58 ?_
      refine wp_iload_n d_M_fault_59 3 rfl ?_
      refine wp_iadd d_M_fault_60 ?_
      refine wp_zaload d_M_fault_61 hp (fun x6 hp => ?_)
      refine wp_if_eq (tgt := 96) d_M_fault_62 (by decide) hp (fun _ hp => ?_) (fun _ hp => ?_)
      · refine wp_iinc (v := (x4 + 1)) (l' := [(3, .int (x4 + 1)), (0, .ref a1), (1, .int x2), (2, .int x3)]) d_M_fault_96 3 rfl rfl (by decide) rfl ?_
        refine wp_goto (tgt := 45) d_M_fault_99 (by decide) ?_
        exact wp_sub [1, 2, 3, 0] rfl (ih _ _ _ _ _ hp)
      · refine wp_aload_n d_M_fault_65 0 rfl ?_
        refine wp_gr cl_M fl_M_60 (by decide) d_M_fault_66 hp (fun a7 hp => ?_) (fun hp => (dr_p0 hp).elim)
        refine wp_iload_n d_M_fault_69 1 rfl ?_
        refine wp_bipush (v := 41) (by decide) d_M_fault_70 ?_
        refine wp_imul d_M_fault_72 ?_
        refine wp_iload_n d_M_fault_73 3 rfl ?_
        refine wp_iadd d_M_fault_74 ?_
        refine wp_iaload d_M_fault_75 hp (fun x8 hp => ?_)
        refine wp_if_lt (tgt := 96) d_M_fault_76 (by decide) hp (fun _ hp => ?_) (fun _ hp => ?_)
        · refine wp_iinc (v := (x4 + 1)) (l' := [(3, .int (x4 + 1)), (0, .ref a1), (1, .int x2), (2, .int x3)]) d_M_fault_96 3 rfl rfl (by decide) rfl ?_
          refine wp_goto (tgt := 45) d_M_fault_99 (by decide) ?_
          exact wp_sub [1, 2, 3, 0] rfl (ih _ _ _ _ _ hp)
        · refine wp_aload_n d_M_fault_79 0 rfl ?_
          refine wp_gr cl_M fl_M_36 (by decide) d_M_fault_80 hp (fun a9 hp => ?_) (fun hp => (dr_p0 hp).elim)
          refine wp_iload_n d_M_fault_83 1 rfl ?_
          refine wp_bipush (v := 41) (by decide) d_M_fault_84 ?_
          refine wp_imul d_M_fault_86 ?_
          refine wp_iload_n d_M_fault_87 3 rfl ?_
          refine wp_iadd d_M_fault_88 ?_
          refine wp_iaload d_M_fault_89 hp (fun x10 hp => ?_)
          refine wp_iload_n d_M_fault_90 2 rfl ?_
          refine wp_icmp_ne (tgt := 96) d_M_fault_91 (by decide) hp (fun _ hp => ?_) (fun _ hp => ?_)
          · refine wp_iinc (v := (x4 + 1)) (l' := [(3, .int (x4 + 1)), (0, .ref a1), (1, .int x2), (2, .int x3)]) d_M_fault_96 3 rfl rfl (by decide) rfl ?_
            refine wp_goto (tgt := 45) d_M_fault_99 (by decide) ?_
            exact wp_sub [1, 2, 3, 0] rfl (ih _ _ _ _ _ hp)
          · refine wp_iconst (v := 1) (by decide) d_M_fault_94 ?_
            exact wp_zreturn rfl d_M_fault_95 hp
set_option maxRecDepth 100000 in
set_option maxHeartbeats 400000 in
theorem t_M_fault_24 {Q : dr_RS → dr_AH → Prop} : ∀ (a1 : Nat) (x2 : Int32) (x3 : Int32) (x4 : Int32) (a5 : Nat) (h : dr_AH), dr_p (f_M_fault_24 a1 x2 x3 x4 a5 h) Q → dr_W mi_M_fault 2 28 24 [(0, .ref a1), (1, .int x2), (2, .int x3)] [.int x4, .ref a5] h Q := by
  intro a1 x2 x3 x4 a5 h hp
  unfold f_M_fault_24 at hp
  refine wp_iconst (v := 1) (by decide) d_M_fault_24 ?_
  refine wp_iconst (v := 1) (by decide) d_M_fault_25 ?_
  refine wp_k hp (fun hk hp => ?_)
  refine wp_ci (M' := mi_M_goes) (As := [.ref a5, .int x4, .int 1, .int 1]) (st := []) (fr' := 0) (wo' := 0) (dr_sV (A := [.int x4, .int 1, .int 1]) cl_M hk tw_737 tw_739 tp_16 co_M_goes ⟨by decide, by decide⟩ (by rfl) d_M_fault_26 rfl) co_M_goes (by decide +kernel) (by decide) (Nat.le_of_ble_eq_true rfl) (Nat.le_of_ble_eq_true rfl) (fun Q' hq => t_M_goes _ _ _ _ _ hq) hp (fun x7 h6 hp => ?_) (fun E q h3 hp => wx_out (by decide) hp)
  refine wp_if_eq (tgt := 41) d_M_fault_29 (by decide) hp (fun _ hp => ?_) (fun _ hp => ?_)
  · refine wp_iconst (v := 0) (by decide) d_M_fault_41 ?_
    exact wp_zreturn rfl d_M_fault_42 hp
  · refine wp_aload_n d_M_fault_32 0 rfl ?_
    refine wp_gr cl_M fl_M_57 (by decide) d_M_fault_33 hp (fun a8 hp => ?_) (fun hp => (dr_p0 hp).elim)
    refine wp_iload_n d_M_fault_36 1 rfl ?_
    refine wp_zaload d_M_fault_37 hp (fun x9 hp => ?_)
    refine wp_if_eq (tgt := 43) d_M_fault_38 (by decide) hp (fun _ hp => ?_) (fun _ hp => ?_)
    · refine wp_iconst (v := 1) (by decide) d_M_fault_43 ?_
      refine wp_istore_n (l' := [(3, .int 1), (0, .ref a1), (1, .int x2), (2, .int x3)]) d_M_fault_44 (by decide) rfl ?_
      exact wp_sub [1, 2, 3, 0] rfl (t_M_fault_45 dr_fu _ _ _ _ _ hp)
    · refine wp_iconst (v := 0) (by decide) d_M_fault_41 ?_
      exact wp_zreturn rfl d_M_fault_42 hp
set_option maxRecDepth 100000 in
set_option maxHeartbeats 400000 in
theorem t_M_fault_23 {Q : dr_RS → dr_AH → Prop} : ∀ (a1 : Nat) (x2 : Int32) (x3 : Int32) (a4 : Nat) (h : dr_AH), dr_p (f_M_fault_23 a1 x2 x3 a4 h) Q → dr_W mi_M_fault 2 28 23 [(0, .ref a1), (1, .int x2), (2, .int x3)] [.ref a4] h Q := by
  intro a1 x2 x3 a4 h hp
  unfold f_M_fault_23 at hp
  refine wp_iconst (v := 0) (by decide) d_M_fault_23 ?_
  exact wp_sub [0, 1, 2] rfl (t_M_fault_24 _ _ _ _ _ _ hp)
set_option maxRecDepth 100000 in
set_option maxHeartbeats 400000 in
theorem t_M_fault {Q : dr_RS → dr_AH → Prop} : ∀ (a1 : Nat) (x2 : Int32) (x3 : Int32) (h : dr_AH), dr_p (f_M_fault a1 x2 x3 h) Q → dr_W mi_M_fault 2 28 0 [(0, .ref a1), (1, .int x2), (2, .int x3)] [] h Q := by
  intro a1 x2 x3 h hp
  unfold f_M_fault at hp
  refine wp_aload_n d_M_fault_0 0 rfl ?_
  refine wp_aload_n d_M_fault_1 0 rfl ?_
  refine wp_iload_n d_M_fault_2 1 rfl ?_
  refine wp_k hp (fun hk hp => ?_)
  refine wp_ci (M' := mi_M_isDrill) (As := [.ref a1, .int x2]) (st := [.ref a1]) (fr' := 1) (wo' := 14) (dr_sV (A := [.int x2]) cl_M hk tw_817 tw_819 tp_32 co_M_isDrill ⟨by decide, by decide⟩ (by rfl) d_M_fault_3 rfl) co_M_isDrill (by decide +kernel) (by decide) (Nat.le_of_ble_eq_true rfl) (Nat.le_of_ble_eq_true rfl) (fun Q' hq => t_M_isDrill _ _ _ hq) hp (fun x5 h4 hp => ?_) (fun E q h3 hp => wx_out (by decide) hp)
  refine wp_if_eq (tgt := 23) d_M_fault_6 (by decide) hp (fun _ hp => ?_) (fun _ hp => ?_)
  · exact wp_sub [0, 1, 2] rfl (t_M_fault_23 _ _ _ _ _ hp)
  · refine wp_iload_n d_M_fault_9 2 rfl ?_
    refine wp_iconst (v := 1) (by decide) d_M_fault_10 ?_
    refine wp_bipush (v := 9) (by decide) d_M_fault_11 ?_
    refine wp_ci (M' := mi_M_in) (As := [.int x3, .int 1, .int 9]) (st := [.ref a1]) (fr' := 0) (wo' := 0) (dr_sS (A := [.int x3, .int 1, .int 9]) tw_734 tw_735 tw_5 co_M_in ⟨by decide, by decide⟩ (by rfl) d_M_fault_13 rfl) co_M_in (by decide +kernel) (by decide) (Nat.le_of_ble_eq_true rfl) (Nat.le_of_ble_eq_true rfl) (fun Q' hq => t_M_in _ _ _ _ hq) hp (fun x7 h6 hp => ?_) (fun E q h3 hp => wx_out (by decide) hp)
    refine wp_if_eq (tgt := 23) d_M_fault_16 (by decide) hp (fun _ hp => ?_) (fun _ hp => ?_)
    · exact wp_sub [0, 1, 2] rfl (t_M_fault_23 _ _ _ _ _ hp)
    · refine wp_iconst (v := 1) (by decide) d_M_fault_19 ?_
      refine wp_goto (tgt := 24) d_M_fault_20 (by decide) ?_
      exact wp_sub [0, 1, 2] rfl (t_M_fault_24 _ _ _ _ _ _ hp)
def f_M_is_66 (a1 : Nat) (x2 : Int32) (x3 : Int32) (x4 : Int32) (h : dr_AH) : Option (dr_RS × dr_AH) :=
  (dr_k h a1 4 (dr_ci' (f_M_relative a1 x2 h) fun x6 h5 => (dr_gr' h5 4 a1 17 fun a7 => (dr_ai h5 a7 x3 fun x8 => if x6 ≤ (x4 + x8) then (dr_gr' h5 4 a1 21 fun a9 => (dr_az h5 a9 x2 fun x10 => if x10 = 0 then some (.inl (some (.int 0)), h5) else some (.inl (some (.int 2)), h5))) else some (.inl (some (.int 2)), h5)))))
def f_M_is (a1 : Nat) (x2 : Int32) (x3 : Int32) (h : dr_AH) : Option (dr_RS × dr_AH) :=
  (dr_gr' h 4 a1 22 fun a4 => (dr_gr' h 4 a1 15 fun a5 => (dr_ai h a5 ((x2 * 21) + x3) fun x6 => (dr_ai h a4 ((x2 * 41) + x6) fun x7 => if x7 < 0 then (dr_gr' h 4 a1 21 fun a8 => (dr_az h a8 x2 fun x9 => if x9 = 0 then some (.inl (some (.int 0)), h) else some (.inl (some (.int 2)), h))) else (dr_gr' h 4 a1 16 fun a10 => (dr_ai h a10 ((x2 * 21) + x3) fun x11 => (dr_k h a1 4 (dr_ci' (f_M_first a1 x2 x11 x7 h) fun x13 h12 => if x13 < 0 then f_M_is_66 a1 x2 ((x2 * 21) + x3) x7 h12 else (dr_gr' h12 4 a1 17 fun a14 => (dr_ai h12 a14 ((x2 * 21) + x3) fun x15 => if (x7 + x15) < x13 then f_M_is_66 a1 x2 ((x2 * 21) + x3) x7 h12 else some (.inl (some (.int 1)), h12)))))))))))
set_option maxRecDepth 100000 in
set_option maxHeartbeats 400000 in
theorem t_M_is_66 {Q : dr_RS → dr_AH → Prop} : ∀ (a1 : Nat) (x2 : Int32) (x3 : Int32) (x4 : Int32) (h : dr_AH), dr_p (f_M_is_66 a1 x2 x3 x4 h) Q → dr_W mi_M_is 1 16 66 [(0, .ref a1), (1, .int x2), (3, .int x3), (4, .int x4)] [] h Q := by
  intro a1 x2 x3 x4 h hp
  unfold f_M_is_66 at hp
  refine wp_aload_n d_M_is_66 0 rfl ?_
  refine wp_iload_n d_M_is_67 1 rfl ?_
  refine wp_k hp (fun hk hp => ?_)
  refine wp_ci (M' := mi_M_relative) (As := [.ref a1, .int x2]) (st := []) (fr' := 0) (wo' := 0) (dr_sV (A := [.int x2]) cl_M hk tw_805 tw_807 tp_30 co_M_relative ⟨by decide, by decide⟩ (by rfl) d_M_is_68 rfl) co_M_relative (by decide +kernel) (by decide) (Nat.le_of_ble_eq_true rfl) (Nat.le_of_ble_eq_true rfl) (fun Q' hq => t_M_relative _ _ _ hq) hp (fun x6 h5 hp => ?_) (fun E q h3 hp => wx_out (by decide) hp)
  refine wp_iload d_M_is_71 3 rfl ?_
  refine wp_aload_n d_M_is_73 0 rfl ?_
  refine wp_gr cl_M fl_M_48 (by decide) d_M_is_74 hp (fun a7 hp => ?_) (fun hp => (dr_p0 hp).elim)
  refine wp_iload_n d_M_is_77 2 rfl ?_
  refine wp_iaload d_M_is_78 hp (fun x8 hp => ?_)
  refine wp_iadd d_M_is_79 ?_
  refine wp_icmp_le (tgt := 85) d_M_is_80 (by decide) hp (fun _ hp => ?_) (fun _ hp => ?_)
  · refine wp_aload_n d_M_is_85 0 rfl ?_
    refine wp_gr cl_M fl_M_57 (by decide) d_M_is_86 hp (fun a9 hp => ?_) (fun hp => (dr_p0 hp).elim)
    refine wp_iload_n d_M_is_89 1 rfl ?_
    refine wp_zaload d_M_is_90 hp (fun x10 hp => ?_)
    refine wp_if_eq (tgt := 98) d_M_is_91 (by decide) hp (fun _ hp => ?_) (fun _ hp => ?_)
    · refine wp_iconst (v := 0) (by decide) d_M_is_98 ?_
      exact wp_ireturn rfl rfl d_M_is_99 hp
    · refine wp_iconst (v := 2) (by decide) d_M_is_94 ?_
      refine wp_goto (tgt := 99) d_M_is_95 (by decide) ?_
      exact wp_ireturn rfl rfl d_M_is_99 hp
  · refine wp_iconst (v := 2) (by decide) d_M_is_83 ?_
    exact wp_ireturn rfl rfl d_M_is_84 hp
set_option maxRecDepth 100000 in
set_option maxHeartbeats 400000 in
theorem t_M_is {Q : dr_RS → dr_AH → Prop} : ∀ (a1 : Nat) (x2 : Int32) (x3 : Int32) (h : dr_AH), dr_p (f_M_is a1 x2 x3 h) Q → dr_W mi_M_is 1 16 0 [(0, .ref a1), (1, .int x2), (2, .int x3)] [] h Q := by
  intro a1 x2 x3 h hp
  unfold f_M_is at hp
  refine wp_iload_n d_M_is_0 1 rfl ?_
  refine wp_bipush (v := 21) (by decide) d_M_is_1 ?_
  refine wp_imul d_M_is_3 ?_
  refine wp_iload_n d_M_is_4 2 rfl ?_
  refine wp_iadd d_M_is_5 ?_
  refine wp_istore_n (l' := [(3, .int ((x2 * 21) + x3)), (0, .ref a1), (1, .int x2), (2, .int x3)]) d_M_is_6 (by decide) rfl ?_
  refine wp_aload_n d_M_is_7 1 rfl ?_
  refine wp_gr cl_M fl_M_60 (by decide) d_M_is_8 hp (fun a4 hp => ?_) (fun hp => (dr_p0 hp).elim)
  refine wp_iload_n d_M_is_11 2 rfl ?_
  refine wp_bipush (v := 41) (by decide) d_M_is_12 ?_
  refine wp_imul d_M_is_14 ?_
  refine wp_aload_n d_M_is_15 1 rfl ?_
  refine wp_gr cl_M fl_M_42 (by decide) d_M_is_16 hp (fun a5 hp => ?_) (fun hp => (dr_p0 hp).elim)
  refine wp_iload_n d_M_is_19 0 rfl ?_
  refine wp_iaload d_M_is_20 hp (fun x6 hp => ?_)
  refine wp_iadd d_M_is_21 ?_
  refine wp_iaload d_M_is_22 hp (fun x7 hp => ?_)
  refine wp_istore (l' := [(4, .int x7), (3, .int ((x2 * 21) + x3)), (0, .ref a1), (1, .int x2), (2, .int x3)]) d_M_is_23 (by decide) rfl ?_
  refine wp_iload d_M_is_25 0 rfl ?_
  refine wp_if_lt (tgt := 85) d_M_is_27 (by decide) hp (fun _ hp => ?_) (fun _ hp => ?_)
  · refine wp_aload_n d_M_is_85 2 rfl ?_
    refine wp_gr cl_M fl_M_57 (by decide) d_M_is_86 hp (fun a8 hp => ?_) (fun hp => (dr_p0 hp).elim)
    refine wp_iload_n d_M_is_89 3 rfl ?_
    refine wp_zaload d_M_is_90 hp (fun x9 hp => ?_)
    refine wp_if_eq (tgt := 98) d_M_is_91 (by decide) hp (fun _ hp => ?_) (fun _ hp => ?_)
    · refine wp_iconst (v := 0) (by decide) d_M_is_98 ?_
      exact wp_ireturn rfl rfl d_M_is_99 hp
    · refine wp_iconst (v := 2) (by decide) d_M_is_94 ?_
      refine wp_goto (tgt := 99) d_M_is_95 (by decide) ?_
      exact wp_ireturn rfl rfl d_M_is_99 hp
  · refine wp_aload_n d_M_is_30 2 rfl ?_
    refine wp_iload_n d_M_is_31 3 rfl ?_
    refine wp_aload_n d_M_is_32 2 rfl ?_
    refine wp_gr cl_M fl_M_45 (by decide) d_M_is_33 hp (fun a10 hp => ?_) (fun hp => (dr_p0 hp).elim)
    refine wp_iload_n d_M_is_36 1 rfl ?_
    refine wp_iaload d_M_is_37 hp (fun x11 hp => ?_)
    refine wp_iload d_M_is_38 0 rfl ?_
    refine wp_k hp (fun hk hp => ?_)
    refine wp_ci (M' := mi_M_first) (As := [.ref a1, .int x2, .int x11, .int x7]) (st := []) (fr' := 0) (wo' := 0) (dr_sV (A := [.int x2, .int x11, .int x7]) cl_M hk tw_809 tw_811 tp_31 co_M_first ⟨by decide, by decide⟩ (by rfl) d_M_is_40 rfl) co_M_first (by decide +kernel) (by decide) (Nat.le_of_ble_eq_true rfl) (Nat.le_of_ble_eq_true rfl) (fun Q' hq => t_M_first _ _ _ _ _ hq) hp (fun x13 h12 hp => ?_) (fun E q h3 hp => wx_out (by decide) hp)
    refine wp_istore (l' := [(5, .int x13), (4, .int x7), (3, .int ((x2 * 21) + x3)), (0, .ref a1), (1, .int x2), (2, .int x3)]) d_M_is_43 (by decide) rfl ?_
    refine wp_iload d_M_is_45 0 rfl ?_
    refine wp_if_lt (tgt := 66) d_M_is_47 (by decide) hp (fun _ hp => ?_) (fun _ hp => ?_)
    · exact wp_sub [3, 4, 2, 1] rfl (t_M_is_66 _ _ _ _ _ hp)
    · refine wp_iload d_M_is_50 0 rfl ?_
      refine wp_iload d_M_is_52 1 rfl ?_
      refine wp_aload_n d_M_is_54 3 rfl ?_
      refine wp_gr cl_M fl_M_48 (by decide) d_M_is_55 hp (fun a14 hp => ?_) (fun hp => (dr_p0 hp).elim)
      refine wp_iload_n d_M_is_58 2 rfl ?_
      refine wp_iaload d_M_is_59 hp (fun x15 hp => ?_)
      refine wp_iadd d_M_is_60 ?_
      refine wp_icmp_gt (tgt := 66) d_M_is_61 (by decide) hp (fun _ hp => ?_) (fun _ hp => ?_)
      · exact wp_sub [3, 4, 2, 1] rfl (t_M_is_66 _ _ _ _ _ hp)
      · refine wp_iconst (v := 1) (by decide) d_M_is_64 ?_
        exact wp_ireturn rfl rfl d_M_is_65 hp
def f_M_aim_56 (a1 : Nat) (x2 : Int32) (x3 : Int32) (x4 : Int32) (a5 : Nat) (h : dr_AH) : Option (dr_RS × dr_AH) :=
  (dr_k h a5 4 (dr_ci' (f_M_goes a5 x4 1 1 h) fun x7 h6 => if x7 = 0 then some (.inl (some (.int 0)), h6) else (dr_k h6 a1 4 (dr_ci' (f_M_is a1 x2 x3 h6) fun x9 h8 => some (.inl (some (.int x9)), h8)))))
def f_M_aim_55 (a1 : Nat) (x2 : Int32) (x3 : Int32) (a4 : Nat) (h : dr_AH) : Option (dr_RS × dr_AH) :=
  f_M_aim_56 a1 x2 x3 0 a4 h
def f_M_aim_47 (a1 : Nat) (x2 : Int32) (x3 : Int32) (x4 : Int32) (a5 : Nat) (a6 : Nat) (h : dr_AH) : Option (dr_RS × dr_AH) :=
  (dr_az h a5 x4 fun x7 => if x7 = 0 then f_M_aim_55 a1 x2 x3 a6 h else f_M_aim_56 a1 x2 x3 1 a6 h)
def f_M_aim_23 (a1 : Nat) (x2 : Int32) (x3 : Int32) (x4 : Int32) (h : dr_AH) : Option (dr_RS × dr_AH) :=
  if x4 = 0 then f_M_aim_55 a1 x2 x3 a1 h else (dr_gr' h 4 a1 14 fun a5 => if x4 = 0 then f_M_aim_47 a1 x2 x3 0 a5 a1 h else f_M_aim_47 a1 x2 x3 ((x2 * 21) + x3) a5 a1 h)
def f_M_aim_22 (a1 : Nat) (x2 : Int32) (x3 : Int32) (h : dr_AH) : Option (dr_RS × dr_AH) :=
  f_M_aim_23 a1 x2 x3 0 h
def f_M_aim (a1 : Nat) (x2 : Int32) (x3 : Int32) (h : dr_AH) : Option (dr_RS × dr_AH) :=
  (dr_k h a1 4 (dr_ci' (f_M_isDrill a1 x2 h) fun x5 h4 => if x5 = 0 then f_M_aim_22 a1 x2 x3 h4 else (dr_ci' (f_M_in x3 1 20 h4) fun x7 h6 => if x7 = 0 then f_M_aim_22 a1 x2 x3 h6 else f_M_aim_23 a1 x2 x3 1 h6)))
set_option maxRecDepth 100000 in
set_option maxHeartbeats 400000 in
theorem t_M_aim_56 {Q : dr_RS → dr_AH → Prop} : ∀ (a1 : Nat) (x2 : Int32) (x3 : Int32) (x4 : Int32) (a5 : Nat) (h : dr_AH), dr_p (f_M_aim_56 a1 x2 x3 x4 a5 h) Q → dr_W mi_M_aim 2 33 56 [(0, .ref a1), (1, .int x2), (2, .int x3)] [.int x4, .ref a5] h Q := by
  intro a1 x2 x3 x4 a5 h hp
  unfold f_M_aim_56 at hp
  refine wp_iconst (v := 1) (by decide) d_M_aim_56 ?_
  refine wp_iconst (v := 1) (by decide) d_M_aim_57 ?_
  refine wp_k hp (fun hk hp => ?_)
  refine wp_ci (M' := mi_M_goes) (As := [.ref a5, .int x4, .int 1, .int 1]) (st := []) (fr' := 0) (wo' := 0) (dr_sV (A := [.int x4, .int 1, .int 1]) cl_M hk tw_737 tw_739 tp_16 co_M_goes ⟨by decide, by decide⟩ (by rfl) d_M_aim_58 rfl) co_M_goes (by decide +kernel) (by decide) (Nat.le_of_ble_eq_true rfl) (Nat.le_of_ble_eq_true rfl) (fun Q' hq => t_M_goes _ _ _ _ _ hq) hp (fun x7 h6 hp => ?_) (fun E q h3 hp => wx_out (by decide) hp)
  refine wp_if_ne (tgt := 66) d_M_aim_61 (by decide) hp (fun _ hp => ?_) (fun _ hp => ?_)
  · refine wp_aload_n d_M_aim_66 0 rfl ?_
    refine wp_iload_n d_M_aim_67 1 rfl ?_
    refine wp_iload_n d_M_aim_68 2 rfl ?_
    refine wp_k hp (fun hk hp => ?_)
    refine wp_ci (M' := mi_M_is) (As := [.ref a1, .int x2, .int x3]) (st := []) (fr' := 1) (wo' := 16) (dr_sV (A := [.int x2, .int x3]) cl_M hk tw_863 tw_865 tp_34 co_M_is ⟨by decide, by decide⟩ (by rfl) d_M_aim_69 rfl) co_M_is (by decide +kernel) (by decide) (Nat.le_of_ble_eq_true rfl) (Nat.le_of_ble_eq_true rfl) (fun Q' hq => t_M_is _ _ _ _ hq) hp (fun x9 h8 hp => ?_) (fun E q h3 hp => wx_out (by decide) hp)
    exact wp_ireturn rfl rfl d_M_aim_72 hp
  · refine wp_iconst (v := 0) (by decide) d_M_aim_64 ?_
    exact wp_ireturn rfl rfl d_M_aim_65 hp
set_option maxRecDepth 100000 in
set_option maxHeartbeats 400000 in
theorem t_M_aim_55 {Q : dr_RS → dr_AH → Prop} : ∀ (a1 : Nat) (x2 : Int32) (x3 : Int32) (a4 : Nat) (h : dr_AH), dr_p (f_M_aim_55 a1 x2 x3 a4 h) Q → dr_W mi_M_aim 2 33 55 [(0, .ref a1), (1, .int x2), (2, .int x3)] [.ref a4] h Q := by
  intro a1 x2 x3 a4 h hp
  unfold f_M_aim_55 at hp
  refine wp_iconst (v := 0) (by decide) d_M_aim_55 ?_
  exact wp_sub [0, 1, 2] rfl (t_M_aim_56 _ _ _ _ _ _ hp)
set_option maxRecDepth 100000 in
set_option maxHeartbeats 400000 in
theorem t_M_aim_47 {Q : dr_RS → dr_AH → Prop} : ∀ (a1 : Nat) (x2 : Int32) (x3 : Int32) (x4 : Int32) (a5 : Nat) (a6 : Nat) (h : dr_AH), dr_p (f_M_aim_47 a1 x2 x3 x4 a5 a6 h) Q → dr_W mi_M_aim 2 33 47 [(0, .ref a1), (1, .int x2), (2, .int x3)] [.int x4, .ref a5, .ref a6] h Q := by
  intro a1 x2 x3 x4 a5 a6 h hp
  unfold f_M_aim_47 at hp
  refine wp_zaload d_M_aim_47 hp (fun x7 hp => ?_)
  refine wp_if_eq (tgt := 55) d_M_aim_48 (by decide) hp (fun _ hp => ?_) (fun _ hp => ?_)
  · exact wp_sub [0, 1, 2] rfl (t_M_aim_55 _ _ _ _ _ hp)
  · refine wp_iconst (v := 1) (by decide) d_M_aim_51 ?_
    refine wp_goto (tgt := 56) d_M_aim_52 (by decide) ?_
    exact wp_sub [0, 1, 2] rfl (t_M_aim_56 _ _ _ _ _ _ hp)
set_option maxRecDepth 100000 in
set_option maxHeartbeats 400000 in
theorem t_M_aim_23 {Q : dr_RS → dr_AH → Prop} : ∀ (a1 : Nat) (x2 : Int32) (x3 : Int32) (x4 : Int32) (h : dr_AH), dr_p (f_M_aim_23 a1 x2 x3 x4 h) Q → dr_W mi_M_aim 2 33 23 [(0, .ref a1), (1, .int x2), (2, .int x3)] [.int x4] h Q := by
  intro a1 x2 x3 x4 h hp
  unfold f_M_aim_23 at hp
  refine wp_istore_n (l' := [(3, .int x4), (0, .ref a1), (1, .int x2), (2, .int x3)]) d_M_aim_23 (by decide) rfl ?_
  refine wp_aload_n d_M_aim_24 1 rfl ?_
  refine wp_iload_n d_M_aim_25 0 rfl ?_
  refine wp_if_eq (tgt := 55) d_M_aim_26 (by decide) hp (fun _ hp => ?_) (fun _ hp => ?_)
  · exact wp_sub [1, 2, 3] rfl (t_M_aim_55 _ _ _ _ _ hp)
  · refine wp_aload_n d_M_aim_29 1 rfl ?_
    refine wp_gr cl_M fl_M_39 (by decide) d_M_aim_30 hp (fun a5 hp => ?_) (fun hp => (dr_p0 hp).elim)
    refine wp_iload_n d_M_aim_33 0 rfl ?_
    refine wp_if_eq (tgt := 46) d_M_aim_34 (by decide) hp (fun _ hp => ?_) (fun _ hp => ?_)
    · refine wp_iconst (v := 0) (by decide) d_M_aim_46 ?_
      exact wp_sub [1, 2, 3] rfl (t_M_aim_47 _ _ _ _ _ _ _ hp)
    · refine wp_iload_n d_M_aim_37 2 rfl ?_
      refine wp_bipush (v := 21) (by decide) d_M_aim_38 ?_
      refine wp_imul d_M_aim_40 ?_
      refine wp_iload_n d_M_aim_41 3 rfl ?_
      refine wp_iadd d_M_aim_42 ?_
      refine wp_goto (tgt := 47) d_M_aim_43 (by decide) ?_
      exact wp_sub [1, 2, 3] rfl (t_M_aim_47 _ _ _ _ _ _ _ hp)
set_option maxRecDepth 100000 in
set_option maxHeartbeats 400000 in
theorem t_M_aim_22 {Q : dr_RS → dr_AH → Prop} : ∀ (a1 : Nat) (x2 : Int32) (x3 : Int32) (h : dr_AH), dr_p (f_M_aim_22 a1 x2 x3 h) Q → dr_W mi_M_aim 2 33 22 [(0, .ref a1), (1, .int x2), (2, .int x3)] [] h Q := by
  intro a1 x2 x3 h hp
  unfold f_M_aim_22 at hp
  refine wp_iconst (v := 0) (by decide) d_M_aim_22 ?_
  exact wp_sub [0, 1, 2] rfl (t_M_aim_23 _ _ _ _ _ hp)
set_option maxRecDepth 100000 in
set_option maxHeartbeats 400000 in
theorem t_M_aim {Q : dr_RS → dr_AH → Prop} : ∀ (a1 : Nat) (x2 : Int32) (x3 : Int32) (h : dr_AH), dr_p (f_M_aim a1 x2 x3 h) Q → dr_W mi_M_aim 2 33 0 [(0, .ref a1), (1, .int x2), (2, .int x3)] [] h Q := by
  intro a1 x2 x3 h hp
  unfold f_M_aim at hp
  refine wp_aload_n d_M_aim_0 0 rfl ?_
  refine wp_iload_n d_M_aim_1 1 rfl ?_
  refine wp_k hp (fun hk hp => ?_)
  refine wp_ci (M' := mi_M_isDrill) (As := [.ref a1, .int x2]) (st := []) (fr' := 1) (wo' := 14) (dr_sV (A := [.int x2]) cl_M hk tw_817 tw_819 tp_32 co_M_isDrill ⟨by decide, by decide⟩ (by rfl) d_M_aim_2 rfl) co_M_isDrill (by decide +kernel) (by decide) (Nat.le_of_ble_eq_true rfl) (Nat.le_of_ble_eq_true rfl) (fun Q' hq => t_M_isDrill _ _ _ hq) hp (fun x5 h4 hp => ?_) (fun E q h3 hp => wx_out (by decide) hp)
  refine wp_if_eq (tgt := 22) d_M_aim_5 (by decide) hp (fun _ hp => ?_) (fun _ hp => ?_)
  · exact wp_sub [0, 1, 2] rfl (t_M_aim_22 _ _ _ _ hp)
  · refine wp_iload_n d_M_aim_8 2 rfl ?_
    refine wp_iconst (v := 1) (by decide) d_M_aim_9 ?_
    refine wp_bipush (v := 20) (by decide) d_M_aim_10 ?_
    refine wp_ci (M' := mi_M_in) (As := [.int x3, .int 1, .int 20]) (st := []) (fr' := 0) (wo' := 0) (dr_sS (A := [.int x3, .int 1, .int 20]) tw_734 tw_735 tw_5 co_M_in ⟨by decide, by decide⟩ (by rfl) d_M_aim_12 rfl) co_M_in (by decide +kernel) (by decide) (Nat.le_of_ble_eq_true rfl) (Nat.le_of_ble_eq_true rfl) (fun Q' hq => t_M_in _ _ _ _ hq) hp (fun x7 h6 hp => ?_) (fun E q h3 hp => wx_out (by decide) hp)
    refine wp_if_eq (tgt := 22) d_M_aim_15 (by decide) hp (fun _ hp => ?_) (fun _ hp => ?_)
    · exact wp_sub [0, 1, 2] rfl (t_M_aim_22 _ _ _ _ hp)
    · refine wp_iconst (v := 1) (by decide) d_M_aim_18 ?_
      refine wp_goto (tgt := 23) d_M_aim_19 (by decide) ?_
      exact wp_sub [0, 1, 2] rfl (t_M_aim_23 _ _ _ _ _ hp)
def f_M_score_141 : Nat → Int32 → Int32 → Int32 → Int32 → Int32 → dr_AH → Option (dr_RS × dr_AH)
  | 0, _, _, _, _, _, _ => none
  | n + 1, x1, x2, x3, x4, x5, h => if x5 ≤ 0 then if x1 = 0 then (if (x4 : Int32) = 0 then none else some (.inl (some (.int (x2 / x4))), h)) else (if (x4 : Int32) = 0 then none else some (.inl (some (.int (x3 / x4))), h)) else (if (x5 : Int32) = 0 then none else f_M_score_141 n x1 x2 x3 x5 (x4 - x4 / x5 * x5) h)
def f_M_score_112 (a1 : Nat) (x2 : Int32) (x3 : Int32) (x4 : Int32) (x5 : Int32) (h : dr_AH) : Option (dr_RS × dr_AH) :=
  if x5 ≤ 0 then (dr_k h a1 4 (dr_ci' (f_M_goes a1 x3 0 1 h) fun x7 h6 => if x7 = 0 then some (.inl (some (.int 0)), h6) else f_M_score_141 dr_fu x2 x4 x5 x5 x4 h6)) else (dr_k h a1 4 (dr_ci' (f_M_goes a1 x3 1 1 h) fun x9 h8 => if x9 = 0 then some (.inl (some (.int 0)), h8) else f_M_score_141 dr_fu x2 x4 x5 x5 x4 h8))
def f_M_score_32 : Nat → Nat → Int32 → Int32 → Int32 → Int32 → Int32 → Int32 → dr_AH → Option (dr_RS × dr_AH)
  | 0, _, _, _, _, _, _, _, _ => none
  | n + 1, a1, x2, x3, x4, x5, x6, x7, h => if 21 ≤ x7 then f_M_score_112 a1 x3 x4 x5 x6 h else if x4 = 0 then f_M_score_112 a1 x3 x4 x5 x6 h else (dr_gr' h 4 a1 14 fun a8 => (dr_az h a8 ((x2 * 21) + x7) fun x9 => if x9 = 0 then f_M_score_32 n a1 x2 x3 x4 x5 x6 (x7 + 1) h else (dr_gr' h 4 a1 18 fun a10 => (dr_ai h a10 ((x2 * 21) + x7) fun x11 => (dr_k h a1 4 (dr_ci' (f_M_is a1 x2 x7 h) fun x13 h12 => if x13 = 1 then (dr_gr' h12 4 a1 18 fun a14 => (dr_ai h12 a14 ((x2 * 21) + x7) fun x15 => f_M_score_32 n a1 x2 x3 x4 (x5 + x15) (x6 + x11) (x7 + 1) h12)) else f_M_score_32 n a1 x2 x3 x4 x5 (x6 + x11) (x7 + 1) h12))))))
def f_M_score (a1 : Nat) (x2 : Int32) (x3 : Int32) (h : dr_AH) : Option (dr_RS × dr_AH) :=
  (dr_k h a1 4 (dr_ci' (f_M_isDrill a1 x2 h) fun x5 h4 => if x5 = 0 then f_M_score_32 dr_fu a1 x2 x3 0 0 0 1 h4 else (dr_ci' (f_M_in x3 0 1 h4) fun x7 h6 => if x7 = 0 then f_M_score_32 dr_fu a1 x2 x3 0 0 0 1 h6 else f_M_score_32 dr_fu a1 x2 x3 1 0 0 1 h6)))
set_option maxRecDepth 100000 in
set_option maxHeartbeats 400000 in
theorem t_M_score_141 {Q : dr_RS → dr_AH → Prop} : ∀ (n : Nat) (x1 : Int32) (x2 : Int32) (x3 : Int32) (x4 : Int32) (x5 : Int32) (h : dr_AH), dr_p (f_M_score_141 n x1 x2 x3 x4 x5 h) Q → dr_W mi_M_score 2 33 141 [(2, .int x1), (4, .int x2), (5, .int x3), (6, .int x4), (7, .int x5)] [] h Q := by
  intro n
  induction n with
  | zero => intro x1 x2 x3 x4 x5 h hp; exact (dr_p0 hp).elim
  | succ n ih =>
    intro x1 x2 x3 x4 x5 h hp
    unfold f_M_score_141 at hp
    refine wp_iload d_M_score_141 4 rfl ?_
    refine wp_if_le (tgt := 164) d_M_score_143 (by decide) hp (fun _ hp => ?_) (fun _ hp => ?_)
    · refine wp_iload_n d_M_score_164 0 rfl ?_
      refine wp_if_ne (tgt := 173) d_M_score_165 (by decide) hp (fun _ hp => ?_) (fun _ hp => ?_)
      · refine wp_iload d_M_score_173 2 rfl ?_
        refine wp_iload d_M_score_175 3 rfl ?_
        refine wp_idiv d_M_score_177 hp (fun _ hp => ?_)
        exact wp_ireturn rfl rfl d_M_score_178 hp
      · refine wp_iload d_M_score_168 1 rfl ?_
        refine wp_goto (tgt := 175) d_M_score_170 (by decide) ?_
        refine wp_iload d_M_score_175 3 rfl ?_
        refine wp_idiv d_M_score_177 hp (fun _ hp => ?_)
        exact wp_ireturn rfl rfl d_M_score_178 hp
    · refine wp_iload d_M_score_146 3 rfl ?_
      refine wp_iload d_M_score_148 4 rfl ?_
      refine wp_irem d_M_score_150 hp (fun _ hp => ?_)
      refine wp_istore (l' := [(8, .int (x4 - x4 / x5 * x5)), (2, .int x1), (4, .int x2), (5, .int x3), (6, .int x4), (7, .int x5)]) d_M_score_151 (by decide) rfl ?_
      refine wp_iload d_M_score_153 5 rfl ?_
      refine wp_istore (l' := [(6, .int x5), (8, .int (x4 - x4 / x5 * x5)), (2, .int x1), (4, .int x2), (5, .int x3), (7, .int x5)]) d_M_score_155 (by decide) rfl ?_
      refine wp_iload d_M_score_157 1 rfl ?_
      refine wp_istore (l' := [(7, .int (x4 - x4 / x5 * x5)), (6, .int x5), (8, .int (x4 - x4 / x5 * x5)), (2, .int x1), (4, .int x2), (5, .int x3)]) d_M_score_159 (by decide) rfl ?_
      refine wp_goto (tgt := 141) d_M_score_161 (by decide) ?_
      exact wp_sub [3, 4, 5, 1, 0] rfl (ih _ _ _ _ _ _ hp)
set_option maxRecDepth 100000 in
set_option maxHeartbeats 400000 in
theorem t_M_score_112 {Q : dr_RS → dr_AH → Prop} : ∀ (a1 : Nat) (x2 : Int32) (x3 : Int32) (x4 : Int32) (x5 : Int32) (h : dr_AH), dr_p (f_M_score_112 a1 x2 x3 x4 x5 h) Q → dr_W mi_M_score 2 33 112 [(0, .ref a1), (2, .int x2), (3, .int x3), (4, .int x4), (5, .int x5)] [] h Q := by
  intro a1 x2 x3 x4 x5 h hp
  unfold f_M_score_112 at hp
  refine wp_aload_n d_M_score_112 0 rfl ?_
  refine wp_iload_n d_M_score_113 2 rfl ?_
  refine wp_iload d_M_score_114 4 rfl ?_
  refine wp_if_le (tgt := 123) d_M_score_116 (by decide) hp (fun _ hp => ?_) (fun _ hp => ?_)
  · refine wp_iconst (v := 0) (by decide) d_M_score_123 ?_
    refine wp_iconst (v := 1) (by decide) d_M_score_124 ?_
    refine wp_k hp (fun hk hp => ?_)
    refine wp_ci (M' := mi_M_goes) (As := [.ref a1, .int x3, .int 0, .int 1]) (st := []) (fr' := 0) (wo' := 0) (dr_sV (A := [.int x3, .int 0, .int 1]) cl_M hk tw_737 tw_739 tp_16 co_M_goes ⟨by decide, by decide⟩ (by rfl) d_M_score_125 rfl) co_M_goes (by decide +kernel) (by decide) (Nat.le_of_ble_eq_true rfl) (Nat.le_of_ble_eq_true rfl) (fun Q' hq => t_M_goes _ _ _ _ _ hq) hp (fun x7 h6 hp => ?_) (fun E q h3 hp => wx_out (by decide) hp)
    refine wp_if_ne (tgt := 133) d_M_score_128 (by decide) hp (fun _ hp => ?_) (fun _ hp => ?_)
    · refine wp_iload d_M_score_133 4 rfl ?_
      refine wp_istore (l' := [(6, .int x5), (0, .ref a1), (2, .int x2), (3, .int x3), (4, .int x4), (5, .int x5)]) d_M_score_135 (by decide) rfl ?_
      refine wp_iload d_M_score_137 4 rfl ?_
      refine wp_istore (l' := [(7, .int x4), (6, .int x5), (0, .ref a1), (2, .int x2), (3, .int x3), (4, .int x4), (5, .int x5)]) d_M_score_139 (by decide) rfl ?_
      exact wp_sub [3, 5, 6, 1, 0] rfl (t_M_score_141 dr_fu _ _ _ _ _ _ hp)
    · refine wp_iconst (v := 0) (by decide) d_M_score_131 ?_
      exact wp_ireturn rfl rfl d_M_score_132 hp
  · refine wp_iconst (v := 1) (by decide) d_M_score_119 ?_
    refine wp_goto (tgt := 124) d_M_score_120 (by decide) ?_
    refine wp_iconst (v := 1) (by decide) d_M_score_124 ?_
    refine wp_k hp (fun hk hp => ?_)
    refine wp_ci (M' := mi_M_goes) (As := [.ref a1, .int x3, .int 1, .int 1]) (st := []) (fr' := 0) (wo' := 0) (dr_sV (A := [.int x3, .int 1, .int 1]) cl_M hk tw_737 tw_739 tp_16 co_M_goes ⟨by decide, by decide⟩ (by rfl) d_M_score_125 rfl) co_M_goes (by decide +kernel) (by decide) (Nat.le_of_ble_eq_true rfl) (Nat.le_of_ble_eq_true rfl) (fun Q' hq => t_M_goes _ _ _ _ _ hq) hp (fun x9 h8 hp => ?_) (fun E q h3 hp => wx_out (by decide) hp)
    refine wp_if_ne (tgt := 133) d_M_score_128 (by decide) hp (fun _ hp => ?_) (fun _ hp => ?_)
    · refine wp_iload d_M_score_133 4 rfl ?_
      refine wp_istore (l' := [(6, .int x5), (0, .ref a1), (2, .int x2), (3, .int x3), (4, .int x4), (5, .int x5)]) d_M_score_135 (by decide) rfl ?_
      refine wp_iload d_M_score_137 4 rfl ?_
      refine wp_istore (l' := [(7, .int x4), (6, .int x5), (0, .ref a1), (2, .int x2), (3, .int x3), (4, .int x4), (5, .int x5)]) d_M_score_139 (by decide) rfl ?_
      exact wp_sub [3, 5, 6, 1, 0] rfl (t_M_score_141 dr_fu _ _ _ _ _ _ hp)
    · refine wp_iconst (v := 0) (by decide) d_M_score_131 ?_
      exact wp_ireturn rfl rfl d_M_score_132 hp
set_option maxRecDepth 100000 in
set_option maxHeartbeats 400000 in
theorem t_M_score_32 {Q : dr_RS → dr_AH → Prop} : ∀ (n : Nat) (a1 : Nat) (x2 : Int32) (x3 : Int32) (x4 : Int32) (x5 : Int32) (x6 : Int32) (x7 : Int32) (h : dr_AH), dr_p (f_M_score_32 n a1 x2 x3 x4 x5 x6 x7 h) Q → dr_W mi_M_score 2 33 32 [(0, .ref a1), (1, .int x2), (2, .int x3), (3, .int x4), (4, .int x5), (5, .int x6), (6, .int x7)] [] h Q := by
  intro n
  induction n with
  | zero => intro a1 x2 x3 x4 x5 x6 x7 h hp; exact (dr_p0 hp).elim
  | succ n ih =>
    intro a1 x2 x3 x4 x5 x6 x7 h hp
    unfold f_M_score_32 at hp
    refine wp_iload d_M_score_32 6 rfl ?_
    refine wp_bipush (v := 21) (by decide) d_M_score_34 ?_
    refine wp_icmp_ge (tgt := 112) d_M_score_36 (by decide) hp (fun _ hp => ?_) (fun _ hp => ?_)
    · exact wp_sub [0, 2, 3, 4, 5] rfl (t_M_score_112 _ _ _ _ _ _ hp)
    · refine wp_iload_n d_M_score_39 3 rfl ?_
      refine wp_if_eq (tgt := 112) d_M_score_40 (by decide) hp (fun _ hp => ?_) (fun _ hp => ?_)
      · exact wp_sub [0, 2, 3, 4, 5] rfl (t_M_score_112 _ _ _ _ _ _ hp)
      · refine wp_aload_n d_M_score_43 0 rfl ?_
        refine wp_gr cl_M fl_M_39 (by decide) d_M_score_44 hp (fun a8 hp => ?_) (fun hp => (dr_p0 hp).elim)
        refine wp_iload_n d_M_score_47 1 rfl ?_
        refine wp_bipush (v := 21) (by decide) d_M_score_48 ?_
        refine wp_imul d_M_score_50 ?_
        refine wp_iload d_M_score_51 6 rfl ?_
        refine wp_iadd d_M_score_53 ?_
        refine wp_zaload d_M_score_54 hp (fun x9 hp => ?_)
        refine wp_if_ne (tgt := 61) d_M_score_55 (by decide) hp (fun _ hp => ?_) (fun _ hp => ?_)
        · refine wp_iload d_M_score_61 5 rfl ?_
          refine wp_aload_n d_M_score_63 0 rfl ?_
          refine wp_gr cl_M fl_M_51 (by decide) d_M_score_64 hp (fun a10 hp => ?_) (fun hp => (dr_p0 hp).elim)
          refine wp_iload_n d_M_score_67 1 rfl ?_
          refine wp_bipush (v := 21) (by decide) d_M_score_68 ?_
          refine wp_imul d_M_score_70 ?_
          refine wp_iload d_M_score_71 6 rfl ?_
          refine wp_iadd d_M_score_73 ?_
          refine wp_iaload d_M_score_74 hp (fun x11 hp => ?_)
          refine wp_iadd d_M_score_75 ?_
          refine wp_istore (l' := [(5, .int (x6 + x11)), (0, .ref a1), (1, .int x2), (2, .int x3), (3, .int x4), (4, .int x5), (6, .int x7)]) d_M_score_76 (by decide) rfl ?_
          refine wp_aload_n d_M_score_78 1 rfl ?_
          refine wp_iload_n d_M_score_79 2 rfl ?_
          refine wp_iload d_M_score_80 6 rfl ?_
          refine wp_k hp (fun hk hp => ?_)
          refine wp_ci (M' := mi_M_is) (As := [.ref a1, .int x2, .int x7]) (st := []) (fr' := 1) (wo' := 16) (dr_sV (A := [.int x2, .int x7]) cl_M hk tw_863 tw_865 tp_34 co_M_is ⟨by decide, by decide⟩ (by rfl) d_M_score_82 rfl) co_M_is (by decide +kernel) (by decide) (Nat.le_of_ble_eq_true rfl) (Nat.le_of_ble_eq_true rfl) (fun Q' hq => t_M_is _ _ _ _ hq) hp (fun x13 h12 hp => ?_) (fun E q h3 hp => wx_out (by decide) hp)
          refine wp_iconst (v := 1) (by decide) d_M_score_85 ?_
          refine wp_icmp_ne (tgt := 106) d_M_score_86 (by decide) hp (fun _ hp => ?_) (fun _ hp => ?_)
          · refine wp_iinc (v := (x7 + 1)) (l' := [(6, .int (x7 + 1)), (5, .int (x6 + x11)), (0, .ref a1), (1, .int x2), (2, .int x3), (3, .int x4), (4, .int x5)]) d_M_score_106 6 rfl rfl (by decide) rfl ?_
            refine wp_goto (tgt := 32) d_M_score_109 (by decide) ?_
            exact wp_sub [2, 3, 4, 5, 6, 1, 0] rfl (ih _ _ _ _ _ _ _ _ hp)
          · refine wp_iload d_M_score_89 5 rfl ?_
            refine wp_aload_n d_M_score_91 1 rfl ?_
            refine wp_gr cl_M fl_M_51 (by decide) d_M_score_92 hp (fun a14 hp => ?_) (fun hp => (dr_p0 hp).elim)
            refine wp_iload_n d_M_score_95 2 rfl ?_
            refine wp_bipush (v := 21) (by decide) d_M_score_96 ?_
            refine wp_imul d_M_score_98 ?_
            refine wp_iload d_M_score_99 6 rfl ?_
            refine wp_iadd d_M_score_101 ?_
            refine wp_iaload d_M_score_102 hp (fun x15 hp => ?_)
            refine wp_iadd d_M_score_103 ?_
            refine wp_istore (l' := [(4, .int (x5 + x15)), (5, .int (x6 + x11)), (0, .ref a1), (1, .int x2), (2, .int x3), (3, .int x4), (6, .int x7)]) d_M_score_104 (by decide) rfl ?_
            refine wp_iinc (v := (x7 + 1)) (l' := [(6, .int (x7 + 1)), (4, .int (x5 + x15)), (5, .int (x6 + x11)), (0, .ref a1), (1, .int x2), (2, .int x3), (3, .int x4)]) d_M_score_106 6 rfl rfl (by decide) rfl ?_
            refine wp_goto (tgt := 32) d_M_score_109 (by decide) ?_
            exact wp_sub [3, 4, 5, 6, 1, 2, 0] rfl (ih _ _ _ _ _ _ _ _ hp)
        · refine wp_goto (tgt := 106) d_M_score_58 (by decide) ?_
          refine wp_iinc (v := (x7 + 1)) (l' := [(6, .int (x7 + 1)), (0, .ref a1), (1, .int x2), (2, .int x3), (3, .int x4), (4, .int x5), (5, .int x6)]) d_M_score_106 6 rfl rfl (by decide) rfl ?_
          refine wp_goto (tgt := 32) d_M_score_109 (by decide) ?_
          exact wp_sub [1, 2, 3, 4, 5, 6, 0] rfl (ih _ _ _ _ _ _ _ _ hp)
set_option maxRecDepth 100000 in
set_option maxHeartbeats 400000 in
theorem t_M_score {Q : dr_RS → dr_AH → Prop} : ∀ (a1 : Nat) (x2 : Int32) (x3 : Int32) (h : dr_AH), dr_p (f_M_score a1 x2 x3 h) Q → dr_W mi_M_score 2 33 0 [(0, .ref a1), (1, .int x2), (2, .int x3)] [] h Q := by
  intro a1 x2 x3 h hp
  unfold f_M_score at hp
  refine wp_aload_n d_M_score_0 0 rfl ?_
  refine wp_iload_n d_M_score_1 1 rfl ?_
  refine wp_k hp (fun hk hp => ?_)
  refine wp_ci (M' := mi_M_isDrill) (As := [.ref a1, .int x2]) (st := []) (fr' := 1) (wo' := 14) (dr_sV (A := [.int x2]) cl_M hk tw_817 tw_819 tp_32 co_M_isDrill ⟨by decide, by decide⟩ (by rfl) d_M_score_2 rfl) co_M_isDrill (by decide +kernel) (by decide) (Nat.le_of_ble_eq_true rfl) (Nat.le_of_ble_eq_true rfl) (fun Q' hq => t_M_isDrill _ _ _ hq) hp (fun x5 h4 hp => ?_) (fun E q h3 hp => wx_out (by decide) hp)
  refine wp_if_eq (tgt := 21) d_M_score_5 (by decide) hp (fun _ hp => ?_) (fun _ hp => ?_)
  · refine wp_iconst (v := 0) (by decide) d_M_score_21 ?_
    refine wp_istore_n (l' := [(3, .int 0), (0, .ref a1), (1, .int x2), (2, .int x3)]) d_M_score_22 (by decide) rfl ?_
    refine wp_iconst (v := 0) (by decide) d_M_score_23 ?_
    refine wp_istore (l' := [(4, .int 0), (3, .int 0), (0, .ref a1), (1, .int x2), (2, .int x3)]) d_M_score_24 (by decide) rfl ?_
    refine wp_iconst (v := 0) (by decide) d_M_score_26 ?_
    refine wp_istore (l' := [(5, .int 0), (4, .int 0), (3, .int 0), (0, .ref a1), (1, .int x2), (2, .int x3)]) d_M_score_27 (by decide) rfl ?_
    refine wp_iconst (v := 1) (by decide) d_M_score_29 ?_
    refine wp_istore (l' := [(6, .int 1), (5, .int 0), (4, .int 0), (3, .int 0), (0, .ref a1), (1, .int x2), (2, .int x3)]) d_M_score_30 (by decide) rfl ?_
    exact wp_sub [4, 5, 6, 3, 2, 1, 0] rfl (t_M_score_32 dr_fu _ _ _ _ _ _ _ _ hp)
  · refine wp_iload_n d_M_score_8 2 rfl ?_
    refine wp_iconst (v := 0) (by decide) d_M_score_9 ?_
    refine wp_iconst (v := 1) (by decide) d_M_score_10 ?_
    refine wp_ci (M' := mi_M_in) (As := [.int x3, .int 0, .int 1]) (st := []) (fr' := 0) (wo' := 0) (dr_sS (A := [.int x3, .int 0, .int 1]) tw_734 tw_735 tw_5 co_M_in ⟨by decide, by decide⟩ (by rfl) d_M_score_11 rfl) co_M_in (by decide +kernel) (by decide) (Nat.le_of_ble_eq_true rfl) (Nat.le_of_ble_eq_true rfl) (fun Q' hq => t_M_in _ _ _ _ hq) hp (fun x7 h6 hp => ?_) (fun E q h3 hp => wx_out (by decide) hp)
    refine wp_if_eq (tgt := 21) d_M_score_14 (by decide) hp (fun _ hp => ?_) (fun _ hp => ?_)
    · refine wp_iconst (v := 0) (by decide) d_M_score_21 ?_
      refine wp_istore_n (l' := [(3, .int 0), (0, .ref a1), (1, .int x2), (2, .int x3)]) d_M_score_22 (by decide) rfl ?_
      refine wp_iconst (v := 0) (by decide) d_M_score_23 ?_
      refine wp_istore (l' := [(4, .int 0), (3, .int 0), (0, .ref a1), (1, .int x2), (2, .int x3)]) d_M_score_24 (by decide) rfl ?_
      refine wp_iconst (v := 0) (by decide) d_M_score_26 ?_
      refine wp_istore (l' := [(5, .int 0), (4, .int 0), (3, .int 0), (0, .ref a1), (1, .int x2), (2, .int x3)]) d_M_score_27 (by decide) rfl ?_
      refine wp_iconst (v := 1) (by decide) d_M_score_29 ?_
      refine wp_istore (l' := [(6, .int 1), (5, .int 0), (4, .int 0), (3, .int 0), (0, .ref a1), (1, .int x2), (2, .int x3)]) d_M_score_30 (by decide) rfl ?_
      exact wp_sub [4, 5, 6, 3, 2, 1, 0] rfl (t_M_score_32 dr_fu _ _ _ _ _ _ _ _ hp)
    · refine wp_iconst (v := 1) (by decide) d_M_score_17 ?_
      refine wp_goto (tgt := 22) d_M_score_18 (by decide) ?_
      refine wp_istore_n (l' := [(3, .int 1), (0, .ref a1), (1, .int x2), (2, .int x3)]) d_M_score_22 (by decide) rfl ?_
      refine wp_iconst (v := 0) (by decide) d_M_score_23 ?_
      refine wp_istore (l' := [(4, .int 0), (3, .int 1), (0, .ref a1), (1, .int x2), (2, .int x3)]) d_M_score_24 (by decide) rfl ?_
      refine wp_iconst (v := 0) (by decide) d_M_score_26 ?_
      refine wp_istore (l' := [(5, .int 0), (4, .int 0), (3, .int 1), (0, .ref a1), (1, .int x2), (2, .int x3)]) d_M_score_27 (by decide) rfl ?_
      refine wp_iconst (v := 1) (by decide) d_M_score_29 ?_
      refine wp_istore (l' := [(6, .int 1), (5, .int 0), (4, .int 0), (3, .int 1), (0, .ref a1), (1, .int x2), (2, .int x3)]) d_M_score_30 (by decide) rfl ?_
      exact wp_sub [4, 5, 6, 3, 2, 1, 0] rfl (t_M_score_32 dr_fu _ _ _ _ _ _ _ _ hp)
def f_M_compare_37 : Nat → Nat → Int32 → Int32 → Int32 → Int32 → dr_AH → Option (dr_RS × dr_AH)
  | 0, _, _, _, _, _, _ => none
  | n + 1, a1, x2, x3, x4, x5, h => if 21 ≤ x5 then some (.inl (some (.int x4)), h) else (dr_gr' h 4 a1 14 fun a6 => (dr_az h a6 ((x2 * 21) + x5) fun x7 => if x7 = 0 then f_M_compare_37 n a1 x2 x3 x4 (x5 + 1) h else (dr_gr' h 4 a1 14 fun a8 => (dr_az h a8 ((x3 * 21) + x5) fun x9 => if x9 = 0 then f_M_compare_37 n a1 x2 x3 x4 (x5 + 1) h else (dr_k h a1 4 (dr_ci' (f_M_is a1 x2 x5 h) fun x11 h10 => (dr_k h10 a1 4 (dr_ci' (f_M_is a1 x3 x5 h10) fun x13 h12 => if x11 = x13 then f_M_compare_37 n a1 x2 x3 x4 (x5 + 1) h12 else f_M_compare_37 n a1 x2 x3 (x4 + 1) (x5 + 1) h12))))))))
def f_M_compare_21 (a1 : Nat) (x2 : Int32) (x3 : Int32) (a4 : Nat) (h : dr_AH) : Option (dr_RS × dr_AH) :=
  (dr_k h a4 4 (dr_ci' (f_M_goes a4 0 1 1 h) fun x6 h5 => if x6 = 0 then some (.inl (some (.int 0)), h5) else f_M_compare_37 dr_fu a1 x2 x3 0 1 h5))
def f_M_compare (a1 : Nat) (x2 : Int32) (x3 : Int32) (h : dr_AH) : Option (dr_RS × dr_AH) :=
  (dr_k h a1 4 (dr_ci' (f_M_isDrill a1 x2 h) fun x5 h4 => if x5 = 0 then f_M_compare_21 a1 x2 x3 a1 h4 else (dr_k h4 a1 4 (dr_ci' (f_M_isDrill a1 x3 h4) fun x7 h6 => if x7 = 0 then f_M_compare_21 a1 x2 x3 a1 h6 else (dr_k h6 a1 4 (dr_ci' (f_M_goes a1 1 1 1 h6) fun x9 h8 => if x9 = 0 then some (.inl (some (.int 0)), h8) else f_M_compare_37 dr_fu a1 x2 x3 0 1 h8))))))
set_option maxRecDepth 100000 in
set_option maxHeartbeats 400000 in
theorem t_M_compare_37 {Q : dr_RS → dr_AH → Prop} : ∀ (n : Nat) (a1 : Nat) (x2 : Int32) (x3 : Int32) (x4 : Int32) (x5 : Int32) (h : dr_AH), dr_p (f_M_compare_37 n a1 x2 x3 x4 x5 h) Q → dr_W mi_M_compare 2 34 37 [(0, .ref a1), (1, .int x2), (2, .int x3), (3, .int x4), (4, .int x5)] [] h Q := by
  intro n
  induction n with
  | zero => intro a1 x2 x3 x4 x5 h hp; exact (dr_p0 hp).elim
  | succ n ih =>
    intro a1 x2 x3 x4 x5 h hp
    unfold f_M_compare_37 at hp
    refine wp_iload d_M_compare_37 4 rfl ?_
    refine wp_bipush (v := 21) (by decide) d_M_compare_39 ?_
    refine wp_icmp_ge (tgt := 100) d_M_compare_41 (by decide) hp (fun _ hp => ?_) (fun _ hp => ?_)
    · refine wp_iload_n d_M_compare_100 3 rfl ?_
      exact wp_ireturn rfl rfl d_M_compare_101 hp
    · refine wp_aload_n d_M_compare_44 0 rfl ?_
      refine wp_gr cl_M fl_M_39 (by decide) d_M_compare_45 hp (fun a6 hp => ?_) (fun hp => (dr_p0 hp).elim)
      refine wp_iload_n d_M_compare_48 1 rfl ?_
      refine wp_bipush (v := 21) (by decide) d_M_compare_49 ?_
      refine wp_imul d_M_compare_51 ?_
      refine wp_iload d_M_compare_52 4 rfl ?_
      refine wp_iadd d_M_compare_54 ?_
      refine wp_zaload d_M_compare_55 hp (fun x7 hp => ?_)
      refine wp_if_eq (tgt := 94) d_M_compare_56 (by decide) hp (fun _ hp => ?_) (fun _ hp => ?_)
      · refine wp_iinc (v := (x5 + 1)) (l' := [(4, .int (x5 + 1)), (0, .ref a1), (1, .int x2), (2, .int x3), (3, .int x4)]) d_M_compare_94 4 rfl rfl (by decide) rfl ?_
        refine wp_goto (tgt := 37) d_M_compare_97 (by decide) ?_
        exact wp_sub [1, 2, 3, 4, 0] rfl (ih _ _ _ _ _ _ hp)
      · refine wp_aload_n d_M_compare_59 0 rfl ?_
        refine wp_gr cl_M fl_M_39 (by decide) d_M_compare_60 hp (fun a8 hp => ?_) (fun hp => (dr_p0 hp).elim)
        refine wp_iload_n d_M_compare_63 2 rfl ?_
        refine wp_bipush (v := 21) (by decide) d_M_compare_64 ?_
        refine wp_imul d_M_compare_66 ?_
        refine wp_iload d_M_compare_67 4 rfl ?_
        refine wp_iadd d_M_compare_69 ?_
        refine wp_zaload d_M_compare_70 hp (fun x9 hp => ?_)
        refine wp_if_eq (tgt := 94) d_M_compare_71 (by decide) hp (fun _ hp => ?_) (fun _ hp => ?_)
        · refine wp_iinc (v := (x5 + 1)) (l' := [(4, .int (x5 + 1)), (0, .ref a1), (1, .int x2), (2, .int x3), (3, .int x4)]) d_M_compare_94 4 rfl rfl (by decide) rfl ?_
          refine wp_goto (tgt := 37) d_M_compare_97 (by decide) ?_
          exact wp_sub [1, 2, 3, 4, 0] rfl (ih _ _ _ _ _ _ hp)
        · refine wp_aload_n d_M_compare_74 0 rfl ?_
          refine wp_iload_n d_M_compare_75 1 rfl ?_
          refine wp_iload d_M_compare_76 4 rfl ?_
          refine wp_k hp (fun hk hp => ?_)
          refine wp_ci (M' := mi_M_is) (As := [.ref a1, .int x2, .int x5]) (st := []) (fr' := 1) (wo' := 16) (dr_sV (A := [.int x2, .int x5]) cl_M hk tw_863 tw_865 tp_34 co_M_is ⟨by decide, by decide⟩ (by rfl) d_M_compare_78 rfl) co_M_is (by decide +kernel) (by decide) (Nat.le_of_ble_eq_true rfl) (Nat.le_of_ble_eq_true rfl) (fun Q' hq => t_M_is _ _ _ _ hq) hp (fun x11 h10 hp => ?_) (fun E q h3 hp => wx_out (by decide) hp)
          refine wp_aload_n d_M_compare_81 0 rfl ?_
          refine wp_iload_n d_M_compare_82 2 rfl ?_
          refine wp_iload d_M_compare_83 4 rfl ?_
          refine wp_k hp (fun hk hp => ?_)
          refine wp_ci (M' := mi_M_is) (As := [.ref a1, .int x3, .int x5]) (st := [.int x11]) (fr' := 1) (wo' := 16) (dr_sV (A := [.int x3, .int x5]) cl_M hk tw_863 tw_865 tp_34 co_M_is ⟨by decide, by decide⟩ (by rfl) d_M_compare_85 rfl) co_M_is (by decide +kernel) (by decide) (Nat.le_of_ble_eq_true rfl) (Nat.le_of_ble_eq_true rfl) (fun Q' hq => t_M_is _ _ _ _ hq) hp (fun x13 h12 hp => ?_) (fun E q h3 hp => wx_out (by decide) hp)
          refine wp_icmp_eq (tgt := 94) d_M_compare_88 (by decide) hp (fun _ hp => ?_) (fun _ hp => ?_)
          · refine wp_iinc (v := (x5 + 1)) (l' := [(4, .int (x5 + 1)), (0, .ref a1), (1, .int x2), (2, .int x3), (3, .int x4)]) d_M_compare_94 4 rfl rfl (by decide) rfl ?_
            refine wp_goto (tgt := 37) d_M_compare_97 (by decide) ?_
            exact wp_sub [1, 2, 3, 4, 0] rfl (ih _ _ _ _ _ _ hp)
          · refine wp_iinc (v := (x4 + 1)) (l' := [(3, .int (x4 + 1)), (0, .ref a1), (1, .int x2), (2, .int x3), (4, .int x5)]) d_M_compare_91 3 rfl rfl (by decide) rfl ?_
            refine wp_iinc (v := (x5 + 1)) (l' := [(4, .int (x5 + 1)), (3, .int (x4 + 1)), (0, .ref a1), (1, .int x2), (2, .int x3)]) d_M_compare_94 4 rfl rfl (by decide) rfl ?_
            refine wp_goto (tgt := 37) d_M_compare_97 (by decide) ?_
            exact wp_sub [2, 3, 4, 1, 0] rfl (ih _ _ _ _ _ _ hp)
set_option maxRecDepth 100000 in
set_option maxHeartbeats 400000 in
theorem t_M_compare_21 {Q : dr_RS → dr_AH → Prop} : ∀ (a1 : Nat) (x2 : Int32) (x3 : Int32) (a4 : Nat) (h : dr_AH), dr_p (f_M_compare_21 a1 x2 x3 a4 h) Q → dr_W mi_M_compare 2 34 21 [(0, .ref a1), (1, .int x2), (2, .int x3)] [.ref a4] h Q := by
  intro a1 x2 x3 a4 h hp
  unfold f_M_compare_21 at hp
  refine wp_iconst (v := 0) (by decide) d_M_compare_21 ?_
  refine wp_iconst (v := 1) (by decide) d_M_compare_22 ?_
  refine wp_iconst (v := 1) (by decide) d_M_compare_23 ?_
  refine wp_k hp (fun hk hp => ?_)
  refine wp_ci (M' := mi_M_goes) (As := [.ref a4, .int 0, .int 1, .int 1]) (st := []) (fr' := 0) (wo' := 0) (dr_sV (A := [.int 0, .int 1, .int 1]) cl_M hk tw_737 tw_739 tp_16 co_M_goes ⟨by decide, by decide⟩ (by rfl) d_M_compare_24 rfl) co_M_goes (by decide +kernel) (by decide) (Nat.le_of_ble_eq_true rfl) (Nat.le_of_ble_eq_true rfl) (fun Q' hq => t_M_goes _ _ _ _ _ hq) hp (fun x6 h5 hp => ?_) (fun E q h3 hp => wx_out (by decide) hp)
  refine wp_if_ne (tgt := 32) d_M_compare_27 (by decide) hp (fun _ hp => ?_) (fun _ hp => ?_)
  · refine wp_iconst (v := 0) (by decide) d_M_compare_32 ?_
    refine wp_istore_n (l' := [(3, .int 0), (0, .ref a1), (1, .int x2), (2, .int x3)]) d_M_compare_33 (by decide) rfl ?_
    refine wp_iconst (v := 1) (by decide) d_M_compare_34 ?_
    refine wp_istore (l' := [(4, .int 1), (3, .int 0), (0, .ref a1), (1, .int x2), (2, .int x3)]) d_M_compare_35 (by decide) rfl ?_
    exact wp_sub [2, 3, 4, 1, 0] rfl (t_M_compare_37 dr_fu _ _ _ _ _ _ hp)
  · refine wp_iconst (v := 0) (by decide) d_M_compare_30 ?_
    exact wp_ireturn rfl rfl d_M_compare_31 hp
set_option maxRecDepth 100000 in
set_option maxHeartbeats 400000 in
theorem t_M_compare {Q : dr_RS → dr_AH → Prop} : ∀ (a1 : Nat) (x2 : Int32) (x3 : Int32) (h : dr_AH), dr_p (f_M_compare a1 x2 x3 h) Q → dr_W mi_M_compare 2 34 0 [(0, .ref a1), (1, .int x2), (2, .int x3)] [] h Q := by
  intro a1 x2 x3 h hp
  unfold f_M_compare at hp
  refine wp_aload_n d_M_compare_0 0 rfl ?_
  refine wp_aload_n d_M_compare_1 0 rfl ?_
  refine wp_iload_n d_M_compare_2 1 rfl ?_
  refine wp_k hp (fun hk hp => ?_)
  refine wp_ci (M' := mi_M_isDrill) (As := [.ref a1, .int x2]) (st := [.ref a1]) (fr' := 1) (wo' := 14) (dr_sV (A := [.int x2]) cl_M hk tw_817 tw_819 tp_32 co_M_isDrill ⟨by decide, by decide⟩ (by rfl) d_M_compare_3 rfl) co_M_isDrill (by decide +kernel) (by decide) (Nat.le_of_ble_eq_true rfl) (Nat.le_of_ble_eq_true rfl) (fun Q' hq => t_M_isDrill _ _ _ hq) hp (fun x5 h4 hp => ?_) (fun E q h3 hp => wx_out (by decide) hp)
  refine wp_if_eq (tgt := 21) d_M_compare_6 (by decide) hp (fun _ hp => ?_) (fun _ hp => ?_)
  · exact wp_sub [0, 1, 2] rfl (t_M_compare_21 _ _ _ _ _ hp)
  · refine wp_aload_n d_M_compare_9 0 rfl ?_
    refine wp_iload_n d_M_compare_10 2 rfl ?_
    refine wp_k hp (fun hk hp => ?_)
    refine wp_ci (M' := mi_M_isDrill) (As := [.ref a1, .int x3]) (st := [.ref a1]) (fr' := 1) (wo' := 14) (dr_sV (A := [.int x3]) cl_M hk tw_817 tw_819 tp_32 co_M_isDrill ⟨by decide, by decide⟩ (by rfl) d_M_compare_11 rfl) co_M_isDrill (by decide +kernel) (by decide) (Nat.le_of_ble_eq_true rfl) (Nat.le_of_ble_eq_true rfl) (fun Q' hq => t_M_isDrill _ _ _ hq) hp (fun x7 h6 hp => ?_) (fun E q h3 hp => wx_out (by decide) hp)
    refine wp_if_eq (tgt := 21) d_M_compare_14 (by decide) hp (fun _ hp => ?_) (fun _ hp => ?_)
    · exact wp_sub [0, 1, 2] rfl (t_M_compare_21 _ _ _ _ _ hp)
    · refine wp_iconst (v := 1) (by decide) d_M_compare_17 ?_
      refine wp_goto (tgt := 22) d_M_compare_18 (by decide) ?_
      refine wp_iconst (v := 1) (by decide) d_M_compare_22 ?_
      refine wp_iconst (v := 1) (by decide) d_M_compare_23 ?_
      refine wp_k hp (fun hk hp => ?_)
      refine wp_ci (M' := mi_M_goes) (As := [.ref a1, .int 1, .int 1, .int 1]) (st := []) (fr' := 0) (wo' := 0) (dr_sV (A := [.int 1, .int 1, .int 1]) cl_M hk tw_737 tw_739 tp_16 co_M_goes ⟨by decide, by decide⟩ (by rfl) d_M_compare_24 rfl) co_M_goes (by decide +kernel) (by decide) (Nat.le_of_ble_eq_true rfl) (Nat.le_of_ble_eq_true rfl) (fun Q' hq => t_M_goes _ _ _ _ _ hq) hp (fun x9 h8 hp => ?_) (fun E q h3 hp => wx_out (by decide) hp)
      refine wp_if_ne (tgt := 32) d_M_compare_27 (by decide) hp (fun _ hp => ?_) (fun _ hp => ?_)
      · refine wp_iconst (v := 0) (by decide) d_M_compare_32 ?_
        refine wp_istore_n (l' := [(3, .int 0), (0, .ref a1), (1, .int x2), (2, .int x3)]) d_M_compare_33 (by decide) rfl ?_
        refine wp_iconst (v := 1) (by decide) d_M_compare_34 ?_
        refine wp_istore (l' := [(4, .int 1), (3, .int 0), (0, .ref a1), (1, .int x2), (2, .int x3)]) d_M_compare_35 (by decide) rfl ?_
        exact wp_sub [2, 3, 4, 1, 0] rfl (t_M_compare_37 dr_fu _ _ _ _ _ _ hp)
      · refine wp_iconst (v := 0) (by decide) d_M_compare_30 ?_
        exact wp_ireturn rfl rfl d_M_compare_31 hp
def f_M_observe_57 (a1 : Nat) (x2 : Int32) (x3 : Int32) (x4 : Int32) (x5 : Int32) (x6 : Int32) (x7 : Int32) (a8 : Nat) (h : dr_AH) : Option (dr_RS × dr_AH) :=
  (dr_k h a8 4 (dr_ci' (f_M_goes a8 x7 x6 x5 h) fun x10 h9 => if x10 = 0 then some (.inl (some (.int 0)), h9) else (dr_gr' h9 4 a1 28 fun a11 => (dr_gi h9 4 a1 27 fun x12 => (dr_si h9 a11 x12 x2 fun h13 => (dr_gr' h13 4 a1 29 fun a14 => (dr_gi h13 4 a1 27 fun x15 => (dr_si h13 a14 x15 x3 fun h16 => (dr_gr' h16 4 a1 30 fun a17 => (dr_gi h16 4 a1 27 fun x18 => (dr_si h16 a17 x18 x4 fun h19 => (dr_gr' h19 4 a1 31 fun a20 => (dr_gi h19 4 a1 27 fun x21 => (dr_k h19 a1 4 (dr_ci' (f_M_relative a1 x2 h19) fun x23 h22 => if (x23 - x3) ≤ 60 then (dr_sz h22 a20 x21 0 fun h24 => (dr_gi h24 4 a1 27 fun x25 => (dr_pf h24 4 a1 27 (.int (x25 + 1)) fun h26 => (dr_gi h26 4 a1 27 fun x27 => some (.inl (some (.int (x27 - 1))), h26))))) else (dr_sz h22 a20 x21 1 fun h28 => (dr_gi h28 4 a1 27 fun x29 => (dr_pf h28 4 a1 27 (.int (x29 + 1)) fun h30 => (dr_gi h30 4 a1 27 fun x31 => some (.inl (some (.int (x31 - 1))), h30))))))))))))))))))))
def f_M_observe_43 (a1 : Nat) (x2 : Int32) (x3 : Int32) (x4 : Int32) (x5 : Int32) (x6 : Int32) (a7 : Nat) (h : dr_AH) : Option (dr_RS × dr_AH) :=
  (dr_gi h 4 a1 27 fun x8 => if 100 ≤ x8 then f_M_observe_57 a1 x2 x3 x4 0 x5 x6 a7 h else f_M_observe_57 a1 x2 x3 x4 1 x5 x6 a7 h)
def f_M_observe_42 (a1 : Nat) (x2 : Int32) (x3 : Int32) (x4 : Int32) (x5 : Int32) (a6 : Nat) (h : dr_AH) : Option (dr_RS × dr_AH) :=
  f_M_observe_43 a1 x2 x3 x4 0 x5 a6 h
def f_M_observe (a1 : Nat) (x2 : Int32) (x3 : Int32) (x4 : Int32) (h : dr_AH) : Option (dr_RS × dr_AH) :=
  (dr_k h a1 4 (dr_ci' (f_M_isDrill a1 x2 h) fun x6 h5 => if x6 = 0 then f_M_observe_42 a1 x2 x3 x4 x6 a1 h5 else (dr_k h5 a1 4 (dr_ci' (f_M_relative a1 x2 h5) fun x8 h7 => (dr_ci' (f_M_in x3 0 x8 h7) fun x10 h9 => if x10 = 0 then f_M_observe_42 a1 x2 x3 x4 x6 a1 h9 else (dr_ci' (f_M_in x4 0 9 h9) fun x12 h11 => if x12 = 0 then f_M_observe_42 a1 x2 x3 x4 x6 a1 h11 else f_M_observe_43 a1 x2 x3 x4 1 x6 a1 h11))))))
set_option maxRecDepth 100000 in
set_option maxHeartbeats 400000 in
theorem t_M_observe_57 {Q : dr_RS → dr_AH → Prop} : ∀ (a1 : Nat) (x2 : Int32) (x3 : Int32) (x4 : Int32) (x5 : Int32) (x6 : Int32) (x7 : Int32) (a8 : Nat) (h : dr_AH), dr_p (f_M_observe_57 a1 x2 x3 x4 x5 x6 x7 a8 h) Q → dr_W mi_M_observe 2 27 57 [(0, .ref a1), (1, .int x2), (2, .int x3), (3, .int x4)] [.int x5, .int x6, .int x7, .ref a8] h Q := by
  intro a1 x2 x3 x4 x5 x6 x7 a8 h hp
  unfold f_M_observe_57 at hp
  refine wp_k hp (fun hk hp => ?_)
  refine wp_ci (M' := mi_M_goes) (As := [.ref a8, .int x7, .int x6, .int x5]) (st := []) (fr' := 0) (wo' := 0) (dr_sV (A := [.int x7, .int x6, .int x5]) cl_M hk tw_737 tw_739 tp_16 co_M_goes ⟨by decide, by decide⟩ (by rfl) d_M_observe_57 rfl) co_M_goes (by decide +kernel) (by decide) (Nat.le_of_ble_eq_true rfl) (Nat.le_of_ble_eq_true rfl) (fun Q' hq => t_M_goes _ _ _ _ _ hq) hp (fun x10 h9 hp => ?_) (fun E q h3 hp => wx_out (by decide) hp)
  refine wp_if_ne (tgt := 65) d_M_observe_60 (by decide) hp (fun _ hp => ?_) (fun _ hp => ?_)
  · refine wp_aload_n d_M_observe_65 0 rfl ?_
    refine wp_gr cl_M fl_M_75 (by decide) d_M_observe_66 hp (fun a11 hp => ?_) (fun hp => (dr_p0 hp).elim)
    refine wp_aload_n d_M_observe_69 0 rfl ?_
    refine wp_gi cl_M fl_M_178 (by decide) d_M_observe_70 hp (fun x12 hp => ?_)
    refine wp_iload_n d_M_observe_73 1 rfl ?_
    refine wp_iastore d_M_observe_74 hp (fun h13 hp => ?_)
    refine wp_aload_n d_M_observe_75 0 rfl ?_
    refine wp_gr cl_M fl_M_78 (by decide) d_M_observe_76 hp (fun a14 hp => ?_) (fun hp => (dr_p0 hp).elim)
    refine wp_aload_n d_M_observe_79 0 rfl ?_
    refine wp_gi cl_M fl_M_178 (by decide) d_M_observe_80 hp (fun x15 hp => ?_)
    refine wp_iload_n d_M_observe_83 2 rfl ?_
    refine wp_iastore d_M_observe_84 hp (fun h16 hp => ?_)
    refine wp_aload_n d_M_observe_85 0 rfl ?_
    refine wp_gr cl_M fl_M_81 (by decide) d_M_observe_86 hp (fun a17 hp => ?_) (fun hp => (dr_p0 hp).elim)
    refine wp_aload_n d_M_observe_89 0 rfl ?_
    refine wp_gi cl_M fl_M_178 (by decide) d_M_observe_90 hp (fun x18 hp => ?_)
    refine wp_iload_n d_M_observe_93 3 rfl ?_
    refine wp_iastore d_M_observe_94 hp (fun h19 hp => ?_)
    refine wp_aload_n d_M_observe_95 0 rfl ?_
    refine wp_gr cl_M fl_M_84 (by decide) d_M_observe_96 hp (fun a20 hp => ?_) (fun hp => (dr_p0 hp).elim)
    refine wp_aload_n d_M_observe_99 0 rfl ?_
    refine wp_gi cl_M fl_M_178 (by decide) d_M_observe_100 hp (fun x21 hp => ?_)
    refine wp_aload_n d_M_observe_103 0 rfl ?_
    refine wp_iload_n d_M_observe_104 1 rfl ?_
    refine wp_k hp (fun hk hp => ?_)
    refine wp_ci (M' := mi_M_relative) (As := [.ref a1, .int x2]) (st := [.int x21, .ref a20]) (fr' := 0) (wo' := 0) (dr_sV (A := [.int x2]) cl_M hk tw_805 tw_807 tp_30 co_M_relative ⟨by decide, by decide⟩ (by rfl) d_M_observe_105 rfl) co_M_relative (by decide +kernel) (by decide) (Nat.le_of_ble_eq_true rfl) (Nat.le_of_ble_eq_true rfl) (fun Q' hq => t_M_relative _ _ _ hq) hp (fun x23 h22 hp => ?_) (fun E q h3 hp => wx_out (by decide) hp)
    refine wp_iload_n d_M_observe_108 2 rfl ?_
    refine wp_isub d_M_observe_109 ?_
    refine wp_bipush (v := 60) (by decide) d_M_observe_110 ?_
    refine wp_icmp_le (tgt := 119) d_M_observe_112 (by decide) hp (fun _ hp => ?_) (fun _ hp => ?_)
    · refine wp_iconst (v := 0) (by decide) d_M_observe_119 ?_
      refine wp_zastore d_M_observe_120 hp (fun h24 hp => ?_)
      refine wp_aload_n d_M_observe_121 0 rfl ?_
      refine wp_dup rfl d_M_observe_122 ?_
      refine wp_gi cl_M fl_M_178 (by decide) d_M_observe_123 hp (fun x25 hp => ?_)
      refine wp_iconst (v := 1) (by decide) d_M_observe_126 ?_
      refine wp_iadd d_M_observe_127 ?_
      refine wp_put cl_M fl_M_178 (by decide) (Or.inl (by rfl)) (by rfl) (by rfl) d_M_observe_128 hp (fun h26 hp => ?_)
      refine wp_aload_n d_M_observe_131 0 rfl ?_
      refine wp_gi cl_M fl_M_178 (by decide) d_M_observe_132 hp (fun x27 hp => ?_)
      refine wp_iconst (v := 1) (by decide) d_M_observe_135 ?_
      refine wp_isub d_M_observe_136 ?_
      exact wp_ireturn rfl rfl d_M_observe_137 hp
    · refine wp_iconst (v := 1) (by decide) d_M_observe_115 ?_
      refine wp_goto (tgt := 120) d_M_observe_116 (by decide) ?_
      refine wp_zastore d_M_observe_120 hp (fun h28 hp => ?_)
      refine wp_aload_n d_M_observe_121 0 rfl ?_
      refine wp_dup rfl d_M_observe_122 ?_
      refine wp_gi cl_M fl_M_178 (by decide) d_M_observe_123 hp (fun x29 hp => ?_)
      refine wp_iconst (v := 1) (by decide) d_M_observe_126 ?_
      refine wp_iadd d_M_observe_127 ?_
      refine wp_put cl_M fl_M_178 (by decide) (Or.inl (by rfl)) (by rfl) (by rfl) d_M_observe_128 hp (fun h30 hp => ?_)
      refine wp_aload_n d_M_observe_131 0 rfl ?_
      refine wp_gi cl_M fl_M_178 (by decide) d_M_observe_132 hp (fun x31 hp => ?_)
      refine wp_iconst (v := 1) (by decide) d_M_observe_135 ?_
      refine wp_isub d_M_observe_136 ?_
      exact wp_ireturn rfl rfl d_M_observe_137 hp
  · refine wp_iconst (v := 0) (by decide) d_M_observe_63 ?_
    exact wp_ireturn rfl rfl d_M_observe_64 hp
set_option maxRecDepth 100000 in
set_option maxHeartbeats 400000 in
theorem t_M_observe_43 {Q : dr_RS → dr_AH → Prop} : ∀ (a1 : Nat) (x2 : Int32) (x3 : Int32) (x4 : Int32) (x5 : Int32) (x6 : Int32) (a7 : Nat) (h : dr_AH), dr_p (f_M_observe_43 a1 x2 x3 x4 x5 x6 a7 h) Q → dr_W mi_M_observe 2 27 43 [(0, .ref a1), (1, .int x2), (2, .int x3), (3, .int x4)] [.int x5, .int x6, .ref a7] h Q := by
  intro a1 x2 x3 x4 x5 x6 a7 h hp
  unfold f_M_observe_43 at hp
  refine wp_aload_n d_M_observe_43 0 rfl ?_
  refine wp_gi cl_M fl_M_178 (by decide) d_M_observe_44 hp (fun x8 hp => ?_)
  refine wp_bipush (v := 100) (by decide) d_M_observe_47 ?_
  refine wp_icmp_ge (tgt := 56) d_M_observe_49 (by decide) hp (fun _ hp => ?_) (fun _ hp => ?_)
  · refine wp_iconst (v := 0) (by decide) d_M_observe_56 ?_
    exact wp_sub [0, 1, 2, 3] rfl (t_M_observe_57 _ _ _ _ _ _ _ _ _ hp)
  · refine wp_iconst (v := 1) (by decide) d_M_observe_52 ?_
    refine wp_goto (tgt := 57) d_M_observe_53 (by decide) ?_
    exact wp_sub [0, 1, 2, 3] rfl (t_M_observe_57 _ _ _ _ _ _ _ _ _ hp)
set_option maxRecDepth 100000 in
set_option maxHeartbeats 400000 in
theorem t_M_observe_42 {Q : dr_RS → dr_AH → Prop} : ∀ (a1 : Nat) (x2 : Int32) (x3 : Int32) (x4 : Int32) (x5 : Int32) (a6 : Nat) (h : dr_AH), dr_p (f_M_observe_42 a1 x2 x3 x4 x5 a6 h) Q → dr_W mi_M_observe 2 27 42 [(0, .ref a1), (1, .int x2), (2, .int x3), (3, .int x4)] [.int x5, .ref a6] h Q := by
  intro a1 x2 x3 x4 x5 a6 h hp
  unfold f_M_observe_42 at hp
  refine wp_iconst (v := 0) (by decide) d_M_observe_42 ?_
  exact wp_sub [0, 1, 2, 3] rfl (t_M_observe_43 _ _ _ _ _ _ _ _ hp)
set_option maxRecDepth 100000 in
set_option maxHeartbeats 400000 in
theorem t_M_observe {Q : dr_RS → dr_AH → Prop} : ∀ (a1 : Nat) (x2 : Int32) (x3 : Int32) (x4 : Int32) (h : dr_AH), dr_p (f_M_observe a1 x2 x3 x4 h) Q → dr_W mi_M_observe 2 27 0 [(0, .ref a1), (1, .int x2), (2, .int x3), (3, .int x4)] [] h Q := by
  intro a1 x2 x3 x4 h hp
  unfold f_M_observe at hp
  refine wp_aload_n d_M_observe_0 0 rfl ?_
  refine wp_iload_n d_M_observe_1 1 rfl ?_
  refine wp_k hp (fun hk hp => ?_)
  refine wp_ci (M' := mi_M_isDrill) (As := [.ref a1, .int x2]) (st := []) (fr' := 1) (wo' := 14) (dr_sV (A := [.int x2]) cl_M hk tw_817 tw_819 tp_32 co_M_isDrill ⟨by decide, by decide⟩ (by rfl) d_M_observe_2 rfl) co_M_isDrill (by decide +kernel) (by decide) (Nat.le_of_ble_eq_true rfl) (Nat.le_of_ble_eq_true rfl) (fun Q' hq => t_M_isDrill _ _ _ hq) hp (fun x6 h5 hp => ?_) (fun E q h3 hp => wx_out (by decide) hp)
  refine wp_istore (l' := [(4, .int x6), (0, .ref a1), (1, .int x2), (2, .int x3), (3, .int x4)]) d_M_observe_5 (by decide) rfl ?_
  refine wp_aload_n d_M_observe_7 1 rfl ?_
  refine wp_iload d_M_observe_8 0 rfl ?_
  refine wp_iload d_M_observe_10 0 rfl ?_
  refine wp_if_eq (tgt := 42) d_M_observe_12 (by decide) hp (fun _ hp => ?_) (fun _ hp => ?_)
  · exact wp_sub [1, 2, 3, 4] rfl (t_M_observe_42 _ _ _ _ _ _ _ hp)
  · refine wp_iload_n d_M_observe_15 3 rfl ?_
    refine wp_iconst (v := 0) (by decide) d_M_observe_16 ?_
    refine wp_aload_n d_M_observe_17 1 rfl ?_
    refine wp_iload_n d_M_observe_18 2 rfl ?_
    refine wp_k hp (fun hk hp => ?_)
    refine wp_ci (M' := mi_M_relative) (As := [.ref a1, .int x2]) (st := [.int 0, .int x3, .int x6, .ref a1]) (fr' := 0) (wo' := 0) (dr_sV (A := [.int x2]) cl_M hk tw_805 tw_807 tp_30 co_M_relative ⟨by decide, by decide⟩ (by rfl) d_M_observe_19 rfl) co_M_relative (by decide +kernel) (by decide) (Nat.le_of_ble_eq_true rfl) (Nat.le_of_ble_eq_true rfl) (fun Q' hq => t_M_relative _ _ _ hq) hp (fun x8 h7 hp => ?_) (fun E q h3 hp => wx_out (by decide) hp)
    refine wp_ci (M' := mi_M_in) (As := [.int x3, .int 0, .int x8]) (st := [.int x6, .ref a1]) (fr' := 0) (wo' := 0) (dr_sS (A := [.int x3, .int 0, .int x8]) tw_734 tw_735 tw_5 co_M_in ⟨by decide, by decide⟩ (by rfl) d_M_observe_22 rfl) co_M_in (by decide +kernel) (by decide) (Nat.le_of_ble_eq_true rfl) (Nat.le_of_ble_eq_true rfl) (fun Q' hq => t_M_in _ _ _ _ hq) hp (fun x10 h9 hp => ?_) (fun E q h3 hp => wx_out (by decide) hp)
    refine wp_if_eq (tgt := 42) d_M_observe_25 (by decide) hp (fun _ hp => ?_) (fun _ hp => ?_)
    · exact wp_sub [1, 2, 3, 4] rfl (t_M_observe_42 _ _ _ _ _ _ _ hp)
    · refine wp_iload_n d_M_observe_28 4 rfl ?_
      refine wp_iconst (v := 0) (by decide) d_M_observe_29 ?_
      refine wp_bipush (v := 9) (by decide) d_M_observe_30 ?_
      refine wp_ci (M' := mi_M_in) (As := [.int x4, .int 0, .int 9]) (st := [.int x6, .ref a1]) (fr' := 0) (wo' := 0) (dr_sS (A := [.int x4, .int 0, .int 9]) tw_734 tw_735 tw_5 co_M_in ⟨by decide, by decide⟩ (by rfl) d_M_observe_32 rfl) co_M_in (by decide +kernel) (by decide) (Nat.le_of_ble_eq_true rfl) (Nat.le_of_ble_eq_true rfl) (fun Q' hq => t_M_in _ _ _ _ hq) hp (fun x12 h11 hp => ?_) (fun E q h3 hp => wx_out (by decide) hp)
      refine wp_if_eq (tgt := 42) d_M_observe_35 (by decide) hp (fun _ hp => ?_) (fun _ hp => ?_)
      · exact wp_sub [1, 2, 3, 4] rfl (t_M_observe_42 _ _ _ _ _ _ _ hp)
      · refine wp_iconst (v := 1) (by decide) d_M_observe_38 ?_
        refine wp_goto (tgt := 43) d_M_observe_39 (by decide) ?_
        exact wp_sub [1, 2, 3, 4] rfl (t_M_observe_43 _ _ _ _ _ _ _ _ hp)
def f_M_row_29 (a1 : Nat) (x2 : Int32) (x3 : Int32) (x4 : Int32) (a5 : Nat) (h : dr_AH) : Option (dr_RS × dr_AH) :=
  (dr_k h a5 4 (dr_ci' (f_M_goes a5 x4 1 1 h) fun x7 h6 => if x7 = 0 then some (.inl (some (.int 0)), h6) else if x3 = 0 then (dr_gr' h6 4 a1 28 fun a14 => (dr_ai h6 a14 x2 fun x15 => some (.inl (some (.int x15)), h6))) else if x3 = 1 then (dr_gr' h6 4 a1 29 fun a12 => (dr_ai h6 a12 x2 fun x13 => some (.inl (some (.int x13)), h6))) else if x3 = 2 then (dr_gr' h6 4 a1 30 fun a10 => (dr_ai h6 a10 x2 fun x11 => some (.inl (some (.int x11)), h6))) else (dr_gr' h6 4 a1 31 fun a8 => (dr_az h6 a8 x2 fun x9 => if x9 = 0 then some (.inl (some (.int 0)), h6) else some (.inl (some (.int 1)), h6)))))
def f_M_row_28 (a1 : Nat) (x2 : Int32) (x3 : Int32) (a4 : Nat) (h : dr_AH) : Option (dr_RS × dr_AH) :=
  f_M_row_29 a1 x2 x3 0 a4 h
def f_M_row (a1 : Nat) (x2 : Int32) (x3 : Int32) (h : dr_AH) : Option (dr_RS × dr_AH) :=
  (dr_gi h 4 a1 27 fun x4 => (dr_ci' (f_M_in x2 0 (x4 - 1) h) fun x6 h5 => if x6 = 0 then f_M_row_28 a1 x2 x3 a1 h5 else (dr_ci' (f_M_in x3 0 3 h5) fun x8 h7 => if x8 = 0 then f_M_row_28 a1 x2 x3 a1 h7 else f_M_row_29 a1 x2 x3 1 a1 h7)))
set_option maxRecDepth 100000 in
set_option maxHeartbeats 400000 in
theorem t_M_row_29 {Q : dr_RS → dr_AH → Prop} : ∀ (a1 : Nat) (x2 : Int32) (x3 : Int32) (x4 : Int32) (a5 : Nat) (h : dr_AH), dr_p (f_M_row_29 a1 x2 x3 x4 a5 h) Q → dr_W mi_M_row 1 15 29 [(0, .ref a1), (1, .int x2), (2, .int x3)] [.int x4, .ref a5] h Q := by
  intro a1 x2 x3 x4 a5 h hp
  unfold f_M_row_29 at hp
  refine wp_iconst (v := 1) (by decide) d_M_row_29 ?_
  refine wp_iconst (v := 1) (by decide) d_M_row_30 ?_
  refine wp_k hp (fun hk hp => ?_)
  refine wp_ci (M' := mi_M_goes) (As := [.ref a5, .int x4, .int 1, .int 1]) (st := []) (fr' := 0) (wo' := 0) (dr_sV (A := [.int x4, .int 1, .int 1]) cl_M hk tw_737 tw_739 tp_16 co_M_goes ⟨by decide, by decide⟩ (by rfl) d_M_row_31 rfl) co_M_goes (by decide +kernel) (by decide) (Nat.le_of_ble_eq_true rfl) (Nat.le_of_ble_eq_true rfl) (fun Q' hq => t_M_goes _ _ _ _ _ hq) hp (fun x7 h6 hp => ?_) (fun E q h3 hp => wx_out (by decide) hp)
  refine wp_if_ne (tgt := 39) d_M_row_34 (by decide) hp (fun _ hp => ?_) (fun _ hp => ?_)
  · refine wp_iload_n d_M_row_39 2 rfl ?_
    refine wp_if_ne (tgt := 52) d_M_row_40 (by decide) hp (fun _ hp => ?_) (fun _ hp => ?_)
    · refine wp_iload_n d_M_row_52 2 rfl ?_
      refine wp_iconst (v := 1) (by decide) d_M_row_53 ?_
      refine wp_icmp_ne (tgt := 66) d_M_row_54 (by decide) hp (fun _ hp => ?_) (fun _ hp => ?_)
      · refine wp_iload_n d_M_row_66 2 rfl ?_
        refine wp_iconst (v := 2) (by decide) d_M_row_67 ?_
        refine wp_icmp_ne (tgt := 80) d_M_row_68 (by decide) hp (fun _ hp => ?_) (fun _ hp => ?_)
        · refine wp_aload_n d_M_row_80 0 rfl ?_
          refine wp_gr cl_M fl_M_84 (by decide) d_M_row_81 hp (fun a8 hp => ?_) (fun hp => (dr_p0 hp).elim)
          refine wp_iload_n d_M_row_84 1 rfl ?_
          refine wp_zaload d_M_row_85 hp (fun x9 hp => ?_)
          refine wp_if_eq (tgt := 93) d_M_row_86 (by decide) hp (fun _ hp => ?_) (fun _ hp => ?_)
          · refine wp_iconst (v := 0) (by decide) d_M_row_93 ?_
            exact wp_ireturn rfl rfl d_M_row_94 hp
          · refine wp_iconst (v := 1) (by decide) d_M_row_89 ?_
            refine wp_goto (tgt := 94) d_M_row_90 (by decide) ?_
            exact wp_ireturn rfl rfl d_M_row_94 hp
        · refine wp_aload_n d_M_row_71 0 rfl ?_
          refine wp_gr cl_M fl_M_81 (by decide) d_M_row_72 hp (fun a10 hp => ?_) (fun hp => (dr_p0 hp).elim)
          refine wp_iload_n d_M_row_75 1 rfl ?_
          refine wp_iaload d_M_row_76 hp (fun x11 hp => ?_)
          refine wp_goto (tgt := 94) d_M_row_77 (by decide) ?_
          exact wp_ireturn rfl rfl d_M_row_94 hp
      · refine wp_aload_n d_M_row_57 0 rfl ?_
        refine wp_gr cl_M fl_M_78 (by decide) d_M_row_58 hp (fun a12 hp => ?_) (fun hp => (dr_p0 hp).elim)
        refine wp_iload_n d_M_row_61 1 rfl ?_
        refine wp_iaload d_M_row_62 hp (fun x13 hp => ?_)
        refine wp_goto (tgt := 94) d_M_row_63 (by decide) ?_
        exact wp_ireturn rfl rfl d_M_row_94 hp
    · refine wp_aload_n d_M_row_43 0 rfl ?_
      refine wp_gr cl_M fl_M_75 (by decide) d_M_row_44 hp (fun a14 hp => ?_) (fun hp => (dr_p0 hp).elim)
      refine wp_iload_n d_M_row_47 1 rfl ?_
      refine wp_iaload d_M_row_48 hp (fun x15 hp => ?_)
      refine wp_goto (tgt := 94) d_M_row_49 (by decide) ?_
      exact wp_ireturn rfl rfl d_M_row_94 hp
  · refine wp_iconst (v := 0) (by decide) d_M_row_37 ?_
    exact wp_ireturn rfl rfl d_M_row_38 hp
set_option maxRecDepth 100000 in
set_option maxHeartbeats 400000 in
theorem t_M_row_28 {Q : dr_RS → dr_AH → Prop} : ∀ (a1 : Nat) (x2 : Int32) (x3 : Int32) (a4 : Nat) (h : dr_AH), dr_p (f_M_row_28 a1 x2 x3 a4 h) Q → dr_W mi_M_row 1 15 28 [(0, .ref a1), (1, .int x2), (2, .int x3)] [.ref a4] h Q := by
  intro a1 x2 x3 a4 h hp
  unfold f_M_row_28 at hp
  refine wp_iconst (v := 0) (by decide) d_M_row_28 ?_
  exact wp_sub [0, 1, 2] rfl (t_M_row_29 _ _ _ _ _ _ hp)
set_option maxRecDepth 100000 in
set_option maxHeartbeats 400000 in
theorem t_M_row {Q : dr_RS → dr_AH → Prop} : ∀ (a1 : Nat) (x2 : Int32) (x3 : Int32) (h : dr_AH), dr_p (f_M_row a1 x2 x3 h) Q → dr_W mi_M_row 1 15 0 [(0, .ref a1), (1, .int x2), (2, .int x3)] [] h Q := by
  intro a1 x2 x3 h hp
  unfold f_M_row at hp
  refine wp_aload_n d_M_row_0 0 rfl ?_
  refine wp_iload_n d_M_row_1 1 rfl ?_
  refine wp_iconst (v := 0) (by decide) d_M_row_2 ?_
  refine wp_aload_n d_M_row_3 0 rfl ?_
  refine wp_gi cl_M fl_M_178 (by decide) d_M_row_4 hp (fun x4 hp => ?_)
  refine wp_iconst (v := 1) (by decide) d_M_row_7 ?_
  refine wp_isub d_M_row_8 ?_
  refine wp_ci (M' := mi_M_in) (As := [.int x2, .int 0, .int (x4 - 1)]) (st := [.ref a1]) (fr' := 0) (wo' := 0) (dr_sS (A := [.int x2, .int 0, .int (x4 - 1)]) tw_734 tw_735 tw_5 co_M_in ⟨by decide, by decide⟩ (by rfl) d_M_row_9 rfl) co_M_in (by decide +kernel) (by decide) (Nat.le_of_ble_eq_true rfl) (Nat.le_of_ble_eq_true rfl) (fun Q' hq => t_M_in _ _ _ _ hq) hp (fun x6 h5 hp => ?_) (fun E q h3 hp => wx_out (by decide) hp)
  refine wp_if_eq (tgt := 28) d_M_row_12 (by decide) hp (fun _ hp => ?_) (fun _ hp => ?_)
  · exact wp_sub [0, 1, 2] rfl (t_M_row_28 _ _ _ _ _ hp)
  · refine wp_iload_n d_M_row_15 2 rfl ?_
    refine wp_iconst (v := 0) (by decide) d_M_row_16 ?_
    refine wp_iconst (v := 3) (by decide) d_M_row_17 ?_
    refine wp_ci (M' := mi_M_in) (As := [.int x3, .int 0, .int 3]) (st := [.ref a1]) (fr' := 0) (wo' := 0) (dr_sS (A := [.int x3, .int 0, .int 3]) tw_734 tw_735 tw_5 co_M_in ⟨by decide, by decide⟩ (by rfl) d_M_row_18 rfl) co_M_in (by decide +kernel) (by decide) (Nat.le_of_ble_eq_true rfl) (Nat.le_of_ble_eq_true rfl) (fun Q' hq => t_M_in _ _ _ _ hq) hp (fun x8 h7 hp => ?_) (fun E q h3 hp => wx_out (by decide) hp)
    refine wp_if_eq (tgt := 28) d_M_row_21 (by decide) hp (fun _ hp => ?_) (fun _ hp => ?_)
    · exact wp_sub [0, 1, 2] rfl (t_M_row_28 _ _ _ _ _ hp)
    · refine wp_iconst (v := 1) (by decide) d_M_row_24 ?_
      refine wp_goto (tgt := 29) d_M_row_25 (by decide) ?_
      exact wp_sub [0, 1, 2] rfl (t_M_row_29 _ _ _ _ _ _ hp)
def f_M_drill_71 : Nat → Nat → Int32 → Int32 → Int32 → Int32 → Int32 → dr_AH → Option (dr_RS × dr_AH)
  | 0, _, _, _, _, _, _, _ => none
  | n + 1, a1, x2, x3, x4, x5, x6, h => if 41 ≤ x6 then if x3 = 0 then (dr_gr' h 4 a1 21 fun a11 => (dr_az h a11 x2 fun x12 => if x12 = 0 then some (.inl (some (.int 1)), h) else some (.inl (some (.int 0)), h))) else if x3 = 1 then (dr_gr' h 4 a1 20 fun a9 => (dr_ai h a9 x2 fun x10 => some (.inl (some (.int x10)), h))) else if x3 = 2 then (dr_gr' h 4 a1 23 fun a7 => (dr_ai h a7 x2 fun x8 => some (.inl (some (.int x8)), h))) else if x3 = 3 then some (.inl (some (.int x4)), h) else some (.inl (some (.int x5)), h) else (dr_gr' h 4 a1 7 fun a13 => (dr_az h a13 ((x2 * 41) + x6) fun x14 => if x14 = 0 then f_M_drill_71 n a1 x2 x3 x4 x5 (x6 + 1) h else (dr_gr' h 4 a1 22 fun a15 => (dr_ai h a15 ((x2 * 41) + x6) fun x16 => if x16 < 0 then f_M_drill_71 n a1 x2 x3 x4 x5 (x6 + 1) h else f_M_drill_71 n a1 x2 x3 x4 (x5 + 1) (x6 + 1) h))))
def f_M_drill_38 : Nat → Nat → Int32 → Int32 → Int32 → Int32 → dr_AH → Option (dr_RS × dr_AH)
  | 0, _, _, _, _, _, _ => none
  | n + 1, a1, x2, x3, x4, x5, h => if 20 ≤ x5 then f_M_drill_71 dr_fu a1 x2 x3 x4 0 1 h else (dr_gr' h 4 a1 26 fun a6 => (dr_ai h a6 x5 fun x7 => if x7 = x2 then f_M_drill_38 n a1 x2 x3 (x4 + 1) (x5 + 1) h else f_M_drill_38 n a1 x2 x3 x4 (x5 + 1) h))
def f_M_drill_22 (a1 : Nat) (x2 : Int32) (x3 : Int32) (a4 : Nat) (h : dr_AH) : Option (dr_RS × dr_AH) :=
  (dr_k h a4 4 (dr_ci' (f_M_goes a4 0 1 1 h) fun x6 h5 => if x6 = 0 then some (.inl (some (.int 0)), h5) else f_M_drill_38 dr_fu a1 x2 x3 0 0 h5))
def f_M_drill (a1 : Nat) (x2 : Int32) (x3 : Int32) (h : dr_AH) : Option (dr_RS × dr_AH) :=
  (dr_k h a1 4 (dr_ci' (f_M_isDrill a1 x2 h) fun x5 h4 => if x5 = 0 then f_M_drill_22 a1 x2 x3 a1 h4 else (dr_ci' (f_M_in x3 0 4 h4) fun x7 h6 => if x7 = 0 then f_M_drill_22 a1 x2 x3 a1 h6 else (dr_k h6 a1 4 (dr_ci' (f_M_goes a1 1 1 1 h6) fun x9 h8 => if x9 = 0 then some (.inl (some (.int 0)), h8) else f_M_drill_38 dr_fu a1 x2 x3 0 0 h8)))))
set_option maxRecDepth 100000 in
set_option maxHeartbeats 400000 in
theorem t_M_drill_71 {Q : dr_RS → dr_AH → Prop} : ∀ (n : Nat) (a1 : Nat) (x2 : Int32) (x3 : Int32) (x4 : Int32) (x5 : Int32) (x6 : Int32) (h : dr_AH), dr_p (f_M_drill_71 n a1 x2 x3 x4 x5 x6 h) Q → dr_W mi_M_drill 2 28 71 [(0, .ref a1), (1, .int x2), (2, .int x3), (3, .int x4), (4, .int x5), (5, .int x6)] [] h Q := by
  intro n
  induction n with
  | zero => intro a1 x2 x3 x4 x5 x6 h hp; exact (dr_p0 hp).elim
  | succ n ih =>
    intro a1 x2 x3 x4 x5 x6 h hp
    unfold f_M_drill_71 at hp
    refine wp_iload d_M_drill_71 5 rfl ?_
    refine wp_bipush (v := 41) (by decide) d_M_drill_73 ?_
    refine wp_icmp_ge (tgt := 117) d_M_drill_75 (by decide) hp (fun _ hp => ?_) (fun _ hp => ?_)
    · refine wp_iload_n d_M_drill_117 2 rfl ?_
      refine wp_if_ne (tgt := 138) d_M_drill_118 (by decide) hp (fun _ hp => ?_) (fun _ hp => ?_)
      · refine wp_iload_n d_M_drill_138 2 rfl ?_
        refine wp_iconst (v := 1) (by decide) d_M_drill_139 ?_
        refine wp_icmp_ne (tgt := 152) d_M_drill_140 (by decide) hp (fun _ hp => ?_) (fun _ hp => ?_)
        · refine wp_iload_n d_M_drill_152 2 rfl ?_
          refine wp_iconst (v := 2) (by decide) d_M_drill_153 ?_
          refine wp_icmp_ne (tgt := 166) d_M_drill_154 (by decide) hp (fun _ hp => ?_) (fun _ hp => ?_)
          · refine wp_iload_n d_M_drill_166 2 rfl ?_
            refine wp_iconst (v := 3) (by decide) d_M_drill_167 ?_
            refine wp_icmp_ne (tgt := 175) d_M_drill_168 (by decide) hp (fun _ hp => ?_) (fun _ hp => ?_)
            · refine wp_iload d_M_drill_175 4 rfl ?_
              exact wp_ireturn rfl rfl d_M_drill_177 hp
            · refine wp_iload_n d_M_drill_171 3 rfl ?_
              refine wp_goto (tgt := 177) d_M_drill_172 (by decide) ?_
              exact wp_ireturn rfl rfl d_M_drill_177 hp
          · refine wp_aload_n d_M_drill_157 0 rfl ?_
            refine wp_gr cl_M fl_M_63 (by decide) d_M_drill_158 hp (fun a7 hp => ?_) (fun hp => (dr_p0 hp).elim)
            refine wp_iload_n d_M_drill_161 1 rfl ?_
            refine wp_iaload d_M_drill_162 hp (fun x8 hp => ?_)
            refine wp_goto (tgt := 177) d_M_drill_163 (by decide) ?_
            exact wp_ireturn rfl rfl d_M_drill_177 hp
        · refine wp_aload_n d_M_drill_143 0 rfl ?_
          refine wp_gr cl_M fl_M_54 (by decide) d_M_drill_144 hp (fun a9 hp => ?_) (fun hp => (dr_p0 hp).elim)
          refine wp_iload_n d_M_drill_147 1 rfl ?_
          refine wp_iaload d_M_drill_148 hp (fun x10 hp => ?_)
          refine wp_goto (tgt := 177) d_M_drill_149 (by decide) ?_
          exact wp_ireturn rfl rfl d_M_drill_177 hp
      · refine wp_aload_n d_M_drill_121 0 rfl ?_
        refine wp_gr cl_M fl_M_57 (by decide) d_M_drill_122 hp (fun a11 hp => ?_) (fun hp => (dr_p0 hp).elim)
        refine wp_iload_n d_M_drill_125 1 rfl ?_
        refine wp_zaload d_M_drill_126 hp (fun x12 hp => ?_)
        refine wp_if_eq (tgt := 134) d_M_drill_127 (by decide) hp (fun _ hp => ?_) (fun _ hp => ?_)
        · refine wp_iconst (v := 1) (by decide) d_M_drill_134 ?_
          refine wp_goto (tgt := 177) d_M_drill_135 (by decide) ?_
          exact wp_ireturn rfl rfl d_M_drill_177 hp
        · refine wp_iconst (v := 0) (by decide) d_M_drill_130 ?_
          refine wp_goto (tgt := 177) d_M_drill_131 (by decide) ?_
          exact wp_ireturn rfl rfl d_M_drill_177 hp
    · refine wp_aload_n d_M_drill_78 0 rfl ?_
      refine wp_gr cl_M fl_M_17 (by decide) d_M_drill_79 hp (fun a13 hp => ?_) (fun hp => (dr_p0 hp).elim)
      refine wp_iload_n d_M_drill_82 1 rfl ?_
      refine wp_bipush (v := 41) (by decide) d_M_drill_83 ?_
      refine wp_imul d_M_drill_85 ?_
      refine wp_iload d_M_drill_86 5 rfl ?_
      refine wp_iadd d_M_drill_88 ?_
      refine wp_zaload d_M_drill_89 hp (fun x14 hp => ?_)
      refine wp_if_eq (tgt := 111) d_M_drill_90 (by decide) hp (fun _ hp => ?_) (fun _ hp => ?_)
      · refine wp_iinc (v := (x6 + 1)) (l' := [(5, .int (x6 + 1)), (0, .ref a1), (1, .int x2), (2, .int x3), (3, .int x4), (4, .int x5)]) d_M_drill_111 5 rfl rfl (by decide) rfl ?_
        refine wp_goto (tgt := 71) d_M_drill_114 (by decide) ?_
        exact wp_sub [1, 2, 3, 4, 5, 0] rfl (ih _ _ _ _ _ _ _ hp)
      · refine wp_aload_n d_M_drill_93 0 rfl ?_
        refine wp_gr cl_M fl_M_60 (by decide) d_M_drill_94 hp (fun a15 hp => ?_) (fun hp => (dr_p0 hp).elim)
        refine wp_iload_n d_M_drill_97 1 rfl ?_
        refine wp_bipush (v := 41) (by decide) d_M_drill_98 ?_
        refine wp_imul d_M_drill_100 ?_
        refine wp_iload d_M_drill_101 5 rfl ?_
        refine wp_iadd d_M_drill_103 ?_
        refine wp_iaload d_M_drill_104 hp (fun x16 hp => ?_)
        refine wp_if_lt (tgt := 111) d_M_drill_105 (by decide) hp (fun _ hp => ?_) (fun _ hp => ?_)
        · refine wp_iinc (v := (x6 + 1)) (l' := [(5, .int (x6 + 1)), (0, .ref a1), (1, .int x2), (2, .int x3), (3, .int x4), (4, .int x5)]) d_M_drill_111 5 rfl rfl (by decide) rfl ?_
          refine wp_goto (tgt := 71) d_M_drill_114 (by decide) ?_
          exact wp_sub [1, 2, 3, 4, 5, 0] rfl (ih _ _ _ _ _ _ _ hp)
        · refine wp_iinc (v := (x5 + 1)) (l' := [(4, .int (x5 + 1)), (0, .ref a1), (1, .int x2), (2, .int x3), (3, .int x4), (5, .int x6)]) d_M_drill_108 4 rfl rfl (by decide) rfl ?_
          refine wp_iinc (v := (x6 + 1)) (l' := [(5, .int (x6 + 1)), (4, .int (x5 + 1)), (0, .ref a1), (1, .int x2), (2, .int x3), (3, .int x4)]) d_M_drill_111 5 rfl rfl (by decide) rfl ?_
          refine wp_goto (tgt := 71) d_M_drill_114 (by decide) ?_
          exact wp_sub [2, 3, 4, 5, 1, 0] rfl (ih _ _ _ _ _ _ _ hp)
set_option maxRecDepth 100000 in
set_option maxHeartbeats 400000 in
theorem t_M_drill_38 {Q : dr_RS → dr_AH → Prop} : ∀ (n : Nat) (a1 : Nat) (x2 : Int32) (x3 : Int32) (x4 : Int32) (x5 : Int32) (h : dr_AH), dr_p (f_M_drill_38 n a1 x2 x3 x4 x5 h) Q → dr_W mi_M_drill 2 28 38 [(0, .ref a1), (1, .int x2), (2, .int x3), (3, .int x4), (4, .int x5)] [] h Q := by
  intro n
  induction n with
  | zero => intro a1 x2 x3 x4 x5 h hp; exact (dr_p0 hp).elim
  | succ n ih =>
    intro a1 x2 x3 x4 x5 h hp
    unfold f_M_drill_38 at hp
    refine wp_iload d_M_drill_38 4 rfl ?_
    refine wp_bipush (v := 20) (by decide) d_M_drill_40 ?_
    refine wp_icmp_ge (tgt := 65) d_M_drill_42 (by decide) hp (fun _ hp => ?_) (fun _ hp => ?_)
    · refine wp_iconst (v := 0) (by decide) d_M_drill_65 ?_
      refine wp_istore (l' := [(4, .int 0), (0, .ref a1), (1, .int x2), (2, .int x3), (3, .int x4)]) d_M_drill_66 (by decide) rfl ?_
      refine wp_iconst (v := 1) (by decide) d_M_drill_68 ?_
      refine wp_istore (l' := [(5, .int 1), (4, .int 0), (0, .ref a1), (1, .int x2), (2, .int x3), (3, .int x4)]) d_M_drill_69 (by decide) rfl ?_
      exact wp_sub [2, 3, 4, 5, 1, 0] rfl (t_M_drill_71 dr_fu _ _ _ _ _ _ _ hp)
    · refine wp_aload_n d_M_drill_45 0 rfl ?_
      refine wp_gr cl_M fl_M_72 (by decide) d_M_drill_46 hp (fun a6 hp => ?_) (fun hp => (dr_p0 hp).elim)
      refine wp_iload d_M_drill_49 4 rfl ?_
      refine wp_iaload d_M_drill_51 hp (fun x7 hp => ?_)
      refine wp_iload_n d_M_drill_52 1 rfl ?_
      refine wp_icmp_ne (tgt := 59) d_M_drill_53 (by decide) hp (fun _ hp => ?_) (fun _ hp => ?_)
      · refine wp_iinc (v := (x5 + 1)) (l' := [(4, .int (x5 + 1)), (0, .ref a1), (1, .int x2), (2, .int x3), (3, .int x4)]) d_M_drill_59 4 rfl rfl (by decide) rfl ?_
        refine wp_goto (tgt := 38) d_M_drill_62 (by decide) ?_
        exact wp_sub [1, 2, 3, 4, 0] rfl (ih _ _ _ _ _ _ hp)
      · refine wp_iinc (v := (x4 + 1)) (l' := [(3, .int (x4 + 1)), (0, .ref a1), (1, .int x2), (2, .int x3), (4, .int x5)]) d_M_drill_56 3 rfl rfl (by decide) rfl ?_
        refine wp_iinc (v := (x5 + 1)) (l' := [(4, .int (x5 + 1)), (3, .int (x4 + 1)), (0, .ref a1), (1, .int x2), (2, .int x3)]) d_M_drill_59 4 rfl rfl (by decide) rfl ?_
        refine wp_goto (tgt := 38) d_M_drill_62 (by decide) ?_
        exact wp_sub [2, 3, 4, 1, 0] rfl (ih _ _ _ _ _ _ hp)
set_option maxRecDepth 100000 in
set_option maxHeartbeats 400000 in
theorem t_M_drill_22 {Q : dr_RS → dr_AH → Prop} : ∀ (a1 : Nat) (x2 : Int32) (x3 : Int32) (a4 : Nat) (h : dr_AH), dr_p (f_M_drill_22 a1 x2 x3 a4 h) Q → dr_W mi_M_drill 2 28 22 [(0, .ref a1), (1, .int x2), (2, .int x3)] [.ref a4] h Q := by
  intro a1 x2 x3 a4 h hp
  unfold f_M_drill_22 at hp
  refine wp_iconst (v := 0) (by decide) d_M_drill_22 ?_
  refine wp_iconst (v := 1) (by decide) d_M_drill_23 ?_
  refine wp_iconst (v := 1) (by decide) d_M_drill_24 ?_
  refine wp_k hp (fun hk hp => ?_)
  refine wp_ci (M' := mi_M_goes) (As := [.ref a4, .int 0, .int 1, .int 1]) (st := []) (fr' := 0) (wo' := 0) (dr_sV (A := [.int 0, .int 1, .int 1]) cl_M hk tw_737 tw_739 tp_16 co_M_goes ⟨by decide, by decide⟩ (by rfl) d_M_drill_25 rfl) co_M_goes (by decide +kernel) (by decide) (Nat.le_of_ble_eq_true rfl) (Nat.le_of_ble_eq_true rfl) (fun Q' hq => t_M_goes _ _ _ _ _ hq) hp (fun x6 h5 hp => ?_) (fun E q h3 hp => wx_out (by decide) hp)
  refine wp_if_ne (tgt := 33) d_M_drill_28 (by decide) hp (fun _ hp => ?_) (fun _ hp => ?_)
  · refine wp_iconst (v := 0) (by decide) d_M_drill_33 ?_
    refine wp_istore_n (l' := [(3, .int 0), (0, .ref a1), (1, .int x2), (2, .int x3)]) d_M_drill_34 (by decide) rfl ?_
    refine wp_iconst (v := 0) (by decide) d_M_drill_35 ?_
    refine wp_istore (l' := [(4, .int 0), (3, .int 0), (0, .ref a1), (1, .int x2), (2, .int x3)]) d_M_drill_36 (by decide) rfl ?_
    exact wp_sub [2, 3, 4, 1, 0] rfl (t_M_drill_38 dr_fu _ _ _ _ _ _ hp)
  · refine wp_iconst (v := 0) (by decide) d_M_drill_31 ?_
    exact wp_ireturn rfl rfl d_M_drill_32 hp
set_option maxRecDepth 100000 in
set_option maxHeartbeats 400000 in
theorem t_M_drill {Q : dr_RS → dr_AH → Prop} : ∀ (a1 : Nat) (x2 : Int32) (x3 : Int32) (h : dr_AH), dr_p (f_M_drill a1 x2 x3 h) Q → dr_W mi_M_drill 2 28 0 [(0, .ref a1), (1, .int x2), (2, .int x3)] [] h Q := by
  intro a1 x2 x3 h hp
  unfold f_M_drill at hp
  refine wp_aload_n d_M_drill_0 0 rfl ?_
  refine wp_aload_n d_M_drill_1 0 rfl ?_
  refine wp_iload_n d_M_drill_2 1 rfl ?_
  refine wp_k hp (fun hk hp => ?_)
  refine wp_ci (M' := mi_M_isDrill) (As := [.ref a1, .int x2]) (st := [.ref a1]) (fr' := 1) (wo' := 14) (dr_sV (A := [.int x2]) cl_M hk tw_817 tw_819 tp_32 co_M_isDrill ⟨by decide, by decide⟩ (by rfl) d_M_drill_3 rfl) co_M_isDrill (by decide +kernel) (by decide) (Nat.le_of_ble_eq_true rfl) (Nat.le_of_ble_eq_true rfl) (fun Q' hq => t_M_isDrill _ _ _ hq) hp (fun x5 h4 hp => ?_) (fun E q h3 hp => wx_out (by decide) hp)
  refine wp_if_eq (tgt := 22) d_M_drill_6 (by decide) hp (fun _ hp => ?_) (fun _ hp => ?_)
  · exact wp_sub [0, 1, 2] rfl (t_M_drill_22 _ _ _ _ _ hp)
  · refine wp_iload_n d_M_drill_9 2 rfl ?_
    refine wp_iconst (v := 0) (by decide) d_M_drill_10 ?_
    refine wp_iconst (v := 4) (by decide) d_M_drill_11 ?_
    refine wp_ci (M' := mi_M_in) (As := [.int x3, .int 0, .int 4]) (st := [.ref a1]) (fr' := 0) (wo' := 0) (dr_sS (A := [.int x3, .int 0, .int 4]) tw_734 tw_735 tw_5 co_M_in ⟨by decide, by decide⟩ (by rfl) d_M_drill_12 rfl) co_M_in (by decide +kernel) (by decide) (Nat.le_of_ble_eq_true rfl) (Nat.le_of_ble_eq_true rfl) (fun Q' hq => t_M_in _ _ _ _ hq) hp (fun x7 h6 hp => ?_) (fun E q h3 hp => wx_out (by decide) hp)
    refine wp_if_eq (tgt := 22) d_M_drill_15 (by decide) hp (fun _ hp => ?_) (fun _ hp => ?_)
    · exact wp_sub [0, 1, 2] rfl (t_M_drill_22 _ _ _ _ _ hp)
    · refine wp_iconst (v := 1) (by decide) d_M_drill_18 ?_
      refine wp_goto (tgt := 23) d_M_drill_19 (by decide) ?_
      refine wp_iconst (v := 1) (by decide) d_M_drill_23 ?_
      refine wp_iconst (v := 1) (by decide) d_M_drill_24 ?_
      refine wp_k hp (fun hk hp => ?_)
      refine wp_ci (M' := mi_M_goes) (As := [.ref a1, .int 1, .int 1, .int 1]) (st := []) (fr' := 0) (wo' := 0) (dr_sV (A := [.int 1, .int 1, .int 1]) cl_M hk tw_737 tw_739 tp_16 co_M_goes ⟨by decide, by decide⟩ (by rfl) d_M_drill_25 rfl) co_M_goes (by decide +kernel) (by decide) (Nat.le_of_ble_eq_true rfl) (Nat.le_of_ble_eq_true rfl) (fun Q' hq => t_M_goes _ _ _ _ _ hq) hp (fun x9 h8 hp => ?_) (fun E q h3 hp => wx_out (by decide) hp)
      refine wp_if_ne (tgt := 33) d_M_drill_28 (by decide) hp (fun _ hp => ?_) (fun _ hp => ?_)
      · refine wp_iconst (v := 0) (by decide) d_M_drill_33 ?_
        refine wp_istore_n (l' := [(3, .int 0), (0, .ref a1), (1, .int x2), (2, .int x3)]) d_M_drill_34 (by decide) rfl ?_
        refine wp_iconst (v := 0) (by decide) d_M_drill_35 ?_
        refine wp_istore (l' := [(4, .int 0), (3, .int 0), (0, .ref a1), (1, .int x2), (2, .int x3)]) d_M_drill_36 (by decide) rfl ?_
        exact wp_sub [2, 3, 4, 1, 0] rfl (t_M_drill_38 dr_fu _ _ _ _ _ _ hp)
      · refine wp_iconst (v := 0) (by decide) d_M_drill_31 ?_
        exact wp_ireturn rfl rfl d_M_drill_32 hp
