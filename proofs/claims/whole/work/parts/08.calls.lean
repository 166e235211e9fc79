/-! ===== calls ===== -/
/-- the method's code stands in the tables -/
def dr_code (M : dr_MI) : Prop := (M.tab = [] ∧ dr_T (.code M.y M.code M.maxL M.ret)) ∨ dr_T (.codeWith M.y M.code M.maxL M.ret M.tab)
theorem dr_code.at {M : dr_MI} (hc : dr_code M) {G : dr_Gt} {s : State} (K : dr_K G) (hW : G.s.WarmedH s.vm) {mk : MethodId} (hn : s.methodNamed? M.y = some mk) :
    ∃ methk ck, s.vm.method? mk = some methk ∧ methk.code = some ck ∧ ck.code = M.code ∧ ck.maxLocals = M.maxL ∧ methk.sig.returnType = M.ret ∧ methk.locks = false ∧ ck.exceptionTable.toList.map (fun x => (x.startPc, x.endPc, x.handlerPc, x.catchType)) = M.tab ∧ parseMethodDescriptor M.y.desc = some methk.sig := by
  rcases hc with ⟨ht, hc⟩ | hc
  · obtain ⟨methk, ck, h1, h2, h3, h4, h5, h6, h7, h8⟩ := Cond.code_spec (args := #[]) (first := s) (o := none) (idx := []) hn (hc G s #[] K hW)
    refine ⟨methk, ck, h1, h2, h3, h4, h5, h6, ?_, h8⟩
    rw [ht]
    have : ck.exceptionTable = #[] := by simpa using h7
    rw [this]
    rfl
  · obtain ⟨mk', methk, ck, h0, h1, h2, h3, h4, h5, h6, h7, h8⟩ := Cond.codeWith_spec (args := #[]) (first := s) (o := none) (idx := []) (hc G s #[] K hW)
    cases hn.symm.trans h0
    exact ⟨methk, ck, h1, h2, h3, h4, h6, h7, h5, h8⟩
theorem dr_args (G : dr_Gt) : ∀ (vs : List Value) (i : Nat), lv_args i (vs.map (dr_tr G)) = dr_tl G (lv_args i vs) := by
  intro vs
  induction vs with
  | nil => intro i; rfl
  | cons v vs ih =>
    intro i
    simp only [List.map_cons, lv_args, dr_tr_cat, ih]
    rfl
theorem dr_sl_len (G : dr_Gt) (vs : List Value) : (lg_sl (vs.map (dr_tr G))).length = (lg_sl vs).length := by
  induction vs with
  | nil => rfl
  | cons v vs ih =>
    simp only [lg_sl, List.map_cons, List.flatMap_cons, List.length_append, dr_tr_cat] at ih ⊢
    rw [ih]
    congr 1
    by_cases hv : v.category = 2
    · rw [if_pos hv, if_pos hv]; rfl
    · rw [if_neg hv, if_neg hv]; rfl
theorem dr_under {tb : Tables} {e : Env} {g : Frame} {below : List Frame} {s t : State} (h : Steps tb e (g :: below) s t) : Steps tb e below s t := by
  obtain ⟨n, e1, w⟩ := h
  exact ⟨n, e1, fun k hk => Within.weaken (mid := [g]) (w k hk)⟩
section DRG
variable {G : dr_Gt} {M M' : dr_MI} {fr' wo' fr wo pc : Nat} {R : Room} {s : State} {m : MethodId} {args : Array Value} {below : List Frame} {meth : Method} {c : Code} {H : Heap} {locs : List Loc} {cells slots : Nat} {ls : Array Slot} {l : List (Nat × Value)} {h : dr_AH} {Q' : dr_RS → dr_AH → Prop}
/-- into the callee, through it, and out again -/
theorem dr_go (X : dr_X G M fr wo R s m meth c H locs cells slots ls l h) {T₁ : State} (hT : T₁.heap = H) (S : Stand G.p G.l G.e R s m args below meth c T₁ locs cells slots) {mk : MethodId} (hn : s.methodNamed? M'.y = some mk) (hcode : dr_code M') (hpl : plainFor M'.y = true)
    {As st : List Value} {ig : Instr} {len : Nat} (hdg : decode c.code pc = .ok (ig, len)) (hf : fr' + 1 ≤ fr) (hw : (st.map fun v => v.category).sum + (M'.maxL + 11) + wo' ≤ wo) (hAs : (lg_sl As).length ≤ M'.maxL) (k : dr_W M' fr' wo' 0 (lv_args 0 As) [] h Q') :
    (∃ (v : Option Value) (h' : dr_AH) (T' : State) (L : List Loc) (k n : Nat), Q' (.inl v) h' ∧ Stand G.p G.l G.e R s m args below meth c T' (locs ++ L) (cells + k) (slots + n) ∧ dr_X G M fr wo R s m meth c T'.heap (locs ++ L) (cells + k) (slots + n) ls l h' ∧
      ∀ acts, Steps G.p.tables G.e below (doInvoke G.e (T₁.setTop (F0 m pc ls (st.map (dr_tr G)))) acts mk (As.map (dr_tr G)).toArray).1 (T'.setTop (F0 m (pc + len) ls ((v.map (dr_tr G)).toList ++ st.map (dr_tr G))))) ∨
    (∃ (E : String) (q : Nat) (h' : dr_AH) (T' : State) (L : List Loc) (k n : Nat), Q' (.inr (E, q)) h' ∧ Stand G.p G.l G.e R s m args below meth c T' (locs ++ L) (cells + k) (slots + n) ∧ dr_X G M fr wo R s m meth c T'.heap (locs ++ L) (cells + k) (slots + n) ls l h' ∧
      1 ≤ q ∧ q ≤ h'.1 ∧ (∃ ce : Cell, T'.heap[dr_ad G q]? = some ce ∧ ce.vm = .none ∧ G.s.vm.findClass E = some ce.cls) ∧
      ∀ acts, Steps G.p.tables G.e below (doInvoke G.e (T₁.setTop (F0 m pc ls (st.map (dr_tr G)))) acts mk (As.map (dr_tr G)).toArray).1 ((T'.setTop (F0 m pc ls (st.map (dr_tr G)))).pushFrame (.throwing (dr_ad G q)))) := by
  obtain ⟨methk, ck, h1, h2, h3, h4, h5, h6, h7, -⟩ := hcode.at X.1 X.warm hn
  have hal := S.warmed.alike
  have hmk : T₁.vm.method? mk = some methk := by rw [hal.method?]; exact h1
  have hn1 : T₁.methodNamed? M'.y = some mk := S.named hn
  have hpk : T₁.plainMethod mk := State.plainMethod.of_named hpl hn1 hmk
  have hr := X.room
  have hc1 := X.cellsE
  have hs1 := X.slotsE
  have hb1 := X.heap.2.2.2.2.2
  unfold dr_R at hr
  have hcat := dr_cats G st
  obtain ⟨Y, hdo⟩ := S.into (g := F0 m pc ls (st.map (dr_tr G))) rfl (X.lsE.1.trans X.maxL.symm) hdg (mk := mk) (methk := methk) (ck := ck) (As.map (dr_tr G)).toArray
    (R' := { frames := R.frames - 1, cells := R.cells - cells, slots := R.slots - slots, locals := R.locals - ((st.map fun v => v.category).sum + (M'.maxL + 11)) }) hmk h2 h6 hpk (by show R.frames - 1 + 1 ≤ R.frames; omega)
    (by show 2 * 0 + ((st.map (dr_tr G)).map fun v => v.category).sum + (ck.maxLocals + 11) + (R.locals - _) ≤ R.locals; rw [hcat, h4]; omega) (by show cells + (R.cells - cells) ≤ R.cells; omega) (by show slots + (R.slots - slots) ≤ R.slots; omega)
  rw [h4] at hdo Y
  have hls := lv_entry (As.map (dr_tr G)) (n := M'.maxL) (by rw [dr_sl_len]; exact hAs)
  rw [dr_args] at hls
  have hX' : dr_X G M' fr' wo' { frames := R.frames - 1, cells := R.cells - cells, slots := R.slots - slots, locals := R.locals - ((st.map fun v => v.category).sum + (M'.maxL + 11)) } (T₁.calling (F0 m pc ls (st.map (dr_tr G))) mk (As.map (dr_tr G)).toArray) mk methk ck H [] 0 0 _ (lv_args 0 As) h :=
    ⟨X.1, ⟨State.WarmedH.trans X.warm S.warmed, findClass_of_methodNamed hn1, h3, h4, h5, h6, (name_of_methodNamed hn1 hmk).1, h7⟩, ⟨by show fr' ≤ R.frames - 1; omega, by show wo' ≤ R.locals - _; omega⟩, by show R.cells - cells + h.1 = dr_CC + 0; omega, by show R.slots - slots + h.2.1 = dr_SC + 0; omega, (fun q hq => by cases hq), X.heap, hls⟩
  obtain ⟨t, hst, o, r, h', L, kk, n, e1, e2, e3, e4, e5, e6, e7, e8, e9, e10⟩ := k G _ _ mk (As.map (dr_tr G)).toArray (.java (F0 m pc ls (st.map (dr_tr G))) :: below) methk ck H [] 0 0 _ hX' ((T₁.setTop (F0 m pc ls (st.map (dr_tr G)))).pushFrame (.java (entryFrame mk (As.map (dr_tr G)).toArray M'.maxL))) hT Y
  have e6 : R.cells - cells + h'.1 = dr_CC + kk := e6
  have e7 : R.slots - slots + h'.2.1 = dr_SC + n := e7
  have hst := dr_under hst
  have hdo2 : ∀ acts, Steps G.p.tables G.e below (doInvoke G.e (T₁.setTop (F0 m pc ls (st.map (dr_tr G)))) acts mk (As.map (dr_tr G)).toArray).1 t := fun acts => by
    rw [hdo acts]
    have := hst
    rw [show F0 mk 0 _ (List.map (dr_tr G) []) = entryFrame mk (As.map (dr_tr G)).toArray M'.maxL from (lg_entry_eq mk (As.map (dr_tr G)) M'.maxL).symm] at this
    exact this
  have hlocs : ∀ q ∈ locs ++ L, G.s.heap.size ≤ q.base := fun q hq => (List.mem_append.mp hq).elim (X.locsE q) (e5 q)
  cases r with
  | inl v =>
    have e9 : o = .returned (v.map (dr_tr G)) := e9
    subst e9
    obtain ⟨T', f1, f2, f3, f4⟩ := S.outOf (g := F0 m pc ls (st.map (dr_tr G))) rfl hdg e2 e3 e4
    refine Or.inl ⟨v, h', T', L, kk, n, e10, f1, ⟨X.1, X.2.1, X.room, by omega, by omega, hlocs, ?_, X.lsE⟩, fun acts => ?_⟩
    · have : t.heap = T'.heap := by rw [f4]; rfl
      rw [← this]; exact e8
    · have := hdo2 acts
      rw [f4] at this
      exact this
  | inr x =>
    obtain ⟨E, q⟩ := x
    obtain ⟨g1, g2, g3, ce, g4, g5, g6⟩ := e9
    subst g1
    obtain ⟨T', f1, f2, f3, f4⟩ := S.outOfThrown (g := F0 m pc ls (st.map (dr_tr G))) rfl e2 e3 e4
    have hh : t.heap = T'.heap := by rw [f4]; rfl
    refine Or.inr ⟨E, q, h', T', L, kk, n, e10, f1, ⟨X.1, X.2.1, X.room, by omega, by omega, hlocs, ?_, X.lsE⟩, g2, g3, ⟨ce, by rw [← hh]; exact g4, g5, g6⟩, fun acts => ?_⟩
    · rw [← hh]; exact e8
    · have := hdo2 acts
      rw [f4] at this
      exact this
end DRG
/-- the call at pc: the operands stk hold the arguments As over st; the machine comes to the method M' -/
def dr_S (M : dr_MI) (pc : Nat) (M' : dr_MI) (As stk st : List Value) (h : dr_AH) : Prop :=
  ∀ (G : dr_Gt) (fr wo : Nat) (R : Room) (s : State) (m : MethodId) (args : Array Value) (below : List Frame) (meth : Method) (c : Code) (H : Heap) (locs : List Loc) (cells slots : Nat) (ls : Array Slot) (l : List (Nat × Value)) (T : State),
    dr_X G M fr wo R s m meth c H locs cells slots ls l h → T.heap = H → Stand G.p G.l G.e R s m args below meth c T locs cells slots →
    ∃ (vm₁ : Vm) (mk : MethodId) (ig : Instr), Stand G.p G.l G.e R s m args below meth c (T.setVm vm₁) locs cells slots ∧ s.methodNamed? M'.y = some mk ∧ decode c.code pc = .ok (ig, 3) ∧
      ∀ target, (∀ acts, Steps G.p.tables G.e below (doInvoke G.e ((T.setVm vm₁).setTop (F0 m pc ls (st.map (dr_tr G)))) acts mk (As.map (dr_tr G)).toArray).1 target) → Steps G.p.tables G.e below (T.setTop (F0 m pc ls (stk.map (dr_tr G)))) target
section DRC
variable {M M' : dr_MI} {fr' wo' fr wo pc : Nat} {l : List (Nat × Value)} {st stk As : List Value} {h : dr_AH} {Q : dr_RS → dr_AH → Prop} {o : Option (dr_RS × dr_AH)}
theorem wp_call (S : dr_S M pc M' As stk st h) (hcode : dr_code M') (hpl : plainFor M'.y = true) (hf : fr' + 1 ≤ fr) (hw : (st.map fun v => v.category).sum + (M'.maxL + 11) + wo' ≤ wo) (hAs : (lg_sl As).length ≤ M'.maxL) (hc : ∀ Q', dr_p o Q' → dr_W M' fr' wo' 0 (lv_args 0 As) [] h Q') {r0 : dr_RS × dr_AH} (ho : o = some r0)
    (kr : ∀ v h', o = some (.inl v, h') → dr_W M fr wo (pc + 3) l (v.toList ++ st) h' Q) (kx : ∀ E q h', o = some (.inr (E, q), h') → dr_V M fr wo pc l st E q h' Q) : dr_W M fr wo pc l stk h Q := by
  intro G R s m args below meth c H locs cells slots ls X T hT SS
  obtain ⟨vm₁, mk, ig, S1, hn, hdg, hgo⟩ := S G fr wo R s m args below meth c H locs cells slots ls l T X hT SS
  have hk := hc (fun r h' => o = some (r, h')) ⟨r0, ho, ho⟩
  rcases dr_go X (T₁ := T.setVm vm₁) hT S1 hn hcode hpl (st := st) hdg hf hw hAs hk with ⟨v, h', T', L, k, n, e1, e2, e3, e4⟩ | ⟨E, q, h', T', L, k, n, e1, e2, e3, e5, e6, e7, e4⟩
  · obtain ⟨t, a1, b1⟩ := kr v h' e1 G R s m args below meth c T'.heap (locs ++ L) (cells + k) (slots + n) ls e3 T' rfl e2
    refine ⟨t, hgo t fun acts => (e4 acts).trans ?_, b1⟩
    have ev : (v.toList ++ st).map (dr_tr G) = (v.map (dr_tr G)).toList ++ st.map (dr_tr G) := by cases v <;> rfl
    rw [ev] at a1
    exact a1
  · obtain ⟨t, a1, b1⟩ := kx E q h' e1 G R s m args below meth c T'.heap (locs ++ L) (cells + k) (slots + n) ls e3 e5 e6 e7 T' rfl e2
    exact ⟨t, hgo t fun acts => (e4 acts).trans a1, b1⟩
def dr_ci (o : Option (dr_RS × dr_AH)) (K : Int32 → dr_AH → Option (dr_RS × dr_AH)) (X : String → Nat → dr_AH → Option (dr_RS × dr_AH)) : Option (dr_RS × dr_AH) := match o with
  | some (.inl (some (.int x)), h) => K x h
  | some (.inr (E, q), h) => X E q h
  | _ => none
def dr_cv (o : Option (dr_RS × dr_AH)) (K : dr_AH → Option (dr_RS × dr_AH)) (X : String → Nat → dr_AH → Option (dr_RS × dr_AH)) : Option (dr_RS × dr_AH) := match o with
  | some (.inl none, h) => K h
  | some (.inr (E, q), h) => X E q h
  | _ => none
def dr_cr (o : Option (dr_RS × dr_AH)) (K : Nat → dr_AH → Option (dr_RS × dr_AH)) (X : String → Nat → dr_AH → Option (dr_RS × dr_AH)) : Option (dr_RS × dr_AH) := match o with
  | some (.inl (some (.ref a)), h) => K a h
  | some (.inr (E, q), h) => X E q h
  | _ => none
/-- where the exception goes on to the caller -/
def dr_x0 (E : String) (q : Nat) (h : dr_AH) : Option (dr_RS × dr_AH) := some (.inr (E, q), h)
theorem wp_ci {K : Int32 → dr_AH → Option (dr_RS × dr_AH)} {X : String → Nat → dr_AH → Option (dr_RS × dr_AH)} (S : dr_S M pc M' As stk st h) (hcode : dr_code M') (hpl : plainFor M'.y = true) (hf : fr' + 1 ≤ fr) (hw : (st.map fun v => v.category).sum + (M'.maxL + 11) + wo' ≤ wo) (hAs : (lg_sl As).length ≤ M'.maxL) (hc : ∀ Q', dr_p o Q' → dr_W M' fr' wo' 0 (lv_args 0 As) [] h Q') (hp : dr_p (dr_ci o K X) Q)
    (kr : ∀ x h', dr_p (K x h') Q → dr_W M fr wo (pc + 3) l (.int x :: st) h' Q) (kx : ∀ E q h', dr_p (X E q h') Q → dr_V M fr wo pc l st E q h' Q) : dr_W M fr wo pc l stk h Q := by
  cases o with
  | none => exact (dr_p0 hp).elim
  | some r0 =>
    refine wp_call S hcode hpl hf hw hAs hc rfl (fun v h' e => ?_) (fun E q h' e => ?_)
    · cases e
      cases v with
      | none => exact (dr_p0 hp).elim
      | some v => cases v with
        | int x => exact kr x h' hp
        | _ => exact (dr_p0 hp).elim
    · cases e
      exact kx E q h' hp
theorem wp_cv {K : dr_AH → Option (dr_RS × dr_AH)} {X : String → Nat → dr_AH → Option (dr_RS × dr_AH)} (S : dr_S M pc M' As stk st h) (hcode : dr_code M') (hpl : plainFor M'.y = true) (hf : fr' + 1 ≤ fr) (hw : (st.map fun v => v.category).sum + (M'.maxL + 11) + wo' ≤ wo) (hAs : (lg_sl As).length ≤ M'.maxL) (hc : ∀ Q', dr_p o Q' → dr_W M' fr' wo' 0 (lv_args 0 As) [] h Q') (hp : dr_p (dr_cv o K X) Q)
    (kr : ∀ h', dr_p (K h') Q → dr_W M fr wo (pc + 3) l st h' Q) (kx : ∀ E q h', dr_p (X E q h') Q → dr_V M fr wo pc l st E q h' Q) : dr_W M fr wo pc l stk h Q := by
  cases o with
  | none => exact (dr_p0 hp).elim
  | some r0 =>
    refine wp_call S hcode hpl hf hw hAs hc rfl (fun v h' e => ?_) (fun E q h' e => ?_)
    · cases e
      cases v with
      | none => exact kr h' hp
      | some v => exact (dr_p0 hp).elim
    · cases e
      exact kx E q h' hp
theorem wp_cr {K : Nat → dr_AH → Option (dr_RS × dr_AH)} {X : String → Nat → dr_AH → Option (dr_RS × dr_AH)} (S : dr_S M pc M' As stk st h) (hcode : dr_code M') (hpl : plainFor M'.y = true) (hf : fr' + 1 ≤ fr) (hw : (st.map fun v => v.category).sum + (M'.maxL + 11) + wo' ≤ wo) (hAs : (lg_sl As).length ≤ M'.maxL) (hc : ∀ Q', dr_p o Q' → dr_W M' fr' wo' 0 (lv_args 0 As) [] h Q') (hp : dr_p (dr_cr o K X) Q)
    (kr : ∀ x h', dr_p (K x h') Q → dr_W M fr wo (pc + 3) l (.ref x :: st) h' Q) (kx : ∀ E q h', dr_p (X E q h') Q → dr_V M fr wo pc l st E q h' Q) : dr_W M fr wo pc l stk h Q := by
  cases o with
  | none => exact (dr_p0 hp).elim
  | some r0 =>
    refine wp_call S hcode hpl hf hw hAs hc rfl (fun v h' e => ?_) (fun E q h' e => ?_)
    · cases e
      cases v with
      | none => exact (dr_p0 hp).elim
      | some v => cases v with
        | ref x => exact kr x h' hp
        | _ => exact (dr_p0 hp).elim
    · cases e
      exact kx E q h' hp
/-- no row of the table covers pc: the exception leaves the method -/
theorem wx_out {E : String} {q : Nat} (hout : M.tab.all (fun z => !(decide (z.1 ≤ pc) && decide (pc < z.2.1))) = true) (hp : dr_p (dr_x0 E q h) Q) : dr_V M fr wo pc l st E q h Q := by
  intro G R s m args below meth c H locs cells slots ls X h1 h2 h3 T hT S
  have hlocks := X.locks
  have hno : ∀ x ∈ c.exceptionTable.toList, covers x pc = false := by
    intro x hx
    have hm : (x.startPc, x.endPc, x.handlerPc, x.catchType) ∈ M.tab := by
      rw [← X.tab]
      exact List.mem_map.mpr ⟨x, hx, rfl⟩
    have := List.all_eq_true.mp hout _ hm
    rw [Bool.not_eq_true'] at this
    exact this
  obtain ⟨f1, f2, f3, f4, f5⟩ := S.leaveThrown (dr_ad G q) (g := F0 m pc ls (st.map (dr_tr G))) rfl rfl rfl hno
  obtain ⟨r, e, hQ⟩ := hp
  cases e
  refine ⟨_, f1, .threw (dr_ad G q), .inr (E, q), h, locs, cells, slots, f2, f3, f4, f5, X.locsE, X.cellsE, X.slotsE, ?_, ⟨rfl, h1, h2, ?_⟩, hQ⟩
  · show dr_C G h T.heap
    rw [hT]; exact X.heap
  · show ∃ ce : Cell, T.heap[dr_ad G q]? = some ce ∧ _
    rw [hT]; exact h3
theorem dr_len {G : dr_Gt} {R : Room} {s : State} {m : MethodId} {meth : Method} {c : Code} {H : Heap} {locs : List Loc} {cells slots : Nat} {ls : Array Slot} (hco : dr_code M') (X : dr_X G M fr wo R s m meth c H locs cells slots ls l h) {mk : MethodId} {methM : Method} (hn : s.methodNamed? M'.y = some mk) (hm : s.vm.method? mk = some methM)
    {A : List Value} (hlen : (parseMethodDescriptor M'.y.desc).map (fun d => d.parameters.length) = some A.length) : (A.map (dr_tr G)).length = methM.sig.parameters.length := by
  obtain ⟨methk, ck, h1, -, -, -, -, -, -, h8⟩ := hco.at X.1 X.warm hn
  cases hm.symm.trans h1
  rw [h8] at hlen
  rw [List.length_map]
  exact (Option.some.inj hlen).symm
/-! the kinds of calls -/
variable {idx : Nat} {A : List Value} {a : Nat}
theorem dr_sV {ci N : Nat} {C : String} {TT : u_T} {ty : Nat → FieldType} (hCl : dr_Cl ci C TT N ty) (hk : (h.2.2 a).1 = ci) (hlk : dr_T (.methodLink M.own idx M'.y)) (hin : dr_T (.instanceMethod M'.y)) (hsel : dr_T (.selects C M'.y M'.y)) (hco : dr_code M')
    (hy : M'.y.cls ≠ "java/lang/invoke/MethodHandle" ∧ M'.y.cls ≠ "java/lang/invoke/VarHandle") (hlen : (parseMethodDescriptor M'.y.desc).map (fun d => d.parameters.length) = some A.length) (hd : decode M.code pc = .ok (.invokevirtual idx, 3)) (hstk : A.reverse ++ .ref a :: st = stk) : dr_S M pc M' (.ref a :: A) stk st h := by
  intro G fr wo R s m args below meth c H locs cells slots ls l T X hT S
  subst hstk
  obtain ⟨mk, methM, hnamed, hmethM, hstM, habM⟩ := Cond.instanceMethod_spec (X.word hin (a' := args))
  obtain ⟨ha, q, q1, q2, cellB, e1, e2, e3, e4⟩ := X.heap.obj hk hCl.2.1
  have hqe : q = (C, TT, N) := Option.some.inj (q1.symm.trans hCl.1)
  subst hqe
  obtain ⟨c2, r2, m2, p1, p2, p3, p4, kP, hkP, hkPi⟩ := Cond.selects_spec (X.word hsel (a' := args))
  have hcls : s.vm.findClass C = some cellB.cls := by rw [e2]; exact (X.known q1).2.1
  cases hcls.symm.trans p1
  cases (State.methodFound?_of_named hnamed hy).symm.trans p2
  cases hnamed.symm.trans p3
  have hselP : selectMethod G.e.platform s.vm cellB.cls mk = .method mk := by rw [Launch.admits_selectMethod S.admits]; exact p4
  have hobj : ∀ z, cellB.vm ≠ .statics z := fun z h => by rw [e3] at h; cases h
  have hl : (A.map (dr_tr G)).length = methM.sig.parameters.length := dr_len hco X hnamed hmethM hlen
  obtain ⟨vm₁, X₁, hstep₁⟩ := S.invokevirtual X.exec X.own (X.word hlk) hnamed hmethM hstM hkP hkPi hy (a := dr_ad G a) (cell := cellB) (by rw [hT]; exact e1) hobj hselP hmethM habM hkP hkPi
    (g := F0 m pc ls ((A.reverse ++ .ref a :: st).map (dr_tr G))) rfl (argsL := A.map (dr_tr G)) (rest := st.map (dr_tr G)) hl (by simp [dr_tr]) (by rw [X.bytes]; exact hd)
  exact ⟨vm₁, mk, _, X₁, hnamed, by rw [X.bytes]; exact hd, hstep₁⟩
theorem dr_sVN {ci N : Nat} {C host : String} {TT : u_T} {ty : Nat → FieldType} (hCl : dr_Cl ci C TT N ty) (hk : (h.2.2 a).1 = ci) (hlk : dr_T (.methodLinkNest M.own idx M'.y host)) (hin : dr_T (.instanceMethod M'.y)) (hsel : dr_T (.selects C M'.y M'.y)) (hco : dr_code M')
    (hy : M'.y.cls ≠ "java/lang/invoke/MethodHandle" ∧ M'.y.cls ≠ "java/lang/invoke/VarHandle") (hlen : (parseMethodDescriptor M'.y.desc).map (fun d => d.parameters.length) = some A.length) (hd : decode M.code pc = .ok (.invokevirtual idx, 3)) (hstk : A.reverse ++ .ref a :: st = stk) : dr_S M pc M' (.ref a :: A) stk st h := by
  intro G fr wo R s m args below meth c H locs cells slots ls l T X hT S
  subst hstk
  obtain ⟨mk, methM, hnamed, hmethM, hstM, habM⟩ := Cond.instanceMethod_spec (X.word hin (a' := args))
  obtain ⟨ha, q, q1, q2, cellB, e1, e2, e3, e4⟩ := X.heap.obj hk hCl.2.1
  have hqe : q = (C, TT, N) := Option.some.inj (q1.symm.trans hCl.1)
  subst hqe
  obtain ⟨c2, r2, m2, p1, p2, p3, p4, kP, hkP, hkPi⟩ := Cond.selects_spec (X.word hsel (a' := args))
  have hcls : s.vm.findClass C = some cellB.cls := by rw [e2]; exact (X.known q1).2.1
  cases hcls.symm.trans p1
  cases (State.methodFound?_of_named hnamed hy).symm.trans p2
  cases hnamed.symm.trans p3
  have hselP : selectMethod G.e.platform s.vm cellB.cls mk = .method mk := by rw [Launch.admits_selectMethod S.admits]; exact p4
  have hobj : ∀ z, cellB.vm ≠ .statics z := fun z h => by rw [e3] at h; cases h
  have hl : (A.map (dr_tr G)).length = methM.sig.parameters.length := dr_len hco X hnamed hmethM hlen
  obtain ⟨vm₁, X₁, hstep₁⟩ := S.invokevirtualNest X.exec X.own (X.word hlk) hnamed hmethM hstM hkP hkPi hy (a := dr_ad G a) (cell := cellB) (by rw [hT]; exact e1) hobj hselP hmethM habM hkP hkPi
    (g := F0 m pc ls ((A.reverse ++ .ref a :: st).map (dr_tr G))) rfl (argsL := A.map (dr_tr G)) (rest := st.map (dr_tr G)) hl (by simp [dr_tr]) (by rw [X.bytes]; exact hd)
  exact ⟨vm₁, mk, _, X₁, hnamed, by rw [X.bytes]; exact hd, hstep₁⟩
theorem dr_sS (hlk : dr_T (.methodLink M.own idx M'.y)) (hst : dr_T (.static M'.y)) (hini : dr_T (.initialized M'.y.cls)) (hco : dr_code M')
    (hy : M'.y.cls ≠ "java/lang/invoke/MethodHandle" ∧ M'.y.cls ≠ "java/lang/invoke/VarHandle") (hlen : (parseMethodDescriptor M'.y.desc).map (fun d => d.parameters.length) = some A.length) (hd : decode M.code pc = .ok (.invokestatic idx, 3)) (hstk : A.reverse ++ st = stk) : dr_S M pc M' A stk st h := by
  intro G fr wo R s m args below meth c H locs cells slots ls l T X hT S
  subst hstk
  obtain ⟨mk, hnamed⟩ : ∃ mk, s.methodNamed? M'.y = some mk := by
    rcases hco with ⟨-, hc⟩ | hc
    · exact Cond.code_named (X.word hc (a' := args))
    · obtain ⟨mk', _, _, h0, -⟩ := Cond.codeWith_spec (X.word hc (a' := args))
      exact ⟨mk', h0⟩
  obtain ⟨methM, ck, hmethM, -⟩ := hco.at X.1 X.warm hnamed
  have hstatic : methM.isStatic = true := Cond.static_spec hnamed hmethM (X.word hst (a' := args))
  obtain ⟨kP, hkP, -⟩ := className_of_methodNamed hnamed
  have hinitP : kP.init = .initialized := Cond.initialized_spec (findClass_of_methodNamed hnamed) hkP (X.word hini (a' := args))
  have hl : (A.map (dr_tr G)).length = methM.sig.parameters.length := dr_len hco X hnamed hmethM hlen
  obtain ⟨vm₁, X₁, hstep₁⟩ := S.invokestatic X.exec X.own (X.word hlk) hnamed hmethM hstatic hkP hinitP hy (g := F0 m pc ls ((A.reverse ++ st).map (dr_tr G))) rfl (argsL := A.map (dr_tr G)) (rest := st.map (dr_tr G)) hl (by simp) (by rw [X.bytes]; exact hd)
  exact ⟨vm₁, mk, _, X₁, hnamed, by rw [X.bytes]; exact hd, hstep₁⟩
theorem dr_sSN {host : String} (hlk : dr_T (.methodLinkNest M.own idx M'.y host)) (hst : dr_T (.static M'.y)) (hini : dr_T (.initialized M'.y.cls)) (hco : dr_code M')
    (hy : M'.y.cls ≠ "java/lang/invoke/MethodHandle" ∧ M'.y.cls ≠ "java/lang/invoke/VarHandle") (hlen : (parseMethodDescriptor M'.y.desc).map (fun d => d.parameters.length) = some A.length) (hd : decode M.code pc = .ok (.invokestatic idx, 3)) (hstk : A.reverse ++ st = stk) : dr_S M pc M' A stk st h := by
  intro G fr wo R s m args below meth c H locs cells slots ls l T X hT S
  subst hstk
  obtain ⟨mk, hnamed⟩ : ∃ mk, s.methodNamed? M'.y = some mk := by
    rcases hco with ⟨-, hc⟩ | hc
    · exact Cond.code_named (X.word hc (a' := args))
    · obtain ⟨mk', _, _, h0, -⟩ := Cond.codeWith_spec (X.word hc (a' := args))
      exact ⟨mk', h0⟩
  obtain ⟨methM, ck, hmethM, -⟩ := hco.at X.1 X.warm hnamed
  have hstatic : methM.isStatic = true := Cond.static_spec hnamed hmethM (X.word hst (a' := args))
  obtain ⟨kP, hkP, -⟩ := className_of_methodNamed hnamed
  have hinitP : kP.init = .initialized := Cond.initialized_spec (findClass_of_methodNamed hnamed) hkP (X.word hini (a' := args))
  have hl : (A.map (dr_tr G)).length = methM.sig.parameters.length := dr_len hco X hnamed hmethM hlen
  obtain ⟨vm₁, X₁, hstep₁⟩ := S.invokestaticNest X.exec X.own (X.word hlk) hnamed hmethM hstatic hkP hinitP hy (g := F0 m pc ls ((A.reverse ++ st).map (dr_tr G))) rfl (argsL := A.map (dr_tr G)) (rest := st.map (dr_tr G)) hl (by simp) (by rw [X.bytes]; exact hd)
  exact ⟨vm₁, mk, _, X₁, hnamed, by rw [X.bytes]; exact hd, hstep₁⟩
theorem dr_sI (hy1 : M'.y.name = "<init>") (hlk : dr_T (.methodLink M.own idx M'.y)) (hin : dr_T (.instanceMethod M'.y)) (hco : dr_T (.code M'.y M'.code M'.maxL none))
    (hy : M'.y.cls ≠ "java/lang/invoke/MethodHandle" ∧ M'.y.cls ≠ "java/lang/invoke/VarHandle") (hlen : (parseMethodDescriptor M'.y.desc).map (fun d => d.parameters.length) = some A.length) (hd : decode M.code pc = .ok (.invokespecial idx, 3)) (hstk : A.reverse ++ .ref a :: st = stk) : dr_S M pc M' (.ref a :: A) stk st h := by
  intro G fr wo R s m args below meth c H locs cells slots ls l T X hT S
  subst hstk
  have hpl : G.e.platform.magicAccessors = ({} : Platform).magicAccessors := by rw [S.admits.platform]
  have hl : ∀ sig, parseMethodDescriptor M'.y.desc = some sig → (A.map (dr_tr G)).length = sig.parameters.length := fun sig h => by
    rw [h] at hlen
    rw [List.length_map]
    exact (Option.some.inj hlen).symm
  obtain ⟨mk, methM, cM, kP, vm₁, hnamed, hmethM, hcodeM, -, hlocalsM, -, hkP, -, hW₁, hstep₁⟩ := Steps.initColdArgs (e := G.e) S.here X.exec S.warmed hpl X.own hy1 hy (X.word hlk (a' := args)) (X.word hin) (X.word hco)
    (f := F0 m pc ls ((A.reverse ++ .ref a :: st).map (dr_tr G))) rfl (a := dr_ad G a) (argsL := A.map (dr_tr G)) (rest := st.map (dr_tr G)) hl (by simp [dr_tr]) (by rw [X.bytes]; exact hd)
  exact ⟨vm₁, mk, _, S.noted hW₁, hnamed, by rw [X.bytes]; exact hd, hstep₁⟩
theorem dr_sIN {host : String} (hy1 : M'.y.name = "<init>") (hlk : dr_T (.methodLinkNest M.own idx M'.y host)) (hin : dr_T (.instanceMethod M'.y)) (hco : dr_T (.code M'.y M'.code M'.maxL none))
    (hy : M'.y.cls ≠ "java/lang/invoke/MethodHandle" ∧ M'.y.cls ≠ "java/lang/invoke/VarHandle") (hlen : (parseMethodDescriptor M'.y.desc).map (fun d => d.parameters.length) = some A.length) (hd : decode M.code pc = .ok (.invokespecial idx, 3)) (hstk : A.reverse ++ .ref a :: st = stk) : dr_S M pc M' (.ref a :: A) stk st h := by
  intro G fr wo R s m args below meth c H locs cells slots ls l T X hT S
  subst hstk
  have hpl : G.e.platform.magicAccessors = ({} : Platform).magicAccessors := by rw [S.admits.platform]
  have hl : ∀ sig, parseMethodDescriptor M'.y.desc = some sig → (A.map (dr_tr G)).length = sig.parameters.length := fun sig h => by
    rw [h] at hlen
    rw [List.length_map]
    exact (Option.some.inj hlen).symm
  obtain ⟨mk, methM, cM, kP, vm₁, hnamed, hmethM, hcodeM, -, hlocalsM, -, hkP, -, hW₁, hstep₁⟩ := Steps.initColdArgsNest (e := G.e) S.here X.exec S.warmed hpl X.own hy1 hy (X.word hlk (a' := args)) (X.word hin) (X.word hco)
    (f := F0 m pc ls ((A.reverse ++ .ref a :: st).map (dr_tr G))) rfl (a := dr_ad G a) (argsL := A.map (dr_tr G)) (rest := st.map (dr_tr G)) hl (by simp [dr_tr]) (by rw [X.bytes]; exact hd)
  exact ⟨vm₁, mk, _, S.noted hW₁, hnamed, by rw [X.bytes]; exact hd, hstep₁⟩
end DRC
