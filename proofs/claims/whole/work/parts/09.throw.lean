/-! ===== exceptions ===== -/
/-- a word that holds at the start and in every later state whose old cells are the start's -/
def dr_U (w : Cond) : Prop := ∀ (G : dr_Gt) (U : State) (a' : Array Value), dr_K G → G.s.WarmedH U.vm → (∀ q, q < G.s.heap.size → U.heap[q]? = G.s.heap[q]?) → w.before a' U = true
theorem dr_T.u {w : Cond} (h : dr_T w) : dr_U w := fun G U a' K hW _ => h G U a' K hW
theorem dr_stat {a1 a2 : Array Value} {s U : State} {C n d : String} (hal : s.vm.Alike U.vm) (hh : ∀ q, q < s.heap.size → U.heap[q]? = s.heap[q]?) (h1 : (Cond.laysStatic C n d).before a1 s = true) (h2 : (Cond.isRef (.static C n d)).before a1 s = true) :
    (Cond.laysStatic C n d).before a2 U = true ∧ (Cond.isRef (.static C n d)).before a2 U = true := by
  obtain ⟨c, k, i, f, a, cell, hc, hi, hst, ha, hcell, hs, hcls, hlt, hty⟩ := Cond.laysStatic_spec h1
  obtain ⟨k', hi', hek⟩ := State.fieldFound?_setVm hal hi
  have hi2 : U.fieldFound? C n d = some (c, k', i, f) := by simpa only [State.fieldFound?, State.vm_setVm] using hi'
  have ha' : k'.statics = some a := by rw [hek]; exact ha
  have hlt0 : a < s.heap.size := (Array.getElem?_eq_some_iff.mp hcell).1
  have hcell' : U.heap[a]? = some cell := by rw [hh a hlt0]; exact hcell
  refine ⟨Cond.laysStatic_of (s := U) (by rw [hal.findClass]; exact hc) hi2 hst ha' hcell' hs hcls hlt (by rw [hek]; exact hty), ?_⟩
  simp only [Cond.before, Cond.holds, Cond.value, Term.eval, State.fieldNamed?, hi, hst, ha, hcell, hs, hi2, ha', hcell', Option.bind_eq_bind, Option.bind_some, Option.pure_def, beq_self_eq_true, if_true] at h2 ⊢
  exact h2
section DRB
variable {p : Program} {l : Launch} {e : Env} {R : Room} {s : State} {m : MethodId} {args : Array Value} {below : List Frame} {meth : Method} {c : Code} {T : State} {locs : List Loc} {cells slots : Nat}
/-- the frame at hand, as if its method had been called in this heap: what is older than this moment may be told apart from what is made now -/
theorem dr_base (X : Stand p l e R s m args below meth c T locs cells slots) (hc : cells + 1 ≤ R.cells) (hs : slots + 6 ≤ R.slots) :
    Stand p l e { frames := R.frames, cells := 1, slots := 6, locals := R.locals } ((T.setVm s.vm).setFrames (.invoking m args :: below)) m args below meth c T [] 0 0 := by
  have hcur : (T.setVm s.vm).cur < (T.setVm s.vm).threads.size := State.cur_lt_of_top (s := T.setVm s.vm) X.here.top
  have hF := State.frames_setFrames (s := T.setVm s.vm) (.invoking m args :: below) hcur
  have hheap := X.heapHas hc hs
  have hbook := X.book
  have hroom := X.room
  have hin := State.localsInUse_invoking X.frames X.method X.code
  have hin' : ((T.setVm s.vm).setFrames (.invoking m args :: below)).localsInUse = _ := State.localsInUse_invoking hF (meth := meth) (c := c) X.method X.code
  have hlim : e.platform.stackLimits ((T.setVm s.vm).setFrames (.invoking m args :: below)).me = e.platform.stackLimits s.me := by
    rw [State.stackLimits_setFrames]; exact X.limits
  have hby : ((T.setVm s.vm).setFrames (.invoking m args :: below)).me.stackBytes = s.me.stackBytes := by
    rw [State.stackBytes_setFrames]; exact X.bytes
  have hlen : ((T.setVm s.vm).setFrames (.invoking m args :: below)).frames.length = s.frames.length := by rw [hF, X.frames]
  refine ⟨X.admits, X.cas, X.clock, hF, ?_, X.hears, X.method, X.code, X.here, X.tail, X.warmed, ?_, ?_, ?_⟩
  · unfold State.hasRoom at hroom ⊢
    rw [hlen, hin', hlim, hby, ← hin]
    simp only [Bool.and_eq_true, decide_eq_true_eq] at hroom ⊢
    exact ⟨⟨⟨hroom.1.1.1, hheap.1⟩, hheap.2⟩, hbook⟩
  · rw [hlim]; exact X.limits
  · rw [hby]; exact X.bytes
  · obtain ⟨g₀, hfr⟩ := X.frames_eq
    obtain ⟨t, ht, -⟩ := State.frames_cons hfr
    have hd : T.heap.toList.drop T.heap.size = [] := List.drop_eq_nil_of_le (Nat.le_of_eq Array.length_toList)
    refine ⟨?_, Nat.le_refl _, Nat.le_refl _, ?_, ?_, fun a c9 h9 => ⟨c9, h9, rfl, rfl, fun _ _ => rfl⟩⟩
    · show T.setVm s.vm = { ((T.setVm s.vm).setFrames (.invoking m args :: below)).setFrames (T.setVm s.vm).frames with heap := T.heap, slotsUsed := T.slotsUsed }
      rw [State.setFrames_setFrames, State.setFrames_self (s := T.setVm s.vm) ht]
      rfl
    · show T.slotsUsed = T.slotsUsed + ((T.heap.toList.drop T.heap.size).map (·.slots.size)).sum
      rw [hd]; rfl
    · show ((T.heap.toList.drop T.heap.size).map (·.slots.size)).sum ≤ 0
      rw [hd]; exact Nat.le_refl _
end DRB
def dr_th (h : dr_AH) (E : String) : Option (dr_RS × dr_AH) := if h.1 < dr_CC ∧ h.2.1 + 6 ≤ dr_SC then some (.inr (E, h.1 + 1), dr_push h (200, 6, fun _ => .null)) else none
section DRT
variable {M : dr_MI} {fr wo pc : Nat} {l : List (Nat × Value)} {st : List Value} {h : dr_AH} {Q : dr_RS → dr_AH → Prop}
/-- 'throw new E("text")': new; dup; ldc; invokespecial; athrow -/
theorem wp_throwS {E text : String} {names : List String} {ik is ic : Nat} (hE : Bundle.fit E = true) (hnm : ∀ n ∈ names, Bundle.fit n = true) (hk : dr_T (.classLink M.own ik E)) (hini : dr_T (.initialized E)) (hs : dr_T (.stringRef M.own is text)) (hat : ∀ w ∈ Bundle.ownAtoms M.own ic E names, dr_U w)
    (d0 : decode M.code pc = .ok (.new ik, 3)) (d3 : decode M.code (pc + 3) = .ok (.dup, 1)) (d4 : decode M.code (pc + 4) = .ok (.ldc is, 2)) (d6 : decode M.code (pc + 6) = .ok (.invokespecial ic, 3)) (d9 : decode M.code (pc + 9) = .ok (.athrow, 1))
    (hout : M.tab.all (fun z => !(decide (z.1 ≤ pc + 9) && decide (pc + 9 < z.2.1))) = true) (hn : names.length + 3 < fr) (hw : (st.map fun v => v.category).sum + (13 * (names.length + 1) + 43) ≤ wo) (hp : dr_p (dr_th h E) Q) : dr_W M fr wo pc l st h Q := by
  unfold dr_th at hp
  by_cases hr : h.1 < dr_CC ∧ h.2.1 + 6 ≤ dr_SC
  case neg => rw [if_neg hr] at hp; exact (dr_p0 hp).elim
  rw [if_pos hr] at hp
  intro G R s m args below meth c H locs cells slots ls X T hT S
  have hlocks := X.locks
  have htr : G.e.platform.stackTraces = false := (show G.e.platform.stackTraces = G.l.stackTraces by rw [S.admits.platform]).trans X.1.2.2.2.2.1
  have h1 := X.cellsE
  have h2 := X.slotsE
  have h3 := X.heap.2.2.2.2.2
  have hR := X.room
  unfold dr_R at hR
  have hz := X.heap.1
  have B := dr_base S (by omega) (by omega)
  obtain ⟨sb, hsb⟩ : ∃ z, z = (T.setVm s.vm).setFrames (.invoking m args :: below) := ⟨_, rfl⟩
  rw [← hsb] at B
  have hvm : sb.vm = s.vm := by rw [hsb]; rfl
  have hheap : sb.heap = H := by rw [hsb]; exact hT
  have hWs : G.s.WarmedH sb.vm := by rw [hvm]; exact X.warm
  have hown : sb.vm.findClass M.own = some m.cls := by rw [hvm]; exact X.own
  have hold : ∀ q, q < G.s.heap.size → sb.heap[q]? = G.s.heap[q]? := by rw [hheap]; exact X.heap.2.1
  have hno : ∀ x ∈ c.exceptionTable.toList, covers x (pc + 9) = false := by
    intro x hx
    have hm : (x.startPc, x.endPc, x.handlerPc, x.catchType) ∈ M.tab := by
      rw [← X.tab]
      exact List.mem_map.mpr ⟨x, hx, rfl⟩
    have := List.all_eq_true.mp hout _ hm
    rw [Bool.not_eq_true'] at this
    exact this
  have hTs : T.heap.size = H.size := by rw [hT]
  obtain ⟨vm₁, cX, kX, hfX, hkX, -, -, X₁, st1⟩ := B.newCold X.exec (own := M.own) (C := E) (index := ik) (n := 6) hown (hk G sb args X.1 hWs) (hat (.instantiable E 6) (by simp [Bundle.ownAtoms]) G sb args X.1 hWs hold) (hini G sb args X.1 hWs)
    (g := F0 m pc ls (st.map (dr_tr G))) rfl (by rw [X.bytes]; exact d0) (Nat.le_refl 1) (Nat.le_refl 6)
  generalize hT1 : (T.setVm vm₁).pushCell { cls := cX, slots := kX.instanceTypes.map defaultValue, vm := .none } = T1 at X₁ st1
  have hcellA : T1.heap[T.heap.size]? = some (freshCell cX kX) := by rw [← hT1]; exact State.heap_pushCell_size _ _
  obtain ⟨-, -, -, sa, -, -, -, -, -, hev⟩ := Cond.stringRef_spec hown (hs G sb args X.1 hWs)
  obtain ⟨U, hsteps, hrun, hend, hW, hsame, ce, hce, hO⟩ := X₁.ctorThrowS X.exec htr (own := M.own) (cls := E) (names := names) (ic := ic) hown hE hnm (fun a ha => hat a ha G sb args X.1 hWs hold) (fun x hx => by cases hx) hfX hkX hcellA (by rw [hheap, hTs]; exact Nat.le_refl _) (msg := .ref sa) rfl
    (g := { method := m, pc := pc + 6, locals := ls, stack := .ref sa :: .ref T.heap.size :: .ref T.heap.size :: st.map (dr_tr G), locked := none }) rfl (X.lsE.1.trans X.maxL.symm) rfl rfl (rest := st.map (dr_tr G)) rfl
    (by rw [X.bytes]; exact d6) (by rw [X.bytes]; exact d9) hno (by show names.length + 3 < R.frames; omega)
    (by
      have hcat := dr_cats G st
      show 2 * 0 + (1 + ((st.map (dr_tr G)).map fun v => v.category).sum) + (13 * (names.length + 1) + 42) ≤ R.locals
      rw [hcat]
      omega)
  have ead : dr_ad G (h.1 + 1) = T.heap.size := by rw [hTs, hz]; rfl
  have hW2 : s.WarmedH U.vm := by rw [hsb] at hW; exact hW
  obtain ⟨q1, q2, q3, q4, q5, q6⟩ := id hsame
  have q2 : sb.heap.size ≤ U.heap.size := q2
  have q3 : U.heap.size ≤ sb.heap.size + 1 := q3
  have hlt : T.heap.size < U.heap.size := (Array.getElem?_eq_some_iff.mp hce).1
  have hsz : U.heap.size = H.size + 1 := by rw [hheap] at q3; omega
  have hkeep : ∀ q, q < H.size → U.heap[q]? = H[q]? := by
    intro q hq
    obtain ⟨c0, hc0⟩ : ∃ c0, H[q]? = some c0 := ⟨_, Array.getElem?_eq_getElem hq⟩
    obtain ⟨c', g1, g2, g3, g4⟩ := q6 q c0 (by rw [hheap]; exact hc0)
    have g1 : U.heap[q]? = some c' := g1
    rw [g1, hc0]
    congr 1
    have : c'.slots = c0.slots := by
      apply Array.ext'
      apply List.ext_getElem?
      intro i
      have := g4 i (by simp)
      simpa using this
    rw [g2, this]
  have hsm : s.sameButNew ({ U with vm := s.vm } : State) locs (cells + 1) (slots + 6) := by
    have hm : (T.setVm s.vm).sameButNew ({ U with vm := s.vm } : State) [] 1 6 := by
      rw [hsb] at q1 q2 q3 q4 q5 q6
      refine ⟨?_, q2, q3, q4, q5, q6⟩
      rw [State.setFrames_setFrames] at q1
      exact q1
    have := S.same.trans hm
    rwa [List.append_nil] at this
  obtain ⟨r, e, hQ⟩ := hp
  cases e
  refine ⟨U, st1 _ ?_, .threw T.heap.size, .inr (E, h.1 + 1), dr_push h (200, 6, fun _ => .null), locs, cells + 1, slots + 6, hrun, hend, hW2, hsm, X.locsE, by simp only [dr_push]; omega, by simp only [dr_push]; omega, X.heap.push X.bs hsz hkeep ⟨fun z => ?_, fun _ z => ?_⟩ hr, ⟨by rw [ead], by omega, by simp only [dr_push]; omega, ce, by rw [ead]; exact hce, hO.vm, ?_⟩, hQ⟩
  · show Steps G.p.tables G.e below (T1.setTop { method := m, pc := pc + 3, locals := ls, stack := .ref T.heap.size :: st.map (dr_tr G), locked := none }) _
    have d3' : decode c.code (pc + 3) = .ok (.dup, 1) := by rw [X.bytes]; exact d3
    jvm_step X₁.here [X₁.here.top, X.exec, d3', Value.category]
    exact X₁.ldcString X.exec (own := M.own) (text := text) (index := is) (a := sa) hown (hs G sb args X.1 hWs) hev
      (g := { method := m, pc := pc + 4, locals := ls, stack := .ref T.heap.size :: .ref T.heap.size :: st.map (dr_tr G), locked := none }) rfl (by rw [X.bytes]; exact d4) _ hsteps
  · exfalso
    have z : 200 < 100 := z
    omega
  · exfalso
    have z : 200 < 200 := z
    omega
  · have := hO.cls
    rw [hvm, X.warm.alike.findClass] at this
    exact this
end DRT
/-! ===== catching ===== -/
section DRK
variable {Q : Handler → Pre} {E : CtlPost} {e : Env} {d : Bool} {acts : List Action} {f : JFrame} {a : Addr}
/-- one row of the table that covers the pc, its class resolved or not yet -/
theorem dr_row {S : State} {x : ExceptionTableEntry} {t : List ExceptionTableEntry} {c : ClassId} {cell : Cell} (hx : covers x f.pc = true) (h0 : x.catchType ≠ 0) (hl : S.vm.ClassLinks e.platform f.method.cls x.catchType c) (hcell : S.heap[a]? = some cell) (hobj : ∀ k, cell.vm ≠ .statics k) (hk : ∃ k, S.vm.classes[cell.cls]? = some k) :
    wp (findHandler.go f a (x :: t)) Q E e d acts S ↔ if S.vm.assignable cell.cls c = true then Q (.found x.handlerPc) d acts (S.setVm (S.vm.noted f.method.cls x.catchType (.cls c))) else wp (findHandler.go f a t) Q E e d acts (S.setVm (S.vm.noted f.method.cls x.catchType (.cls c))) := by
  simp only [covers] at hx
  obtain ⟨r1, r2⟩ := (resolveClass_links e.toSetting hl).op (op := VmOp.resolveClass f.method.cls x.catchType) rfl
  have hal : S.vm.Alike (S.vm.noted f.method.cls x.catchType (.cls c)) := (Vm.Alike.refl S.vm).noted _ _ _
  obtain ⟨k1, hk1⟩ := hk
  obtain ⟨_, _, _, k2, _, _, _, _, _, hk2, _, _⟩ := hl.here
  obtain ⟨k1', hk1', -⟩ := hal.2.2 _ _ hk1
  obtain ⟨k2', hk2', -⟩ := hal.2.2 _ _ hk2
  have hsame := hal.assignable cell.cls c
  cases hfit : S.vm.assignable cell.cls c <;> rw [hfit] at hsame <;> simp [findHandler.go, hx, h0, r1, r2, hcell, hobj, hk1', hk2', hsame, VmOp.dirties, VmOp.acts]
/-- through the rows that don't take it, to the one that does -/
theorem dr_seek {s₀ : State} {cell : Cell} (hobj : ∀ k, cell.vm ≠ .statics k) (hk0 : ∃ k, s₀.vm.classes[cell.cls]? = some k) {x : ExceptionTableEntry} (rest : List ExceptionTableEntry) (hx : covers x f.pc = true) (h0 : x.catchType ≠ 0) {cx : ClassId} (hlx : s₀.vm.ClassLinks e.platform f.method.cls x.catchType cx) (hfit : s₀.vm.assignable cell.cls cx = true) :
    ∀ (pre : List ExceptionTableEntry), (∀ z ∈ pre, covers z f.pc = false ∨ (z.catchType ≠ 0 ∧ ∃ c, s₀.vm.ClassLinks e.platform f.method.cls z.catchType c ∧ s₀.vm.assignable cell.cls c = false)) →
      ∀ S : State, s₀.WarmedH S.vm → S.heap[a]? = some cell →
        ∃ vm', s₀.WarmedH vm' ∧ ∀ (Q : Handler → Pre) (E : CtlPost) (d : Bool) (acts : List Action), wp (findHandler.go f a (pre ++ x :: rest)) Q E e d acts S ↔ Q (.found x.handlerPc) d acts (S.setVm vm') := by
  have step : ∀ (z : ExceptionTableEntry) (t : List ExceptionTableEntry) (c : ClassId) (S : State), s₀.vm.ClassLinks e.platform f.method.cls z.catchType c → covers z f.pc = true → z.catchType ≠ 0 → s₀.WarmedH S.vm → S.heap[a]? = some cell →
      s₀.WarmedH (S.vm.noted f.method.cls z.catchType (.cls c)) ∧ ∀ (Q : Handler → Pre) (E : CtlPost) (d : Bool) (acts : List Action), wp (findHandler.go f a (z :: t)) Q E e d acts S ↔ if s₀.vm.assignable cell.cls c = true then Q (.found z.handlerPc) d acts (S.setVm (S.vm.noted f.method.cls z.catchType (.cls c))) else wp (findHandler.go f a t) Q E e d acts (S.setVm (S.vm.noted f.method.cls z.catchType (.cls c))) := by
    intro z t c S hl hz hz0 hW hc
    obtain ⟨k0, hk0⟩ := hk0
    obtain ⟨k0', hk0', -⟩ := hW.alike.2.2 _ _ hk0
    obtain ⟨_, _, _, _, hd, _, _, _, _, _, _, hop⟩ := hl.here
    refine ⟨hW.noted hd hop (State.rightAt_cls hl), fun Q E d acts => ?_⟩
    rw [dr_row hz hz0 (hW.classLinks hl) hc hobj ⟨k0', hk0'⟩, hW.alike.assignable]
  intro pre
  induction pre with
  | nil =>
    intro _ S hW hc
    obtain ⟨w1, w2⟩ := step x rest cx S hlx hx h0 hW hc
    refine ⟨_, w1, fun Q E d acts => ?_⟩
    rw [List.nil_append, w2, if_pos hfit]
  | cons z zs ih =>
    intro hp S hW hc
    have hp' := fun y hy => hp y (List.mem_cons_of_mem _ hy)
    rcases hp z List.mem_cons_self with hz | ⟨hz0, c, hl, hno⟩
    · obtain ⟨vm', w1, w2⟩ := ih hp' S hW hc
      refine ⟨vm', w1, fun Q E d acts => ?_⟩
      rw [List.cons_append, W.findHandler_go_skip hz, w2]
    · cases hcz : covers z f.pc with
      | false =>
        obtain ⟨vm', w1, w2⟩ := ih hp' S hW hc
        refine ⟨vm', w1, fun Q E d acts => ?_⟩
        rw [List.cons_append, W.findHandler_go_skip hcz, w2]
      | true =>
        obtain ⟨u1, u2⟩ := step z (zs ++ x :: rest) c S hl hcz hz0 hW hc
        obtain ⟨vm', w1, w2⟩ := ih hp' (S.setVm (S.vm.noted f.method.cls z.catchType (.cls c))) u1 hc
        refine ⟨vm', w1, fun Q E d acts => ?_⟩
        rw [List.cons_append, u2, if_neg (by rw [hno]; decide), w2]
        exact Iff.rfl
end DRK
/-- the pair is not castable, by the start's words -/
def dr_N (C D : String) : Prop := ∀ G : dr_Gt, dr_K G → va_Nc C D G.s
section DRY
variable {M : dr_MI} {fr wo pc : Nat} {l : List (Nat × Value)} {st : List Value} {h : dr_AH} {Q : dr_RS → dr_AH → Prop}
/-- caught by the row x of the method's table; the rows ahead of it don't take it -/
theorem wx_catch {E name : String} {q : Nat} (pre : List (Nat × Nat × Nat × Nat)) (x : Nat × Nat × Nat × Nat) (suf : List (Nat × Nat × Nat × Nat)) (hsplit : M.tab = pre ++ x :: suf)
    (hpass : ∀ z ∈ pre, z.2.2.2 ≠ 0 ∧ ∃ nm : String, dr_T (.classLink M.own z.2.2.2 nm) ∧ dr_N E nm) (hx : (decide (x.1 ≤ pc) && decide (pc < x.2.1)) = true) (h0 : x.2.2.2 ≠ 0) (hlk : dr_T (.classLink M.own x.2.2.2 name)) (hcast : dr_T (.castable E name))
    (k : dr_W M fr wo x.2.2.1 l [.ref q] h Q) : dr_V M fr wo pc l st E q h Q := by
  intro G R s m args below meth c H locs cells slots ls X h1 h2 h3 T hT S
  obtain ⟨ce, hce, hcv, hcl⟩ := h3
  have hpl : G.e.platform.magicAccessors = ({} : Platform).magicAccessors := by rw [S.admits.platform]
  have hcls : s.vm.findClass E = some ce.cls := by rw [X.warm.alike.findClass]; exact hcl
  obtain ⟨c3, c4, hc3, hc4, hasg⟩ := Cond.castable_spec (X.word hcast (a' := args))
  cases Option.some.inj (hc3.symm.trans hcls)
  obtain ⟨c5, hc5, hl5⟩ := Cond.classLink_spec X.own (X.word hlk (a' := args)) G.e.platform hpl
  cases Option.some.inj (hc4.symm.trans hc5)
  -- the table, entry by entry
  obtain ⟨pre', rest', ht1, ht2⟩ : ∃ pre' rest', c.exceptionTable.toList = pre' ++ rest' ∧ pre'.map (fun x => (x.startPc, x.endPc, x.handlerPc, x.catchType)) = pre ∧ rest'.map (fun x => (x.startPc, x.endPc, x.handlerPc, x.catchType)) = x :: suf := by
    have ht := X.tab
    rw [hsplit] at ht
    exact List.map_eq_append_iff.mp ht
  obtain ⟨xe, suf', hr, hxe, -⟩ := List.map_eq_cons_iff.mp ht2.2
  subst hr
  have e1 : xe.startPc = x.1 := by rw [← hxe]
  have e2 : xe.endPc = x.2.1 := by rw [← hxe]
  have e3 : xe.handlerPc = x.2.2.1 := by rw [← hxe]
  have e4 : xe.catchType = x.2.2.2 := by rw [← hxe]
  have hcov : covers xe pc = true := by
    unfold covers
    rw [e1, e2]
    exact hx
  obtain ⟨kc, hkc, -⟩ := Vm.findClass_spec hcls
  obtain ⟨vm', hW', hfind⟩ := dr_seek (e := G.e) (f := F0 m pc ls (st.map (dr_tr G))) (a := dr_ad G q) (s₀ := s) (cell := ce) (fun k h => by rw [hcv] at h; cases h) ⟨kc, hkc⟩ suf' hcov (by rw [e4]; exact h0) (by rw [e4]; exact hl5) hasg pre'
    (fun z hz => by
      have hzm : (z.startPc, z.endPc, z.handlerPc, z.catchType) ∈ pre := by rw [← ht2.1]; exact List.mem_map.mpr ⟨z, hz, rfl⟩
      obtain ⟨n0, nm, hl, hn⟩ := hpass _ hzm
      obtain ⟨c6, hc6, hl6⟩ := Cond.classLink_spec X.own (X.word hl (a' := args)) G.e.platform hpl
      obtain ⟨a8, b8, g1, g2, g3⟩ := (hn G X.1).moved X.warm.alike
      cases Option.some.inj (g1.symm.trans hcls)
      cases Option.some.inj (g2.symm.trans hc6)
      exact Or.inr ⟨n0, _, hl6, g3⟩)
    ((T.setTop (F0 m pc ls (st.map (dr_tr G)))).pushFrame (.throwing (dr_ad G q))) S.warmed (by show T.heap[dr_ad G q]? = some ce; rw [hT]; exact hce)
  have X' := S.noted hW'
  obtain ⟨t, a1, b1⟩ := k G R s m args below meth c H locs cells slots ls X (T.setVm vm') hT X'
  refine ⟨t, ?_, b1⟩
  obtain ⟨hgo, hw⟩ := At.throwing (g := F0 m pc ls (st.map (dr_tr G))) S.here (dr_ad G q)
  refine Steps.head hgo hw ?_
  have hstep : (stepThrowing G.e ((T.setTop (F0 m pc ls (st.map (dr_tr G)))).pushFrame (.throwing (dr_ad G q))) (dr_ad G q) (.java (F0 m pc ls (st.map (dr_tr G))) :: T.frames.tail)).1 =
      (((T.setTop (F0 m pc ls (st.map (dr_tr G)))).pushFrame (.throwing (dr_ad G q))).setVm vm').setFrames (.java { F0 m pc ls (st.map (dr_tr G)) with pc := xe.handlerPc, stack := [.ref (dr_ad G q)] } :: T.frames.tail) := by
    simp only [stepThrowing, searchFrame, vmDo]
    generalize hr : Sem.go _ G.e false [] _ = res
    obtain ⟨as, rfl, ha⟩ := Sem.eq_ok_of hr (a := Handler.found xe.handlerPc) (s' := ((T.setTop (F0 m pc ls (st.map (dr_tr G)))).pushFrame (.throwing (dr_ad G q))).setVm vm') (acts' := [])
      (by
        have hm : ((T.setTop (F0 m pc ls (st.map (dr_tr G)))).pushFrame (.throwing (dr_ad G q))).vm.method? m = some meth := S.method'
        simp [W.findHandler_eq (f := F0 m pc ls (st.map (dr_tr G))) hm S.code, ht1, hfind])
    rfl
  rw [stepThread_throwing (frames_entered S.here.top _), hstep]
  obtain ⟨g₀, hfr⟩ := S.frames_eq
  have hfr' : (T.setVm vm').frames = .java g₀ :: below := hfr
  rw [State.setTop_of_frames _ hfr'] at a1
  have e5 : (((T.setTop (F0 m pc ls (st.map (dr_tr G)))).pushFrame (.throwing (dr_ad G q))).setVm vm').setFrames (.java { F0 m pc ls (st.map (dr_tr G)) with pc := xe.handlerPc, stack := [.ref (dr_ad G q)] } :: T.frames.tail) = (T.setVm vm').setFrames (.java (F0 m x.2.2.1 ls [.ref (dr_ad G q)]) :: below) := by
    rw [S.tail, e3, State.pushFrame, State.frames_setTop _ hfr, State.setTop_of_frames _ hfr, State.setFrames_setFrames]
    show ((T.setVm vm').setFrames _).setFrames _ = _
    rw [State.setFrames_setFrames]
  rw [e5]
  exact a1
end DRY
