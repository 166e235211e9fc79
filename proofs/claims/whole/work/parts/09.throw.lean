/-! ===== exceptions ===== -/
/-- a word that holds at the start and in every later state whose old cells are the start's -/
def dr_U (w : Cond) : Prop := ∀ (G : dr_Gt) (U : State) (a' : Array Value), dr_K G → G.s.WarmedH U.vm → (∀ q, q < G.s.heap.size → U.heap[q]? = G.s.heap[q]?) → w.before a' U = true
theorem dr_T.u {w : Cond} (h : dr_T w) : dr_U w := fun G U a' K hW _ => h G U a' K hW
theorem dr_stat {a1 a2 : Array Value} {s U : State} {C n d : String} (hal : s.vm.Alike U.vm) (hh : ∀ q, q < s.heap.size → U.heap[q]? = s.heap[q]?) (h1 : (Cond.laysStatic C n d).before a1 s = true) (h2 : (Cond.isRef (.static C n d)).before a1 s = true) :
    (Cond.laysStatic C n d).before a2 U = true ∧ (Cond.isRef (.static C n d)).before a2 U = true := by
  obtain ⟨c, k, i, f, a, cell, hc, hi, hst, ha, hcell, hs, hcls, hlt, hty⟩ := Cond.laysStatic_spec h1
  obtain ⟨k', hi', hek⟩ := State.fieldFound?_setVm hal hi
  have hi2 : U.fieldFound? C n d = some (c, k', i, f) := by simpa only [State.fieldFound?, State.vm_setVm] using hi'
  have ha' : k'.statics = some a := by rw [hek]; exact ha
  have hlt0 : a < s.heap.size := (Array.getElem?_eq_some_iff.mp hcell).1
  have hcell' : U.heap[a]? = some cell := by rw [hh a hlt0]; exact hcell
  refine ⟨Cond.laysStatic_of (s := U) (by rw [hal.findClass]; exact hc) hi2 hst ha' hcell' hs hcls hlt (by rw [hek]; exact hty), ?_⟩
  simp only [Cond.before, Cond.holds, Cond.value, Term.eval, State.fieldNamed?, hi, hst, ha, hcell, hs, hi2, ha', hcell', Option.bind_eq_bind, Option.bind_some, Option.pure_def, beq_self_eq_true, if_true] at h2 ⊢
  exact h2
section DRB
variable {p : Program} {l : Launch} {e : Env} {R : Room} {s : State} {m : MethodId} {args : Array Value} {below : List Frame} {meth : Method} {c : Code} {T : State} {locs : List Loc} {cells slots : Nat}
/-- the frame at hand, as if its method had been called in this heap: what is older than this moment may be told apart from what is made now -/
theorem dr_base (X : Stand p l e R s m args below meth c T locs cells slots) (hc : cells + 1 ≤ R.cells) (hs : slots + 6 ≤ R.slots) :
    Stand p l e { frames := R.frames, cells := 1, slots := 6, locals := R.locals } ((T.setVm s.vm).setFrames (.invoking m args :: below)) m args below meth c T [] 0 0 := by
  have hcur : (T.setVm s.vm).cur < (T.setVm s.vm).threads.size := State.cur_lt_of_top (s := T.setVm s.vm) X.here.top
  have hF := State.frames_setFrames (s := T.setVm s.vm) (.invoking m args :: below) hcur
  have hheap := X.heapHas hc hs
  have hbook := X.book
  have hroom := X.room
  have hin := State.localsInUse_invoking X.frames X.method X.code
  have hin' : ((T.setVm s.vm).setFrames (.invoking m args :: below)).localsInUse = _ := State.localsInUse_invoking hF (meth := meth) (c := c) X.method X.code
  have hlim : e.platform.stackLimits ((T.setVm s.vm).setFrames (.invoking m args :: below)).me = e.platform.stackLimits s.me := by
    rw [State.stackLimits_setFrames]; exact X.limits
  have hby : ((T.setVm s.vm).setFrames (.invoking m args :: below)).me.stackBytes = s.me.stackBytes := by
    rw [State.stackBytes_setFrames]; exact X.bytes
  have hlen : ((T.setVm s.vm).setFrames (.invoking m args :: below)).frames.length = s.frames.length := by rw [hF, X.frames]
  refine ⟨X.admits, X.cas, X.clock, hF, ?_, X.hears, X.method, X.code, X.here, X.tail, X.warmed, ?_, ?_, ?_⟩
  · unfold State.hasRoom at hroom ⊢
    rw [hlen, hin', hlim, hby, ← hin]
    simp only [Bool.and_eq_true, decide_eq_true_eq] at hroom ⊢
    exact ⟨⟨⟨hroom.1.1.1, hheap.1⟩, hheap.2⟩, hbook⟩
  · rw [hlim]; exact X.limits
  · rw [hby]; exact X.bytes
  · obtain ⟨g₀, hfr⟩ := X.frames_eq
    obtain ⟨t, ht, -⟩ := State.frames_cons hfr
    have hd : T.heap.toList.drop T.heap.size = [] := List.drop_eq_nil_of_le (Nat.le_of_eq Array.length_toList)
    refine ⟨?_, Nat.le_refl _, Nat.le_refl _, ?_, ?_, fun a c9 h9 => ⟨c9, h9, rfl, rfl, fun _ _ => rfl⟩⟩
    · show T.setVm s.vm = { ((T.setVm s.vm).setFrames (.invoking m args :: below)).setFrames (T.setVm s.vm).frames with heap := T.heap, slotsUsed := T.slotsUsed }
      rw [State.setFrames_setFrames, State.setFrames_self (s := T.setVm s.vm) ht]
      rfl
    · show T.slotsUsed = T.slotsUsed + ((T.heap.toList.drop T.heap.size).map (·.slots.size)).sum
      rw [hd]; rfl
    · show ((T.heap.toList.drop T.heap.size).map (·.slots.size)).sum ≤ 0
      rw [hd]; exact Nat.le_refl _
end DRB
def dr_th (h : dr_AH) (E : String) : Option (dr_RS × dr_AH) := if h.1 < dr_CC ∧ h.2.1 + 6 ≤ dr_SC then some (.inr (E, h.1 + 1), dr_push h (200, 6, fun _ => .null)) else none
section DRT
variable {M : dr_MI} {fr wo pc : Nat} {l : List (Nat × Value)} {st : List Value} {h : dr_AH} {Q : dr_RS → dr_AH → Prop}
/-- 'throw new E("text")': new; dup; ldc; invokespecial; athrow -/
theorem wp_throwS {E text : String} {names : List String} {ik is ic : Nat} (hE : Bundle.fit E = true) (hnm : ∀ n ∈ names, Bundle.fit n = true) (hk : dr_T (.classLink M.own ik E)) (hini : dr_T (.initialized E)) (hs : dr_T (.stringRef M.own is text)) (hat : ∀ w ∈ Bundle.ownAtoms M.own ic E names, dr_U w)
    (d0 : decode M.code pc = .ok (.new ik, 3)) (d3 : decode M.code (pc + 3) = .ok (.dup, 1)) (d4 : decode M.code (pc + 4) = .ok (.ldc is, 2)) (d6 : decode M.code (pc + 6) = .ok (.invokespecial ic, 3)) (d9 : decode M.code (pc + 9) = .ok (.athrow, 1))
    (hout : M.tab.all (fun z => !(decide (z.1 ≤ pc + 9) && decide (pc + 9 < z.2.1))) = true) (hn : names.length + 3 < fr) (hw : (st.map fun v => v.category).sum + (13 * (names.length + 1) + 43) ≤ wo) (hp : dr_p (dr_th h E) Q) : dr_W M fr wo pc l st h Q := by
  unfold dr_th at hp
  by_cases hr : h.1 < dr_CC ∧ h.2.1 + 6 ≤ dr_SC
  case neg => rw [if_neg hr] at hp; exact (dr_p0 hp).elim
  rw [if_pos hr] at hp
  intro G R s m args below meth c H locs cells slots ls X T hT S
  have hlocks := X.locks
  have htr : G.e.platform.stackTraces = false := (show G.e.platform.stackTraces = G.l.stackTraces by rw [S.admits.platform]).trans X.1.2.2.2.2.1
  have h1 := X.cellsE
  have h2 := X.slotsE
  have h3 := X.heap.2.2.2.2.2
  have hR := X.room
  unfold dr_R at hR
  have hz := X.heap.1
  have B := dr_base S (by omega) (by omega)
  obtain ⟨sb, hsb⟩ : ∃ z, z = (T.setVm s.vm).setFrames (.invoking m args :: below) := ⟨_, rfl⟩
  rw [← hsb] at B
  have hvm : sb.vm = s.vm := by rw [hsb]; rfl
  have hheap : sb.heap = H := by rw [hsb]; exact hT
  have hWs : G.s.WarmedH sb.vm := by rw [hvm]; exact X.warm
  have hown : sb.vm.findClass M.own = some m.cls := by rw [hvm]; exact X.own
  have hold : ∀ q, q < G.s.heap.size → sb.heap[q]? = G.s.heap[q]? := by rw [hheap]; exact X.heap.2.1
  have hno : ∀ x ∈ c.exceptionTable.toList, covers x (pc + 9) = false := by
    intro x hx
    have hm : (x.startPc, x.endPc, x.handlerPc, x.catchType) ∈ M.tab := by
      rw [← X.tab]
      exact List.mem_map.mpr ⟨x, hx, rfl⟩
    have := List.all_eq_true.mp hout _ hm
    rw [Bool.not_eq_true'] at this
    exact this
  have hTs : T.heap.size = H.size := by rw [hT]
  obtain ⟨vm₁, cX, kX, hfX, hkX, -, -, X₁, st1⟩ := B.newCold X.exec (own := M.own) (C := E) (index := ik) (n := 6) hown (hk G sb args X.1 hWs) (hat (.instantiable E 6) (by simp [Bundle.ownAtoms]) G sb args X.1 hWs hold) (hini G sb args X.1 hWs)
    (g := F0 m pc ls (st.map (dr_tr G))) rfl (by rw [X.bytes]; exact d0) (Nat.le_refl 1) (Nat.le_refl 6)
  generalize hT1 : (T.setVm vm₁).pushCell { cls := cX, slots := kX.instanceTypes.map defaultValue, vm := .none } = T1 at X₁ st1
  have hcellA : T1.heap[T.heap.size]? = some (freshCell cX kX) := by rw [← hT1]; exact State.heap_pushCell_size _ _
  obtain ⟨-, -, -, sa, -, -, -, -, -, hev⟩ := Cond.stringRef_spec hown (hs G sb args X.1 hWs)
  obtain ⟨U, hsteps, hrun, hend, hW, hsame, ce, hce, hO⟩ := X₁.ctorThrowS X.exec htr (own := M.own) (cls := E) (names := names) (ic := ic) hown hE hnm (fun a ha => hat a ha G sb args X.1 hWs hold) (fun x hx => by cases hx) hfX hkX hcellA (by rw [hheap, hTs]; exact Nat.le_refl _) (msg := .ref sa) rfl
    (g := { method := m, pc := pc + 6, locals := ls, stack := .ref sa :: .ref T.heap.size :: .ref T.heap.size :: st.map (dr_tr G), locked := none }) rfl (X.lsE.1.trans X.maxL.symm) rfl rfl (rest := st.map (dr_tr G)) rfl
    (by rw [X.bytes]; exact d6) (by rw [X.bytes]; exact d9) hno (by show names.length + 3 < R.frames; omega)
    (by
      have hcat := dr_cats G st
      show 2 * 0 + (1 + ((st.map (dr_tr G)).map fun v => v.category).sum) + (13 * (names.length + 1) + 42) ≤ R.locals
      rw [hcat]
      omega)
  have ead : dr_ad G (h.1 + 1) = T.heap.size := by rw [hTs, hz]; rfl
  have hW2 : s.WarmedH U.vm := by rw [hsb] at hW; exact hW
  obtain ⟨q1, q2, q3, q4, q5, q6⟩ := id hsame
  have q2 : sb.heap.size ≤ U.heap.size := q2
  have q3 : U.heap.size ≤ sb.heap.size + 1 := q3
  have hlt : T.heap.size < U.heap.size := (Array.getElem?_eq_some_iff.mp hce).1
  have hsz : U.heap.size = H.size + 1 := by rw [hheap] at q3; omega
  have hkeep : ∀ q, q < H.size → U.heap[q]? = H[q]? := by
    intro q hq
    obtain ⟨c0, hc0⟩ : ∃ c0, H[q]? = some c0 := ⟨_, Array.getElem?_eq_getElem hq⟩
    obtain ⟨c', g1, g2, g3, g4⟩ := q6 q c0 (by rw [hheap]; exact hc0)
    have g1 : U.heap[q]? = some c' := g1
    rw [g1, hc0]
    congr 1
    have : c'.slots = c0.slots := by
      apply Array.ext'
      apply List.ext_getElem?
      intro i
      have := g4 i (by simp)
      simpa using this
    rw [g2, this]
  have hsm : s.sameButNew ({ U with vm := s.vm } : State) locs (cells + 1) (slots + 6) := by
    have hm : (T.setVm s.vm).sameButNew ({ U with vm := s.vm } : State) [] 1 6 := by
      rw [hsb] at q1 q2 q3 q4 q5 q6
      refine ⟨?_, q2, q3, q4, q5, q6⟩
      rw [State.setFrames_setFrames] at q1
      exact q1
    have := S.same.trans hm
    rwa [List.append_nil] at this
  obtain ⟨r, e, hQ⟩ := hp
  cases e
  refine ⟨U, st1 _ ?_, .threw T.heap.size, .inr (E, h.1 + 1), dr_push h (200, 6, fun _ => .null), locs, cells + 1, slots + 6, hrun, hend, hW2, hsm, X.locsE, by simp only [dr_push]; omega, by simp only [dr_push]; omega, X.heap.push X.bs hsz hkeep ⟨fun z => ?_, fun _ z => ?_⟩ hr, ⟨by rw [ead], by omega, by simp only [dr_push]; omega, ce, by rw [ead]; exact hce, hO.vm, ?_⟩, hQ⟩
  · show Steps G.p.tables G.e below (T1.setTop { method := m, pc := pc + 3, locals := ls, stack := .ref T.heap.size :: st.map (dr_tr G), locked := none }) _
    have d3' : decode c.code (pc + 3) = .ok (.dup, 1) := by rw [X.bytes]; exact d3
    jvm_step X₁.here [X₁.here.top, X.exec, d3', Value.category]
    exact X₁.ldcString X.exec (own := M.own) (text := text) (index := is) (a := sa) hown (hs G sb args X.1 hWs) hev
      (g := { method := m, pc := pc + 4, locals := ls, stack := .ref T.heap.size :: .ref T.heap.size :: st.map (dr_tr G), locked := none }) rfl (by rw [X.bytes]; exact d4) _ hsteps
  · exfalso
    have z : 200 < 100 := z
    omega
  · exfalso
    have z : 200 < 200 := z
    omega
  · have := hO.cls
    rw [hvm, X.warm.alike.findClass] at this
    exact this
end DRT
