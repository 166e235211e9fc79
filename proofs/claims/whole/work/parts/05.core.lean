/-! ===== the room that the claim gives; frames and words: a base, and a step for each call ===== -/
def dr_CC : Nat := room_1.cells
def dr_SC : Nat := room_1.slots
/-! ===== a heap by numbers, and one judgement of a method's road over it ===== -/
/-- a thing: its kind (below 100: the number of its class in vwCl; 100 + c: an array of the code c; from 200 on: nothing is said), how many places, what they hold -/
abbrev dr_AO : Type := Nat × Nat × (Nat → Value)
/-- a heap: how many cells have been made, how many slots they have, what lies under each number (0: the script; 1, 2, ..: the cells in the order of their making) -/
abbrev dr_AH : Type := Nat × Nat × (Nat → dr_AO)
/-- an end: an answer, or the class of an exception and the number of its cell -/
abbrev dr_RS : Type := Option Value ⊕ (String × Nat)
/-- program, launch, environment, the law's start, the script's address, the classes' ids, the fields' slots -/
abbrev dr_Gt : Type := Program × Launch × Env × State × Nat × (Nat → ClassId) × (Nat → Nat → Nat)
abbrev dr_Gt.p (G : dr_Gt) : Program := G.1
abbrev dr_Gt.l (G : dr_Gt) : Launch := G.2.1
abbrev dr_Gt.e (G : dr_Gt) : Env := G.2.2.1
abbrev dr_Gt.s (G : dr_Gt) : State := G.2.2.2.1
abbrev dr_Gt.b (G : dr_Gt) : Nat := G.2.2.2.2.1
abbrev dr_Gt.dC (G : dr_Gt) : Nat → ClassId := G.2.2.2.2.2.1
abbrev dr_Gt.dI (G : dr_Gt) : Nat → Nat → Nat := G.2.2.2.2.2.2
def dr_ad (G : dr_Gt) : Nat → Nat
  | 0 => G.b
  | k + 1 => G.s.heap.size + k
def dr_tr (G : dr_Gt) : Value → Value
  | .ref k => .ref (dr_ad G k)
  | .int x => .int x
  | .long x => .long x
  | .float x => .float x
  | .double x => .double x
  | .null => .null
  | .retAddr x => .retAddr x
theorem dr_ad_inj {G : dr_Gt} (hb : G.b < G.s.heap.size) {a c : Nat} (h : dr_ad G a = dr_ad G c) : a = c := by
  cases a <;> cases c <;> simp only [dr_ad] at h <;> omega
theorem dr_tr_cat (G : dr_Gt) (v : Value) : (dr_tr G v).category = v.category := by cases v <;> rfl
/-- a method: its name, code, locals, answer's type, table of handlers -/
abbrev dr_MI : Type := MethodName × ByteArray × Nat × Option FieldType × List (Nat × Nat × Nat × Nat)
abbrev dr_MI.y (M : dr_MI) : MethodName := M.1
abbrev dr_MI.own (M : dr_MI) : String := M.1.cls
abbrev dr_MI.code (M : dr_MI) : ByteArray := M.2.1
abbrev dr_MI.maxL (M : dr_MI) : Nat := M.2.2.1
abbrev dr_MI.ret (M : dr_MI) : Option FieldType := M.2.2.2.1
abbrev dr_MI.tab (M : dr_MI) : List (Nat × Nat × Nat × Nat) := M.2.2.2.2
/-- array codes -/
def dr_nm (ci : Nat) : String := match vwCl[ci]? with
  | some q => q.1
  | none => ""
def dr_ty (c : Nat) : FieldType :=
  if c = 0 then .int else if c = 1 then .long else if c = 2 then .boolean else if c = 3 then .byte else if c = 4 then .char else .object (dr_nm (c - 10))
def dr_ka (G : dr_Gt) (c : Nat) (cell : Cell) : Prop :=
  G.s.isArrayOf cell (dr_ty c) ∧ (10 ≤ c → ∃ kA : Class, G.s.vm.classes[cell.cls]? = some kA ∧ kA.kind = .array (G.dC (c - 10)) (dr_ty c) ∧ ∃ q, vwCl[c - 10]? = some q)
def dr_at (G : dr_Gt) (a : Nat) (o : dr_AO) (H : Heap) : Prop :=
  (o.1 < 100 → ∃ q, vwCl[o.1]? = some q ∧ q.2.2 = o.2.1 ∧ t_OB (dr_ad G a) (G.dC o.1) o.2.1 (G.dI o.1) H (fun k => dr_tr G (o.2.2 k))) ∧
  (100 ≤ o.1 → o.1 < 200 → ∃ cell : Cell, H[dr_ad G a]? = some cell ∧ cell.vm ≠ .unknown ∧ dr_ka G (o.1 - 100) cell ∧ cell.slots.size = o.2.1 ∧ o.2.1 < 2 ^ 31 ∧ ∀ j, j < o.2.1 → cell.slots[j]? = some (dr_tr G (o.2.2 j)))
/-- the heap H is h -/
def dr_C (G : dr_Gt) (h : dr_AH) (H : Heap) : Prop :=
  H.size = G.s.heap.size + h.1 ∧ (∀ q, q < G.s.heap.size → H[q]? = G.s.heap[q]?) ∧ (∀ k, k ≤ h.1 → dr_at G k (h.2.2 k) H) ∧ (∀ k, h.1 < k → 200 ≤ (h.2.2 k).1) ∧ 100 ≤ (h.2.2 0).1 ∧ h.1 ≤ dr_CC ∧ h.2.1 ≤ dr_SC
theorem dr_at.kept {G : dr_Gt} {a : Nat} {o : dr_AO} {H H1 : Heap} (h : dr_at G a o H) (e : H1[dr_ad G a]? = H[dr_ad G a]?) : dr_at G a o H1 := by
  refine ⟨fun h1 => ?_, fun h1 h2 => ?_⟩
  · obtain ⟨q, q1, q2, q3⟩ := h.1 h1
    exact ⟨q, q1, q2, q3.kept e⟩
  · obtain ⟨cell, q1, q2⟩ := h.2 h1 h2
    exact ⟨cell, by rw [e]; exact q1, q2⟩
theorem dr_C.obj {G : dr_Gt} {h : dr_AH} {H : Heap} (hC : dr_C G h H) {a ci : Nat} (hk : (h.2.2 a).1 = ci) (hci : ci < 100) :
    a ≤ h.1 ∧ ∃ q, vwCl[ci]? = some q ∧ q.2.2 = (h.2.2 a).2.1 ∧ t_OB (dr_ad G a) (G.dC ci) (h.2.2 a).2.1 (G.dI ci) H (fun k => dr_tr G ((h.2.2 a).2.2 k)) := by
  have ha : a ≤ h.1 := by
    rcases Nat.lt_or_ge h.1 a with q | q
    · have := hC.2.2.2.1 a q
      omega
    · exact q
  subst hk
  exact ⟨ha, (hC.2.2.1 a ha).1 hci⟩
theorem dr_C.arr {G : dr_Gt} {h : dr_AH} {H : Heap} (hC : dr_C G h H) {a c : Nat} (hk : (h.2.2 a).1 = 100 + c) (hc : c < 100) :
    a ≤ h.1 ∧ ∃ cell : Cell, H[dr_ad G a]? = some cell ∧ cell.vm ≠ .unknown ∧ dr_ka G c cell ∧ cell.slots.size = (h.2.2 a).2.1 ∧ (h.2.2 a).2.1 < 2 ^ 31 ∧ ∀ j, j < (h.2.2 a).2.1 → cell.slots[j]? = some (dr_tr G ((h.2.2 a).2.2 j)) := by
  have ha : a ≤ h.1 := by
    rcases Nat.lt_or_ge h.1 a with q | q
    · have := hC.2.2.2.1 a q
      omega
    · exact q
  have h1 := (hC.2.2.1 a ha).2 (by omega) (by omega)
  rw [show (h.2.2 a).1 - 100 = c by omega] at h1
  exact ⟨ha, h1⟩
/-! the heap's own changes -/
def dr_upd (f : Nat → dr_AO) (a : Nat) (o : dr_AO) : Nat → dr_AO := fun k => if k = a then o else f k
def dr_set (o : dr_AO) (k : Nat) (v : Value) : dr_AO := (o.1, o.2.1, fun j => if j = k then v else o.2.2 j)
/-- the k-th place of the thing a is written -/
def dr_put (h : dr_AH) (a k : Nat) (v : Value) : dr_AH := (h.1, h.2.1, dr_upd h.2.2 a (dr_set (h.2.2 a) k v))
/-- a thing more -/
def dr_push (h : dr_AH) (o : dr_AO) : dr_AH := (h.1 + 1, h.2.1 + o.2.1, dr_upd h.2.2 (h.1 + 1) o)
theorem dr_C.put {G : dr_Gt} (hb : G.b < G.s.heap.size) {h : dr_AH} {H H1 : Heap} (hC : dr_C G h H) {a k : Nat} {v : Value} (ha : a ≤ h.1) (ha0 : 0 < a) (hz : H1.size = H.size) (ho : ∀ q, q ≠ dr_ad G a → H1[q]? = H[q]?)
    (hn : dr_at G a (dr_set (h.2.2 a) k v) H1) : dr_C G (dr_put h a k v) H1 := by
  refine ⟨hz.trans hC.1, fun q hq => ?_, fun j hj => ?_, fun j hj => ?_, ?_, hC.2.2.2.2.2⟩
  · rw [ho q ?_]
    · exact hC.2.1 q hq
    · cases a with
      | zero => omega
      | succ a => simp only [dr_ad]; omega
  · show dr_at G j (dr_upd h.2.2 a _ j) H1
    unfold dr_upd
    by_cases e : j = a
    · rw [if_pos e, e]; exact hn
    · rw [if_neg e]
      exact (hC.2.2.1 j hj).kept (ho _ (fun q => e (dr_ad_inj hb q)))
  · show 200 ≤ (dr_upd h.2.2 a _ j).1
    have hj : h.1 < j := hj
    unfold dr_upd
    rw [if_neg (by omega)]
    exact hC.2.2.2.1 j hj
  · show 100 ≤ (dr_upd h.2.2 a _ 0).1
    unfold dr_upd
    rw [if_neg (by omega)]
    exact hC.2.2.2.2.1
theorem dr_C.push {G : dr_Gt} (hb : G.b < G.s.heap.size) {h : dr_AH} {H H1 : Heap} (hC : dr_C G h H) {o : dr_AO} (hz : H1.size = H.size + 1) (ho : ∀ q, q < H.size → H1[q]? = H[q]?)
    (hn : dr_at G (h.1 + 1) o H1) (hr : h.1 < dr_CC ∧ h.2.1 + o.2.1 ≤ dr_SC) : dr_C G (dr_push h o) H1 := by
  have hz0 := hC.1
  refine ⟨by rw [hz, hz0]; simp only [dr_push]; omega, fun q hq => ?_, fun j hj => ?_, fun j hj => ?_, ?_, hr.1, hr.2⟩
  · rw [ho q (by omega)]; exact hC.2.1 q hq
  · show dr_at G j (dr_upd h.2.2 (h.1 + 1) _ j) H1
    have hj : j ≤ h.1 + 1 := hj
    unfold dr_upd
    by_cases e : j = h.1 + 1
    · rw [if_pos e, e]; exact hn
    · rw [if_neg e]
      refine (hC.2.2.1 j (by omega)).kept (ho _ ?_)
      cases j with
      | zero => simp only [dr_ad]; omega
      | succ j => simp only [dr_ad]; omega
  · show 200 ≤ (dr_upd h.2.2 (h.1 + 1) _ j).1
    have hj : h.1 + 1 < j := hj
    unfold dr_upd
    rw [if_neg (by omega)]
    exact hC.2.2.2.1 j (by omega)
  · show 100 ≤ (dr_upd h.2.2 (h.1 + 1) o 0).1
    unfold dr_upd
    rw [if_neg (by omega)]
    exact hC.2.2.2.2.1
/-! ===== the judgement ===== -/
/-- what the start gives -/
def dr_K (G : dr_Gt) : Prop :=
  G.p.tables.exec = Jvm.exec ∧ (∀ w ∈ lw_tbl, w.before #[Value.ref G.b] G.s = true) ∧ (∀ (c : Nat) (q : vw_C), vwCl[c]? = some q → u_Kn G.s q.1 q.2.1 q.2.2 (G.dC c) (G.dI c)) ∧ G.b < G.s.heap.size ∧ G.l.stackTraces = false ∧ (Jvm.Cond.and given_1 narrow_1).before #[Value.ref G.b] G.s = true
/-- a word of the tables that the start and every later state have -/
def dr_T (w : Cond) : Prop := ∀ (G : dr_Gt) (s : State) (a' : Array Value), dr_K G → G.s.WarmedH s.vm → w.before a' s = true
theorem dr_Tg {w : Cond} (hi : w ∈ lw_tbl) (hg : ((w.onTables && w.keeps) = true ∨ ∃ ty, w = .arrayClass ty)) : dr_T w := fun _ _ _ K hW => word_at hW hg (K.2.1 w hi)
/-- the method at hand -/
def dr_M (G : dr_Gt) (M : dr_MI) (s : State) (m : MethodId) (meth : Method) (c : Code) : Prop :=
  G.s.WarmedH s.vm ∧ s.vm.findClass M.own = some m.cls ∧ c.code = M.code ∧ c.maxLocals = M.maxL ∧ meth.sig.returnType = M.ret ∧ meth.locks = false ∧ meth.name = M.y.name ∧ c.exceptionTable.toList.map (fun x => (x.startPc, x.endPc, x.handlerPc, x.catchType)) = M.tab
/-- so many frames and words are left -/
def dr_R (fr wo : Nat) (R : Room) : Prop := fr ≤ R.frames ∧ wo ≤ R.locals
def dr_tl (G : dr_Gt) (l : List (Nat × Value)) : List (Nat × Value) := l.map (fun q => (q.1, dr_tr G q.2))
/-- all that stands at a point of a road -/
def dr_X (G : dr_Gt) (M : dr_MI) (fr wo : Nat) (R : Room) (s : State) (m : MethodId) (meth : Method) (c : Code) (H : Heap) (locs : List Loc) (cells slots : Nat) (ls : Array Slot) (l : List (Nat × Value)) (h : dr_AH) : Prop :=
  dr_K G ∧ dr_M G M s m meth c ∧ dr_R fr wo R ∧ R.cells + h.1 = dr_CC + cells ∧ R.slots + h.2.1 = dr_SC + slots ∧ (∀ q ∈ locs, G.s.heap.size ≤ q.base) ∧ dr_C G h H ∧ lv_has ls M.maxL (dr_tl G l)
def dr_O (G : dr_Gt) (o : Outcome) (r : dr_RS) (h : dr_AH) (H : Heap) : Prop := match r with
  | .inl v => o = .returned (v.map (dr_tr G))
  | .inr x => o = .threw (dr_ad G x.2) ∧ 1 ≤ x.2 ∧ x.2 ≤ h.1 ∧ ∃ ce : Cell, H[dr_ad G x.2]? = some ce ∧ ce.vm = .none ∧ G.s.vm.findClass x.1 = some ce.cls
def dr_E (G : dr_Gt) (R : Room) (s : State) (below : List Frame) (Q : dr_RS → dr_AH → Prop) : State → Prop := fun t =>
  ∃ (o : Outcome) (r : dr_RS) (h : dr_AH) (L : List Loc) (k n : Nat), t.status = .running ∧ Ended t below o ∧ s.WarmedH t.vm ∧ s.sameButNew ({ t with vm := s.vm } : State) L k n ∧ (∀ q ∈ L, G.s.heap.size ≤ q.base) ∧
    R.cells + h.1 = dr_CC + k ∧ R.slots + h.2.1 = dr_SC + n ∧ dr_C G h t.heap ∧ dr_O G o r h t.heap ∧ Q r h
/-- from pc on, with the locals l, the operands st, the heap h: the method ends, with an end and a heap of Q -/
def dr_W (M : dr_MI) (fr wo pc : Nat) (l : List (Nat × Value)) (st : List Value) (h : dr_AH) (Q : dr_RS → dr_AH → Prop) : Prop :=
  ∀ (G : dr_Gt) (R : Room) (s : State) (m : MethodId) (args : Array Value) (below : List Frame) (meth : Method) (c : Code) (H : Heap) (locs : List Loc) (cells slots : Nat) (ls : Array Slot),
    dr_X G M fr wo R s m meth c H locs cells slots ls l h → W G.p G.l G.e R s m args below meth c H locs cells slots (dr_E G R s below Q) (F0 m pc ls (st.map (dr_tr G)))
/-- .. with the exception under the number q, of class E, thrown over the frame -/
def dr_V (M : dr_MI) (fr wo pc : Nat) (l : List (Nat × Value)) (st : List Value) (E : String) (q : Nat) (h : dr_AH) (Q : dr_RS → dr_AH → Prop) : Prop :=
  ∀ (G : dr_Gt) (R : Room) (s : State) (m : MethodId) (args : Array Value) (below : List Frame) (meth : Method) (c : Code) (H : Heap) (locs : List Loc) (cells slots : Nat) (ls : Array Slot),
    dr_X G M fr wo R s m meth c H locs cells slots ls l h → 1 ≤ q → q ≤ h.1 → (∃ ce : Cell, H[dr_ad G q]? = some ce ∧ ce.vm = .none ∧ G.s.vm.findClass E = some ce.cls) →
      ∀ T : State, T.heap = H → Stand G.p G.l G.e R s m args below meth c T locs cells slots → ∃ t, Steps G.p.tables G.e below ((T.setTop (F0 m pc ls (st.map (dr_tr G)))).pushFrame (.throwing (dr_ad G q))) t ∧ dr_E G R s below Q t
/-- the function's value is some end, and it is of Q -/
def dr_p (o : Option (dr_RS × dr_AH)) (Q : dr_RS → dr_AH → Prop) : Prop := ∃ r, o = some r ∧ Q r.1 r.2
theorem dr_p0 {Q : dr_RS → dr_AH → Prop} (h : dr_p none Q) : False := by obtain ⟨r, h, -⟩ := h; cases h
section DRX
variable {G : dr_Gt} {M : dr_MI} {fr wo pc : Nat} {R : Room} {s : State} {m : MethodId} {args : Array Value} {below : List Frame} {meth : Method} {c : Code} {H : Heap} {locs : List Loc} {cells slots : Nat} {ls : Array Slot} {l : List (Nat × Value)} {h : dr_AH}
theorem dr_X.exec (X : dr_X G M fr wo R s m meth c H locs cells slots ls l h) : G.p.tables.exec = Jvm.exec := X.1.1
theorem dr_X.bytes (X : dr_X G M fr wo R s m meth c H locs cells slots ls l h) : c.code = M.code := X.2.1.2.2.1
theorem dr_X.warm (X : dr_X G M fr wo R s m meth c H locs cells slots ls l h) : G.s.WarmedH s.vm := X.2.1.1
theorem dr_X.own (X : dr_X G M fr wo R s m meth c H locs cells slots ls l h) : s.vm.findClass M.own = some m.cls := X.2.1.2.1
theorem dr_X.maxL (X : dr_X G M fr wo R s m meth c H locs cells slots ls l h) : c.maxLocals = M.maxL := X.2.1.2.2.2.1
theorem dr_X.rets (X : dr_X G M fr wo R s m meth c H locs cells slots ls l h) : meth.sig.returnType = M.ret := X.2.1.2.2.2.2.1
theorem dr_X.locks (X : dr_X G M fr wo R s m meth c H locs cells slots ls l h) : meth.locks = false := X.2.1.2.2.2.2.2.1
theorem dr_X.name (X : dr_X G M fr wo R s m meth c H locs cells slots ls l h) : meth.name = M.y.name := X.2.1.2.2.2.2.2.2.1
theorem dr_X.tab (X : dr_X G M fr wo R s m meth c H locs cells slots ls l h) : c.exceptionTable.toList.map (fun x => (x.startPc, x.endPc, x.handlerPc, x.catchType)) = M.tab := X.2.1.2.2.2.2.2.2.2
theorem dr_X.room (X : dr_X G M fr wo R s m meth c H locs cells slots ls l h) : dr_R fr wo R := X.2.2.1
theorem dr_X.cellsE (X : dr_X G M fr wo R s m meth c H locs cells slots ls l h) : R.cells + h.1 = dr_CC + cells := X.2.2.2.1
theorem dr_X.slotsE (X : dr_X G M fr wo R s m meth c H locs cells slots ls l h) : R.slots + h.2.1 = dr_SC + slots := X.2.2.2.2.1
theorem dr_X.locsE (X : dr_X G M fr wo R s m meth c H locs cells slots ls l h) : ∀ q ∈ locs, G.s.heap.size ≤ q.base := X.2.2.2.2.2.1
theorem dr_X.heap (X : dr_X G M fr wo R s m meth c H locs cells slots ls l h) : dr_C G h H := X.2.2.2.2.2.2.1
theorem dr_X.lsE (X : dr_X G M fr wo R s m meth c H locs cells slots ls l h) : lv_has ls M.maxL (dr_tl G l) := X.2.2.2.2.2.2.2
theorem dr_X.bs (X : dr_X G M fr wo R s m meth c H locs cells slots ls l h) : G.b < G.s.heap.size := X.1.2.2.2.1
theorem dr_X.setL (X : dr_X G M fr wo R s m meth c H locs cells slots ls l h) {ls' : Array Slot} {l' : List (Nat × Value)} (hl : lv_has ls' M.maxL (dr_tl G l')) : dr_X G M fr wo R s m meth c H locs cells slots ls' l' h :=
  ⟨X.1, X.2.1, X.room, X.cellsE, X.slotsE, X.locsE, X.heap, hl⟩
theorem dr_X.setH (X : dr_X G M fr wo R s m meth c H locs cells slots ls l h) {H' : Heap} {locs' : List Loc} {h' : dr_AH} (h1 : h'.1 = h.1) (h2 : h'.2.1 = h.2.1) (hl : ∀ q ∈ locs', G.s.heap.size ≤ q.base) (hC : dr_C G h' H') : dr_X G M fr wo R s m meth c H' locs' cells slots ls l h' :=
  ⟨X.1, X.2.1, X.room, by rw [h1]; exact X.cellsE, by rw [h2]; exact X.slotsE, hl, hC, X.lsE⟩
/-- a word of the tables, here -/
theorem dr_X.word (X : dr_X G M fr wo R s m meth c H locs cells slots ls l h) {w : Cond} (hw : dr_T w) {a' : Array Value} : w.before a' s = true := hw G s a' X.1 X.warm
theorem dr_X.at (X : dr_X G M fr wo R s m meth c H locs cells slots ls l h) {i k : Nat} {v : Value} (hk : l[k]? = some (i, v)) : ls[i]? = some (.val (dr_tr G v)) :=
  lv_at X.lsE k (by unfold dr_tl; rw [List.getElem?_map, hk]; rfl)
theorem dr_X.known (X : dr_X G M fr wo R s m meth c H locs cells slots ls l h) {ci : Nat} {q : vw_C} (hq : vwCl[ci]? = some q) : u_Kn s q.1 q.2.1 q.2.2 (G.dC ci) (G.dI ci) := u_Kn_moved X.warm.alike (X.1.2.2.1 ci q hq)
end DRX
/-! locals -/
def dr_st (l : List (Nat × Value)) (i : Nat) (v : Value) : List (Nat × Value) := (i, v) :: l.filter (fun q => !(q.1 == i) && !(q.1 + 1 == i && q.2.category == 2))
def dr_st2 (l : List (Nat × Value)) (i : Nat) (v : Value) : List (Nat × Value) := (i, v) :: l.filter (fun q => !(q.1 == i) && (!(q.1 == i + 1) && !(q.1 + 1 == i && q.2.category == 2)))
theorem dr_st_tl (G : dr_Gt) (l : List (Nat × Value)) (i : Nat) (v : Value) : (i, dr_tr G v) :: (dr_tl G l).filter (fun q => !(q.1 == i) && !(q.1 + 1 == i && q.2.category == 2)) = dr_tl G (dr_st l i v) := by
  unfold dr_tl dr_st
  rw [List.map_cons, List.filter_map]
  congr 3
  funext q
  simp only [Function.comp, dr_tr_cat]
theorem dr_st2_tl (G : dr_Gt) (l : List (Nat × Value)) (i : Nat) (v : Value) : (i, dr_tr G v) :: (dr_tl G l).filter (fun q => !(q.1 == i) && (!(q.1 == i + 1) && !(q.1 + 1 == i && q.2.category == 2))) = dr_tl G (dr_st2 l i v) := by
  unfold dr_tl dr_st2
  rw [List.map_cons, List.filter_map]
  congr 3
  funext q
  simp only [Function.comp, dr_tr_cat]
