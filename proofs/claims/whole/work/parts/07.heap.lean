/-! ===== objects ===== -/
/-- class number ci: its name, fields, their types; words, spelling and names decided once -/
def dr_Cl (ci : Nat) (C : String) (T : u_T) (N : Nat) (ty : Nat → FieldType) : Prop :=
  vwCl[ci]? = some (C, T, N) ∧ ci < 100 ∧ (∀ w ∈ u_ws C T N, dr_T w) ∧ (∀ k, k < N → parseFieldDescriptor (T k).2.2.1 = some (ty k)) ∧ ∀ a, a < N → ∀ b, b < N → a ≠ b → (T a).2.1 ≠ (T b).2.1
/-- the pool's entry idx of the class own names the k-th field of T -/
def dr_L (own : String) (idx : Nat) (T : u_T) (k : Nat) : Prop := dr_T (.fieldLink own idx (T k).1 (T k).2.1 (T k).2.2.1) ∨ ∃ host : String, dr_T (.fieldLinkNest own idx (T k).1 (T k).2.1 (T k).2.2.1 host)
theorem dr_fits (G : dr_Gt) (t : FieldType) (v : Value) : fits t (dr_tr G v) = fits t v := by cases v <;> cases t <;> rfl
theorem dr_narrow (G : dr_Gt) {t : FieldType} {v : Value} (h : narrow t v = v) : narrow t (dr_tr G v) = dr_tr G v := by
  cases v <;> first | exact h | (cases t <;> rfl)
section DRO
variable {M : dr_MI} {fr wo pc : Nat} {l : List (Nat × Value)} {st : List Value} {h : dr_AH} {Q : dr_RS → dr_AH → Prop} {ci a k idx N : Nat} {C : String} {T : u_T} {ty : Nat → FieldType}
theorem wp_getv (hCl : dr_Cl ci C T N ty) (hL : dr_L M.own idx T k) (hkN : k < N) (hd : decode M.code pc = .ok (.getfield idx, 3)) (hk : (h.2.2 a).1 = ci) {v : Value} (hv : (h.2.2 a).2.2 k = v) (kk : dr_W M fr wo (pc + 3) l (v :: st) h Q) : dr_W M fr wo pc l (.ref a :: st) h Q := by
  intro G R s m args below meth c H locs cells slots ls X
  obtain ⟨hq, hci, hlay, hty, hnm⟩ := hCl
  obtain ⟨ha, q, q1, q2, cell, e1, e2, e3, e4⟩ := X.heap.obj hk hci
  have hqe : q = (C, T, N) := Option.some.inj (q1.symm.trans hq)
  subst hqe
  have q2 : N = (h.2.2 a).2.1 := q2
  obtain ⟨hS, hfc, kC, hkC, hkind⟩ := X.known hq
  obtain ⟨cf, kf, fi, f, hi, hsl⟩ := hS k hkN
  have hst := (u_facts (args := args) hfc hkC (u_lays (ws := u_ws C T N) (fun w hw => X.word (hlay w hw)) (fun w h => h) hkN) hi).1
  have hv' : cell.slots[f.slot]? = some (dr_tr G v) := by
    rw [hsl, e4 k (by omega)]
    show some (dr_tr G ((h.2.2 a).2.2 k)) = _
    rw [hv]
  rcases hL with hl | ⟨host, hl⟩
  · exact W.getf X.exec X.bytes X.own (X.word hl) hi hst e1 (by rw [e3]; exact fun h => by cases h) hv' rfl rfl hd (kk G R s m args below meth c H locs cells slots ls X)
  · exact va_Wgetf X.exec X.bytes X.own (X.word hl) hi hst e1 (by rw [e3]; exact fun h => by cases h) hv' rfl rfl hd (kk G R s m args below meth c H locs cells slots ls X)
def dr_gi (h : dr_AH) (ci a k : Nat) (K : Int32 → Option (dr_RS × dr_AH)) : Option (dr_RS × dr_AH) :=
  if (h.2.2 a).1 = ci then (match (h.2.2 a).2.2 k with
    | .int x => K x
    | _ => none) else none
def dr_gl (h : dr_AH) (ci a k : Nat) (K : Int64 → Option (dr_RS × dr_AH)) : Option (dr_RS × dr_AH) :=
  if (h.2.2 a).1 = ci then (match (h.2.2 a).2.2 k with
    | .long x => K x
    | _ => none) else none
def dr_gr (h : dr_AH) (ci a k : Nat) (K : Nat → Option (dr_RS × dr_AH)) (K0 : Option (dr_RS × dr_AH)) : Option (dr_RS × dr_AH) :=
  if (h.2.2 a).1 = ci then (match (h.2.2 a).2.2 k with
    | .ref x => K x
    | .null => K0
    | _ => none) else none
theorem wp_gi {K : Int32 → Option (dr_RS × dr_AH)} (hCl : dr_Cl ci C T N ty) (hL : dr_L M.own idx T k) (hkN : k < N) (hd : decode M.code pc = .ok (.getfield idx, 3)) (hp : dr_p (dr_gi h ci a k K) Q) (kk : ∀ x, dr_p (K x) Q → dr_W M fr wo (pc + 3) l (.int x :: st) h Q) : dr_W M fr wo pc l (.ref a :: st) h Q := by
  unfold dr_gi at hp
  by_cases hk : (h.2.2 a).1 = ci
  · rw [if_pos hk] at hp
    cases hv : (h.2.2 a).2.2 k with
    | int x => rw [hv] at hp; exact wp_getv hCl hL hkN hd hk hv (kk x hp)
    | _ => rw [hv] at hp; exact (dr_p0 hp).elim
  · rw [if_neg hk] at hp; exact (dr_p0 hp).elim
theorem wp_gl {K : Int64 → Option (dr_RS × dr_AH)} (hCl : dr_Cl ci C T N ty) (hL : dr_L M.own idx T k) (hkN : k < N) (hd : decode M.code pc = .ok (.getfield idx, 3)) (hp : dr_p (dr_gl h ci a k K) Q) (kk : ∀ x, dr_p (K x) Q → dr_W M fr wo (pc + 3) l (.long x :: st) h Q) : dr_W M fr wo pc l (.ref a :: st) h Q := by
  unfold dr_gl at hp
  by_cases hk : (h.2.2 a).1 = ci
  · rw [if_pos hk] at hp
    cases hv : (h.2.2 a).2.2 k with
    | long x => rw [hv] at hp; exact wp_getv hCl hL hkN hd hk hv (kk x hp)
    | _ => rw [hv] at hp; exact (dr_p0 hp).elim
  · rw [if_neg hk] at hp; exact (dr_p0 hp).elim
theorem wp_gr {K : Nat → Option (dr_RS × dr_AH)} {K0 : Option (dr_RS × dr_AH)} (hCl : dr_Cl ci C T N ty) (hL : dr_L M.own idx T k) (hkN : k < N) (hd : decode M.code pc = .ok (.getfield idx, 3)) (hp : dr_p (dr_gr h ci a k K K0) Q) (kk : ∀ x, dr_p (K x) Q → dr_W M fr wo (pc + 3) l (.ref x :: st) h Q) (k0 : dr_p K0 Q → dr_W M fr wo (pc + 3) l (.null :: st) h Q) : dr_W M fr wo pc l (.ref a :: st) h Q := by
  unfold dr_gr at hp
  by_cases hk : (h.2.2 a).1 = ci
  · rw [if_pos hk] at hp
    cases hv : (h.2.2 a).2.2 k with
    | ref x => rw [hv] at hp; exact wp_getv hCl hL hkN hd hk hv (kk x hp)
    | null => rw [hv] at hp; exact wp_getv hCl hL hkN hd hk hv (k0 hp)
    | _ => rw [hv] at hp; exact (dr_p0 hp).elim
  · rw [if_neg hk] at hp; exact (dr_p0 hp).elim
def dr_pf (h : dr_AH) (ci a k : Nat) (v : Value) (K : dr_AH → Option (dr_RS × dr_AH)) : Option (dr_RS × dr_AH) := if (h.2.2 a).1 = ci then K (dr_put h a k v) else none
theorem wp_put {v : Value} {K : dr_AH → Option (dr_RS × dr_AH)} (hCl : dr_Cl ci C T N ty) (hL : dr_L M.own idx T k) (hkN : k < N) (hfin : (T k).2.2.2 = false ∨ (M.y.name = "<init>" ∧ (T k).1 = M.own)) (hn : narrow (ty k) v = v) (hfit : fits (ty k) v = true) (hd : decode M.code pc = .ok (.putfield idx, 3)) (hp : dr_p (dr_pf h ci a k v K) Q)
    (kk : ∀ h2, dr_p (K h2) Q → dr_W M fr wo (pc + 3) l st h2 Q) : dr_W M fr wo pc l (v :: .ref a :: st) h Q := by
  unfold dr_pf at hp
  by_cases hk : (h.2.2 a).1 = ci
  case neg => rw [if_neg hk] at hp; exact (dr_p0 hp).elim
  rw [if_pos hk] at hp
  have kk := kk _ hp
  intro G R s m args below meth c H locs cells slots ls X
  obtain ⟨hq, hci, hlay, hty, hnm⟩ := hCl
  obtain ⟨ha, q, q1, q2, cell, e1, e2, e3, e4⟩ := X.heap.obj hk hci
  have hqe : q = (C, T, N) := Option.some.inj (q1.symm.trans hq)
  subst hqe
  have q2 : N = (h.2.2 a).2.1 := q2
  have ha0 : 0 < a := by
    rcases Nat.eq_zero_or_pos a with z | z
    · rw [z] at hk
      have := X.heap.2.2.2.2.1
      omega
    · exact z
  have hts : ∀ w ∈ u_ws C T N, w.before args s = true := fun w hw => X.word (hlay w hw)
  have hK : va_K (G.dC, G.dI) vwCl [] s := ⟨fun c q hq => X.known hq, fun k q h => by simp at h⟩
  have hap := va_apart (own := C) hts (fun w h => h) ty hty hnm hK hq
  obtain ⟨hS, hfc, kC, hkC, hkind⟩ := X.known hq
  obtain ⟨cf, kf, fi, f, hi, hsl⟩ := hS k hkN
  have hlays := u_lays (args := args) hts (fun w h => h) hkN
  have hst := (u_facts hfc hkC hlays hi).1
  have hlt : f.slot < cell.slots.size := by rw [hsl]; exact k2_hasslot (e4 k (by omega))
  have hlb : G.s.heap.size ≤ dr_ad G a := by
    cases a with
    | zero => omega
    | succ a => simp only [dr_ad]; omega
  have hlocs : ∀ z ∈ locs ++ [⟨dr_ad G a, f.slot⟩], G.s.heap.size ≤ z.base := by
    intro z hz
    rcases List.mem_append.mp hz with hz | hz
    · exact X.locsE z hz
    · rw [List.mem_singleton.mp hz]; exact hlb
  have hw := u_fits (args := args) hfc hkC hkind hlays hi (hty k hkN) (dr_narrow G hn) (by rw [dr_fits]; exact hfit)
  have fin : ∀ H' : Heap, H'[dr_ad G a]? = some (cell.setSlot f.slot (dr_tr G v)) → H'.size = H.size → (∀ q, q ≠ dr_ad G a → H'[q]? = H[q]?) → W G.p G.l G.e R s m args below meth c H' (locs ++ [⟨dr_ad G a, f.slot⟩]) cells slots (dr_E G R s below Q) (F0 m (pc + 3) ls (st.map (dr_tr G))) := by
    intro H' e1' e2' e3'
    refine kk G R s m args below meth c H' _ cells slots ls (X.setH rfl rfl hlocs (X.heap.put X.bs ha ha0 e2' e3' ⟨fun _ => ?_, fun h1 => ?_⟩))
    · refine ⟨(C, T, N), by rw [← hq, ← hk]; rfl, q2, cell.setSlot f.slot (dr_tr G v), e1', ?_, e3, ?_⟩
      · show cell.cls = G.dC (h.2.2 a).1
        rw [e2, hk]
      · intro j hj
        have hj : j < (h.2.2 a).2.1 := hj
        have := t_set (V := fun k => dr_tr G ((h.2.2 a).2.2 k)) (N := N) (fun k hk => e4 k (by omega)) hap hkN (dr_tr G v) j (by omega)
        show (cell.setSlot f.slot (dr_tr G v)).slots[G.dI (h.2.2 a).1 j]? = some (dr_tr G (if j = k then v else (h.2.2 a).2.2 j))
        rw [hsl, hk]
        rw [this]
        unfold updV
        by_cases hjk : j = k
        · rw [if_pos hjk, if_pos hjk]
        · rw [if_neg hjk, if_neg hjk]
    · exfalso
      have h1 : 100 ≤ (h.2.2 a).1 := h1
      omega
  by_cases hf : (T k).2.2.2 = false
  · have hlay1 := hts _ (u_in_lay hkN)
    unfold u_lay at hlay1
    rw [if_neg (by rw [hf]; decide)] at hlay1
    have h6 := u_store hfc hkC hkind hlay1 hi (hty k hkN) (dr_narrow G hn) (by rw [dr_fits]; exact hfit)
    rcases hL with hl | ⟨host, hl⟩
    · exact W.putK X.exec X.bytes (f := f) ⟨X.own, X.word hl, ⟨_, _, _, hi⟩, hst⟩ (by rw [e2]; exact h6) e1 e3 hlt rfl rfl hd fin
    · exact va_WputK X.exec X.bytes (f := f) X.own (X.word hl) hi hst (by rw [e2]; exact h6) e1 e3 hlt rfl rfl hd fin
  · obtain ⟨hin, hdecl⟩ : M.y.name = "<init>" ∧ (T k).1 = M.own := by
      rcases hfin with z | z
      · exact absurd z hf
      · exact z
    have hlay1 := hts _ (u_in_lay hkN)
    unfold u_lay at hlay1
    rw [if_pos (by simpa using hf)] at hlay1
    obtain ⟨_, _, c', _, _, _, -, -, hf', -, hown2, -⟩ := Cond.laid_spec (final := true) (cls := C) (owner := (T k).1) (name := (T k).2.1) (desc := (T k).2.2.1) hlay1
    have ecf : c' = cf := by have := hi.symm.trans hf'; simp at this; exact this.1.symm
    have hcf : m.cls = cf := by
      rw [← ecf]
      have := X.own
      rw [← hdecl] at this
      exact Option.some.inj (this.symm.trans hown2)
    rcases hL with hl | ⟨host, hl⟩
    · exact W.putFinK X.exec X.bytes X.own (X.word hl) hi hst hcf (by rw [X.name]; exact hin) (by rw [e2]; exact hw) e1 e3 hlt rfl rfl hd fin
    · refine va_Wputf X.exec X.bytes X.own (X.word hl) hi hst (Or.inr ⟨hcf, by rw [X.name]; exact hin⟩) e1 (by rw [e3]; exact fun h => by cases h) hlt hw.1 (by rw [e3, e2]; exact hw.2) rfl rfl hd ?_
      have hlt1 : dr_ad G a < H.size := (Array.getElem?_eq_some_iff.mp e1).1
      refine fin _ ?_ ?_ ?_
      · simp [Array.getElem?_setIfInBounds, hlt1]
      · simp
      · intro q hq
        simp [Array.getElem?_setIfInBounds, Ne.symm hq]
end DRO
/-! ===== arrays ===== -/
section DRA
variable {M : dr_MI} {fr wo pc : Nat} {l : List (Nat × Value)} {st : List Value} {h : dr_AH} {Q : dr_RS → dr_AH → Prop} {a : Nat} {j : Int32}
abbrev dr_in (h : dr_AH) (c a : Nat) (j : Int32) : Prop := (h.2.2 a).1 = 100 + c ∧ 0 ≤ j.toInt ∧ j.toInt < ((h.2.2 a).2.1 : Int)
theorem dr_in.nat {h : dr_AH} {c a : Nat} {j : Int32} (hj : dr_in h c a j) : j.toNatClampNeg < (h.2.2 a).2.1 := by
  have h1 : j.toNatClampNeg = j.toInt.toNat := rfl
  have := hj.2
  omega
theorem dr_in.ok {h : dr_AH} {c a : Nat} {j : Int32} (hj : dr_in h c a j) {cell : Cell} (hz : cell.slots.size = (h.2.2 a).2.1) : ¬ (j < 0 ∨ cell.slots.size ≤ j.toNatClampNeg) := by
  rw [hz]
  exact vp_in_iff.mpr hj.2
def dr_ai (h : dr_AH) (a : Nat) (j : Int32) (K : Int32 → Option (dr_RS × dr_AH)) : Option (dr_RS × dr_AH) :=
  if dr_in h 0 a j then (match (h.2.2 a).2.2 j.toNatClampNeg with
    | .int x => K x
    | _ => none) else none
def dr_al (h : dr_AH) (a : Nat) (j : Int32) (K : Int64 → Option (dr_RS × dr_AH)) : Option (dr_RS × dr_AH) :=
  if dr_in h 1 a j then (match (h.2.2 a).2.2 j.toNatClampNeg with
    | .long x => K x
    | _ => none) else none
def dr_az (h : dr_AH) (a : Nat) (j : Int32) (K : Int32 → Option (dr_RS × dr_AH)) : Option (dr_RS × dr_AH) :=
  if dr_in h 2 a j then (match (h.2.2 a).2.2 j.toNatClampNeg with
    | .int x => K x
    | _ => none) else none
def dr_ar (h : dr_AH) (ci a : Nat) (j : Int32) (K : Nat → Option (dr_RS × dr_AH)) (K0 : Option (dr_RS × dr_AH)) : Option (dr_RS × dr_AH) :=
  if dr_in h (10 + ci) a j then (match (h.2.2 a).2.2 j.toNatClampNeg with
    | .ref x => K x
    | .null => K0
    | _ => none) else none
theorem wp_iaload {K : Int32 → Option (dr_RS × dr_AH)} (hd : decode M.code pc = .ok (.iaload, 1)) (hp : dr_p (dr_ai h a j K) Q) (kk : ∀ x, dr_p (K x) Q → dr_W M fr wo (pc + 1) l (.int x :: st) h Q) : dr_W M fr wo pc l (.int j :: .ref a :: st) h Q := by
  unfold dr_ai at hp
  by_cases hj : dr_in h 0 a j
  case neg => rw [if_neg hj] at hp; exact (dr_p0 hp).elim
  rw [if_pos hj] at hp
  cases hv : (h.2.2 a).2.2 j.toNatClampNeg with
  | int x =>
    rw [hv] at hp
    intro G R s m args below meth c H locs cells slots ls X
    obtain ⟨ha, cell, e1, e2, e3, e4, e5, e6⟩ := X.heap.arr hj.1 (by decide)
    exact W.iald X.exec X.bytes e1 (State.isArrayOf_alike X.warm.alike e3.1) e2 (hj.ok e4) (v := dr_tr G (.int x)) (by rw [e6 _ hj.nat, hv]) rfl rfl hd (kk x hp G R s m args below meth c H locs cells slots ls X)
  | _ => rw [hv] at hp; exact (dr_p0 hp).elim
theorem wp_laload {K : Int64 → Option (dr_RS × dr_AH)} (hd : decode M.code pc = .ok (.laload, 1)) (hp : dr_p (dr_al h a j K) Q) (kk : ∀ x, dr_p (K x) Q → dr_W M fr wo (pc + 1) l (.long x :: st) h Q) : dr_W M fr wo pc l (.int j :: .ref a :: st) h Q := by
  unfold dr_al at hp
  by_cases hj : dr_in h 1 a j
  case neg => rw [if_neg hj] at hp; exact (dr_p0 hp).elim
  rw [if_pos hj] at hp
  cases hv : (h.2.2 a).2.2 j.toNatClampNeg with
  | long x =>
    rw [hv] at hp
    intro G R s m args below meth c H locs cells slots ls X
    obtain ⟨ha, cell, e1, e2, e3, e4, e5, e6⟩ := X.heap.arr hj.1 (by decide)
    exact W.lald X.exec X.bytes e1 (State.isArrayOf_alike X.warm.alike e3.1) e2 (hj.ok e4) (v := dr_tr G (.long x)) (by rw [e6 _ hj.nat, hv]) rfl rfl hd (kk x hp G R s m args below meth c H locs cells slots ls X)
  | _ => rw [hv] at hp; exact (dr_p0 hp).elim
theorem wp_zaload {K : Int32 → Option (dr_RS × dr_AH)} (hd : decode M.code pc = .ok (.baload, 1)) (hp : dr_p (dr_az h a j K) Q) (kk : ∀ x, dr_p (K x) Q → dr_W M fr wo (pc + 1) l (.int x :: st) h Q) : dr_W M fr wo pc l (.int j :: .ref a :: st) h Q := by
  unfold dr_az at hp
  by_cases hj : dr_in h 2 a j
  case neg => rw [if_neg hj] at hp; exact (dr_p0 hp).elim
  rw [if_pos hj] at hp
  cases hv : (h.2.2 a).2.2 j.toNatClampNeg with
  | int x =>
    rw [hv] at hp
    intro G R s m args below meth c H locs cells slots ls X
    obtain ⟨ha, cell, e1, e2, e3, e4, e5, e6⟩ := X.heap.arr hj.1 (by decide)
    exact W.zald X.exec X.bytes e1 (State.isArrayOf_alike X.warm.alike e3.1) e2 (hj.ok e4) (v := dr_tr G (.int x)) (by rw [e6 _ hj.nat, hv]) rfl rfl hd (kk x hp G R s m args below meth c H locs cells slots ls X)
  | _ => rw [hv] at hp; exact (dr_p0 hp).elim
theorem wp_aaload {ci : Nat} {K : Nat → Option (dr_RS × dr_AH)} {K0 : Option (dr_RS × dr_AH)} (hci : ci < 90) (hd : decode M.code pc = .ok (.aaload, 1)) (hp : dr_p (dr_ar h ci a j K K0) Q) (kk : ∀ x, dr_p (K x) Q → dr_W M fr wo (pc + 1) l (.ref x :: st) h Q) (k0 : dr_p K0 Q → dr_W M fr wo (pc + 1) l (.null :: st) h Q) : dr_W M fr wo pc l (.int j :: .ref a :: st) h Q := by
  unfold dr_ar at hp
  by_cases hj : dr_in h (10 + ci) a j
  case neg => rw [if_neg hj] at hp; exact (dr_p0 hp).elim
  rw [if_pos hj] at hp
  have hty : (dr_ty (10 + ci)).isReference = true := by
    unfold dr_ty
    rw [if_neg (by omega), if_neg (by omega), if_neg (by omega), if_neg (by omega), if_neg (by omega)]
    rfl
  cases hv : (h.2.2 a).2.2 j.toNatClampNeg with
  | ref x =>
    rw [hv] at hp
    intro G R s m args below meth c H locs cells slots ls X
    obtain ⟨ha, cell, e1, e2, e3, e4, e5, e6⟩ := X.heap.arr hj.1 (by omega)
    exact W.aald X.exec X.bytes e1 (State.isArrayOf_alike X.warm.alike e3.1) hty e2 (hj.ok e4) (v := dr_tr G (.ref x)) (by rw [e6 _ hj.nat, hv]) rfl rfl hd (kk x hp G R s m args below meth c H locs cells slots ls X)
  | null =>
    rw [hv] at hp
    intro G R s m args below meth c H locs cells slots ls X
    obtain ⟨ha, cell, e1, e2, e3, e4, e5, e6⟩ := X.heap.arr hj.1 (by omega)
    exact W.aald X.exec X.bytes e1 (State.isArrayOf_alike X.warm.alike e3.1) hty e2 (hj.ok e4) (v := dr_tr G .null) (by rw [e6 _ hj.nat, hv]) rfl rfl hd (k0 hp G R s m args below meth c H locs cells slots ls X)
  | _ => rw [hv] at hp; exact (dr_p0 hp).elim
def dr_ln (h : dr_AH) (c a : Nat) (K : Int32 → Option (dr_RS × dr_AH)) : Option (dr_RS × dr_AH) := if (h.2.2 a).1 = 100 + c then K (h.2.2 a).2.1.toInt32 else none
theorem wp_alen {c : Nat} {K : Int32 → Option (dr_RS × dr_AH)} (hc : c < 100) (hd : decode M.code pc = .ok (.arraylength, 1)) (hp : dr_p (dr_ln h c a K) Q) (kk : ∀ x, dr_p (K x) Q → dr_W M fr wo (pc + 1) l (.int x :: st) h Q) : dr_W M fr wo pc l (.ref a :: st) h Q := by
  unfold dr_ln at hp
  by_cases hk : (h.2.2 a).1 = 100 + c
  case neg => rw [if_neg hk] at hp; exact (dr_p0 hp).elim
  rw [if_pos hk] at hp
  intro G R s m args below meth cc H locs cells slots ls X
  obtain ⟨ha, cell, e1, e2, e3, e4, e5, e6⟩ := X.heap.arr hk hc
  exact W.alen X.exec X.bytes e1 (State.isArrayOf_alike X.warm.alike e3.1) (by rw [e4]) rfl rfl hd (kk _ hp G R s m args below meth cc H locs cells slots ls X)
/-- the array's cell with a place written -/
theorem dr_C.ast {G : dr_Gt} (hb : G.b < G.s.heap.size) {h : dr_AH} {H H1 : Heap} (hC : dr_C G h H) {c a k : Nat} {v : Value} (hc : c < 100) (hk : (h.2.2 a).1 = 100 + c) (ha0 : a ≠ 0) {cell : Cell} (e1 : H[dr_ad G a]? = some cell) (hz : H1.size = H.size) (ho : ∀ q, q ≠ dr_ad G a → H1[q]? = H[q]?)
    (hn : H1[dr_ad G a]? = some (cell.setSlot k (dr_tr G v))) (hkl : k < (h.2.2 a).2.1) : dr_C G (dr_put h a k v) H1 := by
  obtain ⟨ha, cell', f1, f2, f3, f4, f5, f6⟩ := hC.arr hk hc
  have : cell' = cell := Option.some.inj (f1.symm.trans e1)
  subst this
  refine hC.put hb ha (Nat.pos_of_ne_zero ha0) hz ho ⟨fun h1 => ?_, fun h1 h2 => ?_⟩
  · exfalso
    have h1 : (h.2.2 a).1 < 100 := h1
    omega
  · refine ⟨cell'.setSlot k (dr_tr G v), hn, f2, ?_, (k2_slotsz _ _ _).trans f4, f5, fun j hj => ?_⟩
    · show dr_ka G ((h.2.2 a).1 - 100) _
      rw [hk, show 100 + c - 100 = c by omega]
      exact f3
    · show (cell'.setSlot k (dr_tr G v)).slots[j]? = some (dr_tr G (if j = k then v else (h.2.2 a).2.2 j))
      by_cases hjk : j = k
      · subst hjk
        rw [if_pos rfl]
        exact Cell.slots_setSlot_self _ (by rw [f4]; exact hkl)
      · rw [if_neg hjk, slot_ne _ _ (Ne.symm hjk)]
        exact f6 j hj
theorem dr_lb {G : dr_Gt} {locs : List Loc} {a k : Nat} (ha0 : a ≠ 0) (hl : ∀ q ∈ locs, G.s.heap.size ≤ q.base) : ∀ z ∈ locs ++ [⟨dr_ad G a, k⟩], G.s.heap.size ≤ z.base := by
  intro z hz
  rcases List.mem_append.mp hz with hz | hz
  · exact hl z hz
  · rw [List.mem_singleton.mp hz]
    cases a with
    | zero => exact absurd rfl ha0
    | succ a => exact Nat.le_add_right _ _
def dr_si (h : dr_AH) (a : Nat) (j x : Int32) (K : dr_AH → Option (dr_RS × dr_AH)) : Option (dr_RS × dr_AH) := if dr_in h 0 a j ∧ a ≠ 0 then K (dr_put h a j.toNatClampNeg (.int x)) else none
def dr_sl (h : dr_AH) (a : Nat) (j : Int32) (x : Int64) (K : dr_AH → Option (dr_RS × dr_AH)) : Option (dr_RS × dr_AH) := if dr_in h 1 a j ∧ a ≠ 0 then K (dr_put h a j.toNatClampNeg (.long x)) else none
def dr_sz (h : dr_AH) (a : Nat) (j x : Int32) (K : dr_AH → Option (dr_RS × dr_AH)) : Option (dr_RS × dr_AH) := if dr_in h 2 a j ∧ a ≠ 0 then K (dr_put h a j.toNatClampNeg (.int (x &&& 1))) else none
theorem wp_iastore {x : Int32} {K : dr_AH → Option (dr_RS × dr_AH)} (hd : decode M.code pc = .ok (.iastore, 1)) (hp : dr_p (dr_si h a j x K) Q) (kk : ∀ h2, dr_p (K h2) Q → dr_W M fr wo (pc + 1) l st h2 Q) : dr_W M fr wo pc l (.int x :: .int j :: .ref a :: st) h Q := by
  unfold dr_si at hp
  by_cases hj : dr_in h 0 a j ∧ a ≠ 0
  case neg => rw [if_neg hj] at hp; exact (dr_p0 hp).elim
  rw [if_pos hj] at hp
  intro G R s m args below meth c H locs cells slots ls X
  obtain ⟨ha, cell, e1, e2, e3, e4, e5, e6⟩ := X.heap.arr hj.1.1 (by decide)
  exact W.iast X.exec X.bytes e1 (State.isArrayOf_alike X.warm.alike e3.1) e2 (hj.1.ok e4) rfl rfl hd fun H' f1 f2 f3 => kk _ hp G R s m args below meth c H' _ cells slots ls (X.setH rfl rfl (dr_lb hj.2 X.locsE) (X.heap.ast X.bs (by decide) hj.1.1 hj.2 e1 f2 f3 f1 hj.1.nat))
theorem wp_lastore {x : Int64} {K : dr_AH → Option (dr_RS × dr_AH)} (hd : decode M.code pc = .ok (.lastore, 1)) (hp : dr_p (dr_sl h a j x K) Q) (kk : ∀ h2, dr_p (K h2) Q → dr_W M fr wo (pc + 1) l st h2 Q) : dr_W M fr wo pc l (.long x :: .int j :: .ref a :: st) h Q := by
  unfold dr_sl at hp
  by_cases hj : dr_in h 1 a j ∧ a ≠ 0
  case neg => rw [if_neg hj] at hp; exact (dr_p0 hp).elim
  rw [if_pos hj] at hp
  intro G R s m args below meth c H locs cells slots ls X
  obtain ⟨ha, cell, e1, e2, e3, e4, e5, e6⟩ := X.heap.arr hj.1.1 (by decide)
  exact W.last X.exec X.bytes e1 (State.isArrayOf_alike X.warm.alike e3.1) e2 (hj.1.ok e4) rfl rfl hd fun H' f1 f2 f3 => kk _ hp G R s m args below meth c H' _ cells slots ls (X.setH rfl rfl (dr_lb hj.2 X.locsE) (X.heap.ast X.bs (by decide) hj.1.1 hj.2 e1 f2 f3 f1 hj.1.nat))
theorem wp_zastore {x : Int32} {K : dr_AH → Option (dr_RS × dr_AH)} (hd : decode M.code pc = .ok (.bastore, 1)) (hp : dr_p (dr_sz h a j x K) Q) (kk : ∀ h2, dr_p (K h2) Q → dr_W M fr wo (pc + 1) l st h2 Q) : dr_W M fr wo pc l (.int x :: .int j :: .ref a :: st) h Q := by
  unfold dr_sz at hp
  by_cases hj : dr_in h 2 a j ∧ a ≠ 0
  case neg => rw [if_neg hj] at hp; exact (dr_p0 hp).elim
  rw [if_pos hj] at hp
  intro G R s m args below meth c H locs cells slots ls X
  obtain ⟨ha, cell, e1, e2, e3, e4, e5, e6⟩ := X.heap.arr hj.1.1 (by decide)
  exact W.zast X.exec X.bytes e1 (State.isArrayOf_alike X.warm.alike e3.1) e2 (hj.1.ok e4) rfl rfl hd fun H' f1 f2 f3 => kk _ hp G R s m args below meth c H' _ cells slots ls (X.setH rfl rfl (dr_lb hj.2 X.locsE) (X.heap.ast X.bs (by decide) hj.1.1 hj.2 e1 f2 f3 f1 hj.1.nat))
def dr_sr (h : dr_AH) (ci a : Nat) (j : Int32) (x : Nat) (K : dr_AH → Option (dr_RS × dr_AH)) : Option (dr_RS × dr_AH) := if (dr_in h (10 + ci) a j ∧ a ≠ 0) ∧ (h.2.2 x).1 = ci then K (dr_put h a j.toNatClampNeg (.ref x)) else none
theorem wp_aastore {ci x : Nat} {K : dr_AH → Option (dr_RS × dr_AH)} (hci : ci < 90) (hd : decode M.code pc = .ok (.aastore, 1)) (hp : dr_p (dr_sr h ci a j x K) Q) (kk : ∀ h2, dr_p (K h2) Q → dr_W M fr wo (pc + 1) l st h2 Q) : dr_W M fr wo pc l (.ref x :: .int j :: .ref a :: st) h Q := by
  unfold dr_sr at hp
  by_cases hj : (dr_in h (10 + ci) a j ∧ a ≠ 0) ∧ (h.2.2 x).1 = ci
  case neg => rw [if_neg hj] at hp; exact (dr_p0 hp).elim
  rw [if_pos hj] at hp
  have hty : (dr_ty (10 + ci)).isReference = true := by
    unfold dr_ty
    rw [if_neg (by omega), if_neg (by omega), if_neg (by omega), if_neg (by omega), if_neg (by omega)]
    rfl
  intro G R s m args below meth c H locs cells slots ls X
  obtain ⟨ha, cell, e1, e2, e3, e4, e5, e6⟩ := X.heap.arr hj.1.1.1 (by omega)
  obtain ⟨hx, q, q1, q2, cv, g1, g2, g3, g4⟩ := X.heap.obj hj.2 (by omega)
  obtain ⟨kA, k1, k2, q', hq'⟩ := e3.2 (by omega)
  rw [show 10 + ci - 10 = ci by omega] at k2 hq'
  have hal := X.warm.alike
  obtain ⟨kA', k1', ke⟩ := hal.2.2 _ _ k1
  obtain ⟨-, hfc, kC, hkC, -⟩ := X.known q1
  refine W.aast X.exec X.bytes (k := kA') (kv := kC) (kcomp := kC) (comp := G.dC ci) (t := dr_ty (10 + ci)) e1 (fun z => (e3.1.1 z)) e2 k1' (by rw [ke]; exact k2) hty hkC ⟨fun z => hj.1.1.ok e4 (Or.inl z), by rw [e4]; exact hj.1.1.nat⟩ g1 (fun z h => by rw [g3] at h; cases h) (by rw [g2]; exact hkC) ?_ rfl rfl hd fun H' f1 f2 f3 => kk _ hp G R s m args below meth c H' _ cells slots ls (X.setH rfl rfl (dr_lb hj.1.2 X.locsE) (X.heap.ast X.bs (by omega) hj.1.1.1 hj.1.2 e1 f2 f3 f1 hj.1.1.nat))
  rw [g2]
  show s.vm.assignableAux (255 + 1) _ _ = true
  rw [Vm.assignableAux, Bool.or_eq_true, beq_iff_eq]
  exact Or.inl rfl
end DRA
/-! ===== making ===== -/
theorem dr_tr_def (G : dr_Gt) (t : FieldType) : dr_tr G (defaultValue t) = defaultValue t := by cases t <;> rfl
theorem dr_X.push {G : dr_Gt} {M : dr_MI} {fr wo : Nat} {R : Room} {s : State} {m : MethodId} {meth : Method} {c : Code} {H H' : Heap} {locs : List Loc} {cells slots : Nat} {ls : Array Slot} {l : List (Nat × Value)} {h : dr_AH} (X : dr_X G M fr wo R s m meth c H locs cells slots ls l h) {o : dr_AO} (hC : dr_C G (dr_push h o) H') :
    dr_X G M fr wo R s m meth c H' locs (cells + 1) (slots + o.2.1) ls l (dr_push h o) :=
  ⟨X.1, X.2.1, X.room, by have := X.cellsE; simp only [dr_push]; omega, by have := X.slotsE; simp only [dr_push]; omega, X.locsE, hC, X.lsE⟩
section DRN
variable {M : dr_MI} {fr wo pc : Nat} {l : List (Nat × Value)} {st : List Value} {h : dr_AH} {Q : dr_RS → dr_AH → Prop} {ci idx N : Nat} {C : String} {T : u_T} {ty : Nat → FieldType}
def dr_nw (h : dr_AH) (ci N : Nat) (f : Nat → Value) (K : Nat → dr_AH → Option (dr_RS × dr_AH)) : Option (dr_RS × dr_AH) :=
  if h.1 < dr_CC ∧ h.2.1 + N ≤ dr_SC then K (h.1 + 1) (dr_push h (ci, N, f)) else none
theorem wp_new {K : Nat → dr_AH → Option (dr_RS × dr_AH)} (hCl : dr_Cl ci C T N ty) (hlk : dr_T (.classLink M.own idx C)) (hins : dr_T (.instantiable C N)) (hini : dr_T (.initialized C)) (hd : decode M.code pc = .ok (.new idx, 3)) (hp : dr_p (dr_nw h ci N (fun k => defaultValue (ty k)) K) Q)
    (kk : ∀ a h2, dr_p (K a h2) Q → dr_W M fr wo (pc + 3) l (.ref a :: st) h2 Q) : dr_W M fr wo pc l st h Q := by
  unfold dr_nw at hp
  by_cases hr : h.1 < dr_CC ∧ h.2.1 + N ≤ dr_SC
  case neg => rw [if_neg hr] at hp; exact (dr_p0 hp).elim
  rw [if_pos hr] at hp
  intro G R s m args below meth c H locs cells slots ls X
  obtain ⟨hq, hci, hlay, hty, hnm⟩ := hCl
  have hKn := X.known hq
  have h1 := X.cellsE
  have h2 := X.slotsE
  have h3 := X.heap.2.2.2.2.2
  refine W.newcK X.exec X.bytes X.own (X.word hlk) (X.word hins) (X.word hini) rfl hd (by omega) (by omega) hKn.2.1 X.heap.1 fun H' kC hkC e1 e2 e3 => ?_
  have hb := u_born (args := args) ty (ws := u_ws C T N) (fun w hw => X.word (hlay w hw)) (fun w h => h) hKn hkC e1 hty
  have hz := X.heap.1
  refine kk _ _ hp G R s m args below meth c H' locs (cells + 1) (slots + N) ls (X.push (X.heap.push X.bs (by omega) (fun q hq => e3 q (by omega)) ⟨fun _ => ?_, fun h1 => ?_⟩ hr))
  · refine ⟨(C, T, N), hq, rfl, ?_⟩
    refine t_OB.to hb (fun k _ => ?_)
    exact (dr_tr_def G (ty k)).symm
  · exfalso
    have h1 : 100 ≤ ci := h1
    omega
def dr_na (h : dr_AH) (c : Nat) (v : Value) (n : Int32) (K : Nat → dr_AH → Option (dr_RS × dr_AH)) : Option (dr_RS × dr_AH) :=
  if (0 ≤ n.toInt ∧ n.toInt ≤ 100000) ∧ h.1 < dr_CC ∧ h.2.1 + n.toNatClampNeg ≤ dr_SC then K (h.1 + 1) (dr_push h (100 + c, n.toNatClampNeg, fun _ => v)) else none
theorem wp_newarray {c : Nat} {atype : ArrayType} {v : Value} {n : Int32} {K : Nat → dr_AH → Option (dr_RS × dr_AH)} (hc : c < 10) (hty : dr_ty c = newarray.typeOf atype) (hv : defaultValue (newarray.typeOf atype) = v) (hcb : componentBytes (newarray.typeOf atype) ≤ 8) (hw : dr_T (.arrayClass (newarray.typeOf atype))) (hd : decode M.code pc = .ok (.newarray atype, 2)) (hp : dr_p (dr_na h c v n K) Q)
    (kk : ∀ a h2, dr_p (K a h2) Q → dr_W M fr wo (pc + 2) l (.ref a :: st) h2 Q) : dr_W M fr wo pc l (.int n :: st) h Q := by
  unfold dr_na at hp
  by_cases hr : (0 ≤ n.toInt ∧ n.toInt ≤ 100000) ∧ h.1 < dr_CC ∧ h.2.1 + n.toNatClampNeg ≤ dr_SC
  case neg => rw [if_neg hr] at hp; exact (dr_p0 hp).elim
  rw [if_pos hr] at hp
  intro G R s m args below meth cc H locs cells slots ls X
  have h1 := X.cellsE
  have h2 := X.slotsE
  have h3 := X.heap.2.2.2.2.2
  have hz := X.heap.1
  have hn0 : ¬ n < 0 := by
    rw [Int32.lt_iff_toInt_lt]
    have : (0 : Int32).toInt = 0 := rfl
    omega
  have hnn : n.toNatClampNeg = n.toInt.toNat := rfl
  refine W.newaK X.exec X.bytes (X.word hw) rfl hd rfl hn0 rfl ?_ (by omega) (by omega) X.heap.1 fun H' cA e1 e2 e3 hA => ?_
  · have : n.toNatClampNeg * componentBytes (newarray.typeOf atype) ≤ n.toNatClampNeg * 8 := Nat.mul_le_mul_left _ hcb
    omega
  refine kk _ _ hp G R s m args below meth cc H' locs (cells + 1) (slots + n.toNatClampNeg) ls (X.push (X.heap.push X.bs (by omega) (fun q hq => e3 q (by omega)) ⟨fun h1 => ?_, fun h1 h2 => ?_⟩ hr.2))
  · exfalso
    have h1 : 100 + c < 100 := h1
    omega
  · refine ⟨_, e1, (fun z => by cases z), ⟨?_, fun hc10 => ?_⟩, arrV_size _ _ _, ?_, fun j hj => ?_⟩
    · show G.s.isArrayOf _ (dr_ty (100 + c - 100))
      rw [show 100 + c - 100 = c by omega, hty]
      exact State.isArrayOf_alike X.warm.alike.symm (hA _ _)
    · exfalso
      have hc10 : 10 ≤ 100 + c - 100 := hc10
      omega
    · show n.toNatClampNeg < 2 ^ 31
      omega
    · have hj : j < n.toNatClampNeg := hj
      show (arrV cA n.toNatClampNeg _).slots[j]? = some (dr_tr G v)
      rw [← hv, dr_tr_def]
      simp [arrV, hj]
theorem wp_anewarray {n : Int32} {K : Nat → dr_AH → Option (dr_RS × dr_AH)} (hCl : dr_Cl ci C T N ty) (hci : ci < 90) (hlk : dr_T (.classLink M.own idx C)) (hov : dr_T (.arrayOver (.object C))) (hd : decode M.code pc = .ok (.anewarray idx, 3)) (hp : dr_p (dr_na h (10 + ci) .null n K) Q)
    (kk : ∀ a h2, dr_p (K a h2) Q → dr_W M fr wo (pc + 3) l (.ref a :: st) h2 Q) : dr_W M fr wo pc l (.int n :: st) h Q := by
  unfold dr_na at hp
  by_cases hr : (0 ≤ n.toInt ∧ n.toInt ≤ 100000) ∧ h.1 < dr_CC ∧ h.2.1 + n.toNatClampNeg ≤ dr_SC
  case neg => rw [if_neg hr] at hp; exact (dr_p0 hp).elim
  rw [if_pos hr] at hp
  intro G R s m args below meth cc H locs cells slots ls X
  obtain ⟨hq, hci', hlay, hty, hnm⟩ := hCl
  have h1 := X.cellsE
  have h2 := X.slotsE
  have h3 := X.heap.2.2.2.2.2
  have hz := X.heap.1
  have hn0 : ¬ n < 0 := by
    rw [Int32.lt_iff_toInt_lt]
    have : (0 : Int32).toInt = 0 := rfl
    omega
  have hnn : n.toNatClampNeg = n.toInt.toNat := rfl
  have hte : dr_ty (10 + ci) = .object C := by
    unfold dr_ty
    rw [if_neg (by omega), if_neg (by omega), if_neg (by omega), if_neg (by omega), if_neg (by omega), show 10 + ci - 10 = ci by omega]
    unfold dr_nm
    rw [hq]
  refine W.anew X.exec X.bytes X.own (X.word hlk) (X.word hov) rfl hd rfl hn0 (by omega) (by omega) (by omega) fun cA kA comp f1 f2 f3 f4 => ?_
  have hcomp : comp = G.dC ci := Option.some.inj (f4.symm.trans (X.known hq).2.1)
  subst hcomp
  have ead : dr_ad G (h.1 + 1) = H.size := by rw [hz]; rfl
  have hal := X.warm.alike.symm
  obtain ⟨kA', g1, g2⟩ := hal.2.2 _ _ f2
  rw [show (Value.ref H.size) = dr_tr G (.ref (h.1 + 1)) by simp only [dr_tr, ead]]
  refine kk _ _ hp G R s m args below meth cc _ locs (cells + 1) (slots + n.toNatClampNeg) ls (X.push (X.heap.push X.bs (by simp) (fun q hq => by rw [Array.getElem?_push, if_neg (by omega)]) ⟨fun h1 => ?_, fun h1 h2 => ?_⟩ hr.2))
  · exfalso
    have h1 : 100 + (10 + ci) < 100 := h1
    omega
  · refine ⟨{ cls := cA, slots := Array.replicate n.toNatClampNeg .null, vm := .none }, (by rw [ead]; simp), (fun z => by cases z), ⟨?_, fun _ => ?_⟩, (by simp), ?_, fun j hj => ?_⟩
    · show G.s.isArrayOf _ (dr_ty (100 + (10 + ci) - 100))
      rw [show 100 + (10 + ci) - 100 = 10 + ci by omega, hte]
      exact ⟨(fun k h => by cases h), kA', g1, G.dC ci, (by rw [g2]; exact f3)⟩
    · show ∃ kA : Class, G.s.vm.classes[cA]? = some kA ∧ kA.kind = .array (G.dC (100 + (10 + ci) - 100 - 10)) (dr_ty (100 + (10 + ci) - 100)) ∧ ∃ q, vwCl[100 + (10 + ci) - 100 - 10]? = some q
      rw [show 100 + (10 + ci) - 100 = 10 + ci by omega, show 10 + ci - 10 = ci by omega, hte]
      exact ⟨kA', g1, (by rw [g2]; exact f3), _, hq⟩
    · show n.toNatClampNeg < 2 ^ 31
      omega
    · have hj : j < n.toNatClampNeg := hj
      show (Array.replicate n.toNatClampNeg Value.null)[j]? = some (dr_tr G .null)
      simp [hj, dr_tr]
theorem dr_cats (G : dr_Gt) (st : List Value) : ((st.map (dr_tr G)).map fun v => v.category).sum = (st.map fun v => v.category).sum := by
  rw [List.map_map]
  congr 1
  apply List.map_congr_left
  intro v _
  exact dr_tr_cat G v
theorem wp_objInit {a : Nat} (hlk : dr_T (.methodLink M.own idx Lib.objectInit)) (hin : dr_T (.instanceMethod Lib.objectInit)) (hco : dr_T (.code Lib.objectInit ⟨#[0xb1]⟩ 1 none)) (hf : 1 ≤ fr) (hw : (st.map fun v => v.category).sum + 12 ≤ wo) (hd : decode M.code pc = .ok (.invokespecial idx, 3)) (k : dr_W M fr wo (pc + 3) l st h Q) : dr_W M fr wo pc l (.ref a :: st) h Q := by
  intro G R s m args below meth c H locs cells slots ls X
  have hR := X.room
  unfold dr_R at hR
  refine W.objInit X.exec X.bytes X.own (X.word hlk) (X.word hin) (X.word hco) rfl (X.lsE.1.trans X.maxL.symm) (a := dr_ad G a) (rest := st.map (dr_tr G)) rfl hd (by omega) ?_ (k G R s m args below meth c H locs cells slots ls X)
  rw [dr_cats]
  show 2 * 0 + _ + 12 ≤ R.locals
  omega
end DRN
/-! ===== ends ===== -/
section DRE
variable {G : dr_Gt} {M : dr_MI} {fr wo pc : Nat} {R : Room} {s : State} {m : MethodId} {args : Array Value} {below : List Frame} {meth : Method} {c : Code} {H : Heap} {locs : List Loc} {cells slots : Nat} {ls : Array Slot} {l : List (Nat × Value)} {h : dr_AH} {Q : dr_RS → dr_AH → Prop}
theorem dr_fin (X : dr_X G M fr wo R s m meth c H locs cells slots ls l h) {v : Option Value} (hq : dr_p (some (.inl v, h)) Q) (t : State) (ht : MQ below (fun _ _ o t => o = .returned (v.map (dr_tr G)) ∧ t.heap = H) args s cells slots (fun q => G.s.heap.size ≤ q) t) : dr_E G R s below Q t := by
  obtain ⟨o, h1, h2, ⟨h3, h4⟩, L, ⟨h5, h6, h7⟩, h8⟩ := ht
  obtain ⟨r, e, hQ⟩ := hq
  cases e
  exact ⟨o, .inl v, h, L, cells, slots, h1, h2, h6, h7, h8, X.cellsE, X.slotsE, by rw [h4]; exact X.heap, h3, hQ⟩
theorem dr_mono {p : Program} {lc : Launch} {e : Env} {Q1 Q2 : State → Prop} {g : JFrame} (hq : ∀ t, Q1 t → Q2 t) (k : W p lc e R s m args below meth c H locs cells slots Q1 g) : W p lc e R s m args below meth c H locs cells slots Q2 g := fun T hT X => by
  obtain ⟨t, a, b⟩ := k T hT X
  exact ⟨t, a, hq t b⟩
end DRE
section DRF
variable {M : dr_MI} {fr wo pc : Nat} {l : List (Nat × Value)} {st : List Value} {h : dr_AH} {Q : dr_RS → dr_AH → Prop}
theorem wp_ireturn {x : Int32} {ty : FieldType} (hr : M.ret = some ty) (hn : narrow ty (.int x) = .int x) (hd : decode M.code pc = .ok (.ireturn, 1)) (hp : dr_p (some (.inl (some (.int x)), h)) Q) : dr_W M fr wo pc l [.int x] h Q := fun G R s m args below meth c H locs cells slots ls X =>
  dr_mono (dr_fin X hp) (W.zret X.exec X.bytes (X.rets.trans hr) hn (fun t ht _ => ⟨rfl, ht⟩) X.locsE hd X.locks)
def dr_rz (x : Int32) (h : dr_AH) : Option (dr_RS × dr_AH) := if x &&& 1 = x then some (.inl (some (.int x)), h) else none
theorem wp_zreturn {x : Int32} (hr : M.ret = some .boolean) (hd : decode M.code pc = .ok (.ireturn, 1)) (hp : dr_p (dr_rz x h) Q) : dr_W M fr wo pc l [.int x] h Q := by
  unfold dr_rz at hp
  by_cases hx : x &&& 1 = x
  · rw [if_pos hx] at hp
    exact wp_ireturn hr (by show Value.int (x &&& 1) = .int x; rw [hx]) hd hp
  · rw [if_neg hx] at hp; exact (dr_p0 hp).elim
theorem wp_lreturn {x : Int64} (hr : M.ret = some .long) (hd : decode M.code pc = .ok (.lreturn, 1)) (hp : dr_p (some (.inl (some (.long x)), h)) Q) : dr_W M fr wo pc l [.long x] h Q := fun G R s m args below meth c H locs cells slots ls X =>
  dr_mono (dr_fin X hp) (W.lret X.exec X.bytes (X.rets.trans hr) (fun t ht _ => ⟨rfl, ht⟩) X.locsE hd X.locks)
theorem wp_return (hr : M.ret = none) (hd : decode M.code pc = .ok (.return_, 1)) (hp : dr_p (some (.inl none, h)) Q) : dr_W M fr wo pc l [] h Q := fun G R s m args below meth c H locs cells slots ls X =>
  dr_mono (dr_fin X hp) (W.vret X.exec X.bytes (X.rets.trans hr) (fun t ht _ => ⟨rfl, ht⟩) X.locsE hd X.locks)
theorem wp_areturn {a : Nat} {rt : FieldType} (hr : M.ret = some rt) (hrt : (∃ n, rt = .object n) ∨ ∃ t, rt = .array t) (hd : decode M.code pc = .ok (.areturn, 1)) (hp : dr_p (some (.inl (some (.ref a)), h)) Q) : dr_W M fr wo pc l [.ref a] h Q := fun G R s m args below meth c H locs cells slots ls X =>
  dr_mono (dr_fin X hp) (W.aret X.exec X.bytes (X.rets.trans hr) hrt (Or.inr ⟨_, rfl⟩) (fun t ht _ => ⟨rfl, ht⟩) X.locsE hd X.locks)
theorem wp_areturnN {rt : FieldType} (hr : M.ret = some rt) (hrt : (∃ n, rt = .object n) ∨ ∃ t, rt = .array t) (hd : decode M.code pc = .ok (.areturn, 1)) (hp : dr_p (some (.inl (some .null), h)) Q) : dr_W M fr wo pc l [.null] h Q := fun G R s m args below meth c H locs cells slots ls X =>
  dr_mono (dr_fin X hp) (W.aret X.exec X.bytes (X.rets.trans hr) hrt (Or.inl rfl) (fun t ht _ => ⟨rfl, ht⟩) X.locsE hd X.locks)
end DRF
