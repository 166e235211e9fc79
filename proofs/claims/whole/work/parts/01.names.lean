/-- a private method of a class that the tables say can be made, by its rows of tables_1 -/
def lw_okq (q : MethodName × Nat) : Prop := (q.1.cls ≠ "java/lang/invoke/MethodHandle" ∧ q.1.cls ≠ "java/lang/invoke/VarHandle") ∧ Cond.instantiable q.1.cls q.2 ∈ tables_1 ∧ Cond.privateMethod q.1 ∈ tables_1 ∧ Cond.instanceMethod q.1 ∈ tables_1
theorem lw_p0 : lw_okq (⟨"java/lang/Throwable", "fillInStackTrace", "(I)Ljava/lang/Throwable;"⟩, 6) := ⟨⟨by decide +kernel, by decide +kernel⟩, List.mem_of_getElem? (i := 196) (by decide +kernel), List.mem_of_getElem? (i := 194) (by decide +kernel), List.mem_of_getElem? (i := 195) (by decide +kernel)⟩
theorem lw_p1 : lw_okq (⟨"DrillRows$Tape", "skipBlanks", "()V"⟩, 4) := ⟨⟨by decide +kernel, by decide +kernel⟩, List.mem_of_getElem? (i := 25) (by decide +kernel), List.mem_of_getElem? (i := 267) (by decide +kernel), List.mem_of_getElem? (i := 268) (by decide +kernel)⟩
theorem lw_p2 : lw_okq (⟨"DrillRows$Tape", "nextByte", "()I"⟩, 4) := ⟨⟨by decide +kernel, by decide +kernel⟩, List.mem_of_getElem? (i := 25) (by decide +kernel), List.mem_of_getElem? (i := 271) (by decide +kernel), List.mem_of_getElem? (i := 272) (by decide +kernel)⟩
theorem lw_p3 : lw_okq (⟨"DrillRows$Tape", "parseRow", "(LDrillRows$Script;)V"⟩, 4) := ⟨⟨by decide +kernel, by decide +kernel⟩, List.mem_of_getElem? (i := 25) (by decide +kernel), List.mem_of_getElem? (i := 275) (by decide +kernel), List.mem_of_getElem? (i := 276) (by decide +kernel)⟩
theorem lw_p4 : lw_okq (⟨"DrillRows$Tape", "accept", "(C)Z"⟩, 4) := ⟨⟨by decide +kernel, by decide +kernel⟩, List.mem_of_getElem? (i := 25) (by decide +kernel), List.mem_of_getElem? (i := 279) (by decide +kernel), List.mem_of_getElem? (i := 280) (by decide +kernel)⟩
theorem lw_p5 : lw_okq (⟨"DrillRows$Tape", "parseEvent", "(LDrillRows$Script;)V"⟩, 4) := ⟨⟨by decide +kernel, by decide +kernel⟩, List.mem_of_getElem? (i := 25) (by decide +kernel), List.mem_of_getElem? (i := 283) (by decide +kernel), List.mem_of_getElem? (i := 284) (by decide +kernel)⟩
theorem lw_p6 : lw_okq (⟨"DrillRows$Tape", "parseNumber", "(II)I"⟩, 4) := ⟨⟨by decide +kernel, by decide +kernel⟩, List.mem_of_getElem? (i := 25) (by decide +kernel), List.mem_of_getElem? (i := 287) (by decide +kernel), List.mem_of_getElem? (i := 288) (by decide +kernel)⟩
theorem lw_p7 : lw_okq (⟨"DrillRows$Tape", "fail", "(I)V"⟩, 4) := ⟨⟨by decide +kernel, by decide +kernel⟩, List.mem_of_getElem? (i := 25) (by decide +kernel), List.mem_of_getElem? (i := 294) (by decide +kernel), List.mem_of_getElem? (i := 295) (by decide +kernel)⟩
theorem lw_p8 : lw_okq (⟨"DrillRows$Tape", "expect", "(C)V"⟩, 4) := ⟨⟨by decide +kernel, by decide +kernel⟩, List.mem_of_getElem? (i := 25) (by decide +kernel), List.mem_of_getElem? (i := 302) (by decide +kernel), List.mem_of_getElem? (i := 303) (by decide +kernel)⟩
theorem lw_p9 : lw_okq (⟨"DrillRows$Tape", "parseAim", "(LDrillRows$Script;)V"⟩, 4) := ⟨⟨by decide +kernel, by decide +kernel⟩, List.mem_of_getElem? (i := 25) (by decide +kernel), List.mem_of_getElem? (i := 314) (by decide +kernel), List.mem_of_getElem? (i := 315) (by decide +kernel)⟩
theorem lw_p10 : lw_okq (⟨"DrillRows$Drill", "dueSecond", "(I)I"⟩, 9) := ⟨⟨by decide +kernel, by decide +kernel⟩, List.mem_of_getElem? (i := 350) (by decide +kernel), List.mem_of_getElem? (i := 399) (by decide +kernel), List.mem_of_getElem? (i := 400) (by decide +kernel)⟩
theorem lw_p11 : lw_okq (⟨"DrillRows$Drill", "firstSecondOf", "(I)I"⟩, 9) := ⟨⟨by decide +kernel, by decide +kernel⟩, List.mem_of_getElem? (i := 350) (by decide +kernel), List.mem_of_getElem? (i := 403) (by decide +kernel), List.mem_of_getElem? (i := 404) (by decide +kernel)⟩
theorem lw_p12 : lw_okq (⟨"DrillRows", "knownDrill", "(I)LDrillRows$Drill;"⟩, 10) := ⟨⟨by decide +kernel, by decide +kernel⟩, List.mem_of_getElem? (i := 17) (by decide +kernel), List.mem_of_getElem? (i := 418) (by decide +kernel), List.mem_of_getElem? (i := 419) (by decide +kernel)⟩
theorem lw_p13 : lw_okq (⟨"DrillRows$Drill", "maySee", "(II)Z"⟩, 9) := ⟨⟨by decide +kernel, by decide +kernel⟩, List.mem_of_getElem? (i := 350) (by decide +kernel), List.mem_of_getElem? (i := 508) (by decide +kernel), List.mem_of_getElem? (i := 509) (by decide +kernel)⟩
theorem lw_p14 : lw_okq (⟨"DrillRows$Drill", "hasActWithin", "(III)Z"⟩, 9) := ⟨⟨by decide +kernel, by decide +kernel⟩, List.mem_of_getElem? (i := 350) (by decide +kernel), List.mem_of_getElem? (i := 539) (by decide +kernel), List.mem_of_getElem? (i := 540) (by decide +kernel)⟩
theorem lw_p15 : lw_okq (⟨"DrillRows", "countUnits", "(I)I"⟩, 10) := ⟨⟨by decide +kernel, by decide +kernel⟩, List.mem_of_getElem? (i := 17) (by decide +kernel), List.mem_of_getElem? (i := 620) (by decide +kernel), List.mem_of_getElem? (i := 621) (by decide +kernel)⟩
def lw_privs_1 : List (MethodName × Nat) := [(⟨"java/lang/Throwable", "fillInStackTrace", "(I)Ljava/lang/Throwable;"⟩, 6), (⟨"DrillRows$Tape", "skipBlanks", "()V"⟩, 4), (⟨"DrillRows$Tape", "nextByte", "()I"⟩, 4), (⟨"DrillRows$Tape", "parseRow", "(LDrillRows$Script;)V"⟩, 4), (⟨"DrillRows$Tape", "accept", "(C)Z"⟩, 4), (⟨"DrillRows$Tape", "parseEvent", "(LDrillRows$Script;)V"⟩, 4), (⟨"DrillRows$Tape", "parseNumber", "(II)I"⟩, 4), (⟨"DrillRows$Tape", "fail", "(I)V"⟩, 4), (⟨"DrillRows$Tape", "expect", "(C)V"⟩, 4), (⟨"DrillRows$Tape", "parseAim", "(LDrillRows$Script;)V"⟩, 4), (⟨"DrillRows$Drill", "dueSecond", "(I)I"⟩, 9), (⟨"DrillRows$Drill", "firstSecondOf", "(I)I"⟩, 9), (⟨"DrillRows", "knownDrill", "(I)LDrillRows$Drill;"⟩, 10), (⟨"DrillRows$Drill", "maySee", "(II)Z"⟩, 9), (⟨"DrillRows$Drill", "hasActWithin", "(III)Z"⟩, 9), (⟨"DrillRows", "countUnits", "(I)I"⟩, 10)]
theorem lw_r1 : ∀ q ∈ lw_privs_1, lw_okq q := List.forall_mem_cons.mpr ⟨lw_p0, List.forall_mem_cons.mpr ⟨lw_p1, List.forall_mem_cons.mpr ⟨lw_p2, List.forall_mem_cons.mpr ⟨lw_p3, List.forall_mem_cons.mpr ⟨lw_p4, List.forall_mem_cons.mpr ⟨lw_p5, List.forall_mem_cons.mpr ⟨lw_p6, List.forall_mem_cons.mpr ⟨lw_p7, List.forall_mem_cons.mpr ⟨lw_p8, List.forall_mem_cons.mpr ⟨lw_p9, List.forall_mem_cons.mpr ⟨lw_p10, List.forall_mem_cons.mpr ⟨lw_p11, List.forall_mem_cons.mpr ⟨lw_p12, List.forall_mem_cons.mpr ⟨lw_p13, List.forall_mem_cons.mpr ⟨lw_p14, List.forall_mem_cons.mpr ⟨lw_p15, fun _ h => absurd h List.not_mem_nil⟩⟩⟩⟩⟩⟩⟩⟩⟩⟩⟩⟩⟩⟩⟩⟩
theorem lw_p16 : lw_okq (⟨"DrillRowsModel", "goes", "(ZZZ)Z"⟩, 32) := ⟨⟨by decide +kernel, by decide +kernel⟩, List.mem_of_getElem? (i := 624) (by decide +kernel), List.mem_of_getElem? (i := 738) (by decide +kernel), List.mem_of_getElem? (i := 739) (by decide +kernel)⟩
theorem lw_p17 : lw_okq (⟨"DrillRowsModel", "see", "()I"⟩, 32) := ⟨⟨by decide +kernel, by decide +kernel⟩, List.mem_of_getElem? (i := 624) (by decide +kernel), List.mem_of_getElem? (i := 746) (by decide +kernel), List.mem_of_getElem? (i := 747) (by decide +kernel)⟩
theorem lw_p18 : lw_okq (⟨"DrillRowsModel", "here", "()I"⟩, 32) := ⟨⟨by decide +kernel, by decide +kernel⟩, List.mem_of_getElem? (i := 624) (by decide +kernel), List.mem_of_getElem? (i := 750) (by decide +kernel), List.mem_of_getElem? (i := 751) (by decide +kernel)⟩
theorem lw_p19 : lw_okq (⟨"DrillRowsModel", "takes", "(I)Z"⟩, 32) := ⟨⟨by decide +kernel, by decide +kernel⟩, List.mem_of_getElem? (i := 624) (by decide +kernel), List.mem_of_getElem? (i := 754) (by decide +kernel), List.mem_of_getElem? (i := 755) (by decide +kernel)⟩
theorem lw_p20 : lw_okq (⟨"DrillRowsModel", "eventRow", "()V"⟩, 32) := ⟨⟨by decide +kernel, by decide +kernel⟩, List.mem_of_getElem? (i := 624) (by decide +kernel), List.mem_of_getElem? (i := 758) (by decide +kernel), List.mem_of_getElem? (i := 759) (by decide +kernel)⟩
theorem lw_p21 : lw_okq (⟨"DrillRowsModel", "number", "(II)I"⟩, 32) := ⟨⟨by decide +kernel, by decide +kernel⟩, List.mem_of_getElem? (i := 624) (by decide +kernel), List.mem_of_getElem? (i := 762) (by decide +kernel), List.mem_of_getElem? (i := 763) (by decide +kernel)⟩
theorem lw_p22 : lw_okq (⟨"DrillRowsModel", "isDigit", "()Z"⟩, 32) := ⟨⟨by decide +kernel, by decide +kernel⟩, List.mem_of_getElem? (i := 624) (by decide +kernel), List.mem_of_getElem? (i := 766) (by decide +kernel), List.mem_of_getElem? (i := 767) (by decide +kernel)⟩
theorem lw_p23 : lw_okq (⟨"DrillRowsModel", "fail", "(I)V"⟩, 32) := ⟨⟨by decide +kernel, by decide +kernel⟩, List.mem_of_getElem? (i := 624) (by decide +kernel), List.mem_of_getElem? (i := 770) (by decide +kernel), List.mem_of_getElem? (i := 771) (by decide +kernel)⟩
theorem lw_p24 : lw_okq (⟨"DrillRowsModel", "take", "(I)V"⟩, 32) := ⟨⟨by decide +kernel, by decide +kernel⟩, List.mem_of_getElem? (i := 624) (by decide +kernel), List.mem_of_getElem? (i := 774) (by decide +kernel), List.mem_of_getElem? (i := 775) (by decide +kernel)⟩
theorem lw_p25 : lw_okq (⟨"DrillRowsModel", "aimRow", "()V"⟩, 32) := ⟨⟨by decide +kernel, by decide +kernel⟩, List.mem_of_getElem? (i := 624) (by decide +kernel), List.mem_of_getElem? (i := 778) (by decide +kernel), List.mem_of_getElem? (i := 779) (by decide +kernel)⟩
theorem lw_p26 : lw_okq (⟨"DrillRowsModel", "copy", "(II)V"⟩, 32) := ⟨⟨by decide +kernel, by decide +kernel⟩, List.mem_of_getElem? (i := 624) (by decide +kernel), List.mem_of_getElem? (i := 782) (by decide +kernel), List.mem_of_getElem? (i := 783) (by decide +kernel)⟩
theorem lw_p27 : lw_okq (⟨"DrillRowsModel", "size", "(I)I"⟩, 32) := ⟨⟨by decide +kernel, by decide +kernel⟩, List.mem_of_getElem? (i := 624) (by decide +kernel), List.mem_of_getElem? (i := 786) (by decide +kernel), List.mem_of_getElem? (i := 787) (by decide +kernel)⟩
theorem lw_p28 : lw_okq (⟨"DrillRowsModel", "look", "(I)I"⟩, 32) := ⟨⟨by decide +kernel, by decide +kernel⟩, List.mem_of_getElem? (i := 624) (by decide +kernel), List.mem_of_getElem? (i := 798) (by decide +kernel), List.mem_of_getElem? (i := 799) (by decide +kernel)⟩
theorem lw_p29 : lw_okq (⟨"DrillRowsModel", "isDue", "(II)Z"⟩, 32) := ⟨⟨by decide +kernel, by decide +kernel⟩, List.mem_of_getElem? (i := 624) (by decide +kernel), List.mem_of_getElem? (i := 802) (by decide +kernel), List.mem_of_getElem? (i := 803) (by decide +kernel)⟩
theorem lw_p30 : lw_okq (⟨"DrillRowsModel", "relative", "(I)I"⟩, 32) := ⟨⟨by decide +kernel, by decide +kernel⟩, List.mem_of_getElem? (i := 624) (by decide +kernel), List.mem_of_getElem? (i := 806) (by decide +kernel), List.mem_of_getElem? (i := 807) (by decide +kernel)⟩
theorem lw_p31 : lw_okq (⟨"DrillRowsModel", "first", "(III)I"⟩, 32) := ⟨⟨by decide +kernel, by decide +kernel⟩, List.mem_of_getElem? (i := 624) (by decide +kernel), List.mem_of_getElem? (i := 810) (by decide +kernel), List.mem_of_getElem? (i := 811) (by decide +kernel)⟩
def lw_privs_2 : List (MethodName × Nat) := [(⟨"DrillRowsModel", "goes", "(ZZZ)Z"⟩, 32), (⟨"DrillRowsModel", "see", "()I"⟩, 32), (⟨"DrillRowsModel", "here", "()I"⟩, 32), (⟨"DrillRowsModel", "takes", "(I)Z"⟩, 32), (⟨"DrillRowsModel", "eventRow", "()V"⟩, 32), (⟨"DrillRowsModel", "number", "(II)I"⟩, 32), (⟨"DrillRowsModel", "isDigit", "()Z"⟩, 32), (⟨"DrillRowsModel", "fail", "(I)V"⟩, 32), (⟨"DrillRowsModel", "take", "(I)V"⟩, 32), (⟨"DrillRowsModel", "aimRow", "()V"⟩, 32), (⟨"DrillRowsModel", "copy", "(II)V"⟩, 32), (⟨"DrillRowsModel", "size", "(I)I"⟩, 32), (⟨"DrillRowsModel", "look", "(I)I"⟩, 32), (⟨"DrillRowsModel", "isDue", "(II)Z"⟩, 32), (⟨"DrillRowsModel", "relative", "(I)I"⟩, 32), (⟨"DrillRowsModel", "first", "(III)I"⟩, 32)]
theorem lw_r2 : ∀ q ∈ lw_privs_2, lw_okq q := List.forall_mem_cons.mpr ⟨lw_p16, List.forall_mem_cons.mpr ⟨lw_p17, List.forall_mem_cons.mpr ⟨lw_p18, List.forall_mem_cons.mpr ⟨lw_p19, List.forall_mem_cons.mpr ⟨lw_p20, List.forall_mem_cons.mpr ⟨lw_p21, List.forall_mem_cons.mpr ⟨lw_p22, List.forall_mem_cons.mpr ⟨lw_p23, List.forall_mem_cons.mpr ⟨lw_p24, List.forall_mem_cons.mpr ⟨lw_p25, List.forall_mem_cons.mpr ⟨lw_p26, List.forall_mem_cons.mpr ⟨lw_p27, List.forall_mem_cons.mpr ⟨lw_p28, List.forall_mem_cons.mpr ⟨lw_p29, List.forall_mem_cons.mpr ⟨lw_p30, List.forall_mem_cons.mpr ⟨lw_p31, fun _ h => absurd h List.not_mem_nil⟩⟩⟩⟩⟩⟩⟩⟩⟩⟩⟩⟩⟩⟩⟩⟩
theorem lw_p32 : lw_okq (⟨"DrillRowsModel", "isDrill", "(I)Z"⟩, 32) := ⟨⟨by decide +kernel, by decide +kernel⟩, List.mem_of_getElem? (i := 624) (by decide +kernel), List.mem_of_getElem? (i := 818) (by decide +kernel), List.mem_of_getElem? (i := 819) (by decide +kernel)⟩
theorem lw_p33 : lw_okq (⟨"DrillRowsModel", "does", "(II)I"⟩, 32) := ⟨⟨by decide +kernel, by decide +kernel⟩, List.mem_of_getElem? (i := 624) (by decide +kernel), List.mem_of_getElem? (i := 834) (by decide +kernel), List.mem_of_getElem? (i := 835) (by decide +kernel)⟩
theorem lw_p34 : lw_okq (⟨"DrillRowsModel", "is", "(II)I"⟩, 32) := ⟨⟨by decide +kernel, by decide +kernel⟩, List.mem_of_getElem? (i := 624) (by decide +kernel), List.mem_of_getElem? (i := 864) (by decide +kernel), List.mem_of_getElem? (i := 865) (by decide +kernel)⟩
def lw_privs_3 : List (MethodName × Nat) := [(⟨"DrillRowsModel", "isDrill", "(I)Z"⟩, 32), (⟨"DrillRowsModel", "does", "(II)I"⟩, 32), (⟨"DrillRowsModel", "is", "(II)I"⟩, 32)]
theorem lw_r3 : ∀ q ∈ lw_privs_3, lw_okq q := List.forall_mem_cons.mpr ⟨lw_p32, List.forall_mem_cons.mpr ⟨lw_p33, List.forall_mem_cons.mpr ⟨lw_p34, fun _ h => absurd h List.not_mem_nil⟩⟩⟩
def lw_privs : List (MethodName × Nat) := lw_privs_1 ++ (lw_privs_2 ++ (lw_privs_3))
def lw_tbl : List Cond := k2_sels lw_privs ++ tables_1
theorem lw_privs_ok : ∀ q ∈ lw_privs, lw_okq q := by
  show ∀ q ∈ lw_privs_1 ++ (lw_privs_2 ++ (lw_privs_3)), lw_okq q
  exact List.forall_mem_append.mpr ⟨lw_r1, List.forall_mem_append.mpr ⟨lw_r2, lw_r3⟩⟩
/-! ===== names: by program (wip/whole/gen/names.py) out of javap's listing and the Statement's tables ===== -/
def nT_D : u_T := fun k => match k with
  | 0 => ("DrillRows$Drill", "script", "LDrillRows$Script;", true)
  | 1 => ("DrillRows$Drill", "beganAt", "I", true)
  | 2 => ("DrillRows$Drill", "on", "Z", false)
  | 3 => ("DrillRows$Drill", "eventBegin", "[I", true)
  | 4 => ("DrillRows$Drill", "begunCount", "I", false)
  | 5 => ("DrillRows$Drill", "firstAct", "[I", true)
  | 6 => ("DrillRows$Drill", "actKind", "[I", true)
  | 7 => ("DrillRows$Drill", "actSecond", "[I", true)
  | _ => ("DrillRows$Drill", "actCount", "I", false)
def nt_D : Nat → FieldType := fun k => match k with
  | 0 => .object "DrillRows$Script"
  | 1 => .int
  | 2 => .boolean
  | 3 => .array (.int)
  | 4 => .int
  | 5 => .array (.int)
  | 6 => .array (.int)
  | 7 => .array (.int)
  | _ => .int
theorem nn_D : ∀ a, a < 9 → ∀ b, b < 9 → a ≠ b → (nT_D a).2.1 ≠ (nT_D b).2.1 := by decide +kernel
theorem nd_D : ∀ k, k < 9 → parseFieldDescriptor (nT_D k).2.2.1 = some (nt_D k) := by decide +kernel
theorem nw_D : ∀ w ∈ u_ws "DrillRows$Drill" nT_D 9, w ∈ lw_tbl := by decide +kernel
def nT_S : u_T := fun k => match k with
  | 0 => ("DrillRows$Script", "eventTold", "[Z", true)
  | 1 => ("DrillRows$Script", "eventAct", "[I", true)
  | 2 => ("DrillRows$Script", "eventDelay", "[I", true)
  | 3 => ("DrillRows$Script", "eventLatest", "[I", true)
  | 4 => ("DrillRows$Script", "eventPart", "[I", true)
  | 5 => ("DrillRows$Script", "eventSecret", "[Z", true)
  | 6 => ("DrillRows$Script", "eventFault", "[I", true)
  | 7 => ("DrillRows$Script", "eventCount", "I", false)
  | 8 => ("DrillRows$Script", "aimEvent", "[I", true)
  | 9 => ("DrillRows$Script", "aimAct", "[I", true)
  | 10 => ("DrillRows$Script", "aimSeconds", "[I", true)
  | 11 => ("DrillRows$Script", "aimWeight", "[I", true)
  | _ => ("DrillRows$Script", "played", "Z", false)
def nt_S : Nat → FieldType := fun k => match k with
  | 0 => .array (.boolean)
  | 1 => .array (.int)
  | 2 => .array (.int)
  | 3 => .array (.int)
  | 4 => .array (.int)
  | 5 => .array (.boolean)
  | 6 => .array (.int)
  | 7 => .int
  | 8 => .array (.int)
  | 9 => .array (.int)
  | 10 => .array (.int)
  | 11 => .array (.int)
  | _ => .boolean
theorem nn_S : ∀ a, a < 13 → ∀ b, b < 13 → a ≠ b → (nT_S a).2.1 ≠ (nT_S b).2.1 := by decide +kernel
theorem nd_S : ∀ k, k < 13 → parseFieldDescriptor (nT_S k).2.2.1 = some (nt_S k) := by decide +kernel
theorem nw_S : ∀ w ∈ u_ws "DrillRows$Script" nT_S 13, w ∈ lw_tbl := by decide +kernel
def nT_T : u_T := fun k => match k with
  | 0 => ("DrillRows$Tape", "bytes", "[I", true)
  | 1 => ("DrillRows$Tape", "length", "I", false)
  | 2 => ("DrillRows$Tape", "at", "I", false)
  | _ => ("DrillRows$Tape", "wrongAt", "I", false)
def nt_T : Nat → FieldType := fun k => match k with
  | 0 => .array (.int)
  | 1 => .int
  | 2 => .int
  | _ => .int
theorem nn_T : ∀ a, a < 4 → ∀ b, b < 4 → a ≠ b → (nT_T a).2.1 ≠ (nT_T b).2.1 := by decide +kernel
theorem nd_T : ∀ k, k < 4 → parseFieldDescriptor (nT_T k).2.2.1 = some (nt_T k) := by decide +kernel
theorem nw_T : ∀ w ∈ u_ws "DrillRows$Tape" nT_T 4, w ∈ lw_tbl := by decide +kernel
def nT_R : u_T := fun k => match k with
  | 0 => ("DrillRows", "tape", "LDrillRows$Tape;", true)
  | 1 => ("DrillRows", "script", "LDrillRows$Script;", false)
  | 2 => ("DrillRows", "spare", "LDrillRows$Script;", false)
  | 3 => ("DrillRows", "wrongPlace", "I", false)
  | 4 => ("DrillRows", "now", "I", false)
  | 5 => ("DrillRows", "drills", "[LDrillRows$Drill;", true)
  | 6 => ("DrillRows", "drillCount", "I", false)
  | 7 => ("DrillRows", "drillOfUnit", "[I", true)
  | 8 => ("DrillRows", "rowCells", "[I", true)
  | _ => ("DrillRows", "rowCount", "I", false)
def nt_R : Nat → FieldType := fun k => match k with
  | 0 => .object "DrillRows$Tape"
  | 1 => .object "DrillRows$Script"
  | 2 => .object "DrillRows$Script"
  | 3 => .int
  | 4 => .int
  | 5 => .array (.object "DrillRows$Drill")
  | 6 => .int
  | 7 => .array (.int)
  | 8 => .array (.int)
  | _ => .int
theorem nn_R : ∀ a, a < 10 → ∀ b, b < 10 → a ≠ b → (nT_R a).2.1 ≠ (nT_R b).2.1 := by decide +kernel
theorem nd_R : ∀ k, k < 10 → parseFieldDescriptor (nT_R k).2.2.1 = some (nt_R k) := by decide +kernel
theorem nw_R : ∀ w ∈ u_ws "DrillRows" nT_R 10, w ∈ lw_tbl := by decide +kernel
def nT_M : u_T := fun k => match k with
  | 0 => ("DrillRowsModel", "thrown", "I", false)
  | 1 => ("DrillRowsModel", "now", "I", false)
  | 2 => ("DrillRowsModel", "taped", "I", false)
  | 3 => ("DrillRowsModel", "tape", "[I", true)
  | 4 => ("DrillRowsModel", "place", "I", false)
  | 5 => ("DrillRowsModel", "at", "I", false)
  | 6 => ("DrillRowsModel", "wrong", "I", false)
  | 7 => ("DrillRowsModel", "isEvent", "[Z", true)
  | 8 => ("DrillRowsModel", "second", "[I", true)
  | 9 => ("DrillRowsModel", "act", "[I", true)
  | 10 => ("DrillRowsModel", "delay", "[I", true)
  | 11 => ("DrillRowsModel", "part", "[I", true)
  | 12 => ("DrillRowsModel", "secret", "[Z", true)
  | 13 => ("DrillRowsModel", "fault", "[I", true)
  | 14 => ("DrillRowsModel", "isAim", "[Z", true)
  | 15 => ("DrillRowsModel", "aimEvent", "[I", true)
  | 16 => ("DrillRowsModel", "aimAct", "[I", true)
  | 17 => ("DrillRowsModel", "aimWithin", "[I", true)
  | 18 => ("DrillRowsModel", "weight", "[I", true)
  | 19 => ("DrillRowsModel", "drills", "I", false)
  | 20 => ("DrillRowsModel", "begun", "[I", true)
  | 21 => ("DrillRowsModel", "stopped", "[Z", true)
  | 22 => ("DrillRowsModel", "begins", "[I", true)
  | 23 => ("DrillRowsModel", "acts", "[I", true)
  | 24 => ("DrillRowsModel", "did", "[I", true)
  | 25 => ("DrillRowsModel", "didAt", "[I", true)
  | 26 => ("DrillRowsModel", "unitOf", "[I", true)
  | 27 => ("DrillRowsModel", "rows", "I", false)
  | 28 => ("DrillRowsModel", "rowDrill", "[I", true)
  | 29 => ("DrillRowsModel", "rowSecond", "[I", true)
  | 30 => ("DrillRowsModel", "rowMark", "[I", true)
  | _ => ("DrillRowsModel", "rowLate", "[Z", true)
def nt_M : Nat → FieldType := fun k => match k with
  | 0 => .int
  | 1 => .int
  | 2 => .int
  | 3 => .array (.int)
  | 4 => .int
  | 5 => .int
  | 6 => .int
  | 7 => .array (.boolean)
  | 8 => .array (.int)
  | 9 => .array (.int)
  | 10 => .array (.int)
  | 11 => .array (.int)
  | 12 => .array (.boolean)
  | 13 => .array (.int)
  | 14 => .array (.boolean)
  | 15 => .array (.int)
  | 16 => .array (.int)
  | 17 => .array (.int)
  | 18 => .array (.int)
  | 19 => .int
  | 20 => .array (.int)
  | 21 => .array (.boolean)
  | 22 => .array (.int)
  | 23 => .array (.int)
  | 24 => .array (.int)
  | 25 => .array (.int)
  | 26 => .array (.int)
  | 27 => .int
  | 28 => .array (.int)
  | 29 => .array (.int)
  | 30 => .array (.int)
  | _ => .array (.boolean)
theorem nn_M : ∀ a, a < 32 → ∀ b, b < 32 → a ≠ b → (nT_M a).2.1 ≠ (nT_M b).2.1 := by decide +kernel
theorem nd_M : ∀ k, k < 32 → parseFieldDescriptor (nT_M k).2.2.1 = some (nt_M k) := by decide +kernel
theorem nw_M : ∀ w ∈ u_ws "DrillRowsModel" nT_M 32, w ∈ lw_tbl := by decide +kernel
abbrev vwCl : List vw_C := [("DrillRows$Drill", nT_D, 9), ("DrillRows$Script", nT_S, 13), ("DrillRows$Tape", nT_T, 4), ("DrillRows", nT_R, 10), ("DrillRowsModel", nT_M, 32)]
abbrev ny_R_init : MethodName := ⟨"DrillRows", "<init>", "()V"⟩
abbrev ny_R_sign : MethodName := ⟨"DrillRows", "sign", "(JI)I"⟩
abbrev ny_R_read : MethodName := ⟨"DrillRows", "read", "()I"⟩
abbrev ny_R_place : MethodName := ⟨"DrillRows", "place", "()I"⟩
abbrev ny_R_begin : MethodName := ⟨"DrillRows", "begin", "()I"⟩
abbrev ny_R_stop : MethodName := ⟨"DrillRows", "stop", "(I)V"⟩
abbrev ny_R_unit : MethodName := ⟨"DrillRows", "unit", "(II)V"⟩
abbrev ny_R_real : MethodName := ⟨"DrillRows", "real", "(I)I"⟩
abbrev ny_R_act : MethodName := ⟨"DrillRows", "act", "(II)I"⟩
abbrev ny_R_tick : MethodName := ⟨"DrillRows", "tick", "(I)I"⟩
abbrev ny_R_event : MethodName := ⟨"DrillRows", "event", "(III)I"⟩
abbrev ny_R_seen : MethodName := ⟨"DrillRows", "seen", "(III)I"⟩
abbrev ny_R_fault : MethodName := ⟨"DrillRows", "fault", "(II)Z"⟩
abbrev ny_R_aim : MethodName := ⟨"DrillRows", "aim", "(II)I"⟩
abbrev ny_R_score : MethodName := ⟨"DrillRows", "score", "(II)I"⟩
abbrev ny_R_compare : MethodName := ⟨"DrillRows", "compare", "(II)I"⟩
abbrev ny_R_observe : MethodName := ⟨"DrillRows", "observe", "(III)I"⟩
abbrev ny_R_row : MethodName := ⟨"DrillRows", "row", "(II)I"⟩
abbrev ny_R_play : MethodName := ⟨"DrillRows", "play", "(II)I"⟩
abbrev ny_R_drill : MethodName := ⟨"DrillRows", "drill", "(II)I"⟩
abbrev ny_R_knownDrill : MethodName := ⟨"DrillRows", "knownDrill", "(I)LDrillRows$Drill;"⟩
abbrev ny_R_countUnits : MethodName := ⟨"DrillRows", "countUnits", "(I)I"⟩
abbrev ny_R_inLowestTerms : MethodName := ⟨"DrillRows", "inLowestTerms", "(III)I"⟩
abbrev ny_M_init : MethodName := ⟨"DrillRowsModel", "<init>", "()V"⟩
abbrev ny_M_thrown : MethodName := ⟨"DrillRowsModel", "thrown", "()I"⟩
abbrev ny_M_in : MethodName := ⟨"DrillRowsModel", "in", "(III)Z"⟩
abbrev ny_M_goes : MethodName := ⟨"DrillRowsModel", "goes", "(ZZZ)Z"⟩
abbrev ny_M_sign : MethodName := ⟨"DrillRowsModel", "sign", "(JI)I"⟩
abbrev ny_M_here : MethodName := ⟨"DrillRowsModel", "here", "()I"⟩
abbrev ny_M_see : MethodName := ⟨"DrillRowsModel", "see", "()I"⟩
abbrev ny_M_fail : MethodName := ⟨"DrillRowsModel", "fail", "(I)V"⟩
abbrev ny_M_take : MethodName := ⟨"DrillRowsModel", "take", "(I)V"⟩
abbrev ny_M_takes : MethodName := ⟨"DrillRowsModel", "takes", "(I)Z"⟩
abbrev ny_M_isDigit : MethodName := ⟨"DrillRowsModel", "isDigit", "()Z"⟩
abbrev ny_M_number : MethodName := ⟨"DrillRowsModel", "number", "(II)I"⟩
abbrev ny_M_eventRow : MethodName := ⟨"DrillRowsModel", "eventRow", "()V"⟩
abbrev ny_M_aimRow : MethodName := ⟨"DrillRowsModel", "aimRow", "()V"⟩
abbrev ny_M_copy : MethodName := ⟨"DrillRowsModel", "copy", "(II)V"⟩
abbrev ny_M_size : MethodName := ⟨"DrillRowsModel", "size", "(I)I"⟩
abbrev ny_M_read : MethodName := ⟨"DrillRowsModel", "read", "()I"⟩
abbrev ny_M_place : MethodName := ⟨"DrillRowsModel", "place", "()I"⟩
abbrev ny_M_relative : MethodName := ⟨"DrillRowsModel", "relative", "(I)I"⟩
abbrev ny_M_first : MethodName := ⟨"DrillRowsModel", "first", "(III)I"⟩
abbrev ny_M_isDue : MethodName := ⟨"DrillRowsModel", "isDue", "(II)Z"⟩
abbrev ny_M_look : MethodName := ⟨"DrillRowsModel", "look", "(I)I"⟩
abbrev ny_M_begin : MethodName := ⟨"DrillRowsModel", "begin", "()I"⟩
abbrev ny_M_isDrill : MethodName := ⟨"DrillRowsModel", "isDrill", "(I)Z"⟩
abbrev ny_M_stop : MethodName := ⟨"DrillRowsModel", "stop", "(I)V"⟩
abbrev ny_M_unit : MethodName := ⟨"DrillRowsModel", "unit", "(II)V"⟩
abbrev ny_M_real : MethodName := ⟨"DrillRowsModel", "real", "(I)I"⟩
abbrev ny_M_does : MethodName := ⟨"DrillRowsModel", "does", "(II)I"⟩
abbrev ny_M_act : MethodName := ⟨"DrillRowsModel", "act", "(II)I"⟩
abbrev ny_M_play : MethodName := ⟨"DrillRowsModel", "play", "(II)I"⟩
abbrev ny_M_tick : MethodName := ⟨"DrillRowsModel", "tick", "(I)I"⟩
abbrev ny_M_event : MethodName := ⟨"DrillRowsModel", "event", "(III)I"⟩
abbrev ny_M_seen : MethodName := ⟨"DrillRowsModel", "seen", "(III)I"⟩
abbrev ny_M_fault : MethodName := ⟨"DrillRowsModel", "fault", "(II)Z"⟩
abbrev ny_M_is : MethodName := ⟨"DrillRowsModel", "is", "(II)I"⟩
abbrev ny_M_aim : MethodName := ⟨"DrillRowsModel", "aim", "(II)I"⟩
abbrev ny_M_score : MethodName := ⟨"DrillRowsModel", "score", "(II)I"⟩
abbrev ny_M_compare : MethodName := ⟨"DrillRowsModel", "compare", "(II)I"⟩
abbrev ny_M_observe : MethodName := ⟨"DrillRowsModel", "observe", "(III)I"⟩
abbrev ny_M_row : MethodName := ⟨"DrillRowsModel", "row", "(II)I"⟩
abbrev ny_M_drill : MethodName := ⟨"DrillRowsModel", "drill", "(II)I"⟩
abbrev ny_D_init : MethodName := ⟨"DrillRows$Drill", "<init>", "(LDrillRows$Script;I)V"⟩
abbrev ny_D_drillSecond : MethodName := ⟨"DrillRows$Drill", "drillSecond", "(I)I"⟩
abbrev ny_D_beginOf : MethodName := ⟨"DrillRows$Drill", "beginOf", "(I)I"⟩
abbrev ny_D_hasRoomForAct : MethodName := ⟨"DrillRows$Drill", "hasRoomForAct", "()Z"⟩
abbrev ny_D_noteAct : MethodName := ⟨"DrillRows$Drill", "noteAct", "(II)V"⟩
abbrev ny_D_beginDueEvents : MethodName := ⟨"DrillRows$Drill", "beginDueEvents", "(I)I"⟩
abbrev ny_D_dueSecond : MethodName := ⟨"DrillRows$Drill", "dueSecond", "(I)I"⟩
abbrev ny_D_firstSecondOf : MethodName := ⟨"DrillRows$Drill", "firstSecondOf", "(I)I"⟩
abbrev ny_D_eventSeenBy : MethodName := ⟨"DrillRows$Drill", "eventSeenBy", "(II)I"⟩
abbrev ny_D_maySee : MethodName := ⟨"DrillRows$Drill", "maySee", "(II)Z"⟩
abbrev ny_D_hasBegunFault : MethodName := ⟨"DrillRows$Drill", "hasBegunFault", "(I)Z"⟩
abbrev ny_D_stateOfAim : MethodName := ⟨"DrillRows$Drill", "stateOfAim", "(II)I"⟩
abbrev ny_D_hasActWithin : MethodName := ⟨"DrillRows$Drill", "hasActWithin", "(III)Z"⟩
abbrev ny_D_weightOfMetAims : MethodName := ⟨"DrillRows$Drill", "weightOfMetAims", "(I)I"⟩
abbrev ny_S_init : MethodName := ⟨"DrillRows$Script", "<init>", "()V"⟩
abbrev ny_S_clear : MethodName := ⟨"DrillRows$Script", "clear", "()V"⟩
abbrev ny_S_hasEvent : MethodName := ⟨"DrillRows$Script", "hasEvent", "(I)Z"⟩
abbrev ny_S_hasAim : MethodName := ⟨"DrillRows$Script", "hasAim", "(I)Z"⟩
abbrev ny_S_addEvent : MethodName := ⟨"DrillRows$Script", "addEvent", "(IIII)V"⟩
abbrev ny_S_describeEvent : MethodName := ⟨"DrillRows$Script", "describeEvent", "(IIZI)V"⟩
abbrev ny_S_addAim : MethodName := ⟨"DrillRows$Script", "addAim", "(IIIII)V"⟩
abbrev ny_S_weightOfAims : MethodName := ⟨"DrillRows$Script", "weightOfAims", "()I"⟩
abbrev ny_T_init : MethodName := ⟨"DrillRows$Tape", "<init>", "()V"⟩
abbrev ny_T_hasRoomFor : MethodName := ⟨"DrillRows$Tape", "hasRoomFor", "(I)Z"⟩
abbrev ny_T_append : MethodName := ⟨"DrillRows$Tape", "append", "(JI)I"⟩
abbrev ny_T_parseInto : MethodName := ⟨"DrillRows$Tape", "parseInto", "(LDrillRows$Script;)I"⟩
abbrev ny_T_parseRow : MethodName := ⟨"DrillRows$Tape", "parseRow", "(LDrillRows$Script;)V"⟩
abbrev ny_T_parseEvent : MethodName := ⟨"DrillRows$Tape", "parseEvent", "(LDrillRows$Script;)V"⟩
abbrev ny_T_parseAim : MethodName := ⟨"DrillRows$Tape", "parseAim", "(LDrillRows$Script;)V"⟩
abbrev ny_T_parseNumber : MethodName := ⟨"DrillRows$Tape", "parseNumber", "(II)I"⟩
abbrev ny_T_expect : MethodName := ⟨"DrillRows$Tape", "expect", "(C)V"⟩
abbrev ny_T_accept : MethodName := ⟨"DrillRows$Tape", "accept", "(C)Z"⟩
abbrev ny_T_skipBlanks : MethodName := ⟨"DrillRows$Tape", "skipBlanks", "()V"⟩
abbrev ny_T_nextByte : MethodName := ⟨"DrillRows$Tape", "nextByte", "()I"⟩
abbrev ny_T_isDigit : MethodName := ⟨"DrillRows$Tape", "isDigit", "(I)Z"⟩
abbrev ny_T_fail : MethodName := ⟨"DrillRows$Tape", "fail", "(I)V"⟩
abbrev ny_L_sign : MethodName := ⟨"DrillRowsLaw", "sign", "(LDrillRows;JI[J)I"⟩
abbrev ny_L_read : MethodName := ⟨"DrillRowsLaw", "read", "(LDrillRows;[J)I"⟩
abbrev ny_L_begin : MethodName := ⟨"DrillRowsLaw", "begin", "(LDrillRows;[J)I"⟩
abbrev ny_L_stop : MethodName := ⟨"DrillRowsLaw", "stop", "(LDrillRows;I)I"⟩
abbrev ny_L_unit : MethodName := ⟨"DrillRowsLaw", "unit", "(LDrillRows;II)I"⟩
abbrev ny_L_real : MethodName := ⟨"DrillRowsLaw", "real", "(LDrillRows;I[J)I"⟩
abbrev ny_L_act : MethodName := ⟨"DrillRowsLaw", "act", "(LDrillRows;II[J)I"⟩
abbrev ny_L_tick : MethodName := ⟨"DrillRowsLaw", "tick", "(LDrillRows;I[J)I"⟩
abbrev ny_L_event : MethodName := ⟨"DrillRowsLaw", "event", "(LDrillRows;III[J)I"⟩
abbrev ny_L_seen : MethodName := ⟨"DrillRowsLaw", "seen", "(LDrillRows;III[J)I"⟩
abbrev ny_L_fault : MethodName := ⟨"DrillRowsLaw", "fault", "(LDrillRows;II[J)I"⟩
abbrev ny_L_aim : MethodName := ⟨"DrillRowsLaw", "aim", "(LDrillRows;II[J)I"⟩
abbrev ny_L_score : MethodName := ⟨"DrillRowsLaw", "score", "(LDrillRows;II[J)I"⟩
abbrev ny_L_compare : MethodName := ⟨"DrillRowsLaw", "compare", "(LDrillRows;II[J)I"⟩
abbrev ny_L_observe : MethodName := ⟨"DrillRowsLaw", "observe", "(LDrillRows;III[J)I"⟩
abbrev ny_L_row : MethodName := ⟨"DrillRowsLaw", "row", "(LDrillRows;II[J)I"⟩
abbrev ny_L_play : MethodName := ⟨"DrillRowsLaw", "play", "(LDrillRows;II[J)I"⟩
abbrev ny_L_drill : MethodName := ⟨"DrillRowsLaw", "drill", "(LDrillRows;II[J)I"⟩
abbrev ny_L_law : MethodName := ⟨"DrillRowsLaw", "law", "([I)Z"⟩
abbrev ny_N_min : MethodName := ⟨"java/lang/Math", "min", "(II)I"⟩
abbrev ny_A_fill : MethodName := ⟨"java/util/Arrays", "fill", "([II)V"⟩
theorem dr_dd {code : ByteArray} {L : List (Nat × Instr × Nat)} (h : ∀ q ∈ L, decode code q.1 = .ok (q.2.1, q.2.2)) (k : Nat) {pc n : Nat} {i : Instr} (e : L[k]? = some (pc, i, n)) : decode code pc = .ok (i, n) := h (pc, i, n) (List.mem_of_getElem? e)
