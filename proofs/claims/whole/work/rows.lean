section
/-- a private method of a class that the tables say can be made, by its rows of tables_1 -/
def lw_okq (q : MethodName × Nat) : Prop := (q.1.cls ≠ "java/lang/invoke/MethodHandle" ∧ q.1.cls ≠ "java/lang/invoke/VarHandle") ∧ Cond.instantiable q.1.cls q.2 ∈ tables_1 ∧ Cond.privateMethod q.1 ∈ tables_1 ∧ Cond.instanceMethod q.1 ∈ tables_1
theorem lw_p0 : lw_okq (⟨"java/lang/Throwable", "fillInStackTrace", "(I)Ljava/lang/Throwable;"⟩, 6) := ⟨⟨by decide +kernel, by decide +kernel⟩, List.mem_of_getElem? (i := 196) (by decide +kernel), List.mem_of_getElem? (i := 194) (by decide +kernel), List.mem_of_getElem? (i := 195) (by decide +kernel)⟩
theorem lw_p1 : lw_okq (⟨"DrillRows$Tape", "skipBlanks", "()V"⟩, 4) := ⟨⟨by decide +kernel, by decide +kernel⟩, List.mem_of_getElem? (i := 25) (by decide +kernel), List.mem_of_getElem? (i := 267) (by decide +kernel), List.mem_of_getElem? (i := 268) (by decide +kernel)⟩
theorem lw_p2 : lw_okq (⟨"DrillRows$Tape", "nextByte", "()I"⟩, 4) := ⟨⟨by decide +kernel, by decide +kernel⟩, List.mem_of_getElem? (i := 25) (by decide +kernel), List.mem_of_getElem? (i := 271) (by decide +kernel), List.mem_of_getElem? (i := 272) (by decide +kernel)⟩
theorem lw_p3 : lw_okq (⟨"DrillRows$Tape", "parseRow", "(LDrillRows$Script;)V"⟩, 4) := ⟨⟨by decide +kernel, by decide +kernel⟩, List.mem_of_getElem? (i := 25) (by decide +kernel), List.mem_of_getElem? (i := 275) (by decide +kernel), List.mem_of_getElem? (i := 276) (by decide +kernel)⟩
theorem lw_p4 : lw_okq (⟨"DrillRows$Tape", "accept", "(C)Z"⟩, 4) := ⟨⟨by decide +kernel, by decide +kernel⟩, List.mem_of_getElem? (i := 25) (by decide +kernel), List.mem_of_getElem? (i := 279) (by decide +kernel), List.mem_of_getElem? (i := 280) (by decide +kernel)⟩
theorem lw_p5 : lw_okq (⟨"DrillRows$Tape", "parseEvent", "(LDrillRows$Script;)V"⟩, 4) := ⟨⟨by decide +kernel, by decide +kernel⟩, List.mem_of_getElem? (i := 25) (by decide +kernel), List.mem_of_getElem? (i := 283) (by decide +kernel), List.mem_of_getElem? (i := 284) (by decide +kernel)⟩
theorem lw_p6 : lw_okq (⟨"DrillRows$Tape", "parseNumber", "(II)I"⟩, 4) := ⟨⟨by decide +kernel, by decide +kernel⟩, List.mem_of_getElem? (i := 25) (by decide +kernel), List.mem_of_getElem? (i := 287) (by decide +kernel), List.mem_of_getElem? (i := 288) (by decide +kernel)⟩
theorem lw_p7 : lw_okq (⟨"DrillRows$Tape", "fail", "(I)V"⟩, 4) := ⟨⟨by decide +kernel, by decide +kernel⟩, List.mem_of_getElem? (i := 25) (by decide +kernel), List.mem_of_getElem? (i := 294) (by decide +kernel), List.mem_of_getElem? (i := 295) (by decide +kernel)⟩
theorem lw_p8 : lw_okq (⟨"DrillRows$Tape", "expect", "(C)V"⟩, 4) := ⟨⟨by decide +kernel, by decide +kernel⟩, List.mem_of_getElem? (i := 25) (by decide +kernel), List.mem_of_getElem? (i := 302) (by decide +kernel), List.mem_of_getElem? (i := 303) (by decide +kernel)⟩
theorem lw_p9 : lw_okq (⟨"DrillRows$Tape", "parseAim", "(LDrillRows$Script;)V"⟩, 4) := ⟨⟨by decide +kernel, by decide +kernel⟩, List.mem_of_getElem? (i := 25) (by decide +kernel), List.mem_of_getElem? (i := 314) (by decide +kernel), List.mem_of_getElem? (i := 315) (by decide +kernel)⟩
theorem lw_p10 : lw_okq (⟨"DrillRows$Drill", "dueSecond", "(I)I"⟩, 9) := ⟨⟨by decide +kernel, by decide +kernel⟩, List.mem_of_getElem? (i := 350) (by decide +kernel), List.mem_of_getElem? (i := 399) (by decide +kernel), List.mem_of_getElem? (i := 400) (by decide +kernel)⟩
theorem lw_p11 : lw_okq (⟨"DrillRows$Drill", "firstSecondOf", "(I)I"⟩, 9) := ⟨⟨by decide +kernel, by decide +kernel⟩, List.mem_of_getElem? (i := 350) (by decide +kernel), List.mem_of_getElem? (i := 403) (by decide +kernel), List.mem_of_getElem? (i := 404) (by decide +kernel)⟩
theorem lw_p12 : lw_okq (⟨"DrillRows", "knownDrill", "(I)LDrillRows$Drill;"⟩, 10) := ⟨⟨by decide +kernel, by decide +kernel⟩, List.mem_of_getElem? (i := 17) (by decide +kernel), List.mem_of_getElem? (i := 418) (by decide +kernel), List.mem_of_getElem? (i := 419) (by decide +kernel)⟩
theorem lw_p13 : lw_okq (⟨"DrillRows$Drill", "maySee", "(II)Z"⟩, 9) := ⟨⟨by decide +kernel, by decide +kernel⟩, List.mem_of_getElem? (i := 350) (by decide +kernel), List.mem_of_getElem? (i := 508) (by decide +kernel), List.mem_of_getElem? (i := 509) (by decide +kernel)⟩
theorem lw_p14 : lw_okq (⟨"DrillRows$Drill", "hasActWithin", "(III)Z"⟩, 9) := ⟨⟨by decide +kernel, by decide +kernel⟩, List.mem_of_getElem? (i := 350) (by decide +kernel), List.mem_of_getElem? (i := 539) (by decide +kernel), List.mem_of_getElem? (i := 540) (by decide +kernel)⟩
theorem lw_p15 : lw_okq (⟨"DrillRows", "countUnits", "(I)I"⟩, 10) := ⟨⟨by decide +kernel, by decide +kernel⟩, List.mem_of_getElem? (i := 17) (by decide +kernel), List.mem_of_getElem? (i := 620) (by decide +kernel), List.mem_of_getElem? (i := 621) (by decide +kernel)⟩
def lw_privs_1 : List (MethodName × Nat) := [(⟨"java/lang/Throwable", "fillInStackTrace", "(I)Ljava/lang/Throwable;"⟩, 6), (⟨"DrillRows$Tape", "skipBlanks", "()V"⟩, 4), (⟨"DrillRows$Tape", "nextByte", "()I"⟩, 4), (⟨"DrillRows$Tape", "parseRow", "(LDrillRows$Script;)V"⟩, 4), (⟨"DrillRows$Tape", "accept", "(C)Z"⟩, 4), (⟨"DrillRows$Tape", "parseEvent", "(LDrillRows$Script;)V"⟩, 4), (⟨"DrillRows$Tape", "parseNumber", "(II)I"⟩, 4), (⟨"DrillRows$Tape", "fail", "(I)V"⟩, 4), (⟨"DrillRows$Tape", "expect", "(C)V"⟩, 4), (⟨"DrillRows$Tape", "parseAim", "(LDrillRows$Script;)V"⟩, 4), (⟨"DrillRows$Drill", "dueSecond", "(I)I"⟩, 9), (⟨"DrillRows$Drill", "firstSecondOf", "(I)I"⟩, 9), (⟨"DrillRows", "knownDrill", "(I)LDrillRows$Drill;"⟩, 10), (⟨"DrillRows$Drill", "maySee", "(II)Z"⟩, 9), (⟨"DrillRows$Drill", "hasActWithin", "(III)Z"⟩, 9), (⟨"DrillRows", "countUnits", "(I)I"⟩, 10)]
theorem lw_r1 : ∀ q ∈ lw_privs_1, lw_okq q := List.forall_mem_cons.mpr ⟨lw_p0, List.forall_mem_cons.mpr ⟨lw_p1, List.forall_mem_cons.mpr ⟨lw_p2, List.forall_mem_cons.mpr ⟨lw_p3, List.forall_mem_cons.mpr ⟨lw_p4, List.forall_mem_cons.mpr ⟨lw_p5, List.forall_mem_cons.mpr ⟨lw_p6, List.forall_mem_cons.mpr ⟨lw_p7, List.forall_mem_cons.mpr ⟨lw_p8, List.forall_mem_cons.mpr ⟨lw_p9, List.forall_mem_cons.mpr ⟨lw_p10, List.forall_mem_cons.mpr ⟨lw_p11, List.forall_mem_cons.mpr ⟨lw_p12, List.forall_mem_cons.mpr ⟨lw_p13, List.forall_mem_cons.mpr ⟨lw_p14, List.forall_mem_cons.mpr ⟨lw_p15, fun _ h => absurd h List.not_mem_nil⟩⟩⟩⟩⟩⟩⟩⟩⟩⟩⟩⟩⟩⟩⟩⟩
theorem lw_p16 : lw_okq (⟨"DrillRowsModel", "goes", "(ZZZ)Z"⟩, 32) := ⟨⟨by decide +kernel, by decide +kernel⟩, List.mem_of_getElem? (i := 624) (by decide +kernel), List.mem_of_getElem? (i := 738) (by decide +kernel), List.mem_of_getElem? (i := 739) (by decide +kernel)⟩
theorem lw_p17 : lw_okq (⟨"DrillRowsModel", "see", "()I"⟩, 32) := ⟨⟨by decide +kernel, by decide +kernel⟩, List.mem_of_getElem? (i := 624) (by decide +kernel), List.mem_of_getElem? (i := 746) (by decide +kernel), List.mem_of_getElem? (i := 747) (by decide +kernel)⟩
theorem lw_p18 : lw_okq (⟨"DrillRowsModel", "here", "()I"⟩, 32) := ⟨⟨by decide +kernel, by decide +kernel⟩, List.mem_of_getElem? (i := 624) (by decide +kernel), List.mem_of_getElem? (i := 750) (by decide +kernel), List.mem_of_getElem? (i := 751) (by decide +kernel)⟩
theorem lw_p19 : lw_okq (⟨"DrillRowsModel", "takes", "(I)Z"⟩, 32) := ⟨⟨by decide +kernel, by decide +kernel⟩, List.mem_of_getElem? (i := 624) (by decide +kernel), List.mem_of_getElem? (i := 754) (by decide +kernel), List.mem_of_getElem? (i := 755) (by decide +kernel)⟩
theorem lw_p20 : lw_okq (⟨"DrillRowsModel", "eventRow", "()V"⟩, 32) := ⟨⟨by decide +kernel, by decide +kernel⟩, List.mem_of_getElem? (i := 624) (by decide +kernel), List.mem_of_getElem? (i := 758) (by decide +kernel), List.mem_of_getElem? (i := 759) (by decide +kernel)⟩
theorem lw_p21 : lw_okq (⟨"DrillRowsModel", "number", "(II)I"⟩, 32) := ⟨⟨by decide +kernel, by decide +kernel⟩, List.mem_of_getElem? (i := 624) (by decide +kernel), List.mem_of_getElem? (i := 762) (by decide +kernel), List.mem_of_getElem? (i := 763) (by decide +kernel)⟩
theorem lw_p22 : lw_okq (⟨"DrillRowsModel", "isDigit", "()Z"⟩, 32) := ⟨⟨by decide +kernel, by decide +kernel⟩, List.mem_of_getElem? (i := 624) (by decide +kernel), List.mem_of_getElem? (i := 766) (by decide +kernel), List.mem_of_getElem? (i := 767) (by decide +kernel)⟩
theorem lw_p23 : lw_okq (⟨"DrillRowsModel", "fail", "(I)V"⟩, 32) := ⟨⟨by decide +kernel, by decide +kernel⟩, List.mem_of_getElem? (i := 624) (by decide +kernel), List.mem_of_getElem? (i := 770) (by decide +kernel), List.mem_of_getElem? (i := 771) (by decide +kernel)⟩
theorem lw_p24 : lw_okq (⟨"DrillRowsModel", "take", "(I)V"⟩, 32) := ⟨⟨by decide +kernel, by decide +kernel⟩, List.mem_of_getElem? (i := 624) (by decide +kernel), List.mem_of_getElem? (i := 774) (by decide +kernel), List.mem_of_getElem? (i := 775) (by decide +kernel)⟩
theorem lw_p25 : lw_okq (⟨"DrillRowsModel", "aimRow", "()V"⟩, 32) := ⟨⟨by decide +kernel, by decide +kernel⟩, List.mem_of_getElem? (i := 624) (by decide +kernel), List.mem_of_getElem? (i := 778) (by decide +kernel), List.mem_of_getElem? (i := 779) (by decide +kernel)⟩
theorem lw_p26 : lw_okq (⟨"DrillRowsModel", "copy", "(II)V"⟩, 32) := ⟨⟨by decide +kernel, by decide +kernel⟩, List.mem_of_getElem? (i := 624) (by decide +kernel), List.mem_of_getElem? (i := 782) (by decide +kernel), List.mem_of_getElem? (i := 783) (by decide +kernel)⟩
theorem lw_p27 : lw_okq (⟨"DrillRowsModel", "size", "(I)I"⟩, 32) := ⟨⟨by decide +kernel, by decide +kernel⟩, List.mem_of_getElem? (i := 624) (by decide +kernel), List.mem_of_getElem? (i := 786) (by decide +kernel), List.mem_of_getElem? (i := 787) (by decide +kernel)⟩
theorem lw_p28 : lw_okq (⟨"DrillRowsModel", "look", "(I)I"⟩, 32) := ⟨⟨by decide +kernel, by decide +kernel⟩, List.mem_of_getElem? (i := 624) (by decide +kernel), List.mem_of_getElem? (i := 798) (by decide +kernel), List.mem_of_getElem? (i := 799) (by decide +kernel)⟩
theorem lw_p29 : lw_okq (⟨"DrillRowsModel", "isDue", "(II)Z"⟩, 32) := ⟨⟨by decide +kernel, by decide +kernel⟩, List.mem_of_getElem? (i := 624) (by decide +kernel), List.mem_of_getElem? (i := 802) (by decide +kernel), List.mem_of_getElem? (i := 803) (by decide +kernel)⟩
theorem lw_p30 : lw_okq (⟨"DrillRowsModel", "relative", "(I)I"⟩, 32) := ⟨⟨by decide +kernel, by decide +kernel⟩, List.mem_of_getElem? (i := 624) (by decide +kernel), List.mem_of_getElem? (i := 806) (by decide +kernel), List.mem_of_getElem? (i := 807) (by decide +kernel)⟩
theorem lw_p31 : lw_okq (⟨"DrillRowsModel", "first", "(III)I"⟩, 32) := ⟨⟨by decide +kernel, by decide +kernel⟩, List.mem_of_getElem? (i := 624) (by decide +kernel), List.mem_of_getElem? (i := 810) (by decide +kernel), List.mem_of_getElem? (i := 811) (by decide +kernel)⟩
def lw_privs_2 : List (MethodName × Nat) := [(⟨"DrillRowsModel", "goes", "(ZZZ)Z"⟩, 32), (⟨"DrillRowsModel", "see", "()I"⟩, 32), (⟨"DrillRowsModel", "here", "()I"⟩, 32), (⟨"DrillRowsModel", "takes", "(I)Z"⟩, 32), (⟨"DrillRowsModel", "eventRow", "()V"⟩, 32), (⟨"DrillRowsModel", "number", "(II)I"⟩, 32), (⟨"DrillRowsModel", "isDigit", "()Z"⟩, 32), (⟨"DrillRowsModel", "fail", "(I)V"⟩, 32), (⟨"DrillRowsModel", "take", "(I)V"⟩, 32), (⟨"DrillRowsModel", "aimRow", "()V"⟩, 32), (⟨"DrillRowsModel", "copy", "(II)V"⟩, 32), (⟨"DrillRowsModel", "size", "(I)I"⟩, 32), (⟨"DrillRowsModel", "look", "(I)I"⟩, 32), (⟨"DrillRowsModel", "isDue", "(II)Z"⟩, 32), (⟨"DrillRowsModel", "relative", "(I)I"⟩, 32), (⟨"DrillRowsModel", "first", "(III)I"⟩, 32)]
theorem lw_r2 : ∀ q ∈ lw_privs_2, lw_okq q := List.forall_mem_cons.mpr ⟨lw_p16, List.forall_mem_cons.mpr ⟨lw_p17, List.forall_mem_cons.mpr ⟨lw_p18, List.forall_mem_cons.mpr ⟨lw_p19, List.forall_mem_cons.mpr ⟨lw_p20, List.forall_mem_cons.mpr ⟨lw_p21, List.forall_mem_cons.mpr ⟨lw_p22, List.forall_mem_cons.mpr ⟨lw_p23, List.forall_mem_cons.mpr ⟨lw_p24, List.forall_mem_cons.mpr ⟨lw_p25, List.forall_mem_cons.mpr ⟨lw_p26, List.forall_mem_cons.mpr ⟨lw_p27, List.forall_mem_cons.mpr ⟨lw_p28, List.forall_mem_cons.mpr ⟨lw_p29, List.forall_mem_cons.mpr ⟨lw_p30, List.forall_mem_cons.mpr ⟨lw_p31, fun _ h => absurd h List.not_mem_nil⟩⟩⟩⟩⟩⟩⟩⟩⟩⟩⟩⟩⟩⟩⟩⟩
theorem lw_p32 : lw_okq (⟨"DrillRowsModel", "isDrill", "(I)Z"⟩, 32) := ⟨⟨by decide +kernel, by decide +kernel⟩, List.mem_of_getElem? (i := 624) (by decide +kernel), List.mem_of_getElem? (i := 818) (by decide +kernel), List.mem_of_getElem? (i := 819) (by decide +kernel)⟩
theorem lw_p33 : lw_okq (⟨"DrillRowsModel", "does", "(II)I"⟩, 32) := ⟨⟨by decide +kernel, by decide +kernel⟩, List.mem_of_getElem? (i := 624) (by decide +kernel), List.mem_of_getElem? (i := 834) (by decide +kernel), List.mem_of_getElem? (i := 835) (by decide +kernel)⟩
theorem lw_p34 : lw_okq (⟨"DrillRowsModel", "is", "(II)I"⟩, 32) := ⟨⟨by decide +kernel, by decide +kernel⟩, List.mem_of_getElem? (i := 624) (by decide +kernel), List.mem_of_getElem? (i := 864) (by decide +kernel), List.mem_of_getElem? (i := 865) (by decide +kernel)⟩
def lw_privs_3 : List (MethodName × Nat) := [(⟨"DrillRowsModel", "isDrill", "(I)Z"⟩, 32), (⟨"DrillRowsModel", "does", "(II)I"⟩, 32), (⟨"DrillRowsModel", "is", "(II)I"⟩, 32)]
theorem lw_r3 : ∀ q ∈ lw_privs_3, lw_okq q := List.forall_mem_cons.mpr ⟨lw_p32, List.forall_mem_cons.mpr ⟨lw_p33, List.forall_mem_cons.mpr ⟨lw_p34, fun _ h => absurd h List.not_mem_nil⟩⟩⟩
def lw_privs : List (MethodName × Nat) := lw_privs_1 ++ (lw_privs_2 ++ (lw_privs_3))
def lw_tbl : List Cond := k2_sels lw_privs ++ tables_1
theorem lw_privs_ok : ∀ q ∈ lw_privs, lw_okq q := by
  show ∀ q ∈ lw_privs_1 ++ (lw_privs_2 ++ (lw_privs_3)), lw_okq q
  exact List.forall_mem_append.mpr ⟨lw_r1, List.forall_mem_append.mpr ⟨lw_r2, lw_r3⟩⟩
/-! ===== names: by program (wip/whole/gen/names.py) out of javap's listing and the Statement's tables ===== -/
def nT_D : u_T := fun k => match k with
  | 0 => ("DrillRows$Drill", "script", "LDrillRows$Script;", true)
  | 1 => ("DrillRows$Drill", "beganAt", "I", true)
  | 2 => ("DrillRows$Drill", "on", "Z", false)
  | 3 => ("DrillRows$Drill", "eventBegin", "[I", true)
  | 4 => ("DrillRows$Drill", "begunCount", "I", false)
  | 5 => ("DrillRows$Drill", "firstAct", "[I", true)
  | 6 => ("DrillRows$Drill", "actKind", "[I", true)
  | 7 => ("DrillRows$Drill", "actSecond", "[I", true)
  | _ => ("DrillRows$Drill", "actCount", "I", false)
def nt_D : Nat → FieldType := fun k => match k with
  | 0 => .object "DrillRows$Script"
  | 1 => .int
  | 2 => .boolean
  | 3 => .array (.int)
  | 4 => .int
  | 5 => .array (.int)
  | 6 => .array (.int)
  | 7 => .array (.int)
  | _ => .int
theorem nn_D : ∀ a, a < 9 → ∀ b, b < 9 → a ≠ b → (nT_D a).2.1 ≠ (nT_D b).2.1 := by decide +kernel
theorem nd_D : ∀ k, k < 9 → parseFieldDescriptor (nT_D k).2.2.1 = some (nt_D k) := by decide +kernel
theorem nw_D : ∀ w ∈ u_ws "DrillRows$Drill" nT_D 9, w ∈ lw_tbl := by decide +kernel
def nT_S : u_T := fun k => match k with
  | 0 => ("DrillRows$Script", "eventTold", "[Z", true)
  | 1 => ("DrillRows$Script", "eventAct", "[I", true)
  | 2 => ("DrillRows$Script", "eventDelay", "[I", true)
  | 3 => ("DrillRows$Script", "eventLatest", "[I", true)
  | 4 => ("DrillRows$Script", "eventPart", "[I", true)
  | 5 => ("DrillRows$Script", "eventSecret", "[Z", true)
  | 6 => ("DrillRows$Script", "eventFault", "[I", true)
  | 7 => ("DrillRows$Script", "eventCount", "I", false)
  | 8 => ("DrillRows$Script", "aimEvent", "[I", true)
  | 9 => ("DrillRows$Script", "aimAct", "[I", true)
  | 10 => ("DrillRows$Script", "aimSeconds", "[I", true)
  | 11 => ("DrillRows$Script", "aimWeight", "[I", true)
  | _ => ("DrillRows$Script", "played", "Z", false)
def nt_S : Nat → FieldType := fun k => match k with
  | 0 => .array (.boolean)
  | 1 => .array (.int)
  | 2 => .array (.int)
  | 3 => .array (.int)
  | 4 => .array (.int)
  | 5 => .array (.boolean)
  | 6 => .array (.int)
  | 7 => .int
  | 8 => .array (.int)
  | 9 => .array (.int)
  | 10 => .array (.int)
  | 11 => .array (.int)
  | _ => .boolean
theorem nn_S : ∀ a, a < 13 → ∀ b, b < 13 → a ≠ b → (nT_S a).2.1 ≠ (nT_S b).2.1 := by decide +kernel
theorem nd_S : ∀ k, k < 13 → parseFieldDescriptor (nT_S k).2.2.1 = some (nt_S k) := by decide +kernel
theorem nw_S : ∀ w ∈ u_ws "DrillRows$Script" nT_S 13, w ∈ lw_tbl := by decide +kernel
def nT_T : u_T := fun k => match k with
  | 0 => ("DrillRows$Tape", "bytes", "[I", true)
  | 1 => ("DrillRows$Tape", "length", "I", false)
  | 2 => ("DrillRows$Tape", "at", "I", false)
  | _ => ("DrillRows$Tape", "wrongAt", "I", false)
def nt_T : Nat → FieldType := fun k => match k with
  | 0 => .array (.int)
  | 1 => .int
  | 2 => .int
  | _ => .int
theorem nn_T : ∀ a, a < 4 → ∀ b, b < 4 → a ≠ b → (nT_T a).2.1 ≠ (nT_T b).2.1 := by decide +kernel
theorem nd_T : ∀ k, k < 4 → parseFieldDescriptor (nT_T k).2.2.1 = some (nt_T k) := by decide +kernel
theorem nw_T : ∀ w ∈ u_ws "DrillRows$Tape" nT_T 4, w ∈ lw_tbl := by decide +kernel
def nT_R : u_T := fun k => match k with
  | 0 => ("DrillRows", "tape", "LDrillRows$Tape;", true)
  | 1 => ("DrillRows", "script", "LDrillRows$Script;", false)
  | 2 => ("DrillRows", "spare", "LDrillRows$Script;", false)
  | 3 => ("DrillRows", "wrongPlace", "I", false)
  | 4 => ("DrillRows", "now", "I", false)
  | 5 => ("DrillRows", "drills", "[LDrillRows$Drill;", true)
  | 6 => ("DrillRows", "drillCount", "I", false)
  | 7 => ("DrillRows", "drillOfUnit", "[I", true)
  | 8 => ("DrillRows", "rowCells", "[I", true)
  | _ => ("DrillRows", "rowCount", "I", false)
def nt_R : Nat → FieldType := fun k => match k with
  | 0 => .object "DrillRows$Tape"
  | 1 => .object "DrillRows$Script"
  | 2 => .object "DrillRows$Script"
  | 3 => .int
  | 4 => .int
  | 5 => .array (.object "DrillRows$Drill")
  | 6 => .int
  | 7 => .array (.int)
  | 8 => .array (.int)
  | _ => .int
theorem nn_R : ∀ a, a < 10 → ∀ b, b < 10 → a ≠ b → (nT_R a).2.1 ≠ (nT_R b).2.1 := by decide +kernel
theorem nd_R : ∀ k, k < 10 → parseFieldDescriptor (nT_R k).2.2.1 = some (nt_R k) := by decide +kernel
theorem nw_R : ∀ w ∈ u_ws "DrillRows" nT_R 10, w ∈ lw_tbl := by decide +kernel
def nT_M : u_T := fun k => match k with
  | 0 => ("DrillRowsModel", "thrown", "I", false)
  | 1 => ("DrillRowsModel", "now", "I", false)
  | 2 => ("DrillRowsModel", "taped", "I", false)
  | 3 => ("DrillRowsModel", "tape", "[I", true)
  | 4 => ("DrillRowsModel", "place", "I", false)
  | 5 => ("DrillRowsModel", "at", "I", false)
  | 6 => ("DrillRowsModel", "wrong", "I", false)
  | 7 => ("DrillRowsModel", "isEvent", "[Z", true)
  | 8 => ("DrillRowsModel", "second", "[I", true)
  | 9 => ("DrillRowsModel", "act", "[I", true)
  | 10 => ("DrillRowsModel", "delay", "[I", true)
  | 11 => ("DrillRowsModel", "part", "[I", true)
  | 12 => ("DrillRowsModel", "secret", "[Z", true)
  | 13 => ("DrillRowsModel", "fault", "[I", true)
  | 14 => ("DrillRowsModel", "isAim", "[Z", true)
  | 15 => ("DrillRowsModel", "aimEvent", "[I", true)
  | 16 => ("DrillRowsModel", "aimAct", "[I", true)
  | 17 => ("DrillRowsModel", "aimWithin", "[I", true)
  | 18 => ("DrillRowsModel", "weight", "[I", true)
  | 19 => ("DrillRowsModel", "drills", "I", false)
  | 20 => ("DrillRowsModel", "begun", "[I", true)
  | 21 => ("DrillRowsModel", "stopped", "[Z", true)
  | 22 => ("DrillRowsModel", "begins", "[I", true)
  | 23 => ("DrillRowsModel", "acts", "[I", true)
  | 24 => ("DrillRowsModel", "did", "[I", true)
  | 25 => ("DrillRowsModel", "didAt", "[I", true)
  | 26 => ("DrillRowsModel", "unitOf", "[I", true)
  | 27 => ("DrillRowsModel", "rows", "I", false)
  | 28 => ("DrillRowsModel", "rowDrill", "[I", true)
  | 29 => ("DrillRowsModel", "rowSecond", "[I", true)
  | 30 => ("DrillRowsModel", "rowMark", "[I", true)
  | _ => ("DrillRowsModel", "rowLate", "[Z", true)
def nt_M : Nat → FieldType := fun k => match k with
  | 0 => .int
  | 1 => .int
  | 2 => .int
  | 3 => .array (.int)
  | 4 => .int
  | 5 => .int
  | 6 => .int
  | 7 => .array (.boolean)
  | 8 => .array (.int)
  | 9 => .array (.int)
  | 10 => .array (.int)
  | 11 => .array (.int)
  | 12 => .array (.boolean)
  | 13 => .array (.int)
  | 14 => .array (.boolean)
  | 15 => .array (.int)
  | 16 => .array (.int)
  | 17 => .array (.int)
  | 18 => .array (.int)
  | 19 => .int
  | 20 => .array (.int)
  | 21 => .array (.boolean)
  | 22 => .array (.int)
  | 23 => .array (.int)
  | 24 => .array (.int)
  | 25 => .array (.int)
  | 26 => .array (.int)
  | 27 => .int
  | 28 => .array (.int)
  | 29 => .array (.int)
  | 30 => .array (.int)
  | _ => .array (.boolean)
theorem nn_M : ∀ a, a < 32 → ∀ b, b < 32 → a ≠ b → (nT_M a).2.1 ≠ (nT_M b).2.1 := by decide +kernel
theorem nd_M : ∀ k, k < 32 → parseFieldDescriptor (nT_M k).2.2.1 = some (nt_M k) := by decide +kernel
theorem nw_M : ∀ w ∈ u_ws "DrillRowsModel" nT_M 32, w ∈ lw_tbl := by decide +kernel
abbrev vwCl : List vw_C := [("DrillRows$Drill", nT_D, 9), ("DrillRows$Script", nT_S, 13), ("DrillRows$Tape", nT_T, 4), ("DrillRows", nT_R, 10), ("DrillRowsModel", nT_M, 32)]
abbrev ny_R_init : MethodName := ⟨"DrillRows", "<init>", "()V"⟩
abbrev ny_R_sign : MethodName := ⟨"DrillRows", "sign", "(JI)I"⟩
abbrev ny_R_read : MethodName := ⟨"DrillRows", "read", "()I"⟩
abbrev ny_R_place : MethodName := ⟨"DrillRows", "place", "()I"⟩
abbrev ny_R_begin : MethodName := ⟨"DrillRows", "begin", "()I"⟩
abbrev ny_R_stop : MethodName := ⟨"DrillRows", "stop", "(I)V"⟩
abbrev ny_R_unit : MethodName := ⟨"DrillRows", "unit", "(II)V"⟩
abbrev ny_R_real : MethodName := ⟨"DrillRows", "real", "(I)I"⟩
abbrev ny_R_act : MethodName := ⟨"DrillRows", "act", "(II)I"⟩
abbrev ny_R_tick : MethodName := ⟨"DrillRows", "tick", "(I)I"⟩
abbrev ny_R_event : MethodName := ⟨"DrillRows", "event", "(III)I"⟩
abbrev ny_R_seen : MethodName := ⟨"DrillRows", "seen", "(III)I"⟩
abbrev ny_R_fault : MethodName := ⟨"DrillRows", "fault", "(II)Z"⟩
abbrev ny_R_aim : MethodName := ⟨"DrillRows", "aim", "(II)I"⟩
abbrev ny_R_score : MethodName := ⟨"DrillRows", "score", "(II)I"⟩
abbrev ny_R_compare : MethodName := ⟨"DrillRows", "compare", "(II)I"⟩
abbrev ny_R_observe : MethodName := ⟨"DrillRows", "observe", "(III)I"⟩
abbrev ny_R_row : MethodName := ⟨"DrillRows", "row", "(II)I"⟩
abbrev ny_R_play : MethodName := ⟨"DrillRows", "play", "(II)I"⟩
abbrev ny_R_drill : MethodName := ⟨"DrillRows", "drill", "(II)I"⟩
abbrev ny_R_knownDrill : MethodName := ⟨"DrillRows", "knownDrill", "(I)LDrillRows$Drill;"⟩
abbrev ny_R_countUnits : MethodName := ⟨"DrillRows", "countUnits", "(I)I"⟩
abbrev ny_R_inLowestTerms : MethodName := ⟨"DrillRows", "inLowestTerms", "(III)I"⟩
abbrev ny_M_init : MethodName := ⟨"DrillRowsModel", "<init>", "()V"⟩
abbrev ny_M_thrown : MethodName := ⟨"DrillRowsModel", "thrown", "()I"⟩
abbrev ny_M_in : MethodName := ⟨"DrillRowsModel", "in", "(III)Z"⟩
abbrev ny_M_goes : MethodName := ⟨"DrillRowsModel", "goes", "(ZZZ)Z"⟩
abbrev ny_M_sign : MethodName := ⟨"DrillRowsModel", "sign", "(JI)I"⟩
abbrev ny_M_here : MethodName := ⟨"DrillRowsModel", "here", "()I"⟩
abbrev ny_M_see : MethodName := ⟨"DrillRowsModel", "see", "()I"⟩
abbrev ny_M_fail : MethodName := ⟨"DrillRowsModel", "fail", "(I)V"⟩
abbrev ny_M_take : MethodName := ⟨"DrillRowsModel", "take", "(I)V"⟩
abbrev ny_M_takes : MethodName := ⟨"DrillRowsModel", "takes", "(I)Z"⟩
abbrev ny_M_isDigit : MethodName := ⟨"DrillRowsModel", "isDigit", "()Z"⟩
abbrev ny_M_number : MethodName := ⟨"DrillRowsModel", "number", "(II)I"⟩
abbrev ny_M_eventRow : MethodName := ⟨"DrillRowsModel", "eventRow", "()V"⟩
abbrev ny_M_aimRow : MethodName := ⟨"DrillRowsModel", "aimRow", "()V"⟩
abbrev ny_M_copy : MethodName := ⟨"DrillRowsModel", "copy", "(II)V"⟩
abbrev ny_M_size : MethodName := ⟨"DrillRowsModel", "size", "(I)I"⟩
abbrev ny_M_read : MethodName := ⟨"DrillRowsModel", "read", "()I"⟩
abbrev ny_M_place : MethodName := ⟨"DrillRowsModel", "place", "()I"⟩
abbrev ny_M_relative : MethodName := ⟨"DrillRowsModel", "relative", "(I)I"⟩
abbrev ny_M_first : MethodName := ⟨"DrillRowsModel", "first", "(III)I"⟩
abbrev ny_M_isDue : MethodName := ⟨"DrillRowsModel", "isDue", "(II)Z"⟩
abbrev ny_M_look : MethodName := ⟨"DrillRowsModel", "look", "(I)I"⟩
abbrev ny_M_begin : MethodName := ⟨"DrillRowsModel", "begin", "()I"⟩
abbrev ny_M_isDrill : MethodName := ⟨"DrillRowsModel", "isDrill", "(I)Z"⟩
abbrev ny_M_stop : MethodName := ⟨"DrillRowsModel", "stop", "(I)V"⟩
abbrev ny_M_unit : MethodName := ⟨"DrillRowsModel", "unit", "(II)V"⟩
abbrev ny_M_real : MethodName := ⟨"DrillRowsModel", "real", "(I)I"⟩
abbrev ny_M_does : MethodName := ⟨"DrillRowsModel", "does", "(II)I"⟩
abbrev ny_M_act : MethodName := ⟨"DrillRowsModel", "act", "(II)I"⟩
abbrev ny_M_play : MethodName := ⟨"DrillRowsModel", "play", "(II)I"⟩
abbrev ny_M_tick : MethodName := ⟨"DrillRowsModel", "tick", "(I)I"⟩
abbrev ny_M_event : MethodName := ⟨"DrillRowsModel", "event", "(III)I"⟩
abbrev ny_M_seen : MethodName := ⟨"DrillRowsModel", "seen", "(III)I"⟩
abbrev ny_M_fault : MethodName := ⟨"DrillRowsModel", "fault", "(II)Z"⟩
abbrev ny_M_is : MethodName := ⟨"DrillRowsModel", "is", "(II)I"⟩
abbrev ny_M_aim : MethodName := ⟨"DrillRowsModel", "aim", "(II)I"⟩
abbrev ny_M_score : MethodName := ⟨"DrillRowsModel", "score", "(II)I"⟩
abbrev ny_M_compare : MethodName := ⟨"DrillRowsModel", "compare", "(II)I"⟩
abbrev ny_M_observe : MethodName := ⟨"DrillRowsModel", "observe", "(III)I"⟩
abbrev ny_M_row : MethodName := ⟨"DrillRowsModel", "row", "(II)I"⟩
abbrev ny_M_drill : MethodName := ⟨"DrillRowsModel", "drill", "(II)I"⟩
abbrev ny_D_init : MethodName := ⟨"DrillRows$Drill", "<init>", "(LDrillRows$Script;I)V"⟩
abbrev ny_D_drillSecond : MethodName := ⟨"DrillRows$Drill", "drillSecond", "(I)I"⟩
abbrev ny_D_beginOf : MethodName := ⟨"DrillRows$Drill", "beginOf", "(I)I"⟩
abbrev ny_D_hasRoomForAct : MethodName := ⟨"DrillRows$Drill", "hasRoomForAct", "()Z"⟩
abbrev ny_D_noteAct : MethodName := ⟨"DrillRows$Drill", "noteAct", "(II)V"⟩
abbrev ny_D_beginDueEvents : MethodName := ⟨"DrillRows$Drill", "beginDueEvents", "(I)I"⟩
abbrev ny_D_dueSecond : MethodName := ⟨"DrillRows$Drill", "dueSecond", "(I)I"⟩
abbrev ny_D_firstSecondOf : MethodName := ⟨"DrillRows$Drill", "firstSecondOf", "(I)I"⟩
abbrev ny_D_eventSeenBy : MethodName := ⟨"DrillRows$Drill", "eventSeenBy", "(II)I"⟩
abbrev ny_D_maySee : MethodName := ⟨"DrillRows$Drill", "maySee", "(II)Z"⟩
abbrev ny_D_hasBegunFault : MethodName := ⟨"DrillRows$Drill", "hasBegunFault", "(I)Z"⟩
abbrev ny_D_stateOfAim : MethodName := ⟨"DrillRows$Drill", "stateOfAim", "(II)I"⟩
abbrev ny_D_hasActWithin : MethodName := ⟨"DrillRows$Drill", "hasActWithin", "(III)Z"⟩
abbrev ny_D_weightOfMetAims : MethodName := ⟨"DrillRows$Drill", "weightOfMetAims", "(I)I"⟩
abbrev ny_S_init : MethodName := ⟨"DrillRows$Script", "<init>", "()V"⟩
abbrev ny_S_clear : MethodName := ⟨"DrillRows$Script", "clear", "()V"⟩
abbrev ny_S_hasEvent : MethodName := ⟨"DrillRows$Script", "hasEvent", "(I)Z"⟩
abbrev ny_S_hasAim : MethodName := ⟨"DrillRows$Script", "hasAim", "(I)Z"⟩
abbrev ny_S_addEvent : MethodName := ⟨"DrillRows$Script", "addEvent", "(IIII)V"⟩
abbrev ny_S_describeEvent : MethodName := ⟨"DrillRows$Script", "describeEvent", "(IIZI)V"⟩
abbrev ny_S_addAim : MethodName := ⟨"DrillRows$Script", "addAim", "(IIIII)V"⟩
abbrev ny_S_weightOfAims : MethodName := ⟨"DrillRows$Script", "weightOfAims", "()I"⟩
abbrev ny_T_init : MethodName := ⟨"DrillRows$Tape", "<init>", "()V"⟩
abbrev ny_T_hasRoomFor : MethodName := ⟨"DrillRows$Tape", "hasRoomFor", "(I)Z"⟩
abbrev ny_T_append : MethodName := ⟨"DrillRows$Tape", "append", "(JI)I"⟩
abbrev ny_T_parseInto : MethodName := ⟨"DrillRows$Tape", "parseInto", "(LDrillRows$Script;)I"⟩
abbrev ny_T_parseRow : MethodName := ⟨"DrillRows$Tape", "parseRow", "(LDrillRows$Script;)V"⟩
abbrev ny_T_parseEvent : MethodName := ⟨"DrillRows$Tape", "parseEvent", "(LDrillRows$Script;)V"⟩
abbrev ny_T_parseAim : MethodName := ⟨"DrillRows$Tape", "parseAim", "(LDrillRows$Script;)V"⟩
abbrev ny_T_parseNumber : MethodName := ⟨"DrillRows$Tape", "parseNumber", "(II)I"⟩
abbrev ny_T_expect : MethodName := ⟨"DrillRows$Tape", "expect", "(C)V"⟩
abbrev ny_T_accept : MethodName := ⟨"DrillRows$Tape", "accept", "(C)Z"⟩
abbrev ny_T_skipBlanks : MethodName := ⟨"DrillRows$Tape", "skipBlanks", "()V"⟩
abbrev ny_T_nextByte : MethodName := ⟨"DrillRows$Tape", "nextByte", "()I"⟩
abbrev ny_T_isDigit : MethodName := ⟨"DrillRows$Tape", "isDigit", "(I)Z"⟩
abbrev ny_T_fail : MethodName := ⟨"DrillRows$Tape", "fail", "(I)V"⟩
abbrev ny_L_sign : MethodName := ⟨"DrillRowsLaw", "sign", "(LDrillRows;JI[J)I"⟩
abbrev ny_L_read : MethodName := ⟨"DrillRowsLaw", "read", "(LDrillRows;[J)I"⟩
abbrev ny_L_begin : MethodName := ⟨"DrillRowsLaw", "begin", "(LDrillRows;[J)I"⟩
abbrev ny_L_stop : MethodName := ⟨"DrillRowsLaw", "stop", "(LDrillRows;I)I"⟩
abbrev ny_L_unit : MethodName := ⟨"DrillRowsLaw", "unit", "(LDrillRows;II)I"⟩
abbrev ny_L_real : MethodName := ⟨"DrillRowsLaw", "real", "(LDrillRows;I[J)I"⟩
abbrev ny_L_act : MethodName := ⟨"DrillRowsLaw", "act", "(LDrillRows;II[J)I"⟩
abbrev ny_L_tick : MethodName := ⟨"DrillRowsLaw", "tick", "(LDrillRows;I[J)I"⟩
abbrev ny_L_event : MethodName := ⟨"DrillRowsLaw", "event", "(LDrillRows;III[J)I"⟩
abbrev ny_L_seen : MethodName := ⟨"DrillRowsLaw", "seen", "(LDrillRows;III[J)I"⟩
abbrev ny_L_fault : MethodName := ⟨"DrillRowsLaw", "fault", "(LDrillRows;II[J)I"⟩
abbrev ny_L_aim : MethodName := ⟨"DrillRowsLaw", "aim", "(LDrillRows;II[J)I"⟩
abbrev ny_L_score : MethodName := ⟨"DrillRowsLaw", "score", "(LDrillRows;II[J)I"⟩
abbrev ny_L_compare : MethodName := ⟨"DrillRowsLaw", "compare", "(LDrillRows;II[J)I"⟩
abbrev ny_L_observe : MethodName := ⟨"DrillRowsLaw", "observe", "(LDrillRows;III[J)I"⟩
abbrev ny_L_row : MethodName := ⟨"DrillRowsLaw", "row", "(LDrillRows;II[J)I"⟩
abbrev ny_L_play : MethodName := ⟨"DrillRowsLaw", "play", "(LDrillRows;II[J)I"⟩
abbrev ny_L_drill : MethodName := ⟨"DrillRowsLaw", "drill", "(LDrillRows;II[J)I"⟩
abbrev ny_L_law : MethodName := ⟨"DrillRowsLaw", "law", "([I)Z"⟩
abbrev ny_N_min : MethodName := ⟨"java/lang/Math", "min", "(II)I"⟩
abbrev ny_A_fill : MethodName := ⟨"java/util/Arrays", "fill", "([II)V"⟩
theorem dr_dd {code : ByteArray} {L : List (Nat × Instr × Nat)} (h : ∀ q ∈ L, decode code q.1 = .ok (q.2.1, q.2.2)) (k : Nat) {pc n : Nat} {i : Instr} (e : L[k]? = some (pc, i, n)) : decode code pc = .ok (i, n) := h (pc, i, n) (List.mem_of_getElem? e)
end
section
/-! ===== the room that the claim gives; frames and words: a base, and a step for each call ===== -/
def dr_CC : Nat := room_1.cells
def dr_SC : Nat := room_1.slots
/-! ===== a heap by numbers, and one judgement of a method's road over it ===== -/
/-- a thing: its kind (below 100: the number of its class in vwCl; 100 + c: an array of the code c; from 200 on: nothing is said), how many places, what they hold -/
abbrev dr_AO : Type := Nat × Nat × (Nat → Value)
/-- a heap: how many cells have been made, how many slots they have, what lies under each number (0: the script; 1, 2, ..: the cells in the order of their making) -/
abbrev dr_AH : Type := Nat × Nat × (Nat → dr_AO)
/-- an end: an answer, or the class of an exception and the number of its cell -/
abbrev dr_RS : Type := Option Value ⊕ (String × Nat)
/-- program, launch, environment, the law's start, the script's address, the classes' ids, the fields' slots -/
abbrev dr_Gt : Type := Program × Launch × Env × State × Nat × (Nat → ClassId) × (Nat → Nat → Nat)
abbrev dr_Gt.p (G : dr_Gt) : Program := G.1
abbrev dr_Gt.l (G : dr_Gt) : Launch := G.2.1
abbrev dr_Gt.e (G : dr_Gt) : Env := G.2.2.1
abbrev dr_Gt.s (G : dr_Gt) : State := G.2.2.2.1
abbrev dr_Gt.b (G : dr_Gt) : Nat := G.2.2.2.2.1
abbrev dr_Gt.dC (G : dr_Gt) : Nat → ClassId := G.2.2.2.2.2.1
abbrev dr_Gt.dI (G : dr_Gt) : Nat → Nat → Nat := G.2.2.2.2.2.2
def dr_ad (G : dr_Gt) : Nat → Nat
  | 0 => G.b
  | k + 1 => G.s.heap.size + k
def dr_tr (G : dr_Gt) : Value → Value
  | .ref k => .ref (dr_ad G k)
  | .int x => .int x
  | .long x => .long x
  | .float x => .float x
  | .double x => .double x
  | .null => .null
  | .retAddr x => .retAddr x
theorem dr_ad_inj {G : dr_Gt} (hb : G.b < G.s.heap.size) {a c : Nat} (h : dr_ad G a = dr_ad G c) : a = c := by
  cases a <;> cases c <;> simp only [dr_ad] at h <;> omega
theorem dr_tr_cat (G : dr_Gt) (v : Value) : (dr_tr G v).category = v.category := by cases v <;> rfl
/-- a method: its name, code, locals, answer's type, table of handlers -/
abbrev dr_MI : Type := MethodName × ByteArray × Nat × Option FieldType × List (Nat × Nat × Nat × Nat)
abbrev dr_MI.y (M : dr_MI) : MethodName := M.1
abbrev dr_MI.own (M : dr_MI) : String := M.1.cls
abbrev dr_MI.code (M : dr_MI) : ByteArray := M.2.1
abbrev dr_MI.maxL (M : dr_MI) : Nat := M.2.2.1
abbrev dr_MI.ret (M : dr_MI) : Option FieldType := M.2.2.2.1
abbrev dr_MI.tab (M : dr_MI) : List (Nat × Nat × Nat × Nat) := M.2.2.2.2
/-- array codes -/
def dr_nm (ci : Nat) : String := match vwCl[ci]? with
  | some q => q.1
  | none => ""
def dr_ty (c : Nat) : FieldType :=
  if c = 0 then .int else if c = 1 then .long else if c = 2 then .boolean else if c = 3 then .byte else if c = 4 then .char else .object (dr_nm (c - 10))
def dr_ka (G : dr_Gt) (c : Nat) (cell : Cell) : Prop :=
  G.s.isArrayOf cell (dr_ty c) ∧ (10 ≤ c → ∃ kA : Class, G.s.vm.classes[cell.cls]? = some kA ∧ kA.kind = .array (G.dC (c - 10)) (dr_ty c) ∧ ∃ q, vwCl[c - 10]? = some q)
def dr_at (G : dr_Gt) (a : Nat) (o : dr_AO) (H : Heap) : Prop :=
  (o.1 < 100 → ∃ q, vwCl[o.1]? = some q ∧ q.2.2 = o.2.1 ∧ t_OB (dr_ad G a) (G.dC o.1) o.2.1 (G.dI o.1) H (fun k => dr_tr G (o.2.2 k))) ∧
  (100 ≤ o.1 → o.1 < 200 → ∃ cell : Cell, H[dr_ad G a]? = some cell ∧ cell.vm ≠ .unknown ∧ dr_ka G (o.1 - 100) cell ∧ cell.slots.size = o.2.1 ∧ o.2.1 < 2 ^ 31 ∧ ∀ j, j < o.2.1 → cell.slots[j]? = some (dr_tr G (o.2.2 j)))
/-- the heap H is h -/
def dr_C (G : dr_Gt) (h : dr_AH) (H : Heap) : Prop :=
  H.size = G.s.heap.size + h.1 ∧ (∀ q, q < G.s.heap.size → H[q]? = G.s.heap[q]?) ∧ (∀ k, k ≤ h.1 → dr_at G k (h.2.2 k) H) ∧ (∀ k, h.1 < k → 200 ≤ (h.2.2 k).1) ∧ 100 ≤ (h.2.2 0).1 ∧ h.1 ≤ dr_CC ∧ h.2.1 ≤ dr_SC
theorem dr_at.kept {G : dr_Gt} {a : Nat} {o : dr_AO} {H H1 : Heap} (h : dr_at G a o H) (e : H1[dr_ad G a]? = H[dr_ad G a]?) : dr_at G a o H1 := by
  refine ⟨fun h1 => ?_, fun h1 h2 => ?_⟩
  · obtain ⟨q, q1, q2, q3⟩ := h.1 h1
    exact ⟨q, q1, q2, q3.kept e⟩
  · obtain ⟨cell, q1, q2⟩ := h.2 h1 h2
    exact ⟨cell, by rw [e]; exact q1, q2⟩
theorem dr_C.obj {G : dr_Gt} {h : dr_AH} {H : Heap} (hC : dr_C G h H) {a ci : Nat} (hk : (h.2.2 a).1 = ci) (hci : ci < 100) :
    a ≤ h.1 ∧ ∃ q, vwCl[ci]? = some q ∧ q.2.2 = (h.2.2 a).2.1 ∧ t_OB (dr_ad G a) (G.dC ci) (h.2.2 a).2.1 (G.dI ci) H (fun k => dr_tr G ((h.2.2 a).2.2 k)) := by
  have ha : a ≤ h.1 := by
    rcases Nat.lt_or_ge h.1 a with q | q
    · have := hC.2.2.2.1 a q
      omega
    · exact q
  subst hk
  exact ⟨ha, (hC.2.2.1 a ha).1 hci⟩
theorem dr_C.arr {G : dr_Gt} {h : dr_AH} {H : Heap} (hC : dr_C G h H) {a c : Nat} (hk : (h.2.2 a).1 = 100 + c) (hc : c < 100) :
    a ≤ h.1 ∧ ∃ cell : Cell, H[dr_ad G a]? = some cell ∧ cell.vm ≠ .unknown ∧ dr_ka G c cell ∧ cell.slots.size = (h.2.2 a).2.1 ∧ (h.2.2 a).2.1 < 2 ^ 31 ∧ ∀ j, j < (h.2.2 a).2.1 → cell.slots[j]? = some (dr_tr G ((h.2.2 a).2.2 j)) := by
  have ha : a ≤ h.1 := by
    rcases Nat.lt_or_ge h.1 a with q | q
    · have := hC.2.2.2.1 a q
      omega
    · exact q
  have h1 := (hC.2.2.1 a ha).2 (by omega) (by omega)
  rw [show (h.2.2 a).1 - 100 = c by omega] at h1
  exact ⟨ha, h1⟩
/-! the heap's own changes -/
def dr_upd (f : Nat → dr_AO) (a : Nat) (o : dr_AO) : Nat → dr_AO := fun k => if k = a then o else f k
def dr_set (o : dr_AO) (k : Nat) (v : Value) : dr_AO := (o.1, o.2.1, fun j => if j = k then v else o.2.2 j)
/-- the k-th place of the thing a is written -/
def dr_put (h : dr_AH) (a k : Nat) (v : Value) : dr_AH := (h.1, h.2.1, dr_upd h.2.2 a (dr_set (h.2.2 a) k v))
/-- a thing more -/
def dr_push (h : dr_AH) (o : dr_AO) : dr_AH := (h.1 + 1, h.2.1 + o.2.1, dr_upd h.2.2 (h.1 + 1) o)
theorem dr_C.put {G : dr_Gt} (hb : G.b < G.s.heap.size) {h : dr_AH} {H H1 : Heap} (hC : dr_C G h H) {a k : Nat} {v : Value} (ha : a ≤ h.1) (ha0 : 0 < a) (hz : H1.size = H.size) (ho : ∀ q, q ≠ dr_ad G a → H1[q]? = H[q]?)
    (hn : dr_at G a (dr_set (h.2.2 a) k v) H1) : dr_C G (dr_put h a k v) H1 := by
  refine ⟨hz.trans hC.1, fun q hq => ?_, fun j hj => ?_, fun j hj => ?_, ?_, hC.2.2.2.2.2⟩
  · rw [ho q ?_]
    · exact hC.2.1 q hq
    · cases a with
      | zero => omega
      | succ a => simp only [dr_ad]; omega
  · show dr_at G j (dr_upd h.2.2 a _ j) H1
    unfold dr_upd
    by_cases e : j = a
    · rw [if_pos e, e]; exact hn
    · rw [if_neg e]
      exact (hC.2.2.1 j hj).kept (ho _ (fun q => e (dr_ad_inj hb q)))
  · show 200 ≤ (dr_upd h.2.2 a _ j).1
    have hj : h.1 < j := hj
    unfold dr_upd
    rw [if_neg (by omega)]
    exact hC.2.2.2.1 j hj
  · show 100 ≤ (dr_upd h.2.2 a _ 0).1
    unfold dr_upd
    rw [if_neg (by omega)]
    exact hC.2.2.2.2.1
theorem dr_C.push {G : dr_Gt} (hb : G.b < G.s.heap.size) {h : dr_AH} {H H1 : Heap} (hC : dr_C G h H) {o : dr_AO} (hz : H1.size = H.size + 1) (ho : ∀ q, q < H.size → H1[q]? = H[q]?)
    (hn : dr_at G (h.1 + 1) o H1) (hr : h.1 < dr_CC ∧ h.2.1 + o.2.1 ≤ dr_SC) : dr_C G (dr_push h o) H1 := by
  have hz0 := hC.1
  refine ⟨by rw [hz, hz0]; simp only [dr_push]; omega, fun q hq => ?_, fun j hj => ?_, fun j hj => ?_, ?_, hr.1, hr.2⟩
  · rw [ho q (by omega)]; exact hC.2.1 q hq
  · show dr_at G j (dr_upd h.2.2 (h.1 + 1) _ j) H1
    have hj : j ≤ h.1 + 1 := hj
    unfold dr_upd
    by_cases e : j = h.1 + 1
    · rw [if_pos e, e]; exact hn
    · rw [if_neg e]
      refine (hC.2.2.1 j (by omega)).kept (ho _ ?_)
      cases j with
      | zero => simp only [dr_ad]; omega
      | succ j => simp only [dr_ad]; omega
  · show 200 ≤ (dr_upd h.2.2 (h.1 + 1) _ j).1
    have hj : h.1 + 1 < j := hj
    unfold dr_upd
    rw [if_neg (by omega)]
    exact hC.2.2.2.1 j (by omega)
  · show 100 ≤ (dr_upd h.2.2 (h.1 + 1) o 0).1
    unfold dr_upd
    rw [if_neg (by omega)]
    exact hC.2.2.2.2.1
/-! ===== the judgement ===== -/
/-- what the start gives -/
def dr_K (G : dr_Gt) : Prop :=
  G.p.tables.exec = Jvm.exec ∧ (∀ w ∈ lw_tbl, w.before #[Value.ref G.b] G.s = true) ∧ (∀ (c : Nat) (q : vw_C), vwCl[c]? = some q → u_Kn G.s q.1 q.2.1 q.2.2 (G.dC c) (G.dI c)) ∧ G.b < G.s.heap.size ∧ G.l.stackTraces = false ∧ (Jvm.Cond.and given_1 narrow_1).before #[Value.ref G.b] G.s = true
/-- a word of the tables that the start and every later state have -/
def dr_T (w : Cond) : Prop := ∀ (G : dr_Gt) (s : State) (a' : Array Value), dr_K G → G.s.WarmedH s.vm → w.before a' s = true
theorem dr_Tg {w : Cond} (hi : w ∈ lw_tbl) (hg : ((w.onTables && w.keeps) = true ∨ ∃ ty, w = .arrayClass ty)) : dr_T w := fun _ _ _ K hW => word_at hW hg (K.2.1 w hi)
/-- the method at hand -/
def dr_M (G : dr_Gt) (M : dr_MI) (s : State) (m : MethodId) (meth : Method) (c : Code) : Prop :=
  G.s.WarmedH s.vm ∧ s.vm.findClass M.own = some m.cls ∧ c.code = M.code ∧ c.maxLocals = M.maxL ∧ meth.sig.returnType = M.ret ∧ meth.locks = false ∧ meth.name = M.y.name ∧ c.exceptionTable.toList.map (fun x => (x.startPc, x.endPc, x.handlerPc, x.catchType)) = M.tab
/-- so many frames and words are left -/
def dr_R (fr wo : Nat) (R : Room) : Prop := fr ≤ R.frames ∧ wo ≤ R.locals
def dr_tl (G : dr_Gt) (l : List (Nat × Value)) : List (Nat × Value) := l.map (fun q => (q.1, dr_tr G q.2))
/-- all that stands at a point of a road -/
def dr_X (G : dr_Gt) (M : dr_MI) (fr wo : Nat) (R : Room) (s : State) (m : MethodId) (meth : Method) (c : Code) (H : Heap) (locs : List Loc) (cells slots : Nat) (ls : Array Slot) (l : List (Nat × Value)) (h : dr_AH) : Prop :=
  dr_K G ∧ dr_M G M s m meth c ∧ dr_R fr wo R ∧ R.cells + h.1 = dr_CC + cells ∧ R.slots + h.2.1 = dr_SC + slots ∧ (∀ q ∈ locs, G.s.heap.size ≤ q.base) ∧ dr_C G h H ∧ lv_has ls M.maxL (dr_tl G l)
def dr_O (G : dr_Gt) (o : Outcome) (r : dr_RS) (h : dr_AH) (H : Heap) : Prop := match r with
  | .inl v => o = .returned (v.map (dr_tr G))
  | .inr x => o = .threw (dr_ad G x.2) ∧ 1 ≤ x.2 ∧ x.2 ≤ h.1 ∧ ∃ ce : Cell, H[dr_ad G x.2]? = some ce ∧ ce.vm = .none ∧ G.s.vm.findClass x.1 = some ce.cls
def dr_E (G : dr_Gt) (R : Room) (s : State) (below : List Frame) (Q : dr_RS → dr_AH → Prop) : State → Prop := fun t =>
  ∃ (o : Outcome) (r : dr_RS) (h : dr_AH) (L : List Loc) (k n : Nat), t.status = .running ∧ Ended t below o ∧ s.WarmedH t.vm ∧ s.sameButNew ({ t with vm := s.vm } : State) L k n ∧ (∀ q ∈ L, G.s.heap.size ≤ q.base) ∧
    R.cells + h.1 = dr_CC + k ∧ R.slots + h.2.1 = dr_SC + n ∧ dr_C G h t.heap ∧ dr_O G o r h t.heap ∧ Q r h
/-- from pc on, with the locals l, the operands st, the heap h: the method ends, with an end and a heap of Q -/
def dr_W (M : dr_MI) (fr wo pc : Nat) (l : List (Nat × Value)) (st : List Value) (h : dr_AH) (Q : dr_RS → dr_AH → Prop) : Prop :=
  ∀ (G : dr_Gt) (R : Room) (s : State) (m : MethodId) (args : Array Value) (below : List Frame) (meth : Method) (c : Code) (H : Heap) (locs : List Loc) (cells slots : Nat) (ls : Array Slot),
    dr_X G M fr wo R s m meth c H locs cells slots ls l h → W G.p G.l G.e R s m args below meth c H locs cells slots (dr_E G R s below Q) (F0 m pc ls (st.map (dr_tr G)))
/-- .. with the exception under the number q, of class E, thrown over the frame -/
def dr_V (M : dr_MI) (fr wo pc : Nat) (l : List (Nat × Value)) (st : List Value) (E : String) (q : Nat) (h : dr_AH) (Q : dr_RS → dr_AH → Prop) : Prop :=
  ∀ (G : dr_Gt) (R : Room) (s : State) (m : MethodId) (args : Array Value) (below : List Frame) (meth : Method) (c : Code) (H : Heap) (locs : List Loc) (cells slots : Nat) (ls : Array Slot),
    dr_X G M fr wo R s m meth c H locs cells slots ls l h → 1 ≤ q → q ≤ h.1 → (∃ ce : Cell, H[dr_ad G q]? = some ce ∧ ce.vm = .none ∧ G.s.vm.findClass E = some ce.cls) →
      ∀ T : State, T.heap = H → Stand G.p G.l G.e R s m args below meth c T locs cells slots → ∃ t, Steps G.p.tables G.e below ((T.setTop (F0 m pc ls (st.map (dr_tr G)))).pushFrame (.throwing (dr_ad G q))) t ∧ dr_E G R s below Q t
/-- the function's value is some end, and it is of Q -/
def dr_p (o : Option (dr_RS × dr_AH)) (Q : dr_RS → dr_AH → Prop) : Prop := ∃ r, o = some r ∧ Q r.1 r.2
theorem dr_p0 {Q : dr_RS → dr_AH → Prop} (h : dr_p none Q) : False := by obtain ⟨r, h, -⟩ := h; cases h
section DRX
variable {G : dr_Gt} {M : dr_MI} {fr wo pc : Nat} {R : Room} {s : State} {m : MethodId} {args : Array Value} {below : List Frame} {meth : Method} {c : Code} {H : Heap} {locs : List Loc} {cells slots : Nat} {ls : Array Slot} {l : List (Nat × Value)} {h : dr_AH}
theorem dr_X.exec (X : dr_X G M fr wo R s m meth c H locs cells slots ls l h) : G.p.tables.exec = Jvm.exec := X.1.1
theorem dr_X.bytes (X : dr_X G M fr wo R s m meth c H locs cells slots ls l h) : c.code = M.code := X.2.1.2.2.1
theorem dr_X.warm (X : dr_X G M fr wo R s m meth c H locs cells slots ls l h) : G.s.WarmedH s.vm := X.2.1.1
theorem dr_X.own (X : dr_X G M fr wo R s m meth c H locs cells slots ls l h) : s.vm.findClass M.own = some m.cls := X.2.1.2.1
theorem dr_X.maxL (X : dr_X G M fr wo R s m meth c H locs cells slots ls l h) : c.maxLocals = M.maxL := X.2.1.2.2.2.1
theorem dr_X.rets (X : dr_X G M fr wo R s m meth c H locs cells slots ls l h) : meth.sig.returnType = M.ret := X.2.1.2.2.2.2.1
theorem dr_X.locks (X : dr_X G M fr wo R s m meth c H locs cells slots ls l h) : meth.locks = false := X.2.1.2.2.2.2.2.1
theorem dr_X.name (X : dr_X G M fr wo R s m meth c H locs cells slots ls l h) : meth.name = M.y.name := X.2.1.2.2.2.2.2.2.1
theorem dr_X.tab (X : dr_X G M fr wo R s m meth c H locs cells slots ls l h) : c.exceptionTable.toList.map (fun x => (x.startPc, x.endPc, x.handlerPc, x.catchType)) = M.tab := X.2.1.2.2.2.2.2.2.2
theorem dr_X.room (X : dr_X G M fr wo R s m meth c H locs cells slots ls l h) : dr_R fr wo R := X.2.2.1
theorem dr_X.cellsE (X : dr_X G M fr wo R s m meth c H locs cells slots ls l h) : R.cells + h.1 = dr_CC + cells := X.2.2.2.1
theorem dr_X.slotsE (X : dr_X G M fr wo R s m meth c H locs cells slots ls l h) : R.slots + h.2.1 = dr_SC + slots := X.2.2.2.2.1
theorem dr_X.locsE (X : dr_X G M fr wo R s m meth c H locs cells slots ls l h) : ∀ q ∈ locs, G.s.heap.size ≤ q.base := X.2.2.2.2.2.1
theorem dr_X.heap (X : dr_X G M fr wo R s m meth c H locs cells slots ls l h) : dr_C G h H := X.2.2.2.2.2.2.1
theorem dr_X.lsE (X : dr_X G M fr wo R s m meth c H locs cells slots ls l h) : lv_has ls M.maxL (dr_tl G l) := X.2.2.2.2.2.2.2
theorem dr_X.bs (X : dr_X G M fr wo R s m meth c H locs cells slots ls l h) : G.b < G.s.heap.size := X.1.2.2.2.1
theorem dr_X.setL (X : dr_X G M fr wo R s m meth c H locs cells slots ls l h) {ls' : Array Slot} {l' : List (Nat × Value)} (hl : lv_has ls' M.maxL (dr_tl G l')) : dr_X G M fr wo R s m meth c H locs cells slots ls' l' h :=
  ⟨X.1, X.2.1, X.room, X.cellsE, X.slotsE, X.locsE, X.heap, hl⟩
theorem dr_X.setH (X : dr_X G M fr wo R s m meth c H locs cells slots ls l h) {H' : Heap} {locs' : List Loc} {h' : dr_AH} (h1 : h'.1 = h.1) (h2 : h'.2.1 = h.2.1) (hl : ∀ q ∈ locs', G.s.heap.size ≤ q.base) (hC : dr_C G h' H') : dr_X G M fr wo R s m meth c H' locs' cells slots ls l h' :=
  ⟨X.1, X.2.1, X.room, by rw [h1]; exact X.cellsE, by rw [h2]; exact X.slotsE, hl, hC, X.lsE⟩
/-- a word of the tables, here -/
theorem dr_X.word (X : dr_X G M fr wo R s m meth c H locs cells slots ls l h) {w : Cond} (hw : dr_T w) {a' : Array Value} : w.before a' s = true := hw G s a' X.1 X.warm
theorem dr_X.at (X : dr_X G M fr wo R s m meth c H locs cells slots ls l h) {i k : Nat} {v : Value} (hk : l[k]? = some (i, v)) : ls[i]? = some (.val (dr_tr G v)) :=
  lv_at X.lsE k (by unfold dr_tl; rw [List.getElem?_map, hk]; rfl)
theorem dr_X.known (X : dr_X G M fr wo R s m meth c H locs cells slots ls l h) {ci : Nat} {q : vw_C} (hq : vwCl[ci]? = some q) : u_Kn s q.1 q.2.1 q.2.2 (G.dC ci) (G.dI ci) := u_Kn_moved X.warm.alike (X.1.2.2.1 ci q hq)
end DRX
/-! locals -/
def dr_st (l : List (Nat × Value)) (i : Nat) (v : Value) : List (Nat × Value) := (i, v) :: l.filter (fun q => !(q.1 == i) && !(q.1 + 1 == i && q.2.category == 2))
def dr_st2 (l : List (Nat × Value)) (i : Nat) (v : Value) : List (Nat × Value) := (i, v) :: l.filter (fun q => !(q.1 == i) && (!(q.1 == i + 1) && !(q.1 + 1 == i && q.2.category == 2)))
theorem dr_st_tl (G : dr_Gt) (l : List (Nat × Value)) (i : Nat) (v : Value) : (i, dr_tr G v) :: (dr_tl G l).filter (fun q => !(q.1 == i) && !(q.1 + 1 == i && q.2.category == 2)) = dr_tl G (dr_st l i v) := by
  unfold dr_tl dr_st
  rw [List.map_cons, List.filter_map]
  congr 3
  funext q
  simp only [Function.comp, dr_tr_cat]
theorem dr_st2_tl (G : dr_Gt) (l : List (Nat × Value)) (i : Nat) (v : Value) : (i, dr_tr G v) :: (dr_tl G l).filter (fun q => !(q.1 == i) && (!(q.1 == i + 1) && !(q.1 + 1 == i && q.2.category == 2))) = dr_tl G (dr_st2 l i v) := by
  unfold dr_tl dr_st2
  rw [List.map_cons, List.filter_map]
  congr 3
  funext q
  simp only [Function.comp, dr_tr_cat]
end
section
/-! ===== a row an instruction ===== -/
section DRW
variable {M : dr_MI} {fr wo pc : Nat} {l : List (Nat × Value)} {st : List Value} {h : dr_AH} {Q : dr_RS → dr_AH → Prop}
theorem wp_iconst {n : Int} {v : Int32} (hv : Int32.ofInt n = v) (hd : decode M.code pc = .ok (.iconst n, 1)) (k : dr_W M fr wo (pc + 1) l (.int v :: st) h Q) : dr_W M fr wo pc l (st) h Q := fun G R s m args below meth c H locs cells slots ls X => lv_iconst X.exec X.bytes hd hv (k G R s m args below meth c H locs cells slots ls X)
theorem wp_bipush {n : Int} {v : Int32} (hv : (Int8.ofInt n).toInt32 = v) (hd : decode M.code pc = .ok (.bipush n, 2)) (k : dr_W M fr wo (pc + 2) l (.int v :: st) h Q) : dr_W M fr wo pc l (st) h Q := fun G R s m args below meth c H locs cells slots ls X => lv_bipush X.exec X.bytes hd hv (k G R s m args below meth c H locs cells slots ls X)
theorem wp_sipush {n : Int} {v : Int32} (hv : (Int16.ofInt n).toInt32 = v) (hd : decode M.code pc = .ok (.sipush n, 3)) (k : dr_W M fr wo (pc + 3) l (.int v :: st) h Q) : dr_W M fr wo pc l (st) h Q := fun G R s m args below meth c H locs cells slots ls X => lv_sipush X.exec X.bytes hd hv (k G R s m args below meth c H locs cells slots ls X)
theorem wp_lconst {n : Fin 2} {v : Int64} (hv : Int64.ofNat (n : Nat) = v) (hd : decode M.code pc = .ok (.lconst n, 1)) (k : dr_W M fr wo (pc + 1) l (.long v :: st) h Q) : dr_W M fr wo pc l (st) h Q := fun G R s m args below meth c H locs cells slots ls X => lv_lconst X.exec X.bytes hd hv (k G R s m args below meth c H locs cells slots ls X)
theorem wp_ldc {i : Nat} {v : Int32} (hw : dr_T (.constant M.own i v)) (hd : decode M.code pc = .ok (.ldc i, 2)) (k : dr_W M fr wo (pc + 2) l (.int v :: st) h Q) : dr_W M fr wo pc l (st) h Q := fun G R s m args below meth c H locs cells slots ls X => lv_ldc X.exec X.bytes X.own (X.word hw) hd (k G R s m args below meth c H locs cells slots ls X)
theorem wp_ldcw {i : Nat} {v : Int32} (hw : dr_T (.constant M.own i v)) (hd : decode M.code pc = .ok (.ldc_w i, 3)) (k : dr_W M fr wo (pc + 3) l (.int v :: st) h Q) : dr_W M fr wo pc l (st) h Q := fun G R s m args below meth c H locs cells slots ls X => lv_ldcw X.exec X.bytes X.own (X.word hw) hd (k G R s m args below meth c H locs cells slots ls X)
theorem wp_ldc2 {i : Nat} {v : Int64} (hw : dr_T (.constantLong M.own i v)) (hd : decode M.code pc = .ok (.ldc2_w i, 3)) (k : dr_W M fr wo (pc + 3) l (.long v :: st) h Q) : dr_W M fr wo pc l (st) h Q := fun G R s m args below meth c H locs cells slots ls X => lv_ldc2 X.exec X.bytes X.own (X.word hw) hd (k G R s m args below meth c H locs cells slots ls X)
theorem wp_null  (hd : decode M.code pc = .ok (.aconst_null, 1)) (k : dr_W M fr wo (pc + 1) l (.null :: st) h Q) : dr_W M fr wo pc l (st) h Q := fun G R s m args below meth c H locs cells slots ls X => lv_null X.exec X.bytes hd (k G R s m args below meth c H locs cells slots ls X)
theorem wp_iload_n {k' : Fin 4} {x : Int32} (j : Nat) (hj : l[j]? = some ((k' : Nat), .int x)) (hd : decode M.code pc = .ok (.iload_n k', 1)) (k : dr_W M fr wo (pc + 1) l (.int x :: st) h Q) : dr_W M fr wo pc l (st) h Q := fun G R s m args below meth c H locs cells slots ls X => lv_iload_n X.exec X.bytes hd rfl (X.at hj) (k G R s m args below meth c H locs cells slots ls X)
theorem wp_iload {i : Nat} {x : Int32} (j : Nat) (hj : l[j]? = some (i, .int x)) (hd : decode M.code pc = .ok (.iload i, 2)) (k : dr_W M fr wo (pc + 2) l (.int x :: st) h Q) : dr_W M fr wo pc l (st) h Q := fun G R s m args below meth c H locs cells slots ls X => lv_iload X.exec X.bytes hd (X.at hj) (k G R s m args below meth c H locs cells slots ls X)
theorem wp_lload_n {k' : Fin 4} {x : Int64} (j : Nat) (hj : l[j]? = some ((k' : Nat), .long x)) (hd : decode M.code pc = .ok (.lload_n k', 1)) (k : dr_W M fr wo (pc + 1) l (.long x :: st) h Q) : dr_W M fr wo pc l (st) h Q := fun G R s m args below meth c H locs cells slots ls X => lv_lload_n X.exec X.bytes hd rfl (X.at hj) (k G R s m args below meth c H locs cells slots ls X)
theorem wp_lload {i : Nat} {x : Int64} (j : Nat) (hj : l[j]? = some (i, .long x)) (hd : decode M.code pc = .ok (.lload i, 2)) (k : dr_W M fr wo (pc + 2) l (.long x :: st) h Q) : dr_W M fr wo pc l (st) h Q := fun G R s m args below meth c H locs cells slots ls X => lv_lload X.exec X.bytes hd (X.at hj) (k G R s m args below meth c H locs cells slots ls X)
theorem wp_aload_n {k' : Fin 4} {x : Nat} (j : Nat) (hj : l[j]? = some ((k' : Nat), .ref x)) (hd : decode M.code pc = .ok (.aload_n k', 1)) (k : dr_W M fr wo (pc + 1) l (.ref x :: st) h Q) : dr_W M fr wo pc l (st) h Q := fun G R s m args below meth c H locs cells slots ls X => lv_aload_n X.exec X.bytes hd rfl (X.at hj) (k G R s m args below meth c H locs cells slots ls X)
theorem wp_aload {i : Nat} {x : Nat} (j : Nat) (hj : l[j]? = some (i, .ref x)) (hd : decode M.code pc = .ok (.aload i, 2)) (k : dr_W M fr wo (pc + 2) l (.ref x :: st) h Q) : dr_W M fr wo pc l (st) h Q := fun G R s m args below meth c H locs cells slots ls X => lv_aload X.exec X.bytes hd (X.at hj) (k G R s m args below meth c H locs cells slots ls X)
theorem wp_aload_nN {k' : Fin 4} (j : Nat) (hj : l[j]? = some ((k' : Nat), .null)) (hd : decode M.code pc = .ok (.aload_n k', 1)) (k : dr_W M fr wo (pc + 1) l (.null :: st) h Q) : dr_W M fr wo pc l (st) h Q := fun G R s m args below meth c H locs cells slots ls X => lv_aload_nN X.exec X.bytes hd rfl (X.at hj) (k G R s m args below meth c H locs cells slots ls X)
theorem wp_aloadN {i : Nat} (j : Nat) (hj : l[j]? = some (i, .null)) (hd : decode M.code pc = .ok (.aload i, 2)) (k : dr_W M fr wo (pc + 2) l (.null :: st) h Q) : dr_W M fr wo pc l (st) h Q := fun G R s m args below meth c H locs cells slots ls X => lv_aloadN X.exec X.bytes hd (X.at hj) (k G R s m args below meth c H locs cells slots ls X)
theorem wp_istore_n {k' : Fin 4} {x : Int32} {l' : List (Nat × Value)} (hd : decode M.code pc = .ok (.istore_n k', 1)) (hn : (k' : Nat) < M.maxL) (hl : dr_st l (k' : Nat) (.int x) = l') (k : dr_W M fr wo (pc + 1) l' st h Q) : dr_W M fr wo pc l (.int x :: st) h Q := fun G R s m args below meth c H locs cells slots ls X => by
  subst hl
  exact lv_istore_n X.exec X.bytes hd rfl X.lsE hn (dr_st_tl G l (k' : Nat) (Value.int x)) (fun ls' hl' => k G R s m args below meth c H locs cells slots ls' (X.setL hl'))
theorem wp_istore {i : Nat} {x : Int32} {l' : List (Nat × Value)} (hd : decode M.code pc = .ok (.istore i, 2)) (hn : i < M.maxL) (hl : dr_st l i (.int x) = l') (k : dr_W M fr wo (pc + 2) l' st h Q) : dr_W M fr wo pc l (.int x :: st) h Q := fun G R s m args below meth c H locs cells slots ls X => by
  subst hl
  exact lv_istore X.exec X.bytes hd  X.lsE hn (dr_st_tl G l i (Value.int x)) (fun ls' hl' => k G R s m args below meth c H locs cells slots ls' (X.setL hl'))
theorem wp_lstore_n {k' : Fin 4} {x : Int64} {l' : List (Nat × Value)} (hd : decode M.code pc = .ok (.lstore_n k', 1)) (hn : (k' : Nat) + 1 < M.maxL) (hl : dr_st2 l (k' : Nat) (.long x) = l') (k : dr_W M fr wo (pc + 1) l' st h Q) : dr_W M fr wo pc l (.long x :: st) h Q := fun G R s m args below meth c H locs cells slots ls X => by
  subst hl
  exact lv_lstore_n X.exec X.bytes hd rfl X.lsE hn (dr_st2_tl G l (k' : Nat) (Value.long x)) (fun ls' hl' => k G R s m args below meth c H locs cells slots ls' (X.setL hl'))
theorem wp_lstore {i : Nat} {x : Int64} {l' : List (Nat × Value)} (hd : decode M.code pc = .ok (.lstore i, 2)) (hn : i + 1 < M.maxL) (hl : dr_st2 l i (.long x) = l') (k : dr_W M fr wo (pc + 2) l' st h Q) : dr_W M fr wo pc l (.long x :: st) h Q := fun G R s m args below meth c H locs cells slots ls X => by
  subst hl
  exact lv_lstore X.exec X.bytes hd  X.lsE hn (dr_st2_tl G l i (Value.long x)) (fun ls' hl' => k G R s m args below meth c H locs cells slots ls' (X.setL hl'))
theorem wp_astore_n {k' : Fin 4} {x : Nat} {l' : List (Nat × Value)} (hd : decode M.code pc = .ok (.astore_n k', 1)) (hn : (k' : Nat) < M.maxL) (hl : dr_st l (k' : Nat) (.ref x) = l') (k : dr_W M fr wo (pc + 1) l' st h Q) : dr_W M fr wo pc l (.ref x :: st) h Q := fun G R s m args below meth c H locs cells slots ls X => by
  subst hl
  exact lv_astore_n X.exec X.bytes hd rfl X.lsE hn (dr_st_tl G l (k' : Nat) (Value.ref x)) (fun ls' hl' => k G R s m args below meth c H locs cells slots ls' (X.setL hl'))
theorem wp_astore {i : Nat} {x : Nat} {l' : List (Nat × Value)} (hd : decode M.code pc = .ok (.astore i, 2)) (hn : i < M.maxL) (hl : dr_st l i (.ref x) = l') (k : dr_W M fr wo (pc + 2) l' st h Q) : dr_W M fr wo pc l (.ref x :: st) h Q := fun G R s m args below meth c H locs cells slots ls X => by
  subst hl
  exact lv_astore X.exec X.bytes hd  X.lsE hn (dr_st_tl G l i (Value.ref x)) (fun ls' hl' => k G R s m args below meth c H locs cells slots ls' (X.setL hl'))
theorem wp_astore_nN {k' : Fin 4}  {l' : List (Nat × Value)} (hd : decode M.code pc = .ok (.astore_n k', 1)) (hn : (k' : Nat) < M.maxL) (hl : dr_st l (k' : Nat) (.null) = l') (k : dr_W M fr wo (pc + 1) l' st h Q) : dr_W M fr wo pc l (.null :: st) h Q := fun G R s m args below meth c H locs cells slots ls X => by
  subst hl
  exact lv_astore_nN X.exec X.bytes hd rfl X.lsE hn (dr_st_tl G l (k' : Nat) (Value.null)) (fun ls' hl' => k G R s m args below meth c H locs cells slots ls' (X.setL hl'))
theorem wp_astoreN {i : Nat}  {l' : List (Nat × Value)} (hd : decode M.code pc = .ok (.astore i, 2)) (hn : i < M.maxL) (hl : dr_st l i (.null) = l') (k : dr_W M fr wo (pc + 2) l' st h Q) : dr_W M fr wo pc l (.null :: st) h Q := fun G R s m args below meth c H locs cells slots ls X => by
  subst hl
  exact lv_astoreN X.exec X.bytes hd  X.lsE hn (dr_st_tl G l i (Value.null)) (fun ls' hl' => k G R s m args below meth c H locs cells slots ls' (X.setL hl'))
theorem wp_iinc {i : Nat} {n : Int} {x v : Int32} {l' : List (Nat × Value)} (j : Nat) (hj : l[j]? = some (i, .int x)) (hv : x + Int32.ofInt n = v) (hd : decode M.code pc = .ok (.iinc i n, 3)) (hn : i < M.maxL) (hl : dr_st l i (.int v) = l') (k : dr_W M fr wo (pc + 3) l' st h Q) : dr_W M fr wo pc l st h Q := fun G R s m args below meth c H locs cells slots ls X => by
  subst hl
  exact lv_iinc X.exec X.bytes hd X.lsE (k := j) (by unfold dr_tl; rw [List.getElem?_map, hj]; rfl) hv hn (dr_st_tl G l i (Value.int v)) (fun ls' hl' => k G R s m args below meth c H locs cells slots ls' (X.setL hl'))
theorem wp_iadd {x y : Int32} (hd : decode M.code pc = .ok (.iadd, 1)) (k : dr_W M fr wo (pc + 1) l (.int (x + y) :: st) h Q) : dr_W M fr wo pc l (.int y :: .int x :: st) h Q := fun G R s m args below meth c H locs cells slots ls X => lv_iadd X.exec X.bytes hd (k G R s m args below meth c H locs cells slots ls X)
theorem wp_isub {x y : Int32} (hd : decode M.code pc = .ok (.isub, 1)) (k : dr_W M fr wo (pc + 1) l (.int (x - y) :: st) h Q) : dr_W M fr wo pc l (.int y :: .int x :: st) h Q := fun G R s m args below meth c H locs cells slots ls X => lv_isub X.exec X.bytes hd (k G R s m args below meth c H locs cells slots ls X)
theorem wp_imul {x y : Int32} (hd : decode M.code pc = .ok (.imul, 1)) (k : dr_W M fr wo (pc + 1) l (.int (x * y) :: st) h Q) : dr_W M fr wo pc l (.int y :: .int x :: st) h Q := fun G R s m args below meth c H locs cells slots ls X => lv_imul X.exec X.bytes hd (k G R s m args below meth c H locs cells slots ls X)
theorem wp_iand {x y : Int32} (hd : decode M.code pc = .ok (.iand, 1)) (k : dr_W M fr wo (pc + 1) l (.int (x &&& y) :: st) h Q) : dr_W M fr wo pc l (.int y :: .int x :: st) h Q := fun G R s m args below meth c H locs cells slots ls X => lv_iand X.exec X.bytes hd (k G R s m args below meth c H locs cells slots ls X)
theorem wp_ior {x y : Int32} (hd : decode M.code pc = .ok (.ior, 1)) (k : dr_W M fr wo (pc + 1) l (.int (x ||| y) :: st) h Q) : dr_W M fr wo pc l (.int y :: .int x :: st) h Q := fun G R s m args below meth c H locs cells slots ls X => lv_ior X.exec X.bytes hd (k G R s m args below meth c H locs cells slots ls X)
theorem wp_ixor {x y : Int32} (hd : decode M.code pc = .ok (.ixor, 1)) (k : dr_W M fr wo (pc + 1) l (.int (x ^^^ y) :: st) h Q) : dr_W M fr wo pc l (.int y :: .int x :: st) h Q := fun G R s m args below meth c H locs cells slots ls X => lv_ixor X.exec X.bytes hd (k G R s m args below meth c H locs cells slots ls X)
theorem wp_ladd {x y : Int64} (hd : decode M.code pc = .ok (.ladd, 1)) (k : dr_W M fr wo (pc + 1) l (.long (x + y) :: st) h Q) : dr_W M fr wo pc l (.long y :: .long x :: st) h Q := fun G R s m args below meth c H locs cells slots ls X => lv_ladd X.exec X.bytes hd (k G R s m args below meth c H locs cells slots ls X)
theorem wp_lsub {x y : Int64} (hd : decode M.code pc = .ok (.lsub, 1)) (k : dr_W M fr wo (pc + 1) l (.long (x - y) :: st) h Q) : dr_W M fr wo pc l (.long y :: .long x :: st) h Q := fun G R s m args below meth c H locs cells slots ls X => lv_lsub X.exec X.bytes hd (k G R s m args below meth c H locs cells slots ls X)
theorem wp_lmul {x y : Int64} (hd : decode M.code pc = .ok (.lmul, 1)) (k : dr_W M fr wo (pc + 1) l (.long (x * y) :: st) h Q) : dr_W M fr wo pc l (.long y :: .long x :: st) h Q := fun G R s m args below meth c H locs cells slots ls X => lv_lmul X.exec X.bytes hd (k G R s m args below meth c H locs cells slots ls X)
theorem wp_land {x y : Int64} (hd : decode M.code pc = .ok (.land, 1)) (k : dr_W M fr wo (pc + 1) l (.long (x &&& y) :: st) h Q) : dr_W M fr wo pc l (.long y :: .long x :: st) h Q := fun G R s m args below meth c H locs cells slots ls X => lv_land X.exec X.bytes hd (k G R s m args below meth c H locs cells slots ls X)
theorem wp_lor {x y : Int64} (hd : decode M.code pc = .ok (.lor, 1)) (k : dr_W M fr wo (pc + 1) l (.long (x ||| y) :: st) h Q) : dr_W M fr wo pc l (.long y :: .long x :: st) h Q := fun G R s m args below meth c H locs cells slots ls X => lv_lor X.exec X.bytes hd (k G R s m args below meth c H locs cells slots ls X)
theorem wp_lxor {x y : Int64} (hd : decode M.code pc = .ok (.lxor, 1)) (k : dr_W M fr wo (pc + 1) l (.long (x ^^^ y) :: st) h Q) : dr_W M fr wo pc l (.long y :: .long x :: st) h Q := fun G R s m args below meth c H locs cells slots ls X => lv_lxor X.exec X.bytes hd (k G R s m args below meth c H locs cells slots ls X)
theorem wp_ineg {x : Int32} (hd : decode M.code pc = .ok (.ineg, 1)) (k : dr_W M fr wo (pc + 1) l (.int (-x) :: st) h Q) : dr_W M fr wo pc l (.int x :: st) h Q := fun G R s m args below meth c H locs cells slots ls X => lv_ineg X.exec X.bytes hd (k G R s m args below meth c H locs cells slots ls X)
theorem wp_ishl {x y : Int32} (hd : decode M.code pc = .ok (.ishl, 1)) (k : dr_W M fr wo (pc + 1) l (.int (x <<< (y &&& 31)) :: st) h Q) : dr_W M fr wo pc l (.int y :: .int x :: st) h Q := fun G R s m args below meth c H locs cells slots ls X => lv_ishl X.exec X.bytes hd (k G R s m args below meth c H locs cells slots ls X)
theorem wp_ishr {x y : Int32} (hd : decode M.code pc = .ok (.ishr, 1)) (k : dr_W M fr wo (pc + 1) l (.int (x >>> (y &&& 31)) :: st) h Q) : dr_W M fr wo pc l (.int y :: .int x :: st) h Q := fun G R s m args below meth c H locs cells slots ls X => lv_ishr X.exec X.bytes hd (k G R s m args below meth c H locs cells slots ls X)
theorem wp_iushr {x y v : Int32} (hv : (x.toUInt32 >>> (y.toUInt32 &&& Int32.toUInt32 31)).toInt32 = v) (hd : decode M.code pc = .ok (.iushr, 1)) (k : dr_W M fr wo (pc + 1) l (.int v :: st) h Q) : dr_W M fr wo pc l (.int y :: .int x :: st) h Q := fun G R s m args below meth c H locs cells slots ls X => lv_iushr X.exec X.bytes hd hv (k G R s m args below meth c H locs cells slots ls X)
theorem wp_lushr {x v : Int64} {y : Int32} (hv : (x.toUInt64 >>> (y.toInt64.toUInt64 &&& Int64.toUInt64 63)).toInt64 = v) (hd : decode M.code pc = .ok (.lushr, 1)) (k : dr_W M fr wo (pc + 1) l (.long v :: st) h Q) : dr_W M fr wo pc l (.int y :: .long x :: st) h Q := fun G R s m args below meth c H locs cells slots ls X => lv_lushr X.exec X.bytes hd hv (k G R s m args below meth c H locs cells slots ls X)
theorem wp_lshl {x v : Int64} {y : Int32} (hv : x <<< (y.toInt64 &&& 63) = v) (hd : decode M.code pc = .ok (.lshl, 1)) (k : dr_W M fr wo (pc + 1) l (.long v :: st) h Q) : dr_W M fr wo pc l (.int y :: .long x :: st) h Q := fun G R s m args below meth c H locs cells slots ls X => lv_lshl X.exec X.bytes hd hv (k G R s m args below meth c H locs cells slots ls X)
theorem wp_lshr {x v : Int64} {y : Int32} (hv : x >>> (y.toInt64 &&& 63) = v) (hd : decode M.code pc = .ok (.lshr, 1)) (k : dr_W M fr wo (pc + 1) l (.long v :: st) h Q) : dr_W M fr wo pc l (.int y :: .long x :: st) h Q := fun G R s m args below meth c H locs cells slots ls X => lv_lshr X.exec X.bytes hd hv (k G R s m args below meth c H locs cells slots ls X)
theorem wp_i2l {x : Int32} (hd : decode M.code pc = .ok (.i2l, 1)) (k : dr_W M fr wo (pc + 1) l (.long x.toInt64 :: st) h Q) : dr_W M fr wo pc l (.int x :: st) h Q := fun G R s m args below meth c H locs cells slots ls X => lv_i2l X.exec X.bytes hd rfl (k G R s m args below meth c H locs cells slots ls X)
theorem wp_l2i {x : Int64} (hd : decode M.code pc = .ok (.l2i, 1)) (k : dr_W M fr wo (pc + 1) l (.int x.toInt32 :: st) h Q) : dr_W M fr wo pc l (.long x :: st) h Q := fun G R s m args below meth c H locs cells slots ls X => lv_l2i X.exec X.bytes hd rfl (k G R s m args below meth c H locs cells slots ls X)
theorem wp_i2b {x : Int32} (hd : decode M.code pc = .ok (.i2b, 1)) (k : dr_W M fr wo (pc + 1) l (.int x.toInt8.toInt32 :: st) h Q) : dr_W M fr wo pc l (.int x :: st) h Q := fun G R s m args below meth c H locs cells slots ls X => lv_i2b X.exec X.bytes hd rfl (k G R s m args below meth c H locs cells slots ls X)
theorem wp_i2c {x : Int32} (hd : decode M.code pc = .ok (.i2c, 1)) (k : dr_W M fr wo (pc + 1) l (.int (x.toUInt32 % 65536).toInt32 :: st) h Q) : dr_W M fr wo pc l (.int x :: st) h Q := fun G R s m args below meth c H locs cells slots ls X => lv_i2c X.exec X.bytes hd rfl (k G R s m args below meth c H locs cells slots ls X)
theorem wp_lcmp {x y : Int64} (hd : decode M.code pc = .ok (.lcmp, 1)) (k : dr_W M fr wo (pc + 1) l (.int (lg_cmp x y) :: st) h Q) : dr_W M fr wo pc l (.long y :: .long x :: st) h Q := fun G R s m args below meth c H locs cells slots ls X => W.lcmp X.exec X.bytes hd (k G R s m args below meth c H locs cells slots ls X)
theorem wp_dup {v : Value} (hv : v.category = 1) (hd : decode M.code pc = .ok (.dup, 1)) (k : dr_W M fr wo (pc + 1) l (v :: v :: st) h Q) : dr_W M fr wo pc l (v :: st) h Q := fun G R s m args below meth c H locs cells slots ls X => lv_dup X.exec X.bytes hd (by rw [dr_tr_cat]; exact hv) (k G R s m args below meth c H locs cells slots ls X)
theorem wp_pop {v : Value} (hv : v.category = 1) (hd : decode M.code pc = .ok (.pop, 1)) (k : dr_W M fr wo (pc + 1) l (st) h Q) : dr_W M fr wo pc l (v :: st) h Q := fun G R s m args below meth c H locs cells slots ls X => lv_pop X.exec X.bytes hd (by rw [dr_tr_cat]; exact hv) (k G R s m args below meth c H locs cells slots ls X)
theorem wp_pop2 {v : Value} (hv : v.category = 2) (hd : decode M.code pc = .ok (.pop2, 1)) (k : dr_W M fr wo (pc + 1) l (st) h Q) : dr_W M fr wo pc l (v :: st) h Q := fun G R s m args below meth c H locs cells slots ls X => lv_pop2_2 X.exec X.bytes hd (by rw [dr_tr_cat]; exact hv) (k G R s m args below meth c H locs cells slots ls X)
theorem wp_dup2 {v w : Value} (hv : v.category = 1) (hw : w.category = 1) (hd : decode M.code pc = .ok (.dup2, 1)) (k : dr_W M fr wo (pc + 1) l (v :: w :: v :: w :: st) h Q) : dr_W M fr wo pc l (v :: w :: st) h Q := fun G R s m args below meth c H locs cells slots ls X => lv_dup2_11 X.exec X.bytes hd (by rw [dr_tr_cat]; exact hv) (by rw [dr_tr_cat]; exact hw) (k G R s m args below meth c H locs cells slots ls X)
theorem wp_dup_x1 {v w : Value} (hv : v.category = 1) (hw : w.category = 1) (hd : decode M.code pc = .ok (.dup_x1, 1)) (k : dr_W M fr wo (pc + 1) l (v :: w :: v :: st) h Q) : dr_W M fr wo pc l (v :: w :: st) h Q := fun G R s m args below meth c H locs cells slots ls X => lv_dup_x1 X.exec X.bytes hd (by rw [dr_tr_cat]; exact hv) (by rw [dr_tr_cat]; exact hw) (k G R s m args below meth c H locs cells slots ls X)
theorem wp_dup_x2 {v w u : Value} (hv : v.category = 1) (hw : w.category = 1) (hu : u.category = 1) (hd : decode M.code pc = .ok (.dup_x2, 1)) (k : dr_W M fr wo (pc + 1) l (v :: w :: u :: v :: st) h Q) : dr_W M fr wo pc l (v :: w :: u :: st) h Q := fun G R s m args below meth c H locs cells slots ls X => lv_dup_x2 X.exec X.bytes hd (by rw [dr_tr_cat]; exact hv) (by rw [dr_tr_cat]; exact hw) (by rw [dr_tr_cat]; exact hu) (k G R s m args below meth c H locs cells slots ls X)
/-! branches -/
theorem dr_pif {c : Prop} [Decidable c] {A B : Option (dr_RS × dr_AH)} {Q : dr_RS → dr_AH → Prop} (hp : dr_p (if c then A else B) Q) : (c → dr_p A Q) ∧ (¬ c → dr_p B Q) := ⟨fun hc => by rwa [if_pos hc] at hp, fun hc => by rwa [if_neg hc] at hp⟩
theorem wp_if_eq {x : Int32} {off : Int} {tgt : Nat} {A B : Option (dr_RS × dr_AH)} (hd : decode M.code pc = .ok (.ifCond .eq off, 3)) (ht : (pc : Int) + off = (tgt : Int)) (hp : dr_p (if x = 0 then A else B) Q) (kt : x = 0 → dr_p A Q → dr_W M fr wo tgt l st h Q) (kf : ¬ x = 0 → dr_p B Q → dr_W M fr wo (pc + 3) l st h Q) : dr_W M fr wo pc l (.int x :: st) h Q := fun G R s m args below meth c H locs cells slots ls X =>
  lv_if_eq X.exec X.bytes hd ht (fun hc => (kt hc ((dr_pif hp).1 hc) G R s m args below meth c H locs cells slots ls X)) (fun hc => (kf hc ((dr_pif hp).2 hc) G R s m args below meth c H locs cells slots ls X))
theorem wp_icmp_eq {x y : Int32} {off : Int} {tgt : Nat} {A B : Option (dr_RS × dr_AH)} (hd : decode M.code pc = .ok (.if_icmp .eq off, 3)) (ht : (pc : Int) + off = (tgt : Int)) (hp : dr_p (if x = y then A else B) Q) (kt : x = y → dr_p A Q → dr_W M fr wo tgt l st h Q) (kf : ¬ x = y → dr_p B Q → dr_W M fr wo (pc + 3) l st h Q) : dr_W M fr wo pc l (.int y :: .int x :: st) h Q := fun G R s m args below meth c H locs cells slots ls X =>
  lv_icmp_eq X.exec X.bytes hd ht (fun hc => (kt hc ((dr_pif hp).1 hc) G R s m args below meth c H locs cells slots ls X)) (fun hc => (kf hc ((dr_pif hp).2 hc) G R s m args below meth c H locs cells slots ls X))
theorem wp_if_lt {x : Int32} {off : Int} {tgt : Nat} {A B : Option (dr_RS × dr_AH)} (hd : decode M.code pc = .ok (.ifCond .lt off, 3)) (ht : (pc : Int) + off = (tgt : Int)) (hp : dr_p (if x < 0 then A else B) Q) (kt : x < 0 → dr_p A Q → dr_W M fr wo tgt l st h Q) (kf : ¬ x < 0 → dr_p B Q → dr_W M fr wo (pc + 3) l st h Q) : dr_W M fr wo pc l (.int x :: st) h Q := fun G R s m args below meth c H locs cells slots ls X =>
  lv_if_lt X.exec X.bytes hd ht (fun hc => (kt hc ((dr_pif hp).1 hc) G R s m args below meth c H locs cells slots ls X)) (fun hc => (kf hc ((dr_pif hp).2 hc) G R s m args below meth c H locs cells slots ls X))
theorem wp_icmp_lt {x y : Int32} {off : Int} {tgt : Nat} {A B : Option (dr_RS × dr_AH)} (hd : decode M.code pc = .ok (.if_icmp .lt off, 3)) (ht : (pc : Int) + off = (tgt : Int)) (hp : dr_p (if x < y then A else B) Q) (kt : x < y → dr_p A Q → dr_W M fr wo tgt l st h Q) (kf : ¬ x < y → dr_p B Q → dr_W M fr wo (pc + 3) l st h Q) : dr_W M fr wo pc l (.int y :: .int x :: st) h Q := fun G R s m args below meth c H locs cells slots ls X =>
  lv_icmp_lt X.exec X.bytes hd ht (fun hc => (kt hc ((dr_pif hp).1 hc) G R s m args below meth c H locs cells slots ls X)) (fun hc => (kf hc ((dr_pif hp).2 hc) G R s m args below meth c H locs cells slots ls X))
theorem wp_if_ge {x : Int32} {off : Int} {tgt : Nat} {A B : Option (dr_RS × dr_AH)} (hd : decode M.code pc = .ok (.ifCond .ge off, 3)) (ht : (pc : Int) + off = (tgt : Int)) (hp : dr_p (if 0 ≤ x then A else B) Q) (kt : 0 ≤ x → dr_p A Q → dr_W M fr wo tgt l st h Q) (kf : ¬ 0 ≤ x → dr_p B Q → dr_W M fr wo (pc + 3) l st h Q) : dr_W M fr wo pc l (.int x :: st) h Q := fun G R s m args below meth c H locs cells slots ls X =>
  lv_if_ge X.exec X.bytes hd ht (fun hc => (kt hc ((dr_pif hp).1 hc) G R s m args below meth c H locs cells slots ls X)) (fun hc => (kf hc ((dr_pif hp).2 hc) G R s m args below meth c H locs cells slots ls X))
theorem wp_icmp_ge {x y : Int32} {off : Int} {tgt : Nat} {A B : Option (dr_RS × dr_AH)} (hd : decode M.code pc = .ok (.if_icmp .ge off, 3)) (ht : (pc : Int) + off = (tgt : Int)) (hp : dr_p (if y ≤ x then A else B) Q) (kt : y ≤ x → dr_p A Q → dr_W M fr wo tgt l st h Q) (kf : ¬ y ≤ x → dr_p B Q → dr_W M fr wo (pc + 3) l st h Q) : dr_W M fr wo pc l (.int y :: .int x :: st) h Q := fun G R s m args below meth c H locs cells slots ls X =>
  lv_icmp_ge X.exec X.bytes hd ht (fun hc => (kt hc ((dr_pif hp).1 hc) G R s m args below meth c H locs cells slots ls X)) (fun hc => (kf hc ((dr_pif hp).2 hc) G R s m args below meth c H locs cells slots ls X))
theorem wp_if_gt {x : Int32} {off : Int} {tgt : Nat} {A B : Option (dr_RS × dr_AH)} (hd : decode M.code pc = .ok (.ifCond .gt off, 3)) (ht : (pc : Int) + off = (tgt : Int)) (hp : dr_p (if 0 < x then A else B) Q) (kt : 0 < x → dr_p A Q → dr_W M fr wo tgt l st h Q) (kf : ¬ 0 < x → dr_p B Q → dr_W M fr wo (pc + 3) l st h Q) : dr_W M fr wo pc l (.int x :: st) h Q := fun G R s m args below meth c H locs cells slots ls X =>
  lv_if_gt X.exec X.bytes hd ht (fun hc => (kt hc ((dr_pif hp).1 hc) G R s m args below meth c H locs cells slots ls X)) (fun hc => (kf hc ((dr_pif hp).2 hc) G R s m args below meth c H locs cells slots ls X))
theorem wp_icmp_gt {x y : Int32} {off : Int} {tgt : Nat} {A B : Option (dr_RS × dr_AH)} (hd : decode M.code pc = .ok (.if_icmp .gt off, 3)) (ht : (pc : Int) + off = (tgt : Int)) (hp : dr_p (if y < x then A else B) Q) (kt : y < x → dr_p A Q → dr_W M fr wo tgt l st h Q) (kf : ¬ y < x → dr_p B Q → dr_W M fr wo (pc + 3) l st h Q) : dr_W M fr wo pc l (.int y :: .int x :: st) h Q := fun G R s m args below meth c H locs cells slots ls X =>
  lv_icmp_gt X.exec X.bytes hd ht (fun hc => (kt hc ((dr_pif hp).1 hc) G R s m args below meth c H locs cells slots ls X)) (fun hc => (kf hc ((dr_pif hp).2 hc) G R s m args below meth c H locs cells slots ls X))
theorem wp_if_le {x : Int32} {off : Int} {tgt : Nat} {A B : Option (dr_RS × dr_AH)} (hd : decode M.code pc = .ok (.ifCond .le off, 3)) (ht : (pc : Int) + off = (tgt : Int)) (hp : dr_p (if x ≤ 0 then A else B) Q) (kt : x ≤ 0 → dr_p A Q → dr_W M fr wo tgt l st h Q) (kf : ¬ x ≤ 0 → dr_p B Q → dr_W M fr wo (pc + 3) l st h Q) : dr_W M fr wo pc l (.int x :: st) h Q := fun G R s m args below meth c H locs cells slots ls X =>
  lv_if_le X.exec X.bytes hd ht (fun hc => (kt hc ((dr_pif hp).1 hc) G R s m args below meth c H locs cells slots ls X)) (fun hc => (kf hc ((dr_pif hp).2 hc) G R s m args below meth c H locs cells slots ls X))
theorem wp_icmp_le {x y : Int32} {off : Int} {tgt : Nat} {A B : Option (dr_RS × dr_AH)} (hd : decode M.code pc = .ok (.if_icmp .le off, 3)) (ht : (pc : Int) + off = (tgt : Int)) (hp : dr_p (if x ≤ y then A else B) Q) (kt : x ≤ y → dr_p A Q → dr_W M fr wo tgt l st h Q) (kf : ¬ x ≤ y → dr_p B Q → dr_W M fr wo (pc + 3) l st h Q) : dr_W M fr wo pc l (.int y :: .int x :: st) h Q := fun G R s m args below meth c H locs cells slots ls X =>
  lv_icmp_le X.exec X.bytes hd ht (fun hc => (kt hc ((dr_pif hp).1 hc) G R s m args below meth c H locs cells slots ls X)) (fun hc => (kf hc ((dr_pif hp).2 hc) G R s m args below meth c H locs cells slots ls X))
theorem wp_if_ne {x : Int32} {off : Int} {tgt : Nat} {A B : Option (dr_RS × dr_AH)} (hd : decode M.code pc = .ok (.ifCond .ne off, 3)) (ht : (pc : Int) + off = (tgt : Int)) (hp : dr_p (if x = 0 then B else A) Q) (kt : ¬ x = 0 → dr_p A Q → dr_W M fr wo tgt l st h Q) (kf : x = 0 → dr_p B Q → dr_W M fr wo (pc + 3) l st h Q) : dr_W M fr wo pc l (.int x :: st) h Q := fun G R s m args below meth c H locs cells slots ls X =>
  lv_if_ne X.exec X.bytes hd ht (fun hc => (kt hc ((dr_pif hp).2 hc) G R s m args below meth c H locs cells slots ls X)) (fun hc => (kf hc ((dr_pif hp).1 hc) G R s m args below meth c H locs cells slots ls X))
theorem wp_icmp_ne {x y : Int32} {off : Int} {tgt : Nat} {A B : Option (dr_RS × dr_AH)} (hd : decode M.code pc = .ok (.if_icmp .ne off, 3)) (ht : (pc : Int) + off = (tgt : Int)) (hp : dr_p (if x = y then B else A) Q) (kt : ¬ x = y → dr_p A Q → dr_W M fr wo tgt l st h Q) (kf : x = y → dr_p B Q → dr_W M fr wo (pc + 3) l st h Q) : dr_W M fr wo pc l (.int y :: .int x :: st) h Q := fun G R s m args below meth c H locs cells slots ls X =>
  lv_icmp_ne X.exec X.bytes hd ht (fun hc => (kt hc ((dr_pif hp).2 hc) G R s m args below meth c H locs cells slots ls X)) (fun hc => (kf hc ((dr_pif hp).1 hc) G R s m args below meth c H locs cells slots ls X))
theorem wp_goto {off : Int} {tgt : Nat} (hd : decode M.code pc = .ok (.goto off, 3)) (ht : (pc : Int) + off = (tgt : Int)) (k : dr_W M fr wo tgt l st h Q) : dr_W M fr wo pc l st h Q := fun G R s m args below meth c H locs cells slots ls X => lv_goto X.exec X.bytes hd ht (k G R s m args below meth c H locs cells slots ls X)
theorem wp_ifnull {x : Nat} {off : Int} (hd : decode M.code pc = .ok (.ifnull off, 3)) (k : dr_W M fr wo (pc + 3) l st h Q) : dr_W M fr wo pc l (.ref x :: st) h Q := fun G R s m args below meth c H locs cells slots ls X => lv_ifnull X.exec X.bytes hd (k G R s m args below meth c H locs cells slots ls X)
theorem wp_ifnullN {off : Int} {tgt : Nat} (hd : decode M.code pc = .ok (.ifnull off, 3)) (ht : (pc : Int) + off = (tgt : Int)) (k : dr_W M fr wo tgt l st h Q) : dr_W M fr wo pc l (.null :: st) h Q := fun G R s m args below meth c H locs cells slots ls X => lv_ifnullN X.exec X.bytes hd ht (k G R s m args below meth c H locs cells slots ls X)
theorem wp_ifnonnull {x : Nat} {off : Int} {tgt : Nat} (hd : decode M.code pc = .ok (.ifnonnull off, 3)) (ht : (pc : Int) + off = (tgt : Int)) (k : dr_W M fr wo tgt l st h Q) : dr_W M fr wo pc l (.ref x :: st) h Q := fun G R s m args below meth c H locs cells slots ls X => lv_ifnonnull X.exec X.bytes hd ht (k G R s m args below meth c H locs cells slots ls X)
theorem wp_ifnonnullN {off : Int} (hd : decode M.code pc = .ok (.ifnonnull off, 3)) (k : dr_W M fr wo (pc + 3) l st h Q) : dr_W M fr wo pc l (.null :: st) h Q := fun G R s m args below meth c H locs cells slots ls X => lv_ifnonnullN X.exec X.bytes hd (k G R s m args below meth c H locs cells slots ls X)
theorem wp_sw {x z : Int32} {A B : Option (dr_RS × dr_AH)} (hp : dr_p (if x = z then A else B) Q) (kt : x = z → dr_p A Q → dr_W M fr wo pc l (.int x :: st) h Q) (kf : ¬ x = z → dr_p B Q → dr_W M fr wo pc l (.int x :: st) h Q) : dr_W M fr wo pc l (.int x :: st) h Q := by
  by_cases hc : x = z
  · exact kt hc ((dr_pif hp).1 hc)
  · exact kf hc ((dr_pif hp).2 hc)
theorem wp_tableIn {dflt lo hi : Int} {offs : Array Int} {len : Nat} {x : Int32} {off : Int} {tgt : Nat} (hd : decode M.code pc = .ok (.tableswitch dflt lo hi offs, len)) (h1 : ¬ x.toInt < lo) (h2 : ¬ hi < x.toInt) (ho : offs[(x.toInt - lo).toNat]? = some off) (ht : (pc : Int) + off = (tgt : Int)) (k : dr_W M fr wo tgt l st h Q) : dr_W M fr wo pc l (.int x :: st) h Q := fun G R s m args below meth c H locs cells slots ls X => lv_tableIn X.exec X.bytes hd h1 h2 ho ht (k G R s m args below meth c H locs cells slots ls X)
theorem wp_tableOut {dflt lo hi : Int} {offs : Array Int} {len : Nat} {x : Int32} {tgt : Nat} (hd : decode M.code pc = .ok (.tableswitch dflt lo hi offs, len)) (h1 : x.toInt < lo ∨ hi < x.toInt) (ht : (pc : Int) + dflt = (tgt : Int)) (k : dr_W M fr wo tgt l st h Q) : dr_W M fr wo pc l (.int x :: st) h Q := fun G R s m args below meth c H locs cells slots ls X => lv_tableOut X.exec X.bytes hd h1 ht (k G R s m args below meth c H locs cells slots ls X)
theorem wp_lookup {dflt : Int} {ps : Array (Int × Int)} {len : Nat} {x : Int32} {off : Int} {tgt : Nat} (hd : decode M.code pc = .ok (.lookupswitch dflt ps, len)) (hs : (ps.toList.zip (ps.toList.drop 1)).all (fun (a, next) => a.1 < next.1) = true) (ho : Op.lookupswitch.offset ps.toList dflt x.toInt = off) (ht : (pc : Int) + off = (tgt : Int)) (k : dr_W M fr wo tgt l st h Q) : dr_W M fr wo pc l (.int x :: st) h Q := fun G R s m args below meth c H locs cells slots ls X => lv_lookup X.exec X.bytes hd hs ho ht (k G R s m args below meth c H locs cells slots ls X)
/-! division -/
theorem wp_idiv {x y : Int32} {A : Option (dr_RS × dr_AH)} (hd : decode M.code pc = .ok (.idiv, 1)) (hp : dr_p (if y = 0 then none else A) Q) (k : ¬ y = 0 → dr_p A Q → dr_W M fr wo (pc + 1) l (.int (x / y) :: st) h Q) : dr_W M fr wo pc l (.int y :: .int x :: st) h Q := by
  by_cases hc : y = 0
  · exact (dr_p0 ((dr_pif hp).1 hc)).elim
  · exact fun G R s m args below meth c H locs cells slots ls X => lv_idiv X.exec X.bytes hd hc (k hc ((dr_pif hp).2 hc) G R s m args below meth c H locs cells slots ls X)
theorem wp_irem {x y : Int32} {A : Option (dr_RS × dr_AH)} (hd : decode M.code pc = .ok (.irem, 1)) (hp : dr_p (if y = 0 then none else A) Q) (k : ¬ y = 0 → dr_p A Q → dr_W M fr wo (pc + 1) l (.int (x - x / y * y) :: st) h Q) : dr_W M fr wo pc l (.int y :: .int x :: st) h Q := by
  by_cases hc : y = 0
  · exact (dr_p0 ((dr_pif hp).1 hc)).elim
  · exact fun G R s m args below meth c H locs cells slots ls X => lv_irem X.exec X.bytes hd hc (k hc ((dr_pif hp).2 hc) G R s m args below meth c H locs cells slots ls X)
end DRW
end
