section
/-- a private method of a class that the tables say can be made, by its rows of tables_1 -/
def lw_okq (q : MethodName × Nat) : Prop := (q.1.cls ≠ "java/lang/invoke/MethodHandle" ∧ q.1.cls ≠ "java/lang/invoke/VarHandle") ∧ Cond.instantiable q.1.cls q.2 ∈ tables_1 ∧ Cond.privateMethod q.1 ∈ tables_1 ∧ Cond.instanceMethod q.1 ∈ tables_1
theorem lw_p0 : lw_okq (⟨"java/lang/Throwable", "fillInStackTrace", "(I)Ljava/lang/Throwable;"⟩, 6) := ⟨⟨by decide +kernel, by decide +kernel⟩, List.mem_of_getElem? (i := 196) (by decide +kernel), List.mem_of_getElem? (i := 194) (by decide +kernel), List.mem_of_getElem? (i := 195) (by decide +kernel)⟩
theorem lw_p1 : lw_okq (⟨"DrillRows$Tape", "skipBlanks", "()V"⟩, 4) := ⟨⟨by decide +kernel, by decide +kernel⟩, List.mem_of_getElem? (i := 25) (by decide +kernel), List.mem_of_getElem? (i := 267) (by decide +kernel), List.mem_of_getElem? (i := 268) (by decide +kernel)⟩
theorem lw_p2 : lw_okq (⟨"DrillRows$Tape", "nextByte", "()I"⟩, 4) := ⟨⟨by decide +kernel, by decide +kernel⟩, List.mem_of_getElem? (i := 25) (by decide +kernel), List.mem_of_getElem? (i := 271) (by decide +kernel), List.mem_of_getElem? (i := 272) (by decide +kernel)⟩
theorem lw_p3 : lw_okq (⟨"DrillRows$Tape", "parseRow", "(LDrillRows$Script;)V"⟩, 4) := ⟨⟨by decide +kernel, by decide +kernel⟩, List.mem_of_getElem? (i := 25) (by decide +kernel), List.mem_of_getElem? (i := 275) (by decide +kernel), List.mem_of_getElem? (i := 276) (by decide +kernel)⟩
theorem lw_p4 : lw_okq (⟨"DrillRows$Tape", "accept", "(C)Z"⟩, 4) := ⟨⟨by decide +kernel, by decide +kernel⟩, List.mem_of_getElem? (i := 25) (by decide +kernel), List.mem_of_getElem? (i := 279) (by decide +kernel), List.mem_of_getElem? (i := 280) (by decide +kernel)⟩
theorem lw_p5 : lw_okq (⟨"DrillRows$Tape", "parseEvent", "(LDrillRows$Script;)V"⟩, 4) := ⟨⟨by decide +kernel, by decide +kernel⟩, List.mem_of_getElem? (i := 25) (by decide +kernel), List.mem_of_getElem? (i := 283) (by decide +kernel), List.mem_of_getElem? (i := 284) (by decide +kernel)⟩
theorem lw_p6 : lw_okq (⟨"DrillRows$Tape", "parseNumber", "(II)I"⟩, 4) := ⟨⟨by decide +kernel, by decide +kernel⟩, List.mem_of_getElem? (i := 25) (by decide +kernel), List.mem_of_getElem? (i := 287) (by decide +kernel), List.mem_of_getElem? (i := 288) (by decide +kernel)⟩
theorem lw_p7 : lw_okq (⟨"DrillRows$Tape", "fail", "(I)V"⟩, 4) := ⟨⟨by decide +kernel, by decide +kernel⟩, List.mem_of_getElem? (i := 25) (by decide +kernel), List.mem_of_getElem? (i := 294) (by decide +kernel), List.mem_of_getElem? (i := 295) (by decide +kernel)⟩
theorem lw_p8 : lw_okq (⟨"DrillRows$Tape", "expect", "(C)V"⟩, 4) := ⟨⟨by decide +kernel, by decide +kernel⟩, List.mem_of_getElem? (i := 25) (by decide +kernel), List.mem_of_getElem? (i := 302) (by decide +kernel), List.mem_of_getElem? (i := 303) (by decide +kernel)⟩
theorem lw_p9 : lw_okq (⟨"DrillRows$Tape", "parseAim", "(LDrillRows$Script;)V"⟩, 4) := ⟨⟨by decide +kernel, by decide +kernel⟩, List.mem_of_getElem? (i := 25) (by decide +kernel), List.mem_of_getElem? (i := 314) (by decide +kernel), List.mem_of_getElem? (i := 315) (by decide +kernel)⟩
theorem lw_p10 : lw_okq (⟨"DrillRows$Drill", "dueSecond", "(I)I"⟩, 9) := ⟨⟨by decide +kernel, by decide +kernel⟩, List.mem_of_getElem? (i := 350) (by decide +kernel), List.mem_of_getElem? (i := 399) (by decide +kernel), List.mem_of_getElem? (i := 400) (by decide +kernel)⟩
theorem lw_p11 : lw_okq (⟨"DrillRows$Drill", "firstSecondOf", "(I)I"⟩, 9) := ⟨⟨by decide +kernel, by decide +kernel⟩, List.mem_of_getElem? (i := 350) (by decide +kernel), List.mem_of_getElem? (i := 403) (by decide +kernel), List.mem_of_getElem? (i := 404) (by decide +kernel)⟩
theorem lw_p12 : lw_okq (⟨"DrillRows", "knownDrill", "(I)LDrillRows$Drill;"⟩, 10) := ⟨⟨by decide +kernel, by decide +kernel⟩, List.mem_of_getElem? (i := 17) (by decide +kernel), List.mem_of_getElem? (i := 418) (by decide +kernel), List.mem_of_getElem? (i := 419) (by decide +kernel)⟩
theorem lw_p13 : lw_okq (⟨"DrillRows$Drill", "maySee", "(II)Z"⟩, 9) := ⟨⟨by decide +kernel, by decide +kernel⟩, List.mem_of_getElem? (i := 350) (by decide +kernel), List.mem_of_getElem? (i := 508) (by decide +kernel), List.mem_of_getElem? (i := 509) (by decide +kernel)⟩
theorem lw_p14 : lw_okq (⟨"DrillRows$Drill", "hasActWithin", "(III)Z"⟩, 9) := ⟨⟨by decide +kernel, by decide +kernel⟩, List.mem_of_getElem? (i := 350) (by decide +kernel), List.mem_of_getElem? (i := 539) (by decide +kernel), List.mem_of_getElem? (i := 540) (by decide +kernel)⟩
theorem lw_p15 : lw_okq (⟨"DrillRows", "countUnits", "(I)I"⟩, 10) := ⟨⟨by decide +kernel, by decide +kernel⟩, List.mem_of_getElem? (i := 17) (by decide +kernel), List.mem_of_getElem? (i := 620) (by decide +kernel), List.mem_of_getElem? (i := 621) (by decide +kernel)⟩
def lw_privs_1 : List (MethodName × Nat) := [(⟨"java/lang/Throwable", "fillInStackTrace", "(I)Ljava/lang/Throwable;"⟩, 6), (⟨"DrillRows$Tape", "skipBlanks", "()V"⟩, 4), (⟨"DrillRows$Tape", "nextByte", "()I"⟩, 4), (⟨"DrillRows$Tape", "parseRow", "(LDrillRows$Script;)V"⟩, 4), (⟨"DrillRows$Tape", "accept", "(C)Z"⟩, 4), (⟨"DrillRows$Tape", "parseEvent", "(LDrillRows$Script;)V"⟩, 4), (⟨"DrillRows$Tape", "parseNumber", "(II)I"⟩, 4), (⟨"DrillRows$Tape", "fail", "(I)V"⟩, 4), (⟨"DrillRows$Tape", "expect", "(C)V"⟩, 4), (⟨"DrillRows$Tape", "parseAim", "(LDrillRows$Script;)V"⟩, 4), (⟨"DrillRows$Drill", "dueSecond", "(I)I"⟩, 9), (⟨"DrillRows$Drill", "firstSecondOf", "(I)I"⟩, 9), (⟨"DrillRows", "knownDrill", "(I)LDrillRows$Drill;"⟩, 10), (⟨"DrillRows$Drill", "maySee", "(II)Z"⟩, 9), (⟨"DrillRows$Drill", "hasActWithin", "(III)Z"⟩, 9), (⟨"DrillRows", "countUnits", "(I)I"⟩, 10)]
theorem lw_r1 : ∀ q ∈ lw_privs_1, lw_okq q := List.forall_mem_cons.mpr ⟨lw_p0, List.forall_mem_cons.mpr ⟨lw_p1, List.forall_mem_cons.mpr ⟨lw_p2, List.forall_mem_cons.mpr ⟨lw_p3, List.forall_mem_cons.mpr ⟨lw_p4, List.forall_mem_cons.mpr ⟨lw_p5, List.forall_mem_cons.mpr ⟨lw_p6, List.forall_mem_cons.mpr ⟨lw_p7, List.forall_mem_cons.mpr ⟨lw_p8, List.forall_mem_cons.mpr ⟨lw_p9, List.forall_mem_cons.mpr ⟨lw_p10, List.forall_mem_cons.mpr ⟨lw_p11, List.forall_mem_cons.mpr ⟨lw_p12, List.forall_mem_cons.mpr ⟨lw_p13, List.forall_mem_cons.mpr ⟨lw_p14, List.forall_mem_cons.mpr ⟨lw_p15, fun _ h => absurd h List.not_mem_nil⟩⟩⟩⟩⟩⟩⟩⟩⟩⟩⟩⟩⟩⟩⟩⟩
theorem lw_p16 : lw_okq (⟨"DrillRowsModel", "goes", "(ZZZ)Z"⟩, 32) := ⟨⟨by decide +kernel, by decide +kernel⟩, List.mem_of_getElem? (i := 624) (by decide +kernel), List.mem_of_getElem? (i := 738) (by decide +kernel), List.mem_of_getElem? (i := 739) (by decide +kernel)⟩
theorem lw_p17 : lw_okq (⟨"DrillRowsModel", "see", "()I"⟩, 32) := ⟨⟨by decide +kernel, by decide +kernel⟩, List.mem_of_getElem? (i := 624) (by decide +kernel), List.mem_of_getElem? (i := 746) (by decide +kernel), List.mem_of_getElem? (i := 747) (by decide +kernel)⟩
theorem lw_p18 : lw_okq (⟨"DrillRowsModel", "here", "()I"⟩, 32) := ⟨⟨by decide +kernel, by decide +kernel⟩, List.mem_of_getElem? (i := 624) (by decide +kernel), List.mem_of_getElem? (i := 750) (by decide +kernel), List.mem_of_getElem? (i := 751) (by decide +kernel)⟩
theorem lw_p19 : lw_okq (⟨"DrillRowsModel", "takes", "(I)Z"⟩, 32) := ⟨⟨by decide +kernel, by decide +kernel⟩, List.mem_of_getElem? (i := 624) (by decide +kernel), List.mem_of_getElem? (i := 754) (by decide +kernel), List.mem_of_getElem? (i := 755) (by decide +kernel)⟩
theorem lw_p20 : lw_okq (⟨"DrillRowsModel", "eventRow", "()V"⟩, 32) := ⟨⟨by decide +kernel, by decide +kernel⟩, List.mem_of_getElem? (i := 624) (by decide +kernel), List.mem_of_getElem? (i := 758) (by decide +kernel), List.mem_of_getElem? (i := 759) (by decide +kernel)⟩
theorem lw_p21 : lw_okq (⟨"DrillRowsModel", "number", "(II)I"⟩, 32) := ⟨⟨by decide +kernel, by decide +kernel⟩, List.mem_of_getElem? (i := 624) (by decide +kernel), List.mem_of_getElem? (i := 762) (by decide +kernel), List.mem_of_getElem? (i := 763) (by decide +kernel)⟩
theorem lw_p22 : lw_okq (⟨"DrillRowsModel", "isDigit", "()Z"⟩, 32) := ⟨⟨by decide +kernel, by decide +kernel⟩, List.mem_of_getElem? (i := 624) (by decide +kernel), List.mem_of_getElem? (i := 766) (by decide +kernel), List.mem_of_getElem? (i := 767) (by decide +kernel)⟩
theorem lw_p23 : lw_okq (⟨"DrillRowsModel", "fail", "(I)V"⟩, 32) := ⟨⟨by decide +kernel, by decide +kernel⟩, List.mem_of_getElem? (i := 624) (by decide +kernel), List.mem_of_getElem? (i := 770) (by decide +kernel), List.mem_of_getElem? (i := 771) (by decide +kernel)⟩
theorem lw_p24 : lw_okq (⟨"DrillRowsModel", "take", "(I)V"⟩, 32) := ⟨⟨by decide +kernel, by decide +kernel⟩, List.mem_of_getElem? (i := 624) (by decide +kernel), List.mem_of_getElem? (i := 774) (by decide +kernel), List.mem_of_getElem? (i := 775) (by decide +kernel)⟩
theorem lw_p25 : lw_okq (⟨"DrillRowsModel", "aimRow", "()V"⟩, 32) := ⟨⟨by decide +kernel, by decide +kernel⟩, List.mem_of_getElem? (i := 624) (by decide +kernel), List.mem_of_getElem? (i := 778) (by decide +kernel), List.mem_of_getElem? (i := 779) (by decide +kernel)⟩
theorem lw_p26 : lw_okq (⟨"DrillRowsModel", "copy", "(II)V"⟩, 32) := ⟨⟨by decide +kernel, by decide +kernel⟩, List.mem_of_getElem? (i := 624) (by decide +kernel), List.mem_of_getElem? (i := 782) (by decide +kernel), List.mem_of_getElem? (i := 783) (by decide +kernel)⟩
theorem lw_p27 : lw_okq (⟨"DrillRowsModel", "size", "(I)I"⟩, 32) := ⟨⟨by decide +kernel, by decide +kernel⟩, List.mem_of_getElem? (i := 624) (by decide +kernel), List.mem_of_getElem? (i := 786) (by decide +kernel), List.mem_of_getElem? (i := 787) (by decide +kernel)⟩
theorem lw_p28 : lw_okq (⟨"DrillRowsModel", "look", "(I)I"⟩, 32) := ⟨⟨by decide +kernel, by decide +kernel⟩, List.mem_of_getElem? (i := 624) (by decide +kernel), List.mem_of_getElem? (i := 798) (by decide +kernel), List.mem_of_getElem? (i := 799) (by decide +kernel)⟩
theorem lw_p29 : lw_okq (⟨"DrillRowsModel", "isDue", "(II)Z"⟩, 32) := ⟨⟨by decide +kernel, by decide +kernel⟩, List.mem_of_getElem? (i := 624) (by decide +kernel), List.mem_of_getElem? (i := 802) (by decide +kernel), List.mem_of_getElem? (i := 803) (by decide +kernel)⟩
theorem lw_p30 : lw_okq (⟨"DrillRowsModel", "relative", "(I)I"⟩, 32) := ⟨⟨by decide +kernel, by decide +kernel⟩, List.mem_of_getElem? (i := 624) (by decide +kernel), List.mem_of_getElem? (i := 806) (by decide +kernel), List.mem_of_getElem? (i := 807) (by decide +kernel)⟩
theorem lw_p31 : lw_okq (⟨"DrillRowsModel", "first", "(III)I"⟩, 32) := ⟨⟨by decide +kernel, by decide +kernel⟩, List.mem_of_getElem? (i := 624) (by decide +kernel), List.mem_of_getElem? (i := 810) (by decide +kernel), List.mem_of_getElem? (i := 811) (by decide +kernel)⟩
def lw_privs_2 : List (MethodName × Nat) := [(⟨"DrillRowsModel", "goes", "(ZZZ)Z"⟩, 32), (⟨"DrillRowsModel", "see", "()I"⟩, 32), (⟨"DrillRowsModel", "here", "()I"⟩, 32), (⟨"DrillRowsModel", "takes", "(I)Z"⟩, 32), (⟨"DrillRowsModel", "eventRow", "()V"⟩, 32), (⟨"DrillRowsModel", "number", "(II)I"⟩, 32), (⟨"DrillRowsModel", "isDigit", "()Z"⟩, 32), (⟨"DrillRowsModel", "fail", "(I)V"⟩, 32), (⟨"DrillRowsModel", "take", "(I)V"⟩, 32), (⟨"DrillRowsModel", "aimRow", "()V"⟩, 32), (⟨"DrillRowsModel", "copy", "(II)V"⟩, 32), (⟨"DrillRowsModel", "size", "(I)I"⟩, 32), (⟨"DrillRowsModel", "look", "(I)I"⟩, 32), (⟨"DrillRowsModel", "isDue", "(II)Z"⟩, 32), (⟨"DrillRowsModel", "relative", "(I)I"⟩, 32), (⟨"DrillRowsModel", "first", "(III)I"⟩, 32)]
theorem lw_r2 : ∀ q ∈ lw_privs_2, lw_okq q := List.forall_mem_cons.mpr ⟨lw_p16, List.forall_mem_cons.mpr ⟨lw_p17, List.forall_mem_cons.mpr ⟨lw_p18, List.forall_mem_cons.mpr ⟨lw_p19, List.forall_mem_cons.mpr ⟨lw_p20, List.forall_mem_cons.mpr ⟨lw_p21, List.forall_mem_cons.mpr ⟨lw_p22, List.forall_mem_cons.mpr ⟨lw_p23, List.forall_mem_cons.mpr ⟨lw_p24, List.forall_mem_cons.mpr ⟨lw_p25, List.forall_mem_cons.mpr ⟨lw_p26, List.forall_mem_cons.mpr ⟨lw_p27, List.forall_mem_cons.mpr ⟨lw_p28, List.forall_mem_cons.mpr ⟨lw_p29, List.forall_mem_cons.mpr ⟨lw_p30, List.forall_mem_cons.mpr ⟨lw_p31, fun _ h => absurd h List.not_mem_nil⟩⟩⟩⟩⟩⟩⟩⟩⟩⟩⟩⟩⟩⟩⟩⟩
theorem lw_p32 : lw_okq (⟨"DrillRowsModel", "isDrill", "(I)Z"⟩, 32) := ⟨⟨by decide +kernel, by decide +kernel⟩, List.mem_of_getElem? (i := 624) (by decide +kernel), List.mem_of_getElem? (i := 818) (by decide +kernel), List.mem_of_getElem? (i := 819) (by decide +kernel)⟩
theorem lw_p33 : lw_okq (⟨"DrillRowsModel", "does", "(II)I"⟩, 32) := ⟨⟨by decide +kernel, by decide +kernel⟩, List.mem_of_getElem? (i := 624) (by decide +kernel), List.mem_of_getElem? (i := 834) (by decide +kernel), List.mem_of_getElem? (i := 835) (by decide +kernel)⟩
theorem lw_p34 : lw_okq (⟨"DrillRowsModel", "is", "(II)I"⟩, 32) := ⟨⟨by decide +kernel, by decide +kernel⟩, List.mem_of_getElem? (i := 624) (by decide +kernel), List.mem_of_getElem? (i := 864) (by decide +kernel), List.mem_of_getElem? (i := 865) (by decide +kernel)⟩
def lw_privs_3 : List (MethodName × Nat) := [(⟨"DrillRowsModel", "isDrill", "(I)Z"⟩, 32), (⟨"DrillRowsModel", "does", "(II)I"⟩, 32), (⟨"DrillRowsModel", "is", "(II)I"⟩, 32)]
theorem lw_r3 : ∀ q ∈ lw_privs_3, lw_okq q := List.forall_mem_cons.mpr ⟨lw_p32, List.forall_mem_cons.mpr ⟨lw_p33, List.forall_mem_cons.mpr ⟨lw_p34, fun _ h => absurd h List.not_mem_nil⟩⟩⟩
def lw_privs : List (MethodName × Nat) := lw_privs_1 ++ (lw_privs_2 ++ (lw_privs_3))
def lw_tbl : List Cond := k2_sels lw_privs ++ tables_1
theorem lw_privs_ok : ∀ q ∈ lw_privs, lw_okq q := by
  show ∀ q ∈ lw_privs_1 ++ (lw_privs_2 ++ (lw_privs_3)), lw_okq q
  exact List.forall_mem_append.mpr ⟨lw_r1, List.forall_mem_append.mpr ⟨lw_r2, lw_r3⟩⟩
/-! ===== names: by program (wip/whole/gen/names.py) out of javap's listing and the Statement's tables ===== -/
def nT_D : u_T := fun k => match k with
  | 0 => ("DrillRows$Drill", "script", "LDrillRows$Script;", true)
  | 1 => ("DrillRows$Drill", "beganAt", "I", true)
  | 2 => ("DrillRows$Drill", "on", "Z", false)
  | 3 => ("DrillRows$Drill", "eventBegin", "[I", true)
  | 4 => ("DrillRows$Drill", "begunCount", "I", false)
  | 5 => ("DrillRows$Drill", "firstAct", "[I", true)
  | 6 => ("DrillRows$Drill", "actKind", "[I", true)
  | 7 => ("DrillRows$Drill", "actSecond", "[I", true)
  | _ => ("DrillRows$Drill", "actCount", "I", false)
def nt_D : Nat → FieldType := fun k => match k with
  | 0 => .object "DrillRows$Script"
  | 1 => .int
  | 2 => .boolean
  | 3 => .array (.int)
  | 4 => .int
  | 5 => .array (.int)
  | 6 => .array (.int)
  | 7 => .array (.int)
  | _ => .int
theorem nn_D : ∀ a, a < 9 → ∀ b, b < 9 → a ≠ b → (nT_D a).2.1 ≠ (nT_D b).2.1 := by decide +kernel
theorem nd_D : ∀ k, k < 9 → parseFieldDescriptor (nT_D k).2.2.1 = some (nt_D k) := by decide +kernel
theorem nw_D : ∀ w ∈ u_ws "DrillRows$Drill" nT_D 9, w ∈ lw_tbl := by decide +kernel
def nT_S : u_T := fun k => match k with
  | 0 => ("DrillRows$Script", "eventTold", "[Z", true)
  | 1 => ("DrillRows$Script", "eventAct", "[I", true)
  | 2 => ("DrillRows$Script", "eventDelay", "[I", true)
  | 3 => ("DrillRows$Script", "eventLatest", "[I", true)
  | 4 => ("DrillRows$Script", "eventPart", "[I", true)
  | 5 => ("DrillRows$Script", "eventSecret", "[Z", true)
  | 6 => ("DrillRows$Script", "eventFault", "[I", true)
  | 7 => ("DrillRows$Script", "eventCount", "I", false)
  | 8 => ("DrillRows$Script", "aimEvent", "[I", true)
  | 9 => ("DrillRows$Script", "aimAct", "[I", true)
  | 10 => ("DrillRows$Script", "aimSeconds", "[I", true)
  | 11 => ("DrillRows$Script", "aimWeight", "[I", true)
  | _ => ("DrillRows$Script", "played", "Z", false)
def nt_S : Nat → FieldType := fun k => match k with
  | 0 => .array (.boolean)
  | 1 => .array (.int)
  | 2 => .array (.int)
  | 3 => .array (.int)
  | 4 => .array (.int)
  | 5 => .array (.boolean)
  | 6 => .array (.int)
  | 7 => .int
  | 8 => .array (.int)
  | 9 => .array (.int)
  | 10 => .array (.int)
  | 11 => .array (.int)
  | _ => .boolean
theorem nn_S : ∀ a, a < 13 → ∀ b, b < 13 → a ≠ b → (nT_S a).2.1 ≠ (nT_S b).2.1 := by decide +kernel
theorem nd_S : ∀ k, k < 13 → parseFieldDescriptor (nT_S k).2.2.1 = some (nt_S k) := by decide +kernel
theorem nw_S : ∀ w ∈ u_ws "DrillRows$Script" nT_S 13, w ∈ lw_tbl := by decide +kernel
def nT_T : u_T := fun k => match k with
  | 0 => ("DrillRows$Tape", "bytes", "[I", true)
  | 1 => ("DrillRows$Tape", "length", "I", false)
  | 2 => ("DrillRows$Tape", "at", "I", false)
  | _ => ("DrillRows$Tape", "wrongAt", "I", false)
def nt_T : Nat → FieldType := fun k => match k with
  | 0 => .array (.int)
  | 1 => .int
  | 2 => .int
  | _ => .int
theorem nn_T : ∀ a, a < 4 → ∀ b, b < 4 → a ≠ b → (nT_T a).2.1 ≠ (nT_T b).2.1 := by decide +kernel
theorem nd_T : ∀ k, k < 4 → parseFieldDescriptor (nT_T k).2.2.1 = some (nt_T k) := by decide +kernel
theorem nw_T : ∀ w ∈ u_ws "DrillRows$Tape" nT_T 4, w ∈ lw_tbl := by decide +kernel
def nT_R : u_T := fun k => match k with
  | 0 => ("DrillRows", "tape", "LDrillRows$Tape;", true)
  | 1 => ("DrillRows", "script", "LDrillRows$Script;", false)
  | 2 => ("DrillRows", "spare", "LDrillRows$Script;", false)
  | 3 => ("DrillRows", "wrongPlace", "I", false)
  | 4 => ("DrillRows", "now", "I", false)
  | 5 => ("DrillRows", "drills", "[LDrillRows$Drill;", true)
  | 6 => ("DrillRows", "drillCount", "I", false)
  | 7 => ("DrillRows", "drillOfUnit", "[I", true)
  | 8 => ("DrillRows", "rowCells", "[I", true)
  | _ => ("DrillRows", "rowCount", "I", false)
def nt_R : Nat → FieldType := fun k => match k with
  | 0 => .object "DrillRows$Tape"
  | 1 => .object "DrillRows$Script"
  | 2 => .object "DrillRows$Script"
  | 3 => .int
  | 4 => .int
  | 5 => .array (.object "DrillRows$Drill")
  | 6 => .int
  | 7 => .array (.int)
  | 8 => .array (.int)
  | _ => .int
theorem nn_R : ∀ a, a < 10 → ∀ b, b < 10 → a ≠ b → (nT_R a).2.1 ≠ (nT_R b).2.1 := by decide +kernel
theorem nd_R : ∀ k, k < 10 → parseFieldDescriptor (nT_R k).2.2.1 = some (nt_R k) := by decide +kernel
theorem nw_R : ∀ w ∈ u_ws "DrillRows" nT_R 10, w ∈ lw_tbl := by decide +kernel
def nT_M : u_T := fun k => match k with
  | 0 => ("DrillRowsModel", "thrown", "I", false)
  | 1 => ("DrillRowsModel", "now", "I", false)
  | 2 => ("DrillRowsModel", "taped", "I", false)
  | 3 => ("DrillRowsModel", "tape", "[I", true)
  | 4 => ("DrillRowsModel", "place", "I", false)
  | 5 => ("DrillRowsModel", "at", "I", false)
  | 6 => ("DrillRowsModel", "wrong", "I", false)
  | 7 => ("DrillRowsModel", "isEvent", "[Z", true)
  | 8 => ("DrillRowsModel", "second", "[I", true)
  | 9 => ("DrillRowsModel", "act", "[I", true)
  | 10 => ("DrillRowsModel", "delay", "[I", true)
  | 11 => ("DrillRowsModel", "part", "[I", true)
  | 12 => ("DrillRowsModel", "secret", "[Z", true)
  | 13 => ("DrillRowsModel", "fault", "[I", true)
  | 14 => ("DrillRowsModel", "isAim", "[Z", true)
  | 15 => ("DrillRowsModel", "aimEvent", "[I", true)
  | 16 => ("DrillRowsModel", "aimAct", "[I", true)
  | 17 => ("DrillRowsModel", "aimWithin", "[I", true)
  | 18 => ("DrillRowsModel", "weight", "[I", true)
  | 19 => ("DrillRowsModel", "drills", "I", false)
  | 20 => ("DrillRowsModel", "begun", "[I", true)
  | 21 => ("DrillRowsModel", "stopped", "[Z", true)
  | 22 => ("DrillRowsModel", "begins", "[I", true)
  | 23 => ("DrillRowsModel", "acts", "[I", true)
  | 24 => ("DrillRowsModel", "did", "[I", true)
  | 25 => ("DrillRowsModel", "didAt", "[I", true)
  | 26 => ("DrillRowsModel", "unitOf", "[I", true)
  | 27 => ("DrillRowsModel", "rows", "I", false)
  | 28 => ("DrillRowsModel", "rowDrill", "[I", true)
  | 29 => ("DrillRowsModel", "rowSecond", "[I", true)
  | 30 => ("DrillRowsModel", "rowMark", "[I", true)
  | _ => ("DrillRowsModel", "rowLate", "[Z", true)
def nt_M : Nat → FieldType := fun k => match k with
  | 0 => .int
  | 1 => .int
  | 2 => .int
  | 3 => .array (.int)
  | 4 => .int
  | 5 => .int
  | 6 => .int
  | 7 => .array (.boolean)
  | 8 => .array (.int)
  | 9 => .array (.int)
  | 10 => .array (.int)
  | 11 => .array (.int)
  | 12 => .array (.boolean)
  | 13 => .array (.int)
  | 14 => .array (.boolean)
  | 15 => .array (.int)
  | 16 => .array (.int)
  | 17 => .array (.int)
  | 18 => .array (.int)
  | 19 => .int
  | 20 => .array (.int)
  | 21 => .array (.boolean)
  | 22 => .array (.int)
  | 23 => .array (.int)
  | 24 => .array (.int)
  | 25 => .array (.int)
  | 26 => .array (.int)
  | 27 => .int
  | 28 => .array (.int)
  | 29 => .array (.int)
  | 30 => .array (.int)
  | _ => .array (.boolean)
theorem nn_M : ∀ a, a < 32 → ∀ b, b < 32 → a ≠ b → (nT_M a).2.1 ≠ (nT_M b).2.1 := by decide +kernel
theorem nd_M : ∀ k, k < 32 → parseFieldDescriptor (nT_M k).2.2.1 = some (nt_M k) := by decide +kernel
theorem nw_M : ∀ w ∈ u_ws "DrillRowsModel" nT_M 32, w ∈ lw_tbl := by decide +kernel
abbrev vwCl : List vw_C := [("DrillRows$Drill", nT_D, 9), ("DrillRows$Script", nT_S, 13), ("DrillRows$Tape", nT_T, 4), ("DrillRows", nT_R, 10), ("DrillRowsModel", nT_M, 32)]
abbrev ny_R_init : MethodName := ⟨"DrillRows", "<init>", "()V"⟩
abbrev ny_R_sign : MethodName := ⟨"DrillRows", "sign", "(JI)I"⟩
abbrev ny_R_read : MethodName := ⟨"DrillRows", "read", "()I"⟩
abbrev ny_R_place : MethodName := ⟨"DrillRows", "place", "()I"⟩
abbrev ny_R_begin : MethodName := ⟨"DrillRows", "begin", "()I"⟩
abbrev ny_R_stop : MethodName := ⟨"DrillRows", "stop", "(I)V"⟩
abbrev ny_R_unit : MethodName := ⟨"DrillRows", "unit", "(II)V"⟩
abbrev ny_R_real : MethodName := ⟨"DrillRows", "real", "(I)I"⟩
abbrev ny_R_act : MethodName := ⟨"DrillRows", "act", "(II)I"⟩
abbrev ny_R_tick : MethodName := ⟨"DrillRows", "tick", "(I)I"⟩
abbrev ny_R_event : MethodName := ⟨"DrillRows", "event", "(III)I"⟩
abbrev ny_R_seen : MethodName := ⟨"DrillRows", "seen", "(III)I"⟩
abbrev ny_R_fault : MethodName := ⟨"DrillRows", "fault", "(II)Z"⟩
abbrev ny_R_aim : MethodName := ⟨"DrillRows", "aim", "(II)I"⟩
abbrev ny_R_score : MethodName := ⟨"DrillRows", "score", "(II)I"⟩
abbrev ny_R_compare : MethodName := ⟨"DrillRows", "compare", "(II)I"⟩
abbrev ny_R_observe : MethodName := ⟨"DrillRows", "observe", "(III)I"⟩
abbrev ny_R_row : MethodName := ⟨"DrillRows", "row", "(II)I"⟩
abbrev ny_R_play : MethodName := ⟨"DrillRows", "play", "(II)I"⟩
abbrev ny_R_drill : MethodName := ⟨"DrillRows", "drill", "(II)I"⟩
abbrev ny_R_knownDrill : MethodName := ⟨"DrillRows", "knownDrill", "(I)LDrillRows$Drill;"⟩
abbrev ny_R_countUnits : MethodName := ⟨"DrillRows", "countUnits", "(I)I"⟩
abbrev ny_R_inLowestTerms : MethodName := ⟨"DrillRows", "inLowestTerms", "(III)I"⟩
abbrev ny_M_init : MethodName := ⟨"DrillRowsModel", "<init>", "()V"⟩
abbrev ny_M_thrown : MethodName := ⟨"DrillRowsModel", "thrown", "()I"⟩
abbrev ny_M_in : MethodName := ⟨"DrillRowsModel", "in", "(III)Z"⟩
abbrev ny_M_goes : MethodName := ⟨"DrillRowsModel", "goes", "(ZZZ)Z"⟩
abbrev ny_M_sign : MethodName := ⟨"DrillRowsModel", "sign", "(JI)I"⟩
abbrev ny_M_here : MethodName := ⟨"DrillRowsModel", "here", "()I"⟩
abbrev ny_M_see : MethodName := ⟨"DrillRowsModel", "see", "()I"⟩
abbrev ny_M_fail : MethodName := ⟨"DrillRowsModel", "fail", "(I)V"⟩
abbrev ny_M_take : MethodName := ⟨"DrillRowsModel", "take", "(I)V"⟩
abbrev ny_M_takes : MethodName := ⟨"DrillRowsModel", "takes", "(I)Z"⟩
abbrev ny_M_isDigit : MethodName := ⟨"DrillRowsModel", "isDigit", "()Z"⟩
abbrev ny_M_number : MethodName := ⟨"DrillRowsModel", "number", "(II)I"⟩
abbrev ny_M_eventRow : MethodName := ⟨"DrillRowsModel", "eventRow", "()V"⟩
abbrev ny_M_aimRow : MethodName := ⟨"DrillRowsModel", "aimRow", "()V"⟩
abbrev ny_M_copy : MethodName := ⟨"DrillRowsModel", "copy", "(II)V"⟩
abbrev ny_M_size : MethodName := ⟨"DrillRowsModel", "size", "(I)I"⟩
abbrev ny_M_read : MethodName := ⟨"DrillRowsModel", "read", "()I"⟩
abbrev ny_M_place : MethodName := ⟨"DrillRowsModel", "place", "()I"⟩
abbrev ny_M_relative : MethodName := ⟨"DrillRowsModel", "relative", "(I)I"⟩
abbrev ny_M_first : MethodName := ⟨"DrillRowsModel", "first", "(III)I"⟩
abbrev ny_M_isDue : MethodName := ⟨"DrillRowsModel", "isDue", "(II)Z"⟩
abbrev ny_M_look : MethodName := ⟨"DrillRowsModel", "look", "(I)I"⟩
abbrev ny_M_begin : MethodName := ⟨"DrillRowsModel", "begin", "()I"⟩
abbrev ny_M_isDrill : MethodName := ⟨"DrillRowsModel", "isDrill", "(I)Z"⟩
abbrev ny_M_stop : MethodName := ⟨"DrillRowsModel", "stop", "(I)V"⟩
abbrev ny_M_unit : MethodName := ⟨"DrillRowsModel", "unit", "(II)V"⟩
abbrev ny_M_real : MethodName := ⟨"DrillRowsModel", "real", "(I)I"⟩
abbrev ny_M_does : MethodName := ⟨"DrillRowsModel", "does", "(II)I"⟩
abbrev ny_M_act : MethodName := ⟨"DrillRowsModel", "act", "(II)I"⟩
abbrev ny_M_play : MethodName := ⟨"DrillRowsModel", "play", "(II)I"⟩
abbrev ny_M_tick : MethodName := ⟨"DrillRowsModel", "tick", "(I)I"⟩
abbrev ny_M_event : MethodName := ⟨"DrillRowsModel", "event", "(III)I"⟩
abbrev ny_M_seen : MethodName := ⟨"DrillRowsModel", "seen", "(III)I"⟩
abbrev ny_M_fault : MethodName := ⟨"DrillRowsModel", "fault", "(II)Z"⟩
abbrev ny_M_is : MethodName := ⟨"DrillRowsModel", "is", "(II)I"⟩
abbrev ny_M_aim : MethodName := ⟨"DrillRowsModel", "aim", "(II)I"⟩
abbrev ny_M_score : MethodName := ⟨"DrillRowsModel", "score", "(II)I"⟩
abbrev ny_M_compare : MethodName := ⟨"DrillRowsModel", "compare", "(II)I"⟩
abbrev ny_M_observe : MethodName := ⟨"DrillRowsModel", "observe", "(III)I"⟩
abbrev ny_M_row : MethodName := ⟨"DrillRowsModel", "row", "(II)I"⟩
abbrev ny_M_drill : MethodName := ⟨"DrillRowsModel", "drill", "(II)I"⟩
abbrev ny_D_init : MethodName := ⟨"DrillRows$Drill", "<init>", "(LDrillRows$Script;I)V"⟩
abbrev ny_D_drillSecond : MethodName := ⟨"DrillRows$Drill", "drillSecond", "(I)I"⟩
abbrev ny_D_beginOf : MethodName := ⟨"DrillRows$Drill", "beginOf", "(I)I"⟩
abbrev ny_D_hasRoomForAct : MethodName := ⟨"DrillRows$Drill", "hasRoomForAct", "()Z"⟩
abbrev ny_D_noteAct : MethodName := ⟨"DrillRows$Drill", "noteAct", "(II)V"⟩
abbrev ny_D_beginDueEvents : MethodName := ⟨"DrillRows$Drill", "beginDueEvents", "(I)I"⟩
abbrev ny_D_dueSecond : MethodName := ⟨"DrillRows$Drill", "dueSecond", "(I)I"⟩
abbrev ny_D_firstSecondOf : MethodName := ⟨"DrillRows$Drill", "firstSecondOf", "(I)I"⟩
abbrev ny_D_eventSeenBy : MethodName := ⟨"DrillRows$Drill", "eventSeenBy", "(II)I"⟩
abbrev ny_D_maySee : MethodName := ⟨"DrillRows$Drill", "maySee", "(II)Z"⟩
abbrev ny_D_hasBegunFault : MethodName := ⟨"DrillRows$Drill", "hasBegunFault", "(I)Z"⟩
abbrev ny_D_stateOfAim : MethodName := ⟨"DrillRows$Drill", "stateOfAim", "(II)I"⟩
abbrev ny_D_hasActWithin : MethodName := ⟨"DrillRows$Drill", "hasActWithin", "(III)Z"⟩
abbrev ny_D_weightOfMetAims : MethodName := ⟨"DrillRows$Drill", "weightOfMetAims", "(I)I"⟩
abbrev ny_S_init : MethodName := ⟨"DrillRows$Script", "<init>", "()V"⟩
abbrev ny_S_clear : MethodName := ⟨"DrillRows$Script", "clear", "()V"⟩
abbrev ny_S_hasEvent : MethodName := ⟨"DrillRows$Script", "hasEvent", "(I)Z"⟩
abbrev ny_S_hasAim : MethodName := ⟨"DrillRows$Script", "hasAim", "(I)Z"⟩
abbrev ny_S_addEvent : MethodName := ⟨"DrillRows$Script", "addEvent", "(IIII)V"⟩
abbrev ny_S_describeEvent : MethodName := ⟨"DrillRows$Script", "describeEvent", "(IIZI)V"⟩
abbrev ny_S_addAim : MethodName := ⟨"DrillRows$Script", "addAim", "(IIIII)V"⟩
abbrev ny_S_weightOfAims : MethodName := ⟨"DrillRows$Script", "weightOfAims", "()I"⟩
abbrev ny_T_init : MethodName := ⟨"DrillRows$Tape", "<init>", "()V"⟩
abbrev ny_T_hasRoomFor : MethodName := ⟨"DrillRows$Tape", "hasRoomFor", "(I)Z"⟩
abbrev ny_T_append : MethodName := ⟨"DrillRows$Tape", "append", "(JI)I"⟩
abbrev ny_T_parseInto : MethodName := ⟨"DrillRows$Tape", "parseInto", "(LDrillRows$Script;)I"⟩
abbrev ny_T_parseRow : MethodName := ⟨"DrillRows$Tape", "parseRow", "(LDrillRows$Script;)V"⟩
abbrev ny_T_parseEvent : MethodName := ⟨"DrillRows$Tape", "parseEvent", "(LDrillRows$Script;)V"⟩
abbrev ny_T_parseAim : MethodName := ⟨"DrillRows$Tape", "parseAim", "(LDrillRows$Script;)V"⟩
abbrev ny_T_parseNumber : MethodName := ⟨"DrillRows$Tape", "parseNumber", "(II)I"⟩
abbrev ny_T_expect : MethodName := ⟨"DrillRows$Tape", "expect", "(C)V"⟩
abbrev ny_T_accept : MethodName := ⟨"DrillRows$Tape", "accept", "(C)Z"⟩
abbrev ny_T_skipBlanks : MethodName := ⟨"DrillRows$Tape", "skipBlanks", "()V"⟩
abbrev ny_T_nextByte : MethodName := ⟨"DrillRows$Tape", "nextByte", "()I"⟩
abbrev ny_T_isDigit : MethodName := ⟨"DrillRows$Tape", "isDigit", "(I)Z"⟩
abbrev ny_T_fail : MethodName := ⟨"DrillRows$Tape", "fail", "(I)V"⟩
abbrev ny_L_sign : MethodName := ⟨"DrillRowsLaw", "sign", "(LDrillRows;JI[J)I"⟩
abbrev ny_L_read : MethodName := ⟨"DrillRowsLaw", "read", "(LDrillRows;[J)I"⟩
abbrev ny_L_begin : MethodName := ⟨"DrillRowsLaw", "begin", "(LDrillRows;[J)I"⟩
abbrev ny_L_stop : MethodName := ⟨"DrillRowsLaw", "stop", "(LDrillRows;I)I"⟩
abbrev ny_L_unit : MethodName := ⟨"DrillRowsLaw", "unit", "(LDrillRows;II)I"⟩
abbrev ny_L_real : MethodName := ⟨"DrillRowsLaw", "real", "(LDrillRows;I[J)I"⟩
abbrev ny_L_act : MethodName := ⟨"DrillRowsLaw", "act", "(LDrillRows;II[J)I"⟩
abbrev ny_L_tick : MethodName := ⟨"DrillRowsLaw", "tick", "(LDrillRows;I[J)I"⟩
abbrev ny_L_event : MethodName := ⟨"DrillRowsLaw", "event", "(LDrillRows;III[J)I"⟩
abbrev ny_L_seen : MethodName := ⟨"DrillRowsLaw", "seen", "(LDrillRows;III[J)I"⟩
abbrev ny_L_fault : MethodName := ⟨"DrillRowsLaw", "fault", "(LDrillRows;II[J)I"⟩
abbrev ny_L_aim : MethodName := ⟨"DrillRowsLaw", "aim", "(LDrillRows;II[J)I"⟩
abbrev ny_L_score : MethodName := ⟨"DrillRowsLaw", "score", "(LDrillRows;II[J)I"⟩
abbrev ny_L_compare : MethodName := ⟨"DrillRowsLaw", "compare", "(LDrillRows;II[J)I"⟩
abbrev ny_L_observe : MethodName := ⟨"DrillRowsLaw", "observe", "(LDrillRows;III[J)I"⟩
abbrev ny_L_row : MethodName := ⟨"DrillRowsLaw", "row", "(LDrillRows;II[J)I"⟩
abbrev ny_L_play : MethodName := ⟨"DrillRowsLaw", "play", "(LDrillRows;II[J)I"⟩
abbrev ny_L_drill : MethodName := ⟨"DrillRowsLaw", "drill", "(LDrillRows;II[J)I"⟩
abbrev ny_L_law : MethodName := ⟨"DrillRowsLaw", "law", "([I)Z"⟩
abbrev ny_N_min : MethodName := ⟨"java/lang/Math", "min", "(II)I"⟩
abbrev ny_A_fill : MethodName := ⟨"java/util/Arrays", "fill", "([II)V"⟩
theorem dr_dd {code : ByteArray} {L : List (Nat × Instr × Nat)} (h : ∀ q ∈ L, decode code q.1 = .ok (q.2.1, q.2.2)) (k : Nat) {pc n : Nat} {i : Instr} (e : L[k]? = some (pc, i, n)) : decode code pc = .ok (i, n) := h (pc, i, n) (List.mem_of_getElem? e)
end
section
/-! ===== the room that the claim gives; frames and words: a base, and a step for each call ===== -/
def dr_CC : Nat := room_1.cells
def dr_SC : Nat := room_1.slots
/-! ===== a heap by numbers, and one judgement of a method's road over it ===== -/
/-- a thing: its kind (below 100: the number of its class in vwCl; 100 + c: an array of the code c; from 200 on: nothing is said), how many places, what they hold -/
abbrev dr_AO : Type := Nat × Nat × (Nat → Value)
/-- a heap: how many cells have been made, how many slots they have, what lies under each number (0: the script; 1, 2, ..: the cells in the order of their making) -/
abbrev dr_AH : Type := Nat × Nat × (Nat → dr_AO)
/-- an end: an answer, or the class of an exception and the number of its cell -/
abbrev dr_RS : Type := Option Value ⊕ (String × Nat)
/-- program, launch, environment, the law's start, the script's address, the classes' ids, the fields' slots -/
abbrev dr_Gt : Type := Program × Launch × Env × State × Nat × (Nat → ClassId) × (Nat → Nat → Nat)
abbrev dr_Gt.p (G : dr_Gt) : Program := G.1
abbrev dr_Gt.l (G : dr_Gt) : Launch := G.2.1
abbrev dr_Gt.e (G : dr_Gt) : Env := G.2.2.1
abbrev dr_Gt.s (G : dr_Gt) : State := G.2.2.2.1
abbrev dr_Gt.b (G : dr_Gt) : Nat := G.2.2.2.2.1
abbrev dr_Gt.dC (G : dr_Gt) : Nat → ClassId := G.2.2.2.2.2.1
abbrev dr_Gt.dI (G : dr_Gt) : Nat → Nat → Nat := G.2.2.2.2.2.2
def dr_ad (G : dr_Gt) : Nat → Nat
  | 0 => G.b
  | k + 1 => G.s.heap.size + k
def dr_tr (G : dr_Gt) : Value → Value
  | .ref k => .ref (dr_ad G k)
  | .int x => .int x
  | .long x => .long x
  | .float x => .float x
  | .double x => .double x
  | .null => .null
  | .retAddr x => .retAddr x
theorem dr_ad_inj {G : dr_Gt} (hb : G.b < G.s.heap.size) {a c : Nat} (h : dr_ad G a = dr_ad G c) : a = c := by
  cases a <;> cases c <;> simp only [dr_ad] at h <;> omega
theorem dr_tr_cat (G : dr_Gt) (v : Value) : (dr_tr G v).category = v.category := by cases v <;> rfl
/-- a method: its name, code, locals, answer's type, table of handlers -/
abbrev dr_MI : Type := MethodName × ByteArray × Nat × Option FieldType × List (Nat × Nat × Nat × Nat)
abbrev dr_MI.y (M : dr_MI) : MethodName := M.1
abbrev dr_MI.own (M : dr_MI) : String := M.1.cls
abbrev dr_MI.code (M : dr_MI) : ByteArray := M.2.1
abbrev dr_MI.maxL (M : dr_MI) : Nat := M.2.2.1
abbrev dr_MI.ret (M : dr_MI) : Option FieldType := M.2.2.2.1
abbrev dr_MI.tab (M : dr_MI) : List (Nat × Nat × Nat × Nat) := M.2.2.2.2
/-- array codes -/
def dr_nm (ci : Nat) : String := match vwCl[ci]? with
  | some q => q.1
  | none => ""
def dr_ty (c : Nat) : FieldType :=
  if c = 0 then .int else if c = 1 then .long else if c = 2 then .boolean else if c = 3 then .byte else if c = 4 then .char else .object (dr_nm (c - 10))
def dr_ka (G : dr_Gt) (c : Nat) (cell : Cell) : Prop :=
  G.s.isArrayOf cell (dr_ty c) ∧ (10 ≤ c → ∃ kA : Class, G.s.vm.classes[cell.cls]? = some kA ∧ kA.kind = .array (G.dC (c - 10)) (dr_ty c) ∧ ∃ q, vwCl[c - 10]? = some q)
def dr_at (G : dr_Gt) (a : Nat) (o : dr_AO) (H : Heap) : Prop :=
  (o.1 < 100 → ∃ q, vwCl[o.1]? = some q ∧ q.2.2 = o.2.1 ∧ t_OB (dr_ad G a) (G.dC o.1) o.2.1 (G.dI o.1) H (fun k => dr_tr G (o.2.2 k))) ∧
  (100 ≤ o.1 → o.1 < 200 → ∃ cell : Cell, H[dr_ad G a]? = some cell ∧ cell.vm ≠ .unknown ∧ dr_ka G (o.1 - 100) cell ∧ cell.slots.size = o.2.1 ∧ o.2.1 < 2 ^ 31 ∧ ∀ j, j < o.2.1 → cell.slots[j]? = some (dr_tr G (o.2.2 j)))
/-- the heap H is h -/
def dr_C (G : dr_Gt) (h : dr_AH) (H : Heap) : Prop :=
  H.size = G.s.heap.size + h.1 ∧ (∀ q, q < G.s.heap.size → H[q]? = G.s.heap[q]?) ∧ (∀ k, k ≤ h.1 → dr_at G k (h.2.2 k) H) ∧ (∀ k, h.1 < k → 200 ≤ (h.2.2 k).1) ∧ 100 ≤ (h.2.2 0).1 ∧ h.1 ≤ dr_CC ∧ h.2.1 ≤ dr_SC
theorem dr_at.kept {G : dr_Gt} {a : Nat} {o : dr_AO} {H H1 : Heap} (h : dr_at G a o H) (e : H1[dr_ad G a]? = H[dr_ad G a]?) : dr_at G a o H1 := by
  refine ⟨fun h1 => ?_, fun h1 h2 => ?_⟩
  · obtain ⟨q, q1, q2, q3⟩ := h.1 h1
    exact ⟨q, q1, q2, q3.kept e⟩
  · obtain ⟨cell, q1, q2⟩ := h.2 h1 h2
    exact ⟨cell, by rw [e]; exact q1, q2⟩
theorem dr_C.obj {G : dr_Gt} {h : dr_AH} {H : Heap} (hC : dr_C G h H) {a ci : Nat} (hk : (h.2.2 a).1 = ci) (hci : ci < 100) :
    a ≤ h.1 ∧ ∃ q, vwCl[ci]? = some q ∧ q.2.2 = (h.2.2 a).2.1 ∧ t_OB (dr_ad G a) (G.dC ci) (h.2.2 a).2.1 (G.dI ci) H (fun k => dr_tr G ((h.2.2 a).2.2 k)) := by
  have ha : a ≤ h.1 := by
    rcases Nat.lt_or_ge h.1 a with q | q
    · have := hC.2.2.2.1 a q
      omega
    · exact q
  subst hk
  exact ⟨ha, (hC.2.2.1 a ha).1 hci⟩
theorem dr_C.arr {G : dr_Gt} {h : dr_AH} {H : Heap} (hC : dr_C G h H) {a c : Nat} (hk : (h.2.2 a).1 = 100 + c) (hc : c < 100) :
    a ≤ h.1 ∧ ∃ cell : Cell, H[dr_ad G a]? = some cell ∧ cell.vm ≠ .unknown ∧ dr_ka G c cell ∧ cell.slots.size = (h.2.2 a).2.1 ∧ (h.2.2 a).2.1 < 2 ^ 31 ∧ ∀ j, j < (h.2.2 a).2.1 → cell.slots[j]? = some (dr_tr G ((h.2.2 a).2.2 j)) := by
  have ha : a ≤ h.1 := by
    rcases Nat.lt_or_ge h.1 a with q | q
    · have := hC.2.2.2.1 a q
      omega
    · exact q
  have h1 := (hC.2.2.1 a ha).2 (by omega) (by omega)
  rw [show (h.2.2 a).1 - 100 = c by omega] at h1
  exact ⟨ha, h1⟩
/-! the heap's own changes -/
def dr_upd (f : Nat → dr_AO) (a : Nat) (o : dr_AO) : Nat → dr_AO := fun k => if k = a then o else f k
def dr_set (o : dr_AO) (k : Nat) (v : Value) : dr_AO := (o.1, o.2.1, fun j => if j = k then v else o.2.2 j)
/-- the k-th place of the thing a is written -/
def dr_put (h : dr_AH) (a k : Nat) (v : Value) : dr_AH := (h.1, h.2.1, dr_upd h.2.2 a (dr_set (h.2.2 a) k v))
/-- a thing more -/
def dr_push (h : dr_AH) (o : dr_AO) : dr_AH := (h.1 + 1, h.2.1 + o.2.1, dr_upd h.2.2 (h.1 + 1) o)
theorem dr_C.put {G : dr_Gt} (hb : G.b < G.s.heap.size) {h : dr_AH} {H H1 : Heap} (hC : dr_C G h H) {a k : Nat} {v : Value} (ha : a ≤ h.1) (ha0 : 0 < a) (hz : H1.size = H.size) (ho : ∀ q, q ≠ dr_ad G a → H1[q]? = H[q]?)
    (hn : dr_at G a (dr_set (h.2.2 a) k v) H1) : dr_C G (dr_put h a k v) H1 := by
  refine ⟨hz.trans hC.1, fun q hq => ?_, fun j hj => ?_, fun j hj => ?_, ?_, hC.2.2.2.2.2⟩
  · rw [ho q ?_]
    · exact hC.2.1 q hq
    · cases a with
      | zero => omega
      | succ a => simp only [dr_ad]; omega
  · show dr_at G j (dr_upd h.2.2 a _ j) H1
    unfold dr_upd
    by_cases e : j = a
    · rw [if_pos e, e]; exact hn
    · rw [if_neg e]
      exact (hC.2.2.1 j hj).kept (ho _ (fun q => e (dr_ad_inj hb q)))
  · show 200 ≤ (dr_upd h.2.2 a _ j).1
    have hj : h.1 < j := hj
    unfold dr_upd
    rw [if_neg (by omega)]
    exact hC.2.2.2.1 j hj
  · show 100 ≤ (dr_upd h.2.2 a _ 0).1
    unfold dr_upd
    rw [if_neg (by omega)]
    exact hC.2.2.2.2.1
theorem dr_C.push {G : dr_Gt} (hb : G.b < G.s.heap.size) {h : dr_AH} {H H1 : Heap} (hC : dr_C G h H) {o : dr_AO} (hz : H1.size = H.size + 1) (ho : ∀ q, q < H.size → H1[q]? = H[q]?)
    (hn : dr_at G (h.1 + 1) o H1) (hr : h.1 < dr_CC ∧ h.2.1 + o.2.1 ≤ dr_SC) : dr_C G (dr_push h o) H1 := by
  have hz0 := hC.1
  refine ⟨by rw [hz, hz0]; simp only [dr_push]; omega, fun q hq => ?_, fun j hj => ?_, fun j hj => ?_, ?_, hr.1, hr.2⟩
  · rw [ho q (by omega)]; exact hC.2.1 q hq
  · show dr_at G j (dr_upd h.2.2 (h.1 + 1) _ j) H1
    have hj : j ≤ h.1 + 1 := hj
    unfold dr_upd
    by_cases e : j = h.1 + 1
    · rw [if_pos e, e]; exact hn
    · rw [if_neg e]
      refine (hC.2.2.1 j (by omega)).kept (ho _ ?_)
      cases j with
      | zero => simp only [dr_ad]; omega
      | succ j => simp only [dr_ad]; omega
  · show 200 ≤ (dr_upd h.2.2 (h.1 + 1) _ j).1
    have hj : h.1 + 1 < j := hj
    unfold dr_upd
    rw [if_neg (by omega)]
    exact hC.2.2.2.1 j (by omega)
  · show 100 ≤ (dr_upd h.2.2 (h.1 + 1) o 0).1
    unfold dr_upd
    rw [if_neg (by omega)]
    exact hC.2.2.2.2.1
/-! ===== the judgement ===== -/
/-- what the start gives -/
def dr_K (G : dr_Gt) : Prop :=
  G.p.tables.exec = Jvm.exec ∧ (∀ w ∈ lw_tbl, w.before #[Value.ref G.b] G.s = true) ∧ (∀ (c : Nat) (q : vw_C), vwCl[c]? = some q → u_Kn G.s q.1 q.2.1 q.2.2 (G.dC c) (G.dI c)) ∧ G.b < G.s.heap.size ∧ G.l.stackTraces = false ∧ (Jvm.Cond.and given_1 narrow_1).before #[Value.ref G.b] G.s = true
/-- a word of the tables that the start and every later state have -/
def dr_T (w : Cond) : Prop := ∀ (G : dr_Gt) (s : State) (a' : Array Value), dr_K G → G.s.WarmedH s.vm → w.before a' s = true
theorem dr_Tg {w : Cond} (hi : w ∈ lw_tbl) (hg : ((w.onTables && w.keeps) = true ∨ ∃ ty, w = .arrayClass ty)) : dr_T w := fun _ _ _ K hW => word_at hW hg (K.2.1 w hi)
/-- the method at hand -/
def dr_M (G : dr_Gt) (M : dr_MI) (s : State) (m : MethodId) (meth : Method) (c : Code) : Prop :=
  G.s.WarmedH s.vm ∧ s.vm.findClass M.own = some m.cls ∧ c.code = M.code ∧ c.maxLocals = M.maxL ∧ meth.sig.returnType = M.ret ∧ meth.locks = false ∧ meth.name = M.y.name ∧ c.exceptionTable.toList.map (fun x => (x.startPc, x.endPc, x.handlerPc, x.catchType)) = M.tab
/-- so many frames and words are left -/
def dr_R (fr wo : Nat) (R : Room) : Prop := fr ≤ R.frames ∧ wo ≤ R.locals
def dr_tl (G : dr_Gt) (l : List (Nat × Value)) : List (Nat × Value) := l.map (fun q => (q.1, dr_tr G q.2))
/-- all that stands at a point of a road -/
def dr_X (G : dr_Gt) (M : dr_MI) (fr wo : Nat) (R : Room) (s : State) (m : MethodId) (meth : Method) (c : Code) (H : Heap) (locs : List Loc) (cells slots : Nat) (ls : Array Slot) (l : List (Nat × Value)) (h : dr_AH) : Prop :=
  dr_K G ∧ dr_M G M s m meth c ∧ dr_R fr wo R ∧ R.cells + h.1 = dr_CC + cells ∧ R.slots + h.2.1 = dr_SC + slots ∧ (∀ q ∈ locs, G.s.heap.size ≤ q.base) ∧ dr_C G h H ∧ lv_has ls M.maxL (dr_tl G l)
def dr_O (G : dr_Gt) (o : Outcome) (r : dr_RS) (h : dr_AH) (H : Heap) : Prop := match r with
  | .inl v => o = .returned (v.map (dr_tr G))
  | .inr x => o = .threw (dr_ad G x.2) ∧ 1 ≤ x.2 ∧ x.2 ≤ h.1 ∧ ∃ ce : Cell, H[dr_ad G x.2]? = some ce ∧ ce.vm = .none ∧ G.s.vm.findClass x.1 = some ce.cls
def dr_E (G : dr_Gt) (R : Room) (s : State) (below : List Frame) (Q : dr_RS → dr_AH → Prop) : State → Prop := fun t =>
  ∃ (o : Outcome) (r : dr_RS) (h : dr_AH) (L : List Loc) (k n : Nat), t.status = .running ∧ Ended t below o ∧ s.WarmedH t.vm ∧ s.sameButNew ({ t with vm := s.vm } : State) L k n ∧ (∀ q ∈ L, G.s.heap.size ≤ q.base) ∧
    R.cells + h.1 = dr_CC + k ∧ R.slots + h.2.1 = dr_SC + n ∧ dr_C G h t.heap ∧ dr_O G o r h t.heap ∧ Q r h
/-- from pc on, with the locals l, the operands st, the heap h: the method ends, with an end and a heap of Q -/
def dr_W (M : dr_MI) (fr wo pc : Nat) (l : List (Nat × Value)) (st : List Value) (h : dr_AH) (Q : dr_RS → dr_AH → Prop) : Prop :=
  ∀ (G : dr_Gt) (R : Room) (s : State) (m : MethodId) (args : Array Value) (below : List Frame) (meth : Method) (c : Code) (H : Heap) (locs : List Loc) (cells slots : Nat) (ls : Array Slot),
    dr_X G M fr wo R s m meth c H locs cells slots ls l h → W G.p G.l G.e R s m args below meth c H locs cells slots (dr_E G R s below Q) (F0 m pc ls (st.map (dr_tr G)))
/-- .. with the exception under the number q, of class E, thrown over the frame -/
def dr_V (M : dr_MI) (fr wo pc : Nat) (l : List (Nat × Value)) (st : List Value) (E : String) (q : Nat) (h : dr_AH) (Q : dr_RS → dr_AH → Prop) : Prop :=
  ∀ (G : dr_Gt) (R : Room) (s : State) (m : MethodId) (args : Array Value) (below : List Frame) (meth : Method) (c : Code) (H : Heap) (locs : List Loc) (cells slots : Nat) (ls : Array Slot),
    dr_X G M fr wo R s m meth c H locs cells slots ls l h → 1 ≤ q → q ≤ h.1 → (∃ ce : Cell, H[dr_ad G q]? = some ce ∧ ce.vm = .none ∧ G.s.vm.findClass E = some ce.cls) →
      ∀ T : State, T.heap = H → Stand G.p G.l G.e R s m args below meth c T locs cells slots → ∃ t, Steps G.p.tables G.e below ((T.setTop (F0 m pc ls (st.map (dr_tr G)))).pushFrame (.throwing (dr_ad G q))) t ∧ dr_E G R s below Q t
/-- the function's value is some end, and it is of Q -/
def dr_p (o : Option (dr_RS × dr_AH)) (Q : dr_RS → dr_AH → Prop) : Prop := ∃ r, o = some r ∧ Q r.1 r.2
theorem dr_p0 {Q : dr_RS → dr_AH → Prop} (h : dr_p none Q) : False := by obtain ⟨r, h, -⟩ := h; cases h
section DRX
variable {G : dr_Gt} {M : dr_MI} {fr wo pc : Nat} {R : Room} {s : State} {m : MethodId} {args : Array Value} {below : List Frame} {meth : Method} {c : Code} {H : Heap} {locs : List Loc} {cells slots : Nat} {ls : Array Slot} {l : List (Nat × Value)} {h : dr_AH}
theorem dr_X.exec (X : dr_X G M fr wo R s m meth c H locs cells slots ls l h) : G.p.tables.exec = Jvm.exec := X.1.1
theorem dr_X.bytes (X : dr_X G M fr wo R s m meth c H locs cells slots ls l h) : c.code = M.code := X.2.1.2.2.1
theorem dr_X.warm (X : dr_X G M fr wo R s m meth c H locs cells slots ls l h) : G.s.WarmedH s.vm := X.2.1.1
theorem dr_X.own (X : dr_X G M fr wo R s m meth c H locs cells slots ls l h) : s.vm.findClass M.own = some m.cls := X.2.1.2.1
theorem dr_X.maxL (X : dr_X G M fr wo R s m meth c H locs cells slots ls l h) : c.maxLocals = M.maxL := X.2.1.2.2.2.1
theorem dr_X.rets (X : dr_X G M fr wo R s m meth c H locs cells slots ls l h) : meth.sig.returnType = M.ret := X.2.1.2.2.2.2.1
theorem dr_X.locks (X : dr_X G M fr wo R s m meth c H locs cells slots ls l h) : meth.locks = false := X.2.1.2.2.2.2.2.1
theorem dr_X.name (X : dr_X G M fr wo R s m meth c H locs cells slots ls l h) : meth.name = M.y.name := X.2.1.2.2.2.2.2.2.1
theorem dr_X.tab (X : dr_X G M fr wo R s m meth c H locs cells slots ls l h) : c.exceptionTable.toList.map (fun x => (x.startPc, x.endPc, x.handlerPc, x.catchType)) = M.tab := X.2.1.2.2.2.2.2.2.2
theorem dr_X.room (X : dr_X G M fr wo R s m meth c H locs cells slots ls l h) : dr_R fr wo R := X.2.2.1
theorem dr_X.cellsE (X : dr_X G M fr wo R s m meth c H locs cells slots ls l h) : R.cells + h.1 = dr_CC + cells := X.2.2.2.1
theorem dr_X.slotsE (X : dr_X G M fr wo R s m meth c H locs cells slots ls l h) : R.slots + h.2.1 = dr_SC + slots := X.2.2.2.2.1
theorem dr_X.locsE (X : dr_X G M fr wo R s m meth c H locs cells slots ls l h) : ∀ q ∈ locs, G.s.heap.size ≤ q.base := X.2.2.2.2.2.1
theorem dr_X.heap (X : dr_X G M fr wo R s m meth c H locs cells slots ls l h) : dr_C G h H := X.2.2.2.2.2.2.1
theorem dr_X.lsE (X : dr_X G M fr wo R s m meth c H locs cells slots ls l h) : lv_has ls M.maxL (dr_tl G l) := X.2.2.2.2.2.2.2
theorem dr_X.bs (X : dr_X G M fr wo R s m meth c H locs cells slots ls l h) : G.b < G.s.heap.size := X.1.2.2.2.1
theorem dr_X.setL (X : dr_X G M fr wo R s m meth c H locs cells slots ls l h) {ls' : Array Slot} {l' : List (Nat × Value)} (hl : lv_has ls' M.maxL (dr_tl G l')) : dr_X G M fr wo R s m meth c H locs cells slots ls' l' h :=
  ⟨X.1, X.2.1, X.room, X.cellsE, X.slotsE, X.locsE, X.heap, hl⟩
theorem dr_X.setH (X : dr_X G M fr wo R s m meth c H locs cells slots ls l h) {H' : Heap} {locs' : List Loc} {h' : dr_AH} (h1 : h'.1 = h.1) (h2 : h'.2.1 = h.2.1) (hl : ∀ q ∈ locs', G.s.heap.size ≤ q.base) (hC : dr_C G h' H') : dr_X G M fr wo R s m meth c H' locs' cells slots ls l h' :=
  ⟨X.1, X.2.1, X.room, by rw [h1]; exact X.cellsE, by rw [h2]; exact X.slotsE, hl, hC, X.lsE⟩
/-- a word of the tables, here -/
theorem dr_X.word (X : dr_X G M fr wo R s m meth c H locs cells slots ls l h) {w : Cond} (hw : dr_T w) {a' : Array Value} : w.before a' s = true := hw G s a' X.1 X.warm
theorem dr_X.at (X : dr_X G M fr wo R s m meth c H locs cells slots ls l h) {i k : Nat} {v : Value} (hk : l[k]? = some (i, v)) : ls[i]? = some (.val (dr_tr G v)) :=
  lv_at X.lsE k (by unfold dr_tl; rw [List.getElem?_map, hk]; rfl)
theorem dr_X.known (X : dr_X G M fr wo R s m meth c H locs cells slots ls l h) {ci : Nat} {q : vw_C} (hq : vwCl[ci]? = some q) : u_Kn s q.1 q.2.1 q.2.2 (G.dC ci) (G.dI ci) := u_Kn_moved X.warm.alike (X.1.2.2.1 ci q hq)
end DRX
/-! locals -/
def dr_st (l : List (Nat × Value)) (i : Nat) (v : Value) : List (Nat × Value) := (i, v) :: l.filter (fun q => !(q.1 == i) && !(q.1 + 1 == i && q.2.category == 2))
def dr_st2 (l : List (Nat × Value)) (i : Nat) (v : Value) : List (Nat × Value) := (i, v) :: l.filter (fun q => !(q.1 == i) && (!(q.1 == i + 1) && !(q.1 + 1 == i && q.2.category == 2)))
theorem dr_st_tl (G : dr_Gt) (l : List (Nat × Value)) (i : Nat) (v : Value) : (i, dr_tr G v) :: (dr_tl G l).filter (fun q => !(q.1 == i) && !(q.1 + 1 == i && q.2.category == 2)) = dr_tl G (dr_st l i v) := by
  unfold dr_tl dr_st
  rw [List.map_cons, List.filter_map]
  congr 3
  funext q
  simp only [Function.comp, dr_tr_cat]
theorem dr_st2_tl (G : dr_Gt) (l : List (Nat × Value)) (i : Nat) (v : Value) : (i, dr_tr G v) :: (dr_tl G l).filter (fun q => !(q.1 == i) && (!(q.1 == i + 1) && !(q.1 + 1 == i && q.2.category == 2))) = dr_tl G (dr_st2 l i v) := by
  unfold dr_tl dr_st2
  rw [List.map_cons, List.filter_map]
  congr 3
  funext q
  simp only [Function.comp, dr_tr_cat]
end
section
/-! ===== a row an instruction ===== -/
section DRW
variable {M : dr_MI} {fr wo pc : Nat} {l : List (Nat × Value)} {st : List Value} {h : dr_AH} {Q : dr_RS → dr_AH → Prop}
theorem wp_iconst {n : Int} {v : Int32} (hv : Int32.ofInt n = v) (hd : decode M.code pc = .ok (.iconst n, 1)) (k : dr_W M fr wo (pc + 1) l (.int v :: st) h Q) : dr_W M fr wo pc l (st) h Q := fun G R s m args below meth c H locs cells slots ls X => lv_iconst X.exec X.bytes hd hv (k G R s m args below meth c H locs cells slots ls X)
theorem wp_bipush {n : Int} {v : Int32} (hv : (Int8.ofInt n).toInt32 = v) (hd : decode M.code pc = .ok (.bipush n, 2)) (k : dr_W M fr wo (pc + 2) l (.int v :: st) h Q) : dr_W M fr wo pc l (st) h Q := fun G R s m args below meth c H locs cells slots ls X => lv_bipush X.exec X.bytes hd hv (k G R s m args below meth c H locs cells slots ls X)
theorem wp_sipush {n : Int} {v : Int32} (hv : (Int16.ofInt n).toInt32 = v) (hd : decode M.code pc = .ok (.sipush n, 3)) (k : dr_W M fr wo (pc + 3) l (.int v :: st) h Q) : dr_W M fr wo pc l (st) h Q := fun G R s m args below meth c H locs cells slots ls X => lv_sipush X.exec X.bytes hd hv (k G R s m args below meth c H locs cells slots ls X)
theorem wp_lconst {n : Fin 2} {v : Int64} (hv : Int64.ofNat (n : Nat) = v) (hd : decode M.code pc = .ok (.lconst n, 1)) (k : dr_W M fr wo (pc + 1) l (.long v :: st) h Q) : dr_W M fr wo pc l (st) h Q := fun G R s m args below meth c H locs cells slots ls X => lv_lconst X.exec X.bytes hd hv (k G R s m args below meth c H locs cells slots ls X)
theorem wp_ldc {i : Nat} {v : Int32} (hw : dr_T (.constant M.own i v)) (hd : decode M.code pc = .ok (.ldc i, 2)) (k : dr_W M fr wo (pc + 2) l (.int v :: st) h Q) : dr_W M fr wo pc l (st) h Q := fun G R s m args below meth c H locs cells slots ls X => lv_ldc X.exec X.bytes X.own (X.word hw) hd (k G R s m args below meth c H locs cells slots ls X)
theorem wp_ldcw {i : Nat} {v : Int32} (hw : dr_T (.constant M.own i v)) (hd : decode M.code pc = .ok (.ldc_w i, 3)) (k : dr_W M fr wo (pc + 3) l (.int v :: st) h Q) : dr_W M fr wo pc l (st) h Q := fun G R s m args below meth c H locs cells slots ls X => lv_ldcw X.exec X.bytes X.own (X.word hw) hd (k G R s m args below meth c H locs cells slots ls X)
theorem wp_ldc2 {i : Nat} {v : Int64} (hw : dr_T (.constantLong M.own i v)) (hd : decode M.code pc = .ok (.ldc2_w i, 3)) (k : dr_W M fr wo (pc + 3) l (.long v :: st) h Q) : dr_W M fr wo pc l (st) h Q := fun G R s m args below meth c H locs cells slots ls X => lv_ldc2 X.exec X.bytes X.own (X.word hw) hd (k G R s m args below meth c H locs cells slots ls X)
theorem wp_null  (hd : decode M.code pc = .ok (.aconst_null, 1)) (k : dr_W M fr wo (pc + 1) l (.null :: st) h Q) : dr_W M fr wo pc l (st) h Q := fun G R s m args below meth c H locs cells slots ls X => lv_null X.exec X.bytes hd (k G R s m args below meth c H locs cells slots ls X)
theorem wp_iload_n {k' : Fin 4} {x : Int32} (hd : decode M.code pc = .ok (.iload_n k', 1)) (j : Nat) (hj : l[j]? = some ((k' : Nat), .int x)) (k : dr_W M fr wo (pc + 1) l (.int x :: st) h Q) : dr_W M fr wo pc l (st) h Q := fun G R s m args below meth c H locs cells slots ls X => lv_iload_n X.exec X.bytes hd rfl (X.at hj) (k G R s m args below meth c H locs cells slots ls X)
theorem wp_iload {i : Nat} {x : Int32} (hd : decode M.code pc = .ok (.iload i, 2)) (j : Nat) (hj : l[j]? = some (i, .int x)) (k : dr_W M fr wo (pc + 2) l (.int x :: st) h Q) : dr_W M fr wo pc l (st) h Q := fun G R s m args below meth c H locs cells slots ls X => lv_iload X.exec X.bytes hd (X.at hj) (k G R s m args below meth c H locs cells slots ls X)
theorem wp_lload_n {k' : Fin 4} {x : Int64} (hd : decode M.code pc = .ok (.lload_n k', 1)) (j : Nat) (hj : l[j]? = some ((k' : Nat), .long x)) (k : dr_W M fr wo (pc + 1) l (.long x :: st) h Q) : dr_W M fr wo pc l (st) h Q := fun G R s m args below meth c H locs cells slots ls X => lv_lload_n X.exec X.bytes hd rfl (X.at hj) (k G R s m args below meth c H locs cells slots ls X)
theorem wp_lload {i : Nat} {x : Int64} (hd : decode M.code pc = .ok (.lload i, 2)) (j : Nat) (hj : l[j]? = some (i, .long x)) (k : dr_W M fr wo (pc + 2) l (.long x :: st) h Q) : dr_W M fr wo pc l (st) h Q := fun G R s m args below meth c H locs cells slots ls X => lv_lload X.exec X.bytes hd (X.at hj) (k G R s m args below meth c H locs cells slots ls X)
theorem wp_aload_n {k' : Fin 4} {x : Nat} (hd : decode M.code pc = .ok (.aload_n k', 1)) (j : Nat) (hj : l[j]? = some ((k' : Nat), .ref x)) (k : dr_W M fr wo (pc + 1) l (.ref x :: st) h Q) : dr_W M fr wo pc l (st) h Q := fun G R s m args below meth c H locs cells slots ls X => lv_aload_n X.exec X.bytes hd rfl (X.at hj) (k G R s m args below meth c H locs cells slots ls X)
theorem wp_aload {i : Nat} {x : Nat} (hd : decode M.code pc = .ok (.aload i, 2)) (j : Nat) (hj : l[j]? = some (i, .ref x)) (k : dr_W M fr wo (pc + 2) l (.ref x :: st) h Q) : dr_W M fr wo pc l (st) h Q := fun G R s m args below meth c H locs cells slots ls X => lv_aload X.exec X.bytes hd (X.at hj) (k G R s m args below meth c H locs cells slots ls X)
theorem wp_aload_nN {k' : Fin 4} (hd : decode M.code pc = .ok (.aload_n k', 1)) (j : Nat) (hj : l[j]? = some ((k' : Nat), .null)) (k : dr_W M fr wo (pc + 1) l (.null :: st) h Q) : dr_W M fr wo pc l (st) h Q := fun G R s m args below meth c H locs cells slots ls X => lv_aload_nN X.exec X.bytes hd rfl (X.at hj) (k G R s m args below meth c H locs cells slots ls X)
theorem wp_aloadN {i : Nat} (hd : decode M.code pc = .ok (.aload i, 2)) (j : Nat) (hj : l[j]? = some (i, .null)) (k : dr_W M fr wo (pc + 2) l (.null :: st) h Q) : dr_W M fr wo pc l (st) h Q := fun G R s m args below meth c H locs cells slots ls X => lv_aloadN X.exec X.bytes hd (X.at hj) (k G R s m args below meth c H locs cells slots ls X)
theorem wp_istore_n {k' : Fin 4} {x : Int32} {l' : List (Nat × Value)} (hd : decode M.code pc = .ok (.istore_n k', 1)) (hn : (k' : Nat) < M.maxL) (hl : dr_st l (k' : Nat) (.int x) = l') (k : dr_W M fr wo (pc + 1) l' st h Q) : dr_W M fr wo pc l (.int x :: st) h Q := fun G R s m args below meth c H locs cells slots ls X => by
  subst hl
  exact lv_istore_n X.exec X.bytes hd rfl X.lsE hn (dr_st_tl G l (k' : Nat) (Value.int x)) (fun ls' hl' => k G R s m args below meth c H locs cells slots ls' (X.setL hl'))
theorem wp_istore {i : Nat} {x : Int32} {l' : List (Nat × Value)} (hd : decode M.code pc = .ok (.istore i, 2)) (hn : i < M.maxL) (hl : dr_st l i (.int x) = l') (k : dr_W M fr wo (pc + 2) l' st h Q) : dr_W M fr wo pc l (.int x :: st) h Q := fun G R s m args below meth c H locs cells slots ls X => by
  subst hl
  exact lv_istore X.exec X.bytes hd  X.lsE hn (dr_st_tl G l i (Value.int x)) (fun ls' hl' => k G R s m args below meth c H locs cells slots ls' (X.setL hl'))
theorem wp_lstore_n {k' : Fin 4} {x : Int64} {l' : List (Nat × Value)} (hd : decode M.code pc = .ok (.lstore_n k', 1)) (hn : (k' : Nat) + 1 < M.maxL) (hl : dr_st2 l (k' : Nat) (.long x) = l') (k : dr_W M fr wo (pc + 1) l' st h Q) : dr_W M fr wo pc l (.long x :: st) h Q := fun G R s m args below meth c H locs cells slots ls X => by
  subst hl
  exact lv_lstore_n X.exec X.bytes hd rfl X.lsE hn (dr_st2_tl G l (k' : Nat) (Value.long x)) (fun ls' hl' => k G R s m args below meth c H locs cells slots ls' (X.setL hl'))
theorem wp_lstore {i : Nat} {x : Int64} {l' : List (Nat × Value)} (hd : decode M.code pc = .ok (.lstore i, 2)) (hn : i + 1 < M.maxL) (hl : dr_st2 l i (.long x) = l') (k : dr_W M fr wo (pc + 2) l' st h Q) : dr_W M fr wo pc l (.long x :: st) h Q := fun G R s m args below meth c H locs cells slots ls X => by
  subst hl
  exact lv_lstore X.exec X.bytes hd  X.lsE hn (dr_st2_tl G l i (Value.long x)) (fun ls' hl' => k G R s m args below meth c H locs cells slots ls' (X.setL hl'))
theorem wp_astore_n {k' : Fin 4} {x : Nat} {l' : List (Nat × Value)} (hd : decode M.code pc = .ok (.astore_n k', 1)) (hn : (k' : Nat) < M.maxL) (hl : dr_st l (k' : Nat) (.ref x) = l') (k : dr_W M fr wo (pc + 1) l' st h Q) : dr_W M fr wo pc l (.ref x :: st) h Q := fun G R s m args below meth c H locs cells slots ls X => by
  subst hl
  exact lv_astore_n X.exec X.bytes hd rfl X.lsE hn (dr_st_tl G l (k' : Nat) (Value.ref x)) (fun ls' hl' => k G R s m args below meth c H locs cells slots ls' (X.setL hl'))
theorem wp_astore {i : Nat} {x : Nat} {l' : List (Nat × Value)} (hd : decode M.code pc = .ok (.astore i, 2)) (hn : i < M.maxL) (hl : dr_st l i (.ref x) = l') (k : dr_W M fr wo (pc + 2) l' st h Q) : dr_W M fr wo pc l (.ref x :: st) h Q := fun G R s m args below meth c H locs cells slots ls X => by
  subst hl
  exact lv_astore X.exec X.bytes hd  X.lsE hn (dr_st_tl G l i (Value.ref x)) (fun ls' hl' => k G R s m args below meth c H locs cells slots ls' (X.setL hl'))
theorem wp_astore_nN {k' : Fin 4}  {l' : List (Nat × Value)} (hd : decode M.code pc = .ok (.astore_n k', 1)) (hn : (k' : Nat) < M.maxL) (hl : dr_st l (k' : Nat) (.null) = l') (k : dr_W M fr wo (pc + 1) l' st h Q) : dr_W M fr wo pc l (.null :: st) h Q := fun G R s m args below meth c H locs cells slots ls X => by
  subst hl
  exact lv_astore_nN X.exec X.bytes hd rfl X.lsE hn (dr_st_tl G l (k' : Nat) (Value.null)) (fun ls' hl' => k G R s m args below meth c H locs cells slots ls' (X.setL hl'))
theorem wp_astoreN {i : Nat}  {l' : List (Nat × Value)} (hd : decode M.code pc = .ok (.astore i, 2)) (hn : i < M.maxL) (hl : dr_st l i (.null) = l') (k : dr_W M fr wo (pc + 2) l' st h Q) : dr_W M fr wo pc l (.null :: st) h Q := fun G R s m args below meth c H locs cells slots ls X => by
  subst hl
  exact lv_astoreN X.exec X.bytes hd  X.lsE hn (dr_st_tl G l i (Value.null)) (fun ls' hl' => k G R s m args below meth c H locs cells slots ls' (X.setL hl'))
theorem wp_iinc {i : Nat} {n : Int} {x v : Int32} {l' : List (Nat × Value)} (hd : decode M.code pc = .ok (.iinc i n, 3)) (j : Nat) (hj : l[j]? = some (i, .int x)) (hv : x + Int32.ofInt n = v) (hn : i < M.maxL) (hl : dr_st l i (.int v) = l') (k : dr_W M fr wo (pc + 3) l' st h Q) : dr_W M fr wo pc l st h Q := fun G R s m args below meth c H locs cells slots ls X => by
  subst hl
  exact lv_iinc X.exec X.bytes hd X.lsE (k := j) (by unfold dr_tl; rw [List.getElem?_map, hj]; rfl) hv hn (dr_st_tl G l i (Value.int v)) (fun ls' hl' => k G R s m args below meth c H locs cells slots ls' (X.setL hl'))
theorem wp_iadd {x y : Int32} (hd : decode M.code pc = .ok (.iadd, 1)) (k : dr_W M fr wo (pc + 1) l (.int (x + y) :: st) h Q) : dr_W M fr wo pc l (.int y :: .int x :: st) h Q := fun G R s m args below meth c H locs cells slots ls X => lv_iadd X.exec X.bytes hd (k G R s m args below meth c H locs cells slots ls X)
theorem wp_isub {x y : Int32} (hd : decode M.code pc = .ok (.isub, 1)) (k : dr_W M fr wo (pc + 1) l (.int (x - y) :: st) h Q) : dr_W M fr wo pc l (.int y :: .int x :: st) h Q := fun G R s m args below meth c H locs cells slots ls X => lv_isub X.exec X.bytes hd (k G R s m args below meth c H locs cells slots ls X)
theorem wp_imul {x y : Int32} (hd : decode M.code pc = .ok (.imul, 1)) (k : dr_W M fr wo (pc + 1) l (.int (x * y) :: st) h Q) : dr_W M fr wo pc l (.int y :: .int x :: st) h Q := fun G R s m args below meth c H locs cells slots ls X => lv_imul X.exec X.bytes hd (k G R s m args below meth c H locs cells slots ls X)
theorem wp_iand {x y : Int32} (hd : decode M.code pc = .ok (.iand, 1)) (k : dr_W M fr wo (pc + 1) l (.int (x &&& y) :: st) h Q) : dr_W M fr wo pc l (.int y :: .int x :: st) h Q := fun G R s m args below meth c H locs cells slots ls X => lv_iand X.exec X.bytes hd (k G R s m args below meth c H locs cells slots ls X)
theorem wp_ior {x y : Int32} (hd : decode M.code pc = .ok (.ior, 1)) (k : dr_W M fr wo (pc + 1) l (.int (x ||| y) :: st) h Q) : dr_W M fr wo pc l (.int y :: .int x :: st) h Q := fun G R s m args below meth c H locs cells slots ls X => lv_ior X.exec X.bytes hd (k G R s m args below meth c H locs cells slots ls X)
theorem wp_ixor {x y : Int32} (hd : decode M.code pc = .ok (.ixor, 1)) (k : dr_W M fr wo (pc + 1) l (.int (x ^^^ y) :: st) h Q) : dr_W M fr wo pc l (.int y :: .int x :: st) h Q := fun G R s m args below meth c H locs cells slots ls X => lv_ixor X.exec X.bytes hd (k G R s m args below meth c H locs cells slots ls X)
theorem wp_ladd {x y : Int64} (hd : decode M.code pc = .ok (.ladd, 1)) (k : dr_W M fr wo (pc + 1) l (.long (x + y) :: st) h Q) : dr_W M fr wo pc l (.long y :: .long x :: st) h Q := fun G R s m args below meth c H locs cells slots ls X => lv_ladd X.exec X.bytes hd (k G R s m args below meth c H locs cells slots ls X)
theorem wp_lsub {x y : Int64} (hd : decode M.code pc = .ok (.lsub, 1)) (k : dr_W M fr wo (pc + 1) l (.long (x - y) :: st) h Q) : dr_W M fr wo pc l (.long y :: .long x :: st) h Q := fun G R s m args below meth c H locs cells slots ls X => lv_lsub X.exec X.bytes hd (k G R s m args below meth c H locs cells slots ls X)
theorem wp_lmul {x y : Int64} (hd : decode M.code pc = .ok (.lmul, 1)) (k : dr_W M fr wo (pc + 1) l (.long (x * y) :: st) h Q) : dr_W M fr wo pc l (.long y :: .long x :: st) h Q := fun G R s m args below meth c H locs cells slots ls X => lv_lmul X.exec X.bytes hd (k G R s m args below meth c H locs cells slots ls X)
theorem wp_land {x y : Int64} (hd : decode M.code pc = .ok (.land, 1)) (k : dr_W M fr wo (pc + 1) l (.long (x &&& y) :: st) h Q) : dr_W M fr wo pc l (.long y :: .long x :: st) h Q := fun G R s m args below meth c H locs cells slots ls X => lv_land X.exec X.bytes hd (k G R s m args below meth c H locs cells slots ls X)
theorem wp_lor {x y : Int64} (hd : decode M.code pc = .ok (.lor, 1)) (k : dr_W M fr wo (pc + 1) l (.long (x ||| y) :: st) h Q) : dr_W M fr wo pc l (.long y :: .long x :: st) h Q := fun G R s m args below meth c H locs cells slots ls X => lv_lor X.exec X.bytes hd (k G R s m args below meth c H locs cells slots ls X)
theorem wp_lxor {x y : Int64} (hd : decode M.code pc = .ok (.lxor, 1)) (k : dr_W M fr wo (pc + 1) l (.long (x ^^^ y) :: st) h Q) : dr_W M fr wo pc l (.long y :: .long x :: st) h Q := fun G R s m args below meth c H locs cells slots ls X => lv_lxor X.exec X.bytes hd (k G R s m args below meth c H locs cells slots ls X)
theorem wp_ineg {x : Int32} (hd : decode M.code pc = .ok (.ineg, 1)) (k : dr_W M fr wo (pc + 1) l (.int (-x) :: st) h Q) : dr_W M fr wo pc l (.int x :: st) h Q := fun G R s m args below meth c H locs cells slots ls X => lv_ineg X.exec X.bytes hd (k G R s m args below meth c H locs cells slots ls X)
theorem wp_ishl {x y : Int32} (hd : decode M.code pc = .ok (.ishl, 1)) (k : dr_W M fr wo (pc + 1) l (.int (x <<< (y &&& 31)) :: st) h Q) : dr_W M fr wo pc l (.int y :: .int x :: st) h Q := fun G R s m args below meth c H locs cells slots ls X => lv_ishl X.exec X.bytes hd (k G R s m args below meth c H locs cells slots ls X)
theorem wp_ishr {x y : Int32} (hd : decode M.code pc = .ok (.ishr, 1)) (k : dr_W M fr wo (pc + 1) l (.int (x >>> (y &&& 31)) :: st) h Q) : dr_W M fr wo pc l (.int y :: .int x :: st) h Q := fun G R s m args below meth c H locs cells slots ls X => lv_ishr X.exec X.bytes hd (k G R s m args below meth c H locs cells slots ls X)
theorem wp_iushr {x y v : Int32} (hv : (x.toUInt32 >>> (y.toUInt32 &&& Int32.toUInt32 31)).toInt32 = v) (hd : decode M.code pc = .ok (.iushr, 1)) (k : dr_W M fr wo (pc + 1) l (.int v :: st) h Q) : dr_W M fr wo pc l (.int y :: .int x :: st) h Q := fun G R s m args below meth c H locs cells slots ls X => lv_iushr X.exec X.bytes hd hv (k G R s m args below meth c H locs cells slots ls X)
theorem wp_lushr {x v : Int64} {y : Int32} (hv : (x.toUInt64 >>> (y.toInt64.toUInt64 &&& Int64.toUInt64 63)).toInt64 = v) (hd : decode M.code pc = .ok (.lushr, 1)) (k : dr_W M fr wo (pc + 1) l (.long v :: st) h Q) : dr_W M fr wo pc l (.int y :: .long x :: st) h Q := fun G R s m args below meth c H locs cells slots ls X => lv_lushr X.exec X.bytes hd hv (k G R s m args below meth c H locs cells slots ls X)
theorem wp_lshl {x v : Int64} {y : Int32} (hv : x <<< (y.toInt64 &&& 63) = v) (hd : decode M.code pc = .ok (.lshl, 1)) (k : dr_W M fr wo (pc + 1) l (.long v :: st) h Q) : dr_W M fr wo pc l (.int y :: .long x :: st) h Q := fun G R s m args below meth c H locs cells slots ls X => lv_lshl X.exec X.bytes hd hv (k G R s m args below meth c H locs cells slots ls X)
theorem wp_lshr {x v : Int64} {y : Int32} (hv : x >>> (y.toInt64 &&& 63) = v) (hd : decode M.code pc = .ok (.lshr, 1)) (k : dr_W M fr wo (pc + 1) l (.long v :: st) h Q) : dr_W M fr wo pc l (.int y :: .long x :: st) h Q := fun G R s m args below meth c H locs cells slots ls X => lv_lshr X.exec X.bytes hd hv (k G R s m args below meth c H locs cells slots ls X)
theorem wp_i2l {x : Int32} (hd : decode M.code pc = .ok (.i2l, 1)) (k : dr_W M fr wo (pc + 1) l (.long x.toInt64 :: st) h Q) : dr_W M fr wo pc l (.int x :: st) h Q := fun G R s m args below meth c H locs cells slots ls X => lv_i2l X.exec X.bytes hd rfl (k G R s m args below meth c H locs cells slots ls X)
theorem wp_l2i {x : Int64} (hd : decode M.code pc = .ok (.l2i, 1)) (k : dr_W M fr wo (pc + 1) l (.int x.toInt32 :: st) h Q) : dr_W M fr wo pc l (.long x :: st) h Q := fun G R s m args below meth c H locs cells slots ls X => lv_l2i X.exec X.bytes hd rfl (k G R s m args below meth c H locs cells slots ls X)
theorem wp_i2b {x : Int32} (hd : decode M.code pc = .ok (.i2b, 1)) (k : dr_W M fr wo (pc + 1) l (.int x.toInt8.toInt32 :: st) h Q) : dr_W M fr wo pc l (.int x :: st) h Q := fun G R s m args below meth c H locs cells slots ls X => lv_i2b X.exec X.bytes hd rfl (k G R s m args below meth c H locs cells slots ls X)
theorem wp_i2c {x : Int32} (hd : decode M.code pc = .ok (.i2c, 1)) (k : dr_W M fr wo (pc + 1) l (.int (x.toUInt32 % 65536).toInt32 :: st) h Q) : dr_W M fr wo pc l (.int x :: st) h Q := fun G R s m args below meth c H locs cells slots ls X => lv_i2c X.exec X.bytes hd rfl (k G R s m args below meth c H locs cells slots ls X)
theorem wp_lcmp {x y : Int64} (hd : decode M.code pc = .ok (.lcmp, 1)) (k : dr_W M fr wo (pc + 1) l (.int (lg_cmp x y) :: st) h Q) : dr_W M fr wo pc l (.long y :: .long x :: st) h Q := fun G R s m args below meth c H locs cells slots ls X => W.lcmp X.exec X.bytes hd (k G R s m args below meth c H locs cells slots ls X)
theorem wp_dup {v : Value} (hv : v.category = 1) (hd : decode M.code pc = .ok (.dup, 1)) (k : dr_W M fr wo (pc + 1) l (v :: v :: st) h Q) : dr_W M fr wo pc l (v :: st) h Q := fun G R s m args below meth c H locs cells slots ls X => lv_dup X.exec X.bytes hd (by rw [dr_tr_cat]; exact hv) (k G R s m args below meth c H locs cells slots ls X)
theorem wp_pop {v : Value} (hv : v.category = 1) (hd : decode M.code pc = .ok (.pop, 1)) (k : dr_W M fr wo (pc + 1) l (st) h Q) : dr_W M fr wo pc l (v :: st) h Q := fun G R s m args below meth c H locs cells slots ls X => lv_pop X.exec X.bytes hd (by rw [dr_tr_cat]; exact hv) (k G R s m args below meth c H locs cells slots ls X)
theorem wp_pop2 {v : Value} (hv : v.category = 2) (hd : decode M.code pc = .ok (.pop2, 1)) (k : dr_W M fr wo (pc + 1) l (st) h Q) : dr_W M fr wo pc l (v :: st) h Q := fun G R s m args below meth c H locs cells slots ls X => lv_pop2_2 X.exec X.bytes hd (by rw [dr_tr_cat]; exact hv) (k G R s m args below meth c H locs cells slots ls X)
theorem wp_dup2 {v w : Value} (hv : v.category = 1) (hw : w.category = 1) (hd : decode M.code pc = .ok (.dup2, 1)) (k : dr_W M fr wo (pc + 1) l (v :: w :: v :: w :: st) h Q) : dr_W M fr wo pc l (v :: w :: st) h Q := fun G R s m args below meth c H locs cells slots ls X => lv_dup2_11 X.exec X.bytes hd (by rw [dr_tr_cat]; exact hv) (by rw [dr_tr_cat]; exact hw) (k G R s m args below meth c H locs cells slots ls X)
theorem wp_dup_x1 {v w : Value} (hv : v.category = 1) (hw : w.category = 1) (hd : decode M.code pc = .ok (.dup_x1, 1)) (k : dr_W M fr wo (pc + 1) l (v :: w :: v :: st) h Q) : dr_W M fr wo pc l (v :: w :: st) h Q := fun G R s m args below meth c H locs cells slots ls X => lv_dup_x1 X.exec X.bytes hd (by rw [dr_tr_cat]; exact hv) (by rw [dr_tr_cat]; exact hw) (k G R s m args below meth c H locs cells slots ls X)
theorem wp_dup_x2 {v w u : Value} (hv : v.category = 1) (hw : w.category = 1) (hu : u.category = 1) (hd : decode M.code pc = .ok (.dup_x2, 1)) (k : dr_W M fr wo (pc + 1) l (v :: w :: u :: v :: st) h Q) : dr_W M fr wo pc l (v :: w :: u :: st) h Q := fun G R s m args below meth c H locs cells slots ls X => lv_dup_x2 X.exec X.bytes hd (by rw [dr_tr_cat]; exact hv) (by rw [dr_tr_cat]; exact hw) (by rw [dr_tr_cat]; exact hu) (k G R s m args below meth c H locs cells slots ls X)
/-! branches -/
theorem dr_pif {c : Prop} [Decidable c] {A B : Option (dr_RS × dr_AH)} {Q : dr_RS → dr_AH → Prop} (hp : dr_p (if c then A else B) Q) : (c → dr_p A Q) ∧ (¬ c → dr_p B Q) := ⟨fun hc => by rwa [if_pos hc] at hp, fun hc => by rwa [if_neg hc] at hp⟩
theorem wp_if_eq {x : Int32} {off : Int} {tgt : Nat} {A B : Option (dr_RS × dr_AH)} (hd : decode M.code pc = .ok (.ifCond .eq off, 3)) (ht : (pc : Int) + off = (tgt : Int)) (hp : dr_p (if x = 0 then A else B) Q) (kt : x = 0 → dr_p A Q → dr_W M fr wo tgt l st h Q) (kf : ¬ x = 0 → dr_p B Q → dr_W M fr wo (pc + 3) l st h Q) : dr_W M fr wo pc l (.int x :: st) h Q := fun G R s m args below meth c H locs cells slots ls X =>
  lv_if_eq X.exec X.bytes hd ht (fun hc => (kt hc ((dr_pif hp).1 hc) G R s m args below meth c H locs cells slots ls X)) (fun hc => (kf hc ((dr_pif hp).2 hc) G R s m args below meth c H locs cells slots ls X))
theorem wp_icmp_eq {x y : Int32} {off : Int} {tgt : Nat} {A B : Option (dr_RS × dr_AH)} (hd : decode M.code pc = .ok (.if_icmp .eq off, 3)) (ht : (pc : Int) + off = (tgt : Int)) (hp : dr_p (if x = y then A else B) Q) (kt : x = y → dr_p A Q → dr_W M fr wo tgt l st h Q) (kf : ¬ x = y → dr_p B Q → dr_W M fr wo (pc + 3) l st h Q) : dr_W M fr wo pc l (.int y :: .int x :: st) h Q := fun G R s m args below meth c H locs cells slots ls X =>
  lv_icmp_eq X.exec X.bytes hd ht (fun hc => (kt hc ((dr_pif hp).1 hc) G R s m args below meth c H locs cells slots ls X)) (fun hc => (kf hc ((dr_pif hp).2 hc) G R s m args below meth c H locs cells slots ls X))
theorem wp_if_lt {x : Int32} {off : Int} {tgt : Nat} {A B : Option (dr_RS × dr_AH)} (hd : decode M.code pc = .ok (.ifCond .lt off, 3)) (ht : (pc : Int) + off = (tgt : Int)) (hp : dr_p (if x < 0 then A else B) Q) (kt : x < 0 → dr_p A Q → dr_W M fr wo tgt l st h Q) (kf : ¬ x < 0 → dr_p B Q → dr_W M fr wo (pc + 3) l st h Q) : dr_W M fr wo pc l (.int x :: st) h Q := fun G R s m args below meth c H locs cells slots ls X =>
  lv_if_lt X.exec X.bytes hd ht (fun hc => (kt hc ((dr_pif hp).1 hc) G R s m args below meth c H locs cells slots ls X)) (fun hc => (kf hc ((dr_pif hp).2 hc) G R s m args below meth c H locs cells slots ls X))
theorem wp_icmp_lt {x y : Int32} {off : Int} {tgt : Nat} {A B : Option (dr_RS × dr_AH)} (hd : decode M.code pc = .ok (.if_icmp .lt off, 3)) (ht : (pc : Int) + off = (tgt : Int)) (hp : dr_p (if x < y then A else B) Q) (kt : x < y → dr_p A Q → dr_W M fr wo tgt l st h Q) (kf : ¬ x < y → dr_p B Q → dr_W M fr wo (pc + 3) l st h Q) : dr_W M fr wo pc l (.int y :: .int x :: st) h Q := fun G R s m args below meth c H locs cells slots ls X =>
  lv_icmp_lt X.exec X.bytes hd ht (fun hc => (kt hc ((dr_pif hp).1 hc) G R s m args below meth c H locs cells slots ls X)) (fun hc => (kf hc ((dr_pif hp).2 hc) G R s m args below meth c H locs cells slots ls X))
theorem wp_if_ge {x : Int32} {off : Int} {tgt : Nat} {A B : Option (dr_RS × dr_AH)} (hd : decode M.code pc = .ok (.ifCond .ge off, 3)) (ht : (pc : Int) + off = (tgt : Int)) (hp : dr_p (if 0 ≤ x then A else B) Q) (kt : 0 ≤ x → dr_p A Q → dr_W M fr wo tgt l st h Q) (kf : ¬ 0 ≤ x → dr_p B Q → dr_W M fr wo (pc + 3) l st h Q) : dr_W M fr wo pc l (.int x :: st) h Q := fun G R s m args below meth c H locs cells slots ls X =>
  lv_if_ge X.exec X.bytes hd ht (fun hc => (kt hc ((dr_pif hp).1 hc) G R s m args below meth c H locs cells slots ls X)) (fun hc => (kf hc ((dr_pif hp).2 hc) G R s m args below meth c H locs cells slots ls X))
theorem wp_icmp_ge {x y : Int32} {off : Int} {tgt : Nat} {A B : Option (dr_RS × dr_AH)} (hd : decode M.code pc = .ok (.if_icmp .ge off, 3)) (ht : (pc : Int) + off = (tgt : Int)) (hp : dr_p (if y ≤ x then A else B) Q) (kt : y ≤ x → dr_p A Q → dr_W M fr wo tgt l st h Q) (kf : ¬ y ≤ x → dr_p B Q → dr_W M fr wo (pc + 3) l st h Q) : dr_W M fr wo pc l (.int y :: .int x :: st) h Q := fun G R s m args below meth c H locs cells slots ls X =>
  lv_icmp_ge X.exec X.bytes hd ht (fun hc => (kt hc ((dr_pif hp).1 hc) G R s m args below meth c H locs cells slots ls X)) (fun hc => (kf hc ((dr_pif hp).2 hc) G R s m args below meth c H locs cells slots ls X))
theorem wp_if_gt {x : Int32} {off : Int} {tgt : Nat} {A B : Option (dr_RS × dr_AH)} (hd : decode M.code pc = .ok (.ifCond .gt off, 3)) (ht : (pc : Int) + off = (tgt : Int)) (hp : dr_p (if 0 < x then A else B) Q) (kt : 0 < x → dr_p A Q → dr_W M fr wo tgt l st h Q) (kf : ¬ 0 < x → dr_p B Q → dr_W M fr wo (pc + 3) l st h Q) : dr_W M fr wo pc l (.int x :: st) h Q := fun G R s m args below meth c H locs cells slots ls X =>
  lv_if_gt X.exec X.bytes hd ht (fun hc => (kt hc ((dr_pif hp).1 hc) G R s m args below meth c H locs cells slots ls X)) (fun hc => (kf hc ((dr_pif hp).2 hc) G R s m args below meth c H locs cells slots ls X))
theorem wp_icmp_gt {x y : Int32} {off : Int} {tgt : Nat} {A B : Option (dr_RS × dr_AH)} (hd : decode M.code pc = .ok (.if_icmp .gt off, 3)) (ht : (pc : Int) + off = (tgt : Int)) (hp : dr_p (if y < x then A else B) Q) (kt : y < x → dr_p A Q → dr_W M fr wo tgt l st h Q) (kf : ¬ y < x → dr_p B Q → dr_W M fr wo (pc + 3) l st h Q) : dr_W M fr wo pc l (.int y :: .int x :: st) h Q := fun G R s m args below meth c H locs cells slots ls X =>
  lv_icmp_gt X.exec X.bytes hd ht (fun hc => (kt hc ((dr_pif hp).1 hc) G R s m args below meth c H locs cells slots ls X)) (fun hc => (kf hc ((dr_pif hp).2 hc) G R s m args below meth c H locs cells slots ls X))
theorem wp_if_le {x : Int32} {off : Int} {tgt : Nat} {A B : Option (dr_RS × dr_AH)} (hd : decode M.code pc = .ok (.ifCond .le off, 3)) (ht : (pc : Int) + off = (tgt : Int)) (hp : dr_p (if x ≤ 0 then A else B) Q) (kt : x ≤ 0 → dr_p A Q → dr_W M fr wo tgt l st h Q) (kf : ¬ x ≤ 0 → dr_p B Q → dr_W M fr wo (pc + 3) l st h Q) : dr_W M fr wo pc l (.int x :: st) h Q := fun G R s m args below meth c H locs cells slots ls X =>
  lv_if_le X.exec X.bytes hd ht (fun hc => (kt hc ((dr_pif hp).1 hc) G R s m args below meth c H locs cells slots ls X)) (fun hc => (kf hc ((dr_pif hp).2 hc) G R s m args below meth c H locs cells slots ls X))
theorem wp_icmp_le {x y : Int32} {off : Int} {tgt : Nat} {A B : Option (dr_RS × dr_AH)} (hd : decode M.code pc = .ok (.if_icmp .le off, 3)) (ht : (pc : Int) + off = (tgt : Int)) (hp : dr_p (if x ≤ y then A else B) Q) (kt : x ≤ y → dr_p A Q → dr_W M fr wo tgt l st h Q) (kf : ¬ x ≤ y → dr_p B Q → dr_W M fr wo (pc + 3) l st h Q) : dr_W M fr wo pc l (.int y :: .int x :: st) h Q := fun G R s m args below meth c H locs cells slots ls X =>
  lv_icmp_le X.exec X.bytes hd ht (fun hc => (kt hc ((dr_pif hp).1 hc) G R s m args below meth c H locs cells slots ls X)) (fun hc => (kf hc ((dr_pif hp).2 hc) G R s m args below meth c H locs cells slots ls X))
theorem wp_if_ne {x : Int32} {off : Int} {tgt : Nat} {A B : Option (dr_RS × dr_AH)} (hd : decode M.code pc = .ok (.ifCond .ne off, 3)) (ht : (pc : Int) + off = (tgt : Int)) (hp : dr_p (if x = 0 then B else A) Q) (kt : ¬ x = 0 → dr_p A Q → dr_W M fr wo tgt l st h Q) (kf : x = 0 → dr_p B Q → dr_W M fr wo (pc + 3) l st h Q) : dr_W M fr wo pc l (.int x :: st) h Q := fun G R s m args below meth c H locs cells slots ls X =>
  lv_if_ne X.exec X.bytes hd ht (fun hc => (kt hc ((dr_pif hp).2 hc) G R s m args below meth c H locs cells slots ls X)) (fun hc => (kf hc ((dr_pif hp).1 hc) G R s m args below meth c H locs cells slots ls X))
theorem wp_icmp_ne {x y : Int32} {off : Int} {tgt : Nat} {A B : Option (dr_RS × dr_AH)} (hd : decode M.code pc = .ok (.if_icmp .ne off, 3)) (ht : (pc : Int) + off = (tgt : Int)) (hp : dr_p (if x = y then B else A) Q) (kt : ¬ x = y → dr_p A Q → dr_W M fr wo tgt l st h Q) (kf : x = y → dr_p B Q → dr_W M fr wo (pc + 3) l st h Q) : dr_W M fr wo pc l (.int y :: .int x :: st) h Q := fun G R s m args below meth c H locs cells slots ls X =>
  lv_icmp_ne X.exec X.bytes hd ht (fun hc => (kt hc ((dr_pif hp).2 hc) G R s m args below meth c H locs cells slots ls X)) (fun hc => (kf hc ((dr_pif hp).1 hc) G R s m args below meth c H locs cells slots ls X))
theorem wp_goto {off : Int} {tgt : Nat} (hd : decode M.code pc = .ok (.goto off, 3)) (ht : (pc : Int) + off = (tgt : Int)) (k : dr_W M fr wo tgt l st h Q) : dr_W M fr wo pc l st h Q := fun G R s m args below meth c H locs cells slots ls X => lv_goto X.exec X.bytes hd ht (k G R s m args below meth c H locs cells slots ls X)
theorem wp_ifnull {x : Nat} {off : Int} (hd : decode M.code pc = .ok (.ifnull off, 3)) (k : dr_W M fr wo (pc + 3) l st h Q) : dr_W M fr wo pc l (.ref x :: st) h Q := fun G R s m args below meth c H locs cells slots ls X => lv_ifnull X.exec X.bytes hd (k G R s m args below meth c H locs cells slots ls X)
theorem wp_ifnullN {off : Int} {tgt : Nat} (hd : decode M.code pc = .ok (.ifnull off, 3)) (ht : (pc : Int) + off = (tgt : Int)) (k : dr_W M fr wo tgt l st h Q) : dr_W M fr wo pc l (.null :: st) h Q := fun G R s m args below meth c H locs cells slots ls X => lv_ifnullN X.exec X.bytes hd ht (k G R s m args below meth c H locs cells slots ls X)
theorem wp_ifnonnull {x : Nat} {off : Int} {tgt : Nat} (hd : decode M.code pc = .ok (.ifnonnull off, 3)) (ht : (pc : Int) + off = (tgt : Int)) (k : dr_W M fr wo tgt l st h Q) : dr_W M fr wo pc l (.ref x :: st) h Q := fun G R s m args below meth c H locs cells slots ls X => lv_ifnonnull X.exec X.bytes hd ht (k G R s m args below meth c H locs cells slots ls X)
theorem wp_ifnonnullN {off : Int} (hd : decode M.code pc = .ok (.ifnonnull off, 3)) (k : dr_W M fr wo (pc + 3) l st h Q) : dr_W M fr wo pc l (.null :: st) h Q := fun G R s m args below meth c H locs cells slots ls X => lv_ifnonnullN X.exec X.bytes hd (k G R s m args below meth c H locs cells slots ls X)
theorem wp_sw {x z : Int32} {A B : Option (dr_RS × dr_AH)} (hp : dr_p (if x = z then A else B) Q) (kt : x = z → dr_p A Q → dr_W M fr wo pc l (.int x :: st) h Q) (kf : ¬ x = z → dr_p B Q → dr_W M fr wo pc l (.int x :: st) h Q) : dr_W M fr wo pc l (.int x :: st) h Q := by
  by_cases hc : x = z
  · exact kt hc ((dr_pif hp).1 hc)
  · exact kf hc ((dr_pif hp).2 hc)
theorem wp_tableIn {dflt lo hi : Int} {offs : Array Int} {len : Nat} {x : Int32} {off : Int} {tgt : Nat} (hd : decode M.code pc = .ok (.tableswitch dflt lo hi offs, len)) (h1 : ¬ x.toInt < lo) (h2 : ¬ hi < x.toInt) (ho : offs[(x.toInt - lo).toNat]? = some off) (ht : (pc : Int) + off = (tgt : Int)) (k : dr_W M fr wo tgt l st h Q) : dr_W M fr wo pc l (.int x :: st) h Q := fun G R s m args below meth c H locs cells slots ls X => lv_tableIn X.exec X.bytes hd h1 h2 ho ht (k G R s m args below meth c H locs cells slots ls X)
theorem wp_tableOut {dflt lo hi : Int} {offs : Array Int} {len : Nat} {x : Int32} {tgt : Nat} (hd : decode M.code pc = .ok (.tableswitch dflt lo hi offs, len)) (h1 : x.toInt < lo ∨ hi < x.toInt) (ht : (pc : Int) + dflt = (tgt : Int)) (k : dr_W M fr wo tgt l st h Q) : dr_W M fr wo pc l (.int x :: st) h Q := fun G R s m args below meth c H locs cells slots ls X => lv_tableOut X.exec X.bytes hd h1 ht (k G R s m args below meth c H locs cells slots ls X)
theorem wp_lookup {dflt : Int} {ps : Array (Int × Int)} {len : Nat} {x : Int32} {off : Int} {tgt : Nat} (hd : decode M.code pc = .ok (.lookupswitch dflt ps, len)) (hs : (ps.toList.zip (ps.toList.drop 1)).all (fun (a, next) => a.1 < next.1) = true) (ho : Op.lookupswitch.offset ps.toList dflt x.toInt = off) (ht : (pc : Int) + off = (tgt : Int)) (k : dr_W M fr wo tgt l st h Q) : dr_W M fr wo pc l (.int x :: st) h Q := fun G R s m args below meth c H locs cells slots ls X => lv_lookup X.exec X.bytes hd hs ho ht (k G R s m args below meth c H locs cells slots ls X)
def dr_k (h : dr_AH) (a ci : Nat) (A : Option (dr_RS × dr_AH)) : Option (dr_RS × dr_AH) := if (h.2.2 a).1 = ci then A else none
theorem wp_k {a ci : Nat} {A : Option (dr_RS × dr_AH)} (hp : dr_p (dr_k h a ci A) Q) (kk : (h.2.2 a).1 = ci → dr_p A Q → dr_W M fr wo pc l st h Q) : dr_W M fr wo pc l st h Q := by
  unfold dr_k at hp
  by_cases hk : (h.2.2 a).1 = ci
  · rw [if_pos hk] at hp; exact kk hk hp
  · rw [if_neg hk] at hp; exact (dr_p0 hp).elim
theorem dr_tl_sub {G : dr_Gt} {ls : Array Slot} {n : Nat} {l l' : List (Nat × Value)} (h : lv_has ls n (dr_tl G l)) (hl : ∀ q ∈ l', q ∈ l) : lv_has ls n (dr_tl G l') := ⟨h.1, h.2.1, fun q hq => by
  obtain ⟨z, hz, e⟩ := List.mem_map.mp hq
  exact h.2.2 q (List.mem_map.mpr ⟨z, hl z hz, e⟩)⟩
theorem wp_sub {l' : List (Nat × Value)} (ks : List Nat) (hl : lv_pick l ks = l') (k : dr_W M fr wo pc l' st h Q) : dr_W M fr wo pc l st h Q := fun G R s m args below meth c H locs cells slots ls X => k G R s m args below meth c H locs cells slots ls (X.setL (dr_tl_sub X.lsE (fun q hq => by
  subst hl
  obtain ⟨i, -, hi⟩ := List.mem_filterMap.mp hq
  exact List.mem_of_getElem? hi)))
theorem wp_tin {dflt lo hi : Int} {offs : Array Int} {len : Nat} {x z : Int32} {off : Int} {tgt : Nat} (hx : x = z) (hd : decode M.code pc = .ok (.tableswitch dflt lo hi offs, len)) (h1 : ¬ z.toInt < lo) (h2 : ¬ hi < z.toInt) (ho : offs[(z.toInt - lo).toNat]? = some off) (ht : (pc : Int) + off = (tgt : Int)) (k : dr_W M fr wo tgt l st h Q) : dr_W M fr wo pc l (.int x :: st) h Q := by
  subst hx
  exact wp_tableIn hd h1 h2 ho ht k
/-! division -/
theorem wp_idiv {x y : Int32} {A : Option (dr_RS × dr_AH)} (hd : decode M.code pc = .ok (.idiv, 1)) (hp : dr_p (if y = 0 then none else A) Q) (k : ¬ y = 0 → dr_p A Q → dr_W M fr wo (pc + 1) l (.int (x / y) :: st) h Q) : dr_W M fr wo pc l (.int y :: .int x :: st) h Q := by
  by_cases hc : y = 0
  · exact (dr_p0 ((dr_pif hp).1 hc)).elim
  · exact fun G R s m args below meth c H locs cells slots ls X => lv_idiv X.exec X.bytes hd hc (k hc ((dr_pif hp).2 hc) G R s m args below meth c H locs cells slots ls X)
theorem wp_irem {x y : Int32} {A : Option (dr_RS × dr_AH)} (hd : decode M.code pc = .ok (.irem, 1)) (hp : dr_p (if y = 0 then none else A) Q) (k : ¬ y = 0 → dr_p A Q → dr_W M fr wo (pc + 1) l (.int (x - x / y * y) :: st) h Q) : dr_W M fr wo pc l (.int y :: .int x :: st) h Q := by
  by_cases hc : y = 0
  · exact (dr_p0 ((dr_pif hp).1 hc)).elim
  · exact fun G R s m args below meth c H locs cells slots ls X => lv_irem X.exec X.bytes hd hc (k hc ((dr_pif hp).2 hc) G R s m args below meth c H locs cells slots ls X)
end DRW
end
section
/-! ===== objects ===== -/
/-- class number ci: its name, fields, their types; words, spelling and names decided once -/
def dr_Cl (ci : Nat) (C : String) (T : u_T) (N : Nat) (ty : Nat → FieldType) : Prop :=
  vwCl[ci]? = some (C, T, N) ∧ ci < 100 ∧ (∀ w ∈ u_ws C T N, dr_T w) ∧ (∀ k, k < N → parseFieldDescriptor (T k).2.2.1 = some (ty k)) ∧ ∀ a, a < N → ∀ b, b < N → a ≠ b → (T a).2.1 ≠ (T b).2.1
/-- the pool's entry idx of the class own names the k-th field of T -/
def dr_L (own : String) (idx : Nat) (T : u_T) (k : Nat) : Prop := dr_T (.fieldLink own idx (T k).1 (T k).2.1 (T k).2.2.1) ∨ ∃ host : String, dr_T (.fieldLinkNest own idx (T k).1 (T k).2.1 (T k).2.2.1 host)
theorem dr_fits (G : dr_Gt) (t : FieldType) (v : Value) : fits t (dr_tr G v) = fits t v := by cases v <;> cases t <;> rfl
theorem dr_narrow (G : dr_Gt) {t : FieldType} {v : Value} (h : narrow t v = v) : narrow t (dr_tr G v) = dr_tr G v := by
  cases v <;> first | exact h | (cases t <;> rfl)
section DRO
variable {M : dr_MI} {fr wo pc : Nat} {l : List (Nat × Value)} {st : List Value} {h : dr_AH} {Q : dr_RS → dr_AH → Prop} {ci a k idx N : Nat} {C : String} {T : u_T} {ty : Nat → FieldType}
theorem wp_getv (hCl : dr_Cl ci C T N ty) (hL : dr_L M.own idx T k) (hkN : k < N) (hd : decode M.code pc = .ok (.getfield idx, 3)) (hk : (h.2.2 a).1 = ci) {v : Value} (hv : (h.2.2 a).2.2 k = v) (kk : dr_W M fr wo (pc + 3) l (v :: st) h Q) : dr_W M fr wo pc l (.ref a :: st) h Q := by
  intro G R s m args below meth c H locs cells slots ls X
  obtain ⟨hq, hci, hlay, hty, hnm⟩ := hCl
  obtain ⟨ha, q, q1, q2, cell, e1, e2, e3, e4⟩ := X.heap.obj hk hci
  have hqe : q = (C, T, N) := Option.some.inj (q1.symm.trans hq)
  subst hqe
  have q2 : N = (h.2.2 a).2.1 := q2
  obtain ⟨hS, hfc, kC, hkC, hkind⟩ := X.known hq
  obtain ⟨cf, kf, fi, f, hi, hsl⟩ := hS k hkN
  have hst := (u_facts (args := args) hfc hkC (u_lays (ws := u_ws C T N) (fun w hw => X.word (hlay w hw)) (fun w h => h) hkN) hi).1
  have hv' : cell.slots[f.slot]? = some (dr_tr G v) := by
    rw [hsl, e4 k (by omega)]
    show some (dr_tr G ((h.2.2 a).2.2 k)) = _
    rw [hv]
  rcases hL with hl | ⟨host, hl⟩
  · exact W.getf X.exec X.bytes X.own (X.word hl) hi hst e1 (by rw [e3]; exact fun h => by cases h) hv' rfl rfl hd (kk G R s m args below meth c H locs cells slots ls X)
  · exact va_Wgetf X.exec X.bytes X.own (X.word hl) hi hst e1 (by rw [e3]; exact fun h => by cases h) hv' rfl rfl hd (kk G R s m args below meth c H locs cells slots ls X)
def dr_gi (h : dr_AH) (ci a k : Nat) (K : Int32 → Option (dr_RS × dr_AH)) : Option (dr_RS × dr_AH) :=
  if (h.2.2 a).1 = ci then (match (h.2.2 a).2.2 k with
    | .int x => K x
    | _ => none) else none
def dr_gl (h : dr_AH) (ci a k : Nat) (K : Int64 → Option (dr_RS × dr_AH)) : Option (dr_RS × dr_AH) :=
  if (h.2.2 a).1 = ci then (match (h.2.2 a).2.2 k with
    | .long x => K x
    | _ => none) else none
def dr_gr (h : dr_AH) (ci a k : Nat) (K : Nat → Option (dr_RS × dr_AH)) (K0 : Option (dr_RS × dr_AH)) : Option (dr_RS × dr_AH) :=
  if (h.2.2 a).1 = ci then (match (h.2.2 a).2.2 k with
    | .ref x => K x
    | .null => K0
    | _ => none) else none
theorem wp_gi {K : Int32 → Option (dr_RS × dr_AH)} (hCl : dr_Cl ci C T N ty) (hL : dr_L M.own idx T k) (hkN : k < N) (hd : decode M.code pc = .ok (.getfield idx, 3)) (hp : dr_p (dr_gi h ci a k K) Q) (kk : ∀ x, dr_p (K x) Q → dr_W M fr wo (pc + 3) l (.int x :: st) h Q) : dr_W M fr wo pc l (.ref a :: st) h Q := by
  unfold dr_gi at hp
  by_cases hk : (h.2.2 a).1 = ci
  · rw [if_pos hk] at hp
    cases hv : (h.2.2 a).2.2 k with
    | int x => rw [hv] at hp; exact wp_getv hCl hL hkN hd hk hv (kk x hp)
    | _ => rw [hv] at hp; exact (dr_p0 hp).elim
  · rw [if_neg hk] at hp; exact (dr_p0 hp).elim
theorem wp_gl {K : Int64 → Option (dr_RS × dr_AH)} (hCl : dr_Cl ci C T N ty) (hL : dr_L M.own idx T k) (hkN : k < N) (hd : decode M.code pc = .ok (.getfield idx, 3)) (hp : dr_p (dr_gl h ci a k K) Q) (kk : ∀ x, dr_p (K x) Q → dr_W M fr wo (pc + 3) l (.long x :: st) h Q) : dr_W M fr wo pc l (.ref a :: st) h Q := by
  unfold dr_gl at hp
  by_cases hk : (h.2.2 a).1 = ci
  · rw [if_pos hk] at hp
    cases hv : (h.2.2 a).2.2 k with
    | long x => rw [hv] at hp; exact wp_getv hCl hL hkN hd hk hv (kk x hp)
    | _ => rw [hv] at hp; exact (dr_p0 hp).elim
  · rw [if_neg hk] at hp; exact (dr_p0 hp).elim
theorem wp_gr {K : Nat → Option (dr_RS × dr_AH)} {K0 : Option (dr_RS × dr_AH)} (hCl : dr_Cl ci C T N ty) (hL : dr_L M.own idx T k) (hkN : k < N) (hd : decode M.code pc = .ok (.getfield idx, 3)) (hp : dr_p (dr_gr h ci a k K K0) Q) (kk : ∀ x, dr_p (K x) Q → dr_W M fr wo (pc + 3) l (.ref x :: st) h Q) (k0 : dr_p K0 Q → dr_W M fr wo (pc + 3) l (.null :: st) h Q) : dr_W M fr wo pc l (.ref a :: st) h Q := by
  unfold dr_gr at hp
  by_cases hk : (h.2.2 a).1 = ci
  · rw [if_pos hk] at hp
    cases hv : (h.2.2 a).2.2 k with
    | ref x => rw [hv] at hp; exact wp_getv hCl hL hkN hd hk hv (kk x hp)
    | null => rw [hv] at hp; exact wp_getv hCl hL hkN hd hk hv (k0 hp)
    | _ => rw [hv] at hp; exact (dr_p0 hp).elim
  · rw [if_neg hk] at hp; exact (dr_p0 hp).elim
def dr_pf (h : dr_AH) (ci a k : Nat) (v : Value) (K : dr_AH → Option (dr_RS × dr_AH)) : Option (dr_RS × dr_AH) := if (h.2.2 a).1 = ci then K (dr_put h a k v) else none
theorem wp_put {v : Value} {K : dr_AH → Option (dr_RS × dr_AH)} (hCl : dr_Cl ci C T N ty) (hL : dr_L M.own idx T k) (hkN : k < N) (hfin : (T k).2.2.2 = false ∨ (M.y.name = "<init>" ∧ (T k).1 = M.own)) (hn : narrow (ty k) v = v) (hfit : fits (ty k) v = true) (hd : decode M.code pc = .ok (.putfield idx, 3)) (hp : dr_p (dr_pf h ci a k v K) Q)
    (kk : ∀ h2, dr_p (K h2) Q → dr_W M fr wo (pc + 3) l st h2 Q) : dr_W M fr wo pc l (v :: .ref a :: st) h Q := by
  unfold dr_pf at hp
  by_cases hk : (h.2.2 a).1 = ci
  case neg => rw [if_neg hk] at hp; exact (dr_p0 hp).elim
  rw [if_pos hk] at hp
  have kk := kk _ hp
  intro G R s m args below meth c H locs cells slots ls X
  obtain ⟨hq, hci, hlay, hty, hnm⟩ := hCl
  obtain ⟨ha, q, q1, q2, cell, e1, e2, e3, e4⟩ := X.heap.obj hk hci
  have hqe : q = (C, T, N) := Option.some.inj (q1.symm.trans hq)
  subst hqe
  have q2 : N = (h.2.2 a).2.1 := q2
  have ha0 : 0 < a := by
    rcases Nat.eq_zero_or_pos a with z | z
    · rw [z] at hk
      have := X.heap.2.2.2.2.1
      omega
    · exact z
  have hts : ∀ w ∈ u_ws C T N, w.before args s = true := fun w hw => X.word (hlay w hw)
  have hK : va_K (G.dC, G.dI) vwCl [] s := ⟨fun c q hq => X.known hq, fun k q h => by simp at h⟩
  have hap := va_apart (own := C) hts (fun w h => h) ty hty hnm hK hq
  obtain ⟨hS, hfc, kC, hkC, hkind⟩ := X.known hq
  obtain ⟨cf, kf, fi, f, hi, hsl⟩ := hS k hkN
  have hlays := u_lays (args := args) hts (fun w h => h) hkN
  have hst := (u_facts hfc hkC hlays hi).1
  have hlt : f.slot < cell.slots.size := by rw [hsl]; exact k2_hasslot (e4 k (by omega))
  have hlb : G.s.heap.size ≤ dr_ad G a := by
    cases a with
    | zero => omega
    | succ a => simp only [dr_ad]; omega
  have hlocs : ∀ z ∈ locs ++ [⟨dr_ad G a, f.slot⟩], G.s.heap.size ≤ z.base := by
    intro z hz
    rcases List.mem_append.mp hz with hz | hz
    · exact X.locsE z hz
    · rw [List.mem_singleton.mp hz]; exact hlb
  have hw := u_fits (args := args) hfc hkC hkind hlays hi (hty k hkN) (dr_narrow G hn) (by rw [dr_fits]; exact hfit)
  have fin : ∀ H' : Heap, H'[dr_ad G a]? = some (cell.setSlot f.slot (dr_tr G v)) → H'.size = H.size → (∀ q, q ≠ dr_ad G a → H'[q]? = H[q]?) → W G.p G.l G.e R s m args below meth c H' (locs ++ [⟨dr_ad G a, f.slot⟩]) cells slots (dr_E G R s below Q) (F0 m (pc + 3) ls (st.map (dr_tr G))) := by
    intro H' e1' e2' e3'
    refine kk G R s m args below meth c H' _ cells slots ls (X.setH rfl rfl hlocs (X.heap.put X.bs ha ha0 e2' e3' ⟨fun _ => ?_, fun h1 => ?_⟩))
    · refine ⟨(C, T, N), by rw [← hq, ← hk]; rfl, q2, cell.setSlot f.slot (dr_tr G v), e1', ?_, e3, ?_⟩
      · show cell.cls = G.dC (h.2.2 a).1
        rw [e2, hk]
      · intro j hj
        have hj : j < (h.2.2 a).2.1 := hj
        have := t_set (V := fun k => dr_tr G ((h.2.2 a).2.2 k)) (N := N) (fun k hk => e4 k (by omega)) hap hkN (dr_tr G v) j (by omega)
        show (cell.setSlot f.slot (dr_tr G v)).slots[G.dI (h.2.2 a).1 j]? = some (dr_tr G (if j = k then v else (h.2.2 a).2.2 j))
        rw [hsl, hk]
        rw [this]
        unfold updV
        by_cases hjk : j = k
        · rw [if_pos hjk, if_pos hjk]
        · rw [if_neg hjk, if_neg hjk]
    · exfalso
      have h1 : 100 ≤ (h.2.2 a).1 := h1
      omega
  by_cases hf : (T k).2.2.2 = false
  · have hlay1 := hts _ (u_in_lay hkN)
    unfold u_lay at hlay1
    rw [if_neg (by rw [hf]; decide)] at hlay1
    have h6 := u_store hfc hkC hkind hlay1 hi (hty k hkN) (dr_narrow G hn) (by rw [dr_fits]; exact hfit)
    rcases hL with hl | ⟨host, hl⟩
    · exact W.putK X.exec X.bytes (f := f) ⟨X.own, X.word hl, ⟨_, _, _, hi⟩, hst⟩ (by rw [e2]; exact h6) e1 e3 hlt rfl rfl hd fin
    · exact va_WputK X.exec X.bytes (f := f) X.own (X.word hl) hi hst (by rw [e2]; exact h6) e1 e3 hlt rfl rfl hd fin
  · obtain ⟨hin, hdecl⟩ : M.y.name = "<init>" ∧ (T k).1 = M.own := by
      rcases hfin with z | z
      · exact absurd z hf
      · exact z
    have hlay1 := hts _ (u_in_lay hkN)
    unfold u_lay at hlay1
    rw [if_pos (by simpa using hf)] at hlay1
    obtain ⟨_, _, c', _, _, _, -, -, hf', -, hown2, -⟩ := Cond.laid_spec (final := true) (cls := C) (owner := (T k).1) (name := (T k).2.1) (desc := (T k).2.2.1) hlay1
    have ecf : c' = cf := by have := hi.symm.trans hf'; simp at this; exact this.1.symm
    have hcf : m.cls = cf := by
      rw [← ecf]
      have := X.own
      rw [← hdecl] at this
      exact Option.some.inj (this.symm.trans hown2)
    rcases hL with hl | ⟨host, hl⟩
    · exact W.putFinK X.exec X.bytes X.own (X.word hl) hi hst hcf (by rw [X.name]; exact hin) (by rw [e2]; exact hw) e1 e3 hlt rfl rfl hd fin
    · refine va_Wputf X.exec X.bytes X.own (X.word hl) hi hst (Or.inr ⟨hcf, by rw [X.name]; exact hin⟩) e1 (by rw [e3]; exact fun h => by cases h) hlt hw.1 (by rw [e3, e2]; exact hw.2) rfl rfl hd ?_
      have hlt1 : dr_ad G a < H.size := (Array.getElem?_eq_some_iff.mp e1).1
      refine fin _ ?_ ?_ ?_
      · simp [Array.getElem?_setIfInBounds, hlt1]
      · simp
      · intro q hq
        simp [Array.getElem?_setIfInBounds, Ne.symm hq]
end DRO
/-! ===== arrays ===== -/
section DRA
variable {M : dr_MI} {fr wo pc : Nat} {l : List (Nat × Value)} {st : List Value} {h : dr_AH} {Q : dr_RS → dr_AH → Prop} {a : Nat} {j : Int32}
abbrev dr_in (h : dr_AH) (c a : Nat) (j : Int32) : Prop := (h.2.2 a).1 = 100 + c ∧ 0 ≤ j.toInt ∧ j.toInt < ((h.2.2 a).2.1 : Int)
theorem dr_in.nat {h : dr_AH} {c a : Nat} {j : Int32} (hj : dr_in h c a j) : j.toNatClampNeg < (h.2.2 a).2.1 := by
  have h1 : j.toNatClampNeg = j.toInt.toNat := rfl
  have := hj.2
  omega
theorem dr_in.ok {h : dr_AH} {c a : Nat} {j : Int32} (hj : dr_in h c a j) {cell : Cell} (hz : cell.slots.size = (h.2.2 a).2.1) : ¬ (j < 0 ∨ cell.slots.size ≤ j.toNatClampNeg) := by
  rw [hz]
  exact vp_in_iff.mpr hj.2
def dr_ai (h : dr_AH) (a : Nat) (j : Int32) (K : Int32 → Option (dr_RS × dr_AH)) : Option (dr_RS × dr_AH) :=
  if dr_in h 0 a j then (match (h.2.2 a).2.2 j.toNatClampNeg with
    | .int x => K x
    | _ => none) else none
def dr_al (h : dr_AH) (a : Nat) (j : Int32) (K : Int64 → Option (dr_RS × dr_AH)) : Option (dr_RS × dr_AH) :=
  if dr_in h 1 a j then (match (h.2.2 a).2.2 j.toNatClampNeg with
    | .long x => K x
    | _ => none) else none
def dr_az (h : dr_AH) (a : Nat) (j : Int32) (K : Int32 → Option (dr_RS × dr_AH)) : Option (dr_RS × dr_AH) :=
  if dr_in h 2 a j then (match (h.2.2 a).2.2 j.toNatClampNeg with
    | .int x => K x
    | _ => none) else none
def dr_ar (h : dr_AH) (ci a : Nat) (j : Int32) (K : Nat → Option (dr_RS × dr_AH)) (K0 : Option (dr_RS × dr_AH)) : Option (dr_RS × dr_AH) :=
  if dr_in h (10 + ci) a j then (match (h.2.2 a).2.2 j.toNatClampNeg with
    | .ref x => K x
    | .null => K0
    | _ => none) else none
theorem wp_iaload {K : Int32 → Option (dr_RS × dr_AH)} (hd : decode M.code pc = .ok (.iaload, 1)) (hp : dr_p (dr_ai h a j K) Q) (kk : ∀ x, dr_p (K x) Q → dr_W M fr wo (pc + 1) l (.int x :: st) h Q) : dr_W M fr wo pc l (.int j :: .ref a :: st) h Q := by
  unfold dr_ai at hp
  by_cases hj : dr_in h 0 a j
  case neg => rw [if_neg hj] at hp; exact (dr_p0 hp).elim
  rw [if_pos hj] at hp
  cases hv : (h.2.2 a).2.2 j.toNatClampNeg with
  | int x =>
    rw [hv] at hp
    intro G R s m args below meth c H locs cells slots ls X
    obtain ⟨ha, cell, e1, e2, e3, e4, e5, e6⟩ := X.heap.arr hj.1 (by decide)
    exact W.iald X.exec X.bytes e1 (State.isArrayOf_alike X.warm.alike e3.1) e2 (hj.ok e4) (v := dr_tr G (.int x)) (by rw [e6 _ hj.nat, hv]) rfl rfl hd (kk x hp G R s m args below meth c H locs cells slots ls X)
  | _ => rw [hv] at hp; exact (dr_p0 hp).elim
theorem wp_laload {K : Int64 → Option (dr_RS × dr_AH)} (hd : decode M.code pc = .ok (.laload, 1)) (hp : dr_p (dr_al h a j K) Q) (kk : ∀ x, dr_p (K x) Q → dr_W M fr wo (pc + 1) l (.long x :: st) h Q) : dr_W M fr wo pc l (.int j :: .ref a :: st) h Q := by
  unfold dr_al at hp
  by_cases hj : dr_in h 1 a j
  case neg => rw [if_neg hj] at hp; exact (dr_p0 hp).elim
  rw [if_pos hj] at hp
  cases hv : (h.2.2 a).2.2 j.toNatClampNeg with
  | long x =>
    rw [hv] at hp
    intro G R s m args below meth c H locs cells slots ls X
    obtain ⟨ha, cell, e1, e2, e3, e4, e5, e6⟩ := X.heap.arr hj.1 (by decide)
    exact W.lald X.exec X.bytes e1 (State.isArrayOf_alike X.warm.alike e3.1) e2 (hj.ok e4) (v := dr_tr G (.long x)) (by rw [e6 _ hj.nat, hv]) rfl rfl hd (kk x hp G R s m args below meth c H locs cells slots ls X)
  | _ => rw [hv] at hp; exact (dr_p0 hp).elim
theorem wp_zaload {K : Int32 → Option (dr_RS × dr_AH)} (hd : decode M.code pc = .ok (.baload, 1)) (hp : dr_p (dr_az h a j K) Q) (kk : ∀ x, dr_p (K x) Q → dr_W M fr wo (pc + 1) l (.int x :: st) h Q) : dr_W M fr wo pc l (.int j :: .ref a :: st) h Q := by
  unfold dr_az at hp
  by_cases hj : dr_in h 2 a j
  case neg => rw [if_neg hj] at hp; exact (dr_p0 hp).elim
  rw [if_pos hj] at hp
  cases hv : (h.2.2 a).2.2 j.toNatClampNeg with
  | int x =>
    rw [hv] at hp
    intro G R s m args below meth c H locs cells slots ls X
    obtain ⟨ha, cell, e1, e2, e3, e4, e5, e6⟩ := X.heap.arr hj.1 (by decide)
    exact W.zald X.exec X.bytes e1 (State.isArrayOf_alike X.warm.alike e3.1) e2 (hj.ok e4) (v := dr_tr G (.int x)) (by rw [e6 _ hj.nat, hv]) rfl rfl hd (kk x hp G R s m args below meth c H locs cells slots ls X)
  | _ => rw [hv] at hp; exact (dr_p0 hp).elim
theorem wp_aaload {ci : Nat} {K : Nat → Option (dr_RS × dr_AH)} {K0 : Option (dr_RS × dr_AH)} (hci : ci < 90) (hd : decode M.code pc = .ok (.aaload, 1)) (hp : dr_p (dr_ar h ci a j K K0) Q) (kk : ∀ x, dr_p (K x) Q → dr_W M fr wo (pc + 1) l (.ref x :: st) h Q) (k0 : dr_p K0 Q → dr_W M fr wo (pc + 1) l (.null :: st) h Q) : dr_W M fr wo pc l (.int j :: .ref a :: st) h Q := by
  unfold dr_ar at hp
  by_cases hj : dr_in h (10 + ci) a j
  case neg => rw [if_neg hj] at hp; exact (dr_p0 hp).elim
  rw [if_pos hj] at hp
  have hty : (dr_ty (10 + ci)).isReference = true := by
    unfold dr_ty
    rw [if_neg (by omega), if_neg (by omega), if_neg (by omega), if_neg (by omega), if_neg (by omega)]
    rfl
  cases hv : (h.2.2 a).2.2 j.toNatClampNeg with
  | ref x =>
    rw [hv] at hp
    intro G R s m args below meth c H locs cells slots ls X
    obtain ⟨ha, cell, e1, e2, e3, e4, e5, e6⟩ := X.heap.arr hj.1 (by omega)
    exact W.aald X.exec X.bytes e1 (State.isArrayOf_alike X.warm.alike e3.1) hty e2 (hj.ok e4) (v := dr_tr G (.ref x)) (by rw [e6 _ hj.nat, hv]) rfl rfl hd (kk x hp G R s m args below meth c H locs cells slots ls X)
  | null =>
    rw [hv] at hp
    intro G R s m args below meth c H locs cells slots ls X
    obtain ⟨ha, cell, e1, e2, e3, e4, e5, e6⟩ := X.heap.arr hj.1 (by omega)
    exact W.aald X.exec X.bytes e1 (State.isArrayOf_alike X.warm.alike e3.1) hty e2 (hj.ok e4) (v := dr_tr G .null) (by rw [e6 _ hj.nat, hv]) rfl rfl hd (k0 hp G R s m args below meth c H locs cells slots ls X)
  | _ => rw [hv] at hp; exact (dr_p0 hp).elim
def dr_ln (h : dr_AH) (c a : Nat) (K : Int32 → Option (dr_RS × dr_AH)) : Option (dr_RS × dr_AH) := if (h.2.2 a).1 = 100 + c then K (h.2.2 a).2.1.toInt32 else none
theorem wp_alen {c : Nat} {K : Int32 → Option (dr_RS × dr_AH)} (hc : c < 100) (hd : decode M.code pc = .ok (.arraylength, 1)) (hp : dr_p (dr_ln h c a K) Q) (kk : ∀ x, dr_p (K x) Q → dr_W M fr wo (pc + 1) l (.int x :: st) h Q) : dr_W M fr wo pc l (.ref a :: st) h Q := by
  unfold dr_ln at hp
  by_cases hk : (h.2.2 a).1 = 100 + c
  case neg => rw [if_neg hk] at hp; exact (dr_p0 hp).elim
  rw [if_pos hk] at hp
  intro G R s m args below meth cc H locs cells slots ls X
  obtain ⟨ha, cell, e1, e2, e3, e4, e5, e6⟩ := X.heap.arr hk hc
  exact W.alen X.exec X.bytes e1 (State.isArrayOf_alike X.warm.alike e3.1) (by rw [e4]) rfl rfl hd (kk _ hp G R s m args below meth cc H locs cells slots ls X)
/-- the array's cell with a place written -/
theorem dr_C.ast {G : dr_Gt} (hb : G.b < G.s.heap.size) {h : dr_AH} {H H1 : Heap} (hC : dr_C G h H) {c a k : Nat} {v : Value} (hc : c < 100) (hk : (h.2.2 a).1 = 100 + c) (ha0 : a ≠ 0) {cell : Cell} (e1 : H[dr_ad G a]? = some cell) (hz : H1.size = H.size) (ho : ∀ q, q ≠ dr_ad G a → H1[q]? = H[q]?)
    (hn : H1[dr_ad G a]? = some (cell.setSlot k (dr_tr G v))) (hkl : k < (h.2.2 a).2.1) : dr_C G (dr_put h a k v) H1 := by
  obtain ⟨ha, cell', f1, f2, f3, f4, f5, f6⟩ := hC.arr hk hc
  have : cell' = cell := Option.some.inj (f1.symm.trans e1)
  subst this
  refine hC.put hb ha (Nat.pos_of_ne_zero ha0) hz ho ⟨fun h1 => ?_, fun h1 h2 => ?_⟩
  · exfalso
    have h1 : (h.2.2 a).1 < 100 := h1
    omega
  · refine ⟨cell'.setSlot k (dr_tr G v), hn, f2, ?_, (k2_slotsz _ _ _).trans f4, f5, fun j hj => ?_⟩
    · show dr_ka G ((h.2.2 a).1 - 100) _
      rw [hk, show 100 + c - 100 = c by omega]
      exact f3
    · show (cell'.setSlot k (dr_tr G v)).slots[j]? = some (dr_tr G (if j = k then v else (h.2.2 a).2.2 j))
      by_cases hjk : j = k
      · subst hjk
        rw [if_pos rfl]
        exact Cell.slots_setSlot_self _ (by rw [f4]; exact hkl)
      · rw [if_neg hjk, slot_ne _ _ (Ne.symm hjk)]
        exact f6 j hj
theorem dr_lb {G : dr_Gt} {locs : List Loc} {a k : Nat} (ha0 : a ≠ 0) (hl : ∀ q ∈ locs, G.s.heap.size ≤ q.base) : ∀ z ∈ locs ++ [⟨dr_ad G a, k⟩], G.s.heap.size ≤ z.base := by
  intro z hz
  rcases List.mem_append.mp hz with hz | hz
  · exact hl z hz
  · rw [List.mem_singleton.mp hz]
    cases a with
    | zero => exact absurd rfl ha0
    | succ a => exact Nat.le_add_right _ _
def dr_si (h : dr_AH) (a : Nat) (j x : Int32) (K : dr_AH → Option (dr_RS × dr_AH)) : Option (dr_RS × dr_AH) := if dr_in h 0 a j ∧ a ≠ 0 then K (dr_put h a j.toNatClampNeg (.int x)) else none
def dr_sl (h : dr_AH) (a : Nat) (j : Int32) (x : Int64) (K : dr_AH → Option (dr_RS × dr_AH)) : Option (dr_RS × dr_AH) := if dr_in h 1 a j ∧ a ≠ 0 then K (dr_put h a j.toNatClampNeg (.long x)) else none
def dr_sz (h : dr_AH) (a : Nat) (j x : Int32) (K : dr_AH → Option (dr_RS × dr_AH)) : Option (dr_RS × dr_AH) := if dr_in h 2 a j ∧ a ≠ 0 then K (dr_put h a j.toNatClampNeg (.int (x &&& 1))) else none
theorem wp_iastore {x : Int32} {K : dr_AH → Option (dr_RS × dr_AH)} (hd : decode M.code pc = .ok (.iastore, 1)) (hp : dr_p (dr_si h a j x K) Q) (kk : ∀ h2, dr_p (K h2) Q → dr_W M fr wo (pc + 1) l st h2 Q) : dr_W M fr wo pc l (.int x :: .int j :: .ref a :: st) h Q := by
  unfold dr_si at hp
  by_cases hj : dr_in h 0 a j ∧ a ≠ 0
  case neg => rw [if_neg hj] at hp; exact (dr_p0 hp).elim
  rw [if_pos hj] at hp
  intro G R s m args below meth c H locs cells slots ls X
  obtain ⟨ha, cell, e1, e2, e3, e4, e5, e6⟩ := X.heap.arr hj.1.1 (by decide)
  exact W.iast X.exec X.bytes e1 (State.isArrayOf_alike X.warm.alike e3.1) e2 (hj.1.ok e4) rfl rfl hd fun H' f1 f2 f3 => kk _ hp G R s m args below meth c H' _ cells slots ls (X.setH rfl rfl (dr_lb hj.2 X.locsE) (X.heap.ast X.bs (by decide) hj.1.1 hj.2 e1 f2 f3 f1 hj.1.nat))
theorem wp_lastore {x : Int64} {K : dr_AH → Option (dr_RS × dr_AH)} (hd : decode M.code pc = .ok (.lastore, 1)) (hp : dr_p (dr_sl h a j x K) Q) (kk : ∀ h2, dr_p (K h2) Q → dr_W M fr wo (pc + 1) l st h2 Q) : dr_W M fr wo pc l (.long x :: .int j :: .ref a :: st) h Q := by
  unfold dr_sl at hp
  by_cases hj : dr_in h 1 a j ∧ a ≠ 0
  case neg => rw [if_neg hj] at hp; exact (dr_p0 hp).elim
  rw [if_pos hj] at hp
  intro G R s m args below meth c H locs cells slots ls X
  obtain ⟨ha, cell, e1, e2, e3, e4, e5, e6⟩ := X.heap.arr hj.1.1 (by decide)
  exact W.last X.exec X.bytes e1 (State.isArrayOf_alike X.warm.alike e3.1) e2 (hj.1.ok e4) rfl rfl hd fun H' f1 f2 f3 => kk _ hp G R s m args below meth c H' _ cells slots ls (X.setH rfl rfl (dr_lb hj.2 X.locsE) (X.heap.ast X.bs (by decide) hj.1.1 hj.2 e1 f2 f3 f1 hj.1.nat))
theorem wp_zastore {x : Int32} {K : dr_AH → Option (dr_RS × dr_AH)} (hd : decode M.code pc = .ok (.bastore, 1)) (hp : dr_p (dr_sz h a j x K) Q) (kk : ∀ h2, dr_p (K h2) Q → dr_W M fr wo (pc + 1) l st h2 Q) : dr_W M fr wo pc l (.int x :: .int j :: .ref a :: st) h Q := by
  unfold dr_sz at hp
  by_cases hj : dr_in h 2 a j ∧ a ≠ 0
  case neg => rw [if_neg hj] at hp; exact (dr_p0 hp).elim
  rw [if_pos hj] at hp
  intro G R s m args below meth c H locs cells slots ls X
  obtain ⟨ha, cell, e1, e2, e3, e4, e5, e6⟩ := X.heap.arr hj.1.1 (by decide)
  exact W.zast X.exec X.bytes e1 (State.isArrayOf_alike X.warm.alike e3.1) e2 (hj.1.ok e4) rfl rfl hd fun H' f1 f2 f3 => kk _ hp G R s m args below meth c H' _ cells slots ls (X.setH rfl rfl (dr_lb hj.2 X.locsE) (X.heap.ast X.bs (by decide) hj.1.1 hj.2 e1 f2 f3 f1 hj.1.nat))
def dr_sr (h : dr_AH) (ci a : Nat) (j : Int32) (x : Nat) (K : dr_AH → Option (dr_RS × dr_AH)) : Option (dr_RS × dr_AH) := if (dr_in h (10 + ci) a j ∧ a ≠ 0) ∧ (h.2.2 x).1 = ci then K (dr_put h a j.toNatClampNeg (.ref x)) else none
theorem wp_aastore {ci x : Nat} {K : dr_AH → Option (dr_RS × dr_AH)} (hci : ci < 90) (hd : decode M.code pc = .ok (.aastore, 1)) (hp : dr_p (dr_sr h ci a j x K) Q) (kk : ∀ h2, dr_p (K h2) Q → dr_W M fr wo (pc + 1) l st h2 Q) : dr_W M fr wo pc l (.ref x :: .int j :: .ref a :: st) h Q := by
  unfold dr_sr at hp
  by_cases hj : (dr_in h (10 + ci) a j ∧ a ≠ 0) ∧ (h.2.2 x).1 = ci
  case neg => rw [if_neg hj] at hp; exact (dr_p0 hp).elim
  rw [if_pos hj] at hp
  have hty : (dr_ty (10 + ci)).isReference = true := by
    unfold dr_ty
    rw [if_neg (by omega), if_neg (by omega), if_neg (by omega), if_neg (by omega), if_neg (by omega)]
    rfl
  intro G R s m args below meth c H locs cells slots ls X
  obtain ⟨ha, cell, e1, e2, e3, e4, e5, e6⟩ := X.heap.arr hj.1.1.1 (by omega)
  obtain ⟨hx, q, q1, q2, cv, g1, g2, g3, g4⟩ := X.heap.obj hj.2 (by omega)
  obtain ⟨kA, k1, k2, q', hq'⟩ := e3.2 (by omega)
  rw [show 10 + ci - 10 = ci by omega] at k2 hq'
  have hal := X.warm.alike
  obtain ⟨kA', k1', ke⟩ := hal.2.2 _ _ k1
  obtain ⟨-, hfc, kC, hkC, -⟩ := X.known q1
  refine W.aast X.exec X.bytes (k := kA') (kv := kC) (kcomp := kC) (comp := G.dC ci) (t := dr_ty (10 + ci)) e1 (fun z => (e3.1.1 z)) e2 k1' (by rw [ke]; exact k2) hty hkC ⟨fun z => hj.1.1.ok e4 (Or.inl z), by rw [e4]; exact hj.1.1.nat⟩ g1 (fun z h => by rw [g3] at h; cases h) (by rw [g2]; exact hkC) ?_ rfl rfl hd fun H' f1 f2 f3 => kk _ hp G R s m args below meth c H' _ cells slots ls (X.setH rfl rfl (dr_lb hj.1.2 X.locsE) (X.heap.ast X.bs (by omega) hj.1.1.1 hj.1.2 e1 f2 f3 f1 hj.1.1.nat))
  rw [g2]
  show s.vm.assignableAux (255 + 1) _ _ = true
  rw [Vm.assignableAux, Bool.or_eq_true, beq_iff_eq]
  exact Or.inl rfl
end DRA
/-! ===== making ===== -/
theorem dr_tr_def (G : dr_Gt) (t : FieldType) : dr_tr G (defaultValue t) = defaultValue t := by cases t <;> rfl
theorem dr_X.push {G : dr_Gt} {M : dr_MI} {fr wo : Nat} {R : Room} {s : State} {m : MethodId} {meth : Method} {c : Code} {H H' : Heap} {locs : List Loc} {cells slots : Nat} {ls : Array Slot} {l : List (Nat × Value)} {h : dr_AH} (X : dr_X G M fr wo R s m meth c H locs cells slots ls l h) {o : dr_AO} (hC : dr_C G (dr_push h o) H') :
    dr_X G M fr wo R s m meth c H' locs (cells + 1) (slots + o.2.1) ls l (dr_push h o) :=
  ⟨X.1, X.2.1, X.room, by have := X.cellsE; simp only [dr_push]; omega, by have := X.slotsE; simp only [dr_push]; omega, X.locsE, hC, X.lsE⟩
section DRN
variable {M : dr_MI} {fr wo pc : Nat} {l : List (Nat × Value)} {st : List Value} {h : dr_AH} {Q : dr_RS → dr_AH → Prop} {ci idx N : Nat} {C : String} {T : u_T} {ty : Nat → FieldType}
def dr_nw (h : dr_AH) (ci N : Nat) (f : Nat → Value) (K : Nat → dr_AH → Option (dr_RS × dr_AH)) : Option (dr_RS × dr_AH) :=
  if h.1 < dr_CC ∧ h.2.1 + N ≤ dr_SC then K (h.1 + 1) (dr_push h (ci, N, f)) else none
theorem wp_new {K : Nat → dr_AH → Option (dr_RS × dr_AH)} (hCl : dr_Cl ci C T N ty) (hlk : dr_T (.classLink M.own idx C)) (hins : dr_T (.instantiable C N)) (hini : dr_T (.initialized C)) (hd : decode M.code pc = .ok (.new idx, 3)) (hp : dr_p (dr_nw h ci N (fun k => defaultValue (ty k)) K) Q)
    (kk : ∀ a h2, dr_p (K a h2) Q → dr_W M fr wo (pc + 3) l (.ref a :: st) h2 Q) : dr_W M fr wo pc l st h Q := by
  unfold dr_nw at hp
  by_cases hr : h.1 < dr_CC ∧ h.2.1 + N ≤ dr_SC
  case neg => rw [if_neg hr] at hp; exact (dr_p0 hp).elim
  rw [if_pos hr] at hp
  intro G R s m args below meth c H locs cells slots ls X
  obtain ⟨hq, hci, hlay, hty, hnm⟩ := hCl
  have hKn := X.known hq
  have h1 := X.cellsE
  have h2 := X.slotsE
  have h3 := X.heap.2.2.2.2.2
  refine W.newcK X.exec X.bytes X.own (X.word hlk) (X.word hins) (X.word hini) rfl hd (by omega) (by omega) hKn.2.1 X.heap.1 fun H' kC hkC e1 e2 e3 => ?_
  have hb := u_born (args := args) ty (ws := u_ws C T N) (fun w hw => X.word (hlay w hw)) (fun w h => h) hKn hkC e1 hty
  have hz := X.heap.1
  refine kk _ _ hp G R s m args below meth c H' locs (cells + 1) (slots + N) ls (X.push (X.heap.push X.bs (by omega) (fun q hq => e3 q (by omega)) ⟨fun _ => ?_, fun h1 => ?_⟩ hr))
  · refine ⟨(C, T, N), hq, rfl, ?_⟩
    refine t_OB.to hb (fun k _ => ?_)
    exact (dr_tr_def G (ty k)).symm
  · exfalso
    have h1 : 100 ≤ ci := h1
    omega
def dr_na (h : dr_AH) (c : Nat) (v : Value) (n : Int32) (K : Nat → dr_AH → Option (dr_RS × dr_AH)) : Option (dr_RS × dr_AH) :=
  if (0 ≤ n.toInt ∧ n.toInt ≤ 100000) ∧ h.1 < dr_CC ∧ h.2.1 + n.toNatClampNeg ≤ dr_SC then K (h.1 + 1) (dr_push h (100 + c, n.toNatClampNeg, fun _ => v)) else none
theorem wp_newarray {c : Nat} {atype : ArrayType} {v : Value} {n : Int32} {K : Nat → dr_AH → Option (dr_RS × dr_AH)} (hc : c < 10) (hty : dr_ty c = newarray.typeOf atype) (hv : defaultValue (newarray.typeOf atype) = v) (hcb : componentBytes (newarray.typeOf atype) ≤ 8) (hw : dr_T (.arrayClass (newarray.typeOf atype))) (hd : decode M.code pc = .ok (.newarray atype, 2)) (hp : dr_p (dr_na h c v n K) Q)
    (kk : ∀ a h2, dr_p (K a h2) Q → dr_W M fr wo (pc + 2) l (.ref a :: st) h2 Q) : dr_W M fr wo pc l (.int n :: st) h Q := by
  unfold dr_na at hp
  by_cases hr : (0 ≤ n.toInt ∧ n.toInt ≤ 100000) ∧ h.1 < dr_CC ∧ h.2.1 + n.toNatClampNeg ≤ dr_SC
  case neg => rw [if_neg hr] at hp; exact (dr_p0 hp).elim
  rw [if_pos hr] at hp
  intro G R s m args below meth cc H locs cells slots ls X
  have h1 := X.cellsE
  have h2 := X.slotsE
  have h3 := X.heap.2.2.2.2.2
  have hz := X.heap.1
  have hn0 : ¬ n < 0 := by
    rw [Int32.lt_iff_toInt_lt]
    have : (0 : Int32).toInt = 0 := rfl
    omega
  have hnn : n.toNatClampNeg = n.toInt.toNat := rfl
  refine W.newaK X.exec X.bytes (X.word hw) rfl hd rfl hn0 rfl ?_ (by omega) (by omega) X.heap.1 fun H' cA e1 e2 e3 hA => ?_
  · have : n.toNatClampNeg * componentBytes (newarray.typeOf atype) ≤ n.toNatClampNeg * 8 := Nat.mul_le_mul_left _ hcb
    omega
  refine kk _ _ hp G R s m args below meth cc H' locs (cells + 1) (slots + n.toNatClampNeg) ls (X.push (X.heap.push X.bs (by omega) (fun q hq => e3 q (by omega)) ⟨fun h1 => ?_, fun h1 h2 => ?_⟩ hr.2))
  · exfalso
    have h1 : 100 + c < 100 := h1
    omega
  · refine ⟨_, e1, (fun z => by cases z), ⟨?_, fun hc10 => ?_⟩, arrV_size _ _ _, ?_, fun j hj => ?_⟩
    · show G.s.isArrayOf _ (dr_ty (100 + c - 100))
      rw [show 100 + c - 100 = c by omega, hty]
      exact State.isArrayOf_alike X.warm.alike.symm (hA _ _)
    · exfalso
      have hc10 : 10 ≤ 100 + c - 100 := hc10
      omega
    · show n.toNatClampNeg < 2 ^ 31
      omega
    · have hj : j < n.toNatClampNeg := hj
      show (arrV cA n.toNatClampNeg _).slots[j]? = some (dr_tr G v)
      rw [← hv, dr_tr_def]
      simp [arrV, hj]
theorem wp_anewarray {n : Int32} {K : Nat → dr_AH → Option (dr_RS × dr_AH)} (hCl : dr_Cl ci C T N ty) (hci : ci < 90) (hlk : dr_T (.classLink M.own idx C)) (hov : dr_T (.arrayOver (.object C))) (hd : decode M.code pc = .ok (.anewarray idx, 3)) (hp : dr_p (dr_na h (10 + ci) .null n K) Q)
    (kk : ∀ a h2, dr_p (K a h2) Q → dr_W M fr wo (pc + 3) l (.ref a :: st) h2 Q) : dr_W M fr wo pc l (.int n :: st) h Q := by
  unfold dr_na at hp
  by_cases hr : (0 ≤ n.toInt ∧ n.toInt ≤ 100000) ∧ h.1 < dr_CC ∧ h.2.1 + n.toNatClampNeg ≤ dr_SC
  case neg => rw [if_neg hr] at hp; exact (dr_p0 hp).elim
  rw [if_pos hr] at hp
  intro G R s m args below meth cc H locs cells slots ls X
  obtain ⟨hq, hci', hlay, hty, hnm⟩ := hCl
  have h1 := X.cellsE
  have h2 := X.slotsE
  have h3 := X.heap.2.2.2.2.2
  have hz := X.heap.1
  have hn0 : ¬ n < 0 := by
    rw [Int32.lt_iff_toInt_lt]
    have : (0 : Int32).toInt = 0 := rfl
    omega
  have hnn : n.toNatClampNeg = n.toInt.toNat := rfl
  have hte : dr_ty (10 + ci) = .object C := by
    unfold dr_ty
    rw [if_neg (by omega), if_neg (by omega), if_neg (by omega), if_neg (by omega), if_neg (by omega), show 10 + ci - 10 = ci by omega]
    unfold dr_nm
    rw [hq]
  refine W.anew X.exec X.bytes X.own (X.word hlk) (X.word hov) rfl hd rfl hn0 (by omega) (by omega) (by omega) fun cA kA comp f1 f2 f3 f4 => ?_
  have hcomp : comp = G.dC ci := Option.some.inj (f4.symm.trans (X.known hq).2.1)
  subst hcomp
  have ead : dr_ad G (h.1 + 1) = H.size := by rw [hz]; rfl
  have hal := X.warm.alike.symm
  obtain ⟨kA', g1, g2⟩ := hal.2.2 _ _ f2
  rw [show (Value.ref H.size) = dr_tr G (.ref (h.1 + 1)) by simp only [dr_tr, ead]]
  refine kk _ _ hp G R s m args below meth cc _ locs (cells + 1) (slots + n.toNatClampNeg) ls (X.push (X.heap.push X.bs (by simp) (fun q hq => by rw [Array.getElem?_push, if_neg (by omega)]) ⟨fun h1 => ?_, fun h1 h2 => ?_⟩ hr.2))
  · exfalso
    have h1 : 100 + (10 + ci) < 100 := h1
    omega
  · refine ⟨{ cls := cA, slots := Array.replicate n.toNatClampNeg .null, vm := .none }, (by rw [ead]; simp), (fun z => by cases z), ⟨?_, fun _ => ?_⟩, (by simp), ?_, fun j hj => ?_⟩
    · show G.s.isArrayOf _ (dr_ty (100 + (10 + ci) - 100))
      rw [show 100 + (10 + ci) - 100 = 10 + ci by omega, hte]
      exact ⟨(fun k h => by cases h), kA', g1, G.dC ci, (by rw [g2]; exact f3)⟩
    · show ∃ kA : Class, G.s.vm.classes[cA]? = some kA ∧ kA.kind = .array (G.dC (100 + (10 + ci) - 100 - 10)) (dr_ty (100 + (10 + ci) - 100)) ∧ ∃ q, vwCl[100 + (10 + ci) - 100 - 10]? = some q
      rw [show 100 + (10 + ci) - 100 = 10 + ci by omega, show 10 + ci - 10 = ci by omega, hte]
      exact ⟨kA', g1, (by rw [g2]; exact f3), _, hq⟩
    · show n.toNatClampNeg < 2 ^ 31
      omega
    · have hj : j < n.toNatClampNeg := hj
      show (Array.replicate n.toNatClampNeg Value.null)[j]? = some (dr_tr G .null)
      simp [hj, dr_tr]
theorem dr_cats (G : dr_Gt) (st : List Value) : ((st.map (dr_tr G)).map fun v => v.category).sum = (st.map fun v => v.category).sum := by
  rw [List.map_map]
  congr 1
  apply List.map_congr_left
  intro v _
  exact dr_tr_cat G v
theorem wp_objInit {a : Nat} (hlk : dr_T (.methodLink M.own idx Lib.objectInit)) (hin : dr_T (.instanceMethod Lib.objectInit)) (hco : dr_T (.code Lib.objectInit ⟨#[0xb1]⟩ 1 none)) (hf : 1 ≤ fr) (hw : (st.map fun v => v.category).sum + 12 ≤ wo) (hd : decode M.code pc = .ok (.invokespecial idx, 3)) (k : dr_W M fr wo (pc + 3) l st h Q) : dr_W M fr wo pc l (.ref a :: st) h Q := by
  intro G R s m args below meth c H locs cells slots ls X
  have hR := X.room
  unfold dr_R at hR
  refine W.objInit X.exec X.bytes X.own (X.word hlk) (X.word hin) (X.word hco) rfl (X.lsE.1.trans X.maxL.symm) (a := dr_ad G a) (rest := st.map (dr_tr G)) rfl hd (by omega) ?_ (k G R s m args below meth c H locs cells slots ls X)
  rw [dr_cats]
  show 2 * 0 + _ + 12 ≤ R.locals
  omega
end DRN
/-! ===== ends ===== -/
section DRE
variable {G : dr_Gt} {M : dr_MI} {fr wo pc : Nat} {R : Room} {s : State} {m : MethodId} {args : Array Value} {below : List Frame} {meth : Method} {c : Code} {H : Heap} {locs : List Loc} {cells slots : Nat} {ls : Array Slot} {l : List (Nat × Value)} {h : dr_AH} {Q : dr_RS → dr_AH → Prop}
theorem dr_fin (X : dr_X G M fr wo R s m meth c H locs cells slots ls l h) {v : Option Value} (hq : dr_p (some (.inl v, h)) Q) (t : State) (ht : MQ below (fun _ _ o t => o = .returned (v.map (dr_tr G)) ∧ t.heap = H) args s cells slots (fun q => G.s.heap.size ≤ q) t) : dr_E G R s below Q t := by
  obtain ⟨o, h1, h2, ⟨h3, h4⟩, L, ⟨h5, h6, h7⟩, h8⟩ := ht
  obtain ⟨r, e, hQ⟩ := hq
  cases e
  exact ⟨o, .inl v, h, L, cells, slots, h1, h2, h6, h7, h8, X.cellsE, X.slotsE, by rw [h4]; exact X.heap, h3, hQ⟩
theorem dr_mono {p : Program} {lc : Launch} {e : Env} {Q1 Q2 : State → Prop} {g : JFrame} (hq : ∀ t, Q1 t → Q2 t) (k : W p lc e R s m args below meth c H locs cells slots Q1 g) : W p lc e R s m args below meth c H locs cells slots Q2 g := fun T hT X => by
  obtain ⟨t, a, b⟩ := k T hT X
  exact ⟨t, a, hq t b⟩
end DRE
section DRF
variable {M : dr_MI} {fr wo pc : Nat} {l : List (Nat × Value)} {st : List Value} {h : dr_AH} {Q : dr_RS → dr_AH → Prop}
theorem wp_ireturn {x : Int32} {ty : FieldType} (hr : M.ret = some ty) (hn : narrow ty (.int x) = .int x) (hd : decode M.code pc = .ok (.ireturn, 1)) (hp : dr_p (some (.inl (some (.int x)), h)) Q) : dr_W M fr wo pc l [.int x] h Q := fun G R s m args below meth c H locs cells slots ls X =>
  dr_mono (dr_fin X hp) (W.zret X.exec X.bytes (X.rets.trans hr) hn (fun t ht _ => ⟨rfl, ht⟩) X.locsE hd X.locks)
def dr_rz (x : Int32) (h : dr_AH) : Option (dr_RS × dr_AH) := if x &&& 1 = x then some (.inl (some (.int x)), h) else none
theorem wp_zreturn {x : Int32} (hr : M.ret = some .boolean) (hd : decode M.code pc = .ok (.ireturn, 1)) (hp : dr_p (dr_rz x h) Q) : dr_W M fr wo pc l [.int x] h Q := by
  unfold dr_rz at hp
  by_cases hx : x &&& 1 = x
  · rw [if_pos hx] at hp
    exact wp_ireturn hr (by show Value.int (x &&& 1) = .int x; rw [hx]) hd hp
  · rw [if_neg hx] at hp; exact (dr_p0 hp).elim
theorem wp_lreturn {x : Int64} (hr : M.ret = some .long) (hd : decode M.code pc = .ok (.lreturn, 1)) (hp : dr_p (some (.inl (some (.long x)), h)) Q) : dr_W M fr wo pc l [.long x] h Q := fun G R s m args below meth c H locs cells slots ls X =>
  dr_mono (dr_fin X hp) (W.lret X.exec X.bytes (X.rets.trans hr) (fun t ht _ => ⟨rfl, ht⟩) X.locsE hd X.locks)
theorem wp_return (hr : M.ret = none) (hd : decode M.code pc = .ok (.return_, 1)) (hp : dr_p (some (.inl none, h)) Q) : dr_W M fr wo pc l [] h Q := fun G R s m args below meth c H locs cells slots ls X =>
  dr_mono (dr_fin X hp) (W.vret X.exec X.bytes (X.rets.trans hr) (fun t ht _ => ⟨rfl, ht⟩) X.locsE hd X.locks)
theorem wp_areturn {a : Nat} {rt : FieldType} (hr : M.ret = some rt) (hrt : (∃ n, rt = .object n) ∨ ∃ t, rt = .array t) (hd : decode M.code pc = .ok (.areturn, 1)) (hp : dr_p (some (.inl (some (.ref a)), h)) Q) : dr_W M fr wo pc l [.ref a] h Q := fun G R s m args below meth c H locs cells slots ls X =>
  dr_mono (dr_fin X hp) (W.aret X.exec X.bytes (X.rets.trans hr) hrt (Or.inr ⟨_, rfl⟩) (fun t ht _ => ⟨rfl, ht⟩) X.locsE hd X.locks)
theorem wp_areturnN {rt : FieldType} (hr : M.ret = some rt) (hrt : (∃ n, rt = .object n) ∨ ∃ t, rt = .array t) (hd : decode M.code pc = .ok (.areturn, 1)) (hp : dr_p (some (.inl (some .null), h)) Q) : dr_W M fr wo pc l [.null] h Q := fun G R s m args below meth c H locs cells slots ls X =>
  dr_mono (dr_fin X hp) (W.aret X.exec X.bytes (X.rets.trans hr) hrt (Or.inl rfl) (fun t ht _ => ⟨rfl, ht⟩) X.locsE hd X.locks)
end DRF
end
section
/-! ===== calls ===== -/
/-- the method's code stands in the tables -/
def dr_code (M : dr_MI) : Prop := (M.tab = [] ∧ dr_T (.code M.y M.code M.maxL M.ret)) ∨ dr_T (.codeWith M.y M.code M.maxL M.ret M.tab)
theorem dr_code.at {M : dr_MI} (hc : dr_code M) {G : dr_Gt} {s : State} (K : dr_K G) (hW : G.s.WarmedH s.vm) {mk : MethodId} (hn : s.methodNamed? M.y = some mk) :
    ∃ methk ck, s.vm.method? mk = some methk ∧ methk.code = some ck ∧ ck.code = M.code ∧ ck.maxLocals = M.maxL ∧ methk.sig.returnType = M.ret ∧ methk.locks = false ∧ ck.exceptionTable.toList.map (fun x => (x.startPc, x.endPc, x.handlerPc, x.catchType)) = M.tab ∧ parseMethodDescriptor M.y.desc = some methk.sig := by
  rcases hc with ⟨ht, hc⟩ | hc
  · obtain ⟨methk, ck, h1, h2, h3, h4, h5, h6, h7, h8⟩ := Cond.code_spec (args := #[]) (first := s) (o := none) (idx := []) hn (hc G s #[] K hW)
    refine ⟨methk, ck, h1, h2, h3, h4, h5, h6, ?_, h8⟩
    rw [ht]
    have : ck.exceptionTable = #[] := by simpa using h7
    rw [this]
    rfl
  · obtain ⟨mk', methk, ck, h0, h1, h2, h3, h4, h5, h6, h7, h8⟩ := Cond.codeWith_spec (args := #[]) (first := s) (o := none) (idx := []) (hc G s #[] K hW)
    cases hn.symm.trans h0
    exact ⟨methk, ck, h1, h2, h3, h4, h6, h7, h5, h8⟩
theorem dr_args (G : dr_Gt) : ∀ (vs : List Value) (i : Nat), lv_args i (vs.map (dr_tr G)) = dr_tl G (lv_args i vs) := by
  intro vs
  induction vs with
  | nil => intro i; rfl
  | cons v vs ih =>
    intro i
    simp only [List.map_cons, lv_args, dr_tr_cat, ih]
    rfl
theorem dr_sl_len (G : dr_Gt) (vs : List Value) : (lg_sl (vs.map (dr_tr G))).length = (lg_sl vs).length := by
  induction vs with
  | nil => rfl
  | cons v vs ih =>
    simp only [lg_sl, List.map_cons, List.flatMap_cons, List.length_append, dr_tr_cat] at ih ⊢
    rw [ih]
    congr 1
    by_cases hv : v.category = 2
    · rw [if_pos hv, if_pos hv]; rfl
    · rw [if_neg hv, if_neg hv]; rfl
theorem dr_under {tb : Tables} {e : Env} {g : Frame} {below : List Frame} {s t : State} (h : Steps tb e (g :: below) s t) : Steps tb e below s t := by
  obtain ⟨n, e1, w⟩ := h
  exact ⟨n, e1, fun k hk => Within.weaken (mid := [g]) (w k hk)⟩
section DRG
variable {G : dr_Gt} {M M' : dr_MI} {fr' wo' fr wo pc : Nat} {R : Room} {s : State} {m : MethodId} {args : Array Value} {below : List Frame} {meth : Method} {c : Code} {H : Heap} {locs : List Loc} {cells slots : Nat} {ls : Array Slot} {l : List (Nat × Value)} {h : dr_AH} {Q' : dr_RS → dr_AH → Prop}
/-- into the callee, through it, and out again -/
theorem dr_go (X : dr_X G M fr wo R s m meth c H locs cells slots ls l h) {T₁ : State} (hT : T₁.heap = H) (S : Stand G.p G.l G.e R s m args below meth c T₁ locs cells slots) {mk : MethodId} (hn : s.methodNamed? M'.y = some mk) (hcode : dr_code M') (hpl : plainFor M'.y = true)
    {As st : List Value} {ig : Instr} {len : Nat} (hdg : decode c.code pc = .ok (ig, len)) (hf : fr' + 1 ≤ fr) (hw : (st.map fun v => v.category).sum + (M'.maxL + 11) + wo' ≤ wo) (hAs : (lg_sl As).length ≤ M'.maxL) (k : dr_W M' fr' wo' 0 (lv_args 0 As) [] h Q') :
    (∃ (v : Option Value) (h' : dr_AH) (T' : State) (L : List Loc) (k n : Nat), Q' (.inl v) h' ∧ Stand G.p G.l G.e R s m args below meth c T' (locs ++ L) (cells + k) (slots + n) ∧ dr_X G M fr wo R s m meth c T'.heap (locs ++ L) (cells + k) (slots + n) ls l h' ∧
      ∀ acts, Steps G.p.tables G.e below (doInvoke G.e (T₁.setTop (F0 m pc ls (st.map (dr_tr G)))) acts mk (As.map (dr_tr G)).toArray).1 (T'.setTop (F0 m (pc + len) ls ((v.map (dr_tr G)).toList ++ st.map (dr_tr G))))) ∨
    (∃ (E : String) (q : Nat) (h' : dr_AH) (T' : State) (L : List Loc) (k n : Nat), Q' (.inr (E, q)) h' ∧ Stand G.p G.l G.e R s m args below meth c T' (locs ++ L) (cells + k) (slots + n) ∧ dr_X G M fr wo R s m meth c T'.heap (locs ++ L) (cells + k) (slots + n) ls l h' ∧
      1 ≤ q ∧ q ≤ h'.1 ∧ (∃ ce : Cell, T'.heap[dr_ad G q]? = some ce ∧ ce.vm = .none ∧ G.s.vm.findClass E = some ce.cls) ∧
      ∀ acts, Steps G.p.tables G.e below (doInvoke G.e (T₁.setTop (F0 m pc ls (st.map (dr_tr G)))) acts mk (As.map (dr_tr G)).toArray).1 ((T'.setTop (F0 m pc ls (st.map (dr_tr G)))).pushFrame (.throwing (dr_ad G q)))) := by
  obtain ⟨methk, ck, h1, h2, h3, h4, h5, h6, h7, -⟩ := hcode.at X.1 X.warm hn
  have hal := S.warmed.alike
  have hmk : T₁.vm.method? mk = some methk := by rw [hal.method?]; exact h1
  have hn1 : T₁.methodNamed? M'.y = some mk := S.named hn
  have hpk : T₁.plainMethod mk := State.plainMethod.of_named hpl hn1 hmk
  have hr := X.room
  have hc1 := X.cellsE
  have hs1 := X.slotsE
  have hb1 := X.heap.2.2.2.2.2
  unfold dr_R at hr
  have hcat := dr_cats G st
  obtain ⟨Y, hdo⟩ := S.into (g := F0 m pc ls (st.map (dr_tr G))) rfl (X.lsE.1.trans X.maxL.symm) hdg (mk := mk) (methk := methk) (ck := ck) (As.map (dr_tr G)).toArray
    (R' := { frames := R.frames - 1, cells := R.cells - cells, slots := R.slots - slots, locals := R.locals - ((st.map fun v => v.category).sum + (M'.maxL + 11)) }) hmk h2 h6 hpk (by show R.frames - 1 + 1 ≤ R.frames; omega)
    (by show 2 * 0 + ((st.map (dr_tr G)).map fun v => v.category).sum + (ck.maxLocals + 11) + (R.locals - _) ≤ R.locals; rw [hcat, h4]; omega) (by show cells + (R.cells - cells) ≤ R.cells; omega) (by show slots + (R.slots - slots) ≤ R.slots; omega)
  rw [h4] at hdo Y
  have hls := lv_entry (As.map (dr_tr G)) (n := M'.maxL) (by rw [dr_sl_len]; exact hAs)
  rw [dr_args] at hls
  have hX' : dr_X G M' fr' wo' { frames := R.frames - 1, cells := R.cells - cells, slots := R.slots - slots, locals := R.locals - ((st.map fun v => v.category).sum + (M'.maxL + 11)) } (T₁.calling (F0 m pc ls (st.map (dr_tr G))) mk (As.map (dr_tr G)).toArray) mk methk ck H [] 0 0 _ (lv_args 0 As) h :=
    ⟨X.1, ⟨State.WarmedH.trans X.warm S.warmed, findClass_of_methodNamed hn1, h3, h4, h5, h6, (name_of_methodNamed hn1 hmk).1, h7⟩, ⟨by show fr' ≤ R.frames - 1; omega, by show wo' ≤ R.locals - _; omega⟩, by show R.cells - cells + h.1 = dr_CC + 0; omega, by show R.slots - slots + h.2.1 = dr_SC + 0; omega, (fun q hq => by cases hq), X.heap, hls⟩
  obtain ⟨t, hst, o, r, h', L, kk, n, e1, e2, e3, e4, e5, e6, e7, e8, e9, e10⟩ := k G _ _ mk (As.map (dr_tr G)).toArray (.java (F0 m pc ls (st.map (dr_tr G))) :: below) methk ck H [] 0 0 _ hX' ((T₁.setTop (F0 m pc ls (st.map (dr_tr G)))).pushFrame (.java (entryFrame mk (As.map (dr_tr G)).toArray M'.maxL))) hT Y
  have e6 : R.cells - cells + h'.1 = dr_CC + kk := e6
  have e7 : R.slots - slots + h'.2.1 = dr_SC + n := e7
  have hst := dr_under hst
  have hdo2 : ∀ acts, Steps G.p.tables G.e below (doInvoke G.e (T₁.setTop (F0 m pc ls (st.map (dr_tr G)))) acts mk (As.map (dr_tr G)).toArray).1 t := fun acts => by
    rw [hdo acts]
    have := hst
    rw [show F0 mk 0 _ (List.map (dr_tr G) []) = entryFrame mk (As.map (dr_tr G)).toArray M'.maxL from (lg_entry_eq mk (As.map (dr_tr G)) M'.maxL).symm] at this
    exact this
  have hlocs : ∀ q ∈ locs ++ L, G.s.heap.size ≤ q.base := fun q hq => (List.mem_append.mp hq).elim (X.locsE q) (e5 q)
  cases r with
  | inl v =>
    have e9 : o = .returned (v.map (dr_tr G)) := e9
    subst e9
    obtain ⟨T', f1, f2, f3, f4⟩ := S.outOf (g := F0 m pc ls (st.map (dr_tr G))) rfl hdg e2 e3 e4
    refine Or.inl ⟨v, h', T', L, kk, n, e10, f1, ⟨X.1, X.2.1, X.room, by omega, by omega, hlocs, ?_, X.lsE⟩, fun acts => ?_⟩
    · have : t.heap = T'.heap := by rw [f4]; rfl
      rw [← this]; exact e8
    · have := hdo2 acts
      rw [f4] at this
      exact this
  | inr x =>
    obtain ⟨E, q⟩ := x
    obtain ⟨g1, g2, g3, ce, g4, g5, g6⟩ := e9
    subst g1
    obtain ⟨T', f1, f2, f3, f4⟩ := S.outOfThrown (g := F0 m pc ls (st.map (dr_tr G))) rfl e2 e3 e4
    have hh : t.heap = T'.heap := by rw [f4]; rfl
    refine Or.inr ⟨E, q, h', T', L, kk, n, e10, f1, ⟨X.1, X.2.1, X.room, by omega, by omega, hlocs, ?_, X.lsE⟩, g2, g3, ⟨ce, by rw [← hh]; exact g4, g5, g6⟩, fun acts => ?_⟩
    · rw [← hh]; exact e8
    · have := hdo2 acts
      rw [f4] at this
      exact this
end DRG
/-- the call at pc: the operands stk hold the arguments As over st; the machine comes to the method M' -/
def dr_S (M : dr_MI) (pc : Nat) (M' : dr_MI) (As stk st : List Value) (h : dr_AH) : Prop :=
  ∀ (G : dr_Gt) (fr wo : Nat) (R : Room) (s : State) (m : MethodId) (args : Array Value) (below : List Frame) (meth : Method) (c : Code) (H : Heap) (locs : List Loc) (cells slots : Nat) (ls : Array Slot) (l : List (Nat × Value)) (T : State),
    dr_X G M fr wo R s m meth c H locs cells slots ls l h → T.heap = H → Stand G.p G.l G.e R s m args below meth c T locs cells slots →
    ∃ (vm₁ : Vm) (mk : MethodId) (ig : Instr), Stand G.p G.l G.e R s m args below meth c (T.setVm vm₁) locs cells slots ∧ s.methodNamed? M'.y = some mk ∧ decode c.code pc = .ok (ig, 3) ∧
      ∀ target, (∀ acts, Steps G.p.tables G.e below (doInvoke G.e ((T.setVm vm₁).setTop (F0 m pc ls (st.map (dr_tr G)))) acts mk (As.map (dr_tr G)).toArray).1 target) → Steps G.p.tables G.e below (T.setTop (F0 m pc ls (stk.map (dr_tr G)))) target
section DRC
variable {M M' : dr_MI} {fr' wo' fr wo pc : Nat} {l : List (Nat × Value)} {st stk As : List Value} {h : dr_AH} {Q : dr_RS → dr_AH → Prop} {o : Option (dr_RS × dr_AH)}
theorem wp_call (S : dr_S M pc M' As stk st h) (hcode : dr_code M') (hpl : plainFor M'.y = true) (hf : fr' + 1 ≤ fr) (hw : (st.map fun v => v.category).sum + (M'.maxL + 11) + wo' ≤ wo) (hAs : (lg_sl As).length ≤ M'.maxL) (hc : ∀ Q', dr_p o Q' → dr_W M' fr' wo' 0 (lv_args 0 As) [] h Q') {r0 : dr_RS × dr_AH} (ho : o = some r0)
    (kr : ∀ v h', o = some (.inl v, h') → dr_W M fr wo (pc + 3) l (v.toList ++ st) h' Q) (kx : ∀ E q h', o = some (.inr (E, q), h') → dr_V M fr wo pc l st E q h' Q) : dr_W M fr wo pc l stk h Q := by
  intro G R s m args below meth c H locs cells slots ls X T hT SS
  obtain ⟨vm₁, mk, ig, S1, hn, hdg, hgo⟩ := S G fr wo R s m args below meth c H locs cells slots ls l T X hT SS
  have hk := hc (fun r h' => o = some (r, h')) ⟨r0, ho, ho⟩
  rcases dr_go X (T₁ := T.setVm vm₁) hT S1 hn hcode hpl (st := st) hdg hf hw hAs hk with ⟨v, h', T', L, k, n, e1, e2, e3, e4⟩ | ⟨E, q, h', T', L, k, n, e1, e2, e3, e5, e6, e7, e4⟩
  · obtain ⟨t, a1, b1⟩ := kr v h' e1 G R s m args below meth c T'.heap (locs ++ L) (cells + k) (slots + n) ls e3 T' rfl e2
    refine ⟨t, hgo t fun acts => (e4 acts).trans ?_, b1⟩
    have ev : (v.toList ++ st).map (dr_tr G) = (v.map (dr_tr G)).toList ++ st.map (dr_tr G) := by cases v <;> rfl
    rw [ev] at a1
    exact a1
  · obtain ⟨t, a1, b1⟩ := kx E q h' e1 G R s m args below meth c T'.heap (locs ++ L) (cells + k) (slots + n) ls e3 e5 e6 e7 T' rfl e2
    exact ⟨t, hgo t fun acts => (e4 acts).trans a1, b1⟩
def dr_ci (o : Option (dr_RS × dr_AH)) (K : Int32 → dr_AH → Option (dr_RS × dr_AH)) (X : String → Nat → dr_AH → Option (dr_RS × dr_AH)) : Option (dr_RS × dr_AH) := match o with
  | some (.inl (some (.int x)), h) => K x h
  | some (.inr (E, q), h) => X E q h
  | _ => none
def dr_cv (o : Option (dr_RS × dr_AH)) (K : dr_AH → Option (dr_RS × dr_AH)) (X : String → Nat → dr_AH → Option (dr_RS × dr_AH)) : Option (dr_RS × dr_AH) := match o with
  | some (.inl none, h) => K h
  | some (.inr (E, q), h) => X E q h
  | _ => none
def dr_cr (o : Option (dr_RS × dr_AH)) (K : Nat → dr_AH → Option (dr_RS × dr_AH)) (X : String → Nat → dr_AH → Option (dr_RS × dr_AH)) : Option (dr_RS × dr_AH) := match o with
  | some (.inl (some (.ref a)), h) => K a h
  | some (.inr (E, q), h) => X E q h
  | _ => none
/-- where the exception goes on to the caller -/
def dr_x0 (E : String) (q : Nat) (h : dr_AH) : Option (dr_RS × dr_AH) := some (.inr (E, q), h)
theorem wp_ci {K : Int32 → dr_AH → Option (dr_RS × dr_AH)} {X : String → Nat → dr_AH → Option (dr_RS × dr_AH)} (S : dr_S M pc M' As stk st h) (hcode : dr_code M') (hpl : plainFor M'.y = true) (hf : fr' + 1 ≤ fr) (hw : (st.map fun v => v.category).sum + (M'.maxL + 11) + wo' ≤ wo) (hAs : (lg_sl As).length ≤ M'.maxL) (hc : ∀ Q', dr_p o Q' → dr_W M' fr' wo' 0 (lv_args 0 As) [] h Q') (hp : dr_p (dr_ci o K X) Q)
    (kr : ∀ x h', dr_p (K x h') Q → dr_W M fr wo (pc + 3) l (.int x :: st) h' Q) (kx : ∀ E q h', dr_p (X E q h') Q → dr_V M fr wo pc l st E q h' Q) : dr_W M fr wo pc l stk h Q := by
  cases o with
  | none => exact (dr_p0 hp).elim
  | some r0 =>
    refine wp_call S hcode hpl hf hw hAs hc rfl (fun v h' e => ?_) (fun E q h' e => ?_)
    · cases e
      cases v with
      | none => exact (dr_p0 hp).elim
      | some v => cases v with
        | int x => exact kr x h' hp
        | _ => exact (dr_p0 hp).elim
    · cases e
      exact kx E q h' hp
theorem wp_cv {K : dr_AH → Option (dr_RS × dr_AH)} {X : String → Nat → dr_AH → Option (dr_RS × dr_AH)} (S : dr_S M pc M' As stk st h) (hcode : dr_code M') (hpl : plainFor M'.y = true) (hf : fr' + 1 ≤ fr) (hw : (st.map fun v => v.category).sum + (M'.maxL + 11) + wo' ≤ wo) (hAs : (lg_sl As).length ≤ M'.maxL) (hc : ∀ Q', dr_p o Q' → dr_W M' fr' wo' 0 (lv_args 0 As) [] h Q') (hp : dr_p (dr_cv o K X) Q)
    (kr : ∀ h', dr_p (K h') Q → dr_W M fr wo (pc + 3) l st h' Q) (kx : ∀ E q h', dr_p (X E q h') Q → dr_V M fr wo pc l st E q h' Q) : dr_W M fr wo pc l stk h Q := by
  cases o with
  | none => exact (dr_p0 hp).elim
  | some r0 =>
    refine wp_call S hcode hpl hf hw hAs hc rfl (fun v h' e => ?_) (fun E q h' e => ?_)
    · cases e
      cases v with
      | none => exact kr h' hp
      | some v => exact (dr_p0 hp).elim
    · cases e
      exact kx E q h' hp
theorem wp_cr {K : Nat → dr_AH → Option (dr_RS × dr_AH)} {X : String → Nat → dr_AH → Option (dr_RS × dr_AH)} (S : dr_S M pc M' As stk st h) (hcode : dr_code M') (hpl : plainFor M'.y = true) (hf : fr' + 1 ≤ fr) (hw : (st.map fun v => v.category).sum + (M'.maxL + 11) + wo' ≤ wo) (hAs : (lg_sl As).length ≤ M'.maxL) (hc : ∀ Q', dr_p o Q' → dr_W M' fr' wo' 0 (lv_args 0 As) [] h Q') (hp : dr_p (dr_cr o K X) Q)
    (kr : ∀ x h', dr_p (K x h') Q → dr_W M fr wo (pc + 3) l (.ref x :: st) h' Q) (kx : ∀ E q h', dr_p (X E q h') Q → dr_V M fr wo pc l st E q h' Q) : dr_W M fr wo pc l stk h Q := by
  cases o with
  | none => exact (dr_p0 hp).elim
  | some r0 =>
    refine wp_call S hcode hpl hf hw hAs hc rfl (fun v h' e => ?_) (fun E q h' e => ?_)
    · cases e
      cases v with
      | none => exact (dr_p0 hp).elim
      | some v => cases v with
        | ref x => exact kr x h' hp
        | _ => exact (dr_p0 hp).elim
    · cases e
      exact kx E q h' hp
/-- no row of the table covers pc: the exception leaves the method -/
theorem wx_out {E : String} {q : Nat} (hout : M.tab.all (fun z => !(decide (z.1 ≤ pc) && decide (pc < z.2.1))) = true) (hp : dr_p (dr_x0 E q h) Q) : dr_V M fr wo pc l st E q h Q := by
  intro G R s m args below meth c H locs cells slots ls X h1 h2 h3 T hT S
  have hlocks := X.locks
  have hno : ∀ x ∈ c.exceptionTable.toList, covers x pc = false := by
    intro x hx
    have hm : (x.startPc, x.endPc, x.handlerPc, x.catchType) ∈ M.tab := by
      rw [← X.tab]
      exact List.mem_map.mpr ⟨x, hx, rfl⟩
    have := List.all_eq_true.mp hout _ hm
    rw [Bool.not_eq_true'] at this
    exact this
  obtain ⟨f1, f2, f3, f4, f5⟩ := S.leaveThrown (dr_ad G q) (g := F0 m pc ls (st.map (dr_tr G))) rfl rfl rfl hno
  obtain ⟨r, e, hQ⟩ := hp
  cases e
  refine ⟨_, f1, .threw (dr_ad G q), .inr (E, q), h, locs, cells, slots, f2, f3, f4, f5, X.locsE, X.cellsE, X.slotsE, ?_, ⟨rfl, h1, h2, ?_⟩, hQ⟩
  · show dr_C G h T.heap
    rw [hT]; exact X.heap
  · show ∃ ce : Cell, T.heap[dr_ad G q]? = some ce ∧ _
    rw [hT]; exact h3
theorem dr_len {G : dr_Gt} {R : Room} {s : State} {m : MethodId} {meth : Method} {c : Code} {H : Heap} {locs : List Loc} {cells slots : Nat} {ls : Array Slot} (hco : dr_code M') (X : dr_X G M fr wo R s m meth c H locs cells slots ls l h) {mk : MethodId} {methM : Method} (hn : s.methodNamed? M'.y = some mk) (hm : s.vm.method? mk = some methM)
    {A : List Value} (hlen : (parseMethodDescriptor M'.y.desc).map (fun d => d.parameters.length) = some A.length) : (A.map (dr_tr G)).length = methM.sig.parameters.length := by
  obtain ⟨methk, ck, h1, -, -, -, -, -, -, h8⟩ := hco.at X.1 X.warm hn
  cases hm.symm.trans h1
  rw [h8] at hlen
  rw [List.length_map]
  exact (Option.some.inj hlen).symm
/-! the kinds of calls -/
variable {idx : Nat} {A : List Value} {a : Nat}
theorem dr_sV {ci N : Nat} {C : String} {TT : u_T} {ty : Nat → FieldType} (hCl : dr_Cl ci C TT N ty) (hk : (h.2.2 a).1 = ci) (hlk : dr_T (.methodLink M.own idx M'.y)) (hin : dr_T (.instanceMethod M'.y)) (hsel : dr_T (.selects C M'.y M'.y)) (hco : dr_code M')
    (hy : M'.y.cls ≠ "java/lang/invoke/MethodHandle" ∧ M'.y.cls ≠ "java/lang/invoke/VarHandle") (hlen : (parseMethodDescriptor M'.y.desc).map (fun d => d.parameters.length) = some A.length) (hd : decode M.code pc = .ok (.invokevirtual idx, 3)) (hstk : A.reverse ++ .ref a :: st = stk) : dr_S M pc M' (.ref a :: A) stk st h := by
  intro G fr wo R s m args below meth c H locs cells slots ls l T X hT S
  subst hstk
  obtain ⟨mk, methM, hnamed, hmethM, hstM, habM⟩ := Cond.instanceMethod_spec (X.word hin (a' := args))
  obtain ⟨ha, q, q1, q2, cellB, e1, e2, e3, e4⟩ := X.heap.obj hk hCl.2.1
  have hqe : q = (C, TT, N) := Option.some.inj (q1.symm.trans hCl.1)
  subst hqe
  obtain ⟨c2, r2, m2, p1, p2, p3, p4, kP, hkP, hkPi⟩ := Cond.selects_spec (X.word hsel (a' := args))
  have hcls : s.vm.findClass C = some cellB.cls := by rw [e2]; exact (X.known q1).2.1
  cases hcls.symm.trans p1
  cases (State.methodFound?_of_named hnamed hy).symm.trans p2
  cases hnamed.symm.trans p3
  have hselP : selectMethod G.e.platform s.vm cellB.cls mk = .method mk := by rw [Launch.admits_selectMethod S.admits]; exact p4
  have hobj : ∀ z, cellB.vm ≠ .statics z := fun z h => by rw [e3] at h; cases h
  have hl : (A.map (dr_tr G)).length = methM.sig.parameters.length := dr_len hco X hnamed hmethM hlen
  obtain ⟨vm₁, X₁, hstep₁⟩ := S.invokevirtual X.exec X.own (X.word hlk) hnamed hmethM hstM hkP hkPi hy (a := dr_ad G a) (cell := cellB) (by rw [hT]; exact e1) hobj hselP hmethM habM hkP hkPi
    (g := F0 m pc ls ((A.reverse ++ .ref a :: st).map (dr_tr G))) rfl (argsL := A.map (dr_tr G)) (rest := st.map (dr_tr G)) hl (by simp [dr_tr]) (by rw [X.bytes]; exact hd)
  exact ⟨vm₁, mk, _, X₁, hnamed, by rw [X.bytes]; exact hd, hstep₁⟩
theorem dr_sVN {ci N : Nat} {C host : String} {TT : u_T} {ty : Nat → FieldType} (hCl : dr_Cl ci C TT N ty) (hk : (h.2.2 a).1 = ci) (hlk : dr_T (.methodLinkNest M.own idx M'.y host)) (hin : dr_T (.instanceMethod M'.y)) (hsel : dr_T (.selects C M'.y M'.y)) (hco : dr_code M')
    (hy : M'.y.cls ≠ "java/lang/invoke/MethodHandle" ∧ M'.y.cls ≠ "java/lang/invoke/VarHandle") (hlen : (parseMethodDescriptor M'.y.desc).map (fun d => d.parameters.length) = some A.length) (hd : decode M.code pc = .ok (.invokevirtual idx, 3)) (hstk : A.reverse ++ .ref a :: st = stk) : dr_S M pc M' (.ref a :: A) stk st h := by
  intro G fr wo R s m args below meth c H locs cells slots ls l T X hT S
  subst hstk
  obtain ⟨mk, methM, hnamed, hmethM, hstM, habM⟩ := Cond.instanceMethod_spec (X.word hin (a' := args))
  obtain ⟨ha, q, q1, q2, cellB, e1, e2, e3, e4⟩ := X.heap.obj hk hCl.2.1
  have hqe : q = (C, TT, N) := Option.some.inj (q1.symm.trans hCl.1)
  subst hqe
  obtain ⟨c2, r2, m2, p1, p2, p3, p4, kP, hkP, hkPi⟩ := Cond.selects_spec (X.word hsel (a' := args))
  have hcls : s.vm.findClass C = some cellB.cls := by rw [e2]; exact (X.known q1).2.1
  cases hcls.symm.trans p1
  cases (State.methodFound?_of_named hnamed hy).symm.trans p2
  cases hnamed.symm.trans p3
  have hselP : selectMethod G.e.platform s.vm cellB.cls mk = .method mk := by rw [Launch.admits_selectMethod S.admits]; exact p4
  have hobj : ∀ z, cellB.vm ≠ .statics z := fun z h => by rw [e3] at h; cases h
  have hl : (A.map (dr_tr G)).length = methM.sig.parameters.length := dr_len hco X hnamed hmethM hlen
  obtain ⟨vm₁, X₁, hstep₁⟩ := S.invokevirtualNest X.exec X.own (X.word hlk) hnamed hmethM hstM hkP hkPi hy (a := dr_ad G a) (cell := cellB) (by rw [hT]; exact e1) hobj hselP hmethM habM hkP hkPi
    (g := F0 m pc ls ((A.reverse ++ .ref a :: st).map (dr_tr G))) rfl (argsL := A.map (dr_tr G)) (rest := st.map (dr_tr G)) hl (by simp [dr_tr]) (by rw [X.bytes]; exact hd)
  exact ⟨vm₁, mk, _, X₁, hnamed, by rw [X.bytes]; exact hd, hstep₁⟩
theorem dr_sS (hlk : dr_T (.methodLink M.own idx M'.y)) (hst : dr_T (.static M'.y)) (hini : dr_T (.initialized M'.y.cls)) (hco : dr_code M')
    (hy : M'.y.cls ≠ "java/lang/invoke/MethodHandle" ∧ M'.y.cls ≠ "java/lang/invoke/VarHandle") (hlen : (parseMethodDescriptor M'.y.desc).map (fun d => d.parameters.length) = some A.length) (hd : decode M.code pc = .ok (.invokestatic idx, 3)) (hstk : A.reverse ++ st = stk) : dr_S M pc M' A stk st h := by
  intro G fr wo R s m args below meth c H locs cells slots ls l T X hT S
  subst hstk
  obtain ⟨mk, hnamed⟩ : ∃ mk, s.methodNamed? M'.y = some mk := by
    rcases hco with ⟨-, hc⟩ | hc
    · exact Cond.code_named (X.word hc (a' := args))
    · obtain ⟨mk', _, _, h0, -⟩ := Cond.codeWith_spec (X.word hc (a' := args))
      exact ⟨mk', h0⟩
  obtain ⟨methM, ck, hmethM, -⟩ := hco.at X.1 X.warm hnamed
  have hstatic : methM.isStatic = true := Cond.static_spec hnamed hmethM (X.word hst (a' := args))
  obtain ⟨kP, hkP, -⟩ := className_of_methodNamed hnamed
  have hinitP : kP.init = .initialized := Cond.initialized_spec (findClass_of_methodNamed hnamed) hkP (X.word hini (a' := args))
  have hl : (A.map (dr_tr G)).length = methM.sig.parameters.length := dr_len hco X hnamed hmethM hlen
  obtain ⟨vm₁, X₁, hstep₁⟩ := S.invokestatic X.exec X.own (X.word hlk) hnamed hmethM hstatic hkP hinitP hy (g := F0 m pc ls ((A.reverse ++ st).map (dr_tr G))) rfl (argsL := A.map (dr_tr G)) (rest := st.map (dr_tr G)) hl (by simp) (by rw [X.bytes]; exact hd)
  exact ⟨vm₁, mk, _, X₁, hnamed, by rw [X.bytes]; exact hd, hstep₁⟩
theorem dr_sSN {host : String} (hlk : dr_T (.methodLinkNest M.own idx M'.y host)) (hst : dr_T (.static M'.y)) (hini : dr_T (.initialized M'.y.cls)) (hco : dr_code M')
    (hy : M'.y.cls ≠ "java/lang/invoke/MethodHandle" ∧ M'.y.cls ≠ "java/lang/invoke/VarHandle") (hlen : (parseMethodDescriptor M'.y.desc).map (fun d => d.parameters.length) = some A.length) (hd : decode M.code pc = .ok (.invokestatic idx, 3)) (hstk : A.reverse ++ st = stk) : dr_S M pc M' A stk st h := by
  intro G fr wo R s m args below meth c H locs cells slots ls l T X hT S
  subst hstk
  obtain ⟨mk, hnamed⟩ : ∃ mk, s.methodNamed? M'.y = some mk := by
    rcases hco with ⟨-, hc⟩ | hc
    · exact Cond.code_named (X.word hc (a' := args))
    · obtain ⟨mk', _, _, h0, -⟩ := Cond.codeWith_spec (X.word hc (a' := args))
      exact ⟨mk', h0⟩
  obtain ⟨methM, ck, hmethM, -⟩ := hco.at X.1 X.warm hnamed
  have hstatic : methM.isStatic = true := Cond.static_spec hnamed hmethM (X.word hst (a' := args))
  obtain ⟨kP, hkP, -⟩ := className_of_methodNamed hnamed
  have hinitP : kP.init = .initialized := Cond.initialized_spec (findClass_of_methodNamed hnamed) hkP (X.word hini (a' := args))
  have hl : (A.map (dr_tr G)).length = methM.sig.parameters.length := dr_len hco X hnamed hmethM hlen
  obtain ⟨vm₁, X₁, hstep₁⟩ := S.invokestaticNest X.exec X.own (X.word hlk) hnamed hmethM hstatic hkP hinitP hy (g := F0 m pc ls ((A.reverse ++ st).map (dr_tr G))) rfl (argsL := A.map (dr_tr G)) (rest := st.map (dr_tr G)) hl (by simp) (by rw [X.bytes]; exact hd)
  exact ⟨vm₁, mk, _, X₁, hnamed, by rw [X.bytes]; exact hd, hstep₁⟩
theorem dr_sI (hy1 : M'.y.name = "<init>") (hlk : dr_T (.methodLink M.own idx M'.y)) (hin : dr_T (.instanceMethod M'.y)) (hco : dr_T (.code M'.y M'.code M'.maxL none))
    (hy : M'.y.cls ≠ "java/lang/invoke/MethodHandle" ∧ M'.y.cls ≠ "java/lang/invoke/VarHandle") (hlen : (parseMethodDescriptor M'.y.desc).map (fun d => d.parameters.length) = some A.length) (hd : decode M.code pc = .ok (.invokespecial idx, 3)) (hstk : A.reverse ++ .ref a :: st = stk) : dr_S M pc M' (.ref a :: A) stk st h := by
  intro G fr wo R s m args below meth c H locs cells slots ls l T X hT S
  subst hstk
  have hpl : G.e.platform.magicAccessors = ({} : Platform).magicAccessors := by rw [S.admits.platform]
  have hl : ∀ sig, parseMethodDescriptor M'.y.desc = some sig → (A.map (dr_tr G)).length = sig.parameters.length := fun sig h => by
    rw [h] at hlen
    rw [List.length_map]
    exact (Option.some.inj hlen).symm
  obtain ⟨mk, methM, cM, kP, vm₁, hnamed, hmethM, hcodeM, -, hlocalsM, -, hkP, -, hW₁, hstep₁⟩ := Steps.initColdArgs (e := G.e) S.here X.exec S.warmed hpl X.own hy1 hy (X.word hlk (a' := args)) (X.word hin) (X.word hco)
    (f := F0 m pc ls ((A.reverse ++ .ref a :: st).map (dr_tr G))) rfl (a := dr_ad G a) (argsL := A.map (dr_tr G)) (rest := st.map (dr_tr G)) hl (by simp [dr_tr]) (by rw [X.bytes]; exact hd)
  exact ⟨vm₁, mk, _, S.noted hW₁, hnamed, by rw [X.bytes]; exact hd, hstep₁⟩
theorem dr_sIN {host : String} (hy1 : M'.y.name = "<init>") (hlk : dr_T (.methodLinkNest M.own idx M'.y host)) (hin : dr_T (.instanceMethod M'.y)) (hco : dr_T (.code M'.y M'.code M'.maxL none))
    (hy : M'.y.cls ≠ "java/lang/invoke/MethodHandle" ∧ M'.y.cls ≠ "java/lang/invoke/VarHandle") (hlen : (parseMethodDescriptor M'.y.desc).map (fun d => d.parameters.length) = some A.length) (hd : decode M.code pc = .ok (.invokespecial idx, 3)) (hstk : A.reverse ++ .ref a :: st = stk) : dr_S M pc M' (.ref a :: A) stk st h := by
  intro G fr wo R s m args below meth c H locs cells slots ls l T X hT S
  subst hstk
  have hpl : G.e.platform.magicAccessors = ({} : Platform).magicAccessors := by rw [S.admits.platform]
  have hl : ∀ sig, parseMethodDescriptor M'.y.desc = some sig → (A.map (dr_tr G)).length = sig.parameters.length := fun sig h => by
    rw [h] at hlen
    rw [List.length_map]
    exact (Option.some.inj hlen).symm
  obtain ⟨mk, methM, cM, kP, vm₁, hnamed, hmethM, hcodeM, -, hlocalsM, -, hkP, -, hW₁, hstep₁⟩ := Steps.initColdArgsNest (e := G.e) S.here X.exec S.warmed hpl X.own hy1 hy (X.word hlk (a' := args)) (X.word hin) (X.word hco)
    (f := F0 m pc ls ((A.reverse ++ .ref a :: st).map (dr_tr G))) rfl (a := dr_ad G a) (argsL := A.map (dr_tr G)) (rest := st.map (dr_tr G)) hl (by simp [dr_tr]) (by rw [X.bytes]; exact hd)
  exact ⟨vm₁, mk, _, S.noted hW₁, hnamed, by rw [X.bytes]; exact hd, hstep₁⟩
end DRC
end
section
/-! ===== exceptions ===== -/
/-- a word that holds at the start and in every later state whose old cells are the start's -/
def dr_U (w : Cond) : Prop := ∀ (G : dr_Gt) (U : State) (a' : Array Value), dr_K G → G.s.WarmedH U.vm → (∀ q, q < G.s.heap.size → U.heap[q]? = G.s.heap[q]?) → w.before a' U = true
theorem dr_T.u {w : Cond} (h : dr_T w) : dr_U w := fun G U a' K hW _ => h G U a' K hW
theorem dr_stat {a1 a2 : Array Value} {s U : State} {C n d : String} (hal : s.vm.Alike U.vm) (hh : ∀ q, q < s.heap.size → U.heap[q]? = s.heap[q]?) (h1 : (Cond.laysStatic C n d).before a1 s = true) (h2 : (Cond.isRef (.static C n d)).before a1 s = true) :
    (Cond.laysStatic C n d).before a2 U = true ∧ (Cond.isRef (.static C n d)).before a2 U = true := by
  obtain ⟨c, k, i, f, a, cell, hc, hi, hst, ha, hcell, hs, hcls, hlt, hty⟩ := Cond.laysStatic_spec h1
  obtain ⟨k', hi', hek⟩ := State.fieldFound?_setVm hal hi
  have hi2 : U.fieldFound? C n d = some (c, k', i, f) := by simpa only [State.fieldFound?, State.vm_setVm] using hi'
  have ha' : k'.statics = some a := by rw [hek]; exact ha
  have hlt0 : a < s.heap.size := (Array.getElem?_eq_some_iff.mp hcell).1
  have hcell' : U.heap[a]? = some cell := by rw [hh a hlt0]; exact hcell
  refine ⟨Cond.laysStatic_of (s := U) (by rw [hal.findClass]; exact hc) hi2 hst ha' hcell' hs hcls hlt (by rw [hek]; exact hty), ?_⟩
  simp only [Cond.before, Cond.holds, Cond.value, Term.eval, State.fieldNamed?, hi, hst, ha, hcell, hs, hi2, ha', hcell', Option.bind_eq_bind, Option.bind_some, Option.pure_def, beq_self_eq_true, if_true] at h2 ⊢
  exact h2
section DRB
variable {p : Program} {l : Launch} {e : Env} {R : Room} {s : State} {m : MethodId} {args : Array Value} {below : List Frame} {meth : Method} {c : Code} {T : State} {locs : List Loc} {cells slots : Nat}
/-- the frame at hand, as if its method had been called in this heap: what is older than this moment may be told apart from what is made now -/
theorem dr_base (X : Stand p l e R s m args below meth c T locs cells slots) (hc : cells + 1 ≤ R.cells) (hs : slots + 6 ≤ R.slots) :
    Stand p l e { frames := R.frames, cells := 1, slots := 6, locals := R.locals } ((T.setVm s.vm).setFrames (.invoking m args :: below)) m args below meth c T [] 0 0 := by
  have hcur : (T.setVm s.vm).cur < (T.setVm s.vm).threads.size := State.cur_lt_of_top (s := T.setVm s.vm) X.here.top
  have hF := State.frames_setFrames (s := T.setVm s.vm) (.invoking m args :: below) hcur
  have hheap := X.heapHas hc hs
  have hbook := X.book
  have hroom := X.room
  have hin := State.localsInUse_invoking X.frames X.method X.code
  have hin' : ((T.setVm s.vm).setFrames (.invoking m args :: below)).localsInUse = _ := State.localsInUse_invoking hF (meth := meth) (c := c) X.method X.code
  have hlim : e.platform.stackLimits ((T.setVm s.vm).setFrames (.invoking m args :: below)).me = e.platform.stackLimits s.me := by
    rw [State.stackLimits_setFrames]; exact X.limits
  have hby : ((T.setVm s.vm).setFrames (.invoking m args :: below)).me.stackBytes = s.me.stackBytes := by
    rw [State.stackBytes_setFrames]; exact X.bytes
  have hlen : ((T.setVm s.vm).setFrames (.invoking m args :: below)).frames.length = s.frames.length := by rw [hF, X.frames]
  refine ⟨X.admits, X.cas, X.clock, hF, ?_, X.hears, X.method, X.code, X.here, X.tail, X.warmed, ?_, ?_, ?_⟩
  · unfold State.hasRoom at hroom ⊢
    rw [hlen, hin', hlim, hby, ← hin]
    simp only [Bool.and_eq_true, decide_eq_true_eq] at hroom ⊢
    exact ⟨⟨⟨hroom.1.1.1, hheap.1⟩, hheap.2⟩, hbook⟩
  · rw [hlim]; exact X.limits
  · rw [hby]; exact X.bytes
  · obtain ⟨g₀, hfr⟩ := X.frames_eq
    obtain ⟨t, ht, -⟩ := State.frames_cons hfr
    have hd : T.heap.toList.drop T.heap.size = [] := List.drop_eq_nil_of_le (Nat.le_of_eq Array.length_toList)
    refine ⟨?_, Nat.le_refl _, Nat.le_refl _, ?_, ?_, fun a c9 h9 => ⟨c9, h9, rfl, rfl, fun _ _ => rfl⟩⟩
    · show T.setVm s.vm = { ((T.setVm s.vm).setFrames (.invoking m args :: below)).setFrames (T.setVm s.vm).frames with heap := T.heap, slotsUsed := T.slotsUsed }
      rw [State.setFrames_setFrames, State.setFrames_self (s := T.setVm s.vm) ht]
      rfl
    · show T.slotsUsed = T.slotsUsed + ((T.heap.toList.drop T.heap.size).map (·.slots.size)).sum
      rw [hd]; rfl
    · show ((T.heap.toList.drop T.heap.size).map (·.slots.size)).sum ≤ 0
      rw [hd]; exact Nat.le_refl _
end DRB
def dr_th (h : dr_AH) (E : String) : Option (dr_RS × dr_AH) := if h.1 < dr_CC ∧ h.2.1 + 6 ≤ dr_SC then some (.inr (E, h.1 + 1), dr_push h (200, 6, fun _ => .null)) else none
section DRT
variable {M : dr_MI} {fr wo pc : Nat} {l : List (Nat × Value)} {st : List Value} {h : dr_AH} {Q : dr_RS → dr_AH → Prop}
/-- 'throw new E("text")': new; dup; ldc; invokespecial; athrow -/
theorem wp_throwS {E text : String} {names : List String} {ik is ic : Nat} (hE : Bundle.fit E = true) (hnm : ∀ n ∈ names, Bundle.fit n = true) (hk : dr_T (.classLink M.own ik E)) (hini : dr_T (.initialized E)) (hs : dr_T (.stringRef M.own is text)) (hat : ∀ w ∈ Bundle.ownAtoms M.own ic E names, dr_U w)
    (d0 : decode M.code pc = .ok (.new ik, 3)) (d3 : decode M.code (pc + 3) = .ok (.dup, 1)) (d4 : decode M.code (pc + 4) = .ok (.ldc is, 2)) (d6 : decode M.code (pc + 6) = .ok (.invokespecial ic, 3)) (d9 : decode M.code (pc + 9) = .ok (.athrow, 1))
    (hout : M.tab.all (fun z => !(decide (z.1 ≤ pc + 9) && decide (pc + 9 < z.2.1))) = true) (hn : names.length + 3 < fr) (hw : (st.map fun v => v.category).sum + (13 * (names.length + 1) + 43) ≤ wo) (hp : dr_p (dr_th h E) Q) : dr_W M fr wo pc l st h Q := by
  unfold dr_th at hp
  by_cases hr : h.1 < dr_CC ∧ h.2.1 + 6 ≤ dr_SC
  case neg => rw [if_neg hr] at hp; exact (dr_p0 hp).elim
  rw [if_pos hr] at hp
  intro G R s m args below meth c H locs cells slots ls X T hT S
  have hlocks := X.locks
  have htr : G.e.platform.stackTraces = false := (show G.e.platform.stackTraces = G.l.stackTraces by rw [S.admits.platform]).trans X.1.2.2.2.2.1
  have h1 := X.cellsE
  have h2 := X.slotsE
  have h3 := X.heap.2.2.2.2.2
  have hR := X.room
  unfold dr_R at hR
  have hz := X.heap.1
  have B := dr_base S (by omega) (by omega)
  obtain ⟨sb, hsb⟩ : ∃ z, z = (T.setVm s.vm).setFrames (.invoking m args :: below) := ⟨_, rfl⟩
  rw [← hsb] at B
  have hvm : sb.vm = s.vm := by rw [hsb]; rfl
  have hheap : sb.heap = H := by rw [hsb]; exact hT
  have hWs : G.s.WarmedH sb.vm := by rw [hvm]; exact X.warm
  have hown : sb.vm.findClass M.own = some m.cls := by rw [hvm]; exact X.own
  have hold : ∀ q, q < G.s.heap.size → sb.heap[q]? = G.s.heap[q]? := by rw [hheap]; exact X.heap.2.1
  have hno : ∀ x ∈ c.exceptionTable.toList, covers x (pc + 9) = false := by
    intro x hx
    have hm : (x.startPc, x.endPc, x.handlerPc, x.catchType) ∈ M.tab := by
      rw [← X.tab]
      exact List.mem_map.mpr ⟨x, hx, rfl⟩
    have := List.all_eq_true.mp hout _ hm
    rw [Bool.not_eq_true'] at this
    exact this
  have hTs : T.heap.size = H.size := by rw [hT]
  obtain ⟨vm₁, cX, kX, hfX, hkX, -, -, X₁, st1⟩ := B.newCold X.exec (own := M.own) (C := E) (index := ik) (n := 6) hown (hk G sb args X.1 hWs) (hat (.instantiable E 6) (by simp [Bundle.ownAtoms]) G sb args X.1 hWs hold) (hini G sb args X.1 hWs)
    (g := F0 m pc ls (st.map (dr_tr G))) rfl (by rw [X.bytes]; exact d0) (Nat.le_refl 1) (Nat.le_refl 6)
  generalize hT1 : (T.setVm vm₁).pushCell { cls := cX, slots := kX.instanceTypes.map defaultValue, vm := .none } = T1 at X₁ st1
  have hcellA : T1.heap[T.heap.size]? = some (freshCell cX kX) := by rw [← hT1]; exact State.heap_pushCell_size _ _
  obtain ⟨-, -, -, sa, -, -, -, -, -, hev⟩ := Cond.stringRef_spec hown (hs G sb args X.1 hWs)
  obtain ⟨U, hsteps, hrun, hend, hW, hsame, ce, hce, hO⟩ := X₁.ctorThrowS X.exec htr (own := M.own) (cls := E) (names := names) (ic := ic) hown hE hnm (fun a ha => hat a ha G sb args X.1 hWs hold) (fun x hx => by cases hx) hfX hkX hcellA (by rw [hheap, hTs]; exact Nat.le_refl _) (msg := .ref sa) rfl
    (g := { method := m, pc := pc + 6, locals := ls, stack := .ref sa :: .ref T.heap.size :: .ref T.heap.size :: st.map (dr_tr G), locked := none }) rfl (X.lsE.1.trans X.maxL.symm) rfl rfl (rest := st.map (dr_tr G)) rfl
    (by rw [X.bytes]; exact d6) (by rw [X.bytes]; exact d9) hno (by show names.length + 3 < R.frames; omega)
    (by
      have hcat := dr_cats G st
      show 2 * 0 + (1 + ((st.map (dr_tr G)).map fun v => v.category).sum) + (13 * (names.length + 1) + 42) ≤ R.locals
      rw [hcat]
      omega)
  have ead : dr_ad G (h.1 + 1) = T.heap.size := by rw [hTs, hz]; rfl
  have hW2 : s.WarmedH U.vm := by rw [hsb] at hW; exact hW
  obtain ⟨q1, q2, q3, q4, q5, q6⟩ := id hsame
  have q2 : sb.heap.size ≤ U.heap.size := q2
  have q3 : U.heap.size ≤ sb.heap.size + 1 := q3
  have hlt : T.heap.size < U.heap.size := (Array.getElem?_eq_some_iff.mp hce).1
  have hsz : U.heap.size = H.size + 1 := by rw [hheap] at q3; omega
  have hkeep : ∀ q, q < H.size → U.heap[q]? = H[q]? := by
    intro q hq
    obtain ⟨c0, hc0⟩ : ∃ c0, H[q]? = some c0 := ⟨_, Array.getElem?_eq_getElem hq⟩
    obtain ⟨c', g1, g2, g3, g4⟩ := q6 q c0 (by rw [hheap]; exact hc0)
    have g1 : U.heap[q]? = some c' := g1
    rw [g1, hc0]
    congr 1
    have : c'.slots = c0.slots := by
      apply Array.ext'
      apply List.ext_getElem?
      intro i
      have := g4 i (by simp)
      simpa using this
    rw [g2, this]
  have hsm : s.sameButNew ({ U with vm := s.vm } : State) locs (cells + 1) (slots + 6) := by
    have hm : (T.setVm s.vm).sameButNew ({ U with vm := s.vm } : State) [] 1 6 := by
      rw [hsb] at q1 q2 q3 q4 q5 q6
      refine ⟨?_, q2, q3, q4, q5, q6⟩
      rw [State.setFrames_setFrames] at q1
      exact q1
    have := S.same.trans hm
    rwa [List.append_nil] at this
  obtain ⟨r, e, hQ⟩ := hp
  cases e
  refine ⟨U, st1 _ ?_, .threw T.heap.size, .inr (E, h.1 + 1), dr_push h (200, 6, fun _ => .null), locs, cells + 1, slots + 6, hrun, hend, hW2, hsm, X.locsE, by simp only [dr_push]; omega, by simp only [dr_push]; omega, X.heap.push X.bs hsz hkeep ⟨fun z => ?_, fun _ z => ?_⟩ hr, ⟨by rw [ead], by omega, by simp only [dr_push]; omega, ce, by rw [ead]; exact hce, hO.vm, ?_⟩, hQ⟩
  · show Steps G.p.tables G.e below (T1.setTop { method := m, pc := pc + 3, locals := ls, stack := .ref T.heap.size :: st.map (dr_tr G), locked := none }) _
    have d3' : decode c.code (pc + 3) = .ok (.dup, 1) := by rw [X.bytes]; exact d3
    jvm_step X₁.here [X₁.here.top, X.exec, d3', Value.category]
    exact X₁.ldcString X.exec (own := M.own) (text := text) (index := is) (a := sa) hown (hs G sb args X.1 hWs) hev
      (g := { method := m, pc := pc + 4, locals := ls, stack := .ref T.heap.size :: .ref T.heap.size :: st.map (dr_tr G), locked := none }) rfl (by rw [X.bytes]; exact d4) _ hsteps
  · exfalso
    have z : 200 < 100 := z
    omega
  · exfalso
    have z : 200 < 200 := z
    omega
  · have := hO.cls
    rw [hvm, X.warm.alike.findClass] at this
    exact this
end DRT
/-! ===== catching ===== -/
section DRK
variable {Q : Handler → Pre} {E : CtlPost} {e : Env} {d : Bool} {acts : List Action} {f : JFrame} {a : Addr}
/-- one row of the table that covers the pc, its class resolved or not yet -/
theorem dr_row {S : State} {x : ExceptionTableEntry} {t : List ExceptionTableEntry} {c : ClassId} {cell : Cell} (hx : covers x f.pc = true) (h0 : x.catchType ≠ 0) (hl : S.vm.ClassLinks e.platform f.method.cls x.catchType c) (hcell : S.heap[a]? = some cell) (hobj : ∀ k, cell.vm ≠ .statics k) (hk : ∃ k, S.vm.classes[cell.cls]? = some k) :
    wp (findHandler.go f a (x :: t)) Q E e d acts S ↔ if S.vm.assignable cell.cls c = true then Q (.found x.handlerPc) d acts (S.setVm (S.vm.noted f.method.cls x.catchType (.cls c))) else wp (findHandler.go f a t) Q E e d acts (S.setVm (S.vm.noted f.method.cls x.catchType (.cls c))) := by
  simp only [covers] at hx
  obtain ⟨r1, r2⟩ := (resolveClass_links e.toSetting hl).op (op := VmOp.resolveClass f.method.cls x.catchType) rfl
  have hal : S.vm.Alike (S.vm.noted f.method.cls x.catchType (.cls c)) := (Vm.Alike.refl S.vm).noted _ _ _
  obtain ⟨k1, hk1⟩ := hk
  obtain ⟨_, _, _, k2, _, _, _, _, _, hk2, _, _⟩ := hl.here
  obtain ⟨k1', hk1', -⟩ := hal.2.2 _ _ hk1
  obtain ⟨k2', hk2', -⟩ := hal.2.2 _ _ hk2
  have hsame := hal.assignable cell.cls c
  cases hfit : S.vm.assignable cell.cls c <;> rw [hfit] at hsame <;> simp [findHandler.go, hx, h0, r1, r2, hcell, hobj, hk1', hk2', hsame, VmOp.dirties, VmOp.acts]
/-- through the rows that don't take it, to the one that does -/
theorem dr_seek {s₀ : State} {cell : Cell} (hobj : ∀ k, cell.vm ≠ .statics k) (hk0 : ∃ k, s₀.vm.classes[cell.cls]? = some k) {x : ExceptionTableEntry} (rest : List ExceptionTableEntry) (hx : covers x f.pc = true) (h0 : x.catchType ≠ 0) {cx : ClassId} (hlx : s₀.vm.ClassLinks e.platform f.method.cls x.catchType cx) (hfit : s₀.vm.assignable cell.cls cx = true) :
    ∀ (pre : List ExceptionTableEntry), (∀ z ∈ pre, covers z f.pc = false ∨ (z.catchType ≠ 0 ∧ ∃ c, s₀.vm.ClassLinks e.platform f.method.cls z.catchType c ∧ s₀.vm.assignable cell.cls c = false)) →
      ∀ S : State, s₀.WarmedH S.vm → S.heap[a]? = some cell →
        ∃ vm', s₀.WarmedH vm' ∧ ∀ (Q : Handler → Pre) (E : CtlPost) (d : Bool) (acts : List Action), wp (findHandler.go f a (pre ++ x :: rest)) Q E e d acts S ↔ Q (.found x.handlerPc) d acts (S.setVm vm') := by
  have step : ∀ (z : ExceptionTableEntry) (t : List ExceptionTableEntry) (c : ClassId) (S : State), s₀.vm.ClassLinks e.platform f.method.cls z.catchType c → covers z f.pc = true → z.catchType ≠ 0 → s₀.WarmedH S.vm → S.heap[a]? = some cell →
      s₀.WarmedH (S.vm.noted f.method.cls z.catchType (.cls c)) ∧ ∀ (Q : Handler → Pre) (E : CtlPost) (d : Bool) (acts : List Action), wp (findHandler.go f a (z :: t)) Q E e d acts S ↔ if s₀.vm.assignable cell.cls c = true then Q (.found z.handlerPc) d acts (S.setVm (S.vm.noted f.method.cls z.catchType (.cls c))) else wp (findHandler.go f a t) Q E e d acts (S.setVm (S.vm.noted f.method.cls z.catchType (.cls c))) := by
    intro z t c S hl hz hz0 hW hc
    obtain ⟨k0, hk0⟩ := hk0
    obtain ⟨k0', hk0', -⟩ := hW.alike.2.2 _ _ hk0
    obtain ⟨_, _, _, _, hd, _, _, _, _, _, _, hop⟩ := hl.here
    refine ⟨hW.noted hd hop (State.rightAt_cls hl), fun Q E d acts => ?_⟩
    rw [dr_row hz hz0 (hW.classLinks hl) hc hobj ⟨k0', hk0'⟩, hW.alike.assignable]
  intro pre
  induction pre with
  | nil =>
    intro _ S hW hc
    obtain ⟨w1, w2⟩ := step x rest cx S hlx hx h0 hW hc
    refine ⟨_, w1, fun Q E d acts => ?_⟩
    rw [List.nil_append, w2, if_pos hfit]
  | cons z zs ih =>
    intro hp S hW hc
    have hp' := fun y hy => hp y (List.mem_cons_of_mem _ hy)
    rcases hp z List.mem_cons_self with hz | ⟨hz0, c, hl, hno⟩
    · obtain ⟨vm', w1, w2⟩ := ih hp' S hW hc
      refine ⟨vm', w1, fun Q E d acts => ?_⟩
      rw [List.cons_append, W.findHandler_go_skip hz, w2]
    · cases hcz : covers z f.pc with
      | false =>
        obtain ⟨vm', w1, w2⟩ := ih hp' S hW hc
        refine ⟨vm', w1, fun Q E d acts => ?_⟩
        rw [List.cons_append, W.findHandler_go_skip hcz, w2]
      | true =>
        obtain ⟨u1, u2⟩ := step z (zs ++ x :: rest) c S hl hcz hz0 hW hc
        obtain ⟨vm', w1, w2⟩ := ih hp' (S.setVm (S.vm.noted f.method.cls z.catchType (.cls c))) u1 hc
        refine ⟨vm', w1, fun Q E d acts => ?_⟩
        rw [List.cons_append, u2, if_neg (by rw [hno]; decide), w2]
        exact Iff.rfl
end DRK
/-- the pair is not castable, by the start's words -/
def dr_N (C D : String) : Prop := ∀ G : dr_Gt, dr_K G → va_Nc C D G.s
section DRY
variable {M : dr_MI} {fr wo pc : Nat} {l : List (Nat × Value)} {st : List Value} {h : dr_AH} {Q : dr_RS → dr_AH → Prop}
/-- caught by the row x of the method's table; the rows ahead of it don't take it -/
theorem wx_catch {E name : String} {q : Nat} (pre : List (Nat × Nat × Nat × Nat)) (x : Nat × Nat × Nat × Nat) (suf : List (Nat × Nat × Nat × Nat)) (hsplit : M.tab = pre ++ x :: suf)
    (hpass : ∀ z ∈ pre, z.2.2.2 ≠ 0 ∧ ∃ nm : String, dr_T (.classLink M.own z.2.2.2 nm) ∧ dr_N E nm) (hx : (decide (x.1 ≤ pc) && decide (pc < x.2.1)) = true) (h0 : x.2.2.2 ≠ 0) (hlk : dr_T (.classLink M.own x.2.2.2 name)) (hcast : dr_T (.castable E name))
    (k : dr_W M fr wo x.2.2.1 l [.ref q] h Q) : dr_V M fr wo pc l st E q h Q := by
  intro G R s m args below meth c H locs cells slots ls X h1 h2 h3 T hT S
  obtain ⟨ce, hce, hcv, hcl⟩ := h3
  have hpl : G.e.platform.magicAccessors = ({} : Platform).magicAccessors := by rw [S.admits.platform]
  have hcls : s.vm.findClass E = some ce.cls := by rw [X.warm.alike.findClass]; exact hcl
  obtain ⟨c3, c4, hc3, hc4, hasg⟩ := Cond.castable_spec (X.word hcast (a' := args))
  cases Option.some.inj (hc3.symm.trans hcls)
  obtain ⟨c5, hc5, hl5⟩ := Cond.classLink_spec X.own (X.word hlk (a' := args)) G.e.platform hpl
  cases Option.some.inj (hc4.symm.trans hc5)
  -- the table, entry by entry
  obtain ⟨pre', rest', ht1, ht2⟩ : ∃ pre' rest', c.exceptionTable.toList = pre' ++ rest' ∧ pre'.map (fun x => (x.startPc, x.endPc, x.handlerPc, x.catchType)) = pre ∧ rest'.map (fun x => (x.startPc, x.endPc, x.handlerPc, x.catchType)) = x :: suf := by
    have ht := X.tab
    rw [hsplit] at ht
    exact List.map_eq_append_iff.mp ht
  obtain ⟨xe, suf', hr, hxe, -⟩ := List.map_eq_cons_iff.mp ht2.2
  subst hr
  have e1 : xe.startPc = x.1 := by rw [← hxe]
  have e2 : xe.endPc = x.2.1 := by rw [← hxe]
  have e3 : xe.handlerPc = x.2.2.1 := by rw [← hxe]
  have e4 : xe.catchType = x.2.2.2 := by rw [← hxe]
  have hcov : covers xe pc = true := by
    unfold covers
    rw [e1, e2]
    exact hx
  obtain ⟨kc, hkc, -⟩ := Vm.findClass_spec hcls
  obtain ⟨vm', hW', hfind⟩ := dr_seek (e := G.e) (f := F0 m pc ls (st.map (dr_tr G))) (a := dr_ad G q) (s₀ := s) (cell := ce) (fun k h => by rw [hcv] at h; cases h) ⟨kc, hkc⟩ suf' hcov (by rw [e4]; exact h0) (by rw [e4]; exact hl5) hasg pre'
    (fun z hz => by
      have hzm : (z.startPc, z.endPc, z.handlerPc, z.catchType) ∈ pre := by rw [← ht2.1]; exact List.mem_map.mpr ⟨z, hz, rfl⟩
      obtain ⟨n0, nm, hl, hn⟩ := hpass _ hzm
      obtain ⟨c6, hc6, hl6⟩ := Cond.classLink_spec X.own (X.word hl (a' := args)) G.e.platform hpl
      obtain ⟨a8, b8, g1, g2, g3⟩ := (hn G X.1).moved X.warm.alike
      cases Option.some.inj (g1.symm.trans hcls)
      cases Option.some.inj (g2.symm.trans hc6)
      exact Or.inr ⟨n0, _, hl6, g3⟩)
    ((T.setTop (F0 m pc ls (st.map (dr_tr G)))).pushFrame (.throwing (dr_ad G q))) S.warmed (by show T.heap[dr_ad G q]? = some ce; rw [hT]; exact hce)
  have X' := S.noted hW'
  obtain ⟨t, a1, b1⟩ := k G R s m args below meth c H locs cells slots ls X (T.setVm vm') hT X'
  refine ⟨t, ?_, b1⟩
  obtain ⟨hgo, hw⟩ := At.throwing (g := F0 m pc ls (st.map (dr_tr G))) S.here (dr_ad G q)
  refine Steps.head hgo hw ?_
  have hstep : (stepThrowing G.e ((T.setTop (F0 m pc ls (st.map (dr_tr G)))).pushFrame (.throwing (dr_ad G q))) (dr_ad G q) (.java (F0 m pc ls (st.map (dr_tr G))) :: T.frames.tail)).1 =
      (((T.setTop (F0 m pc ls (st.map (dr_tr G)))).pushFrame (.throwing (dr_ad G q))).setVm vm').setFrames (.java { F0 m pc ls (st.map (dr_tr G)) with pc := xe.handlerPc, stack := [.ref (dr_ad G q)] } :: T.frames.tail) := by
    simp only [stepThrowing, searchFrame, vmDo]
    generalize hr : Sem.go _ G.e false [] _ = res
    obtain ⟨as, rfl, ha⟩ := Sem.eq_ok_of hr (a := Handler.found xe.handlerPc) (s' := ((T.setTop (F0 m pc ls (st.map (dr_tr G)))).pushFrame (.throwing (dr_ad G q))).setVm vm') (acts' := [])
      (by
        have hm : ((T.setTop (F0 m pc ls (st.map (dr_tr G)))).pushFrame (.throwing (dr_ad G q))).vm.method? m = some meth := S.method'
        simp [W.findHandler_eq (f := F0 m pc ls (st.map (dr_tr G))) hm S.code, ht1, hfind])
    rfl
  rw [stepThread_throwing (frames_entered S.here.top _), hstep]
  obtain ⟨g₀, hfr⟩ := S.frames_eq
  have hfr' : (T.setVm vm').frames = .java g₀ :: below := hfr
  rw [State.setTop_of_frames _ hfr'] at a1
  have e5 : (((T.setTop (F0 m pc ls (st.map (dr_tr G)))).pushFrame (.throwing (dr_ad G q))).setVm vm').setFrames (.java { F0 m pc ls (st.map (dr_tr G)) with pc := xe.handlerPc, stack := [.ref (dr_ad G q)] } :: T.frames.tail) = (T.setVm vm').setFrames (.java (F0 m x.2.2.1 ls [.ref (dr_ad G q)]) :: below) := by
    rw [S.tail, e3, State.pushFrame, State.frames_setTop _ hfr, State.setTop_of_frames _ hfr, State.setFrames_setFrames]
    show ((T.setVm vm').setFrames _).setFrames _ = _
    rw [State.setFrames_setFrames]
  rw [e5]
  exact a1
end DRY
end
section
/-! ===== the tables' words, by program (wip/whole/gen/words.py) ===== -/
theorem dr_Ts {own tx : String} {k : Nat} (hi : Cond.stringRef own k tx ∈ lw_tbl) : dr_T (.stringRef own k tx) := fun G s a' K hW => by
  have h := Cond.stringRef_warmed hW (K.2.1 _ hi)
  exact h
theorem dr_Tm {own : String} {k : Nat} {y : MethodName} {host : String} (hi : Cond.methodLinkNest own k y host ∈ lw_tbl) : dr_T (.methodLinkNest own k y host) := fun G s a' K hW => by
  have h := Cond.methodLinkNest_warmed hW (K.2.1 _ hi)
  exact h
theorem dr_To {t : FieldType} (hi : Cond.arrayOver t ∈ lw_tbl) : dr_T (.arrayOver t) := fun G s a' K hW => by
  have h := K.2.1 _ hi
  rw [← Cond.arrayOver_setVmC hW.alike] at h
  exact h
theorem dr_Tf {w : Cond} (hi : w ∈ lw_tbl) (hg : (w.onTables && w.keepsFace) = true) : dr_T w := fun G s a' K hW => by
  rw [Bool.and_eq_true] at hg
  have h1 : w.before #[Value.ref G.b] (G.s.setVm s.vm) = true := Cond.before_shiftedFace (State.Shifted.of_warmed hW) w hg.2 (K.2.1 w hi)
  exact va_tabs hg.1 (rfl : (G.s.setVm s.vm).vm = s.vm) h1
theorem tw_0 : dr_T (Jvm.Cond.initialized "DrillRowsLaw") := dr_Tg (List.mem_of_getElem? (i := 35) (by decide +kernel)) (Or.inl (by decide +kernel))
theorem tw_1 : dr_T (Jvm.Cond.initialized "DrillRows") := dr_Tg (List.mem_of_getElem? (i := 36) (by decide +kernel)) (Or.inl (by decide +kernel))
theorem tw_2 : dr_T (Jvm.Cond.initialized "DrillRows$Tape") := dr_Tg (List.mem_of_getElem? (i := 37) (by decide +kernel)) (Or.inl (by decide +kernel))
theorem tw_3 : dr_T (Jvm.Cond.initialized "DrillRows$Script") := dr_Tg (List.mem_of_getElem? (i := 38) (by decide +kernel)) (Or.inl (by decide +kernel))
theorem tw_4 : dr_T (Jvm.Cond.initialized "java/util/Arrays") := dr_Tg (List.mem_of_getElem? (i := 39) (by decide +kernel)) (Or.inl (by decide +kernel))
theorem tw_5 : dr_T (Jvm.Cond.initialized "DrillRowsModel") := dr_Tg (List.mem_of_getElem? (i := 40) (by decide +kernel)) (Or.inl (by decide +kernel))
theorem tw_6 : dr_T (Jvm.Cond.initialized "java/lang/Throwable") := dr_Tg (List.mem_of_getElem? (i := 41) (by decide +kernel)) (Or.inl (by decide +kernel))
theorem tw_7 : dr_T (Jvm.Cond.initialized "java/lang/Exception") := dr_Tg (List.mem_of_getElem? (i := 42) (by decide +kernel)) (Or.inl (by decide +kernel))
theorem tw_8 : dr_T (Jvm.Cond.initialized "java/lang/RuntimeException") := dr_Tg (List.mem_of_getElem? (i := 43) (by decide +kernel)) (Or.inl (by decide +kernel))
theorem tw_9 : dr_T (Jvm.Cond.initialized "java/lang/IndexOutOfBoundsException") := dr_Tg (List.mem_of_getElem? (i := 44) (by decide +kernel)) (Or.inl (by decide +kernel))
theorem tw_10 : dr_T (Jvm.Cond.initialized "java/lang/UnsupportedOperationException") := dr_Tg (List.mem_of_getElem? (i := 45) (by decide +kernel)) (Or.inl (by decide +kernel))
theorem tw_11 : dr_T (Jvm.Cond.initialized "java/lang/IllegalStateException") := dr_Tg (List.mem_of_getElem? (i := 46) (by decide +kernel)) (Or.inl (by decide +kernel))
theorem tw_12 : dr_T (Jvm.Cond.initialized "DrillRows$Drill") := dr_Tg (List.mem_of_getElem? (i := 47) (by decide +kernel)) (Or.inl (by decide +kernel))
theorem tw_13 : dr_T (Jvm.Cond.initialized "java/lang/Math") := dr_Tg (List.mem_of_getElem? (i := 48) (by decide +kernel)) (Or.inl (by decide +kernel))
theorem tw_14 : dr_T (Jvm.Cond.initialized "java/lang/IllegalArgumentException") := dr_Tg (List.mem_of_getElem? (i := 49) (by decide +kernel)) (Or.inl (by decide +kernel))
theorem tw_15 : dr_T (Jvm.Cond.initialized "java/lang/ArithmeticException") := dr_Tg (List.mem_of_getElem? (i := 50) (by decide +kernel)) (Or.inl (by decide +kernel))
theorem tw_16 : dr_T (Jvm.Cond.classLink "DrillRowsLaw" (8 : Nat) "DrillRows") := dr_Tg (List.mem_of_getElem? (i := 51) (by decide +kernel)) (Or.inl (by decide +kernel))
theorem tw_17 : dr_T (Jvm.Cond.instantiable "DrillRows" (10 : Nat)) := dr_Tg (List.mem_of_getElem? (i := 52) (by decide +kernel)) (Or.inl (by decide +kernel))
theorem tw_18 : dr_T (Jvm.Cond.methodLink "DrillRowsLaw" (81 : Nat) ({ cls := "DrillRows", name := "<init>", desc := "()V" } : Jvm.MethodName)) := dr_Tg (List.mem_of_getElem? (i := 53) (by decide +kernel)) (Or.inl (by decide +kernel))
theorem tw_19 : dr_T (Jvm.Cond.instanceMethod ({ cls := "DrillRows", name := "<init>", desc := "()V" } : Jvm.MethodName)) := dr_Tg (List.mem_of_getElem? (i := 54) (by decide +kernel)) (Or.inl (by decide +kernel))
theorem tw_20 : dr_T (Jvm.Cond.code ({ cls := "DrillRows", name := "<init>", desc := "()V" } : Jvm.MethodName) prog_1_method_1_code (1 : Nat) (Option.none : Option Jvm.ClassFile.FieldType)) := dr_Tg (List.mem_of_getElem? (i := 55) (by decide +kernel)) (Or.inl (by decide +kernel))
theorem tw_21 : dr_T (Jvm.Cond.methodLink "DrillRows" (1 : Nat) ({ cls := "java/lang/Object", name := "<init>", desc := "()V" } : Jvm.MethodName)) := dr_Tg (List.mem_of_getElem? (i := 56) (by decide +kernel)) (Or.inl (by decide +kernel))
theorem tw_22 : dr_T (Jvm.Cond.instanceMethod ({ cls := "java/lang/Object", name := "<init>", desc := "()V" } : Jvm.MethodName)) := dr_Tg (List.mem_of_getElem? (i := 57) (by decide +kernel)) (Or.inl (by decide +kernel))
theorem tw_23 : dr_T (Jvm.Cond.code ({ cls := "java/lang/Object", name := "<init>", desc := "()V" } : Jvm.MethodName) object_method_1_code (1 : Nat) (Option.none : Option Jvm.ClassFile.FieldType)) := dr_Tg (List.mem_of_getElem? (i := 58) (by decide +kernel)) (Or.inl (by decide +kernel))
theorem tw_24 : dr_T (Jvm.Cond.classLink "DrillRows" (7 : Nat) "DrillRows$Tape") := dr_Tg (List.mem_of_getElem? (i := 59) (by decide +kernel)) (Or.inl (by decide +kernel))
theorem tw_25 : dr_T (Jvm.Cond.instantiable "DrillRows$Tape" (4 : Nat)) := dr_Tg (List.mem_of_getElem? (i := 60) (by decide +kernel)) (Or.inl (by decide +kernel))
theorem tw_26 : dr_T (Jvm.Cond.methodLinkNest "DrillRows" (9 : Nat) ({ cls := "DrillRows$Tape", name := "<init>", desc := "()V" } : Jvm.MethodName) "DrillRows") := dr_Tm (List.mem_of_getElem? (i := 61) (by decide +kernel))
theorem tw_27 : dr_T (Jvm.Cond.instanceMethod ({ cls := "DrillRows$Tape", name := "<init>", desc := "()V" } : Jvm.MethodName)) := dr_Tg (List.mem_of_getElem? (i := 62) (by decide +kernel)) (Or.inl (by decide +kernel))
theorem tw_28 : dr_T (Jvm.Cond.code ({ cls := "DrillRows$Tape", name := "<init>", desc := "()V" } : Jvm.MethodName) prog_4_method_1_code (1 : Nat) (Option.none : Option Jvm.ClassFile.FieldType)) := dr_Tg (List.mem_of_getElem? (i := 63) (by decide +kernel)) (Or.inl (by decide +kernel))
theorem tw_29 : dr_T (Jvm.Cond.methodLink "DrillRows$Tape" (3 : Nat) ({ cls := "java/lang/Object", name := "<init>", desc := "()V" } : Jvm.MethodName)) := dr_Tg (List.mem_of_getElem? (i := 64) (by decide +kernel)) (Or.inl (by decide +kernel))
theorem tw_30 : dr_T (Jvm.Cond.fieldLink "DrillRows$Tape" (9 : Nat) "DrillRows$Tape" "bytes" "[I") := dr_Tg (List.mem_of_getElem? (i := 65) (by decide +kernel)) (Or.inl (by decide +kernel))
theorem tw_31 : dr_T (Jvm.Cond.fieldLink "DrillRows$Tape" (15 : Nat) "DrillRows$Tape" "length" "I") := dr_Tg (List.mem_of_getElem? (i := 66) (by decide +kernel)) (Or.inl (by decide +kernel))
theorem tw_32 : dr_T (Jvm.Cond.fieldLink "DrillRows$Tape" (19 : Nat) "DrillRows$Tape" "at" "I") := dr_Tg (List.mem_of_getElem? (i := 67) (by decide +kernel)) (Or.inl (by decide +kernel))
theorem tw_33 : dr_T (Jvm.Cond.fieldLink "DrillRows$Tape" (22 : Nat) "DrillRows$Tape" "wrongAt" "I") := dr_Tg (List.mem_of_getElem? (i := 68) (by decide +kernel)) (Or.inl (by decide +kernel))
theorem tw_43 : dr_T (Jvm.Cond.arrayClass Jvm.ClassFile.FieldType.int) := dr_Tg (List.mem_of_getElem? (i := 78) (by decide +kernel)) (Or.inr ⟨_, rfl⟩)
theorem tw_44 : dr_T (Jvm.Cond.classLink "DrillRows" (16 : Nat) "DrillRows$Script") := dr_Tg (List.mem_of_getElem? (i := 79) (by decide +kernel)) (Or.inl (by decide +kernel))
theorem tw_45 : dr_T (Jvm.Cond.instantiable "DrillRows$Script" (13 : Nat)) := dr_Tg (List.mem_of_getElem? (i := 80) (by decide +kernel)) (Or.inl (by decide +kernel))
theorem tw_46 : dr_T (Jvm.Cond.methodLinkNest "DrillRows" (18 : Nat) ({ cls := "DrillRows$Script", name := "<init>", desc := "()V" } : Jvm.MethodName) "DrillRows") := dr_Tm (List.mem_of_getElem? (i := 81) (by decide +kernel))
theorem tw_47 : dr_T (Jvm.Cond.instanceMethod ({ cls := "DrillRows$Script", name := "<init>", desc := "()V" } : Jvm.MethodName)) := dr_Tg (List.mem_of_getElem? (i := 82) (by decide +kernel)) (Or.inl (by decide +kernel))
theorem tw_48 : dr_T (Jvm.Cond.code ({ cls := "DrillRows$Script", name := "<init>", desc := "()V" } : Jvm.MethodName) prog_3_method_1_code (1 : Nat) (Option.none : Option Jvm.ClassFile.FieldType)) := dr_Tg (List.mem_of_getElem? (i := 83) (by decide +kernel)) (Or.inl (by decide +kernel))
theorem tw_49 : dr_T (Jvm.Cond.methodLink "DrillRows$Script" (3 : Nat) ({ cls := "java/lang/Object", name := "<init>", desc := "()V" } : Jvm.MethodName)) := dr_Tg (List.mem_of_getElem? (i := 84) (by decide +kernel)) (Or.inl (by decide +kernel))
theorem tw_50 : dr_T (Jvm.Cond.fieldLink "DrillRows$Script" (9 : Nat) "DrillRows$Script" "eventTold" "[Z") := dr_Tg (List.mem_of_getElem? (i := 85) (by decide +kernel)) (Or.inl (by decide +kernel))
theorem tw_51 : dr_T (Jvm.Cond.fieldLink "DrillRows$Script" (15 : Nat) "DrillRows$Script" "eventAct" "[I") := dr_Tg (List.mem_of_getElem? (i := 86) (by decide +kernel)) (Or.inl (by decide +kernel))
theorem tw_52 : dr_T (Jvm.Cond.fieldLink "DrillRows$Drill" (64 : Nat) "DrillRows$Script" "eventAct" "[I") := dr_Tg (List.mem_of_getElem? (i := 87) (by decide +kernel)) (Or.inl (by decide +kernel))
theorem tw_53 : dr_T (Jvm.Cond.fieldLink "DrillRows$Script" (19 : Nat) "DrillRows$Script" "eventDelay" "[I") := dr_Tg (List.mem_of_getElem? (i := 88) (by decide +kernel)) (Or.inl (by decide +kernel))
theorem tw_54 : dr_T (Jvm.Cond.fieldLink "DrillRows$Drill" (70 : Nat) "DrillRows$Script" "eventDelay" "[I") := dr_Tg (List.mem_of_getElem? (i := 89) (by decide +kernel)) (Or.inl (by decide +kernel))
theorem tw_55 : dr_T (Jvm.Cond.fieldLink "DrillRows$Script" (22 : Nat) "DrillRows$Script" "eventLatest" "[I") := dr_Tg (List.mem_of_getElem? (i := 90) (by decide +kernel)) (Or.inl (by decide +kernel))
theorem tw_56 : dr_T (Jvm.Cond.fieldLink "DrillRows$Drill" (61 : Nat) "DrillRows$Script" "eventLatest" "[I") := dr_Tg (List.mem_of_getElem? (i := 91) (by decide +kernel)) (Or.inl (by decide +kernel))
theorem tw_57 : dr_T (Jvm.Cond.fieldLink "DrillRows$Script" (25 : Nat) "DrillRows$Script" "eventPart" "[I") := dr_Tg (List.mem_of_getElem? (i := 92) (by decide +kernel)) (Or.inl (by decide +kernel))
theorem tw_58 : dr_T (Jvm.Cond.fieldLink "DrillRows$Drill" (87 : Nat) "DrillRows$Script" "eventPart" "[I") := dr_Tg (List.mem_of_getElem? (i := 93) (by decide +kernel)) (Or.inl (by decide +kernel))
theorem tw_59 : dr_T (Jvm.Cond.fieldLink "DrillRows" (145 : Nat) "DrillRows$Script" "eventPart" "[I") := dr_Tg (List.mem_of_getElem? (i := 94) (by decide +kernel)) (Or.inl (by decide +kernel))
theorem tw_60 : dr_T (Jvm.Cond.fieldLink "DrillRows$Script" (28 : Nat) "DrillRows$Script" "eventSecret" "[Z") := dr_Tg (List.mem_of_getElem? (i := 95) (by decide +kernel)) (Or.inl (by decide +kernel))
theorem tw_61 : dr_T (Jvm.Cond.fieldLink "DrillRows$Drill" (83 : Nat) "DrillRows$Script" "eventSecret" "[Z") := dr_Tg (List.mem_of_getElem? (i := 96) (by decide +kernel)) (Or.inl (by decide +kernel))
theorem tw_62 : dr_T (Jvm.Cond.fieldLink "DrillRows" (148 : Nat) "DrillRows$Script" "eventSecret" "[Z") := dr_Tg (List.mem_of_getElem? (i := 97) (by decide +kernel)) (Or.inl (by decide +kernel))
theorem tw_63 : dr_T (Jvm.Cond.fieldLink "DrillRows$Script" (31 : Nat) "DrillRows$Script" "eventFault" "[I") := dr_Tg (List.mem_of_getElem? (i := 98) (by decide +kernel)) (Or.inl (by decide +kernel))
theorem tw_64 : dr_T (Jvm.Cond.fieldLink "DrillRows$Drill" (90 : Nat) "DrillRows$Script" "eventFault" "[I") := dr_Tg (List.mem_of_getElem? (i := 99) (by decide +kernel)) (Or.inl (by decide +kernel))
theorem tw_65 : dr_T (Jvm.Cond.fieldLink "DrillRows" (152 : Nat) "DrillRows$Script" "eventFault" "[I") := dr_Tg (List.mem_of_getElem? (i := 100) (by decide +kernel)) (Or.inl (by decide +kernel))
theorem tw_66 : dr_T (Jvm.Cond.fieldLink "DrillRows$Script" (34 : Nat) "DrillRows$Script" "eventCount" "I") := dr_Tg (List.mem_of_getElem? (i := 101) (by decide +kernel)) (Or.inl (by decide +kernel))
theorem tw_67 : dr_T (Jvm.Cond.fieldLink "DrillRows" (91 : Nat) "DrillRows$Script" "eventCount" "I") := dr_Tg (List.mem_of_getElem? (i := 102) (by decide +kernel)) (Or.inl (by decide +kernel))
theorem tw_68 : dr_T (Jvm.Cond.fieldLink "DrillRows$Script" (38 : Nat) "DrillRows$Script" "aimEvent" "[I") := dr_Tg (List.mem_of_getElem? (i := 103) (by decide +kernel)) (Or.inl (by decide +kernel))
theorem tw_69 : dr_T (Jvm.Cond.fieldLink "DrillRows$Drill" (96 : Nat) "DrillRows$Script" "aimEvent" "[I") := dr_Tg (List.mem_of_getElem? (i := 104) (by decide +kernel)) (Or.inl (by decide +kernel))
theorem tw_70 : dr_T (Jvm.Cond.fieldLink "DrillRows$Script" (41 : Nat) "DrillRows$Script" "aimAct" "[I") := dr_Tg (List.mem_of_getElem? (i := 105) (by decide +kernel)) (Or.inl (by decide +kernel))
theorem tw_71 : dr_T (Jvm.Cond.fieldLink "DrillRows$Drill" (105 : Nat) "DrillRows$Script" "aimAct" "[I") := dr_Tg (List.mem_of_getElem? (i := 106) (by decide +kernel)) (Or.inl (by decide +kernel))
theorem tw_72 : dr_T (Jvm.Cond.fieldLink "DrillRows$Script" (44 : Nat) "DrillRows$Script" "aimSeconds" "[I") := dr_Tg (List.mem_of_getElem? (i := 107) (by decide +kernel)) (Or.inl (by decide +kernel))
theorem tw_73 : dr_T (Jvm.Cond.fieldLink "DrillRows$Drill" (102 : Nat) "DrillRows$Script" "aimSeconds" "[I") := dr_Tg (List.mem_of_getElem? (i := 108) (by decide +kernel)) (Or.inl (by decide +kernel))
theorem tw_74 : dr_T (Jvm.Cond.fieldLink "DrillRows$Script" (47 : Nat) "DrillRows$Script" "aimWeight" "[I") := dr_Tg (List.mem_of_getElem? (i := 109) (by decide +kernel)) (Or.inl (by decide +kernel))
theorem tw_75 : dr_T (Jvm.Cond.fieldLink "DrillRows$Drill" (115 : Nat) "DrillRows$Script" "aimWeight" "[I") := dr_Tg (List.mem_of_getElem? (i := 110) (by decide +kernel)) (Or.inl (by decide +kernel))
theorem tw_76 : dr_T (Jvm.Cond.fieldLink "DrillRows$Script" (50 : Nat) "DrillRows$Script" "played" "Z") := dr_Tg (List.mem_of_getElem? (i := 111) (by decide +kernel)) (Or.inl (by decide +kernel))
theorem tw_77 : dr_T (Jvm.Cond.fieldLink "DrillRows" (87 : Nat) "DrillRows$Script" "played" "Z") := dr_Tg (List.mem_of_getElem? (i := 112) (by decide +kernel)) (Or.inl (by decide +kernel))
theorem tw_105 : dr_T (Jvm.Cond.arrayClass Jvm.ClassFile.FieldType.boolean) := dr_Tg (List.mem_of_getElem? (i := 140) (by decide +kernel)) (Or.inr ⟨_, rfl⟩)
theorem tw_106 : dr_T (Jvm.Cond.classLink "DrillRows" (33 : Nat) "DrillRows$Drill") := dr_Tg (List.mem_of_getElem? (i := 141) (by decide +kernel)) (Or.inl (by decide +kernel))
theorem tw_107 : dr_T (Jvm.Cond.arrayOver (Jvm.ClassFile.FieldType.object "DrillRows$Drill")) := dr_To (List.mem_of_getElem? (i := 142) (by decide +kernel))
theorem tw_108 : dr_T (Jvm.Cond.methodLink "DrillRows" (52 : Nat) ({ cls := "java/util/Arrays", name := "fill", desc := "([II)V" } : Jvm.MethodName)) := dr_Tg (List.mem_of_getElem? (i := 143) (by decide +kernel)) (Or.inl (by decide +kernel))
theorem tw_109 : dr_T (Jvm.Cond.static ({ cls := "java/util/Arrays", name := "fill", desc := "([II)V" } : Jvm.MethodName)) := dr_Tg (List.mem_of_getElem? (i := 144) (by decide +kernel)) (Or.inl (by decide +kernel))
theorem tw_110 : dr_T (Jvm.Cond.code ({ cls := "java/util/Arrays", name := "fill", desc := "([II)V" } : Jvm.MethodName) prog_17_method_103_code (4 : Nat) (Option.none : Option Jvm.ClassFile.FieldType)) := dr_Tg (List.mem_of_getElem? (i := 145) (by decide +kernel)) (Or.inl (by decide +kernel))
theorem tw_111 : dr_T (Jvm.Cond.fieldLink "DrillRows" (10 : Nat) "DrillRows" "tape" "LDrillRows$Tape;") := dr_Tg (List.mem_of_getElem? (i := 146) (by decide +kernel)) (Or.inl (by decide +kernel))
theorem tw_112 : dr_T (Jvm.Cond.fieldLink "DrillRows" (19 : Nat) "DrillRows" "script" "LDrillRows$Script;") := dr_Tg (List.mem_of_getElem? (i := 147) (by decide +kernel)) (Or.inl (by decide +kernel))
theorem tw_113 : dr_T (Jvm.Cond.fieldLink "DrillRows" (23 : Nat) "DrillRows" "spare" "LDrillRows$Script;") := dr_Tg (List.mem_of_getElem? (i := 148) (by decide +kernel)) (Or.inl (by decide +kernel))
theorem tw_114 : dr_T (Jvm.Cond.fieldLink "DrillRows" (26 : Nat) "DrillRows" "wrongPlace" "I") := dr_Tg (List.mem_of_getElem? (i := 149) (by decide +kernel)) (Or.inl (by decide +kernel))
theorem tw_115 : dr_T (Jvm.Cond.fieldLink "DrillRows" (30 : Nat) "DrillRows" "now" "I") := dr_Tg (List.mem_of_getElem? (i := 150) (by decide +kernel)) (Or.inl (by decide +kernel))
theorem tw_116 : dr_T (Jvm.Cond.fieldLink "DrillRows" (35 : Nat) "DrillRows" "drills" "[LDrillRows$Drill;") := dr_Tg (List.mem_of_getElem? (i := 151) (by decide +kernel)) (Or.inl (by decide +kernel))
theorem tw_117 : dr_T (Jvm.Cond.fieldLink "DrillRows" (39 : Nat) "DrillRows" "drillCount" "I") := dr_Tg (List.mem_of_getElem? (i := 152) (by decide +kernel)) (Or.inl (by decide +kernel))
theorem tw_118 : dr_T (Jvm.Cond.fieldLink "DrillRows" (42 : Nat) "DrillRows" "drillOfUnit" "[I") := dr_Tg (List.mem_of_getElem? (i := 153) (by decide +kernel)) (Or.inl (by decide +kernel))
theorem tw_119 : dr_T (Jvm.Cond.fieldLink "DrillRows" (46 : Nat) "DrillRows" "rowCells" "[I") := dr_Tg (List.mem_of_getElem? (i := 154) (by decide +kernel)) (Or.inl (by decide +kernel))
theorem tw_120 : dr_T (Jvm.Cond.fieldLink "DrillRows" (49 : Nat) "DrillRows" "rowCount" "I") := dr_Tg (List.mem_of_getElem? (i := 155) (by decide +kernel)) (Or.inl (by decide +kernel))
theorem tw_142 : dr_T (Jvm.Cond.methodLink "DrillRowsLaw" (100 : Nat) ({ cls := "DrillRows", name := "place", desc := "()I" } : Jvm.MethodName)) := dr_Tg (List.mem_of_getElem? (i := 177) (by decide +kernel)) (Or.inl (by decide +kernel))
theorem tw_143 : dr_T (Jvm.Cond.instanceMethod ({ cls := "DrillRows", name := "place", desc := "()I" } : Jvm.MethodName)) := dr_Tg (List.mem_of_getElem? (i := 178) (by decide +kernel)) (Or.inl (by decide +kernel))
theorem tw_144 : dr_T (Jvm.Cond.selects "DrillRows" ({ cls := "DrillRows", name := "place", desc := "()I" } : Jvm.MethodName) ({ cls := "DrillRows", name := "place", desc := "()I" } : Jvm.MethodName)) := dr_Tg (List.mem_of_getElem? (i := 179) (by decide +kernel)) (Or.inl (by decide +kernel))
theorem tw_145 : dr_T (Jvm.Cond.code ({ cls := "DrillRows", name := "place", desc := "()I" } : Jvm.MethodName) prog_1_method_4_code (1 : Nat) (Option.some Jvm.ClassFile.FieldType.int)) := dr_Tg (List.mem_of_getElem? (i := 180) (by decide +kernel)) (Or.inl (by decide +kernel))
theorem tw_146 : dr_T (Jvm.Cond.methodLink "DrillRowsLaw" (87 : Nat) ({ cls := "DrillRowsLaw", name := "sign", desc := "(LDrillRows;JI[J)I" } : Jvm.MethodName)) := dr_Tg (List.mem_of_getElem? (i := 181) (by decide +kernel)) (Or.inl (by decide +kernel))
theorem tw_147 : dr_T (Jvm.Cond.static ({ cls := "DrillRowsLaw", name := "sign", desc := "(LDrillRows;JI[J)I" } : Jvm.MethodName)) := dr_Tg (List.mem_of_getElem? (i := 182) (by decide +kernel)) (Or.inl (by decide +kernel))
theorem tw_148 : dr_T (Jvm.Cond.codeWith ({ cls := "DrillRowsLaw", name := "sign", desc := "(LDrillRows;JI[J)I" } : Jvm.MethodName) method_3_code (6 : Nat) (Option.some Jvm.ClassFile.FieldType.int) [((0 : Nat), (11 : Nat), (14 : Nat), (13 : Nat)), ((0 : Nat), (11 : Nat), (18 : Nat), (15 : Nat))]) := dr_Tg (List.mem_of_getElem? (i := 183) (by decide +kernel)) (Or.inl (by decide +kernel))
theorem tw_149 : dr_T (Jvm.Cond.classLink "DrillRowsLaw" (13 : Nat) "java/lang/IndexOutOfBoundsException") := dr_Tg (List.mem_of_getElem? (i := 184) (by decide +kernel)) (Or.inl (by decide +kernel))
theorem tw_150 : dr_T (Jvm.Cond.classLink "DrillRowsLaw" (15 : Nat) "java/lang/UnsupportedOperationException") := dr_Tg (List.mem_of_getElem? (i := 185) (by decide +kernel)) (Or.inl (by decide +kernel))
theorem tw_151 : dr_T (Jvm.Cond.methodLink "DrillRowsLaw" (7 : Nat) ({ cls := "DrillRows", name := "sign", desc := "(JI)I" } : Jvm.MethodName)) := dr_Tg (List.mem_of_getElem? (i := 186) (by decide +kernel)) (Or.inl (by decide +kernel))
theorem tw_152 : dr_T (Jvm.Cond.instanceMethod ({ cls := "DrillRows", name := "sign", desc := "(JI)I" } : Jvm.MethodName)) := dr_Tg (List.mem_of_getElem? (i := 187) (by decide +kernel)) (Or.inl (by decide +kernel))
theorem tw_153 : dr_T (Jvm.Cond.selects "DrillRows" ({ cls := "DrillRows", name := "sign", desc := "(JI)I" } : Jvm.MethodName) ({ cls := "DrillRows", name := "sign", desc := "(JI)I" } : Jvm.MethodName)) := dr_Tg (List.mem_of_getElem? (i := 188) (by decide +kernel)) (Or.inl (by decide +kernel))
theorem tw_154 : dr_T (Jvm.Cond.code ({ cls := "DrillRows", name := "sign", desc := "(JI)I" } : Jvm.MethodName) prog_1_method_2_code (4 : Nat) (Option.some Jvm.ClassFile.FieldType.int)) := dr_Tg (List.mem_of_getElem? (i := 189) (by decide +kernel)) (Or.inl (by decide +kernel))
theorem tw_155 : dr_T (Jvm.Cond.classLink "DrillRows" (58 : Nat) "java/lang/IndexOutOfBoundsException") := dr_Tg (List.mem_of_getElem? (i := 190) (by decide +kernel)) (Or.inl (by decide +kernel))
theorem tw_156 : dr_T (Jvm.Cond.instantiable "java/lang/IndexOutOfBoundsException" (6 : Nat)) := dr_Tg (List.mem_of_getElem? (i := 191) (by decide +kernel)) (Or.inl (by decide +kernel))
theorem tw_157 : dr_T (Jvm.Cond.castable "java/lang/IndexOutOfBoundsException" "java/lang/IndexOutOfBoundsException") := dr_Tf (List.mem_of_getElem? (i := 192) (by decide +kernel)) (by decide +kernel)
theorem tw_164 : dr_T (Jvm.Cond.selects "java/lang/IndexOutOfBoundsException" ({ cls := "java/lang/Throwable", name := "fillInStackTrace", desc := "(I)Ljava/lang/Throwable;" } : Jvm.MethodName) ({ cls := "java/lang/Throwable", name := "fillInStackTrace", desc := "(I)Ljava/lang/Throwable;" } : Jvm.MethodName)) := dr_Tg (List.mem_of_getElem? (i := 199) (by decide +kernel)) (Or.inl (by decide +kernel))
theorem tw_165 : dr_T (Jvm.Cond.selects "java/lang/IndexOutOfBoundsException" ({ cls := "java/lang/Throwable", name := "fillInStackTrace", desc := "()Ljava/lang/Throwable;" } : Jvm.MethodName) ({ cls := "java/lang/Throwable", name := "fillInStackTrace", desc := "()Ljava/lang/Throwable;" } : Jvm.MethodName)) := dr_Tg (List.mem_of_getElem? (i := 200) (by decide +kernel)) (Or.inl (by decide +kernel))
theorem tw_176 : dr_T (Jvm.Cond.fieldLink "java/lang/Throwable" (198 : Nat) "java/lang/Throwable" "backtrace" "Ljava/lang/Object;") := dr_Tg (List.mem_of_getElem? (i := 211) (by decide +kernel)) (Or.inl (by decide +kernel))
theorem tw_178 : dr_T (Jvm.Cond.instanceMethod ({ cls := "java/lang/Throwable", name := "<init>", desc := "()V" } : Jvm.MethodName)) := dr_Tg (List.mem_of_getElem? (i := 213) (by decide +kernel)) (Or.inl (by decide +kernel))
theorem tw_179 : dr_T (Jvm.Cond.code ({ cls := "java/lang/Throwable", name := "<init>", desc := "()V" } : Jvm.MethodName) prog_15_method_1_code (1 : Nat) (Option.none : Option Jvm.ClassFile.FieldType)) := dr_Tg (List.mem_of_getElem? (i := 214) (by decide +kernel)) (Or.inl (by decide +kernel))
theorem tw_180 : dr_T (Jvm.Cond.methodLink "java/lang/Throwable" (1 : Nat) ({ cls := "java/lang/Object", name := "<init>", desc := "()V" } : Jvm.MethodName)) := dr_Tg (List.mem_of_getElem? (i := 215) (by decide +kernel)) (Or.inl (by decide +kernel))
theorem tw_181 : dr_T (Jvm.Cond.fieldLink "java/lang/Throwable" (13 : Nat) "java/lang/Throwable" "UNASSIGNED_STACK" "[Ljava/lang/StackTraceElement;") := dr_Tg (List.mem_of_getElem? (i := 216) (by decide +kernel)) (Or.inl (by decide +kernel))
theorem tw_183 : dr_T (Jvm.Cond.fieldLink "java/lang/Throwable" (20 : Nat) "java/lang/Throwable" "SUPPRESSED_SENTINEL" "Ljava/util/List;") := dr_Tg (List.mem_of_getElem? (i := 218) (by decide +kernel)) (Or.inl (by decide +kernel))
theorem tw_185 : dr_T (Jvm.Cond.methodLink "java/lang/Throwable" (27 : Nat) ({ cls := "java/lang/Throwable", name := "fillInStackTrace", desc := "()Ljava/lang/Throwable;" } : Jvm.MethodName)) := dr_Tg (List.mem_of_getElem? (i := 220) (by decide +kernel)) (Or.inl (by decide +kernel))
theorem tw_186 : dr_T (Jvm.Cond.instanceMethod ({ cls := "java/lang/Throwable", name := "fillInStackTrace", desc := "()Ljava/lang/Throwable;" } : Jvm.MethodName)) := dr_Tg (List.mem_of_getElem? (i := 221) (by decide +kernel)) (Or.inl (by decide +kernel))
theorem tw_188 : dr_T (Jvm.Cond.selects "java/lang/ArithmeticException" ({ cls := "java/lang/Throwable", name := "fillInStackTrace", desc := "()Ljava/lang/Throwable;" } : Jvm.MethodName) ({ cls := "java/lang/Throwable", name := "fillInStackTrace", desc := "()Ljava/lang/Throwable;" } : Jvm.MethodName)) := dr_Tg (List.mem_of_getElem? (i := 223) (by decide +kernel)) (Or.inl (by decide +kernel))
theorem tw_189 : dr_T (Jvm.Cond.selects "java/lang/IllegalArgumentException" ({ cls := "java/lang/Throwable", name := "fillInStackTrace", desc := "()Ljava/lang/Throwable;" } : Jvm.MethodName) ({ cls := "java/lang/Throwable", name := "fillInStackTrace", desc := "()Ljava/lang/Throwable;" } : Jvm.MethodName)) := dr_Tg (List.mem_of_getElem? (i := 224) (by decide +kernel)) (Or.inl (by decide +kernel))
theorem tw_190 : dr_T (Jvm.Cond.selects "java/lang/IllegalStateException" ({ cls := "java/lang/Throwable", name := "fillInStackTrace", desc := "()Ljava/lang/Throwable;" } : Jvm.MethodName) ({ cls := "java/lang/Throwable", name := "fillInStackTrace", desc := "()Ljava/lang/Throwable;" } : Jvm.MethodName)) := dr_Tg (List.mem_of_getElem? (i := 225) (by decide +kernel)) (Or.inl (by decide +kernel))
theorem tw_191 : dr_T (Jvm.Cond.selects "java/lang/UnsupportedOperationException" ({ cls := "java/lang/Throwable", name := "fillInStackTrace", desc := "()Ljava/lang/Throwable;" } : Jvm.MethodName) ({ cls := "java/lang/Throwable", name := "fillInStackTrace", desc := "()Ljava/lang/Throwable;" } : Jvm.MethodName)) := dr_Tg (List.mem_of_getElem? (i := 226) (by decide +kernel)) (Or.inl (by decide +kernel))
theorem tw_193 : dr_T (Jvm.Cond.methodLink "java/lang/Throwable" (202 : Nat) ({ cls := "java/lang/Throwable", name := "fillInStackTrace", desc := "(I)Ljava/lang/Throwable;" } : Jvm.MethodName)) := dr_Tg (List.mem_of_getElem? (i := 228) (by decide +kernel)) (Or.inl (by decide +kernel))
theorem tw_195 : dr_T (Jvm.Cond.instanceMethod ({ cls := "java/lang/Throwable", name := "fillInStackTrace", desc := "(I)Ljava/lang/Throwable;" } : Jvm.MethodName)) := dr_Tg (List.mem_of_getElem? (i := 230) (by decide +kernel)) (Or.inl (by decide +kernel))
theorem tw_196 : dr_T (Jvm.Cond.instantiable "java/lang/Throwable" (6 : Nat)) := dr_Tg (List.mem_of_getElem? (i := 231) (by decide +kernel)) (Or.inl (by decide +kernel))
theorem tw_198 : dr_T (Jvm.Cond.stringRef "DrillRows" (60 : Nat) "not 1 to 8 bytes") := dr_Ts (List.mem_of_getElem? (i := 233) (by decide +kernel))
theorem tw_199 : dr_T (Jvm.Cond.methodLink "DrillRows" (62 : Nat) ({ cls := "java/lang/IndexOutOfBoundsException", name := "<init>", desc := "(Ljava/lang/String;)V" } : Jvm.MethodName)) := dr_Tg (List.mem_of_getElem? (i := 234) (by decide +kernel)) (Or.inl (by decide +kernel))
theorem tw_200 : dr_T (Jvm.Cond.instanceMethod ({ cls := "java/lang/IndexOutOfBoundsException", name := "<init>", desc := "(Ljava/lang/String;)V" } : Jvm.MethodName)) := dr_Tg (List.mem_of_getElem? (i := 235) (by decide +kernel)) (Or.inl (by decide +kernel))
theorem tw_201 : dr_T (Jvm.Cond.code ({ cls := "java/lang/IndexOutOfBoundsException", name := "<init>", desc := "(Ljava/lang/String;)V" } : Jvm.MethodName) prog_11_method_2_code (2 : Nat) (Option.none : Option Jvm.ClassFile.FieldType)) := dr_Tg (List.mem_of_getElem? (i := 236) (by decide +kernel)) (Or.inl (by decide +kernel))
theorem tw_202 : dr_T (Jvm.Cond.methodLink "java/lang/IndexOutOfBoundsException" (7 : Nat) ({ cls := "java/lang/RuntimeException", name := "<init>", desc := "(Ljava/lang/String;)V" } : Jvm.MethodName)) := dr_Tg (List.mem_of_getElem? (i := 237) (by decide +kernel)) (Or.inl (by decide +kernel))
theorem tw_203 : dr_T (Jvm.Cond.instanceMethod ({ cls := "java/lang/RuntimeException", name := "<init>", desc := "(Ljava/lang/String;)V" } : Jvm.MethodName)) := dr_Tg (List.mem_of_getElem? (i := 238) (by decide +kernel)) (Or.inl (by decide +kernel))
theorem tw_204 : dr_T (Jvm.Cond.code ({ cls := "java/lang/RuntimeException", name := "<init>", desc := "(Ljava/lang/String;)V" } : Jvm.MethodName) prog_13_method_2_code (2 : Nat) (Option.none : Option Jvm.ClassFile.FieldType)) := dr_Tg (List.mem_of_getElem? (i := 239) (by decide +kernel)) (Or.inl (by decide +kernel))
theorem tw_205 : dr_T (Jvm.Cond.methodLink "java/lang/RuntimeException" (7 : Nat) ({ cls := "java/lang/Exception", name := "<init>", desc := "(Ljava/lang/String;)V" } : Jvm.MethodName)) := dr_Tg (List.mem_of_getElem? (i := 240) (by decide +kernel)) (Or.inl (by decide +kernel))
theorem tw_206 : dr_T (Jvm.Cond.instanceMethod ({ cls := "java/lang/Exception", name := "<init>", desc := "(Ljava/lang/String;)V" } : Jvm.MethodName)) := dr_Tg (List.mem_of_getElem? (i := 241) (by decide +kernel)) (Or.inl (by decide +kernel))
theorem tw_207 : dr_T (Jvm.Cond.code ({ cls := "java/lang/Exception", name := "<init>", desc := "(Ljava/lang/String;)V" } : Jvm.MethodName) prog_8_method_2_code (2 : Nat) (Option.none : Option Jvm.ClassFile.FieldType)) := dr_Tg (List.mem_of_getElem? (i := 242) (by decide +kernel)) (Or.inl (by decide +kernel))
theorem tw_208 : dr_T (Jvm.Cond.methodLink "java/lang/Exception" (7 : Nat) ({ cls := "java/lang/Throwable", name := "<init>", desc := "(Ljava/lang/String;)V" } : Jvm.MethodName)) := dr_Tg (List.mem_of_getElem? (i := 243) (by decide +kernel)) (Or.inl (by decide +kernel))
theorem tw_209 : dr_T (Jvm.Cond.instanceMethod ({ cls := "java/lang/Throwable", name := "<init>", desc := "(Ljava/lang/String;)V" } : Jvm.MethodName)) := dr_Tg (List.mem_of_getElem? (i := 244) (by decide +kernel)) (Or.inl (by decide +kernel))
theorem tw_210 : dr_T (Jvm.Cond.code ({ cls := "java/lang/Throwable", name := "<init>", desc := "(Ljava/lang/String;)V" } : Jvm.MethodName) prog_15_method_2_code (2 : Nat) (Option.none : Option Jvm.ClassFile.FieldType)) := dr_Tg (List.mem_of_getElem? (i := 245) (by decide +kernel)) (Or.inl (by decide +kernel))
theorem tw_211 : dr_T (Jvm.Cond.fieldLink "java/lang/Throwable" (198 : Nat) "java/lang/Throwable" "backtrace" "Ljava/lang/Object;") := dr_Tg (List.mem_of_getElem? (i := 246) (by decide +kernel)) (Or.inl (by decide +kernel))
theorem tw_212 : dr_T (Jvm.Cond.fieldLink "java/lang/Throwable" (31 : Nat) "java/lang/Throwable" "detailMessage" "Ljava/lang/String;") := dr_Tg (List.mem_of_getElem? (i := 247) (by decide +kernel)) (Or.inl (by decide +kernel))
theorem tw_213 : dr_T (Jvm.Cond.fieldLink "java/lang/Throwable" (7 : Nat) "java/lang/Throwable" "cause" "Ljava/lang/Throwable;") := dr_Tg (List.mem_of_getElem? (i := 248) (by decide +kernel)) (Or.inl (by decide +kernel))
theorem tw_214 : dr_T (Jvm.Cond.fieldLink "java/lang/Throwable" (17 : Nat) "java/lang/Throwable" "stackTrace" "[Ljava/lang/StackTraceElement;") := dr_Tg (List.mem_of_getElem? (i := 249) (by decide +kernel)) (Or.inl (by decide +kernel))
theorem tw_215 : dr_T (Jvm.Cond.fieldLink "java/lang/Throwable" (24 : Nat) "java/lang/Throwable" "suppressedExceptions" "Ljava/util/List;") := dr_Tg (List.mem_of_getElem? (i := 250) (by decide +kernel)) (Or.inl (by decide +kernel))
theorem tw_224 : dr_T (Jvm.Cond.arrayClass Jvm.ClassFile.FieldType.byte) := dr_Tg (List.mem_of_getElem? (i := 259) (by decide +kernel)) (Or.inr ⟨_, rfl⟩)
theorem tw_225 : dr_T (Jvm.Cond.methodLink "DrillRows" (65 : Nat) ({ cls := "DrillRows$Tape", name := "hasRoomFor", desc := "(I)Z" } : Jvm.MethodName)) := dr_Tg (List.mem_of_getElem? (i := 260) (by decide +kernel)) (Or.inl (by decide +kernel))
theorem tw_226 : dr_T (Jvm.Cond.instanceMethod ({ cls := "DrillRows$Tape", name := "hasRoomFor", desc := "(I)Z" } : Jvm.MethodName)) := dr_Tg (List.mem_of_getElem? (i := 261) (by decide +kernel)) (Or.inl (by decide +kernel))
theorem tw_227 : dr_T (Jvm.Cond.selects "DrillRows$Tape" ({ cls := "DrillRows$Tape", name := "hasRoomFor", desc := "(I)Z" } : Jvm.MethodName) ({ cls := "DrillRows$Tape", name := "hasRoomFor", desc := "(I)Z" } : Jvm.MethodName)) := dr_Tg (List.mem_of_getElem? (i := 262) (by decide +kernel)) (Or.inl (by decide +kernel))
theorem tw_228 : dr_T (Jvm.Cond.code ({ cls := "DrillRows$Tape", name := "hasRoomFor", desc := "(I)Z" } : Jvm.MethodName) prog_4_method_2_code (2 : Nat) (Option.some Jvm.ClassFile.FieldType.boolean)) := dr_Tg (List.mem_of_getElem? (i := 263) (by decide +kernel)) (Or.inl (by decide +kernel))
theorem tw_229 : dr_T (Jvm.Cond.classLink "DrillRows" (69 : Nat) "java/lang/UnsupportedOperationException") := dr_Tg (List.mem_of_getElem? (i := 264) (by decide +kernel)) (Or.inl (by decide +kernel))
theorem tw_230 : dr_T (Jvm.Cond.instantiable "java/lang/UnsupportedOperationException" (6 : Nat)) := dr_Tg (List.mem_of_getElem? (i := 265) (by decide +kernel)) (Or.inl (by decide +kernel))
theorem tw_231 : dr_T (Jvm.Cond.castable "java/lang/UnsupportedOperationException" "java/lang/UnsupportedOperationException") := dr_Tf (List.mem_of_getElem? (i := 266) (by decide +kernel)) (by decide +kernel)
theorem tw_232 : dr_T (Jvm.Cond.selects "java/lang/UnsupportedOperationException" ({ cls := "java/lang/Throwable", name := "fillInStackTrace", desc := "(I)Ljava/lang/Throwable;" } : Jvm.MethodName) ({ cls := "java/lang/Throwable", name := "fillInStackTrace", desc := "(I)Ljava/lang/Throwable;" } : Jvm.MethodName)) := dr_Tg (List.mem_of_getElem? (i := 267) (by decide +kernel)) (Or.inl (by decide +kernel))
theorem tw_238 : dr_T (Jvm.Cond.stringRef "DrillRows" (71 : Nat) "the tape would be too long") := dr_Ts (List.mem_of_getElem? (i := 273) (by decide +kernel))
theorem tw_239 : dr_T (Jvm.Cond.methodLink "DrillRows" (73 : Nat) ({ cls := "java/lang/UnsupportedOperationException", name := "<init>", desc := "(Ljava/lang/String;)V" } : Jvm.MethodName)) := dr_Tg (List.mem_of_getElem? (i := 274) (by decide +kernel)) (Or.inl (by decide +kernel))
theorem tw_240 : dr_T (Jvm.Cond.instanceMethod ({ cls := "java/lang/UnsupportedOperationException", name := "<init>", desc := "(Ljava/lang/String;)V" } : Jvm.MethodName)) := dr_Tg (List.mem_of_getElem? (i := 275) (by decide +kernel)) (Or.inl (by decide +kernel))
theorem tw_241 : dr_T (Jvm.Cond.code ({ cls := "java/lang/UnsupportedOperationException", name := "<init>", desc := "(Ljava/lang/String;)V" } : Jvm.MethodName) prog_16_method_2_code (2 : Nat) (Option.none : Option Jvm.ClassFile.FieldType)) := dr_Tg (List.mem_of_getElem? (i := 276) (by decide +kernel)) (Or.inl (by decide +kernel))
theorem tw_242 : dr_T (Jvm.Cond.methodLink "java/lang/UnsupportedOperationException" (7 : Nat) ({ cls := "java/lang/RuntimeException", name := "<init>", desc := "(Ljava/lang/String;)V" } : Jvm.MethodName)) := dr_Tg (List.mem_of_getElem? (i := 277) (by decide +kernel)) (Or.inl (by decide +kernel))
theorem tw_245 : dr_T (Jvm.Cond.methodLink "DrillRows" (74 : Nat) ({ cls := "DrillRows$Tape", name := "append", desc := "(JI)I" } : Jvm.MethodName)) := dr_Tg (List.mem_of_getElem? (i := 280) (by decide +kernel)) (Or.inl (by decide +kernel))
theorem tw_246 : dr_T (Jvm.Cond.instanceMethod ({ cls := "DrillRows$Tape", name := "append", desc := "(JI)I" } : Jvm.MethodName)) := dr_Tg (List.mem_of_getElem? (i := 281) (by decide +kernel)) (Or.inl (by decide +kernel))
theorem tw_247 : dr_T (Jvm.Cond.selects "DrillRows$Tape" ({ cls := "DrillRows$Tape", name := "append", desc := "(JI)I" } : Jvm.MethodName) ({ cls := "DrillRows$Tape", name := "append", desc := "(JI)I" } : Jvm.MethodName)) := dr_Tg (List.mem_of_getElem? (i := 282) (by decide +kernel)) (Or.inl (by decide +kernel))
theorem tw_248 : dr_T (Jvm.Cond.code ({ cls := "DrillRows$Tape", name := "append", desc := "(JI)I" } : Jvm.MethodName) prog_4_method_3_code (5 : Nat) (Option.some Jvm.ClassFile.FieldType.int)) := dr_Tg (List.mem_of_getElem? (i := 283) (by decide +kernel)) (Or.inl (by decide +kernel))
theorem tw_249 : dr_T (Jvm.Cond.methodLink "DrillRowsLaw" (96 : Nat) ({ cls := "DrillRowsLaw", name := "read", desc := "(LDrillRows;[J)I" } : Jvm.MethodName)) := dr_Tg (List.mem_of_getElem? (i := 284) (by decide +kernel)) (Or.inl (by decide +kernel))
theorem tw_250 : dr_T (Jvm.Cond.static ({ cls := "DrillRowsLaw", name := "read", desc := "(LDrillRows;[J)I" } : Jvm.MethodName)) := dr_Tg (List.mem_of_getElem? (i := 285) (by decide +kernel)) (Or.inl (by decide +kernel))
theorem tw_251 : dr_T (Jvm.Cond.codeWith ({ cls := "DrillRowsLaw", name := "read", desc := "(LDrillRows;[J)I" } : Jvm.MethodName) method_4_code (3 : Nat) (Option.some Jvm.ClassFile.FieldType.int) [((0 : Nat), (8 : Nat), (11 : Nat), (21 : Nat))]) := dr_Tg (List.mem_of_getElem? (i := 286) (by decide +kernel)) (Or.inl (by decide +kernel))
theorem tw_252 : dr_T (Jvm.Cond.classLink "DrillRowsLaw" (21 : Nat) "java/lang/IllegalStateException") := dr_Tg (List.mem_of_getElem? (i := 287) (by decide +kernel)) (Or.inl (by decide +kernel))
theorem tw_253 : dr_T (Jvm.Cond.methodLink "DrillRowsLaw" (17 : Nat) ({ cls := "DrillRows", name := "read", desc := "()I" } : Jvm.MethodName)) := dr_Tg (List.mem_of_getElem? (i := 288) (by decide +kernel)) (Or.inl (by decide +kernel))
theorem tw_254 : dr_T (Jvm.Cond.instanceMethod ({ cls := "DrillRows", name := "read", desc := "()I" } : Jvm.MethodName)) := dr_Tg (List.mem_of_getElem? (i := 289) (by decide +kernel)) (Or.inl (by decide +kernel))
theorem tw_255 : dr_T (Jvm.Cond.selects "DrillRows" ({ cls := "DrillRows", name := "read", desc := "()I" } : Jvm.MethodName) ({ cls := "DrillRows", name := "read", desc := "()I" } : Jvm.MethodName)) := dr_Tg (List.mem_of_getElem? (i := 290) (by decide +kernel)) (Or.inl (by decide +kernel))
theorem tw_256 : dr_T (Jvm.Cond.code ({ cls := "DrillRows", name := "read", desc := "()I" } : Jvm.MethodName) prog_1_method_3_code (2 : Nat) (Option.some Jvm.ClassFile.FieldType.int)) := dr_Tg (List.mem_of_getElem? (i := 291) (by decide +kernel)) (Or.inl (by decide +kernel))
theorem tw_257 : dr_T (Jvm.Cond.methodLink "DrillRows" (78 : Nat) ({ cls := "DrillRows$Tape", name := "parseInto", desc := "(LDrillRows$Script;)I" } : Jvm.MethodName)) := dr_Tg (List.mem_of_getElem? (i := 292) (by decide +kernel)) (Or.inl (by decide +kernel))
theorem tw_258 : dr_T (Jvm.Cond.instanceMethod ({ cls := "DrillRows$Tape", name := "parseInto", desc := "(LDrillRows$Script;)I" } : Jvm.MethodName)) := dr_Tg (List.mem_of_getElem? (i := 293) (by decide +kernel)) (Or.inl (by decide +kernel))
theorem tw_259 : dr_T (Jvm.Cond.selects "DrillRows$Tape" ({ cls := "DrillRows$Tape", name := "parseInto", desc := "(LDrillRows$Script;)I" } : Jvm.MethodName) ({ cls := "DrillRows$Tape", name := "parseInto", desc := "(LDrillRows$Script;)I" } : Jvm.MethodName)) := dr_Tg (List.mem_of_getElem? (i := 294) (by decide +kernel)) (Or.inl (by decide +kernel))
theorem tw_260 : dr_T (Jvm.Cond.code ({ cls := "DrillRows$Tape", name := "parseInto", desc := "(LDrillRows$Script;)I" } : Jvm.MethodName) prog_4_method_4_code (3 : Nat) (Option.some Jvm.ClassFile.FieldType.int)) := dr_Tg (List.mem_of_getElem? (i := 295) (by decide +kernel)) (Or.inl (by decide +kernel))
theorem tw_261 : dr_T (Jvm.Cond.methodLink "DrillRows$Tape" (25 : Nat) ({ cls := "DrillRows$Script", name := "clear", desc := "()V" } : Jvm.MethodName)) := dr_Tg (List.mem_of_getElem? (i := 296) (by decide +kernel)) (Or.inl (by decide +kernel))
theorem tw_262 : dr_T (Jvm.Cond.instanceMethod ({ cls := "DrillRows$Script", name := "clear", desc := "()V" } : Jvm.MethodName)) := dr_Tg (List.mem_of_getElem? (i := 297) (by decide +kernel)) (Or.inl (by decide +kernel))
theorem tw_263 : dr_T (Jvm.Cond.selects "DrillRows$Script" ({ cls := "DrillRows$Script", name := "clear", desc := "()V" } : Jvm.MethodName) ({ cls := "DrillRows$Script", name := "clear", desc := "()V" } : Jvm.MethodName)) := dr_Tg (List.mem_of_getElem? (i := 298) (by decide +kernel)) (Or.inl (by decide +kernel))
theorem tw_264 : dr_T (Jvm.Cond.code ({ cls := "DrillRows$Script", name := "clear", desc := "()V" } : Jvm.MethodName) prog_3_method_2_code (2 : Nat) (Option.none : Option Jvm.ClassFile.FieldType)) := dr_Tg (List.mem_of_getElem? (i := 299) (by decide +kernel)) (Or.inl (by decide +kernel))
theorem tw_265 : dr_T (Jvm.Cond.methodLink "DrillRows$Script" (54 : Nat) ({ cls := "java/util/Arrays", name := "fill", desc := "([II)V" } : Jvm.MethodName)) := dr_Tg (List.mem_of_getElem? (i := 300) (by decide +kernel)) (Or.inl (by decide +kernel))
theorem tw_266 : dr_T (Jvm.Cond.methodLink "DrillRows$Tape" (30 : Nat) ({ cls := "DrillRows$Tape", name := "skipBlanks", desc := "()V" } : Jvm.MethodName)) := dr_Tg (List.mem_of_getElem? (i := 301) (by decide +kernel)) (Or.inl (by decide +kernel))
theorem tw_268 : dr_T (Jvm.Cond.instanceMethod ({ cls := "DrillRows$Tape", name := "skipBlanks", desc := "()V" } : Jvm.MethodName)) := dr_Tg (List.mem_of_getElem? (i := 303) (by decide +kernel)) (Or.inl (by decide +kernel))
theorem tw_269 : dr_T (Jvm.Cond.code ({ cls := "DrillRows$Tape", name := "skipBlanks", desc := "()V" } : Jvm.MethodName) prog_4_method_11_code (1 : Nat) (Option.none : Option Jvm.ClassFile.FieldType)) := dr_Tg (List.mem_of_getElem? (i := 304) (by decide +kernel)) (Or.inl (by decide +kernel))
theorem tw_270 : dr_T (Jvm.Cond.methodLink "DrillRows$Tape" (78 : Nat) ({ cls := "DrillRows$Tape", name := "nextByte", desc := "()I" } : Jvm.MethodName)) := dr_Tg (List.mem_of_getElem? (i := 305) (by decide +kernel)) (Or.inl (by decide +kernel))
theorem tw_272 : dr_T (Jvm.Cond.instanceMethod ({ cls := "DrillRows$Tape", name := "nextByte", desc := "()I" } : Jvm.MethodName)) := dr_Tg (List.mem_of_getElem? (i := 307) (by decide +kernel)) (Or.inl (by decide +kernel))
theorem tw_273 : dr_T (Jvm.Cond.code ({ cls := "DrillRows$Tape", name := "nextByte", desc := "()I" } : Jvm.MethodName) prog_4_method_12_code (1 : Nat) (Option.some Jvm.ClassFile.FieldType.int)) := dr_Tg (List.mem_of_getElem? (i := 308) (by decide +kernel)) (Or.inl (by decide +kernel))
theorem tw_274 : dr_T (Jvm.Cond.methodLink "DrillRows$Tape" (33 : Nat) ({ cls := "DrillRows$Tape", name := "parseRow", desc := "(LDrillRows$Script;)V" } : Jvm.MethodName)) := dr_Tg (List.mem_of_getElem? (i := 309) (by decide +kernel)) (Or.inl (by decide +kernel))
theorem tw_276 : dr_T (Jvm.Cond.instanceMethod ({ cls := "DrillRows$Tape", name := "parseRow", desc := "(LDrillRows$Script;)V" } : Jvm.MethodName)) := dr_Tg (List.mem_of_getElem? (i := 311) (by decide +kernel)) (Or.inl (by decide +kernel))
theorem tw_277 : dr_T (Jvm.Cond.code ({ cls := "DrillRows$Tape", name := "parseRow", desc := "(LDrillRows$Script;)V" } : Jvm.MethodName) prog_4_method_5_code (2 : Nat) (Option.none : Option Jvm.ClassFile.FieldType)) := dr_Tg (List.mem_of_getElem? (i := 312) (by decide +kernel)) (Or.inl (by decide +kernel))
theorem tw_278 : dr_T (Jvm.Cond.methodLink "DrillRows$Tape" (37 : Nat) ({ cls := "DrillRows$Tape", name := "accept", desc := "(C)Z" } : Jvm.MethodName)) := dr_Tg (List.mem_of_getElem? (i := 313) (by decide +kernel)) (Or.inl (by decide +kernel))
theorem tw_280 : dr_T (Jvm.Cond.instanceMethod ({ cls := "DrillRows$Tape", name := "accept", desc := "(C)Z" } : Jvm.MethodName)) := dr_Tg (List.mem_of_getElem? (i := 315) (by decide +kernel)) (Or.inl (by decide +kernel))
theorem tw_281 : dr_T (Jvm.Cond.code ({ cls := "DrillRows$Tape", name := "accept", desc := "(C)Z" } : Jvm.MethodName) prog_4_method_10_code (2 : Nat) (Option.some Jvm.ClassFile.FieldType.boolean)) := dr_Tg (List.mem_of_getElem? (i := 316) (by decide +kernel)) (Or.inl (by decide +kernel))
theorem tw_282 : dr_T (Jvm.Cond.methodLink "DrillRows$Tape" (41 : Nat) ({ cls := "DrillRows$Tape", name := "parseEvent", desc := "(LDrillRows$Script;)V" } : Jvm.MethodName)) := dr_Tg (List.mem_of_getElem? (i := 317) (by decide +kernel)) (Or.inl (by decide +kernel))
theorem tw_284 : dr_T (Jvm.Cond.instanceMethod ({ cls := "DrillRows$Tape", name := "parseEvent", desc := "(LDrillRows$Script;)V" } : Jvm.MethodName)) := dr_Tg (List.mem_of_getElem? (i := 319) (by decide +kernel)) (Or.inl (by decide +kernel))
theorem tw_285 : dr_T (Jvm.Cond.code ({ cls := "DrillRows$Tape", name := "parseEvent", desc := "(LDrillRows$Script;)V" } : Jvm.MethodName) prog_4_method_6_code (9 : Nat) (Option.none : Option Jvm.ClassFile.FieldType)) := dr_Tg (List.mem_of_getElem? (i := 320) (by decide +kernel)) (Or.inl (by decide +kernel))
theorem tw_286 : dr_T (Jvm.Cond.methodLink "DrillRows$Tape" (51 : Nat) ({ cls := "DrillRows$Tape", name := "parseNumber", desc := "(II)I" } : Jvm.MethodName)) := dr_Tg (List.mem_of_getElem? (i := 321) (by decide +kernel)) (Or.inl (by decide +kernel))
theorem tw_288 : dr_T (Jvm.Cond.instanceMethod ({ cls := "DrillRows$Tape", name := "parseNumber", desc := "(II)I" } : Jvm.MethodName)) := dr_Tg (List.mem_of_getElem? (i := 323) (by decide +kernel)) (Or.inl (by decide +kernel))
theorem tw_289 : dr_T (Jvm.Cond.code ({ cls := "DrillRows$Tape", name := "parseNumber", desc := "(II)I" } : Jvm.MethodName) prog_4_method_8_code (5 : Nat) (Option.some Jvm.ClassFile.FieldType.int)) := dr_Tg (List.mem_of_getElem? (i := 324) (by decide +kernel)) (Or.inl (by decide +kernel))
theorem tw_290 : dr_T (Jvm.Cond.methodLink "DrillRows$Tape" (82 : Nat) ({ cls := "DrillRows$Tape", name := "isDigit", desc := "(I)Z" } : Jvm.MethodName)) := dr_Tg (List.mem_of_getElem? (i := 325) (by decide +kernel)) (Or.inl (by decide +kernel))
theorem tw_291 : dr_T (Jvm.Cond.static ({ cls := "DrillRows$Tape", name := "isDigit", desc := "(I)Z" } : Jvm.MethodName)) := dr_Tg (List.mem_of_getElem? (i := 326) (by decide +kernel)) (Or.inl (by decide +kernel))
theorem tw_292 : dr_T (Jvm.Cond.code ({ cls := "DrillRows$Tape", name := "isDigit", desc := "(I)Z" } : Jvm.MethodName) prog_4_method_13_code (1 : Nat) (Option.some Jvm.ClassFile.FieldType.boolean)) := dr_Tg (List.mem_of_getElem? (i := 327) (by decide +kernel)) (Or.inl (by decide +kernel))
theorem tw_293 : dr_T (Jvm.Cond.methodLink "DrillRows$Tape" (47 : Nat) ({ cls := "DrillRows$Tape", name := "fail", desc := "(I)V" } : Jvm.MethodName)) := dr_Tg (List.mem_of_getElem? (i := 328) (by decide +kernel)) (Or.inl (by decide +kernel))
theorem tw_295 : dr_T (Jvm.Cond.instanceMethod ({ cls := "DrillRows$Tape", name := "fail", desc := "(I)V" } : Jvm.MethodName)) := dr_Tg (List.mem_of_getElem? (i := 330) (by decide +kernel)) (Or.inl (by decide +kernel))
theorem tw_296 : dr_T (Jvm.Cond.code ({ cls := "DrillRows$Tape", name := "fail", desc := "(I)V" } : Jvm.MethodName) prog_4_method_14_code (2 : Nat) (Option.none : Option Jvm.ClassFile.FieldType)) := dr_Tg (List.mem_of_getElem? (i := 331) (by decide +kernel)) (Or.inl (by decide +kernel))
theorem tw_297 : dr_T (Jvm.Cond.methodLink "DrillRows$Tape" (55 : Nat) ({ cls := "DrillRows$Script", name := "hasEvent", desc := "(I)Z" } : Jvm.MethodName)) := dr_Tg (List.mem_of_getElem? (i := 332) (by decide +kernel)) (Or.inl (by decide +kernel))
theorem tw_298 : dr_T (Jvm.Cond.instanceMethod ({ cls := "DrillRows$Script", name := "hasEvent", desc := "(I)Z" } : Jvm.MethodName)) := dr_Tg (List.mem_of_getElem? (i := 333) (by decide +kernel)) (Or.inl (by decide +kernel))
theorem tw_299 : dr_T (Jvm.Cond.selects "DrillRows$Script" ({ cls := "DrillRows$Script", name := "hasEvent", desc := "(I)Z" } : Jvm.MethodName) ({ cls := "DrillRows$Script", name := "hasEvent", desc := "(I)Z" } : Jvm.MethodName)) := dr_Tg (List.mem_of_getElem? (i := 334) (by decide +kernel)) (Or.inl (by decide +kernel))
theorem tw_300 : dr_T (Jvm.Cond.code ({ cls := "DrillRows$Script", name := "hasEvent", desc := "(I)Z" } : Jvm.MethodName) prog_3_method_3_code (2 : Nat) (Option.some Jvm.ClassFile.FieldType.boolean)) := dr_Tg (List.mem_of_getElem? (i := 335) (by decide +kernel)) (Or.inl (by decide +kernel))
theorem tw_301 : dr_T (Jvm.Cond.methodLink "DrillRows$Tape" (59 : Nat) ({ cls := "DrillRows$Tape", name := "expect", desc := "(C)V" } : Jvm.MethodName)) := dr_Tg (List.mem_of_getElem? (i := 336) (by decide +kernel)) (Or.inl (by decide +kernel))
theorem tw_303 : dr_T (Jvm.Cond.instanceMethod ({ cls := "DrillRows$Tape", name := "expect", desc := "(C)V" } : Jvm.MethodName)) := dr_Tg (List.mem_of_getElem? (i := 338) (by decide +kernel)) (Or.inl (by decide +kernel))
theorem tw_304 : dr_T (Jvm.Cond.code ({ cls := "DrillRows$Tape", name := "expect", desc := "(C)V" } : Jvm.MethodName) prog_4_method_9_code (2 : Nat) (Option.none : Option Jvm.ClassFile.FieldType)) := dr_Tg (List.mem_of_getElem? (i := 339) (by decide +kernel)) (Or.inl (by decide +kernel))
theorem tw_305 : dr_T (Jvm.Cond.methodLink "DrillRows$Tape" (63 : Nat) ({ cls := "DrillRows$Script", name := "addEvent", desc := "(IIII)V" } : Jvm.MethodName)) := dr_Tg (List.mem_of_getElem? (i := 340) (by decide +kernel)) (Or.inl (by decide +kernel))
theorem tw_306 : dr_T (Jvm.Cond.instanceMethod ({ cls := "DrillRows$Script", name := "addEvent", desc := "(IIII)V" } : Jvm.MethodName)) := dr_Tg (List.mem_of_getElem? (i := 341) (by decide +kernel)) (Or.inl (by decide +kernel))
theorem tw_307 : dr_T (Jvm.Cond.selects "DrillRows$Script" ({ cls := "DrillRows$Script", name := "addEvent", desc := "(IIII)V" } : Jvm.MethodName) ({ cls := "DrillRows$Script", name := "addEvent", desc := "(IIII)V" } : Jvm.MethodName)) := dr_Tg (List.mem_of_getElem? (i := 342) (by decide +kernel)) (Or.inl (by decide +kernel))
theorem tw_308 : dr_T (Jvm.Cond.code ({ cls := "DrillRows$Script", name := "addEvent", desc := "(IIII)V" } : Jvm.MethodName) prog_3_method_5_code (5 : Nat) (Option.none : Option Jvm.ClassFile.FieldType)) := dr_Tg (List.mem_of_getElem? (i := 343) (by decide +kernel)) (Or.inl (by decide +kernel))
theorem tw_309 : dr_T (Jvm.Cond.methodLink "DrillRows$Tape" (67 : Nat) ({ cls := "DrillRows$Script", name := "describeEvent", desc := "(IIZI)V" } : Jvm.MethodName)) := dr_Tg (List.mem_of_getElem? (i := 344) (by decide +kernel)) (Or.inl (by decide +kernel))
theorem tw_310 : dr_T (Jvm.Cond.instanceMethod ({ cls := "DrillRows$Script", name := "describeEvent", desc := "(IIZI)V" } : Jvm.MethodName)) := dr_Tg (List.mem_of_getElem? (i := 345) (by decide +kernel)) (Or.inl (by decide +kernel))
theorem tw_311 : dr_T (Jvm.Cond.selects "DrillRows$Script" ({ cls := "DrillRows$Script", name := "describeEvent", desc := "(IIZI)V" } : Jvm.MethodName) ({ cls := "DrillRows$Script", name := "describeEvent", desc := "(IIZI)V" } : Jvm.MethodName)) := dr_Tg (List.mem_of_getElem? (i := 346) (by decide +kernel)) (Or.inl (by decide +kernel))
theorem tw_312 : dr_T (Jvm.Cond.code ({ cls := "DrillRows$Script", name := "describeEvent", desc := "(IIZI)V" } : Jvm.MethodName) prog_3_method_6_code (5 : Nat) (Option.none : Option Jvm.ClassFile.FieldType)) := dr_Tg (List.mem_of_getElem? (i := 347) (by decide +kernel)) (Or.inl (by decide +kernel))
theorem tw_313 : dr_T (Jvm.Cond.methodLink "DrillRows$Tape" (44 : Nat) ({ cls := "DrillRows$Tape", name := "parseAim", desc := "(LDrillRows$Script;)V" } : Jvm.MethodName)) := dr_Tg (List.mem_of_getElem? (i := 348) (by decide +kernel)) (Or.inl (by decide +kernel))
theorem tw_315 : dr_T (Jvm.Cond.instanceMethod ({ cls := "DrillRows$Tape", name := "parseAim", desc := "(LDrillRows$Script;)V" } : Jvm.MethodName)) := dr_Tg (List.mem_of_getElem? (i := 350) (by decide +kernel)) (Or.inl (by decide +kernel))
theorem tw_316 : dr_T (Jvm.Cond.code ({ cls := "DrillRows$Tape", name := "parseAim", desc := "(LDrillRows$Script;)V" } : Jvm.MethodName) prog_4_method_7_code (7 : Nat) (Option.none : Option Jvm.ClassFile.FieldType)) := dr_Tg (List.mem_of_getElem? (i := 351) (by decide +kernel)) (Or.inl (by decide +kernel))
theorem tw_317 : dr_T (Jvm.Cond.methodLink "DrillRows$Tape" (71 : Nat) ({ cls := "DrillRows$Script", name := "hasAim", desc := "(I)Z" } : Jvm.MethodName)) := dr_Tg (List.mem_of_getElem? (i := 352) (by decide +kernel)) (Or.inl (by decide +kernel))
theorem tw_318 : dr_T (Jvm.Cond.instanceMethod ({ cls := "DrillRows$Script", name := "hasAim", desc := "(I)Z" } : Jvm.MethodName)) := dr_Tg (List.mem_of_getElem? (i := 353) (by decide +kernel)) (Or.inl (by decide +kernel))
theorem tw_319 : dr_T (Jvm.Cond.selects "DrillRows$Script" ({ cls := "DrillRows$Script", name := "hasAim", desc := "(I)Z" } : Jvm.MethodName) ({ cls := "DrillRows$Script", name := "hasAim", desc := "(I)Z" } : Jvm.MethodName)) := dr_Tg (List.mem_of_getElem? (i := 354) (by decide +kernel)) (Or.inl (by decide +kernel))
theorem tw_320 : dr_T (Jvm.Cond.code ({ cls := "DrillRows$Script", name := "hasAim", desc := "(I)Z" } : Jvm.MethodName) prog_3_method_4_code (2 : Nat) (Option.some Jvm.ClassFile.FieldType.boolean)) := dr_Tg (List.mem_of_getElem? (i := 355) (by decide +kernel)) (Or.inl (by decide +kernel))
theorem tw_321 : dr_T (Jvm.Cond.methodLink "DrillRows$Tape" (74 : Nat) ({ cls := "DrillRows$Script", name := "addAim", desc := "(IIIII)V" } : Jvm.MethodName)) := dr_Tg (List.mem_of_getElem? (i := 356) (by decide +kernel)) (Or.inl (by decide +kernel))
theorem tw_322 : dr_T (Jvm.Cond.instanceMethod ({ cls := "DrillRows$Script", name := "addAim", desc := "(IIIII)V" } : Jvm.MethodName)) := dr_Tg (List.mem_of_getElem? (i := 357) (by decide +kernel)) (Or.inl (by decide +kernel))
theorem tw_323 : dr_T (Jvm.Cond.selects "DrillRows$Script" ({ cls := "DrillRows$Script", name := "addAim", desc := "(IIIII)V" } : Jvm.MethodName) ({ cls := "DrillRows$Script", name := "addAim", desc := "(IIIII)V" } : Jvm.MethodName)) := dr_Tg (List.mem_of_getElem? (i := 358) (by decide +kernel)) (Or.inl (by decide +kernel))
theorem tw_324 : dr_T (Jvm.Cond.code ({ cls := "DrillRows$Script", name := "addAim", desc := "(IIIII)V" } : Jvm.MethodName) prog_3_method_7_code (6 : Nat) (Option.none : Option Jvm.ClassFile.FieldType)) := dr_Tg (List.mem_of_getElem? (i := 359) (by decide +kernel)) (Or.inl (by decide +kernel))
theorem tw_325 : dr_T (Jvm.Cond.classLink "DrillRows" (82 : Nat) "java/lang/IllegalStateException") := dr_Tg (List.mem_of_getElem? (i := 360) (by decide +kernel)) (Or.inl (by decide +kernel))
theorem tw_326 : dr_T (Jvm.Cond.instantiable "java/lang/IllegalStateException" (6 : Nat)) := dr_Tg (List.mem_of_getElem? (i := 361) (by decide +kernel)) (Or.inl (by decide +kernel))
theorem tw_327 : dr_T (Jvm.Cond.castable "java/lang/IllegalStateException" "java/lang/IllegalStateException") := dr_Tf (List.mem_of_getElem? (i := 362) (by decide +kernel)) (by decide +kernel)
theorem tw_328 : dr_T (Jvm.Cond.selects "java/lang/IllegalStateException" ({ cls := "java/lang/Throwable", name := "fillInStackTrace", desc := "(I)Ljava/lang/Throwable;" } : Jvm.MethodName) ({ cls := "java/lang/Throwable", name := "fillInStackTrace", desc := "(I)Ljava/lang/Throwable;" } : Jvm.MethodName)) := dr_Tg (List.mem_of_getElem? (i := 363) (by decide +kernel)) (Or.inl (by decide +kernel))
theorem tw_334 : dr_T (Jvm.Cond.stringRef "DrillRows" (84 : Nat) "the text is wrong") := dr_Ts (List.mem_of_getElem? (i := 369) (by decide +kernel))
theorem tw_335 : dr_T (Jvm.Cond.methodLink "DrillRows" (86 : Nat) ({ cls := "java/lang/IllegalStateException", name := "<init>", desc := "(Ljava/lang/String;)V" } : Jvm.MethodName)) := dr_Tg (List.mem_of_getElem? (i := 370) (by decide +kernel)) (Or.inl (by decide +kernel))
theorem tw_336 : dr_T (Jvm.Cond.instanceMethod ({ cls := "java/lang/IllegalStateException", name := "<init>", desc := "(Ljava/lang/String;)V" } : Jvm.MethodName)) := dr_Tg (List.mem_of_getElem? (i := 371) (by decide +kernel)) (Or.inl (by decide +kernel))
theorem tw_337 : dr_T (Jvm.Cond.code ({ cls := "java/lang/IllegalStateException", name := "<init>", desc := "(Ljava/lang/String;)V" } : Jvm.MethodName) prog_10_method_2_code (2 : Nat) (Option.none : Option Jvm.ClassFile.FieldType)) := dr_Tg (List.mem_of_getElem? (i := 372) (by decide +kernel)) (Or.inl (by decide +kernel))
theorem tw_338 : dr_T (Jvm.Cond.methodLink "java/lang/IllegalStateException" (7 : Nat) ({ cls := "java/lang/RuntimeException", name := "<init>", desc := "(Ljava/lang/String;)V" } : Jvm.MethodName)) := dr_Tg (List.mem_of_getElem? (i := 373) (by decide +kernel)) (Or.inl (by decide +kernel))
theorem tw_341 : dr_T (Jvm.Cond.methodLink "DrillRowsLaw" (104 : Nat) ({ cls := "DrillRowsLaw", name := "begin", desc := "(LDrillRows;[J)I" } : Jvm.MethodName)) := dr_Tg (List.mem_of_getElem? (i := 376) (by decide +kernel)) (Or.inl (by decide +kernel))
theorem tw_342 : dr_T (Jvm.Cond.static ({ cls := "DrillRowsLaw", name := "begin", desc := "(LDrillRows;[J)I" } : Jvm.MethodName)) := dr_Tg (List.mem_of_getElem? (i := 377) (by decide +kernel)) (Or.inl (by decide +kernel))
theorem tw_343 : dr_T (Jvm.Cond.codeWith ({ cls := "DrillRowsLaw", name := "begin", desc := "(LDrillRows;[J)I" } : Jvm.MethodName) method_5_code (3 : Nat) (Option.some Jvm.ClassFile.FieldType.int) [((0 : Nat), (8 : Nat), (11 : Nat), (21 : Nat)), ((0 : Nat), (8 : Nat), (14 : Nat), (15 : Nat))]) := dr_Tg (List.mem_of_getElem? (i := 378) (by decide +kernel)) (Or.inl (by decide +kernel))
theorem tw_344 : dr_T (Jvm.Cond.methodLink "DrillRowsLaw" (23 : Nat) ({ cls := "DrillRows", name := "begin", desc := "()I" } : Jvm.MethodName)) := dr_Tg (List.mem_of_getElem? (i := 379) (by decide +kernel)) (Or.inl (by decide +kernel))
theorem tw_345 : dr_T (Jvm.Cond.instanceMethod ({ cls := "DrillRows", name := "begin", desc := "()I" } : Jvm.MethodName)) := dr_Tg (List.mem_of_getElem? (i := 380) (by decide +kernel)) (Or.inl (by decide +kernel))
theorem tw_346 : dr_T (Jvm.Cond.selects "DrillRows" ({ cls := "DrillRows", name := "begin", desc := "()I" } : Jvm.MethodName) ({ cls := "DrillRows", name := "begin", desc := "()I" } : Jvm.MethodName)) := dr_Tg (List.mem_of_getElem? (i := 381) (by decide +kernel)) (Or.inl (by decide +kernel))
theorem tw_347 : dr_T (Jvm.Cond.code ({ cls := "DrillRows", name := "begin", desc := "()I" } : Jvm.MethodName) prog_1_method_5_code (2 : Nat) (Option.some Jvm.ClassFile.FieldType.int)) := dr_Tg (List.mem_of_getElem? (i := 382) (by decide +kernel)) (Or.inl (by decide +kernel))
theorem tw_348 : dr_T (Jvm.Cond.stringRef "DrillRows" (94 : Nat) "the script has no events") := dr_Ts (List.mem_of_getElem? (i := 383) (by decide +kernel))
theorem tw_349 : dr_T (Jvm.Cond.stringRef "DrillRows" (96 : Nat) "there are 8 drills") := dr_Ts (List.mem_of_getElem? (i := 384) (by decide +kernel))
theorem tw_350 : dr_T (Jvm.Cond.instantiable "DrillRows$Drill" (9 : Nat)) := dr_Tg (List.mem_of_getElem? (i := 385) (by decide +kernel)) (Or.inl (by decide +kernel))
theorem tw_351 : dr_T (Jvm.Cond.methodLink "DrillRows" (98 : Nat) ({ cls := "DrillRows$Drill", name := "<init>", desc := "(LDrillRows$Script;I)V" } : Jvm.MethodName)) := dr_Tg (List.mem_of_getElem? (i := 386) (by decide +kernel)) (Or.inl (by decide +kernel))
theorem tw_352 : dr_T (Jvm.Cond.instanceMethod ({ cls := "DrillRows$Drill", name := "<init>", desc := "(LDrillRows$Script;I)V" } : Jvm.MethodName)) := dr_Tg (List.mem_of_getElem? (i := 387) (by decide +kernel)) (Or.inl (by decide +kernel))
theorem tw_353 : dr_T (Jvm.Cond.code ({ cls := "DrillRows$Drill", name := "<init>", desc := "(LDrillRows$Script;I)V" } : Jvm.MethodName) prog_2_method_1_code (3 : Nat) (Option.none : Option Jvm.ClassFile.FieldType)) := dr_Tg (List.mem_of_getElem? (i := 388) (by decide +kernel)) (Or.inl (by decide +kernel))
theorem tw_354 : dr_T (Jvm.Cond.methodLink "DrillRows$Drill" (3 : Nat) ({ cls := "java/lang/Object", name := "<init>", desc := "()V" } : Jvm.MethodName)) := dr_Tg (List.mem_of_getElem? (i := 389) (by decide +kernel)) (Or.inl (by decide +kernel))
theorem tw_355 : dr_T (Jvm.Cond.methodLink "DrillRows$Drill" (42 : Nat) ({ cls := "java/util/Arrays", name := "fill", desc := "([II)V" } : Jvm.MethodName)) := dr_Tg (List.mem_of_getElem? (i := 390) (by decide +kernel)) (Or.inl (by decide +kernel))
theorem tw_356 : dr_T (Jvm.Cond.fieldLink "DrillRows$Drill" (35 : Nat) "DrillRows$Drill" "script" "LDrillRows$Script;") := dr_Tg (List.mem_of_getElem? (i := 391) (by decide +kernel)) (Or.inl (by decide +kernel))
theorem tw_357 : dr_T (Jvm.Cond.fieldLink "DrillRows" (136 : Nat) "DrillRows$Drill" "script" "LDrillRows$Script;") := dr_Tg (List.mem_of_getElem? (i := 392) (by decide +kernel)) (Or.inl (by decide +kernel))
theorem tw_358 : dr_T (Jvm.Cond.fieldLink "DrillRows$Drill" (39 : Nat) "DrillRows$Drill" "beganAt" "I") := dr_Tg (List.mem_of_getElem? (i := 393) (by decide +kernel)) (Or.inl (by decide +kernel))
theorem tw_359 : dr_T (Jvm.Cond.fieldLink "DrillRows" (207 : Nat) "DrillRows$Drill" "beganAt" "I") := dr_Tg (List.mem_of_getElem? (i := 394) (by decide +kernel)) (Or.inl (by decide +kernel))
theorem tw_360 : dr_T (Jvm.Cond.fieldLink "DrillRows$Drill" (9 : Nat) "DrillRows$Drill" "on" "Z") := dr_Tg (List.mem_of_getElem? (i := 395) (by decide +kernel)) (Or.inl (by decide +kernel))
theorem tw_361 : dr_T (Jvm.Cond.fieldLink "DrillRows" (109 : Nat) "DrillRows$Drill" "on" "Z") := dr_Tg (List.mem_of_getElem? (i := 396) (by decide +kernel)) (Or.inl (by decide +kernel))
theorem tw_362 : dr_T (Jvm.Cond.fieldLink "DrillRows$Drill" (15 : Nat) "DrillRows$Drill" "eventBegin" "[I") := dr_Tg (List.mem_of_getElem? (i := 397) (by decide +kernel)) (Or.inl (by decide +kernel))
theorem tw_363 : dr_T (Jvm.Cond.fieldLink "DrillRows$Drill" (19 : Nat) "DrillRows$Drill" "begunCount" "I") := dr_Tg (List.mem_of_getElem? (i := 398) (by decide +kernel)) (Or.inl (by decide +kernel))
theorem tw_364 : dr_T (Jvm.Cond.fieldLink "DrillRows" (216 : Nat) "DrillRows$Drill" "begunCount" "I") := dr_Tg (List.mem_of_getElem? (i := 399) (by decide +kernel)) (Or.inl (by decide +kernel))
theorem tw_365 : dr_T (Jvm.Cond.fieldLink "DrillRows$Drill" (23 : Nat) "DrillRows$Drill" "firstAct" "[I") := dr_Tg (List.mem_of_getElem? (i := 400) (by decide +kernel)) (Or.inl (by decide +kernel))
theorem tw_366 : dr_T (Jvm.Cond.fieldLink "DrillRows$Drill" (26 : Nat) "DrillRows$Drill" "actKind" "[I") := dr_Tg (List.mem_of_getElem? (i := 401) (by decide +kernel)) (Or.inl (by decide +kernel))
theorem tw_367 : dr_T (Jvm.Cond.fieldLink "DrillRows$Drill" (29 : Nat) "DrillRows$Drill" "actSecond" "[I") := dr_Tg (List.mem_of_getElem? (i := 402) (by decide +kernel)) (Or.inl (by decide +kernel))
theorem tw_368 : dr_T (Jvm.Cond.fieldLink "DrillRows$Drill" (32 : Nat) "DrillRows$Drill" "actCount" "I") := dr_Tg (List.mem_of_getElem? (i := 403) (by decide +kernel)) (Or.inl (by decide +kernel))
theorem tw_369 : dr_T (Jvm.Cond.fieldLink "DrillRows" (210 : Nat) "DrillRows$Drill" "actCount" "I") := dr_Tg (List.mem_of_getElem? (i := 404) (by decide +kernel)) (Or.inl (by decide +kernel))
theorem tw_389 : dr_T (Jvm.Cond.methodLink "DrillRows" (101 : Nat) ({ cls := "DrillRows$Drill", name := "beginDueEvents", desc := "(I)I" } : Jvm.MethodName)) := dr_Tg (List.mem_of_getElem? (i := 424) (by decide +kernel)) (Or.inl (by decide +kernel))
theorem tw_390 : dr_T (Jvm.Cond.instanceMethod ({ cls := "DrillRows$Drill", name := "beginDueEvents", desc := "(I)I" } : Jvm.MethodName)) := dr_Tg (List.mem_of_getElem? (i := 425) (by decide +kernel)) (Or.inl (by decide +kernel))
theorem tw_391 : dr_T (Jvm.Cond.selects "DrillRows$Drill" ({ cls := "DrillRows$Drill", name := "beginDueEvents", desc := "(I)I" } : Jvm.MethodName) ({ cls := "DrillRows$Drill", name := "beginDueEvents", desc := "(I)I" } : Jvm.MethodName)) := dr_Tg (List.mem_of_getElem? (i := 426) (by decide +kernel)) (Or.inl (by decide +kernel))
theorem tw_392 : dr_T (Jvm.Cond.code ({ cls := "DrillRows$Drill", name := "beginDueEvents", desc := "(I)I" } : Jvm.MethodName) prog_2_method_6_code (6 : Nat) (Option.some Jvm.ClassFile.FieldType.int)) := dr_Tg (List.mem_of_getElem? (i := 427) (by decide +kernel)) (Or.inl (by decide +kernel))
theorem tw_393 : dr_T (Jvm.Cond.methodLink "DrillRows$Drill" (48 : Nat) ({ cls := "DrillRows$Drill", name := "drillSecond", desc := "(I)I" } : Jvm.MethodName)) := dr_Tg (List.mem_of_getElem? (i := 428) (by decide +kernel)) (Or.inl (by decide +kernel))
theorem tw_394 : dr_T (Jvm.Cond.instanceMethod ({ cls := "DrillRows$Drill", name := "drillSecond", desc := "(I)I" } : Jvm.MethodName)) := dr_Tg (List.mem_of_getElem? (i := 429) (by decide +kernel)) (Or.inl (by decide +kernel))
theorem tw_395 : dr_T (Jvm.Cond.selects "DrillRows$Drill" ({ cls := "DrillRows$Drill", name := "drillSecond", desc := "(I)I" } : Jvm.MethodName) ({ cls := "DrillRows$Drill", name := "drillSecond", desc := "(I)I" } : Jvm.MethodName)) := dr_Tg (List.mem_of_getElem? (i := 430) (by decide +kernel)) (Or.inl (by decide +kernel))
theorem tw_396 : dr_T (Jvm.Cond.code ({ cls := "DrillRows$Drill", name := "drillSecond", desc := "(I)I" } : Jvm.MethodName) prog_2_method_2_code (2 : Nat) (Option.some Jvm.ClassFile.FieldType.int)) := dr_Tg (List.mem_of_getElem? (i := 431) (by decide +kernel)) (Or.inl (by decide +kernel))
theorem tw_397 : dr_T (Jvm.Cond.methodLink "DrillRows$Drill" (52 : Nat) ({ cls := "DrillRows$Script", name := "hasEvent", desc := "(I)Z" } : Jvm.MethodName)) := dr_Tg (List.mem_of_getElem? (i := 432) (by decide +kernel)) (Or.inl (by decide +kernel))
theorem tw_398 : dr_T (Jvm.Cond.methodLink "DrillRows$Drill" (58 : Nat) ({ cls := "DrillRows$Drill", name := "dueSecond", desc := "(I)I" } : Jvm.MethodName)) := dr_Tg (List.mem_of_getElem? (i := 433) (by decide +kernel)) (Or.inl (by decide +kernel))
theorem tw_400 : dr_T (Jvm.Cond.instanceMethod ({ cls := "DrillRows$Drill", name := "dueSecond", desc := "(I)I" } : Jvm.MethodName)) := dr_Tg (List.mem_of_getElem? (i := 435) (by decide +kernel)) (Or.inl (by decide +kernel))
theorem tw_401 : dr_T (Jvm.Cond.code ({ cls := "DrillRows$Drill", name := "dueSecond", desc := "(I)I" } : Jvm.MethodName) prog_2_method_7_code (4 : Nat) (Option.some Jvm.ClassFile.FieldType.int)) := dr_Tg (List.mem_of_getElem? (i := 436) (by decide +kernel)) (Or.inl (by decide +kernel))
theorem tw_402 : dr_T (Jvm.Cond.methodLink "DrillRows$Drill" (67 : Nat) ({ cls := "DrillRows$Drill", name := "firstSecondOf", desc := "(I)I" } : Jvm.MethodName)) := dr_Tg (List.mem_of_getElem? (i := 437) (by decide +kernel)) (Or.inl (by decide +kernel))
theorem tw_404 : dr_T (Jvm.Cond.instanceMethod ({ cls := "DrillRows$Drill", name := "firstSecondOf", desc := "(I)I" } : Jvm.MethodName)) := dr_Tg (List.mem_of_getElem? (i := 439) (by decide +kernel)) (Or.inl (by decide +kernel))
theorem tw_405 : dr_T (Jvm.Cond.code ({ cls := "DrillRows$Drill", name := "firstSecondOf", desc := "(I)I" } : Jvm.MethodName) prog_2_method_8_code (2 : Nat) (Option.some Jvm.ClassFile.FieldType.int)) := dr_Tg (List.mem_of_getElem? (i := 440) (by decide +kernel)) (Or.inl (by decide +kernel))
theorem tw_406 : dr_T (Jvm.Cond.methodLink "DrillRows$Drill" (73 : Nat) ({ cls := "java/lang/Math", name := "min", desc := "(II)I" } : Jvm.MethodName)) := dr_Tg (List.mem_of_getElem? (i := 441) (by decide +kernel)) (Or.inl (by decide +kernel))
theorem tw_407 : dr_T (Jvm.Cond.static ({ cls := "java/lang/Math", name := "min", desc := "(II)I" } : Jvm.MethodName)) := dr_Tg (List.mem_of_getElem? (i := 442) (by decide +kernel)) (Or.inl (by decide +kernel))
theorem tw_408 : dr_T (Jvm.Cond.code ({ cls := "java/lang/Math", name := "min", desc := "(II)I" } : Jvm.MethodName) prog_12_method_69_code (2 : Nat) (Option.some Jvm.ClassFile.FieldType.int)) := dr_Tg (List.mem_of_getElem? (i := 443) (by decide +kernel)) (Or.inl (by decide +kernel))
theorem tw_409 : dr_T (Jvm.Cond.methodLink "DrillRowsLaw" (107 : Nat) ({ cls := "DrillRowsLaw", name := "stop", desc := "(LDrillRows;I)I" } : Jvm.MethodName)) := dr_Tg (List.mem_of_getElem? (i := 444) (by decide +kernel)) (Or.inl (by decide +kernel))
theorem tw_410 : dr_T (Jvm.Cond.static ({ cls := "DrillRowsLaw", name := "stop", desc := "(LDrillRows;I)I" } : Jvm.MethodName)) := dr_Tg (List.mem_of_getElem? (i := 445) (by decide +kernel)) (Or.inl (by decide +kernel))
theorem tw_411 : dr_T (Jvm.Cond.codeWith ({ cls := "DrillRowsLaw", name := "stop", desc := "(LDrillRows;I)I" } : Jvm.MethodName) method_6_code (3 : Nat) (Option.some Jvm.ClassFile.FieldType.int) [((0 : Nat), (5 : Nat), (8 : Nat), (30 : Nat)), ((0 : Nat), (5 : Nat), (11 : Nat), (21 : Nat))]) := dr_Tg (List.mem_of_getElem? (i := 446) (by decide +kernel)) (Or.inl (by decide +kernel))
theorem tw_412 : dr_T (Jvm.Cond.classLink "DrillRowsLaw" (30 : Nat) "java/lang/IllegalArgumentException") := dr_Tg (List.mem_of_getElem? (i := 447) (by decide +kernel)) (Or.inl (by decide +kernel))
theorem tw_413 : dr_T (Jvm.Cond.methodLink "DrillRowsLaw" (26 : Nat) ({ cls := "DrillRows", name := "stop", desc := "(I)V" } : Jvm.MethodName)) := dr_Tg (List.mem_of_getElem? (i := 448) (by decide +kernel)) (Or.inl (by decide +kernel))
theorem tw_414 : dr_T (Jvm.Cond.instanceMethod ({ cls := "DrillRows", name := "stop", desc := "(I)V" } : Jvm.MethodName)) := dr_Tg (List.mem_of_getElem? (i := 449) (by decide +kernel)) (Or.inl (by decide +kernel))
theorem tw_415 : dr_T (Jvm.Cond.selects "DrillRows" ({ cls := "DrillRows", name := "stop", desc := "(I)V" } : Jvm.MethodName) ({ cls := "DrillRows", name := "stop", desc := "(I)V" } : Jvm.MethodName)) := dr_Tg (List.mem_of_getElem? (i := 450) (by decide +kernel)) (Or.inl (by decide +kernel))
theorem tw_416 : dr_T (Jvm.Cond.code ({ cls := "DrillRows", name := "stop", desc := "(I)V" } : Jvm.MethodName) prog_1_method_6_code (4 : Nat) (Option.none : Option Jvm.ClassFile.FieldType)) := dr_Tg (List.mem_of_getElem? (i := 451) (by decide +kernel)) (Or.inl (by decide +kernel))
theorem tw_417 : dr_T (Jvm.Cond.methodLink "DrillRows" (105 : Nat) ({ cls := "DrillRows", name := "knownDrill", desc := "(I)LDrillRows$Drill;" } : Jvm.MethodName)) := dr_Tg (List.mem_of_getElem? (i := 452) (by decide +kernel)) (Or.inl (by decide +kernel))
theorem tw_419 : dr_T (Jvm.Cond.instanceMethod ({ cls := "DrillRows", name := "knownDrill", desc := "(I)LDrillRows$Drill;" } : Jvm.MethodName)) := dr_Tg (List.mem_of_getElem? (i := 454) (by decide +kernel)) (Or.inl (by decide +kernel))
theorem tw_420 : dr_T (Jvm.Cond.code ({ cls := "DrillRows", name := "knownDrill", desc := "(I)LDrillRows$Drill;" } : Jvm.MethodName) prog_1_method_21_code (3 : Nat) (Option.some (Jvm.ClassFile.FieldType.object "DrillRows$Drill"))) := dr_Tg (List.mem_of_getElem? (i := 455) (by decide +kernel)) (Or.inl (by decide +kernel))
theorem tw_421 : dr_T (Jvm.Cond.classLink "DrillRows" (114 : Nat) "java/lang/IllegalArgumentException") := dr_Tg (List.mem_of_getElem? (i := 456) (by decide +kernel)) (Or.inl (by decide +kernel))
theorem tw_422 : dr_T (Jvm.Cond.instantiable "java/lang/IllegalArgumentException" (6 : Nat)) := dr_Tg (List.mem_of_getElem? (i := 457) (by decide +kernel)) (Or.inl (by decide +kernel))
theorem tw_423 : dr_T (Jvm.Cond.castable "java/lang/IllegalArgumentException" "java/lang/IllegalArgumentException") := dr_Tf (List.mem_of_getElem? (i := 458) (by decide +kernel)) (by decide +kernel)
theorem tw_424 : dr_T (Jvm.Cond.selects "java/lang/IllegalArgumentException" ({ cls := "java/lang/Throwable", name := "fillInStackTrace", desc := "(I)Ljava/lang/Throwable;" } : Jvm.MethodName) ({ cls := "java/lang/Throwable", name := "fillInStackTrace", desc := "(I)Ljava/lang/Throwable;" } : Jvm.MethodName)) := dr_Tg (List.mem_of_getElem? (i := 459) (by decide +kernel)) (Or.inl (by decide +kernel))
theorem tw_430 : dr_T (Jvm.Cond.stringRef "DrillRows" (219 : Nat) "no such drill") := dr_Ts (List.mem_of_getElem? (i := 465) (by decide +kernel))
theorem tw_431 : dr_T (Jvm.Cond.methodLink "DrillRows" (118 : Nat) ({ cls := "java/lang/IllegalArgumentException", name := "<init>", desc := "(Ljava/lang/String;)V" } : Jvm.MethodName)) := dr_Tg (List.mem_of_getElem? (i := 466) (by decide +kernel)) (Or.inl (by decide +kernel))
theorem tw_432 : dr_T (Jvm.Cond.instanceMethod ({ cls := "java/lang/IllegalArgumentException", name := "<init>", desc := "(Ljava/lang/String;)V" } : Jvm.MethodName)) := dr_Tg (List.mem_of_getElem? (i := 467) (by decide +kernel)) (Or.inl (by decide +kernel))
theorem tw_433 : dr_T (Jvm.Cond.code ({ cls := "java/lang/IllegalArgumentException", name := "<init>", desc := "(Ljava/lang/String;)V" } : Jvm.MethodName) prog_9_method_2_code (2 : Nat) (Option.none : Option Jvm.ClassFile.FieldType)) := dr_Tg (List.mem_of_getElem? (i := 468) (by decide +kernel)) (Or.inl (by decide +kernel))
theorem tw_434 : dr_T (Jvm.Cond.methodLink "java/lang/IllegalArgumentException" (7 : Nat) ({ cls := "java/lang/RuntimeException", name := "<init>", desc := "(Ljava/lang/String;)V" } : Jvm.MethodName)) := dr_Tg (List.mem_of_getElem? (i := 469) (by decide +kernel)) (Or.inl (by decide +kernel))
theorem tw_437 : dr_T (Jvm.Cond.stringRef "DrillRows" (112 : Nat) "the drill is stopped") := dr_Ts (List.mem_of_getElem? (i := 472) (by decide +kernel))
theorem tw_438 : dr_T (Jvm.Cond.methodLink "DrillRowsLaw" (111 : Nat) ({ cls := "DrillRowsLaw", name := "unit", desc := "(LDrillRows;II)I" } : Jvm.MethodName)) := dr_Tg (List.mem_of_getElem? (i := 473) (by decide +kernel)) (Or.inl (by decide +kernel))
theorem tw_439 : dr_T (Jvm.Cond.static ({ cls := "DrillRowsLaw", name := "unit", desc := "(LDrillRows;II)I" } : Jvm.MethodName)) := dr_Tg (List.mem_of_getElem? (i := 474) (by decide +kernel)) (Or.inl (by decide +kernel))
theorem tw_440 : dr_T (Jvm.Cond.codeWith ({ cls := "DrillRowsLaw", name := "unit", desc := "(LDrillRows;II)I" } : Jvm.MethodName) method_7_code (4 : Nat) (Option.some Jvm.ClassFile.FieldType.int) [((0 : Nat), (6 : Nat), (9 : Nat), (30 : Nat)), ((0 : Nat), (6 : Nat), (12 : Nat), (21 : Nat))]) := dr_Tg (List.mem_of_getElem? (i := 475) (by decide +kernel)) (Or.inl (by decide +kernel))
theorem tw_441 : dr_T (Jvm.Cond.methodLink "DrillRowsLaw" (32 : Nat) ({ cls := "DrillRows", name := "unit", desc := "(II)V" } : Jvm.MethodName)) := dr_Tg (List.mem_of_getElem? (i := 476) (by decide +kernel)) (Or.inl (by decide +kernel))
theorem tw_442 : dr_T (Jvm.Cond.instanceMethod ({ cls := "DrillRows", name := "unit", desc := "(II)V" } : Jvm.MethodName)) := dr_Tg (List.mem_of_getElem? (i := 477) (by decide +kernel)) (Or.inl (by decide +kernel))
theorem tw_443 : dr_T (Jvm.Cond.selects "DrillRows" ({ cls := "DrillRows", name := "unit", desc := "(II)V" } : Jvm.MethodName) ({ cls := "DrillRows", name := "unit", desc := "(II)V" } : Jvm.MethodName)) := dr_Tg (List.mem_of_getElem? (i := 478) (by decide +kernel)) (Or.inl (by decide +kernel))
theorem tw_444 : dr_T (Jvm.Cond.code ({ cls := "DrillRows", name := "unit", desc := "(II)V" } : Jvm.MethodName) prog_1_method_7_code (4 : Nat) (Option.none : Option Jvm.ClassFile.FieldType)) := dr_Tg (List.mem_of_getElem? (i := 479) (by decide +kernel)) (Or.inl (by decide +kernel))
theorem tw_445 : dr_T (Jvm.Cond.stringRef "DrillRows" (116 : Nat) "no such unit") := dr_Ts (List.mem_of_getElem? (i := 480) (by decide +kernel))
theorem tw_446 : dr_T (Jvm.Cond.stringRef "DrillRows" (119 : Nat) "the drill is stopped, or the unit drills") := dr_Ts (List.mem_of_getElem? (i := 481) (by decide +kernel))
theorem tw_447 : dr_T (Jvm.Cond.methodLink "DrillRowsLaw" (115 : Nat) ({ cls := "DrillRowsLaw", name := "real", desc := "(LDrillRows;I[J)I" } : Jvm.MethodName)) := dr_Tg (List.mem_of_getElem? (i := 482) (by decide +kernel)) (Or.inl (by decide +kernel))
theorem tw_448 : dr_T (Jvm.Cond.static ({ cls := "DrillRowsLaw", name := "real", desc := "(LDrillRows;I[J)I" } : Jvm.MethodName)) := dr_Tg (List.mem_of_getElem? (i := 483) (by decide +kernel)) (Or.inl (by decide +kernel))
theorem tw_449 : dr_T (Jvm.Cond.codeWith ({ cls := "DrillRowsLaw", name := "real", desc := "(LDrillRows;I[J)I" } : Jvm.MethodName) method_8_code (4 : Nat) (Option.some Jvm.ClassFile.FieldType.int) [((0 : Nat), (9 : Nat), (12 : Nat), (30 : Nat))]) := dr_Tg (List.mem_of_getElem? (i := 484) (by decide +kernel)) (Or.inl (by decide +kernel))
theorem tw_450 : dr_T (Jvm.Cond.methodLink "DrillRowsLaw" (36 : Nat) ({ cls := "DrillRows", name := "real", desc := "(I)I" } : Jvm.MethodName)) := dr_Tg (List.mem_of_getElem? (i := 485) (by decide +kernel)) (Or.inl (by decide +kernel))
theorem tw_451 : dr_T (Jvm.Cond.instanceMethod ({ cls := "DrillRows", name := "real", desc := "(I)I" } : Jvm.MethodName)) := dr_Tg (List.mem_of_getElem? (i := 486) (by decide +kernel)) (Or.inl (by decide +kernel))
theorem tw_452 : dr_T (Jvm.Cond.selects "DrillRows" ({ cls := "DrillRows", name := "real", desc := "(I)I" } : Jvm.MethodName) ({ cls := "DrillRows", name := "real", desc := "(I)I" } : Jvm.MethodName)) := dr_Tg (List.mem_of_getElem? (i := 487) (by decide +kernel)) (Or.inl (by decide +kernel))
theorem tw_453 : dr_T (Jvm.Cond.code ({ cls := "DrillRows", name := "real", desc := "(I)I" } : Jvm.MethodName) prog_1_method_8_code (3 : Nat) (Option.some Jvm.ClassFile.FieldType.int)) := dr_Tg (List.mem_of_getElem? (i := 488) (by decide +kernel)) (Or.inl (by decide +kernel))
theorem tw_454 : dr_T (Jvm.Cond.methodLink "DrillRowsLaw" (119 : Nat) ({ cls := "DrillRowsLaw", name := "act", desc := "(LDrillRows;II[J)I" } : Jvm.MethodName)) := dr_Tg (List.mem_of_getElem? (i := 489) (by decide +kernel)) (Or.inl (by decide +kernel))
theorem tw_455 : dr_T (Jvm.Cond.static ({ cls := "DrillRowsLaw", name := "act", desc := "(LDrillRows;II[J)I" } : Jvm.MethodName)) := dr_Tg (List.mem_of_getElem? (i := 490) (by decide +kernel)) (Or.inl (by decide +kernel))
theorem tw_456 : dr_T (Jvm.Cond.codeWith ({ cls := "DrillRowsLaw", name := "act", desc := "(LDrillRows;II[J)I" } : Jvm.MethodName) method_9_code (5 : Nat) (Option.some Jvm.ClassFile.FieldType.int) [((0 : Nat), (10 : Nat), (13 : Nat), (30 : Nat)), ((0 : Nat), (10 : Nat), (17 : Nat), (21 : Nat)), ((0 : Nat), (10 : Nat), (21 : Nat), (15 : Nat))]) := dr_Tg (List.mem_of_getElem? (i := 491) (by decide +kernel)) (Or.inl (by decide +kernel))
theorem tw_457 : dr_T (Jvm.Cond.methodLink "DrillRowsLaw" (40 : Nat) ({ cls := "DrillRows", name := "act", desc := "(II)I" } : Jvm.MethodName)) := dr_Tg (List.mem_of_getElem? (i := 492) (by decide +kernel)) (Or.inl (by decide +kernel))
theorem tw_458 : dr_T (Jvm.Cond.instanceMethod ({ cls := "DrillRows", name := "act", desc := "(II)I" } : Jvm.MethodName)) := dr_Tg (List.mem_of_getElem? (i := 493) (by decide +kernel)) (Or.inl (by decide +kernel))
theorem tw_459 : dr_T (Jvm.Cond.selects "DrillRows" ({ cls := "DrillRows", name := "act", desc := "(II)I" } : Jvm.MethodName) ({ cls := "DrillRows", name := "act", desc := "(II)I" } : Jvm.MethodName)) := dr_Tg (List.mem_of_getElem? (i := 494) (by decide +kernel)) (Or.inl (by decide +kernel))
theorem tw_460 : dr_T (Jvm.Cond.code ({ cls := "DrillRows", name := "act", desc := "(II)I" } : Jvm.MethodName) prog_1_method_9_code (4 : Nat) (Option.some Jvm.ClassFile.FieldType.int)) := dr_Tg (List.mem_of_getElem? (i := 495) (by decide +kernel)) (Or.inl (by decide +kernel))
theorem tw_461 : dr_T (Jvm.Cond.stringRef "DrillRows" (121 : Nat) "no such act") := dr_Ts (List.mem_of_getElem? (i := 496) (by decide +kernel))
theorem tw_462 : dr_T (Jvm.Cond.methodLink "DrillRows" (123 : Nat) ({ cls := "DrillRows$Drill", name := "hasRoomForAct", desc := "()Z" } : Jvm.MethodName)) := dr_Tg (List.mem_of_getElem? (i := 497) (by decide +kernel)) (Or.inl (by decide +kernel))
theorem tw_463 : dr_T (Jvm.Cond.instanceMethod ({ cls := "DrillRows$Drill", name := "hasRoomForAct", desc := "()Z" } : Jvm.MethodName)) := dr_Tg (List.mem_of_getElem? (i := 498) (by decide +kernel)) (Or.inl (by decide +kernel))
theorem tw_464 : dr_T (Jvm.Cond.selects "DrillRows$Drill" ({ cls := "DrillRows$Drill", name := "hasRoomForAct", desc := "()Z" } : Jvm.MethodName) ({ cls := "DrillRows$Drill", name := "hasRoomForAct", desc := "()Z" } : Jvm.MethodName)) := dr_Tg (List.mem_of_getElem? (i := 499) (by decide +kernel)) (Or.inl (by decide +kernel))
theorem tw_465 : dr_T (Jvm.Cond.code ({ cls := "DrillRows$Drill", name := "hasRoomForAct", desc := "()Z" } : Jvm.MethodName) prog_2_method_4_code (1 : Nat) (Option.some Jvm.ClassFile.FieldType.boolean)) := dr_Tg (List.mem_of_getElem? (i := 500) (by decide +kernel)) (Or.inl (by decide +kernel))
theorem tw_466 : dr_T (Jvm.Cond.stringRef "DrillRows" (127 : Nat) "the drill had 60 acts") := dr_Ts (List.mem_of_getElem? (i := 501) (by decide +kernel))
theorem tw_467 : dr_T (Jvm.Cond.methodLink "DrillRows" (129 : Nat) ({ cls := "DrillRows$Drill", name := "noteAct", desc := "(II)V" } : Jvm.MethodName)) := dr_Tg (List.mem_of_getElem? (i := 502) (by decide +kernel)) (Or.inl (by decide +kernel))
theorem tw_468 : dr_T (Jvm.Cond.instanceMethod ({ cls := "DrillRows$Drill", name := "noteAct", desc := "(II)V" } : Jvm.MethodName)) := dr_Tg (List.mem_of_getElem? (i := 503) (by decide +kernel)) (Or.inl (by decide +kernel))
theorem tw_469 : dr_T (Jvm.Cond.selects "DrillRows$Drill" ({ cls := "DrillRows$Drill", name := "noteAct", desc := "(II)V" } : Jvm.MethodName) ({ cls := "DrillRows$Drill", name := "noteAct", desc := "(II)V" } : Jvm.MethodName)) := dr_Tg (List.mem_of_getElem? (i := 504) (by decide +kernel)) (Or.inl (by decide +kernel))
theorem tw_470 : dr_T (Jvm.Cond.code ({ cls := "DrillRows$Drill", name := "noteAct", desc := "(II)V" } : Jvm.MethodName) prog_2_method_5_code (4 : Nat) (Option.none : Option Jvm.ClassFile.FieldType)) := dr_Tg (List.mem_of_getElem? (i := 505) (by decide +kernel)) (Or.inl (by decide +kernel))
theorem tw_471 : dr_T (Jvm.Cond.methodLink "DrillRowsLaw" (123 : Nat) ({ cls := "DrillRowsLaw", name := "tick", desc := "(LDrillRows;I[J)I" } : Jvm.MethodName)) := dr_Tg (List.mem_of_getElem? (i := 506) (by decide +kernel)) (Or.inl (by decide +kernel))
theorem tw_472 : dr_T (Jvm.Cond.static ({ cls := "DrillRowsLaw", name := "tick", desc := "(LDrillRows;I[J)I" } : Jvm.MethodName)) := dr_Tg (List.mem_of_getElem? (i := 507) (by decide +kernel)) (Or.inl (by decide +kernel))
theorem tw_473 : dr_T (Jvm.Cond.codeWith ({ cls := "DrillRowsLaw", name := "tick", desc := "(LDrillRows;I[J)I" } : Jvm.MethodName) method_10_code (4 : Nat) (Option.some Jvm.ClassFile.FieldType.int) [((0 : Nat), (9 : Nat), (12 : Nat), (13 : Nat))]) := dr_Tg (List.mem_of_getElem? (i := 508) (by decide +kernel)) (Or.inl (by decide +kernel))
theorem tw_474 : dr_T (Jvm.Cond.methodLink "DrillRowsLaw" (44 : Nat) ({ cls := "DrillRows", name := "tick", desc := "(I)I" } : Jvm.MethodName)) := dr_Tg (List.mem_of_getElem? (i := 509) (by decide +kernel)) (Or.inl (by decide +kernel))
theorem tw_475 : dr_T (Jvm.Cond.instanceMethod ({ cls := "DrillRows", name := "tick", desc := "(I)I" } : Jvm.MethodName)) := dr_Tg (List.mem_of_getElem? (i := 510) (by decide +kernel)) (Or.inl (by decide +kernel))
theorem tw_476 : dr_T (Jvm.Cond.selects "DrillRows" ({ cls := "DrillRows", name := "tick", desc := "(I)I" } : Jvm.MethodName) ({ cls := "DrillRows", name := "tick", desc := "(I)I" } : Jvm.MethodName)) := dr_Tg (List.mem_of_getElem? (i := 511) (by decide +kernel)) (Or.inl (by decide +kernel))
theorem tw_477 : dr_T (Jvm.Cond.code ({ cls := "DrillRows", name := "tick", desc := "(I)I" } : Jvm.MethodName) prog_1_method_10_code (7 : Nat) (Option.some Jvm.ClassFile.FieldType.int)) := dr_Tg (List.mem_of_getElem? (i := 512) (by decide +kernel)) (Or.inl (by decide +kernel))
theorem tw_478 : dr_T (Jvm.Cond.constant "DrillRows" (133 : Nat) (99999 : Int32)) := dr_Tg (List.mem_of_getElem? (i := 513) (by decide +kernel)) (Or.inl (by decide +kernel))
theorem tw_479 : dr_T (Jvm.Cond.stringRef "DrillRows" (134 : Nat) "not 1 to 5,000 seconds, or beyond the last second") := dr_Ts (List.mem_of_getElem? (i := 514) (by decide +kernel))
theorem tw_480 : dr_T (Jvm.Cond.methodLink "DrillRowsLaw" (126 : Nat) ({ cls := "DrillRowsLaw", name := "event", desc := "(LDrillRows;III[J)I" } : Jvm.MethodName)) := dr_Tg (List.mem_of_getElem? (i := 515) (by decide +kernel)) (Or.inl (by decide +kernel))
theorem tw_481 : dr_T (Jvm.Cond.static ({ cls := "DrillRowsLaw", name := "event", desc := "(LDrillRows;III[J)I" } : Jvm.MethodName)) := dr_Tg (List.mem_of_getElem? (i := 516) (by decide +kernel)) (Or.inl (by decide +kernel))
theorem tw_482 : dr_T (Jvm.Cond.codeWith ({ cls := "DrillRowsLaw", name := "event", desc := "(LDrillRows;III[J)I" } : Jvm.MethodName) method_11_code (6 : Nat) (Option.some Jvm.ClassFile.FieldType.int) [((0 : Nat), (12 : Nat), (15 : Nat), (30 : Nat))]) := dr_Tg (List.mem_of_getElem? (i := 517) (by decide +kernel)) (Or.inl (by decide +kernel))
theorem tw_483 : dr_T (Jvm.Cond.methodLink "DrillRowsLaw" (47 : Nat) ({ cls := "DrillRows", name := "event", desc := "(III)I" } : Jvm.MethodName)) := dr_Tg (List.mem_of_getElem? (i := 518) (by decide +kernel)) (Or.inl (by decide +kernel))
theorem tw_484 : dr_T (Jvm.Cond.instanceMethod ({ cls := "DrillRows", name := "event", desc := "(III)I" } : Jvm.MethodName)) := dr_Tg (List.mem_of_getElem? (i := 519) (by decide +kernel)) (Or.inl (by decide +kernel))
theorem tw_485 : dr_T (Jvm.Cond.selects "DrillRows" ({ cls := "DrillRows", name := "event", desc := "(III)I" } : Jvm.MethodName) ({ cls := "DrillRows", name := "event", desc := "(III)I" } : Jvm.MethodName)) := dr_Tg (List.mem_of_getElem? (i := 520) (by decide +kernel)) (Or.inl (by decide +kernel))
theorem tw_486 : dr_T (Jvm.Cond.code ({ cls := "DrillRows", name := "event", desc := "(III)I" } : Jvm.MethodName) prog_1_method_11_code (5 : Nat) (Option.some Jvm.ClassFile.FieldType.int)) := dr_Tg (List.mem_of_getElem? (i := 521) (by decide +kernel)) (Or.inl (by decide +kernel))
theorem tw_487 : dr_T (Jvm.Cond.methodLink "DrillRows" (137 : Nat) ({ cls := "DrillRows$Script", name := "hasEvent", desc := "(I)Z" } : Jvm.MethodName)) := dr_Tg (List.mem_of_getElem? (i := 522) (by decide +kernel)) (Or.inl (by decide +kernel))
theorem tw_488 : dr_T (Jvm.Cond.stringRef "DrillRows" (140 : Nat) "no such event") := dr_Ts (List.mem_of_getElem? (i := 523) (by decide +kernel))
theorem tw_489 : dr_T (Jvm.Cond.methodLink "DrillRows" (142 : Nat) ({ cls := "DrillRows$Drill", name := "beginOf", desc := "(I)I" } : Jvm.MethodName)) := dr_Tg (List.mem_of_getElem? (i := 524) (by decide +kernel)) (Or.inl (by decide +kernel))
theorem tw_490 : dr_T (Jvm.Cond.instanceMethod ({ cls := "DrillRows$Drill", name := "beginOf", desc := "(I)I" } : Jvm.MethodName)) := dr_Tg (List.mem_of_getElem? (i := 525) (by decide +kernel)) (Or.inl (by decide +kernel))
theorem tw_491 : dr_T (Jvm.Cond.selects "DrillRows$Drill" ({ cls := "DrillRows$Drill", name := "beginOf", desc := "(I)I" } : Jvm.MethodName) ({ cls := "DrillRows$Drill", name := "beginOf", desc := "(I)I" } : Jvm.MethodName)) := dr_Tg (List.mem_of_getElem? (i := 526) (by decide +kernel)) (Or.inl (by decide +kernel))
theorem tw_492 : dr_T (Jvm.Cond.code ({ cls := "DrillRows$Drill", name := "beginOf", desc := "(I)I" } : Jvm.MethodName) prog_2_method_3_code (2 : Nat) (Option.some Jvm.ClassFile.FieldType.int)) := dr_Tg (List.mem_of_getElem? (i := 527) (by decide +kernel)) (Or.inl (by decide +kernel))
theorem tw_493 : dr_T (Jvm.Cond.stringRef "DrillRows" (155 : Nat) "no such what") := dr_Ts (List.mem_of_getElem? (i := 528) (by decide +kernel))
theorem tw_494 : dr_T (Jvm.Cond.methodLink "DrillRowsLaw" (130 : Nat) ({ cls := "DrillRowsLaw", name := "seen", desc := "(LDrillRows;III[J)I" } : Jvm.MethodName)) := dr_Tg (List.mem_of_getElem? (i := 529) (by decide +kernel)) (Or.inl (by decide +kernel))
theorem tw_495 : dr_T (Jvm.Cond.static ({ cls := "DrillRowsLaw", name := "seen", desc := "(LDrillRows;III[J)I" } : Jvm.MethodName)) := dr_Tg (List.mem_of_getElem? (i := 530) (by decide +kernel)) (Or.inl (by decide +kernel))
theorem tw_496 : dr_T (Jvm.Cond.codeWith ({ cls := "DrillRowsLaw", name := "seen", desc := "(LDrillRows;III[J)I" } : Jvm.MethodName) method_12_code (6 : Nat) (Option.some Jvm.ClassFile.FieldType.int) [((0 : Nat), (12 : Nat), (15 : Nat), (30 : Nat)), ((0 : Nat), (12 : Nat), (19 : Nat), (13 : Nat))]) := dr_Tg (List.mem_of_getElem? (i := 531) (by decide +kernel)) (Or.inl (by decide +kernel))
theorem tw_497 : dr_T (Jvm.Cond.methodLink "DrillRowsLaw" (51 : Nat) ({ cls := "DrillRows", name := "seen", desc := "(III)I" } : Jvm.MethodName)) := dr_Tg (List.mem_of_getElem? (i := 532) (by decide +kernel)) (Or.inl (by decide +kernel))
theorem tw_498 : dr_T (Jvm.Cond.instanceMethod ({ cls := "DrillRows", name := "seen", desc := "(III)I" } : Jvm.MethodName)) := dr_Tg (List.mem_of_getElem? (i := 533) (by decide +kernel)) (Or.inl (by decide +kernel))
theorem tw_499 : dr_T (Jvm.Cond.selects "DrillRows" ({ cls := "DrillRows", name := "seen", desc := "(III)I" } : Jvm.MethodName) ({ cls := "DrillRows", name := "seen", desc := "(III)I" } : Jvm.MethodName)) := dr_Tg (List.mem_of_getElem? (i := 534) (by decide +kernel)) (Or.inl (by decide +kernel))
theorem tw_500 : dr_T (Jvm.Cond.code ({ cls := "DrillRows", name := "seen", desc := "(III)I" } : Jvm.MethodName) prog_1_method_12_code (5 : Nat) (Option.some Jvm.ClassFile.FieldType.int)) := dr_Tg (List.mem_of_getElem? (i := 535) (by decide +kernel)) (Or.inl (by decide +kernel))
theorem tw_501 : dr_T (Jvm.Cond.stringRef "DrillRows" (157 : Nat) "no such part") := dr_Ts (List.mem_of_getElem? (i := 536) (by decide +kernel))
theorem tw_502 : dr_T (Jvm.Cond.stringRef "DrillRows" (159 : Nat) "below 0") := dr_Ts (List.mem_of_getElem? (i := 537) (by decide +kernel))
theorem tw_503 : dr_T (Jvm.Cond.methodLink "DrillRows" (161 : Nat) ({ cls := "DrillRows$Drill", name := "eventSeenBy", desc := "(II)I" } : Jvm.MethodName)) := dr_Tg (List.mem_of_getElem? (i := 538) (by decide +kernel)) (Or.inl (by decide +kernel))
theorem tw_504 : dr_T (Jvm.Cond.instanceMethod ({ cls := "DrillRows$Drill", name := "eventSeenBy", desc := "(II)I" } : Jvm.MethodName)) := dr_Tg (List.mem_of_getElem? (i := 539) (by decide +kernel)) (Or.inl (by decide +kernel))
theorem tw_505 : dr_T (Jvm.Cond.selects "DrillRows$Drill" ({ cls := "DrillRows$Drill", name := "eventSeenBy", desc := "(II)I" } : Jvm.MethodName) ({ cls := "DrillRows$Drill", name := "eventSeenBy", desc := "(II)I" } : Jvm.MethodName)) := dr_Tg (List.mem_of_getElem? (i := 540) (by decide +kernel)) (Or.inl (by decide +kernel))
theorem tw_506 : dr_T (Jvm.Cond.code ({ cls := "DrillRows$Drill", name := "eventSeenBy", desc := "(II)I" } : Jvm.MethodName) prog_2_method_9_code (5 : Nat) (Option.some Jvm.ClassFile.FieldType.int)) := dr_Tg (List.mem_of_getElem? (i := 541) (by decide +kernel)) (Or.inl (by decide +kernel))
theorem tw_507 : dr_T (Jvm.Cond.methodLink "DrillRows$Drill" (79 : Nat) ({ cls := "DrillRows$Drill", name := "maySee", desc := "(II)Z" } : Jvm.MethodName)) := dr_Tg (List.mem_of_getElem? (i := 542) (by decide +kernel)) (Or.inl (by decide +kernel))
theorem tw_509 : dr_T (Jvm.Cond.instanceMethod ({ cls := "DrillRows$Drill", name := "maySee", desc := "(II)Z" } : Jvm.MethodName)) := dr_Tg (List.mem_of_getElem? (i := 544) (by decide +kernel)) (Or.inl (by decide +kernel))
theorem tw_510 : dr_T (Jvm.Cond.code ({ cls := "DrillRows$Drill", name := "maySee", desc := "(II)Z" } : Jvm.MethodName) prog_2_method_10_code (3 : Nat) (Option.some Jvm.ClassFile.FieldType.boolean)) := dr_Tg (List.mem_of_getElem? (i := 545) (by decide +kernel)) (Or.inl (by decide +kernel))
theorem tw_511 : dr_T (Jvm.Cond.methodLink "DrillRowsLaw" (133 : Nat) ({ cls := "DrillRowsLaw", name := "fault", desc := "(LDrillRows;II[J)I" } : Jvm.MethodName)) := dr_Tg (List.mem_of_getElem? (i := 546) (by decide +kernel)) (Or.inl (by decide +kernel))
theorem tw_512 : dr_T (Jvm.Cond.static ({ cls := "DrillRowsLaw", name := "fault", desc := "(LDrillRows;II[J)I" } : Jvm.MethodName)) := dr_Tg (List.mem_of_getElem? (i := 547) (by decide +kernel)) (Or.inl (by decide +kernel))
theorem tw_513 : dr_T (Jvm.Cond.codeWith ({ cls := "DrillRowsLaw", name := "fault", desc := "(LDrillRows;II[J)I" } : Jvm.MethodName) method_13_code (5 : Nat) (Option.some Jvm.ClassFile.FieldType.int) [((0 : Nat), (17 : Nat), (20 : Nat), (30 : Nat))]) := dr_Tg (List.mem_of_getElem? (i := 548) (by decide +kernel)) (Or.inl (by decide +kernel))
theorem tw_514 : dr_T (Jvm.Cond.methodLink "DrillRowsLaw" (54 : Nat) ({ cls := "DrillRows", name := "fault", desc := "(II)Z" } : Jvm.MethodName)) := dr_Tg (List.mem_of_getElem? (i := 549) (by decide +kernel)) (Or.inl (by decide +kernel))
theorem tw_515 : dr_T (Jvm.Cond.instanceMethod ({ cls := "DrillRows", name := "fault", desc := "(II)Z" } : Jvm.MethodName)) := dr_Tg (List.mem_of_getElem? (i := 550) (by decide +kernel)) (Or.inl (by decide +kernel))
theorem tw_516 : dr_T (Jvm.Cond.selects "DrillRows" ({ cls := "DrillRows", name := "fault", desc := "(II)Z" } : Jvm.MethodName) ({ cls := "DrillRows", name := "fault", desc := "(II)Z" } : Jvm.MethodName)) := dr_Tg (List.mem_of_getElem? (i := 551) (by decide +kernel)) (Or.inl (by decide +kernel))
theorem tw_517 : dr_T (Jvm.Cond.code ({ cls := "DrillRows", name := "fault", desc := "(II)Z" } : Jvm.MethodName) prog_1_method_13_code (4 : Nat) (Option.some Jvm.ClassFile.FieldType.boolean)) := dr_Tg (List.mem_of_getElem? (i := 552) (by decide +kernel)) (Or.inl (by decide +kernel))
theorem tw_518 : dr_T (Jvm.Cond.stringRef "DrillRows" (165 : Nat) "no such fault") := dr_Ts (List.mem_of_getElem? (i := 553) (by decide +kernel))
theorem tw_519 : dr_T (Jvm.Cond.methodLink "DrillRows" (167 : Nat) ({ cls := "DrillRows$Drill", name := "hasBegunFault", desc := "(I)Z" } : Jvm.MethodName)) := dr_Tg (List.mem_of_getElem? (i := 554) (by decide +kernel)) (Or.inl (by decide +kernel))
theorem tw_520 : dr_T (Jvm.Cond.instanceMethod ({ cls := "DrillRows$Drill", name := "hasBegunFault", desc := "(I)Z" } : Jvm.MethodName)) := dr_Tg (List.mem_of_getElem? (i := 555) (by decide +kernel)) (Or.inl (by decide +kernel))
theorem tw_521 : dr_T (Jvm.Cond.selects "DrillRows$Drill" ({ cls := "DrillRows$Drill", name := "hasBegunFault", desc := "(I)Z" } : Jvm.MethodName) ({ cls := "DrillRows$Drill", name := "hasBegunFault", desc := "(I)Z" } : Jvm.MethodName)) := dr_Tg (List.mem_of_getElem? (i := 556) (by decide +kernel)) (Or.inl (by decide +kernel))
theorem tw_522 : dr_T (Jvm.Cond.code ({ cls := "DrillRows$Drill", name := "hasBegunFault", desc := "(I)Z" } : Jvm.MethodName) prog_2_method_11_code (3 : Nat) (Option.some Jvm.ClassFile.FieldType.boolean)) := dr_Tg (List.mem_of_getElem? (i := 557) (by decide +kernel)) (Or.inl (by decide +kernel))
theorem tw_523 : dr_T (Jvm.Cond.methodLink "DrillRowsLaw" (136 : Nat) ({ cls := "DrillRowsLaw", name := "aim", desc := "(LDrillRows;II[J)I" } : Jvm.MethodName)) := dr_Tg (List.mem_of_getElem? (i := 558) (by decide +kernel)) (Or.inl (by decide +kernel))
theorem tw_524 : dr_T (Jvm.Cond.static ({ cls := "DrillRowsLaw", name := "aim", desc := "(LDrillRows;II[J)I" } : Jvm.MethodName)) := dr_Tg (List.mem_of_getElem? (i := 559) (by decide +kernel)) (Or.inl (by decide +kernel))
theorem tw_525 : dr_T (Jvm.Cond.codeWith ({ cls := "DrillRowsLaw", name := "aim", desc := "(LDrillRows;II[J)I" } : Jvm.MethodName) method_14_code (5 : Nat) (Option.some Jvm.ClassFile.FieldType.int) [((0 : Nat), (10 : Nat), (13 : Nat), (30 : Nat))]) := dr_Tg (List.mem_of_getElem? (i := 560) (by decide +kernel)) (Or.inl (by decide +kernel))
theorem tw_526 : dr_T (Jvm.Cond.methodLink "DrillRowsLaw" (58 : Nat) ({ cls := "DrillRows", name := "aim", desc := "(II)I" } : Jvm.MethodName)) := dr_Tg (List.mem_of_getElem? (i := 561) (by decide +kernel)) (Or.inl (by decide +kernel))
theorem tw_527 : dr_T (Jvm.Cond.instanceMethod ({ cls := "DrillRows", name := "aim", desc := "(II)I" } : Jvm.MethodName)) := dr_Tg (List.mem_of_getElem? (i := 562) (by decide +kernel)) (Or.inl (by decide +kernel))
theorem tw_528 : dr_T (Jvm.Cond.selects "DrillRows" ({ cls := "DrillRows", name := "aim", desc := "(II)I" } : Jvm.MethodName) ({ cls := "DrillRows", name := "aim", desc := "(II)I" } : Jvm.MethodName)) := dr_Tg (List.mem_of_getElem? (i := 563) (by decide +kernel)) (Or.inl (by decide +kernel))
theorem tw_529 : dr_T (Jvm.Cond.code ({ cls := "DrillRows", name := "aim", desc := "(II)I" } : Jvm.MethodName) prog_1_method_14_code (4 : Nat) (Option.some Jvm.ClassFile.FieldType.int)) := dr_Tg (List.mem_of_getElem? (i := 564) (by decide +kernel)) (Or.inl (by decide +kernel))
theorem tw_530 : dr_T (Jvm.Cond.methodLink "DrillRows" (170 : Nat) ({ cls := "DrillRows$Script", name := "hasAim", desc := "(I)Z" } : Jvm.MethodName)) := dr_Tg (List.mem_of_getElem? (i := 565) (by decide +kernel)) (Or.inl (by decide +kernel))
theorem tw_531 : dr_T (Jvm.Cond.stringRef "DrillRows" (173 : Nat) "no such aim") := dr_Ts (List.mem_of_getElem? (i := 566) (by decide +kernel))
theorem tw_532 : dr_T (Jvm.Cond.methodLink "DrillRows" (175 : Nat) ({ cls := "DrillRows$Drill", name := "stateOfAim", desc := "(II)I" } : Jvm.MethodName)) := dr_Tg (List.mem_of_getElem? (i := 567) (by decide +kernel)) (Or.inl (by decide +kernel))
theorem tw_533 : dr_T (Jvm.Cond.instanceMethod ({ cls := "DrillRows$Drill", name := "stateOfAim", desc := "(II)I" } : Jvm.MethodName)) := dr_Tg (List.mem_of_getElem? (i := 568) (by decide +kernel)) (Or.inl (by decide +kernel))
theorem tw_534 : dr_T (Jvm.Cond.selects "DrillRows$Drill" ({ cls := "DrillRows$Drill", name := "stateOfAim", desc := "(II)I" } : Jvm.MethodName) ({ cls := "DrillRows$Drill", name := "stateOfAim", desc := "(II)I" } : Jvm.MethodName)) := dr_Tg (List.mem_of_getElem? (i := 569) (by decide +kernel)) (Or.inl (by decide +kernel))
theorem tw_535 : dr_T (Jvm.Cond.code ({ cls := "DrillRows$Drill", name := "stateOfAim", desc := "(II)I" } : Jvm.MethodName) prog_2_method_12_code (6 : Nat) (Option.some Jvm.ClassFile.FieldType.int)) := dr_Tg (List.mem_of_getElem? (i := 570) (by decide +kernel)) (Or.inl (by decide +kernel))
theorem tw_536 : dr_T (Jvm.Cond.methodLink "DrillRows$Drill" (93 : Nat) ({ cls := "DrillRows$Script", name := "hasAim", desc := "(I)Z" } : Jvm.MethodName)) := dr_Tg (List.mem_of_getElem? (i := 571) (by decide +kernel)) (Or.inl (by decide +kernel))
theorem tw_537 : dr_T (Jvm.Cond.methodLink "DrillRows$Drill" (99 : Nat) ({ cls := "DrillRows$Drill", name := "beginOf", desc := "(I)I" } : Jvm.MethodName)) := dr_Tg (List.mem_of_getElem? (i := 572) (by decide +kernel)) (Or.inl (by decide +kernel))
theorem tw_538 : dr_T (Jvm.Cond.methodLink "DrillRows$Drill" (108 : Nat) ({ cls := "DrillRows$Drill", name := "hasActWithin", desc := "(III)Z" } : Jvm.MethodName)) := dr_Tg (List.mem_of_getElem? (i := 573) (by decide +kernel)) (Or.inl (by decide +kernel))
theorem tw_540 : dr_T (Jvm.Cond.instanceMethod ({ cls := "DrillRows$Drill", name := "hasActWithin", desc := "(III)Z" } : Jvm.MethodName)) := dr_Tg (List.mem_of_getElem? (i := 575) (by decide +kernel)) (Or.inl (by decide +kernel))
theorem tw_541 : dr_T (Jvm.Cond.code ({ cls := "DrillRows$Drill", name := "hasActWithin", desc := "(III)Z" } : Jvm.MethodName) prog_2_method_13_code (5 : Nat) (Option.some Jvm.ClassFile.FieldType.boolean)) := dr_Tg (List.mem_of_getElem? (i := 576) (by decide +kernel)) (Or.inl (by decide +kernel))
theorem tw_542 : dr_T (Jvm.Cond.methodLink "DrillRowsLaw" (139 : Nat) ({ cls := "DrillRowsLaw", name := "score", desc := "(LDrillRows;II[J)I" } : Jvm.MethodName)) := dr_Tg (List.mem_of_getElem? (i := 577) (by decide +kernel)) (Or.inl (by decide +kernel))
theorem tw_543 : dr_T (Jvm.Cond.static ({ cls := "DrillRowsLaw", name := "score", desc := "(LDrillRows;II[J)I" } : Jvm.MethodName)) := dr_Tg (List.mem_of_getElem? (i := 578) (by decide +kernel)) (Or.inl (by decide +kernel))
theorem tw_544 : dr_T (Jvm.Cond.codeWith ({ cls := "DrillRowsLaw", name := "score", desc := "(LDrillRows;II[J)I" } : Jvm.MethodName) method_15_code (5 : Nat) (Option.some Jvm.ClassFile.FieldType.int) [((0 : Nat), (10 : Nat), (13 : Nat), (30 : Nat)), ((0 : Nat), (10 : Nat), (17 : Nat), (64 : Nat))]) := dr_Tg (List.mem_of_getElem? (i := 579) (by decide +kernel)) (Or.inl (by decide +kernel))
theorem tw_545 : dr_T (Jvm.Cond.classLink "DrillRowsLaw" (64 : Nat) "java/lang/ArithmeticException") := dr_Tg (List.mem_of_getElem? (i := 580) (by decide +kernel)) (Or.inl (by decide +kernel))
theorem tw_546 : dr_T (Jvm.Cond.methodLink "DrillRowsLaw" (61 : Nat) ({ cls := "DrillRows", name := "score", desc := "(II)I" } : Jvm.MethodName)) := dr_Tg (List.mem_of_getElem? (i := 581) (by decide +kernel)) (Or.inl (by decide +kernel))
theorem tw_547 : dr_T (Jvm.Cond.instanceMethod ({ cls := "DrillRows", name := "score", desc := "(II)I" } : Jvm.MethodName)) := dr_Tg (List.mem_of_getElem? (i := 582) (by decide +kernel)) (Or.inl (by decide +kernel))
theorem tw_548 : dr_T (Jvm.Cond.selects "DrillRows" ({ cls := "DrillRows", name := "score", desc := "(II)I" } : Jvm.MethodName) ({ cls := "DrillRows", name := "score", desc := "(II)I" } : Jvm.MethodName)) := dr_Tg (List.mem_of_getElem? (i := 583) (by decide +kernel)) (Or.inl (by decide +kernel))
theorem tw_549 : dr_T (Jvm.Cond.code ({ cls := "DrillRows", name := "score", desc := "(II)I" } : Jvm.MethodName) prog_1_method_15_code (6 : Nat) (Option.some Jvm.ClassFile.FieldType.int)) := dr_Tg (List.mem_of_getElem? (i := 584) (by decide +kernel)) (Or.inl (by decide +kernel))
theorem tw_550 : dr_T (Jvm.Cond.methodLink "DrillRows" (178 : Nat) ({ cls := "DrillRows$Script", name := "weightOfAims", desc := "()I" } : Jvm.MethodName)) := dr_Tg (List.mem_of_getElem? (i := 585) (by decide +kernel)) (Or.inl (by decide +kernel))
theorem tw_551 : dr_T (Jvm.Cond.instanceMethod ({ cls := "DrillRows$Script", name := "weightOfAims", desc := "()I" } : Jvm.MethodName)) := dr_Tg (List.mem_of_getElem? (i := 586) (by decide +kernel)) (Or.inl (by decide +kernel))
theorem tw_552 : dr_T (Jvm.Cond.selects "DrillRows$Script" ({ cls := "DrillRows$Script", name := "weightOfAims", desc := "()I" } : Jvm.MethodName) ({ cls := "DrillRows$Script", name := "weightOfAims", desc := "()I" } : Jvm.MethodName)) := dr_Tg (List.mem_of_getElem? (i := 587) (by decide +kernel)) (Or.inl (by decide +kernel))
theorem tw_553 : dr_T (Jvm.Cond.code ({ cls := "DrillRows$Script", name := "weightOfAims", desc := "()I" } : Jvm.MethodName) prog_3_method_8_code (6 : Nat) (Option.some Jvm.ClassFile.FieldType.int)) := dr_Tg (List.mem_of_getElem? (i := 588) (by decide +kernel)) (Or.inl (by decide +kernel))
theorem tw_554 : dr_T (Jvm.Cond.classLink "DrillRows" (182 : Nat) "java/lang/ArithmeticException") := dr_Tg (List.mem_of_getElem? (i := 589) (by decide +kernel)) (Or.inl (by decide +kernel))
theorem tw_555 : dr_T (Jvm.Cond.instantiable "java/lang/ArithmeticException" (6 : Nat)) := dr_Tg (List.mem_of_getElem? (i := 590) (by decide +kernel)) (Or.inl (by decide +kernel))
theorem tw_556 : dr_T (Jvm.Cond.castable "java/lang/ArithmeticException" "java/lang/ArithmeticException") := dr_Tf (List.mem_of_getElem? (i := 591) (by decide +kernel)) (by decide +kernel)
theorem tw_557 : dr_T (Jvm.Cond.selects "java/lang/ArithmeticException" ({ cls := "java/lang/Throwable", name := "fillInStackTrace", desc := "(I)Ljava/lang/Throwable;" } : Jvm.MethodName) ({ cls := "java/lang/Throwable", name := "fillInStackTrace", desc := "(I)Ljava/lang/Throwable;" } : Jvm.MethodName)) := dr_Tg (List.mem_of_getElem? (i := 592) (by decide +kernel)) (Or.inl (by decide +kernel))
theorem tw_563 : dr_T (Jvm.Cond.stringRef "DrillRows" (184 : Nat) "the drill has no aims") := dr_Ts (List.mem_of_getElem? (i := 598) (by decide +kernel))
theorem tw_564 : dr_T (Jvm.Cond.methodLink "DrillRows" (186 : Nat) ({ cls := "java/lang/ArithmeticException", name := "<init>", desc := "(Ljava/lang/String;)V" } : Jvm.MethodName)) := dr_Tg (List.mem_of_getElem? (i := 599) (by decide +kernel)) (Or.inl (by decide +kernel))
theorem tw_565 : dr_T (Jvm.Cond.instanceMethod ({ cls := "java/lang/ArithmeticException", name := "<init>", desc := "(Ljava/lang/String;)V" } : Jvm.MethodName)) := dr_Tg (List.mem_of_getElem? (i := 600) (by decide +kernel)) (Or.inl (by decide +kernel))
theorem tw_566 : dr_T (Jvm.Cond.code ({ cls := "java/lang/ArithmeticException", name := "<init>", desc := "(Ljava/lang/String;)V" } : Jvm.MethodName) prog_7_method_2_code (2 : Nat) (Option.none : Option Jvm.ClassFile.FieldType)) := dr_Tg (List.mem_of_getElem? (i := 601) (by decide +kernel)) (Or.inl (by decide +kernel))
theorem tw_567 : dr_T (Jvm.Cond.methodLink "java/lang/ArithmeticException" (7 : Nat) ({ cls := "java/lang/RuntimeException", name := "<init>", desc := "(Ljava/lang/String;)V" } : Jvm.MethodName)) := dr_Tg (List.mem_of_getElem? (i := 602) (by decide +kernel)) (Or.inl (by decide +kernel))
theorem tw_570 : dr_T (Jvm.Cond.methodLink "DrillRows" (187 : Nat) ({ cls := "DrillRows$Drill", name := "weightOfMetAims", desc := "(I)I" } : Jvm.MethodName)) := dr_Tg (List.mem_of_getElem? (i := 605) (by decide +kernel)) (Or.inl (by decide +kernel))
theorem tw_571 : dr_T (Jvm.Cond.instanceMethod ({ cls := "DrillRows$Drill", name := "weightOfMetAims", desc := "(I)I" } : Jvm.MethodName)) := dr_Tg (List.mem_of_getElem? (i := 606) (by decide +kernel)) (Or.inl (by decide +kernel))
theorem tw_572 : dr_T (Jvm.Cond.selects "DrillRows$Drill" ({ cls := "DrillRows$Drill", name := "weightOfMetAims", desc := "(I)I" } : Jvm.MethodName) ({ cls := "DrillRows$Drill", name := "weightOfMetAims", desc := "(I)I" } : Jvm.MethodName)) := dr_Tg (List.mem_of_getElem? (i := 607) (by decide +kernel)) (Or.inl (by decide +kernel))
theorem tw_573 : dr_T (Jvm.Cond.code ({ cls := "DrillRows$Drill", name := "weightOfMetAims", desc := "(I)I" } : Jvm.MethodName) prog_2_method_14_code (4 : Nat) (Option.some Jvm.ClassFile.FieldType.int)) := dr_Tg (List.mem_of_getElem? (i := 608) (by decide +kernel)) (Or.inl (by decide +kernel))
theorem tw_574 : dr_T (Jvm.Cond.methodLink "DrillRows$Drill" (112 : Nat) ({ cls := "DrillRows$Drill", name := "stateOfAim", desc := "(II)I" } : Jvm.MethodName)) := dr_Tg (List.mem_of_getElem? (i := 609) (by decide +kernel)) (Or.inl (by decide +kernel))
theorem tw_575 : dr_T (Jvm.Cond.methodLink "DrillRows" (190 : Nat) ({ cls := "DrillRows", name := "inLowestTerms", desc := "(III)I" } : Jvm.MethodName)) := dr_Tg (List.mem_of_getElem? (i := 610) (by decide +kernel)) (Or.inl (by decide +kernel))
theorem tw_576 : dr_T (Jvm.Cond.static ({ cls := "DrillRows", name := "inLowestTerms", desc := "(III)I" } : Jvm.MethodName)) := dr_Tg (List.mem_of_getElem? (i := 611) (by decide +kernel)) (Or.inl (by decide +kernel))
theorem tw_577 : dr_T (Jvm.Cond.code ({ cls := "DrillRows", name := "inLowestTerms", desc := "(III)I" } : Jvm.MethodName) prog_1_method_23_code (4 : Nat) (Option.some Jvm.ClassFile.FieldType.int)) := dr_Tg (List.mem_of_getElem? (i := 612) (by decide +kernel)) (Or.inl (by decide +kernel))
theorem tw_578 : dr_T (Jvm.Cond.methodLink "DrillRowsLaw" (142 : Nat) ({ cls := "DrillRowsLaw", name := "compare", desc := "(LDrillRows;II[J)I" } : Jvm.MethodName)) := dr_Tg (List.mem_of_getElem? (i := 613) (by decide +kernel)) (Or.inl (by decide +kernel))
theorem tw_579 : dr_T (Jvm.Cond.static ({ cls := "DrillRowsLaw", name := "compare", desc := "(LDrillRows;II[J)I" } : Jvm.MethodName)) := dr_Tg (List.mem_of_getElem? (i := 614) (by decide +kernel)) (Or.inl (by decide +kernel))
theorem tw_580 : dr_T (Jvm.Cond.codeWith ({ cls := "DrillRowsLaw", name := "compare", desc := "(LDrillRows;II[J)I" } : Jvm.MethodName) method_16_code (5 : Nat) (Option.some Jvm.ClassFile.FieldType.int) [((0 : Nat), (10 : Nat), (13 : Nat), (30 : Nat))]) := dr_Tg (List.mem_of_getElem? (i := 615) (by decide +kernel)) (Or.inl (by decide +kernel))
theorem tw_581 : dr_T (Jvm.Cond.methodLink "DrillRowsLaw" (66 : Nat) ({ cls := "DrillRows", name := "compare", desc := "(II)I" } : Jvm.MethodName)) := dr_Tg (List.mem_of_getElem? (i := 616) (by decide +kernel)) (Or.inl (by decide +kernel))
theorem tw_582 : dr_T (Jvm.Cond.instanceMethod ({ cls := "DrillRows", name := "compare", desc := "(II)I" } : Jvm.MethodName)) := dr_Tg (List.mem_of_getElem? (i := 617) (by decide +kernel)) (Or.inl (by decide +kernel))
theorem tw_583 : dr_T (Jvm.Cond.selects "DrillRows" ({ cls := "DrillRows", name := "compare", desc := "(II)I" } : Jvm.MethodName) ({ cls := "DrillRows", name := "compare", desc := "(II)I" } : Jvm.MethodName)) := dr_Tg (List.mem_of_getElem? (i := 618) (by decide +kernel)) (Or.inl (by decide +kernel))
theorem tw_584 : dr_T (Jvm.Cond.code ({ cls := "DrillRows", name := "compare", desc := "(II)I" } : Jvm.MethodName) prog_1_method_16_code (8 : Nat) (Option.some Jvm.ClassFile.FieldType.int)) := dr_Tg (List.mem_of_getElem? (i := 619) (by decide +kernel)) (Or.inl (by decide +kernel))
theorem tw_585 : dr_T (Jvm.Cond.methodLink "DrillRowsLaw" (145 : Nat) ({ cls := "DrillRowsLaw", name := "observe", desc := "(LDrillRows;III[J)I" } : Jvm.MethodName)) := dr_Tg (List.mem_of_getElem? (i := 620) (by decide +kernel)) (Or.inl (by decide +kernel))
theorem tw_586 : dr_T (Jvm.Cond.static ({ cls := "DrillRowsLaw", name := "observe", desc := "(LDrillRows;III[J)I" } : Jvm.MethodName)) := dr_Tg (List.mem_of_getElem? (i := 621) (by decide +kernel)) (Or.inl (by decide +kernel))
theorem tw_587 : dr_T (Jvm.Cond.codeWith ({ cls := "DrillRowsLaw", name := "observe", desc := "(LDrillRows;III[J)I" } : Jvm.MethodName) method_17_code (6 : Nat) (Option.some Jvm.ClassFile.FieldType.int) [((0 : Nat), (12 : Nat), (15 : Nat), (30 : Nat)), ((0 : Nat), (12 : Nat), (19 : Nat), (13 : Nat)), ((0 : Nat), (12 : Nat), (23 : Nat), (15 : Nat))]) := dr_Tg (List.mem_of_getElem? (i := 622) (by decide +kernel)) (Or.inl (by decide +kernel))
theorem tw_588 : dr_T (Jvm.Cond.methodLink "DrillRowsLaw" (69 : Nat) ({ cls := "DrillRows", name := "observe", desc := "(III)I" } : Jvm.MethodName)) := dr_Tg (List.mem_of_getElem? (i := 623) (by decide +kernel)) (Or.inl (by decide +kernel))
theorem tw_589 : dr_T (Jvm.Cond.instanceMethod ({ cls := "DrillRows", name := "observe", desc := "(III)I" } : Jvm.MethodName)) := dr_Tg (List.mem_of_getElem? (i := 624) (by decide +kernel)) (Or.inl (by decide +kernel))
theorem tw_590 : dr_T (Jvm.Cond.selects "DrillRows" ({ cls := "DrillRows", name := "observe", desc := "(III)I" } : Jvm.MethodName) ({ cls := "DrillRows", name := "observe", desc := "(III)I" } : Jvm.MethodName)) := dr_Tg (List.mem_of_getElem? (i := 625) (by decide +kernel)) (Or.inl (by decide +kernel))
theorem tw_591 : dr_T (Jvm.Cond.code ({ cls := "DrillRows", name := "observe", desc := "(III)I" } : Jvm.MethodName) prog_1_method_17_code (7 : Nat) (Option.some Jvm.ClassFile.FieldType.int)) := dr_Tg (List.mem_of_getElem? (i := 626) (by decide +kernel)) (Or.inl (by decide +kernel))
theorem tw_592 : dr_T (Jvm.Cond.methodLink "DrillRows" (194 : Nat) ({ cls := "DrillRows$Drill", name := "drillSecond", desc := "(I)I" } : Jvm.MethodName)) := dr_Tg (List.mem_of_getElem? (i := 627) (by decide +kernel)) (Or.inl (by decide +kernel))
theorem tw_593 : dr_T (Jvm.Cond.stringRef "DrillRows" (197 : Nat) "the second or the mark") := dr_Ts (List.mem_of_getElem? (i := 628) (by decide +kernel))
theorem tw_594 : dr_T (Jvm.Cond.stringRef "DrillRows" (199 : Nat) "there are 100 rows") := dr_Ts (List.mem_of_getElem? (i := 629) (by decide +kernel))
theorem tw_595 : dr_T (Jvm.Cond.methodLink "DrillRowsLaw" (148 : Nat) ({ cls := "DrillRowsLaw", name := "row", desc := "(LDrillRows;II[J)I" } : Jvm.MethodName)) := dr_Tg (List.mem_of_getElem? (i := 630) (by decide +kernel)) (Or.inl (by decide +kernel))
theorem tw_596 : dr_T (Jvm.Cond.static ({ cls := "DrillRowsLaw", name := "row", desc := "(LDrillRows;II[J)I" } : Jvm.MethodName)) := dr_Tg (List.mem_of_getElem? (i := 631) (by decide +kernel)) (Or.inl (by decide +kernel))
theorem tw_597 : dr_T (Jvm.Cond.codeWith ({ cls := "DrillRowsLaw", name := "row", desc := "(LDrillRows;II[J)I" } : Jvm.MethodName) method_18_code (5 : Nat) (Option.some Jvm.ClassFile.FieldType.int) [((0 : Nat), (10 : Nat), (13 : Nat), (30 : Nat))]) := dr_Tg (List.mem_of_getElem? (i := 632) (by decide +kernel)) (Or.inl (by decide +kernel))
theorem tw_598 : dr_T (Jvm.Cond.methodLink "DrillRowsLaw" (72 : Nat) ({ cls := "DrillRows", name := "row", desc := "(II)I" } : Jvm.MethodName)) := dr_Tg (List.mem_of_getElem? (i := 633) (by decide +kernel)) (Or.inl (by decide +kernel))
theorem tw_599 : dr_T (Jvm.Cond.instanceMethod ({ cls := "DrillRows", name := "row", desc := "(II)I" } : Jvm.MethodName)) := dr_Tg (List.mem_of_getElem? (i := 634) (by decide +kernel)) (Or.inl (by decide +kernel))
theorem tw_600 : dr_T (Jvm.Cond.selects "DrillRows" ({ cls := "DrillRows", name := "row", desc := "(II)I" } : Jvm.MethodName) ({ cls := "DrillRows", name := "row", desc := "(II)I" } : Jvm.MethodName)) := dr_Tg (List.mem_of_getElem? (i := 635) (by decide +kernel)) (Or.inl (by decide +kernel))
theorem tw_601 : dr_T (Jvm.Cond.code ({ cls := "DrillRows", name := "row", desc := "(II)I" } : Jvm.MethodName) prog_1_method_18_code (3 : Nat) (Option.some Jvm.ClassFile.FieldType.int)) := dr_Tg (List.mem_of_getElem? (i := 636) (by decide +kernel)) (Or.inl (by decide +kernel))
theorem tw_602 : dr_T (Jvm.Cond.stringRef "DrillRows" (201 : Nat) "no such row or what") := dr_Ts (List.mem_of_getElem? (i := 637) (by decide +kernel))
theorem tw_603 : dr_T (Jvm.Cond.methodLink "DrillRowsLaw" (151 : Nat) ({ cls := "DrillRowsLaw", name := "play", desc := "(LDrillRows;II[J)I" } : Jvm.MethodName)) := dr_Tg (List.mem_of_getElem? (i := 638) (by decide +kernel)) (Or.inl (by decide +kernel))
theorem tw_604 : dr_T (Jvm.Cond.static ({ cls := "DrillRowsLaw", name := "play", desc := "(LDrillRows;II[J)I" } : Jvm.MethodName)) := dr_Tg (List.mem_of_getElem? (i := 639) (by decide +kernel)) (Or.inl (by decide +kernel))
theorem tw_605 : dr_T (Jvm.Cond.codeWith ({ cls := "DrillRowsLaw", name := "play", desc := "(LDrillRows;II[J)I" } : Jvm.MethodName) method_19_code (5 : Nat) (Option.some Jvm.ClassFile.FieldType.int) [((0 : Nat), (10 : Nat), (13 : Nat), (30 : Nat)), ((0 : Nat), (10 : Nat), (17 : Nat), (21 : Nat)), ((0 : Nat), (10 : Nat), (21 : Nat), (15 : Nat))]) := dr_Tg (List.mem_of_getElem? (i := 640) (by decide +kernel)) (Or.inl (by decide +kernel))
theorem tw_606 : dr_T (Jvm.Cond.methodLink "DrillRowsLaw" (75 : Nat) ({ cls := "DrillRows", name := "play", desc := "(II)I" } : Jvm.MethodName)) := dr_Tg (List.mem_of_getElem? (i := 641) (by decide +kernel)) (Or.inl (by decide +kernel))
theorem tw_607 : dr_T (Jvm.Cond.instanceMethod ({ cls := "DrillRows", name := "play", desc := "(II)I" } : Jvm.MethodName)) := dr_Tg (List.mem_of_getElem? (i := 642) (by decide +kernel)) (Or.inl (by decide +kernel))
theorem tw_608 : dr_T (Jvm.Cond.selects "DrillRows" ({ cls := "DrillRows", name := "play", desc := "(II)I" } : Jvm.MethodName) ({ cls := "DrillRows", name := "play", desc := "(II)I" } : Jvm.MethodName)) := dr_Tg (List.mem_of_getElem? (i := 643) (by decide +kernel)) (Or.inl (by decide +kernel))
theorem tw_609 : dr_T (Jvm.Cond.code ({ cls := "DrillRows", name := "play", desc := "(II)I" } : Jvm.MethodName) prog_1_method_19_code (4 : Nat) (Option.some Jvm.ClassFile.FieldType.int)) := dr_Tg (List.mem_of_getElem? (i := 644) (by decide +kernel)) (Or.inl (by decide +kernel))
theorem tw_610 : dr_T (Jvm.Cond.constant "DrillRows" (203 : Nat) (1103515245 : Int32)) := dr_Tg (List.mem_of_getElem? (i := 645) (by decide +kernel)) (Or.inl (by decide +kernel))
theorem tw_611 : dr_T (Jvm.Cond.methodLink "DrillRows" (204 : Nat) ({ cls := "DrillRows", name := "act", desc := "(II)I" } : Jvm.MethodName)) := dr_Tg (List.mem_of_getElem? (i := 646) (by decide +kernel)) (Or.inl (by decide +kernel))
theorem tw_612 : dr_T (Jvm.Cond.methodLink "DrillRowsLaw" (154 : Nat) ({ cls := "DrillRowsLaw", name := "drill", desc := "(LDrillRows;II[J)I" } : Jvm.MethodName)) := dr_Tg (List.mem_of_getElem? (i := 647) (by decide +kernel)) (Or.inl (by decide +kernel))
theorem tw_613 : dr_T (Jvm.Cond.static ({ cls := "DrillRowsLaw", name := "drill", desc := "(LDrillRows;II[J)I" } : Jvm.MethodName)) := dr_Tg (List.mem_of_getElem? (i := 648) (by decide +kernel)) (Or.inl (by decide +kernel))
theorem tw_614 : dr_T (Jvm.Cond.codeWith ({ cls := "DrillRowsLaw", name := "drill", desc := "(LDrillRows;II[J)I" } : Jvm.MethodName) method_20_code (5 : Nat) (Option.some Jvm.ClassFile.FieldType.int) [((0 : Nat), (10 : Nat), (13 : Nat), (30 : Nat))]) := dr_Tg (List.mem_of_getElem? (i := 649) (by decide +kernel)) (Or.inl (by decide +kernel))
theorem tw_615 : dr_T (Jvm.Cond.methodLink "DrillRowsLaw" (78 : Nat) ({ cls := "DrillRows", name := "drill", desc := "(II)I" } : Jvm.MethodName)) := dr_Tg (List.mem_of_getElem? (i := 650) (by decide +kernel)) (Or.inl (by decide +kernel))
theorem tw_616 : dr_T (Jvm.Cond.instanceMethod ({ cls := "DrillRows", name := "drill", desc := "(II)I" } : Jvm.MethodName)) := dr_Tg (List.mem_of_getElem? (i := 651) (by decide +kernel)) (Or.inl (by decide +kernel))
theorem tw_617 : dr_T (Jvm.Cond.selects "DrillRows" ({ cls := "DrillRows", name := "drill", desc := "(II)I" } : Jvm.MethodName) ({ cls := "DrillRows", name := "drill", desc := "(II)I" } : Jvm.MethodName)) := dr_Tg (List.mem_of_getElem? (i := 652) (by decide +kernel)) (Or.inl (by decide +kernel))
theorem tw_618 : dr_T (Jvm.Cond.code ({ cls := "DrillRows", name := "drill", desc := "(II)I" } : Jvm.MethodName) prog_1_method_20_code (4 : Nat) (Option.some Jvm.ClassFile.FieldType.int)) := dr_Tg (List.mem_of_getElem? (i := 653) (by decide +kernel)) (Or.inl (by decide +kernel))
theorem tw_619 : dr_T (Jvm.Cond.methodLink "DrillRows" (213 : Nat) ({ cls := "DrillRows", name := "countUnits", desc := "(I)I" } : Jvm.MethodName)) := dr_Tg (List.mem_of_getElem? (i := 654) (by decide +kernel)) (Or.inl (by decide +kernel))
theorem tw_621 : dr_T (Jvm.Cond.instanceMethod ({ cls := "DrillRows", name := "countUnits", desc := "(I)I" } : Jvm.MethodName)) := dr_Tg (List.mem_of_getElem? (i := 656) (by decide +kernel)) (Or.inl (by decide +kernel))
theorem tw_622 : dr_T (Jvm.Cond.code ({ cls := "DrillRows", name := "countUnits", desc := "(I)I" } : Jvm.MethodName) prog_1_method_22_code (7 : Nat) (Option.some Jvm.ClassFile.FieldType.int)) := dr_Tg (List.mem_of_getElem? (i := 657) (by decide +kernel)) (Or.inl (by decide +kernel))
theorem tw_623 : dr_T (Jvm.Cond.classLink "DrillRowsLaw" (82 : Nat) "DrillRowsModel") := dr_Tg (List.mem_of_getElem? (i := 658) (by decide +kernel)) (Or.inl (by decide +kernel))
theorem tw_624 : dr_T (Jvm.Cond.instantiable "DrillRowsModel" (32 : Nat)) := dr_Tg (List.mem_of_getElem? (i := 659) (by decide +kernel)) (Or.inl (by decide +kernel))
theorem tw_625 : dr_T (Jvm.Cond.methodLink "DrillRowsLaw" (84 : Nat) ({ cls := "DrillRowsModel", name := "<init>", desc := "()V" } : Jvm.MethodName)) := dr_Tg (List.mem_of_getElem? (i := 660) (by decide +kernel)) (Or.inl (by decide +kernel))
theorem tw_626 : dr_T (Jvm.Cond.instanceMethod ({ cls := "DrillRowsModel", name := "<init>", desc := "()V" } : Jvm.MethodName)) := dr_Tg (List.mem_of_getElem? (i := 661) (by decide +kernel)) (Or.inl (by decide +kernel))
theorem tw_627 : dr_T (Jvm.Cond.code ({ cls := "DrillRowsModel", name := "<init>", desc := "()V" } : Jvm.MethodName) prog_6_method_1_code (2 : Nat) (Option.none : Option Jvm.ClassFile.FieldType)) := dr_Tg (List.mem_of_getElem? (i := 662) (by decide +kernel)) (Or.inl (by decide +kernel))
theorem tw_628 : dr_T (Jvm.Cond.methodLink "DrillRowsModel" (1 : Nat) ({ cls := "java/lang/Object", name := "<init>", desc := "()V" } : Jvm.MethodName)) := dr_Tg (List.mem_of_getElem? (i := 663) (by decide +kernel)) (Or.inl (by decide +kernel))
theorem tw_629 : dr_T (Jvm.Cond.fieldLink "DrillRowsModel" (87 : Nat) "DrillRowsModel" "thrown" "I") := dr_Tg (List.mem_of_getElem? (i := 664) (by decide +kernel)) (Or.inl (by decide +kernel))
theorem tw_630 : dr_T (Jvm.Cond.fieldLink "DrillRowsModel" (147 : Nat) "DrillRowsModel" "now" "I") := dr_Tg (List.mem_of_getElem? (i := 665) (by decide +kernel)) (Or.inl (by decide +kernel))
theorem tw_631 : dr_T (Jvm.Cond.fieldLink "DrillRowsModel" (94 : Nat) "DrillRowsModel" "taped" "I") := dr_Tg (List.mem_of_getElem? (i := 666) (by decide +kernel)) (Or.inl (by decide +kernel))
theorem tw_632 : dr_T (Jvm.Cond.fieldLink "DrillRowsModel" (7 : Nat) "DrillRowsModel" "tape" "[I") := dr_Tg (List.mem_of_getElem? (i := 667) (by decide +kernel)) (Or.inl (by decide +kernel))
theorem tw_633 : dr_T (Jvm.Cond.fieldLink "DrillRowsModel" (13 : Nat) "DrillRowsModel" "place" "I") := dr_Tg (List.mem_of_getElem? (i := 668) (by decide +kernel)) (Or.inl (by decide +kernel))
theorem tw_634 : dr_T (Jvm.Cond.fieldLink "DrillRowsModel" (101 : Nat) "DrillRowsModel" "at" "I") := dr_Tg (List.mem_of_getElem? (i := 669) (by decide +kernel)) (Or.inl (by decide +kernel))
theorem tw_635 : dr_T (Jvm.Cond.fieldLink "DrillRowsModel" (108 : Nat) "DrillRowsModel" "wrong" "I") := dr_Tg (List.mem_of_getElem? (i := 670) (by decide +kernel)) (Or.inl (by decide +kernel))
theorem tw_636 : dr_T (Jvm.Cond.fieldLink "DrillRowsModel" (17 : Nat) "DrillRowsModel" "isEvent" "[Z") := dr_Tg (List.mem_of_getElem? (i := 671) (by decide +kernel)) (Or.inl (by decide +kernel))
theorem tw_637 : dr_T (Jvm.Cond.fieldLink "DrillRowsModel" (21 : Nat) "DrillRowsModel" "second" "[I") := dr_Tg (List.mem_of_getElem? (i := 672) (by decide +kernel)) (Or.inl (by decide +kernel))
theorem tw_638 : dr_T (Jvm.Cond.fieldLink "DrillRowsModel" (24 : Nat) "DrillRowsModel" "act" "[I") := dr_Tg (List.mem_of_getElem? (i := 673) (by decide +kernel)) (Or.inl (by decide +kernel))
theorem tw_639 : dr_T (Jvm.Cond.fieldLink "DrillRowsModel" (27 : Nat) "DrillRowsModel" "delay" "[I") := dr_Tg (List.mem_of_getElem? (i := 674) (by decide +kernel)) (Or.inl (by decide +kernel))
theorem tw_640 : dr_T (Jvm.Cond.fieldLink "DrillRowsModel" (30 : Nat) "DrillRowsModel" "part" "[I") := dr_Tg (List.mem_of_getElem? (i := 675) (by decide +kernel)) (Or.inl (by decide +kernel))
theorem tw_641 : dr_T (Jvm.Cond.fieldLink "DrillRowsModel" (33 : Nat) "DrillRowsModel" "secret" "[Z") := dr_Tg (List.mem_of_getElem? (i := 676) (by decide +kernel)) (Or.inl (by decide +kernel))
theorem tw_642 : dr_T (Jvm.Cond.fieldLink "DrillRowsModel" (36 : Nat) "DrillRowsModel" "fault" "[I") := dr_Tg (List.mem_of_getElem? (i := 677) (by decide +kernel)) (Or.inl (by decide +kernel))
theorem tw_643 : dr_T (Jvm.Cond.fieldLink "DrillRowsModel" (39 : Nat) "DrillRowsModel" "isAim" "[Z") := dr_Tg (List.mem_of_getElem? (i := 678) (by decide +kernel)) (Or.inl (by decide +kernel))
theorem tw_644 : dr_T (Jvm.Cond.fieldLink "DrillRowsModel" (42 : Nat) "DrillRowsModel" "aimEvent" "[I") := dr_Tg (List.mem_of_getElem? (i := 679) (by decide +kernel)) (Or.inl (by decide +kernel))
theorem tw_645 : dr_T (Jvm.Cond.fieldLink "DrillRowsModel" (45 : Nat) "DrillRowsModel" "aimAct" "[I") := dr_Tg (List.mem_of_getElem? (i := 680) (by decide +kernel)) (Or.inl (by decide +kernel))
theorem tw_646 : dr_T (Jvm.Cond.fieldLink "DrillRowsModel" (48 : Nat) "DrillRowsModel" "aimWithin" "[I") := dr_Tg (List.mem_of_getElem? (i := 681) (by decide +kernel)) (Or.inl (by decide +kernel))
theorem tw_647 : dr_T (Jvm.Cond.fieldLink "DrillRowsModel" (51 : Nat) "DrillRowsModel" "weight" "[I") := dr_Tg (List.mem_of_getElem? (i := 682) (by decide +kernel)) (Or.inl (by decide +kernel))
theorem tw_648 : dr_T (Jvm.Cond.fieldLink "DrillRowsModel" (161 : Nat) "DrillRowsModel" "drills" "I") := dr_Tg (List.mem_of_getElem? (i := 683) (by decide +kernel)) (Or.inl (by decide +kernel))
theorem tw_649 : dr_T (Jvm.Cond.fieldLink "DrillRowsModel" (54 : Nat) "DrillRowsModel" "begun" "[I") := dr_Tg (List.mem_of_getElem? (i := 684) (by decide +kernel)) (Or.inl (by decide +kernel))
theorem tw_650 : dr_T (Jvm.Cond.fieldLink "DrillRowsModel" (57 : Nat) "DrillRowsModel" "stopped" "[Z") := dr_Tg (List.mem_of_getElem? (i := 685) (by decide +kernel)) (Or.inl (by decide +kernel))
theorem tw_651 : dr_T (Jvm.Cond.fieldLink "DrillRowsModel" (60 : Nat) "DrillRowsModel" "begins" "[I") := dr_Tg (List.mem_of_getElem? (i := 686) (by decide +kernel)) (Or.inl (by decide +kernel))
theorem tw_652 : dr_T (Jvm.Cond.fieldLink "DrillRowsModel" (63 : Nat) "DrillRowsModel" "acts" "[I") := dr_Tg (List.mem_of_getElem? (i := 687) (by decide +kernel)) (Or.inl (by decide +kernel))
theorem tw_653 : dr_T (Jvm.Cond.fieldLink "DrillRowsModel" (66 : Nat) "DrillRowsModel" "did" "[I") := dr_Tg (List.mem_of_getElem? (i := 688) (by decide +kernel)) (Or.inl (by decide +kernel))
theorem tw_654 : dr_T (Jvm.Cond.fieldLink "DrillRowsModel" (69 : Nat) "DrillRowsModel" "didAt" "[I") := dr_Tg (List.mem_of_getElem? (i := 689) (by decide +kernel)) (Or.inl (by decide +kernel))
theorem tw_655 : dr_T (Jvm.Cond.fieldLink "DrillRowsModel" (72 : Nat) "DrillRowsModel" "unitOf" "[I") := dr_Tg (List.mem_of_getElem? (i := 690) (by decide +kernel)) (Or.inl (by decide +kernel))
theorem tw_656 : dr_T (Jvm.Cond.fieldLink "DrillRowsModel" (178 : Nat) "DrillRowsModel" "rows" "I") := dr_Tg (List.mem_of_getElem? (i := 691) (by decide +kernel)) (Or.inl (by decide +kernel))
theorem tw_657 : dr_T (Jvm.Cond.fieldLink "DrillRowsModel" (75 : Nat) "DrillRowsModel" "rowDrill" "[I") := dr_Tg (List.mem_of_getElem? (i := 692) (by decide +kernel)) (Or.inl (by decide +kernel))
theorem tw_658 : dr_T (Jvm.Cond.fieldLink "DrillRowsModel" (78 : Nat) "DrillRowsModel" "rowSecond" "[I") := dr_Tg (List.mem_of_getElem? (i := 693) (by decide +kernel)) (Or.inl (by decide +kernel))
theorem tw_659 : dr_T (Jvm.Cond.fieldLink "DrillRowsModel" (81 : Nat) "DrillRowsModel" "rowMark" "[I") := dr_Tg (List.mem_of_getElem? (i := 694) (by decide +kernel)) (Or.inl (by decide +kernel))
theorem tw_660 : dr_T (Jvm.Cond.fieldLink "DrillRowsModel" (84 : Nat) "DrillRowsModel" "rowLate" "[Z") := dr_Tg (List.mem_of_getElem? (i := 695) (by decide +kernel)) (Or.inl (by decide +kernel))
theorem tw_726 : dr_T (Jvm.Cond.methodLink "DrillRowsLaw" (93 : Nat) ({ cls := "DrillRowsModel", name := "thrown", desc := "()I" } : Jvm.MethodName)) := dr_Tg (List.mem_of_getElem? (i := 761) (by decide +kernel)) (Or.inl (by decide +kernel))
theorem tw_727 : dr_T (Jvm.Cond.instanceMethod ({ cls := "DrillRowsModel", name := "thrown", desc := "()I" } : Jvm.MethodName)) := dr_Tg (List.mem_of_getElem? (i := 762) (by decide +kernel)) (Or.inl (by decide +kernel))
theorem tw_728 : dr_T (Jvm.Cond.selects "DrillRowsModel" ({ cls := "DrillRowsModel", name := "thrown", desc := "()I" } : Jvm.MethodName) ({ cls := "DrillRowsModel", name := "thrown", desc := "()I" } : Jvm.MethodName)) := dr_Tg (List.mem_of_getElem? (i := 763) (by decide +kernel)) (Or.inl (by decide +kernel))
theorem tw_729 : dr_T (Jvm.Cond.code ({ cls := "DrillRowsModel", name := "thrown", desc := "()I" } : Jvm.MethodName) prog_6_method_2_code (1 : Nat) (Option.some Jvm.ClassFile.FieldType.int)) := dr_Tg (List.mem_of_getElem? (i := 764) (by decide +kernel)) (Or.inl (by decide +kernel))
theorem tw_730 : dr_T (Jvm.Cond.methodLink "DrillRowsLaw" (92 : Nat) ({ cls := "DrillRowsModel", name := "sign", desc := "(JI)I" } : Jvm.MethodName)) := dr_Tg (List.mem_of_getElem? (i := 765) (by decide +kernel)) (Or.inl (by decide +kernel))
theorem tw_731 : dr_T (Jvm.Cond.instanceMethod ({ cls := "DrillRowsModel", name := "sign", desc := "(JI)I" } : Jvm.MethodName)) := dr_Tg (List.mem_of_getElem? (i := 766) (by decide +kernel)) (Or.inl (by decide +kernel))
theorem tw_732 : dr_T (Jvm.Cond.selects "DrillRowsModel" ({ cls := "DrillRowsModel", name := "sign", desc := "(JI)I" } : Jvm.MethodName) ({ cls := "DrillRowsModel", name := "sign", desc := "(JI)I" } : Jvm.MethodName)) := dr_Tg (List.mem_of_getElem? (i := 767) (by decide +kernel)) (Or.inl (by decide +kernel))
theorem tw_733 : dr_T (Jvm.Cond.code ({ cls := "DrillRowsModel", name := "sign", desc := "(JI)I" } : Jvm.MethodName) prog_6_method_5_code (5 : Nat) (Option.some Jvm.ClassFile.FieldType.int)) := dr_Tg (List.mem_of_getElem? (i := 768) (by decide +kernel)) (Or.inl (by decide +kernel))
theorem tw_734 : dr_T (Jvm.Cond.methodLink "DrillRowsModel" (90 : Nat) ({ cls := "DrillRowsModel", name := "in", desc := "(III)Z" } : Jvm.MethodName)) := dr_Tg (List.mem_of_getElem? (i := 769) (by decide +kernel)) (Or.inl (by decide +kernel))
theorem tw_735 : dr_T (Jvm.Cond.static ({ cls := "DrillRowsModel", name := "in", desc := "(III)Z" } : Jvm.MethodName)) := dr_Tg (List.mem_of_getElem? (i := 770) (by decide +kernel)) (Or.inl (by decide +kernel))
theorem tw_736 : dr_T (Jvm.Cond.code ({ cls := "DrillRowsModel", name := "in", desc := "(III)Z" } : Jvm.MethodName) prog_6_method_3_code (3 : Nat) (Option.some Jvm.ClassFile.FieldType.boolean)) := dr_Tg (List.mem_of_getElem? (i := 771) (by decide +kernel)) (Or.inl (by decide +kernel))
theorem tw_737 : dr_T (Jvm.Cond.methodLink "DrillRowsModel" (97 : Nat) ({ cls := "DrillRowsModel", name := "goes", desc := "(ZZZ)Z" } : Jvm.MethodName)) := dr_Tg (List.mem_of_getElem? (i := 772) (by decide +kernel)) (Or.inl (by decide +kernel))
theorem tw_739 : dr_T (Jvm.Cond.instanceMethod ({ cls := "DrillRowsModel", name := "goes", desc := "(ZZZ)Z" } : Jvm.MethodName)) := dr_Tg (List.mem_of_getElem? (i := 774) (by decide +kernel)) (Or.inl (by decide +kernel))
theorem tw_740 : dr_T (Jvm.Cond.code ({ cls := "DrillRowsModel", name := "goes", desc := "(ZZZ)Z" } : Jvm.MethodName) prog_6_method_4_code (4 : Nat) (Option.some Jvm.ClassFile.FieldType.boolean)) := dr_Tg (List.mem_of_getElem? (i := 775) (by decide +kernel)) (Or.inl (by decide +kernel))
theorem tw_741 : dr_T (Jvm.Cond.methodLink "DrillRowsLaw" (99 : Nat) ({ cls := "DrillRowsModel", name := "read", desc := "()I" } : Jvm.MethodName)) := dr_Tg (List.mem_of_getElem? (i := 776) (by decide +kernel)) (Or.inl (by decide +kernel))
theorem tw_742 : dr_T (Jvm.Cond.instanceMethod ({ cls := "DrillRowsModel", name := "read", desc := "()I" } : Jvm.MethodName)) := dr_Tg (List.mem_of_getElem? (i := 777) (by decide +kernel)) (Or.inl (by decide +kernel))
theorem tw_743 : dr_T (Jvm.Cond.selects "DrillRowsModel" ({ cls := "DrillRowsModel", name := "read", desc := "()I" } : Jvm.MethodName) ({ cls := "DrillRowsModel", name := "read", desc := "()I" } : Jvm.MethodName)) := dr_Tg (List.mem_of_getElem? (i := 778) (by decide +kernel)) (Or.inl (by decide +kernel))
theorem tw_744 : dr_T (Jvm.Cond.code ({ cls := "DrillRowsModel", name := "read", desc := "()I" } : Jvm.MethodName) prog_6_method_17_code (2 : Nat) (Option.some Jvm.ClassFile.FieldType.int)) := dr_Tg (List.mem_of_getElem? (i := 779) (by decide +kernel)) (Or.inl (by decide +kernel))
theorem tw_745 : dr_T (Jvm.Cond.methodLink "DrillRowsModel" (111 : Nat) ({ cls := "DrillRowsModel", name := "see", desc := "()I" } : Jvm.MethodName)) := dr_Tg (List.mem_of_getElem? (i := 780) (by decide +kernel)) (Or.inl (by decide +kernel))
theorem tw_747 : dr_T (Jvm.Cond.instanceMethod ({ cls := "DrillRowsModel", name := "see", desc := "()I" } : Jvm.MethodName)) := dr_Tg (List.mem_of_getElem? (i := 782) (by decide +kernel)) (Or.inl (by decide +kernel))
theorem tw_748 : dr_T (Jvm.Cond.code ({ cls := "DrillRowsModel", name := "see", desc := "()I" } : Jvm.MethodName) prog_6_method_7_code (1 : Nat) (Option.some Jvm.ClassFile.FieldType.int)) := dr_Tg (List.mem_of_getElem? (i := 783) (by decide +kernel)) (Or.inl (by decide +kernel))
theorem tw_749 : dr_T (Jvm.Cond.methodLink "DrillRowsModel" (104 : Nat) ({ cls := "DrillRowsModel", name := "here", desc := "()I" } : Jvm.MethodName)) := dr_Tg (List.mem_of_getElem? (i := 784) (by decide +kernel)) (Or.inl (by decide +kernel))
theorem tw_751 : dr_T (Jvm.Cond.instanceMethod ({ cls := "DrillRowsModel", name := "here", desc := "()I" } : Jvm.MethodName)) := dr_Tg (List.mem_of_getElem? (i := 786) (by decide +kernel)) (Or.inl (by decide +kernel))
theorem tw_752 : dr_T (Jvm.Cond.code ({ cls := "DrillRowsModel", name := "here", desc := "()I" } : Jvm.MethodName) prog_6_method_6_code (1 : Nat) (Option.some Jvm.ClassFile.FieldType.int)) := dr_Tg (List.mem_of_getElem? (i := 787) (by decide +kernel)) (Or.inl (by decide +kernel))
theorem tw_753 : dr_T (Jvm.Cond.methodLink "DrillRowsModel" (126 : Nat) ({ cls := "DrillRowsModel", name := "takes", desc := "(I)Z" } : Jvm.MethodName)) := dr_Tg (List.mem_of_getElem? (i := 788) (by decide +kernel)) (Or.inl (by decide +kernel))
theorem tw_755 : dr_T (Jvm.Cond.instanceMethod ({ cls := "DrillRowsModel", name := "takes", desc := "(I)Z" } : Jvm.MethodName)) := dr_Tg (List.mem_of_getElem? (i := 790) (by decide +kernel)) (Or.inl (by decide +kernel))
theorem tw_756 : dr_T (Jvm.Cond.code ({ cls := "DrillRowsModel", name := "takes", desc := "(I)Z" } : Jvm.MethodName) prog_6_method_10_code (2 : Nat) (Option.some Jvm.ClassFile.FieldType.boolean)) := dr_Tg (List.mem_of_getElem? (i := 791) (by decide +kernel)) (Or.inl (by decide +kernel))
theorem tw_757 : dr_T (Jvm.Cond.methodLink "DrillRowsModel" (133 : Nat) ({ cls := "DrillRowsModel", name := "eventRow", desc := "()V" } : Jvm.MethodName)) := dr_Tg (List.mem_of_getElem? (i := 792) (by decide +kernel)) (Or.inl (by decide +kernel))
theorem tw_759 : dr_T (Jvm.Cond.instanceMethod ({ cls := "DrillRowsModel", name := "eventRow", desc := "()V" } : Jvm.MethodName)) := dr_Tg (List.mem_of_getElem? (i := 794) (by decide +kernel)) (Or.inl (by decide +kernel))
theorem tw_760 : dr_T (Jvm.Cond.code ({ cls := "DrillRowsModel", name := "eventRow", desc := "()V" } : Jvm.MethodName) prog_6_method_13_code (3 : Nat) (Option.none : Option Jvm.ClassFile.FieldType)) := dr_Tg (List.mem_of_getElem? (i := 795) (by decide +kernel)) (Or.inl (by decide +kernel))
theorem tw_761 : dr_T (Jvm.Cond.methodLink "DrillRowsModel" (122 : Nat) ({ cls := "DrillRowsModel", name := "number", desc := "(II)I" } : Jvm.MethodName)) := dr_Tg (List.mem_of_getElem? (i := 796) (by decide +kernel)) (Or.inl (by decide +kernel))
theorem tw_763 : dr_T (Jvm.Cond.instanceMethod ({ cls := "DrillRowsModel", name := "number", desc := "(II)I" } : Jvm.MethodName)) := dr_Tg (List.mem_of_getElem? (i := 798) (by decide +kernel)) (Or.inl (by decide +kernel))
theorem tw_764 : dr_T (Jvm.Cond.code ({ cls := "DrillRowsModel", name := "number", desc := "(II)I" } : Jvm.MethodName) prog_6_method_12_code (5 : Nat) (Option.some Jvm.ClassFile.FieldType.int)) := dr_Tg (List.mem_of_getElem? (i := 799) (by decide +kernel)) (Or.inl (by decide +kernel))
theorem tw_765 : dr_T (Jvm.Cond.methodLink "DrillRowsModel" (118 : Nat) ({ cls := "DrillRowsModel", name := "isDigit", desc := "()Z" } : Jvm.MethodName)) := dr_Tg (List.mem_of_getElem? (i := 800) (by decide +kernel)) (Or.inl (by decide +kernel))
theorem tw_767 : dr_T (Jvm.Cond.instanceMethod ({ cls := "DrillRowsModel", name := "isDigit", desc := "()Z" } : Jvm.MethodName)) := dr_Tg (List.mem_of_getElem? (i := 802) (by decide +kernel)) (Or.inl (by decide +kernel))
theorem tw_768 : dr_T (Jvm.Cond.code ({ cls := "DrillRowsModel", name := "isDigit", desc := "()Z" } : Jvm.MethodName) prog_6_method_11_code (1 : Nat) (Option.some Jvm.ClassFile.FieldType.boolean)) := dr_Tg (List.mem_of_getElem? (i := 803) (by decide +kernel)) (Or.inl (by decide +kernel))
theorem tw_769 : dr_T (Jvm.Cond.methodLink "DrillRowsModel" (114 : Nat) ({ cls := "DrillRowsModel", name := "fail", desc := "(I)V" } : Jvm.MethodName)) := dr_Tg (List.mem_of_getElem? (i := 804) (by decide +kernel)) (Or.inl (by decide +kernel))
theorem tw_771 : dr_T (Jvm.Cond.instanceMethod ({ cls := "DrillRowsModel", name := "fail", desc := "(I)V" } : Jvm.MethodName)) := dr_Tg (List.mem_of_getElem? (i := 806) (by decide +kernel)) (Or.inl (by decide +kernel))
theorem tw_772 : dr_T (Jvm.Cond.code ({ cls := "DrillRowsModel", name := "fail", desc := "(I)V" } : Jvm.MethodName) prog_6_method_8_code (2 : Nat) (Option.none : Option Jvm.ClassFile.FieldType)) := dr_Tg (List.mem_of_getElem? (i := 807) (by decide +kernel)) (Or.inl (by decide +kernel))
theorem tw_773 : dr_T (Jvm.Cond.methodLink "DrillRowsModel" (130 : Nat) ({ cls := "DrillRowsModel", name := "take", desc := "(I)V" } : Jvm.MethodName)) := dr_Tg (List.mem_of_getElem? (i := 808) (by decide +kernel)) (Or.inl (by decide +kernel))
theorem tw_775 : dr_T (Jvm.Cond.instanceMethod ({ cls := "DrillRowsModel", name := "take", desc := "(I)V" } : Jvm.MethodName)) := dr_Tg (List.mem_of_getElem? (i := 810) (by decide +kernel)) (Or.inl (by decide +kernel))
theorem tw_776 : dr_T (Jvm.Cond.code ({ cls := "DrillRowsModel", name := "take", desc := "(I)V" } : Jvm.MethodName) prog_6_method_9_code (2 : Nat) (Option.none : Option Jvm.ClassFile.FieldType)) := dr_Tg (List.mem_of_getElem? (i := 811) (by decide +kernel)) (Or.inl (by decide +kernel))
theorem tw_777 : dr_T (Jvm.Cond.methodLink "DrillRowsModel" (136 : Nat) ({ cls := "DrillRowsModel", name := "aimRow", desc := "()V" } : Jvm.MethodName)) := dr_Tg (List.mem_of_getElem? (i := 812) (by decide +kernel)) (Or.inl (by decide +kernel))
theorem tw_779 : dr_T (Jvm.Cond.instanceMethod ({ cls := "DrillRowsModel", name := "aimRow", desc := "()V" } : Jvm.MethodName)) := dr_Tg (List.mem_of_getElem? (i := 814) (by decide +kernel)) (Or.inl (by decide +kernel))
theorem tw_780 : dr_T (Jvm.Cond.code ({ cls := "DrillRowsModel", name := "aimRow", desc := "()V" } : Jvm.MethodName) prog_6_method_14_code (3 : Nat) (Option.none : Option Jvm.ClassFile.FieldType)) := dr_Tg (List.mem_of_getElem? (i := 815) (by decide +kernel)) (Or.inl (by decide +kernel))
theorem tw_781 : dr_T (Jvm.Cond.methodLink "DrillRowsModel" (139 : Nat) ({ cls := "DrillRowsModel", name := "copy", desc := "(II)V" } : Jvm.MethodName)) := dr_Tg (List.mem_of_getElem? (i := 816) (by decide +kernel)) (Or.inl (by decide +kernel))
theorem tw_783 : dr_T (Jvm.Cond.instanceMethod ({ cls := "DrillRowsModel", name := "copy", desc := "(II)V" } : Jvm.MethodName)) := dr_Tg (List.mem_of_getElem? (i := 818) (by decide +kernel)) (Or.inl (by decide +kernel))
theorem tw_784 : dr_T (Jvm.Cond.code ({ cls := "DrillRowsModel", name := "copy", desc := "(II)V" } : Jvm.MethodName) prog_6_method_15_code (6 : Nat) (Option.none : Option Jvm.ClassFile.FieldType)) := dr_Tg (List.mem_of_getElem? (i := 819) (by decide +kernel)) (Or.inl (by decide +kernel))
theorem tw_785 : dr_T (Jvm.Cond.methodLink "DrillRowsModel" (143 : Nat) ({ cls := "DrillRowsModel", name := "size", desc := "(I)I" } : Jvm.MethodName)) := dr_Tg (List.mem_of_getElem? (i := 820) (by decide +kernel)) (Or.inl (by decide +kernel))
theorem tw_787 : dr_T (Jvm.Cond.instanceMethod ({ cls := "DrillRowsModel", name := "size", desc := "(I)I" } : Jvm.MethodName)) := dr_Tg (List.mem_of_getElem? (i := 822) (by decide +kernel)) (Or.inl (by decide +kernel))
theorem tw_788 : dr_T (Jvm.Cond.code ({ cls := "DrillRowsModel", name := "size", desc := "(I)I" } : Jvm.MethodName) prog_6_method_16_code (4 : Nat) (Option.some Jvm.ClassFile.FieldType.int)) := dr_Tg (List.mem_of_getElem? (i := 823) (by decide +kernel)) (Or.inl (by decide +kernel))
theorem tw_789 : dr_T (Jvm.Cond.methodLink "DrillRowsLaw" (103 : Nat) ({ cls := "DrillRowsModel", name := "place", desc := "()I" } : Jvm.MethodName)) := dr_Tg (List.mem_of_getElem? (i := 824) (by decide +kernel)) (Or.inl (by decide +kernel))
theorem tw_790 : dr_T (Jvm.Cond.instanceMethod ({ cls := "DrillRowsModel", name := "place", desc := "()I" } : Jvm.MethodName)) := dr_Tg (List.mem_of_getElem? (i := 825) (by decide +kernel)) (Or.inl (by decide +kernel))
theorem tw_791 : dr_T (Jvm.Cond.selects "DrillRowsModel" ({ cls := "DrillRowsModel", name := "place", desc := "()I" } : Jvm.MethodName) ({ cls := "DrillRowsModel", name := "place", desc := "()I" } : Jvm.MethodName)) := dr_Tg (List.mem_of_getElem? (i := 826) (by decide +kernel)) (Or.inl (by decide +kernel))
theorem tw_792 : dr_T (Jvm.Cond.code ({ cls := "DrillRowsModel", name := "place", desc := "()I" } : Jvm.MethodName) prog_6_method_18_code (1 : Nat) (Option.some Jvm.ClassFile.FieldType.int)) := dr_Tg (List.mem_of_getElem? (i := 827) (by decide +kernel)) (Or.inl (by decide +kernel))
theorem tw_793 : dr_T (Jvm.Cond.methodLink "DrillRowsLaw" (106 : Nat) ({ cls := "DrillRowsModel", name := "begin", desc := "()I" } : Jvm.MethodName)) := dr_Tg (List.mem_of_getElem? (i := 828) (by decide +kernel)) (Or.inl (by decide +kernel))
theorem tw_794 : dr_T (Jvm.Cond.instanceMethod ({ cls := "DrillRowsModel", name := "begin", desc := "()I" } : Jvm.MethodName)) := dr_Tg (List.mem_of_getElem? (i := 829) (by decide +kernel)) (Or.inl (by decide +kernel))
theorem tw_795 : dr_T (Jvm.Cond.selects "DrillRowsModel" ({ cls := "DrillRowsModel", name := "begin", desc := "()I" } : Jvm.MethodName) ({ cls := "DrillRowsModel", name := "begin", desc := "()I" } : Jvm.MethodName)) := dr_Tg (List.mem_of_getElem? (i := 830) (by decide +kernel)) (Or.inl (by decide +kernel))
theorem tw_796 : dr_T (Jvm.Cond.code ({ cls := "DrillRowsModel", name := "begin", desc := "()I" } : Jvm.MethodName) prog_6_method_23_code (2 : Nat) (Option.some Jvm.ClassFile.FieldType.int)) := dr_Tg (List.mem_of_getElem? (i := 831) (by decide +kernel)) (Or.inl (by decide +kernel))
theorem tw_797 : dr_T (Jvm.Cond.methodLink "DrillRowsModel" (164 : Nat) ({ cls := "DrillRowsModel", name := "look", desc := "(I)I" } : Jvm.MethodName)) := dr_Tg (List.mem_of_getElem? (i := 832) (by decide +kernel)) (Or.inl (by decide +kernel))
theorem tw_799 : dr_T (Jvm.Cond.instanceMethod ({ cls := "DrillRowsModel", name := "look", desc := "(I)I" } : Jvm.MethodName)) := dr_Tg (List.mem_of_getElem? (i := 834) (by decide +kernel)) (Or.inl (by decide +kernel))
theorem tw_800 : dr_T (Jvm.Cond.code ({ cls := "DrillRowsModel", name := "look", desc := "(I)I" } : Jvm.MethodName) prog_6_method_22_code (5 : Nat) (Option.some Jvm.ClassFile.FieldType.int)) := dr_Tg (List.mem_of_getElem? (i := 835) (by decide +kernel)) (Or.inl (by decide +kernel))
theorem tw_801 : dr_T (Jvm.Cond.methodLink "DrillRowsModel" (157 : Nat) ({ cls := "DrillRowsModel", name := "isDue", desc := "(II)Z" } : Jvm.MethodName)) := dr_Tg (List.mem_of_getElem? (i := 836) (by decide +kernel)) (Or.inl (by decide +kernel))
theorem tw_803 : dr_T (Jvm.Cond.instanceMethod ({ cls := "DrillRowsModel", name := "isDue", desc := "(II)Z" } : Jvm.MethodName)) := dr_Tg (List.mem_of_getElem? (i := 838) (by decide +kernel)) (Or.inl (by decide +kernel))
theorem tw_804 : dr_T (Jvm.Cond.code ({ cls := "DrillRowsModel", name := "isDue", desc := "(II)Z" } : Jvm.MethodName) prog_6_method_21_code (5 : Nat) (Option.some Jvm.ClassFile.FieldType.boolean)) := dr_Tg (List.mem_of_getElem? (i := 839) (by decide +kernel)) (Or.inl (by decide +kernel))
theorem tw_805 : dr_T (Jvm.Cond.methodLink "DrillRowsModel" (150 : Nat) ({ cls := "DrillRowsModel", name := "relative", desc := "(I)I" } : Jvm.MethodName)) := dr_Tg (List.mem_of_getElem? (i := 840) (by decide +kernel)) (Or.inl (by decide +kernel))
theorem tw_807 : dr_T (Jvm.Cond.instanceMethod ({ cls := "DrillRowsModel", name := "relative", desc := "(I)I" } : Jvm.MethodName)) := dr_Tg (List.mem_of_getElem? (i := 842) (by decide +kernel)) (Or.inl (by decide +kernel))
theorem tw_808 : dr_T (Jvm.Cond.code ({ cls := "DrillRowsModel", name := "relative", desc := "(I)I" } : Jvm.MethodName) prog_6_method_19_code (2 : Nat) (Option.some Jvm.ClassFile.FieldType.int)) := dr_Tg (List.mem_of_getElem? (i := 843) (by decide +kernel)) (Or.inl (by decide +kernel))
theorem tw_809 : dr_T (Jvm.Cond.methodLink "DrillRowsModel" (153 : Nat) ({ cls := "DrillRowsModel", name := "first", desc := "(III)I" } : Jvm.MethodName)) := dr_Tg (List.mem_of_getElem? (i := 844) (by decide +kernel)) (Or.inl (by decide +kernel))
theorem tw_811 : dr_T (Jvm.Cond.instanceMethod ({ cls := "DrillRowsModel", name := "first", desc := "(III)I" } : Jvm.MethodName)) := dr_Tg (List.mem_of_getElem? (i := 846) (by decide +kernel)) (Or.inl (by decide +kernel))
theorem tw_812 : dr_T (Jvm.Cond.code ({ cls := "DrillRowsModel", name := "first", desc := "(III)I" } : Jvm.MethodName) prog_6_method_20_code (5 : Nat) (Option.some Jvm.ClassFile.FieldType.int)) := dr_Tg (List.mem_of_getElem? (i := 847) (by decide +kernel)) (Or.inl (by decide +kernel))
theorem tw_813 : dr_T (Jvm.Cond.methodLink "DrillRowsLaw" (110 : Nat) ({ cls := "DrillRowsModel", name := "stop", desc := "(I)V" } : Jvm.MethodName)) := dr_Tg (List.mem_of_getElem? (i := 848) (by decide +kernel)) (Or.inl (by decide +kernel))
theorem tw_814 : dr_T (Jvm.Cond.instanceMethod ({ cls := "DrillRowsModel", name := "stop", desc := "(I)V" } : Jvm.MethodName)) := dr_Tg (List.mem_of_getElem? (i := 849) (by decide +kernel)) (Or.inl (by decide +kernel))
theorem tw_815 : dr_T (Jvm.Cond.selects "DrillRowsModel" ({ cls := "DrillRowsModel", name := "stop", desc := "(I)V" } : Jvm.MethodName) ({ cls := "DrillRowsModel", name := "stop", desc := "(I)V" } : Jvm.MethodName)) := dr_Tg (List.mem_of_getElem? (i := 850) (by decide +kernel)) (Or.inl (by decide +kernel))
theorem tw_816 : dr_T (Jvm.Cond.code ({ cls := "DrillRowsModel", name := "stop", desc := "(I)V" } : Jvm.MethodName) prog_6_method_25_code (3 : Nat) (Option.none : Option Jvm.ClassFile.FieldType)) := dr_Tg (List.mem_of_getElem? (i := 851) (by decide +kernel)) (Or.inl (by decide +kernel))
theorem tw_817 : dr_T (Jvm.Cond.methodLink "DrillRowsModel" (167 : Nat) ({ cls := "DrillRowsModel", name := "isDrill", desc := "(I)Z" } : Jvm.MethodName)) := dr_Tg (List.mem_of_getElem? (i := 852) (by decide +kernel)) (Or.inl (by decide +kernel))
theorem tw_819 : dr_T (Jvm.Cond.instanceMethod ({ cls := "DrillRowsModel", name := "isDrill", desc := "(I)Z" } : Jvm.MethodName)) := dr_Tg (List.mem_of_getElem? (i := 854) (by decide +kernel)) (Or.inl (by decide +kernel))
theorem tw_820 : dr_T (Jvm.Cond.code ({ cls := "DrillRowsModel", name := "isDrill", desc := "(I)Z" } : Jvm.MethodName) prog_6_method_24_code (2 : Nat) (Option.some Jvm.ClassFile.FieldType.boolean)) := dr_Tg (List.mem_of_getElem? (i := 855) (by decide +kernel)) (Or.inl (by decide +kernel))
theorem tw_821 : dr_T (Jvm.Cond.methodLink "DrillRowsLaw" (114 : Nat) ({ cls := "DrillRowsModel", name := "unit", desc := "(II)V" } : Jvm.MethodName)) := dr_Tg (List.mem_of_getElem? (i := 856) (by decide +kernel)) (Or.inl (by decide +kernel))
theorem tw_822 : dr_T (Jvm.Cond.instanceMethod ({ cls := "DrillRowsModel", name := "unit", desc := "(II)V" } : Jvm.MethodName)) := dr_Tg (List.mem_of_getElem? (i := 857) (by decide +kernel)) (Or.inl (by decide +kernel))
theorem tw_823 : dr_T (Jvm.Cond.selects "DrillRowsModel" ({ cls := "DrillRowsModel", name := "unit", desc := "(II)V" } : Jvm.MethodName) ({ cls := "DrillRowsModel", name := "unit", desc := "(II)V" } : Jvm.MethodName)) := dr_Tg (List.mem_of_getElem? (i := 858) (by decide +kernel)) (Or.inl (by decide +kernel))
theorem tw_824 : dr_T (Jvm.Cond.code ({ cls := "DrillRowsModel", name := "unit", desc := "(II)V" } : Jvm.MethodName) prog_6_method_26_code (4 : Nat) (Option.none : Option Jvm.ClassFile.FieldType)) := dr_Tg (List.mem_of_getElem? (i := 859) (by decide +kernel)) (Or.inl (by decide +kernel))
theorem tw_825 : dr_T (Jvm.Cond.methodLink "DrillRowsLaw" (118 : Nat) ({ cls := "DrillRowsModel", name := "real", desc := "(I)I" } : Jvm.MethodName)) := dr_Tg (List.mem_of_getElem? (i := 860) (by decide +kernel)) (Or.inl (by decide +kernel))
theorem tw_826 : dr_T (Jvm.Cond.instanceMethod ({ cls := "DrillRowsModel", name := "real", desc := "(I)I" } : Jvm.MethodName)) := dr_Tg (List.mem_of_getElem? (i := 861) (by decide +kernel)) (Or.inl (by decide +kernel))
theorem tw_827 : dr_T (Jvm.Cond.selects "DrillRowsModel" ({ cls := "DrillRowsModel", name := "real", desc := "(I)I" } : Jvm.MethodName) ({ cls := "DrillRowsModel", name := "real", desc := "(I)I" } : Jvm.MethodName)) := dr_Tg (List.mem_of_getElem? (i := 862) (by decide +kernel)) (Or.inl (by decide +kernel))
theorem tw_828 : dr_T (Jvm.Cond.code ({ cls := "DrillRowsModel", name := "real", desc := "(I)I" } : Jvm.MethodName) prog_6_method_27_code (3 : Nat) (Option.some Jvm.ClassFile.FieldType.int)) := dr_Tg (List.mem_of_getElem? (i := 863) (by decide +kernel)) (Or.inl (by decide +kernel))
theorem tw_829 : dr_T (Jvm.Cond.methodLink "DrillRowsLaw" (122 : Nat) ({ cls := "DrillRowsModel", name := "act", desc := "(II)I" } : Jvm.MethodName)) := dr_Tg (List.mem_of_getElem? (i := 864) (by decide +kernel)) (Or.inl (by decide +kernel))
theorem tw_830 : dr_T (Jvm.Cond.instanceMethod ({ cls := "DrillRowsModel", name := "act", desc := "(II)I" } : Jvm.MethodName)) := dr_Tg (List.mem_of_getElem? (i := 865) (by decide +kernel)) (Or.inl (by decide +kernel))
theorem tw_831 : dr_T (Jvm.Cond.selects "DrillRowsModel" ({ cls := "DrillRowsModel", name := "act", desc := "(II)I" } : Jvm.MethodName) ({ cls := "DrillRowsModel", name := "act", desc := "(II)I" } : Jvm.MethodName)) := dr_Tg (List.mem_of_getElem? (i := 866) (by decide +kernel)) (Or.inl (by decide +kernel))
theorem tw_832 : dr_T (Jvm.Cond.code ({ cls := "DrillRowsModel", name := "act", desc := "(II)I" } : Jvm.MethodName) prog_6_method_29_code (4 : Nat) (Option.some Jvm.ClassFile.FieldType.int)) := dr_Tg (List.mem_of_getElem? (i := 867) (by decide +kernel)) (Or.inl (by decide +kernel))
theorem tw_833 : dr_T (Jvm.Cond.methodLink "DrillRowsModel" (170 : Nat) ({ cls := "DrillRowsModel", name := "does", desc := "(II)I" } : Jvm.MethodName)) := dr_Tg (List.mem_of_getElem? (i := 868) (by decide +kernel)) (Or.inl (by decide +kernel))
theorem tw_835 : dr_T (Jvm.Cond.instanceMethod ({ cls := "DrillRowsModel", name := "does", desc := "(II)I" } : Jvm.MethodName)) := dr_Tg (List.mem_of_getElem? (i := 870) (by decide +kernel)) (Or.inl (by decide +kernel))
theorem tw_836 : dr_T (Jvm.Cond.code ({ cls := "DrillRowsModel", name := "does", desc := "(II)I" } : Jvm.MethodName) prog_6_method_28_code (3 : Nat) (Option.some Jvm.ClassFile.FieldType.int)) := dr_Tg (List.mem_of_getElem? (i := 871) (by decide +kernel)) (Or.inl (by decide +kernel))
theorem tw_837 : dr_T (Jvm.Cond.methodLink "DrillRowsLaw" (153 : Nat) ({ cls := "DrillRowsModel", name := "play", desc := "(II)I" } : Jvm.MethodName)) := dr_Tg (List.mem_of_getElem? (i := 872) (by decide +kernel)) (Or.inl (by decide +kernel))
theorem tw_838 : dr_T (Jvm.Cond.instanceMethod ({ cls := "DrillRowsModel", name := "play", desc := "(II)I" } : Jvm.MethodName)) := dr_Tg (List.mem_of_getElem? (i := 873) (by decide +kernel)) (Or.inl (by decide +kernel))
theorem tw_839 : dr_T (Jvm.Cond.selects "DrillRowsModel" ({ cls := "DrillRowsModel", name := "play", desc := "(II)I" } : Jvm.MethodName) ({ cls := "DrillRowsModel", name := "play", desc := "(II)I" } : Jvm.MethodName)) := dr_Tg (List.mem_of_getElem? (i := 874) (by decide +kernel)) (Or.inl (by decide +kernel))
theorem tw_840 : dr_T (Jvm.Cond.code ({ cls := "DrillRowsModel", name := "play", desc := "(II)I" } : Jvm.MethodName) prog_6_method_30_code (5 : Nat) (Option.some Jvm.ClassFile.FieldType.int)) := dr_Tg (List.mem_of_getElem? (i := 875) (by decide +kernel)) (Or.inl (by decide +kernel))
theorem tw_841 : dr_T (Jvm.Cond.constant "DrillRowsModel" (173 : Nat) (1103515245 : Int32)) := dr_Tg (List.mem_of_getElem? (i := 876) (by decide +kernel)) (Or.inl (by decide +kernel))
theorem tw_842 : dr_T (Jvm.Cond.methodLink "DrillRowsLaw" (125 : Nat) ({ cls := "DrillRowsModel", name := "tick", desc := "(I)I" } : Jvm.MethodName)) := dr_Tg (List.mem_of_getElem? (i := 877) (by decide +kernel)) (Or.inl (by decide +kernel))
theorem tw_843 : dr_T (Jvm.Cond.instanceMethod ({ cls := "DrillRowsModel", name := "tick", desc := "(I)I" } : Jvm.MethodName)) := dr_Tg (List.mem_of_getElem? (i := 878) (by decide +kernel)) (Or.inl (by decide +kernel))
theorem tw_844 : dr_T (Jvm.Cond.selects "DrillRowsModel" ({ cls := "DrillRowsModel", name := "tick", desc := "(I)I" } : Jvm.MethodName) ({ cls := "DrillRowsModel", name := "tick", desc := "(I)I" } : Jvm.MethodName)) := dr_Tg (List.mem_of_getElem? (i := 879) (by decide +kernel)) (Or.inl (by decide +kernel))
theorem tw_845 : dr_T (Jvm.Cond.code ({ cls := "DrillRowsModel", name := "tick", desc := "(I)I" } : Jvm.MethodName) prog_6_method_31_code (5 : Nat) (Option.some Jvm.ClassFile.FieldType.int)) := dr_Tg (List.mem_of_getElem? (i := 880) (by decide +kernel)) (Or.inl (by decide +kernel))
theorem tw_846 : dr_T (Jvm.Cond.constant "DrillRowsModel" (174 : Nat) (99999 : Int32)) := dr_Tg (List.mem_of_getElem? (i := 881) (by decide +kernel)) (Or.inl (by decide +kernel))
theorem tw_847 : dr_T (Jvm.Cond.methodLink "DrillRowsLaw" (129 : Nat) ({ cls := "DrillRowsModel", name := "event", desc := "(III)I" } : Jvm.MethodName)) := dr_Tg (List.mem_of_getElem? (i := 882) (by decide +kernel)) (Or.inl (by decide +kernel))
theorem tw_848 : dr_T (Jvm.Cond.instanceMethod ({ cls := "DrillRowsModel", name := "event", desc := "(III)I" } : Jvm.MethodName)) := dr_Tg (List.mem_of_getElem? (i := 883) (by decide +kernel)) (Or.inl (by decide +kernel))
theorem tw_849 : dr_T (Jvm.Cond.selects "DrillRowsModel" ({ cls := "DrillRowsModel", name := "event", desc := "(III)I" } : Jvm.MethodName) ({ cls := "DrillRowsModel", name := "event", desc := "(III)I" } : Jvm.MethodName)) := dr_Tg (List.mem_of_getElem? (i := 884) (by decide +kernel)) (Or.inl (by decide +kernel))
theorem tw_850 : dr_T (Jvm.Cond.code ({ cls := "DrillRowsModel", name := "event", desc := "(III)I" } : Jvm.MethodName) prog_6_method_32_code (6 : Nat) (Option.some Jvm.ClassFile.FieldType.int)) := dr_Tg (List.mem_of_getElem? (i := 885) (by decide +kernel)) (Or.inl (by decide +kernel))
theorem tw_851 : dr_T (Jvm.Cond.methodLink "DrillRowsLaw" (132 : Nat) ({ cls := "DrillRowsModel", name := "seen", desc := "(III)I" } : Jvm.MethodName)) := dr_Tg (List.mem_of_getElem? (i := 886) (by decide +kernel)) (Or.inl (by decide +kernel))
theorem tw_852 : dr_T (Jvm.Cond.instanceMethod ({ cls := "DrillRowsModel", name := "seen", desc := "(III)I" } : Jvm.MethodName)) := dr_Tg (List.mem_of_getElem? (i := 887) (by decide +kernel)) (Or.inl (by decide +kernel))
theorem tw_853 : dr_T (Jvm.Cond.selects "DrillRowsModel" ({ cls := "DrillRowsModel", name := "seen", desc := "(III)I" } : Jvm.MethodName) ({ cls := "DrillRowsModel", name := "seen", desc := "(III)I" } : Jvm.MethodName)) := dr_Tg (List.mem_of_getElem? (i := 888) (by decide +kernel)) (Or.inl (by decide +kernel))
theorem tw_854 : dr_T (Jvm.Cond.code ({ cls := "DrillRowsModel", name := "seen", desc := "(III)I" } : Jvm.MethodName) prog_6_method_33_code (7 : Nat) (Option.some Jvm.ClassFile.FieldType.int)) := dr_Tg (List.mem_of_getElem? (i := 889) (by decide +kernel)) (Or.inl (by decide +kernel))
theorem tw_855 : dr_T (Jvm.Cond.methodLink "DrillRowsLaw" (135 : Nat) ({ cls := "DrillRowsModel", name := "fault", desc := "(II)Z" } : Jvm.MethodName)) := dr_Tg (List.mem_of_getElem? (i := 890) (by decide +kernel)) (Or.inl (by decide +kernel))
theorem tw_856 : dr_T (Jvm.Cond.instanceMethod ({ cls := "DrillRowsModel", name := "fault", desc := "(II)Z" } : Jvm.MethodName)) := dr_Tg (List.mem_of_getElem? (i := 891) (by decide +kernel)) (Or.inl (by decide +kernel))
theorem tw_857 : dr_T (Jvm.Cond.selects "DrillRowsModel" ({ cls := "DrillRowsModel", name := "fault", desc := "(II)Z" } : Jvm.MethodName) ({ cls := "DrillRowsModel", name := "fault", desc := "(II)Z" } : Jvm.MethodName)) := dr_Tg (List.mem_of_getElem? (i := 892) (by decide +kernel)) (Or.inl (by decide +kernel))
theorem tw_858 : dr_T (Jvm.Cond.code ({ cls := "DrillRowsModel", name := "fault", desc := "(II)Z" } : Jvm.MethodName) prog_6_method_34_code (4 : Nat) (Option.some Jvm.ClassFile.FieldType.boolean)) := dr_Tg (List.mem_of_getElem? (i := 893) (by decide +kernel)) (Or.inl (by decide +kernel))
theorem tw_859 : dr_T (Jvm.Cond.methodLink "DrillRowsLaw" (138 : Nat) ({ cls := "DrillRowsModel", name := "aim", desc := "(II)I" } : Jvm.MethodName)) := dr_Tg (List.mem_of_getElem? (i := 894) (by decide +kernel)) (Or.inl (by decide +kernel))
theorem tw_860 : dr_T (Jvm.Cond.instanceMethod ({ cls := "DrillRowsModel", name := "aim", desc := "(II)I" } : Jvm.MethodName)) := dr_Tg (List.mem_of_getElem? (i := 895) (by decide +kernel)) (Or.inl (by decide +kernel))
theorem tw_861 : dr_T (Jvm.Cond.selects "DrillRowsModel" ({ cls := "DrillRowsModel", name := "aim", desc := "(II)I" } : Jvm.MethodName) ({ cls := "DrillRowsModel", name := "aim", desc := "(II)I" } : Jvm.MethodName)) := dr_Tg (List.mem_of_getElem? (i := 896) (by decide +kernel)) (Or.inl (by decide +kernel))
theorem tw_862 : dr_T (Jvm.Cond.code ({ cls := "DrillRowsModel", name := "aim", desc := "(II)I" } : Jvm.MethodName) prog_6_method_36_code (4 : Nat) (Option.some Jvm.ClassFile.FieldType.int)) := dr_Tg (List.mem_of_getElem? (i := 897) (by decide +kernel)) (Or.inl (by decide +kernel))
theorem tw_863 : dr_T (Jvm.Cond.methodLink "DrillRowsModel" (175 : Nat) ({ cls := "DrillRowsModel", name := "is", desc := "(II)I" } : Jvm.MethodName)) := dr_Tg (List.mem_of_getElem? (i := 898) (by decide +kernel)) (Or.inl (by decide +kernel))
theorem tw_865 : dr_T (Jvm.Cond.instanceMethod ({ cls := "DrillRowsModel", name := "is", desc := "(II)I" } : Jvm.MethodName)) := dr_Tg (List.mem_of_getElem? (i := 900) (by decide +kernel)) (Or.inl (by decide +kernel))
theorem tw_866 : dr_T (Jvm.Cond.code ({ cls := "DrillRowsModel", name := "is", desc := "(II)I" } : Jvm.MethodName) prog_6_method_35_code (6 : Nat) (Option.some Jvm.ClassFile.FieldType.int)) := dr_Tg (List.mem_of_getElem? (i := 901) (by decide +kernel)) (Or.inl (by decide +kernel))
theorem tw_867 : dr_T (Jvm.Cond.methodLink "DrillRowsLaw" (141 : Nat) ({ cls := "DrillRowsModel", name := "score", desc := "(II)I" } : Jvm.MethodName)) := dr_Tg (List.mem_of_getElem? (i := 902) (by decide +kernel)) (Or.inl (by decide +kernel))
theorem tw_868 : dr_T (Jvm.Cond.instanceMethod ({ cls := "DrillRowsModel", name := "score", desc := "(II)I" } : Jvm.MethodName)) := dr_Tg (List.mem_of_getElem? (i := 903) (by decide +kernel)) (Or.inl (by decide +kernel))
theorem tw_869 : dr_T (Jvm.Cond.selects "DrillRowsModel" ({ cls := "DrillRowsModel", name := "score", desc := "(II)I" } : Jvm.MethodName) ({ cls := "DrillRowsModel", name := "score", desc := "(II)I" } : Jvm.MethodName)) := dr_Tg (List.mem_of_getElem? (i := 904) (by decide +kernel)) (Or.inl (by decide +kernel))
theorem tw_870 : dr_T (Jvm.Cond.code ({ cls := "DrillRowsModel", name := "score", desc := "(II)I" } : Jvm.MethodName) prog_6_method_37_code (9 : Nat) (Option.some Jvm.ClassFile.FieldType.int)) := dr_Tg (List.mem_of_getElem? (i := 905) (by decide +kernel)) (Or.inl (by decide +kernel))
theorem tw_871 : dr_T (Jvm.Cond.methodLink "DrillRowsLaw" (144 : Nat) ({ cls := "DrillRowsModel", name := "compare", desc := "(II)I" } : Jvm.MethodName)) := dr_Tg (List.mem_of_getElem? (i := 906) (by decide +kernel)) (Or.inl (by decide +kernel))
theorem tw_872 : dr_T (Jvm.Cond.instanceMethod ({ cls := "DrillRowsModel", name := "compare", desc := "(II)I" } : Jvm.MethodName)) := dr_Tg (List.mem_of_getElem? (i := 907) (by decide +kernel)) (Or.inl (by decide +kernel))
theorem tw_873 : dr_T (Jvm.Cond.selects "DrillRowsModel" ({ cls := "DrillRowsModel", name := "compare", desc := "(II)I" } : Jvm.MethodName) ({ cls := "DrillRowsModel", name := "compare", desc := "(II)I" } : Jvm.MethodName)) := dr_Tg (List.mem_of_getElem? (i := 908) (by decide +kernel)) (Or.inl (by decide +kernel))
theorem tw_874 : dr_T (Jvm.Cond.code ({ cls := "DrillRowsModel", name := "compare", desc := "(II)I" } : Jvm.MethodName) prog_6_method_38_code (5 : Nat) (Option.some Jvm.ClassFile.FieldType.int)) := dr_Tg (List.mem_of_getElem? (i := 909) (by decide +kernel)) (Or.inl (by decide +kernel))
theorem tw_875 : dr_T (Jvm.Cond.methodLink "DrillRowsLaw" (147 : Nat) ({ cls := "DrillRowsModel", name := "observe", desc := "(III)I" } : Jvm.MethodName)) := dr_Tg (List.mem_of_getElem? (i := 910) (by decide +kernel)) (Or.inl (by decide +kernel))
theorem tw_876 : dr_T (Jvm.Cond.instanceMethod ({ cls := "DrillRowsModel", name := "observe", desc := "(III)I" } : Jvm.MethodName)) := dr_Tg (List.mem_of_getElem? (i := 911) (by decide +kernel)) (Or.inl (by decide +kernel))
theorem tw_877 : dr_T (Jvm.Cond.selects "DrillRowsModel" ({ cls := "DrillRowsModel", name := "observe", desc := "(III)I" } : Jvm.MethodName) ({ cls := "DrillRowsModel", name := "observe", desc := "(III)I" } : Jvm.MethodName)) := dr_Tg (List.mem_of_getElem? (i := 912) (by decide +kernel)) (Or.inl (by decide +kernel))
theorem tw_878 : dr_T (Jvm.Cond.code ({ cls := "DrillRowsModel", name := "observe", desc := "(III)I" } : Jvm.MethodName) prog_6_method_39_code (5 : Nat) (Option.some Jvm.ClassFile.FieldType.int)) := dr_Tg (List.mem_of_getElem? (i := 913) (by decide +kernel)) (Or.inl (by decide +kernel))
theorem tw_879 : dr_T (Jvm.Cond.methodLink "DrillRowsLaw" (150 : Nat) ({ cls := "DrillRowsModel", name := "row", desc := "(II)I" } : Jvm.MethodName)) := dr_Tg (List.mem_of_getElem? (i := 914) (by decide +kernel)) (Or.inl (by decide +kernel))
theorem tw_880 : dr_T (Jvm.Cond.instanceMethod ({ cls := "DrillRowsModel", name := "row", desc := "(II)I" } : Jvm.MethodName)) := dr_Tg (List.mem_of_getElem? (i := 915) (by decide +kernel)) (Or.inl (by decide +kernel))
theorem tw_881 : dr_T (Jvm.Cond.selects "DrillRowsModel" ({ cls := "DrillRowsModel", name := "row", desc := "(II)I" } : Jvm.MethodName) ({ cls := "DrillRowsModel", name := "row", desc := "(II)I" } : Jvm.MethodName)) := dr_Tg (List.mem_of_getElem? (i := 916) (by decide +kernel)) (Or.inl (by decide +kernel))
theorem tw_882 : dr_T (Jvm.Cond.code ({ cls := "DrillRowsModel", name := "row", desc := "(II)I" } : Jvm.MethodName) prog_6_method_40_code (3 : Nat) (Option.some Jvm.ClassFile.FieldType.int)) := dr_Tg (List.mem_of_getElem? (i := 917) (by decide +kernel)) (Or.inl (by decide +kernel))
theorem tw_883 : dr_T (Jvm.Cond.methodLink "DrillRowsLaw" (156 : Nat) ({ cls := "DrillRowsModel", name := "drill", desc := "(II)I" } : Jvm.MethodName)) := dr_Tg (List.mem_of_getElem? (i := 918) (by decide +kernel)) (Or.inl (by decide +kernel))
theorem tw_884 : dr_T (Jvm.Cond.instanceMethod ({ cls := "DrillRowsModel", name := "drill", desc := "(II)I" } : Jvm.MethodName)) := dr_Tg (List.mem_of_getElem? (i := 919) (by decide +kernel)) (Or.inl (by decide +kernel))
theorem tw_885 : dr_T (Jvm.Cond.selects "DrillRowsModel" ({ cls := "DrillRowsModel", name := "drill", desc := "(II)I" } : Jvm.MethodName) ({ cls := "DrillRowsModel", name := "drill", desc := "(II)I" } : Jvm.MethodName)) := dr_Tg (List.mem_of_getElem? (i := 920) (by decide +kernel)) (Or.inl (by decide +kernel))
theorem tw_886 : dr_T (Jvm.Cond.code ({ cls := "DrillRowsModel", name := "drill", desc := "(II)I" } : Jvm.MethodName) prog_6_method_41_code (6 : Nat) (Option.some Jvm.ClassFile.FieldType.int)) := dr_Tg (List.mem_of_getElem? (i := 921) (by decide +kernel)) (Or.inl (by decide +kernel))
theorem tw_887 : dr_T (Jvm.Cond.constantLong "DrillRowsLaw" (85 : Nat) (4294967295 : Int64)) := dr_Tg (List.mem_of_getElem? (i := 922) (by decide +kernel)) (Or.inl (by decide +kernel))
theorem tw_888 : dr_T (Jvm.Cond.arrayClass Jvm.ClassFile.FieldType.long) := dr_Tg (List.mem_of_getElem? (i := 923) (by decide +kernel)) (Or.inr ⟨_, rfl⟩)
theorem tp_0 : dr_T (.selects "java/lang/Throwable" ⟨"java/lang/Throwable", "fillInStackTrace", "(I)Ljava/lang/Throwable;"⟩ ⟨"java/lang/Throwable", "fillInStackTrace", "(I)Ljava/lang/Throwable;"⟩) := dr_Tg (List.mem_of_getElem? (i := 0) (by decide +kernel)) (Or.inl (by decide +kernel))
theorem tp_1 : dr_T (.selects "DrillRows$Tape" ⟨"DrillRows$Tape", "skipBlanks", "()V"⟩ ⟨"DrillRows$Tape", "skipBlanks", "()V"⟩) := dr_Tg (List.mem_of_getElem? (i := 1) (by decide +kernel)) (Or.inl (by decide +kernel))
theorem tp_2 : dr_T (.selects "DrillRows$Tape" ⟨"DrillRows$Tape", "nextByte", "()I"⟩ ⟨"DrillRows$Tape", "nextByte", "()I"⟩) := dr_Tg (List.mem_of_getElem? (i := 2) (by decide +kernel)) (Or.inl (by decide +kernel))
theorem tp_3 : dr_T (.selects "DrillRows$Tape" ⟨"DrillRows$Tape", "parseRow", "(LDrillRows$Script;)V"⟩ ⟨"DrillRows$Tape", "parseRow", "(LDrillRows$Script;)V"⟩) := dr_Tg (List.mem_of_getElem? (i := 3) (by decide +kernel)) (Or.inl (by decide +kernel))
theorem tp_4 : dr_T (.selects "DrillRows$Tape" ⟨"DrillRows$Tape", "accept", "(C)Z"⟩ ⟨"DrillRows$Tape", "accept", "(C)Z"⟩) := dr_Tg (List.mem_of_getElem? (i := 4) (by decide +kernel)) (Or.inl (by decide +kernel))
theorem tp_5 : dr_T (.selects "DrillRows$Tape" ⟨"DrillRows$Tape", "parseEvent", "(LDrillRows$Script;)V"⟩ ⟨"DrillRows$Tape", "parseEvent", "(LDrillRows$Script;)V"⟩) := dr_Tg (List.mem_of_getElem? (i := 5) (by decide +kernel)) (Or.inl (by decide +kernel))
theorem tp_6 : dr_T (.selects "DrillRows$Tape" ⟨"DrillRows$Tape", "parseNumber", "(II)I"⟩ ⟨"DrillRows$Tape", "parseNumber", "(II)I"⟩) := dr_Tg (List.mem_of_getElem? (i := 6) (by decide +kernel)) (Or.inl (by decide +kernel))
theorem tp_7 : dr_T (.selects "DrillRows$Tape" ⟨"DrillRows$Tape", "fail", "(I)V"⟩ ⟨"DrillRows$Tape", "fail", "(I)V"⟩) := dr_Tg (List.mem_of_getElem? (i := 7) (by decide +kernel)) (Or.inl (by decide +kernel))
theorem tp_8 : dr_T (.selects "DrillRows$Tape" ⟨"DrillRows$Tape", "expect", "(C)V"⟩ ⟨"DrillRows$Tape", "expect", "(C)V"⟩) := dr_Tg (List.mem_of_getElem? (i := 8) (by decide +kernel)) (Or.inl (by decide +kernel))
theorem tp_9 : dr_T (.selects "DrillRows$Tape" ⟨"DrillRows$Tape", "parseAim", "(LDrillRows$Script;)V"⟩ ⟨"DrillRows$Tape", "parseAim", "(LDrillRows$Script;)V"⟩) := dr_Tg (List.mem_of_getElem? (i := 9) (by decide +kernel)) (Or.inl (by decide +kernel))
theorem tp_10 : dr_T (.selects "DrillRows$Drill" ⟨"DrillRows$Drill", "dueSecond", "(I)I"⟩ ⟨"DrillRows$Drill", "dueSecond", "(I)I"⟩) := dr_Tg (List.mem_of_getElem? (i := 10) (by decide +kernel)) (Or.inl (by decide +kernel))
theorem tp_11 : dr_T (.selects "DrillRows$Drill" ⟨"DrillRows$Drill", "firstSecondOf", "(I)I"⟩ ⟨"DrillRows$Drill", "firstSecondOf", "(I)I"⟩) := dr_Tg (List.mem_of_getElem? (i := 11) (by decide +kernel)) (Or.inl (by decide +kernel))
theorem tp_12 : dr_T (.selects "DrillRows" ⟨"DrillRows", "knownDrill", "(I)LDrillRows$Drill;"⟩ ⟨"DrillRows", "knownDrill", "(I)LDrillRows$Drill;"⟩) := dr_Tg (List.mem_of_getElem? (i := 12) (by decide +kernel)) (Or.inl (by decide +kernel))
theorem tp_13 : dr_T (.selects "DrillRows$Drill" ⟨"DrillRows$Drill", "maySee", "(II)Z"⟩ ⟨"DrillRows$Drill", "maySee", "(II)Z"⟩) := dr_Tg (List.mem_of_getElem? (i := 13) (by decide +kernel)) (Or.inl (by decide +kernel))
theorem tp_14 : dr_T (.selects "DrillRows$Drill" ⟨"DrillRows$Drill", "hasActWithin", "(III)Z"⟩ ⟨"DrillRows$Drill", "hasActWithin", "(III)Z"⟩) := dr_Tg (List.mem_of_getElem? (i := 14) (by decide +kernel)) (Or.inl (by decide +kernel))
theorem tp_15 : dr_T (.selects "DrillRows" ⟨"DrillRows", "countUnits", "(I)I"⟩ ⟨"DrillRows", "countUnits", "(I)I"⟩) := dr_Tg (List.mem_of_getElem? (i := 15) (by decide +kernel)) (Or.inl (by decide +kernel))
theorem tp_16 : dr_T (.selects "DrillRowsModel" ⟨"DrillRowsModel", "goes", "(ZZZ)Z"⟩ ⟨"DrillRowsModel", "goes", "(ZZZ)Z"⟩) := dr_Tg (List.mem_of_getElem? (i := 16) (by decide +kernel)) (Or.inl (by decide +kernel))
theorem tp_17 : dr_T (.selects "DrillRowsModel" ⟨"DrillRowsModel", "see", "()I"⟩ ⟨"DrillRowsModel", "see", "()I"⟩) := dr_Tg (List.mem_of_getElem? (i := 17) (by decide +kernel)) (Or.inl (by decide +kernel))
theorem tp_18 : dr_T (.selects "DrillRowsModel" ⟨"DrillRowsModel", "here", "()I"⟩ ⟨"DrillRowsModel", "here", "()I"⟩) := dr_Tg (List.mem_of_getElem? (i := 18) (by decide +kernel)) (Or.inl (by decide +kernel))
theorem tp_19 : dr_T (.selects "DrillRowsModel" ⟨"DrillRowsModel", "takes", "(I)Z"⟩ ⟨"DrillRowsModel", "takes", "(I)Z"⟩) := dr_Tg (List.mem_of_getElem? (i := 19) (by decide +kernel)) (Or.inl (by decide +kernel))
theorem tp_20 : dr_T (.selects "DrillRowsModel" ⟨"DrillRowsModel", "eventRow", "()V"⟩ ⟨"DrillRowsModel", "eventRow", "()V"⟩) := dr_Tg (List.mem_of_getElem? (i := 20) (by decide +kernel)) (Or.inl (by decide +kernel))
theorem tp_21 : dr_T (.selects "DrillRowsModel" ⟨"DrillRowsModel", "number", "(II)I"⟩ ⟨"DrillRowsModel", "number", "(II)I"⟩) := dr_Tg (List.mem_of_getElem? (i := 21) (by decide +kernel)) (Or.inl (by decide +kernel))
theorem tp_22 : dr_T (.selects "DrillRowsModel" ⟨"DrillRowsModel", "isDigit", "()Z"⟩ ⟨"DrillRowsModel", "isDigit", "()Z"⟩) := dr_Tg (List.mem_of_getElem? (i := 22) (by decide +kernel)) (Or.inl (by decide +kernel))
theorem tp_23 : dr_T (.selects "DrillRowsModel" ⟨"DrillRowsModel", "fail", "(I)V"⟩ ⟨"DrillRowsModel", "fail", "(I)V"⟩) := dr_Tg (List.mem_of_getElem? (i := 23) (by decide +kernel)) (Or.inl (by decide +kernel))
theorem tp_24 : dr_T (.selects "DrillRowsModel" ⟨"DrillRowsModel", "take", "(I)V"⟩ ⟨"DrillRowsModel", "take", "(I)V"⟩) := dr_Tg (List.mem_of_getElem? (i := 24) (by decide +kernel)) (Or.inl (by decide +kernel))
theorem tp_25 : dr_T (.selects "DrillRowsModel" ⟨"DrillRowsModel", "aimRow", "()V"⟩ ⟨"DrillRowsModel", "aimRow", "()V"⟩) := dr_Tg (List.mem_of_getElem? (i := 25) (by decide +kernel)) (Or.inl (by decide +kernel))
theorem tp_26 : dr_T (.selects "DrillRowsModel" ⟨"DrillRowsModel", "copy", "(II)V"⟩ ⟨"DrillRowsModel", "copy", "(II)V"⟩) := dr_Tg (List.mem_of_getElem? (i := 26) (by decide +kernel)) (Or.inl (by decide +kernel))
theorem tp_27 : dr_T (.selects "DrillRowsModel" ⟨"DrillRowsModel", "size", "(I)I"⟩ ⟨"DrillRowsModel", "size", "(I)I"⟩) := dr_Tg (List.mem_of_getElem? (i := 27) (by decide +kernel)) (Or.inl (by decide +kernel))
theorem tp_28 : dr_T (.selects "DrillRowsModel" ⟨"DrillRowsModel", "look", "(I)I"⟩ ⟨"DrillRowsModel", "look", "(I)I"⟩) := dr_Tg (List.mem_of_getElem? (i := 28) (by decide +kernel)) (Or.inl (by decide +kernel))
theorem tp_29 : dr_T (.selects "DrillRowsModel" ⟨"DrillRowsModel", "isDue", "(II)Z"⟩ ⟨"DrillRowsModel", "isDue", "(II)Z"⟩) := dr_Tg (List.mem_of_getElem? (i := 29) (by decide +kernel)) (Or.inl (by decide +kernel))
theorem tp_30 : dr_T (.selects "DrillRowsModel" ⟨"DrillRowsModel", "relative", "(I)I"⟩ ⟨"DrillRowsModel", "relative", "(I)I"⟩) := dr_Tg (List.mem_of_getElem? (i := 30) (by decide +kernel)) (Or.inl (by decide +kernel))
theorem tp_31 : dr_T (.selects "DrillRowsModel" ⟨"DrillRowsModel", "first", "(III)I"⟩ ⟨"DrillRowsModel", "first", "(III)I"⟩) := dr_Tg (List.mem_of_getElem? (i := 31) (by decide +kernel)) (Or.inl (by decide +kernel))
theorem tp_32 : dr_T (.selects "DrillRowsModel" ⟨"DrillRowsModel", "isDrill", "(I)Z"⟩ ⟨"DrillRowsModel", "isDrill", "(I)Z"⟩) := dr_Tg (List.mem_of_getElem? (i := 32) (by decide +kernel)) (Or.inl (by decide +kernel))
theorem tp_33 : dr_T (.selects "DrillRowsModel" ⟨"DrillRowsModel", "does", "(II)I"⟩ ⟨"DrillRowsModel", "does", "(II)I"⟩) := dr_Tg (List.mem_of_getElem? (i := 33) (by decide +kernel)) (Or.inl (by decide +kernel))
theorem tp_34 : dr_T (.selects "DrillRowsModel" ⟨"DrillRowsModel", "is", "(II)I"⟩ ⟨"DrillRowsModel", "is", "(II)I"⟩) := dr_Tg (List.mem_of_getElem? (i := 34) (by decide +kernel)) (Or.inl (by decide +kernel))
theorem cl_D : dr_Cl 0 "DrillRows$Drill" nT_D 9 nt_D := ⟨rfl, by decide, fun w hw => dr_Tg (nw_D w hw) (Or.inl ((by decide +kernel : ∀ w ∈ u_ws "DrillRows$Drill" nT_D 9, (w.onTables && w.keeps) = true) w hw)), nd_D, nn_D⟩
theorem cl_S : dr_Cl 1 "DrillRows$Script" nT_S 13 nt_S := ⟨rfl, by decide, fun w hw => dr_Tg (nw_S w hw) (Or.inl ((by decide +kernel : ∀ w ∈ u_ws "DrillRows$Script" nT_S 13, (w.onTables && w.keeps) = true) w hw)), nd_S, nn_S⟩
theorem cl_T : dr_Cl 2 "DrillRows$Tape" nT_T 4 nt_T := ⟨rfl, by decide, fun w hw => dr_Tg (nw_T w hw) (Or.inl ((by decide +kernel : ∀ w ∈ u_ws "DrillRows$Tape" nT_T 4, (w.onTables && w.keeps) = true) w hw)), nd_T, nn_T⟩
theorem cl_R : dr_Cl 3 "DrillRows" nT_R 10 nt_R := ⟨rfl, by decide, fun w hw => dr_Tg (nw_R w hw) (Or.inl ((by decide +kernel : ∀ w ∈ u_ws "DrillRows" nT_R 10, (w.onTables && w.keeps) = true) w hw)), nd_R, nn_R⟩
theorem cl_M : dr_Cl 4 "DrillRowsModel" nT_M 32 nt_M := ⟨rfl, by decide, fun w hw => dr_Tg (nw_M w hw) (Or.inl ((by decide +kernel : ∀ w ∈ u_ws "DrillRowsModel" nT_M 32, (w.onTables && w.keeps) = true) w hw)), nd_M, nn_M⟩
theorem fl_T_9 : dr_L "DrillRows$Tape" 9 nT_T 0 := Or.inl tw_30
theorem fl_T_15 : dr_L "DrillRows$Tape" 15 nT_T 1 := Or.inl tw_31
theorem fl_T_19 : dr_L "DrillRows$Tape" 19 nT_T 2 := Or.inl tw_32
theorem fl_T_22 : dr_L "DrillRows$Tape" 22 nT_T 3 := Or.inl tw_33
theorem fl_S_9 : dr_L "DrillRows$Script" 9 nT_S 0 := Or.inl tw_50
theorem fl_S_15 : dr_L "DrillRows$Script" 15 nT_S 1 := Or.inl tw_51
theorem fl_D_64 : dr_L "DrillRows$Drill" 64 nT_S 1 := Or.inl tw_52
theorem fl_S_19 : dr_L "DrillRows$Script" 19 nT_S 2 := Or.inl tw_53
theorem fl_D_70 : dr_L "DrillRows$Drill" 70 nT_S 2 := Or.inl tw_54
theorem fl_S_22 : dr_L "DrillRows$Script" 22 nT_S 3 := Or.inl tw_55
theorem fl_D_61 : dr_L "DrillRows$Drill" 61 nT_S 3 := Or.inl tw_56
theorem fl_S_25 : dr_L "DrillRows$Script" 25 nT_S 4 := Or.inl tw_57
theorem fl_D_87 : dr_L "DrillRows$Drill" 87 nT_S 4 := Or.inl tw_58
theorem fl_R_145 : dr_L "DrillRows" 145 nT_S 4 := Or.inl tw_59
theorem fl_S_28 : dr_L "DrillRows$Script" 28 nT_S 5 := Or.inl tw_60
theorem fl_D_83 : dr_L "DrillRows$Drill" 83 nT_S 5 := Or.inl tw_61
theorem fl_R_148 : dr_L "DrillRows" 148 nT_S 5 := Or.inl tw_62
theorem fl_S_31 : dr_L "DrillRows$Script" 31 nT_S 6 := Or.inl tw_63
theorem fl_D_90 : dr_L "DrillRows$Drill" 90 nT_S 6 := Or.inl tw_64
theorem fl_R_152 : dr_L "DrillRows" 152 nT_S 6 := Or.inl tw_65
theorem fl_S_34 : dr_L "DrillRows$Script" 34 nT_S 7 := Or.inl tw_66
theorem fl_R_91 : dr_L "DrillRows" 91 nT_S 7 := Or.inl tw_67
theorem fl_S_38 : dr_L "DrillRows$Script" 38 nT_S 8 := Or.inl tw_68
theorem fl_D_96 : dr_L "DrillRows$Drill" 96 nT_S 8 := Or.inl tw_69
theorem fl_S_41 : dr_L "DrillRows$Script" 41 nT_S 9 := Or.inl tw_70
theorem fl_D_105 : dr_L "DrillRows$Drill" 105 nT_S 9 := Or.inl tw_71
theorem fl_S_44 : dr_L "DrillRows$Script" 44 nT_S 10 := Or.inl tw_72
theorem fl_D_102 : dr_L "DrillRows$Drill" 102 nT_S 10 := Or.inl tw_73
theorem fl_S_47 : dr_L "DrillRows$Script" 47 nT_S 11 := Or.inl tw_74
theorem fl_D_115 : dr_L "DrillRows$Drill" 115 nT_S 11 := Or.inl tw_75
theorem fl_S_50 : dr_L "DrillRows$Script" 50 nT_S 12 := Or.inl tw_76
theorem fl_R_87 : dr_L "DrillRows" 87 nT_S 12 := Or.inl tw_77
theorem fl_R_10 : dr_L "DrillRows" 10 nT_R 0 := Or.inl tw_111
theorem fl_R_19 : dr_L "DrillRows" 19 nT_R 1 := Or.inl tw_112
theorem fl_R_23 : dr_L "DrillRows" 23 nT_R 2 := Or.inl tw_113
theorem fl_R_26 : dr_L "DrillRows" 26 nT_R 3 := Or.inl tw_114
theorem fl_R_30 : dr_L "DrillRows" 30 nT_R 4 := Or.inl tw_115
theorem fl_R_35 : dr_L "DrillRows" 35 nT_R 5 := Or.inl tw_116
theorem fl_R_39 : dr_L "DrillRows" 39 nT_R 6 := Or.inl tw_117
theorem fl_R_42 : dr_L "DrillRows" 42 nT_R 7 := Or.inl tw_118
theorem fl_R_46 : dr_L "DrillRows" 46 nT_R 8 := Or.inl tw_119
theorem fl_R_49 : dr_L "DrillRows" 49 nT_R 9 := Or.inl tw_120
theorem fl_D_35 : dr_L "DrillRows$Drill" 35 nT_D 0 := Or.inl tw_356
theorem fl_R_136 : dr_L "DrillRows" 136 nT_D 0 := Or.inl tw_357
theorem fl_D_39 : dr_L "DrillRows$Drill" 39 nT_D 1 := Or.inl tw_358
theorem fl_R_207 : dr_L "DrillRows" 207 nT_D 1 := Or.inl tw_359
theorem fl_D_9 : dr_L "DrillRows$Drill" 9 nT_D 2 := Or.inl tw_360
theorem fl_R_109 : dr_L "DrillRows" 109 nT_D 2 := Or.inl tw_361
theorem fl_D_15 : dr_L "DrillRows$Drill" 15 nT_D 3 := Or.inl tw_362
theorem fl_D_19 : dr_L "DrillRows$Drill" 19 nT_D 4 := Or.inl tw_363
theorem fl_R_216 : dr_L "DrillRows" 216 nT_D 4 := Or.inl tw_364
theorem fl_D_23 : dr_L "DrillRows$Drill" 23 nT_D 5 := Or.inl tw_365
theorem fl_D_26 : dr_L "DrillRows$Drill" 26 nT_D 6 := Or.inl tw_366
theorem fl_D_29 : dr_L "DrillRows$Drill" 29 nT_D 7 := Or.inl tw_367
theorem fl_D_32 : dr_L "DrillRows$Drill" 32 nT_D 8 := Or.inl tw_368
theorem fl_R_210 : dr_L "DrillRows" 210 nT_D 8 := Or.inl tw_369
theorem fl_M_87 : dr_L "DrillRowsModel" 87 nT_M 0 := Or.inl tw_629
theorem fl_M_147 : dr_L "DrillRowsModel" 147 nT_M 1 := Or.inl tw_630
theorem fl_M_94 : dr_L "DrillRowsModel" 94 nT_M 2 := Or.inl tw_631
theorem fl_M_7 : dr_L "DrillRowsModel" 7 nT_M 3 := Or.inl tw_632
theorem fl_M_13 : dr_L "DrillRowsModel" 13 nT_M 4 := Or.inl tw_633
theorem fl_M_101 : dr_L "DrillRowsModel" 101 nT_M 5 := Or.inl tw_634
theorem fl_M_108 : dr_L "DrillRowsModel" 108 nT_M 6 := Or.inl tw_635
theorem fl_M_17 : dr_L "DrillRowsModel" 17 nT_M 7 := Or.inl tw_636
theorem fl_M_21 : dr_L "DrillRowsModel" 21 nT_M 8 := Or.inl tw_637
theorem fl_M_24 : dr_L "DrillRowsModel" 24 nT_M 9 := Or.inl tw_638
theorem fl_M_27 : dr_L "DrillRowsModel" 27 nT_M 10 := Or.inl tw_639
theorem fl_M_30 : dr_L "DrillRowsModel" 30 nT_M 11 := Or.inl tw_640
theorem fl_M_33 : dr_L "DrillRowsModel" 33 nT_M 12 := Or.inl tw_641
theorem fl_M_36 : dr_L "DrillRowsModel" 36 nT_M 13 := Or.inl tw_642
theorem fl_M_39 : dr_L "DrillRowsModel" 39 nT_M 14 := Or.inl tw_643
theorem fl_M_42 : dr_L "DrillRowsModel" 42 nT_M 15 := Or.inl tw_644
theorem fl_M_45 : dr_L "DrillRowsModel" 45 nT_M 16 := Or.inl tw_645
theorem fl_M_48 : dr_L "DrillRowsModel" 48 nT_M 17 := Or.inl tw_646
theorem fl_M_51 : dr_L "DrillRowsModel" 51 nT_M 18 := Or.inl tw_647
theorem fl_M_161 : dr_L "DrillRowsModel" 161 nT_M 19 := Or.inl tw_648
theorem fl_M_54 : dr_L "DrillRowsModel" 54 nT_M 20 := Or.inl tw_649
theorem fl_M_57 : dr_L "DrillRowsModel" 57 nT_M 21 := Or.inl tw_650
theorem fl_M_60 : dr_L "DrillRowsModel" 60 nT_M 22 := Or.inl tw_651
theorem fl_M_63 : dr_L "DrillRowsModel" 63 nT_M 23 := Or.inl tw_652
theorem fl_M_66 : dr_L "DrillRowsModel" 66 nT_M 24 := Or.inl tw_653
theorem fl_M_69 : dr_L "DrillRowsModel" 69 nT_M 25 := Or.inl tw_654
theorem fl_M_72 : dr_L "DrillRowsModel" 72 nT_M 26 := Or.inl tw_655
theorem fl_M_178 : dr_L "DrillRowsModel" 178 nT_M 27 := Or.inl tw_656
theorem fl_M_75 : dr_L "DrillRowsModel" 75 nT_M 28 := Or.inl tw_657
theorem fl_M_78 : dr_L "DrillRowsModel" 78 nT_M 29 := Or.inl tw_658
theorem fl_M_81 : dr_L "DrillRowsModel" 81 nT_M 30 := Or.inl tw_659
theorem fl_M_84 : dr_L "DrillRowsModel" 84 nT_M 31 := Or.inl tw_660
abbrev mi_R_init : dr_MI := (ny_R_init, prog_1_method_1_code, 1, (Option.none : Option Jvm.ClassFile.FieldType), [])
theorem co_R_init : dr_code mi_R_init := Or.inl ⟨rfl, tw_20⟩
abbrev mi_R_sign : dr_MI := (ny_R_sign, prog_1_method_2_code, 4, (Option.some Jvm.ClassFile.FieldType.int), [])
theorem co_R_sign : dr_code mi_R_sign := Or.inl ⟨rfl, tw_154⟩
abbrev mi_R_read : dr_MI := (ny_R_read, prog_1_method_3_code, 2, (Option.some Jvm.ClassFile.FieldType.int), [])
theorem co_R_read : dr_code mi_R_read := Or.inl ⟨rfl, tw_256⟩
abbrev mi_R_place : dr_MI := (ny_R_place, prog_1_method_4_code, 1, (Option.some Jvm.ClassFile.FieldType.int), [])
theorem co_R_place : dr_code mi_R_place := Or.inl ⟨rfl, tw_145⟩
abbrev mi_R_begin : dr_MI := (ny_R_begin, prog_1_method_5_code, 2, (Option.some Jvm.ClassFile.FieldType.int), [])
theorem co_R_begin : dr_code mi_R_begin := Or.inl ⟨rfl, tw_347⟩
abbrev mi_R_stop : dr_MI := (ny_R_stop, prog_1_method_6_code, 4, (Option.none : Option Jvm.ClassFile.FieldType), [])
theorem co_R_stop : dr_code mi_R_stop := Or.inl ⟨rfl, tw_416⟩
abbrev mi_R_unit : dr_MI := (ny_R_unit, prog_1_method_7_code, 4, (Option.none : Option Jvm.ClassFile.FieldType), [])
theorem co_R_unit : dr_code mi_R_unit := Or.inl ⟨rfl, tw_444⟩
abbrev mi_R_real : dr_MI := (ny_R_real, prog_1_method_8_code, 3, (Option.some Jvm.ClassFile.FieldType.int), [])
theorem co_R_real : dr_code mi_R_real := Or.inl ⟨rfl, tw_453⟩
abbrev mi_R_act : dr_MI := (ny_R_act, prog_1_method_9_code, 4, (Option.some Jvm.ClassFile.FieldType.int), [])
theorem co_R_act : dr_code mi_R_act := Or.inl ⟨rfl, tw_460⟩
abbrev mi_R_tick : dr_MI := (ny_R_tick, prog_1_method_10_code, 7, (Option.some Jvm.ClassFile.FieldType.int), [])
theorem co_R_tick : dr_code mi_R_tick := Or.inl ⟨rfl, tw_477⟩
abbrev mi_R_event : dr_MI := (ny_R_event, prog_1_method_11_code, 5, (Option.some Jvm.ClassFile.FieldType.int), [])
theorem co_R_event : dr_code mi_R_event := Or.inl ⟨rfl, tw_486⟩
abbrev mi_R_seen : dr_MI := (ny_R_seen, prog_1_method_12_code, 5, (Option.some Jvm.ClassFile.FieldType.int), [])
theorem co_R_seen : dr_code mi_R_seen := Or.inl ⟨rfl, tw_500⟩
abbrev mi_R_fault : dr_MI := (ny_R_fault, prog_1_method_13_code, 4, (Option.some Jvm.ClassFile.FieldType.boolean), [])
theorem co_R_fault : dr_code mi_R_fault := Or.inl ⟨rfl, tw_517⟩
abbrev mi_R_aim : dr_MI := (ny_R_aim, prog_1_method_14_code, 4, (Option.some Jvm.ClassFile.FieldType.int), [])
theorem co_R_aim : dr_code mi_R_aim := Or.inl ⟨rfl, tw_529⟩
abbrev mi_R_score : dr_MI := (ny_R_score, prog_1_method_15_code, 6, (Option.some Jvm.ClassFile.FieldType.int), [])
theorem co_R_score : dr_code mi_R_score := Or.inl ⟨rfl, tw_549⟩
abbrev mi_R_compare : dr_MI := (ny_R_compare, prog_1_method_16_code, 8, (Option.some Jvm.ClassFile.FieldType.int), [])
theorem co_R_compare : dr_code mi_R_compare := Or.inl ⟨rfl, tw_584⟩
abbrev mi_R_observe : dr_MI := (ny_R_observe, prog_1_method_17_code, 7, (Option.some Jvm.ClassFile.FieldType.int), [])
theorem co_R_observe : dr_code mi_R_observe := Or.inl ⟨rfl, tw_591⟩
abbrev mi_R_row : dr_MI := (ny_R_row, prog_1_method_18_code, 3, (Option.some Jvm.ClassFile.FieldType.int), [])
theorem co_R_row : dr_code mi_R_row := Or.inl ⟨rfl, tw_601⟩
abbrev mi_R_play : dr_MI := (ny_R_play, prog_1_method_19_code, 4, (Option.some Jvm.ClassFile.FieldType.int), [])
theorem co_R_play : dr_code mi_R_play := Or.inl ⟨rfl, tw_609⟩
abbrev mi_R_drill : dr_MI := (ny_R_drill, prog_1_method_20_code, 4, (Option.some Jvm.ClassFile.FieldType.int), [])
theorem co_R_drill : dr_code mi_R_drill := Or.inl ⟨rfl, tw_618⟩
abbrev mi_R_knownDrill : dr_MI := (ny_R_knownDrill, prog_1_method_21_code, 3, (Option.some (Jvm.ClassFile.FieldType.object "DrillRows$Drill")), [])
theorem co_R_knownDrill : dr_code mi_R_knownDrill := Or.inl ⟨rfl, tw_420⟩
abbrev mi_R_countUnits : dr_MI := (ny_R_countUnits, prog_1_method_22_code, 7, (Option.some Jvm.ClassFile.FieldType.int), [])
theorem co_R_countUnits : dr_code mi_R_countUnits := Or.inl ⟨rfl, tw_622⟩
abbrev mi_R_inLowestTerms : dr_MI := (ny_R_inLowestTerms, prog_1_method_23_code, 4, (Option.some Jvm.ClassFile.FieldType.int), [])
theorem co_R_inLowestTerms : dr_code mi_R_inLowestTerms := Or.inl ⟨rfl, tw_577⟩
abbrev mi_M_init : dr_MI := (ny_M_init, prog_6_method_1_code, 2, (Option.none : Option Jvm.ClassFile.FieldType), [])
theorem co_M_init : dr_code mi_M_init := Or.inl ⟨rfl, tw_627⟩
abbrev mi_M_thrown : dr_MI := (ny_M_thrown, prog_6_method_2_code, 1, (Option.some Jvm.ClassFile.FieldType.int), [])
theorem co_M_thrown : dr_code mi_M_thrown := Or.inl ⟨rfl, tw_729⟩
abbrev mi_M_in : dr_MI := (ny_M_in, prog_6_method_3_code, 3, (Option.some Jvm.ClassFile.FieldType.boolean), [])
theorem co_M_in : dr_code mi_M_in := Or.inl ⟨rfl, tw_736⟩
abbrev mi_M_goes : dr_MI := (ny_M_goes, prog_6_method_4_code, 4, (Option.some Jvm.ClassFile.FieldType.boolean), [])
theorem co_M_goes : dr_code mi_M_goes := Or.inl ⟨rfl, tw_740⟩
abbrev mi_M_sign : dr_MI := (ny_M_sign, prog_6_method_5_code, 5, (Option.some Jvm.ClassFile.FieldType.int), [])
theorem co_M_sign : dr_code mi_M_sign := Or.inl ⟨rfl, tw_733⟩
abbrev mi_M_here : dr_MI := (ny_M_here, prog_6_method_6_code, 1, (Option.some Jvm.ClassFile.FieldType.int), [])
theorem co_M_here : dr_code mi_M_here := Or.inl ⟨rfl, tw_752⟩
abbrev mi_M_see : dr_MI := (ny_M_see, prog_6_method_7_code, 1, (Option.some Jvm.ClassFile.FieldType.int), [])
theorem co_M_see : dr_code mi_M_see := Or.inl ⟨rfl, tw_748⟩
abbrev mi_M_fail : dr_MI := (ny_M_fail, prog_6_method_8_code, 2, (Option.none : Option Jvm.ClassFile.FieldType), [])
theorem co_M_fail : dr_code mi_M_fail := Or.inl ⟨rfl, tw_772⟩
abbrev mi_M_take : dr_MI := (ny_M_take, prog_6_method_9_code, 2, (Option.none : Option Jvm.ClassFile.FieldType), [])
theorem co_M_take : dr_code mi_M_take := Or.inl ⟨rfl, tw_776⟩
abbrev mi_M_takes : dr_MI := (ny_M_takes, prog_6_method_10_code, 2, (Option.some Jvm.ClassFile.FieldType.boolean), [])
theorem co_M_takes : dr_code mi_M_takes := Or.inl ⟨rfl, tw_756⟩
abbrev mi_M_isDigit : dr_MI := (ny_M_isDigit, prog_6_method_11_code, 1, (Option.some Jvm.ClassFile.FieldType.boolean), [])
theorem co_M_isDigit : dr_code mi_M_isDigit := Or.inl ⟨rfl, tw_768⟩
abbrev mi_M_number : dr_MI := (ny_M_number, prog_6_method_12_code, 5, (Option.some Jvm.ClassFile.FieldType.int), [])
theorem co_M_number : dr_code mi_M_number := Or.inl ⟨rfl, tw_764⟩
abbrev mi_M_eventRow : dr_MI := (ny_M_eventRow, prog_6_method_13_code, 3, (Option.none : Option Jvm.ClassFile.FieldType), [])
theorem co_M_eventRow : dr_code mi_M_eventRow := Or.inl ⟨rfl, tw_760⟩
abbrev mi_M_aimRow : dr_MI := (ny_M_aimRow, prog_6_method_14_code, 3, (Option.none : Option Jvm.ClassFile.FieldType), [])
theorem co_M_aimRow : dr_code mi_M_aimRow := Or.inl ⟨rfl, tw_780⟩
abbrev mi_M_copy : dr_MI := (ny_M_copy, prog_6_method_15_code, 6, (Option.none : Option Jvm.ClassFile.FieldType), [])
theorem co_M_copy : dr_code mi_M_copy := Or.inl ⟨rfl, tw_784⟩
abbrev mi_M_size : dr_MI := (ny_M_size, prog_6_method_16_code, 4, (Option.some Jvm.ClassFile.FieldType.int), [])
theorem co_M_size : dr_code mi_M_size := Or.inl ⟨rfl, tw_788⟩
abbrev mi_M_read : dr_MI := (ny_M_read, prog_6_method_17_code, 2, (Option.some Jvm.ClassFile.FieldType.int), [])
theorem co_M_read : dr_code mi_M_read := Or.inl ⟨rfl, tw_744⟩
abbrev mi_M_place : dr_MI := (ny_M_place, prog_6_method_18_code, 1, (Option.some Jvm.ClassFile.FieldType.int), [])
theorem co_M_place : dr_code mi_M_place := Or.inl ⟨rfl, tw_792⟩
abbrev mi_M_relative : dr_MI := (ny_M_relative, prog_6_method_19_code, 2, (Option.some Jvm.ClassFile.FieldType.int), [])
theorem co_M_relative : dr_code mi_M_relative := Or.inl ⟨rfl, tw_808⟩
abbrev mi_M_first : dr_MI := (ny_M_first, prog_6_method_20_code, 5, (Option.some Jvm.ClassFile.FieldType.int), [])
theorem co_M_first : dr_code mi_M_first := Or.inl ⟨rfl, tw_812⟩
abbrev mi_M_isDue : dr_MI := (ny_M_isDue, prog_6_method_21_code, 5, (Option.some Jvm.ClassFile.FieldType.boolean), [])
theorem co_M_isDue : dr_code mi_M_isDue := Or.inl ⟨rfl, tw_804⟩
abbrev mi_M_look : dr_MI := (ny_M_look, prog_6_method_22_code, 5, (Option.some Jvm.ClassFile.FieldType.int), [])
theorem co_M_look : dr_code mi_M_look := Or.inl ⟨rfl, tw_800⟩
abbrev mi_M_begin : dr_MI := (ny_M_begin, prog_6_method_23_code, 2, (Option.some Jvm.ClassFile.FieldType.int), [])
theorem co_M_begin : dr_code mi_M_begin := Or.inl ⟨rfl, tw_796⟩
abbrev mi_M_isDrill : dr_MI := (ny_M_isDrill, prog_6_method_24_code, 2, (Option.some Jvm.ClassFile.FieldType.boolean), [])
theorem co_M_isDrill : dr_code mi_M_isDrill := Or.inl ⟨rfl, tw_820⟩
abbrev mi_M_stop : dr_MI := (ny_M_stop, prog_6_method_25_code, 3, (Option.none : Option Jvm.ClassFile.FieldType), [])
theorem co_M_stop : dr_code mi_M_stop := Or.inl ⟨rfl, tw_816⟩
abbrev mi_M_unit : dr_MI := (ny_M_unit, prog_6_method_26_code, 4, (Option.none : Option Jvm.ClassFile.FieldType), [])
theorem co_M_unit : dr_code mi_M_unit := Or.inl ⟨rfl, tw_824⟩
abbrev mi_M_real : dr_MI := (ny_M_real, prog_6_method_27_code, 3, (Option.some Jvm.ClassFile.FieldType.int), [])
theorem co_M_real : dr_code mi_M_real := Or.inl ⟨rfl, tw_828⟩
abbrev mi_M_does : dr_MI := (ny_M_does, prog_6_method_28_code, 3, (Option.some Jvm.ClassFile.FieldType.int), [])
theorem co_M_does : dr_code mi_M_does := Or.inl ⟨rfl, tw_836⟩
abbrev mi_M_act : dr_MI := (ny_M_act, prog_6_method_29_code, 4, (Option.some Jvm.ClassFile.FieldType.int), [])
theorem co_M_act : dr_code mi_M_act := Or.inl ⟨rfl, tw_832⟩
abbrev mi_M_play : dr_MI := (ny_M_play, prog_6_method_30_code, 5, (Option.some Jvm.ClassFile.FieldType.int), [])
theorem co_M_play : dr_code mi_M_play := Or.inl ⟨rfl, tw_840⟩
abbrev mi_M_tick : dr_MI := (ny_M_tick, prog_6_method_31_code, 5, (Option.some Jvm.ClassFile.FieldType.int), [])
theorem co_M_tick : dr_code mi_M_tick := Or.inl ⟨rfl, tw_845⟩
abbrev mi_M_event : dr_MI := (ny_M_event, prog_6_method_32_code, 6, (Option.some Jvm.ClassFile.FieldType.int), [])
theorem co_M_event : dr_code mi_M_event := Or.inl ⟨rfl, tw_850⟩
abbrev mi_M_seen : dr_MI := (ny_M_seen, prog_6_method_33_code, 7, (Option.some Jvm.ClassFile.FieldType.int), [])
theorem co_M_seen : dr_code mi_M_seen := Or.inl ⟨rfl, tw_854⟩
abbrev mi_M_fault : dr_MI := (ny_M_fault, prog_6_method_34_code, 4, (Option.some Jvm.ClassFile.FieldType.boolean), [])
theorem co_M_fault : dr_code mi_M_fault := Or.inl ⟨rfl, tw_858⟩
abbrev mi_M_is : dr_MI := (ny_M_is, prog_6_method_35_code, 6, (Option.some Jvm.ClassFile.FieldType.int), [])
theorem co_M_is : dr_code mi_M_is := Or.inl ⟨rfl, tw_866⟩
abbrev mi_M_aim : dr_MI := (ny_M_aim, prog_6_method_36_code, 4, (Option.some Jvm.ClassFile.FieldType.int), [])
theorem co_M_aim : dr_code mi_M_aim := Or.inl ⟨rfl, tw_862⟩
abbrev mi_M_score : dr_MI := (ny_M_score, prog_6_method_37_code, 9, (Option.some Jvm.ClassFile.FieldType.int), [])
theorem co_M_score : dr_code mi_M_score := Or.inl ⟨rfl, tw_870⟩
abbrev mi_M_compare : dr_MI := (ny_M_compare, prog_6_method_38_code, 5, (Option.some Jvm.ClassFile.FieldType.int), [])
theorem co_M_compare : dr_code mi_M_compare := Or.inl ⟨rfl, tw_874⟩
abbrev mi_M_observe : dr_MI := (ny_M_observe, prog_6_method_39_code, 5, (Option.some Jvm.ClassFile.FieldType.int), [])
theorem co_M_observe : dr_code mi_M_observe := Or.inl ⟨rfl, tw_878⟩
abbrev mi_M_row : dr_MI := (ny_M_row, prog_6_method_40_code, 3, (Option.some Jvm.ClassFile.FieldType.int), [])
theorem co_M_row : dr_code mi_M_row := Or.inl ⟨rfl, tw_882⟩
abbrev mi_M_drill : dr_MI := (ny_M_drill, prog_6_method_41_code, 6, (Option.some Jvm.ClassFile.FieldType.int), [])
theorem co_M_drill : dr_code mi_M_drill := Or.inl ⟨rfl, tw_886⟩
abbrev mi_D_init : dr_MI := (ny_D_init, prog_2_method_1_code, 3, (Option.none : Option Jvm.ClassFile.FieldType), [])
theorem co_D_init : dr_code mi_D_init := Or.inl ⟨rfl, tw_353⟩
abbrev mi_D_drillSecond : dr_MI := (ny_D_drillSecond, prog_2_method_2_code, 2, (Option.some Jvm.ClassFile.FieldType.int), [])
theorem co_D_drillSecond : dr_code mi_D_drillSecond := Or.inl ⟨rfl, tw_396⟩
abbrev mi_D_beginOf : dr_MI := (ny_D_beginOf, prog_2_method_3_code, 2, (Option.some Jvm.ClassFile.FieldType.int), [])
theorem co_D_beginOf : dr_code mi_D_beginOf := Or.inl ⟨rfl, tw_492⟩
abbrev mi_D_hasRoomForAct : dr_MI := (ny_D_hasRoomForAct, prog_2_method_4_code, 1, (Option.some Jvm.ClassFile.FieldType.boolean), [])
theorem co_D_hasRoomForAct : dr_code mi_D_hasRoomForAct := Or.inl ⟨rfl, tw_465⟩
abbrev mi_D_noteAct : dr_MI := (ny_D_noteAct, prog_2_method_5_code, 4, (Option.none : Option Jvm.ClassFile.FieldType), [])
theorem co_D_noteAct : dr_code mi_D_noteAct := Or.inl ⟨rfl, tw_470⟩
abbrev mi_D_beginDueEvents : dr_MI := (ny_D_beginDueEvents, prog_2_method_6_code, 6, (Option.some Jvm.ClassFile.FieldType.int), [])
theorem co_D_beginDueEvents : dr_code mi_D_beginDueEvents := Or.inl ⟨rfl, tw_392⟩
abbrev mi_D_dueSecond : dr_MI := (ny_D_dueSecond, prog_2_method_7_code, 4, (Option.some Jvm.ClassFile.FieldType.int), [])
theorem co_D_dueSecond : dr_code mi_D_dueSecond := Or.inl ⟨rfl, tw_401⟩
abbrev mi_D_firstSecondOf : dr_MI := (ny_D_firstSecondOf, prog_2_method_8_code, 2, (Option.some Jvm.ClassFile.FieldType.int), [])
theorem co_D_firstSecondOf : dr_code mi_D_firstSecondOf := Or.inl ⟨rfl, tw_405⟩
abbrev mi_D_eventSeenBy : dr_MI := (ny_D_eventSeenBy, prog_2_method_9_code, 5, (Option.some Jvm.ClassFile.FieldType.int), [])
theorem co_D_eventSeenBy : dr_code mi_D_eventSeenBy := Or.inl ⟨rfl, tw_506⟩
abbrev mi_D_maySee : dr_MI := (ny_D_maySee, prog_2_method_10_code, 3, (Option.some Jvm.ClassFile.FieldType.boolean), [])
theorem co_D_maySee : dr_code mi_D_maySee := Or.inl ⟨rfl, tw_510⟩
abbrev mi_D_hasBegunFault : dr_MI := (ny_D_hasBegunFault, prog_2_method_11_code, 3, (Option.some Jvm.ClassFile.FieldType.boolean), [])
theorem co_D_hasBegunFault : dr_code mi_D_hasBegunFault := Or.inl ⟨rfl, tw_522⟩
abbrev mi_D_stateOfAim : dr_MI := (ny_D_stateOfAim, prog_2_method_12_code, 6, (Option.some Jvm.ClassFile.FieldType.int), [])
theorem co_D_stateOfAim : dr_code mi_D_stateOfAim := Or.inl ⟨rfl, tw_535⟩
abbrev mi_D_hasActWithin : dr_MI := (ny_D_hasActWithin, prog_2_method_13_code, 5, (Option.some Jvm.ClassFile.FieldType.boolean), [])
theorem co_D_hasActWithin : dr_code mi_D_hasActWithin := Or.inl ⟨rfl, tw_541⟩
abbrev mi_D_weightOfMetAims : dr_MI := (ny_D_weightOfMetAims, prog_2_method_14_code, 4, (Option.some Jvm.ClassFile.FieldType.int), [])
theorem co_D_weightOfMetAims : dr_code mi_D_weightOfMetAims := Or.inl ⟨rfl, tw_573⟩
abbrev mi_S_init : dr_MI := (ny_S_init, prog_3_method_1_code, 1, (Option.none : Option Jvm.ClassFile.FieldType), [])
theorem co_S_init : dr_code mi_S_init := Or.inl ⟨rfl, tw_48⟩
abbrev mi_S_clear : dr_MI := (ny_S_clear, prog_3_method_2_code, 2, (Option.none : Option Jvm.ClassFile.FieldType), [])
theorem co_S_clear : dr_code mi_S_clear := Or.inl ⟨rfl, tw_264⟩
abbrev mi_S_hasEvent : dr_MI := (ny_S_hasEvent, prog_3_method_3_code, 2, (Option.some Jvm.ClassFile.FieldType.boolean), [])
theorem co_S_hasEvent : dr_code mi_S_hasEvent := Or.inl ⟨rfl, tw_300⟩
abbrev mi_S_hasAim : dr_MI := (ny_S_hasAim, prog_3_method_4_code, 2, (Option.some Jvm.ClassFile.FieldType.boolean), [])
theorem co_S_hasAim : dr_code mi_S_hasAim := Or.inl ⟨rfl, tw_320⟩
abbrev mi_S_addEvent : dr_MI := (ny_S_addEvent, prog_3_method_5_code, 5, (Option.none : Option Jvm.ClassFile.FieldType), [])
theorem co_S_addEvent : dr_code mi_S_addEvent := Or.inl ⟨rfl, tw_308⟩
abbrev mi_S_describeEvent : dr_MI := (ny_S_describeEvent, prog_3_method_6_code, 5, (Option.none : Option Jvm.ClassFile.FieldType), [])
theorem co_S_describeEvent : dr_code mi_S_describeEvent := Or.inl ⟨rfl, tw_312⟩
abbrev mi_S_addAim : dr_MI := (ny_S_addAim, prog_3_method_7_code, 6, (Option.none : Option Jvm.ClassFile.FieldType), [])
theorem co_S_addAim : dr_code mi_S_addAim := Or.inl ⟨rfl, tw_324⟩
abbrev mi_S_weightOfAims : dr_MI := (ny_S_weightOfAims, prog_3_method_8_code, 6, (Option.some Jvm.ClassFile.FieldType.int), [])
theorem co_S_weightOfAims : dr_code mi_S_weightOfAims := Or.inl ⟨rfl, tw_553⟩
abbrev mi_T_init : dr_MI := (ny_T_init, prog_4_method_1_code, 1, (Option.none : Option Jvm.ClassFile.FieldType), [])
theorem co_T_init : dr_code mi_T_init := Or.inl ⟨rfl, tw_28⟩
abbrev mi_T_hasRoomFor : dr_MI := (ny_T_hasRoomFor, prog_4_method_2_code, 2, (Option.some Jvm.ClassFile.FieldType.boolean), [])
theorem co_T_hasRoomFor : dr_code mi_T_hasRoomFor := Or.inl ⟨rfl, tw_228⟩
abbrev mi_T_append : dr_MI := (ny_T_append, prog_4_method_3_code, 5, (Option.some Jvm.ClassFile.FieldType.int), [])
theorem co_T_append : dr_code mi_T_append := Or.inl ⟨rfl, tw_248⟩
abbrev mi_T_parseInto : dr_MI := (ny_T_parseInto, prog_4_method_4_code, 3, (Option.some Jvm.ClassFile.FieldType.int), [])
theorem co_T_parseInto : dr_code mi_T_parseInto := Or.inl ⟨rfl, tw_260⟩
abbrev mi_T_parseRow : dr_MI := (ny_T_parseRow, prog_4_method_5_code, 2, (Option.none : Option Jvm.ClassFile.FieldType), [])
theorem co_T_parseRow : dr_code mi_T_parseRow := Or.inl ⟨rfl, tw_277⟩
abbrev mi_T_parseEvent : dr_MI := (ny_T_parseEvent, prog_4_method_6_code, 9, (Option.none : Option Jvm.ClassFile.FieldType), [])
theorem co_T_parseEvent : dr_code mi_T_parseEvent := Or.inl ⟨rfl, tw_285⟩
abbrev mi_T_parseAim : dr_MI := (ny_T_parseAim, prog_4_method_7_code, 7, (Option.none : Option Jvm.ClassFile.FieldType), [])
theorem co_T_parseAim : dr_code mi_T_parseAim := Or.inl ⟨rfl, tw_316⟩
abbrev mi_T_parseNumber : dr_MI := (ny_T_parseNumber, prog_4_method_8_code, 5, (Option.some Jvm.ClassFile.FieldType.int), [])
theorem co_T_parseNumber : dr_code mi_T_parseNumber := Or.inl ⟨rfl, tw_289⟩
abbrev mi_T_expect : dr_MI := (ny_T_expect, prog_4_method_9_code, 2, (Option.none : Option Jvm.ClassFile.FieldType), [])
theorem co_T_expect : dr_code mi_T_expect := Or.inl ⟨rfl, tw_304⟩
abbrev mi_T_accept : dr_MI := (ny_T_accept, prog_4_method_10_code, 2, (Option.some Jvm.ClassFile.FieldType.boolean), [])
theorem co_T_accept : dr_code mi_T_accept := Or.inl ⟨rfl, tw_281⟩
abbrev mi_T_skipBlanks : dr_MI := (ny_T_skipBlanks, prog_4_method_11_code, 1, (Option.none : Option Jvm.ClassFile.FieldType), [])
theorem co_T_skipBlanks : dr_code mi_T_skipBlanks := Or.inl ⟨rfl, tw_269⟩
abbrev mi_T_nextByte : dr_MI := (ny_T_nextByte, prog_4_method_12_code, 1, (Option.some Jvm.ClassFile.FieldType.int), [])
theorem co_T_nextByte : dr_code mi_T_nextByte := Or.inl ⟨rfl, tw_273⟩
abbrev mi_T_isDigit : dr_MI := (ny_T_isDigit, prog_4_method_13_code, 1, (Option.some Jvm.ClassFile.FieldType.boolean), [])
theorem co_T_isDigit : dr_code mi_T_isDigit := Or.inl ⟨rfl, tw_292⟩
abbrev mi_T_fail : dr_MI := (ny_T_fail, prog_4_method_14_code, 2, (Option.none : Option Jvm.ClassFile.FieldType), [])
theorem co_T_fail : dr_code mi_T_fail := Or.inl ⟨rfl, tw_296⟩
abbrev mi_L_sign : dr_MI := (ny_L_sign, method_3_code, 6, (Option.some Jvm.ClassFile.FieldType.int), [((0 : Nat), (11 : Nat), (14 : Nat), (13 : Nat)), ((0 : Nat), (11 : Nat), (18 : Nat), (15 : Nat))])
theorem co_L_sign : dr_code mi_L_sign := Or.inr tw_148
abbrev mi_L_read : dr_MI := (ny_L_read, method_4_code, 3, (Option.some Jvm.ClassFile.FieldType.int), [((0 : Nat), (8 : Nat), (11 : Nat), (21 : Nat))])
theorem co_L_read : dr_code mi_L_read := Or.inr tw_251
abbrev mi_L_begin : dr_MI := (ny_L_begin, method_5_code, 3, (Option.some Jvm.ClassFile.FieldType.int), [((0 : Nat), (8 : Nat), (11 : Nat), (21 : Nat)), ((0 : Nat), (8 : Nat), (14 : Nat), (15 : Nat))])
theorem co_L_begin : dr_code mi_L_begin := Or.inr tw_343
abbrev mi_L_stop : dr_MI := (ny_L_stop, method_6_code, 3, (Option.some Jvm.ClassFile.FieldType.int), [((0 : Nat), (5 : Nat), (8 : Nat), (30 : Nat)), ((0 : Nat), (5 : Nat), (11 : Nat), (21 : Nat))])
theorem co_L_stop : dr_code mi_L_stop := Or.inr tw_411
abbrev mi_L_unit : dr_MI := (ny_L_unit, method_7_code, 4, (Option.some Jvm.ClassFile.FieldType.int), [((0 : Nat), (6 : Nat), (9 : Nat), (30 : Nat)), ((0 : Nat), (6 : Nat), (12 : Nat), (21 : Nat))])
theorem co_L_unit : dr_code mi_L_unit := Or.inr tw_440
abbrev mi_L_real : dr_MI := (ny_L_real, method_8_code, 4, (Option.some Jvm.ClassFile.FieldType.int), [((0 : Nat), (9 : Nat), (12 : Nat), (30 : Nat))])
theorem co_L_real : dr_code mi_L_real := Or.inr tw_449
abbrev mi_L_act : dr_MI := (ny_L_act, method_9_code, 5, (Option.some Jvm.ClassFile.FieldType.int), [((0 : Nat), (10 : Nat), (13 : Nat), (30 : Nat)), ((0 : Nat), (10 : Nat), (17 : Nat), (21 : Nat)), ((0 : Nat), (10 : Nat), (21 : Nat), (15 : Nat))])
theorem co_L_act : dr_code mi_L_act := Or.inr tw_456
abbrev mi_L_tick : dr_MI := (ny_L_tick, method_10_code, 4, (Option.some Jvm.ClassFile.FieldType.int), [((0 : Nat), (9 : Nat), (12 : Nat), (13 : Nat))])
theorem co_L_tick : dr_code mi_L_tick := Or.inr tw_473
abbrev mi_L_event : dr_MI := (ny_L_event, method_11_code, 6, (Option.some Jvm.ClassFile.FieldType.int), [((0 : Nat), (12 : Nat), (15 : Nat), (30 : Nat))])
theorem co_L_event : dr_code mi_L_event := Or.inr tw_482
abbrev mi_L_seen : dr_MI := (ny_L_seen, method_12_code, 6, (Option.some Jvm.ClassFile.FieldType.int), [((0 : Nat), (12 : Nat), (15 : Nat), (30 : Nat)), ((0 : Nat), (12 : Nat), (19 : Nat), (13 : Nat))])
theorem co_L_seen : dr_code mi_L_seen := Or.inr tw_496
abbrev mi_L_fault : dr_MI := (ny_L_fault, method_13_code, 5, (Option.some Jvm.ClassFile.FieldType.int), [((0 : Nat), (17 : Nat), (20 : Nat), (30 : Nat))])
theorem co_L_fault : dr_code mi_L_fault := Or.inr tw_513
abbrev mi_L_aim : dr_MI := (ny_L_aim, method_14_code, 5, (Option.some Jvm.ClassFile.FieldType.int), [((0 : Nat), (10 : Nat), (13 : Nat), (30 : Nat))])
theorem co_L_aim : dr_code mi_L_aim := Or.inr tw_525
abbrev mi_L_score : dr_MI := (ny_L_score, method_15_code, 5, (Option.some Jvm.ClassFile.FieldType.int), [((0 : Nat), (10 : Nat), (13 : Nat), (30 : Nat)), ((0 : Nat), (10 : Nat), (17 : Nat), (64 : Nat))])
theorem co_L_score : dr_code mi_L_score := Or.inr tw_544
abbrev mi_L_compare : dr_MI := (ny_L_compare, method_16_code, 5, (Option.some Jvm.ClassFile.FieldType.int), [((0 : Nat), (10 : Nat), (13 : Nat), (30 : Nat))])
theorem co_L_compare : dr_code mi_L_compare := Or.inr tw_580
abbrev mi_L_observe : dr_MI := (ny_L_observe, method_17_code, 6, (Option.some Jvm.ClassFile.FieldType.int), [((0 : Nat), (12 : Nat), (15 : Nat), (30 : Nat)), ((0 : Nat), (12 : Nat), (19 : Nat), (13 : Nat)), ((0 : Nat), (12 : Nat), (23 : Nat), (15 : Nat))])
theorem co_L_observe : dr_code mi_L_observe := Or.inr tw_587
abbrev mi_L_row : dr_MI := (ny_L_row, method_18_code, 5, (Option.some Jvm.ClassFile.FieldType.int), [((0 : Nat), (10 : Nat), (13 : Nat), (30 : Nat))])
theorem co_L_row : dr_code mi_L_row := Or.inr tw_597
abbrev mi_L_play : dr_MI := (ny_L_play, method_19_code, 5, (Option.some Jvm.ClassFile.FieldType.int), [((0 : Nat), (10 : Nat), (13 : Nat), (30 : Nat)), ((0 : Nat), (10 : Nat), (17 : Nat), (21 : Nat)), ((0 : Nat), (10 : Nat), (21 : Nat), (15 : Nat))])
theorem co_L_play : dr_code mi_L_play := Or.inr tw_605
abbrev mi_L_drill : dr_MI := (ny_L_drill, method_20_code, 5, (Option.some Jvm.ClassFile.FieldType.int), [((0 : Nat), (10 : Nat), (13 : Nat), (30 : Nat))])
theorem co_L_drill : dr_code mi_L_drill := Or.inr tw_614
abbrev mi_L_law : dr_MI := (ny_L_law, code, 7, (some .boolean), [])
abbrev mi_N_min : dr_MI := (ny_N_min, prog_12_method_69_code, 2, (Option.some Jvm.ClassFile.FieldType.int), [])
theorem co_N_min : dr_code mi_N_min := Or.inl ⟨rfl, tw_408⟩
abbrev mi_A_fill : dr_MI := (ny_A_fill, prog_17_method_103_code, 4, (Option.none : Option Jvm.ClassFile.FieldType), [])
theorem co_A_fill : dr_code mi_A_fill := Or.inl ⟨rfl, tw_110⟩
theorem us_UNASSIGNED_STACK : dr_U (.laysStatic "java/lang/Throwable" "UNASSIGNED_STACK" "[Ljava/lang/StackTraceElement;") ∧ dr_U (.isRef (.static "java/lang/Throwable" "UNASSIGNED_STACK" "[Ljava/lang/StackTraceElement;")) := by
  have h : ∀ (G : dr_Gt) (U : State) (a' : Array Value), dr_K G → G.s.WarmedH U.vm → (∀ q, q < G.s.heap.size → U.heap[q]? = G.s.heap[q]?) → _ := fun G U a' K hW hh => dr_stat (C := "java/lang/Throwable") (n := "UNASSIGNED_STACK") (d := "[Ljava/lang/StackTraceElement;") (a2 := a') hW.alike hh (K.2.1 _ (List.mem_of_getElem? (i := 217) (by decide +kernel))) (flat_of_before _ K.2.2.2.2.2 _ (by decide +kernel))
  exact ⟨fun G U a' K hW hh => (h G U a' K hW hh).1, fun G U a' K hW hh => (h G U a' K hW hh).2⟩
theorem us_SUPPRESSED_SENTINEL : dr_U (.laysStatic "java/lang/Throwable" "SUPPRESSED_SENTINEL" "Ljava/util/List;") ∧ dr_U (.isRef (.static "java/lang/Throwable" "SUPPRESSED_SENTINEL" "Ljava/util/List;")) := by
  have h : ∀ (G : dr_Gt) (U : State) (a' : Array Value), dr_K G → G.s.WarmedH U.vm → (∀ q, q < G.s.heap.size → U.heap[q]? = G.s.heap[q]?) → _ := fun G U a' K hW hh => dr_stat (C := "java/lang/Throwable") (n := "SUPPRESSED_SENTINEL") (d := "Ljava/util/List;") (a2 := a') hW.alike hh (K.2.1 _ (List.mem_of_getElem? (i := 219) (by decide +kernel))) (flat_of_before _ K.2.2.2.2.2 _ (by decide +kernel))
  exact ⟨fun G U a' K hW hh => (h G U a' K hW hh).1, fun G U a' K hW hh => (h G U a' K hW hh).2⟩
def dr_hw (w : Cond) : Bool := decide (w = .laysStatic "java/lang/Throwable" "UNASSIGNED_STACK" "[Ljava/lang/StackTraceElement;") || decide (w = .isRef (.static "java/lang/Throwable" "UNASSIGNED_STACK" "[Ljava/lang/StackTraceElement;")) || decide (w = .laysStatic "java/lang/Throwable" "SUPPRESSED_SENTINEL" "Ljava/util/List;") || decide (w = .isRef (.static "java/lang/Throwable" "SUPPRESSED_SENTINEL" "Ljava/util/List;"))
theorem dr_ats {L : List Cond} (h : ∀ w ∈ L, dr_hw w = true ∨ (w ∈ lw_tbl ∧ (w.onTables && w.keepsFace) = true)) : ∀ w ∈ L, dr_U w := by
  intro w hw
  rcases h w hw with h | ⟨h1, h2⟩
  · unfold dr_hw at h
    simp only [Bool.or_eq_true, decide_eq_true_eq] at h
    rcases h with ((h | h) | h) | h
    · rw [h]; exact us_UNASSIGNED_STACK.1
    · rw [h]; exact us_UNASSIGNED_STACK.2
    · rw [h]; exact us_SUPPRESSED_SENTINEL.1
    · rw [h]; exact us_SUPPRESSED_SENTINEL.2
  · exact (dr_Tf h1 h2).u
end
section
theorem at_Ar : ∀ w ∈ Bundle.ownAtoms "DrillRows" 186 "java/lang/ArithmeticException" ["java/lang/RuntimeException", "java/lang/Exception"], dr_U w := dr_ats (by decide +kernel)
theorem at_IA : ∀ w ∈ Bundle.ownAtoms "DrillRows" 118 "java/lang/IllegalArgumentException" ["java/lang/RuntimeException", "java/lang/Exception"], dr_U w := dr_ats (by decide +kernel)
theorem at_IS : ∀ w ∈ Bundle.ownAtoms "DrillRows" 86 "java/lang/IllegalStateException" ["java/lang/RuntimeException", "java/lang/Exception"], dr_U w := dr_ats (by decide +kernel)
theorem at_IO : ∀ w ∈ Bundle.ownAtoms "DrillRows" 62 "java/lang/IndexOutOfBoundsException" ["java/lang/RuntimeException", "java/lang/Exception"], dr_U w := dr_ats (by decide +kernel)
theorem at_UO : ∀ w ∈ Bundle.ownAtoms "DrillRows" 73 "java/lang/UnsupportedOperationException" ["java/lang/RuntimeException", "java/lang/Exception"], dr_U w := dr_ats (by decide +kernel)
theorem nc_Ar_IA : dr_N "java/lang/ArithmeticException" "java/lang/IllegalArgumentException" := fun G K => va_Nc.of (flat_of_before _ K.2.2.2.2.2 _ (by decide +kernel))
theorem nc_Ar_IS : dr_N "java/lang/ArithmeticException" "java/lang/IllegalStateException" := fun G K => va_Nc.of (flat_of_before _ K.2.2.2.2.2 _ (by decide +kernel))
theorem nc_Ar_IO : dr_N "java/lang/ArithmeticException" "java/lang/IndexOutOfBoundsException" := fun G K => va_Nc.of (flat_of_before _ K.2.2.2.2.2 _ (by decide +kernel))
theorem nc_Ar_UO : dr_N "java/lang/ArithmeticException" "java/lang/UnsupportedOperationException" := fun G K => va_Nc.of (flat_of_before _ K.2.2.2.2.2 _ (by decide +kernel))
theorem nc_IA_Ar : dr_N "java/lang/IllegalArgumentException" "java/lang/ArithmeticException" := fun G K => va_Nc.of (flat_of_before _ K.2.2.2.2.2 _ (by decide +kernel))
theorem nc_IA_IS : dr_N "java/lang/IllegalArgumentException" "java/lang/IllegalStateException" := fun G K => va_Nc.of (flat_of_before _ K.2.2.2.2.2 _ (by decide +kernel))
theorem nc_IA_IO : dr_N "java/lang/IllegalArgumentException" "java/lang/IndexOutOfBoundsException" := fun G K => va_Nc.of (flat_of_before _ K.2.2.2.2.2 _ (by decide +kernel))
theorem nc_IA_UO : dr_N "java/lang/IllegalArgumentException" "java/lang/UnsupportedOperationException" := fun G K => va_Nc.of (flat_of_before _ K.2.2.2.2.2 _ (by decide +kernel))
theorem nc_IS_Ar : dr_N "java/lang/IllegalStateException" "java/lang/ArithmeticException" := fun G K => va_Nc.of (flat_of_before _ K.2.2.2.2.2 _ (by decide +kernel))
theorem nc_IS_IA : dr_N "java/lang/IllegalStateException" "java/lang/IllegalArgumentException" := fun G K => va_Nc.of (flat_of_before _ K.2.2.2.2.2 _ (by decide +kernel))
theorem nc_IS_IO : dr_N "java/lang/IllegalStateException" "java/lang/IndexOutOfBoundsException" := fun G K => va_Nc.of (flat_of_before _ K.2.2.2.2.2 _ (by decide +kernel))
theorem nc_IS_UO : dr_N "java/lang/IllegalStateException" "java/lang/UnsupportedOperationException" := fun G K => va_Nc.of (flat_of_before _ K.2.2.2.2.2 _ (by decide +kernel))
theorem nc_IO_Ar : dr_N "java/lang/IndexOutOfBoundsException" "java/lang/ArithmeticException" := fun G K => va_Nc.of (flat_of_before _ K.2.2.2.2.2 _ (by decide +kernel))
theorem nc_IO_IA : dr_N "java/lang/IndexOutOfBoundsException" "java/lang/IllegalArgumentException" := fun G K => va_Nc.of (flat_of_before _ K.2.2.2.2.2 _ (by decide +kernel))
theorem nc_IO_IS : dr_N "java/lang/IndexOutOfBoundsException" "java/lang/IllegalStateException" := fun G K => va_Nc.of (flat_of_before _ K.2.2.2.2.2 _ (by decide +kernel))
theorem nc_IO_UO : dr_N "java/lang/IndexOutOfBoundsException" "java/lang/UnsupportedOperationException" := fun G K => va_Nc.of (flat_of_before _ K.2.2.2.2.2 _ (by decide +kernel))
theorem nc_UO_Ar : dr_N "java/lang/UnsupportedOperationException" "java/lang/ArithmeticException" := fun G K => va_Nc.of (flat_of_before _ K.2.2.2.2.2 _ (by decide +kernel))
theorem nc_UO_IA : dr_N "java/lang/UnsupportedOperationException" "java/lang/IllegalArgumentException" := fun G K => va_Nc.of (flat_of_before _ K.2.2.2.2.2 _ (by decide +kernel))
theorem nc_UO_IS : dr_N "java/lang/UnsupportedOperationException" "java/lang/IllegalStateException" := fun G K => va_Nc.of (flat_of_before _ K.2.2.2.2.2 _ (by decide +kernel))
theorem nc_UO_IO : dr_N "java/lang/UnsupportedOperationException" "java/lang/IndexOutOfBoundsException" := fun G K => va_Nc.of (flat_of_before _ K.2.2.2.2.2 _ (by decide +kernel))
end
