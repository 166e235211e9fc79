section
/-- a private method of a class that the tables say can be made, by its rows of tables_1 -/
def lw_okq (q : MethodName × Nat) : Prop := (q.1.cls ≠ "java/lang/invoke/MethodHandle" ∧ q.1.cls ≠ "java/lang/invoke/VarHandle") ∧ Cond.instantiable q.1.cls q.2 ∈ tables_1 ∧ Cond.privateMethod q.1 ∈ tables_1 ∧ Cond.instanceMethod q.1 ∈ tables_1
theorem lw_p0 : lw_okq (⟨"java/lang/Throwable", "fillInStackTrace", "(I)Ljava/lang/Throwable;"⟩, 6) := ⟨⟨by decide +kernel, by decide +kernel⟩, List.mem_of_getElem? (i := 196) (by decide +kernel), List.mem_of_getElem? (i := 194) (by decide +kernel), List.mem_of_getElem? (i := 195) (by decide +kernel)⟩
theorem lw_p1 : lw_okq (⟨"DrillRows$Tape", "skipBlanks", "()V"⟩, 4) := ⟨⟨by decide +kernel, by decide +kernel⟩, List.mem_of_getElem? (i := 25) (by decide +kernel), List.mem_of_getElem? (i := 267) (by decide +kernel), List.mem_of_getElem? (i := 268) (by decide +kernel)⟩
theorem lw_p2 : lw_okq (⟨"DrillRows$Tape", "nextByte", "()I"⟩, 4) := ⟨⟨by decide +kernel, by decide +kernel⟩, List.mem_of_getElem? (i := 25) (by decide +kernel), List.mem_of_getElem? (i := 271) (by decide +kernel), List.mem_of_getElem? (i := 272) (by decide +kernel)⟩
theorem lw_p3 : lw_okq (⟨"DrillRows$Tape", "parseRow", "(LDrillRows$Script;)V"⟩, 4) := ⟨⟨by decide +kernel, by decide +kernel⟩, List.mem_of_getElem? (i := 25) (by decide +kernel), List.mem_of_getElem? (i := 275) (by decide +kernel), List.mem_of_getElem? (i := 276) (by decide +kernel)⟩
theorem lw_p4 : lw_okq (⟨"DrillRows$Tape", "accept", "(C)Z"⟩, 4) := ⟨⟨by decide +kernel, by decide +kernel⟩, List.mem_of_getElem? (i := 25) (by decide +kernel), List.mem_of_getElem? (i := 279) (by decide +kernel), List.mem_of_getElem? (i := 280) (by decide +kernel)⟩
theorem lw_p5 : lw_okq (⟨"DrillRows$Tape", "parseEvent", "(LDrillRows$Script;)V"⟩, 4) := ⟨⟨by decide +kernel, by decide +kernel⟩, List.mem_of_getElem? (i := 25) (by decide +kernel), List.mem_of_getElem? (i := 283) (by decide +kernel), List.mem_of_getElem? (i := 284) (by decide +kernel)⟩
theorem lw_p6 : lw_okq (⟨"DrillRows$Tape", "parseNumber", "(II)I"⟩, 4) := ⟨⟨by decide +kernel, by decide +kernel⟩, List.mem_of_getElem? (i := 25) (by decide +kernel), List.mem_of_getElem? (i := 287) (by decide +kernel), List.mem_of_getElem? (i := 288) (by decide +kernel)⟩
theorem lw_p7 : lw_okq (⟨"DrillRows$Tape", "fail", "(I)V"⟩, 4) := ⟨⟨by decide +kernel, by decide +kernel⟩, List.mem_of_getElem? (i := 25) (by decide +kernel), List.mem_of_getElem? (i := 294) (by decide +kernel), List.mem_of_getElem? (i := 295) (by decide +kernel)⟩
theorem lw_p8 : lw_okq (⟨"DrillRows$Tape", "expect", "(C)V"⟩, 4) := ⟨⟨by decide +kernel, by decide +kernel⟩, List.mem_of_getElem? (i := 25) (by decide +kernel), List.mem_of_getElem? (i := 302) (by decide +kernel), List.mem_of_getElem? (i := 303) (by decide +kernel)⟩
theorem lw_p9 : lw_okq (⟨"DrillRows$Tape", "parseAim", "(LDrillRows$Script;)V"⟩, 4) := ⟨⟨by decide +kernel, by decide +kernel⟩, List.mem_of_getElem? (i := 25) (by decide +kernel), List.mem_of_getElem? (i := 314) (by decide +kernel), List.mem_of_getElem? (i := 315) (by decide +kernel)⟩
theorem lw_p10 : lw_okq (⟨"DrillRows$Drill", "dueSecond", "(I)I"⟩, 9) := ⟨⟨by decide +kernel, by decide +kernel⟩, List.mem_of_getElem? (i := 350) (by decide +kernel), List.mem_of_getElem? (i := 399) (by decide +kernel), List.mem_of_getElem? (i := 400) (by decide +kernel)⟩
theorem lw_p11 : lw_okq (⟨"DrillRows$Drill", "firstSecondOf", "(I)I"⟩, 9) := ⟨⟨by decide +kernel, by decide +kernel⟩, List.mem_of_getElem? (i := 350) (by decide +kernel), List.mem_of_getElem? (i := 403) (by decide +kernel), List.mem_of_getElem? (i := 404) (by decide +kernel)⟩
theorem lw_p12 : lw_okq (⟨"DrillRows", "knownDrill", "(I)LDrillRows$Drill;"⟩, 10) := ⟨⟨by decide +kernel, by decide +kernel⟩, List.mem_of_getElem? (i := 17) (by decide +kernel), List.mem_of_getElem? (i := 418) (by decide +kernel), List.mem_of_getElem? (i := 419) (by decide +kernel)⟩
theorem lw_p13 : lw_okq (⟨"DrillRows$Drill", "maySee", "(II)Z"⟩, 9) := ⟨⟨by decide +kernel, by decide +kernel⟩, List.mem_of_getElem? (i := 350) (by decide +kernel), List.mem_of_getElem? (i := 508) (by decide +kernel), List.mem_of_getElem? (i := 509) (by decide +kernel)⟩
theorem lw_p14 : lw_okq (⟨"DrillRows$Drill", "hasActWithin", "(III)Z"⟩, 9) := ⟨⟨by decide +kernel, by decide +kernel⟩, List.mem_of_getElem? (i := 350) (by decide +kernel), List.mem_of_getElem? (i := 539) (by decide +kernel), List.mem_of_getElem? (i := 540) (by decide +kernel)⟩
theorem lw_p15 : lw_okq (⟨"DrillRows", "countUnits", "(I)I"⟩, 10) := ⟨⟨by decide +kernel, by decide +kernel⟩, List.mem_of_getElem? (i := 17) (by decide +kernel), List.mem_of_getElem? (i := 620) (by decide +kernel), List.mem_of_getElem? (i := 621) (by decide +kernel)⟩
def lw_privs_1 : List (MethodName × Nat) := [(⟨"java/lang/Throwable", "fillInStackTrace", "(I)Ljava/lang/Throwable;"⟩, 6), (⟨"DrillRows$Tape", "skipBlanks", "()V"⟩, 4), (⟨"DrillRows$Tape", "nextByte", "()I"⟩, 4), (⟨"DrillRows$Tape", "parseRow", "(LDrillRows$Script;)V"⟩, 4), (⟨"DrillRows$Tape", "accept", "(C)Z"⟩, 4), (⟨"DrillRows$Tape", "parseEvent", "(LDrillRows$Script;)V"⟩, 4), (⟨"DrillRows$Tape", "parseNumber", "(II)I"⟩, 4), (⟨"DrillRows$Tape", "fail", "(I)V"⟩, 4), (⟨"DrillRows$Tape", "expect", "(C)V"⟩, 4), (⟨"DrillRows$Tape", "parseAim", "(LDrillRows$Script;)V"⟩, 4), (⟨"DrillRows$Drill", "dueSecond", "(I)I"⟩, 9), (⟨"DrillRows$Drill", "firstSecondOf", "(I)I"⟩, 9), (⟨"DrillRows", "knownDrill", "(I)LDrillRows$Drill;"⟩, 10), (⟨"DrillRows$Drill", "maySee", "(II)Z"⟩, 9), (⟨"DrillRows$Drill", "hasActWithin", "(III)Z"⟩, 9), (⟨"DrillRows", "countUnits", "(I)I"⟩, 10)]
theorem lw_r1 : ∀ q ∈ lw_privs_1, lw_okq q := List.forall_mem_cons.mpr ⟨lw_p0, List.forall_mem_cons.mpr ⟨lw_p1, List.forall_mem_cons.mpr ⟨lw_p2, List.forall_mem_cons.mpr ⟨lw_p3, List.forall_mem_cons.mpr ⟨lw_p4, List.forall_mem_cons.mpr ⟨lw_p5, List.forall_mem_cons.mpr ⟨lw_p6, List.forall_mem_cons.mpr ⟨lw_p7, List.forall_mem_cons.mpr ⟨lw_p8, List.forall_mem_cons.mpr ⟨lw_p9, List.forall_mem_cons.mpr ⟨lw_p10, List.forall_mem_cons.mpr ⟨lw_p11, List.forall_mem_cons.mpr ⟨lw_p12, List.forall_mem_cons.mpr ⟨lw_p13, List.forall_mem_cons.mpr ⟨lw_p14, List.forall_mem_cons.mpr ⟨lw_p15, fun _ h => absurd h List.not_mem_nil⟩⟩⟩⟩⟩⟩⟩⟩⟩⟩⟩⟩⟩⟩⟩⟩
theorem lw_p16 : lw_okq (⟨"DrillRowsModel", "goes", "(ZZZ)Z"⟩, 32) := ⟨⟨by decide +kernel, by decide +kernel⟩, List.mem_of_getElem? (i := 624) (by decide +kernel), List.mem_of_getElem? (i := 738) (by decide +kernel), List.mem_of_getElem? (i := 739) (by decide +kernel)⟩
theorem lw_p17 : lw_okq (⟨"DrillRowsModel", "see", "()I"⟩, 32) := ⟨⟨by decide +kernel, by decide +kernel⟩, List.mem_of_getElem? (i := 624) (by decide +kernel), List.mem_of_getElem? (i := 746) (by decide +kernel), List.mem_of_getElem? (i := 747) (by decide +kernel)⟩
theorem lw_p18 : lw_okq (⟨"DrillRowsModel", "here", "()I"⟩, 32) := ⟨⟨by decide +kernel, by decide +kernel⟩, List.mem_of_getElem? (i := 624) (by decide +kernel), List.mem_of_getElem? (i := 750) (by decide +kernel), List.mem_of_getElem? (i := 751) (by decide +kernel)⟩
theorem lw_p19 : lw_okq (⟨"DrillRowsModel", "takes", "(I)Z"⟩, 32) := ⟨⟨by decide +kernel, by decide +kernel⟩, List.mem_of_getElem? (i := 624) (by decide +kernel), List.mem_of_getElem? (i := 754) (by decide +kernel), List.mem_of_getElem? (i := 755) (by decide +kernel)⟩
theorem lw_p20 : lw_okq (⟨"DrillRowsModel", "eventRow", "()V"⟩, 32) := ⟨⟨by decide +kernel, by decide +kernel⟩, List.mem_of_getElem? (i := 624) (by decide +kernel), List.mem_of_getElem? (i := 758) (by decide +kernel), List.mem_of_getElem? (i := 759) (by decide +kernel)⟩
theorem lw_p21 : lw_okq (⟨"DrillRowsModel", "number", "(II)I"⟩, 32) := ⟨⟨by decide +kernel, by decide +kernel⟩, List.mem_of_getElem? (i := 624) (by decide +kernel), List.mem_of_getElem? (i := 762) (by decide +kernel), List.mem_of_getElem? (i := 763) (by decide +kernel)⟩
theorem lw_p22 : lw_okq (⟨"DrillRowsModel", "isDigit", "()Z"⟩, 32) := ⟨⟨by decide +kernel, by decide +kernel⟩, List.mem_of_getElem? (i := 624) (by decide +kernel), List.mem_of_getElem? (i := 766) (by decide +kernel), List.mem_of_getElem? (i := 767) (by decide +kernel)⟩
theorem lw_p23 : lw_okq (⟨"DrillRowsModel", "fail", "(I)V"⟩, 32) := ⟨⟨by decide +kernel, by decide +kernel⟩, List.mem_of_getElem? (i := 624) (by decide +kernel), List.mem_of_getElem? (i := 770) (by decide +kernel), List.mem_of_getElem? (i := 771) (by decide +kernel)⟩
theorem lw_p24 : lw_okq (⟨"DrillRowsModel", "take", "(I)V"⟩, 32) := ⟨⟨by decide +kernel, by decide +kernel⟩, List.mem_of_getElem? (i := 624) (by decide +kernel), List.mem_of_getElem? (i := 774) (by decide +kernel), List.mem_of_getElem? (i := 775) (by decide +kernel)⟩
theorem lw_p25 : lw_okq (⟨"DrillRowsModel", "aimRow", "()V"⟩, 32) := ⟨⟨by decide +kernel, by decide +kernel⟩, List.mem_of_getElem? (i := 624) (by decide +kernel), List.mem_of_getElem? (i := 778) (by decide +kernel), List.mem_of_getElem? (i := 779) (by decide +kernel)⟩
theorem lw_p26 : lw_okq (⟨"DrillRowsModel", "copy", "(II)V"⟩, 32) := ⟨⟨by decide +kernel, by decide +kernel⟩, List.mem_of_getElem? (i := 624) (by decide +kernel), List.mem_of_getElem? (i := 782) (by decide +kernel), List.mem_of_getElem? (i := 783) (by decide +kernel)⟩
theorem lw_p27 : lw_okq (⟨"DrillRowsModel", "size", "(I)I"⟩, 32) := ⟨⟨by decide +kernel, by decide +kernel⟩, List.mem_of_getElem? (i := 624) (by decide +kernel), List.mem_of_getElem? (i := 786) (by decide +kernel), List.mem_of_getElem? (i := 787) (by decide +kernel)⟩
theorem lw_p28 : lw_okq (⟨"DrillRowsModel", "look", "(I)I"⟩, 32) := ⟨⟨by decide +kernel, by decide +kernel⟩, List.mem_of_getElem? (i := 624) (by decide +kernel), List.mem_of_getElem? (i := 798) (by decide +kernel), List.mem_of_getElem? (i := 799) (by decide +kernel)⟩
theorem lw_p29 : lw_okq (⟨"DrillRowsModel", "isDue", "(II)Z"⟩, 32) := ⟨⟨by decide +kernel, by decide +kernel⟩, List.mem_of_getElem? (i := 624) (by decide +kernel), List.mem_of_getElem? (i := 802) (by decide +kernel), List.mem_of_getElem? (i := 803) (by decide +kernel)⟩
theorem lw_p30 : lw_okq (⟨"DrillRowsModel", "relative", "(I)I"⟩, 32) := ⟨⟨by decide +kernel, by decide +kernel⟩, List.mem_of_getElem? (i := 624) (by decide +kernel), List.mem_of_getElem? (i := 806) (by decide +kernel), List.mem_of_getElem? (i := 807) (by decide +kernel)⟩
theorem lw_p31 : lw_okq (⟨"DrillRowsModel", "first", "(III)I"⟩, 32) := ⟨⟨by decide +kernel, by decide +kernel⟩, List.mem_of_getElem? (i := 624) (by decide +kernel), List.mem_of_getElem? (i := 810) (by decide +kernel), List.mem_of_getElem? (i := 811) (by decide +kernel)⟩
def lw_privs_2 : List (MethodName × Nat) := [(⟨"DrillRowsModel", "goes", "(ZZZ)Z"⟩, 32), (⟨"DrillRowsModel", "see", "()I"⟩, 32), (⟨"DrillRowsModel", "here", "()I"⟩, 32), (⟨"DrillRowsModel", "takes", "(I)Z"⟩, 32), (⟨"DrillRowsModel", "eventRow", "()V"⟩, 32), (⟨"DrillRowsModel", "number", "(II)I"⟩, 32), (⟨"DrillRowsModel", "isDigit", "()Z"⟩, 32), (⟨"DrillRowsModel", "fail", "(I)V"⟩, 32), (⟨"DrillRowsModel", "take", "(I)V"⟩, 32), (⟨"DrillRowsModel", "aimRow", "()V"⟩, 32), (⟨"DrillRowsModel", "copy", "(II)V"⟩, 32), (⟨"DrillRowsModel", "size", "(I)I"⟩, 32), (⟨"DrillRowsModel", "look", "(I)I"⟩, 32), (⟨"DrillRowsModel", "isDue", "(II)Z"⟩, 32), (⟨"DrillRowsModel", "relative", "(I)I"⟩, 32), (⟨"DrillRowsModel", "first", "(III)I"⟩, 32)]
theorem lw_r2 : ∀ q ∈ lw_privs_2, lw_okq q := List.forall_mem_cons.mpr ⟨lw_p16, List.forall_mem_cons.mpr ⟨lw_p17, List.forall_mem_cons.mpr ⟨lw_p18, List.forall_mem_cons.mpr ⟨lw_p19, List.forall_mem_cons.mpr ⟨lw_p20, List.forall_mem_cons.mpr ⟨lw_p21, List.forall_mem_cons.mpr ⟨lw_p22, List.forall_mem_cons.mpr ⟨lw_p23, List.forall_mem_cons.mpr ⟨lw_p24, List.forall_mem_cons.mpr ⟨lw_p25, List.forall_mem_cons.mpr ⟨lw_p26, List.forall_mem_cons.mpr ⟨lw_p27, List.forall_mem_cons.mpr ⟨lw_p28, List.forall_mem_cons.mpr ⟨lw_p29, List.forall_mem_cons.mpr ⟨lw_p30, List.forall_mem_cons.mpr ⟨lw_p31, fun _ h => absurd h List.not_mem_nil⟩⟩⟩⟩⟩⟩⟩⟩⟩⟩⟩⟩⟩⟩⟩⟩
theorem lw_p32 : lw_okq (⟨"DrillRowsModel", "isDrill", "(I)Z"⟩, 32) := ⟨⟨by decide +kernel, by decide +kernel⟩, List.mem_of_getElem? (i := 624) (by decide +kernel), List.mem_of_getElem? (i := 818) (by decide +kernel), List.mem_of_getElem? (i := 819) (by decide +kernel)⟩
theorem lw_p33 : lw_okq (⟨"DrillRowsModel", "does", "(II)I"⟩, 32) := ⟨⟨by decide +kernel, by decide +kernel⟩, List.mem_of_getElem? (i := 624) (by decide +kernel), List.mem_of_getElem? (i := 834) (by decide +kernel), List.mem_of_getElem? (i := 835) (by decide +kernel)⟩
theorem lw_p34 : lw_okq (⟨"DrillRowsModel", "is", "(II)I"⟩, 32) := ⟨⟨by decide +kernel, by decide +kernel⟩, List.mem_of_getElem? (i := 624) (by decide +kernel), List.mem_of_getElem? (i := 864) (by decide +kernel), List.mem_of_getElem? (i := 865) (by decide +kernel)⟩
def lw_privs_3 : List (MethodName × Nat) := [(⟨"DrillRowsModel", "isDrill", "(I)Z"⟩, 32), (⟨"DrillRowsModel", "does", "(II)I"⟩, 32), (⟨"DrillRowsModel", "is", "(II)I"⟩, 32)]
theorem lw_r3 : ∀ q ∈ lw_privs_3, lw_okq q := List.forall_mem_cons.mpr ⟨lw_p32, List.forall_mem_cons.mpr ⟨lw_p33, List.forall_mem_cons.mpr ⟨lw_p34, fun _ h => absurd h List.not_mem_nil⟩⟩⟩
def lw_privs : List (MethodName × Nat) := lw_privs_1 ++ (lw_privs_2 ++ (lw_privs_3))
def lw_tbl : List Cond := k2_sels lw_privs ++ tables_1
theorem lw_privs_ok : ∀ q ∈ lw_privs, lw_okq q := by
  show ∀ q ∈ lw_privs_1 ++ (lw_privs_2 ++ (lw_privs_3)), lw_okq q
  exact List.forall_mem_append.mpr ⟨lw_r1, List.forall_mem_append.mpr ⟨lw_r2, lw_r3⟩⟩
/-! ===== names: by program (wip/whole/gen/names.py) out of javap's listing and the Statement's tables ===== -/
def nT_D : u_T := fun k => match k with
  | 0 => ("DrillRows$Drill", "script", "LDrillRows$Script;", true)
  | 1 => ("DrillRows$Drill", "beganAt", "I", true)
  | 2 => ("DrillRows$Drill", "on", "Z", false)
  | 3 => ("DrillRows$Drill", "eventBegin", "[I", true)
  | 4 => ("DrillRows$Drill", "begunCount", "I", false)
  | 5 => ("DrillRows$Drill", "firstAct", "[I", true)
  | 6 => ("DrillRows$Drill", "actKind", "[I", true)
  | 7 => ("DrillRows$Drill", "actSecond", "[I", true)
  | _ => ("DrillRows$Drill", "actCount", "I", false)
def nt_D : Nat → FieldType := fun k => match k with
  | 0 => .object "DrillRows$Script"
  | 1 => .int
  | 2 => .boolean
  | 3 => .array (.int)
  | 4 => .int
  | 5 => .array (.int)
  | 6 => .array (.int)
  | 7 => .array (.int)
  | _ => .int
theorem nn_D : ∀ a, a < 9 → ∀ b, b < 9 → a ≠ b → (nT_D a).2.1 ≠ (nT_D b).2.1 := by decide +kernel
theorem nd_D : ∀ k, k < 9 → parseFieldDescriptor (nT_D k).2.2.1 = some (nt_D k) := by decide +kernel
theorem nw_D : ∀ w ∈ u_ws "DrillRows$Drill" nT_D 9, w ∈ lw_tbl := by decide +kernel
def nT_S : u_T := fun k => match k with
  | 0 => ("DrillRows$Script", "eventTold", "[Z", true)
  | 1 => ("DrillRows$Script", "eventAct", "[I", true)
  | 2 => ("DrillRows$Script", "eventDelay", "[I", true)
  | 3 => ("DrillRows$Script", "eventLatest", "[I", true)
  | 4 => ("DrillRows$Script", "eventPart", "[I", true)
  | 5 => ("DrillRows$Script", "eventSecret", "[Z", true)
  | 6 => ("DrillRows$Script", "eventFault", "[I", true)
  | 7 => ("DrillRows$Script", "eventCount", "I", false)
  | 8 => ("DrillRows$Script", "aimEvent", "[I", true)
  | 9 => ("DrillRows$Script", "aimAct", "[I", true)
  | 10 => ("DrillRows$Script", "aimSeconds", "[I", true)
  | 11 => ("DrillRows$Script", "aimWeight", "[I", true)
  | _ => ("DrillRows$Script", "played", "Z", false)
def nt_S : Nat → FieldType := fun k => match k with
  | 0 => .array (.boolean)
  | 1 => .array (.int)
  | 2 => .array (.int)
  | 3 => .array (.int)
  | 4 => .array (.int)
  | 5 => .array (.boolean)
  | 6 => .array (.int)
  | 7 => .int
  | 8 => .array (.int)
  | 9 => .array (.int)
  | 10 => .array (.int)
  | 11 => .array (.int)
  | _ => .boolean
theorem nn_S : ∀ a, a < 13 → ∀ b, b < 13 → a ≠ b → (nT_S a).2.1 ≠ (nT_S b).2.1 := by decide +kernel
theorem nd_S : ∀ k, k < 13 → parseFieldDescriptor (nT_S k).2.2.1 = some (nt_S k) := by decide +kernel
theorem nw_S : ∀ w ∈ u_ws "DrillRows$Script" nT_S 13, w ∈ lw_tbl := by decide +kernel
def nT_T : u_T := fun k => match k with
  | 0 => ("DrillRows$Tape", "bytes", "[I", true)
  | 1 => ("DrillRows$Tape", "length", "I", false)
  | 2 => ("DrillRows$Tape", "at", "I", false)
  | _ => ("DrillRows$Tape", "wrongAt", "I", false)
def nt_T : Nat → FieldType := fun k => match k with
  | 0 => .array (.int)
  | 1 => .int
  | 2 => .int
  | _ => .int
theorem nn_T : ∀ a, a < 4 → ∀ b, b < 4 → a ≠ b → (nT_T a).2.1 ≠ (nT_T b).2.1 := by decide +kernel
theorem nd_T : ∀ k, k < 4 → parseFieldDescriptor (nT_T k).2.2.1 = some (nt_T k) := by decide +kernel
theorem nw_T : ∀ w ∈ u_ws "DrillRows$Tape" nT_T 4, w ∈ lw_tbl := by decide +kernel
def nT_R : u_T := fun k => match k with
  | 0 => ("DrillRows", "tape", "LDrillRows$Tape;", true)
  | 1 => ("DrillRows", "script", "LDrillRows$Script;", false)
  | 2 => ("DrillRows", "spare", "LDrillRows$Script;", false)
  | 3 => ("DrillRows", "wrongPlace", "I", false)
  | 4 => ("DrillRows", "now", "I", false)
  | 5 => ("DrillRows", "drills", "[LDrillRows$Drill;", true)
  | 6 => ("DrillRows", "drillCount", "I", false)
  | 7 => ("DrillRows", "drillOfUnit", "[I", true)
  | 8 => ("DrillRows", "rowCells", "[I", true)
  | _ => ("DrillRows", "rowCount", "I", false)
def nt_R : Nat → FieldType := fun k => match k with
  | 0 => .object "DrillRows$Tape"
  | 1 => .object "DrillRows$Script"
  | 2 => .object "DrillRows$Script"
  | 3 => .int
  | 4 => .int
  | 5 => .array (.object "DrillRows$Drill")
  | 6 => .int
  | 7 => .array (.int)
  | 8 => .array (.int)
  | _ => .int
theorem nn_R : ∀ a, a < 10 → ∀ b, b < 10 → a ≠ b → (nT_R a).2.1 ≠ (nT_R b).2.1 := by decide +kernel
theorem nd_R : ∀ k, k < 10 → parseFieldDescriptor (nT_R k).2.2.1 = some (nt_R k) := by decide +kernel
theorem nw_R : ∀ w ∈ u_ws "DrillRows" nT_R 10, w ∈ lw_tbl := by decide +kernel
def nT_M : u_T := fun k => match k with
  | 0 => ("DrillRowsModel", "thrown", "I", false)
  | 1 => ("DrillRowsModel", "now", "I", false)
  | 2 => ("DrillRowsModel", "taped", "I", false)
  | 3 => ("DrillRowsModel", "tape", "[I", true)
  | 4 => ("DrillRowsModel", "place", "I", false)
  | 5 => ("DrillRowsModel", "at", "I", false)
  | 6 => ("DrillRowsModel", "wrong", "I", false)
  | 7 => ("DrillRowsModel", "isEvent", "[Z", true)
  | 8 => ("DrillRowsModel", "second", "[I", true)
  | 9 => ("DrillRowsModel", "act", "[I", true)
  | 10 => ("DrillRowsModel", "delay", "[I", true)
  | 11 => ("DrillRowsModel", "part", "[I", true)
  | 12 => ("DrillRowsModel", "secret", "[Z", true)
  | 13 => ("DrillRowsModel", "fault", "[I", true)
  | 14 => ("DrillRowsModel", "isAim", "[Z", true)
  | 15 => ("DrillRowsModel", "aimEvent", "[I", true)
  | 16 => ("DrillRowsModel", "aimAct", "[I", true)
  | 17 => ("DrillRowsModel", "aimWithin", "[I", true)
  | 18 => ("DrillRowsModel", "weight", "[I", true)
  | 19 => ("DrillRowsModel", "drills", "I", false)
  | 20 => ("DrillRowsModel", "begun", "[I", true)
  | 21 => ("DrillRowsModel", "stopped", "[Z", true)
  | 22 => ("DrillRowsModel", "begins", "[I", true)
  | 23 => ("DrillRowsModel", "acts", "[I", true)
  | 24 => ("DrillRowsModel", "did", "[I", true)
  | 25 => ("DrillRowsModel", "didAt", "[I", true)
  | 26 => ("DrillRowsModel", "unitOf", "[I", true)
  | 27 => ("DrillRowsModel", "rows", "I", false)
  | 28 => ("DrillRowsModel", "rowDrill", "[I", true)
  | 29 => ("DrillRowsModel", "rowSecond", "[I", true)
  | 30 => ("DrillRowsModel", "rowMark", "[I", true)
  | _ => ("DrillRowsModel", "rowLate", "[Z", true)
def nt_M : Nat → FieldType := fun k => match k with
  | 0 => .int
  | 1 => .int
  | 2 => .int
  | 3 => .array (.int)
  | 4 => .int
  | 5 => .int
  | 6 => .int
  | 7 => .array (.boolean)
  | 8 => .array (.int)
  | 9 => .array (.int)
  | 10 => .array (.int)
  | 11 => .array (.int)
  | 12 => .array (.boolean)
  | 13 => .array (.int)
  | 14 => .array (.boolean)
  | 15 => .array (.int)
  | 16 => .array (.int)
  | 17 => .array (.int)
  | 18 => .array (.int)
  | 19 => .int
  | 20 => .array (.int)
  | 21 => .array (.boolean)
  | 22 => .array (.int)
  | 23 => .array (.int)
  | 24 => .array (.int)
  | 25 => .array (.int)
  | 26 => .array (.int)
  | 27 => .int
  | 28 => .array (.int)
  | 29 => .array (.int)
  | 30 => .array (.int)
  | _ => .array (.boolean)
theorem nn_M : ∀ a, a < 32 → ∀ b, b < 32 → a ≠ b → (nT_M a).2.1 ≠ (nT_M b).2.1 := by decide +kernel
theorem nd_M : ∀ k, k < 32 → parseFieldDescriptor (nT_M k).2.2.1 = some (nt_M k) := by decide +kernel
theorem nw_M : ∀ w ∈ u_ws "DrillRowsModel" nT_M 32, w ∈ lw_tbl := by decide +kernel
abbrev vwCl : List vw_C := [("DrillRows$Drill", nT_D, 9), ("DrillRows$Script", nT_S, 13), ("DrillRows$Tape", nT_T, 4), ("DrillRows", nT_R, 10), ("DrillRowsModel", nT_M, 32)]
abbrev ny_R_init : MethodName := ⟨"DrillRows", "<init>", "()V"⟩
abbrev ny_R_sign : MethodName := ⟨"DrillRows", "sign", "(JI)I"⟩
abbrev ny_R_read : MethodName := ⟨"DrillRows", "read", "()I"⟩
abbrev ny_R_place : MethodName := ⟨"DrillRows", "place", "()I"⟩
abbrev ny_R_begin : MethodName := ⟨"DrillRows", "begin", "()I"⟩
abbrev ny_R_stop : MethodName := ⟨"DrillRows", "stop", "(I)V"⟩
abbrev ny_R_unit : MethodName := ⟨"DrillRows", "unit", "(II)V"⟩
abbrev ny_R_real : MethodName := ⟨"DrillRows", "real", "(I)I"⟩
abbrev ny_R_act : MethodName := ⟨"DrillRows", "act", "(II)I"⟩
abbrev ny_R_tick : MethodName := ⟨"DrillRows", "tick", "(I)I"⟩
abbrev ny_R_event : MethodName := ⟨"DrillRows", "event", "(III)I"⟩
abbrev ny_R_seen : MethodName := ⟨"DrillRows", "seen", "(III)I"⟩
abbrev ny_R_fault : MethodName := ⟨"DrillRows", "fault", "(II)Z"⟩
abbrev ny_R_aim : MethodName := ⟨"DrillRows", "aim", "(II)I"⟩
abbrev ny_R_score : MethodName := ⟨"DrillRows", "score", "(II)I"⟩
abbrev ny_R_compare : MethodName := ⟨"DrillRows", "compare", "(II)I"⟩
abbrev ny_R_observe : MethodName := ⟨"DrillRows", "observe", "(III)I"⟩
abbrev ny_R_row : MethodName := ⟨"DrillRows", "row", "(II)I"⟩
abbrev ny_R_play : MethodName := ⟨"DrillRows", "play", "(II)I"⟩
abbrev ny_R_drill : MethodName := ⟨"DrillRows", "drill", "(II)I"⟩
abbrev ny_R_knownDrill : MethodName := ⟨"DrillRows", "knownDrill", "(I)LDrillRows$Drill;"⟩
abbrev ny_R_countUnits : MethodName := ⟨"DrillRows", "countUnits", "(I)I"⟩
abbrev ny_R_inLowestTerms : MethodName := ⟨"DrillRows", "inLowestTerms", "(III)I"⟩
abbrev ny_M_init : MethodName := ⟨"DrillRowsModel", "<init>", "()V"⟩
abbrev ny_M_thrown : MethodName := ⟨"DrillRowsModel", "thrown", "()I"⟩
abbrev ny_M_in : MethodName := ⟨"DrillRowsModel", "in", "(III)Z"⟩
abbrev ny_M_goes : MethodName := ⟨"DrillRowsModel", "goes", "(ZZZ)Z"⟩
abbrev ny_M_sign : MethodName := ⟨"DrillRowsModel", "sign", "(JI)I"⟩
abbrev ny_M_here : MethodName := ⟨"DrillRowsModel", "here", "()I"⟩
abbrev ny_M_see : MethodName := ⟨"DrillRowsModel", "see", "()I"⟩
abbrev ny_M_fail : MethodName := ⟨"DrillRowsModel", "fail", "(I)V"⟩
abbrev ny_M_take : MethodName := ⟨"DrillRowsModel", "take", "(I)V"⟩
abbrev ny_M_takes : MethodName := ⟨"DrillRowsModel", "takes", "(I)Z"⟩
abbrev ny_M_isDigit : MethodName := ⟨"DrillRowsModel", "isDigit", "()Z"⟩
abbrev ny_M_number : MethodName := ⟨"DrillRowsModel", "number", "(II)I"⟩
abbrev ny_M_eventRow : MethodName := ⟨"DrillRowsModel", "eventRow", "()V"⟩
abbrev ny_M_aimRow : MethodName := ⟨"DrillRowsModel", "aimRow", "()V"⟩
abbrev ny_M_copy : MethodName := ⟨"DrillRowsModel", "copy", "(II)V"⟩
abbrev ny_M_size : MethodName := ⟨"DrillRowsModel", "size", "(I)I"⟩
abbrev ny_M_read : MethodName := ⟨"DrillRowsModel", "read", "()I"⟩
abbrev ny_M_place : MethodName := ⟨"DrillRowsModel", "place", "()I"⟩
abbrev ny_M_relative : MethodName := ⟨"DrillRowsModel", "relative", "(I)I"⟩
abbrev ny_M_first : MethodName := ⟨"DrillRowsModel", "first", "(III)I"⟩
abbrev ny_M_isDue : MethodName := ⟨"DrillRowsModel", "isDue", "(II)Z"⟩
abbrev ny_M_look : MethodName := ⟨"DrillRowsModel", "look", "(I)I"⟩
abbrev ny_M_begin : MethodName := ⟨"DrillRowsModel", "begin", "()I"⟩
abbrev ny_M_isDrill : MethodName := ⟨"DrillRowsModel", "isDrill", "(I)Z"⟩
abbrev ny_M_stop : MethodName := ⟨"DrillRowsModel", "stop", "(I)V"⟩
abbrev ny_M_unit : MethodName := ⟨"DrillRowsModel", "unit", "(II)V"⟩
abbrev ny_M_real : MethodName := ⟨"DrillRowsModel", "real", "(I)I"⟩
abbrev ny_M_does : MethodName := ⟨"DrillRowsModel", "does", "(II)I"⟩
abbrev ny_M_act : MethodName := ⟨"DrillRowsModel", "act", "(II)I"⟩
abbrev ny_M_play : MethodName := ⟨"DrillRowsModel", "play", "(II)I"⟩
abbrev ny_M_tick : MethodName := ⟨"DrillRowsModel", "tick", "(I)I"⟩
abbrev ny_M_event : MethodName := ⟨"DrillRowsModel", "event", "(III)I"⟩
abbrev ny_M_seen : MethodName := ⟨"DrillRowsModel", "seen", "(III)I"⟩
abbrev ny_M_fault : MethodName := ⟨"DrillRowsModel", "fault", "(II)Z"⟩
abbrev ny_M_is : MethodName := ⟨"DrillRowsModel", "is", "(II)I"⟩
abbrev ny_M_aim : MethodName := ⟨"DrillRowsModel", "aim", "(II)I"⟩
abbrev ny_M_score : MethodName := ⟨"DrillRowsModel", "score", "(II)I"⟩
abbrev ny_M_compare : MethodName := ⟨"DrillRowsModel", "compare", "(II)I"⟩
abbrev ny_M_observe : MethodName := ⟨"DrillRowsModel", "observe", "(III)I"⟩
abbrev ny_M_row : MethodName := ⟨"DrillRowsModel", "row", "(II)I"⟩
abbrev ny_M_drill : MethodName := ⟨"DrillRowsModel", "drill", "(II)I"⟩
abbrev ny_D_init : MethodName := ⟨"DrillRows$Drill", "<init>", "(LDrillRows$Script;I)V"⟩
abbrev ny_D_drillSecond : MethodName := ⟨"DrillRows$Drill", "drillSecond", "(I)I"⟩
abbrev ny_D_beginOf : MethodName := ⟨"DrillRows$Drill", "beginOf", "(I)I"⟩
abbrev ny_D_hasRoomForAct : MethodName := ⟨"DrillRows$Drill", "hasRoomForAct", "()Z"⟩
abbrev ny_D_noteAct : MethodName := ⟨"DrillRows$Drill", "noteAct", "(II)V"⟩
abbrev ny_D_beginDueEvents : MethodName := ⟨"DrillRows$Drill", "beginDueEvents", "(I)I"⟩
abbrev ny_D_dueSecond : MethodName := ⟨"DrillRows$Drill", "dueSecond", "(I)I"⟩
abbrev ny_D_firstSecondOf : MethodName := ⟨"DrillRows$Drill", "firstSecondOf", "(I)I"⟩
abbrev ny_D_eventSeenBy : MethodName := ⟨"DrillRows$Drill", "eventSeenBy", "(II)I"⟩
abbrev ny_D_maySee : MethodName := ⟨"DrillRows$Drill", "maySee", "(II)Z"⟩
abbrev ny_D_hasBegunFault : MethodName := ⟨"DrillRows$Drill", "hasBegunFault", "(I)Z"⟩
abbrev ny_D_stateOfAim : MethodName := ⟨"DrillRows$Drill", "stateOfAim", "(II)I"⟩
abbrev ny_D_hasActWithin : MethodName := ⟨"DrillRows$Drill", "hasActWithin", "(III)Z"⟩
abbrev ny_D_weightOfMetAims : MethodName := ⟨"DrillRows$Drill", "weightOfMetAims", "(I)I"⟩
abbrev ny_S_init : MethodName := ⟨"DrillRows$Script", "<init>", "()V"⟩
abbrev ny_S_clear : MethodName := ⟨"DrillRows$Script", "clear", "()V"⟩
abbrev ny_S_hasEvent : MethodName := ⟨"DrillRows$Script", "hasEvent", "(I)Z"⟩
abbrev ny_S_hasAim : MethodName := ⟨"DrillRows$Script", "hasAim", "(I)Z"⟩
abbrev ny_S_addEvent : MethodName := ⟨"DrillRows$Script", "addEvent", "(IIII)V"⟩
abbrev ny_S_describeEvent : MethodName := ⟨"DrillRows$Script", "describeEvent", "(IIZI)V"⟩
abbrev ny_S_addAim : MethodName := ⟨"DrillRows$Script", "addAim", "(IIIII)V"⟩
abbrev ny_S_weightOfAims : MethodName := ⟨"DrillRows$Script", "weightOfAims", "()I"⟩
abbrev ny_T_init : MethodName := ⟨"DrillRows$Tape", "<init>", "()V"⟩
abbrev ny_T_hasRoomFor : MethodName := ⟨"DrillRows$Tape", "hasRoomFor", "(I)Z"⟩
abbrev ny_T_append : MethodName := ⟨"DrillRows$Tape", "append", "(JI)I"⟩
abbrev ny_T_parseInto : MethodName := ⟨"DrillRows$Tape", "parseInto", "(LDrillRows$Script;)I"⟩
abbrev ny_T_parseRow : MethodName := ⟨"DrillRows$Tape", "parseRow", "(LDrillRows$Script;)V"⟩
abbrev ny_T_parseEvent : MethodName := ⟨"DrillRows$Tape", "parseEvent", "(LDrillRows$Script;)V"⟩
abbrev ny_T_parseAim : MethodName := ⟨"DrillRows$Tape", "parseAim", "(LDrillRows$Script;)V"⟩
abbrev ny_T_parseNumber : MethodName := ⟨"DrillRows$Tape", "parseNumber", "(II)I"⟩
abbrev ny_T_expect : MethodName := ⟨"DrillRows$Tape", "expect", "(C)V"⟩
abbrev ny_T_accept : MethodName := ⟨"DrillRows$Tape", "accept", "(C)Z"⟩
abbrev ny_T_skipBlanks : MethodName := ⟨"DrillRows$Tape", "skipBlanks", "()V"⟩
abbrev ny_T_nextByte : MethodName := ⟨"DrillRows$Tape", "nextByte", "()I"⟩
abbrev ny_T_isDigit : MethodName := ⟨"DrillRows$Tape", "isDigit", "(I)Z"⟩
abbrev ny_T_fail : MethodName := ⟨"DrillRows$Tape", "fail", "(I)V"⟩
abbrev ny_L_sign : MethodName := ⟨"DrillRowsLaw", "sign", "(LDrillRows;JI[J)I"⟩
abbrev ny_L_read : MethodName := ⟨"DrillRowsLaw", "read", "(LDrillRows;[J)I"⟩
abbrev ny_L_begin : MethodName := ⟨"DrillRowsLaw", "begin", "(LDrillRows;[J)I"⟩
abbrev ny_L_stop : MethodName := ⟨"DrillRowsLaw", "stop", "(LDrillRows;I)I"⟩
abbrev ny_L_unit : MethodName := ⟨"DrillRowsLaw", "unit", "(LDrillRows;II)I"⟩
abbrev ny_L_real : MethodName := ⟨"DrillRowsLaw", "real", "(LDrillRows;I[J)I"⟩
abbrev ny_L_act : MethodName := ⟨"DrillRowsLaw", "act", "(LDrillRows;II[J)I"⟩
abbrev ny_L_tick : MethodName := ⟨"DrillRowsLaw", "tick", "(LDrillRows;I[J)I"⟩
abbrev ny_L_event : MethodName := ⟨"DrillRowsLaw", "event", "(LDrillRows;III[J)I"⟩
abbrev ny_L_seen : MethodName := ⟨"DrillRowsLaw", "seen", "(LDrillRows;III[J)I"⟩
abbrev ny_L_fault : MethodName := ⟨"DrillRowsLaw", "fault", "(LDrillRows;II[J)I"⟩
abbrev ny_L_aim : MethodName := ⟨"DrillRowsLaw", "aim", "(LDrillRows;II[J)I"⟩
abbrev ny_L_score : MethodName := ⟨"DrillRowsLaw", "score", "(LDrillRows;II[J)I"⟩
abbrev ny_L_compare : MethodName := ⟨"DrillRowsLaw", "compare", "(LDrillRows;II[J)I"⟩
abbrev ny_L_observe : MethodName := ⟨"DrillRowsLaw", "observe", "(LDrillRows;III[J)I"⟩
abbrev ny_L_row : MethodName := ⟨"DrillRowsLaw", "row", "(LDrillRows;II[J)I"⟩
abbrev ny_L_play : MethodName := ⟨"DrillRowsLaw", "play", "(LDrillRows;II[J)I"⟩
abbrev ny_L_drill : MethodName := ⟨"DrillRowsLaw", "drill", "(LDrillRows;II[J)I"⟩
abbrev ny_L_law : MethodName := ⟨"DrillRowsLaw", "law", "([I)Z"⟩
abbrev ny_N_min : MethodName := ⟨"java/lang/Math", "min", "(II)I"⟩
abbrev ny_A_fill : MethodName := ⟨"java/util/Arrays", "fill", "([II)V"⟩
theorem dr_dd {code : ByteArray} {L : List (Nat × Instr × Nat)} (h : ∀ q ∈ L, decode code q.1 = .ok (q.2.1, q.2.2)) (k : Nat) {pc n : Nat} {i : Instr} (e : L[k]? = some (pc, i, n)) : decode code pc = .ok (i, n) := h (pc, i, n) (List.mem_of_getElem? e)
end
section
/-! ===== the room that the claim gives; frames and words: a base, and a step for each call ===== -/
def dr_CC : Nat := room_1.cells
def dr_SC : Nat := room_1.slots
/-! ===== a heap by numbers, and one judgement of a method's road over it ===== -/
/-- a thing: its kind (below 100: the number of its class in vwCl; 100 + c: an array of the code c; from 200 on: nothing is said), how many places, what they hold -/
abbrev dr_AO : Type := Nat × Nat × (Nat → Value)
/-- a heap: how many cells have been made, how many slots they have, what lies under each number (0: the script; 1, 2, ..: the cells in the order of their making) -/
abbrev dr_AH : Type := Nat × Nat × (Nat → dr_AO)
/-- an end: an answer, or the class of an exception and the number of its cell -/
abbrev dr_RS : Type := Option Value ⊕ (String × Nat)
/-- program, launch, environment, the law's start, the script's address, the classes' ids, the fields' slots -/
abbrev dr_Gt : Type := Program × Launch × Env × State × Nat × (Nat → ClassId) × (Nat → Nat → Nat)
abbrev dr_Gt.p (G : dr_Gt) : Program := G.1
abbrev dr_Gt.l (G : dr_Gt) : Launch := G.2.1
abbrev dr_Gt.e (G : dr_Gt) : Env := G.2.2.1
abbrev dr_Gt.s (G : dr_Gt) : State := G.2.2.2.1
abbrev dr_Gt.b (G : dr_Gt) : Nat := G.2.2.2.2.1
abbrev dr_Gt.dC (G : dr_Gt) : Nat → ClassId := G.2.2.2.2.2.1
abbrev dr_Gt.dI (G : dr_Gt) : Nat → Nat → Nat := G.2.2.2.2.2.2
def dr_ad (G : dr_Gt) : Nat → Nat
  | 0 => G.b
  | k + 1 => G.s.heap.size + k
def dr_tr (G : dr_Gt) : Value → Value
  | .ref k => .ref (dr_ad G k)
  | .int x => .int x
  | .long x => .long x
  | .float x => .float x
  | .double x => .double x
  | .null => .null
  | .retAddr x => .retAddr x
theorem dr_ad_inj {G : dr_Gt} (hb : G.b < G.s.heap.size) {a c : Nat} (h : dr_ad G a = dr_ad G c) : a = c := by
  cases a <;> cases c <;> simp only [dr_ad] at h <;> omega
theorem dr_tr_cat (G : dr_Gt) (v : Value) : (dr_tr G v).category = v.category := by cases v <;> rfl
/-- a method: its name, code, locals, answer's type, table of handlers -/
abbrev dr_MI : Type := MethodName × ByteArray × Nat × Option FieldType × List (Nat × Nat × Nat × Nat)
abbrev dr_MI.y (M : dr_MI) : MethodName := M.1
abbrev dr_MI.own (M : dr_MI) : String := M.1.cls
abbrev dr_MI.code (M : dr_MI) : ByteArray := M.2.1
abbrev dr_MI.maxL (M : dr_MI) : Nat := M.2.2.1
abbrev dr_MI.ret (M : dr_MI) : Option FieldType := M.2.2.2.1
abbrev dr_MI.tab (M : dr_MI) : List (Nat × Nat × Nat × Nat) := M.2.2.2.2
/-- array codes -/
def dr_nm (ci : Nat) : String := match vwCl[ci]? with
  | some q => q.1
  | none => ""
def dr_ty (c : Nat) : FieldType :=
  if c = 0 then .int else if c = 1 then .long else if c = 2 then .boolean else if c = 3 then .byte else if c = 4 then .char else .object (dr_nm (c - 10))
def dr_ka (G : dr_Gt) (c : Nat) (cell : Cell) : Prop :=
  G.s.isArrayOf cell (dr_ty c) ∧ (10 ≤ c → ∃ kA : Class, G.s.vm.classes[cell.cls]? = some kA ∧ kA.kind = .array (G.dC (c - 10)) (dr_ty c) ∧ ∃ q, vwCl[c - 10]? = some q)
def dr_at (G : dr_Gt) (a : Nat) (o : dr_AO) (H : Heap) : Prop :=
  (o.1 < 100 → ∃ q, vwCl[o.1]? = some q ∧ q.2.2 = o.2.1 ∧ t_OB (dr_ad G a) (G.dC o.1) o.2.1 (G.dI o.1) H (fun k => dr_tr G (o.2.2 k))) ∧
  (100 ≤ o.1 → o.1 < 200 → ∃ cell : Cell, H[dr_ad G a]? = some cell ∧ cell.vm ≠ .unknown ∧ dr_ka G (o.1 - 100) cell ∧ cell.slots.size = o.2.1 ∧ o.2.1 < 2 ^ 31 ∧ ∀ j, j < o.2.1 → cell.slots[j]? = some (dr_tr G (o.2.2 j)))
/-- the heap H is h -/
def dr_C (G : dr_Gt) (h : dr_AH) (H : Heap) : Prop :=
  H.size = G.s.heap.size + h.1 ∧ (∀ q, q < G.s.heap.size → H[q]? = G.s.heap[q]?) ∧ (∀ k, k ≤ h.1 → dr_at G k (h.2.2 k) H) ∧ (∀ k, h.1 < k → 200 ≤ (h.2.2 k).1) ∧ 100 ≤ (h.2.2 0).1 ∧ h.1 ≤ dr_CC ∧ h.2.1 ≤ dr_SC
theorem dr_at.kept {G : dr_Gt} {a : Nat} {o : dr_AO} {H H1 : Heap} (h : dr_at G a o H) (e : H1[dr_ad G a]? = H[dr_ad G a]?) : dr_at G a o H1 := by
  refine ⟨fun h1 => ?_, fun h1 h2 => ?_⟩
  · obtain ⟨q, q1, q2, q3⟩ := h.1 h1
    exact ⟨q, q1, q2, q3.kept e⟩
  · obtain ⟨cell, q1, q2⟩ := h.2 h1 h2
    exact ⟨cell, by rw [e]; exact q1, q2⟩
theorem dr_C.obj {G : dr_Gt} {h : dr_AH} {H : Heap} (hC : dr_C G h H) {a ci : Nat} (hk : (h.2.2 a).1 = ci) (hci : ci < 100) :
    a ≤ h.1 ∧ ∃ q, vwCl[ci]? = some q ∧ q.2.2 = (h.2.2 a).2.1 ∧ t_OB (dr_ad G a) (G.dC ci) (h.2.2 a).2.1 (G.dI ci) H (fun k => dr_tr G ((h.2.2 a).2.2 k)) := by
  have ha : a ≤ h.1 := by
    rcases Nat.lt_or_ge h.1 a with q | q
    · have := hC.2.2.2.1 a q
      omega
    · exact q
  subst hk
  exact ⟨ha, (hC.2.2.1 a ha).1 hci⟩
theorem dr_C.arr {G : dr_Gt} {h : dr_AH} {H : Heap} (hC : dr_C G h H) {a c : Nat} (hk : (h.2.2 a).1 = 100 + c) (hc : c < 100) :
    a ≤ h.1 ∧ ∃ cell : Cell, H[dr_ad G a]? = some cell ∧ cell.vm ≠ .unknown ∧ dr_ka G c cell ∧ cell.slots.size = (h.2.2 a).2.1 ∧ (h.2.2 a).2.1 < 2 ^ 31 ∧ ∀ j, j < (h.2.2 a).2.1 → cell.slots[j]? = some (dr_tr G ((h.2.2 a).2.2 j)) := by
  have ha : a ≤ h.1 := by
    rcases Nat.lt_or_ge h.1 a with q | q
    · have := hC.2.2.2.1 a q
      omega
    · exact q
  have h1 := (hC.2.2.1 a ha).2 (by omega) (by omega)
  rw [show (h.2.2 a).1 - 100 = c by omega] at h1
  exact ⟨ha, h1⟩
/-! the heap's own changes -/
def dr_upd (f : Nat → dr_AO) (a : Nat) (o : dr_AO) : Nat → dr_AO := fun k => if k = a then o else f k
def dr_set (o : dr_AO) (k : Nat) (v : Value) : dr_AO := (o.1, o.2.1, fun j => if j = k then v else o.2.2 j)
/-- the k-th place of the thing a is written -/
def dr_put (h : dr_AH) (a k : Nat) (v : Value) : dr_AH := (h.1, h.2.1, dr_upd h.2.2 a (dr_set (h.2.2 a) k v))
/-- a thing more -/
def dr_push (h : dr_AH) (o : dr_AO) : dr_AH := (h.1 + 1, h.2.1 + o.2.1, dr_upd h.2.2 (h.1 + 1) o)
theorem dr_C.put {G : dr_Gt} (hb : G.b < G.s.heap.size) {h : dr_AH} {H H1 : Heap} (hC : dr_C G h H) {a k : Nat} {v : Value} (ha : a ≤ h.1) (ha0 : 0 < a) (hz : H1.size = H.size) (ho : ∀ q, q ≠ dr_ad G a → H1[q]? = H[q]?)
    (hn : dr_at G a (dr_set (h.2.2 a) k v) H1) : dr_C G (dr_put h a k v) H1 := by
  refine ⟨hz.trans hC.1, fun q hq => ?_, fun j hj => ?_, fun j hj => ?_, ?_, hC.2.2.2.2.2⟩
  · rw [ho q ?_]
    · exact hC.2.1 q hq
    · cases a with
      | zero => omega
      | succ a => simp only [dr_ad]; omega
  · show dr_at G j (dr_upd h.2.2 a _ j) H1
    unfold dr_upd
    by_cases e : j = a
    · rw [if_pos e, e]; exact hn
    · rw [if_neg e]
      exact (hC.2.2.1 j hj).kept (ho _ (fun q => e (dr_ad_inj hb q)))
  · show 200 ≤ (dr_upd h.2.2 a _ j).1
    have hj : h.1 < j := hj
    unfold dr_upd
    rw [if_neg (by omega)]
    exact hC.2.2.2.1 j hj
  · show 100 ≤ (dr_upd h.2.2 a _ 0).1
    unfold dr_upd
    rw [if_neg (by omega)]
    exact hC.2.2.2.2.1
theorem dr_C.push {G : dr_Gt} (hb : G.b < G.s.heap.size) {h : dr_AH} {H H1 : Heap} (hC : dr_C G h H) {o : dr_AO} (hz : H1.size = H.size + 1) (ho : ∀ q, q < H.size → H1[q]? = H[q]?)
    (hn : dr_at G (h.1 + 1) o H1) (hr : h.1 < dr_CC ∧ h.2.1 + o.2.1 ≤ dr_SC) : dr_C G (dr_push h o) H1 := by
  have hz0 := hC.1
  refine ⟨by rw [hz, hz0]; simp only [dr_push]; omega, fun q hq => ?_, fun j hj => ?_, fun j hj => ?_, ?_, hr.1, hr.2⟩
  · rw [ho q (by omega)]; exact hC.2.1 q hq
  · show dr_at G j (dr_upd h.2.2 (h.1 + 1) _ j) H1
    have hj : j ≤ h.1 + 1 := hj
    unfold dr_upd
    by_cases e : j = h.1 + 1
    · rw [if_pos e, e]; exact hn
    · rw [if_neg e]
      refine (hC.2.2.1 j (by omega)).kept (ho _ ?_)
      cases j with
      | zero => simp only [dr_ad]; omega
      | succ j => simp only [dr_ad]; omega
  · show 200 ≤ (dr_upd h.2.2 (h.1 + 1) _ j).1
    have hj : h.1 + 1 < j := hj
    unfold dr_upd
    rw [if_neg (by omega)]
    exact hC.2.2.2.1 j (by omega)
  · show 100 ≤ (dr_upd h.2.2 (h.1 + 1) o 0).1
    unfold dr_upd
    rw [if_neg (by omega)]
    exact hC.2.2.2.2.1
/-! ===== the judgement ===== -/
/-- what the start gives -/
def dr_K (G : dr_Gt) : Prop :=
  G.p.tables.exec = Jvm.exec ∧ (∀ w ∈ lw_tbl, w.before #[Value.ref G.b] G.s = true) ∧ (∀ (c : Nat) (q : vw_C), vwCl[c]? = some q → u_Kn G.s q.1 q.2.1 q.2.2 (G.dC c) (G.dI c)) ∧ G.b < G.s.heap.size ∧ G.l.stackTraces = false ∧ (Jvm.Cond.and given_1 narrow_1).before #[Value.ref G.b] G.s = true
/-- a word of the tables that the start and every later state have -/
def dr_T (w : Cond) : Prop := ∀ (G : dr_Gt) (s : State) (a' : Array Value), dr_K G → G.s.WarmedH s.vm → w.before a' s = true
theorem dr_Tg {w : Cond} (hi : w ∈ lw_tbl) (hg : ((w.onTables && w.keeps) = true ∨ ∃ ty, w = .arrayClass ty)) : dr_T w := fun _ _ _ K hW => word_at hW hg (K.2.1 w hi)
/-- the method at hand -/
def dr_M (G : dr_Gt) (M : dr_MI) (s : State) (m : MethodId) (meth : Method) (c : Code) : Prop :=
  G.s.WarmedH s.vm ∧ s.vm.findClass M.own = some m.cls ∧ c.code = M.code ∧ c.maxLocals = M.maxL ∧ meth.sig.returnType = M.ret ∧ meth.locks = false ∧ meth.name = M.y.name ∧ c.exceptionTable.toList.map (fun x => (x.startPc, x.endPc, x.handlerPc, x.catchType)) = M.tab
/-- so many frames and words are left -/
def dr_R (fr wo : Nat) (R : Room) : Prop := fr ≤ R.frames ∧ wo ≤ R.locals
def dr_tl (G : dr_Gt) (l : List (Nat × Value)) : List (Nat × Value) := l.map (fun q => (q.1, dr_tr G q.2))
/-- all that stands at a point of a road -/
def dr_X (G : dr_Gt) (M : dr_MI) (fr wo : Nat) (R : Room) (s : State) (m : MethodId) (meth : Method) (c : Code) (H : Heap) (locs : List Loc) (cells slots : Nat) (ls : Array Slot) (l : List (Nat × Value)) (h : dr_AH) : Prop :=
  dr_K G ∧ dr_M G M s m meth c ∧ dr_R fr wo R ∧ R.cells + h.1 = dr_CC + cells ∧ R.slots + h.2.1 = dr_SC + slots ∧ (∀ q ∈ locs, G.s.heap.size ≤ q.base) ∧ dr_C G h H ∧ lv_has ls M.maxL (dr_tl G l)
def dr_O (G : dr_Gt) (o : Outcome) (r : dr_RS) (h : dr_AH) (H : Heap) : Prop := match r with
  | .inl v => o = .returned (v.map (dr_tr G))
  | .inr x => o = .threw (dr_ad G x.2) ∧ 1 ≤ x.2 ∧ x.2 ≤ h.1 ∧ ∃ ce : Cell, H[dr_ad G x.2]? = some ce ∧ ce.vm = .none ∧ G.s.vm.findClass x.1 = some ce.cls
def dr_E (G : dr_Gt) (R : Room) (s : State) (below : List Frame) (Q : dr_RS → dr_AH → Prop) : State → Prop := fun t =>
  ∃ (o : Outcome) (r : dr_RS) (h : dr_AH) (L : List Loc) (k n : Nat), t.status = .running ∧ Ended t below o ∧ s.WarmedH t.vm ∧ s.sameButNew ({ t with vm := s.vm } : State) L k n ∧ (∀ q ∈ L, G.s.heap.size ≤ q.base) ∧
    R.cells + h.1 = dr_CC + k ∧ R.slots + h.2.1 = dr_SC + n ∧ dr_C G h t.heap ∧ dr_O G o r h t.heap ∧ Q r h
/-- from pc on, with the locals l, the operands st, the heap h: the method ends, with an end and a heap of Q -/
def dr_W (M : dr_MI) (fr wo pc : Nat) (l : List (Nat × Value)) (st : List Value) (h : dr_AH) (Q : dr_RS → dr_AH → Prop) : Prop :=
  ∀ (G : dr_Gt) (R : Room) (s : State) (m : MethodId) (args : Array Value) (below : List Frame) (meth : Method) (c : Code) (H : Heap) (locs : List Loc) (cells slots : Nat) (ls : Array Slot),
    dr_X G M fr wo R s m meth c H locs cells slots ls l h → W G.p G.l G.e R s m args below meth c H locs cells slots (dr_E G R s below Q) (F0 m pc ls (st.map (dr_tr G)))
/-- .. with the exception under the number q, of class E, thrown over the frame -/
def dr_V (M : dr_MI) (fr wo pc : Nat) (l : List (Nat × Value)) (st : List Value) (E : String) (q : Nat) (h : dr_AH) (Q : dr_RS → dr_AH → Prop) : Prop :=
  ∀ (G : dr_Gt) (R : Room) (s : State) (m : MethodId) (args : Array Value) (below : List Frame) (meth : Method) (c : Code) (H : Heap) (locs : List Loc) (cells slots : Nat) (ls : Array Slot),
    dr_X G M fr wo R s m meth c H locs cells slots ls l h → 1 ≤ q → q ≤ h.1 → (∃ ce : Cell, H[dr_ad G q]? = some ce ∧ ce.vm = .none ∧ G.s.vm.findClass E = some ce.cls) →
      ∀ T : State, T.heap = H → Stand G.p G.l G.e R s m args below meth c T locs cells slots → ∃ t, Steps G.p.tables G.e below ((T.setTop (F0 m pc ls (st.map (dr_tr G)))).pushFrame (.throwing (dr_ad G q))) t ∧ dr_E G R s below Q t
/-- the function's value is some end, and it is of Q -/
def dr_p (o : Option (dr_RS × dr_AH)) (Q : dr_RS → dr_AH → Prop) : Prop := ∃ r, o = some r ∧ Q r.1 r.2
theorem dr_p0 {Q : dr_RS → dr_AH → Prop} (h : dr_p none Q) : False := by obtain ⟨r, h, -⟩ := h; cases h
section DRX
variable {G : dr_Gt} {M : dr_MI} {fr wo pc : Nat} {R : Room} {s : State} {m : MethodId} {args : Array Value} {below : List Frame} {meth : Method} {c : Code} {H : Heap} {locs : List Loc} {cells slots : Nat} {ls : Array Slot} {l : List (Nat × Value)} {h : dr_AH}
theorem dr_X.exec (X : dr_X G M fr wo R s m meth c H locs cells slots ls l h) : G.p.tables.exec = Jvm.exec := X.1.1
theorem dr_X.bytes (X : dr_X G M fr wo R s m meth c H locs cells slots ls l h) : c.code = M.code := X.2.1.2.2.1
theorem dr_X.warm (X : dr_X G M fr wo R s m meth c H locs cells slots ls l h) : G.s.WarmedH s.vm := X.2.1.1
theorem dr_X.own (X : dr_X G M fr wo R s m meth c H locs cells slots ls l h) : s.vm.findClass M.own = some m.cls := X.2.1.2.1
theorem dr_X.maxL (X : dr_X G M fr wo R s m meth c H locs cells slots ls l h) : c.maxLocals = M.maxL := X.2.1.2.2.2.1
theorem dr_X.rets (X : dr_X G M fr wo R s m meth c H locs cells slots ls l h) : meth.sig.returnType = M.ret := X.2.1.2.2.2.2.1
theorem dr_X.locks (X : dr_X G M fr wo R s m meth c H locs cells slots ls l h) : meth.locks = false := X.2.1.2.2.2.2.2.1
theorem dr_X.name (X : dr_X G M fr wo R s m meth c H locs cells slots ls l h) : meth.name = M.y.name := X.2.1.2.2.2.2.2.2.1
theorem dr_X.tab (X : dr_X G M fr wo R s m meth c H locs cells slots ls l h) : c.exceptionTable.toList.map (fun x => (x.startPc, x.endPc, x.handlerPc, x.catchType)) = M.tab := X.2.1.2.2.2.2.2.2.2
theorem dr_X.room (X : dr_X G M fr wo R s m meth c H locs cells slots ls l h) : dr_R fr wo R := X.2.2.1
theorem dr_X.cellsE (X : dr_X G M fr wo R s m meth c H locs cells slots ls l h) : R.cells + h.1 = dr_CC + cells := X.2.2.2.1
theorem dr_X.slotsE (X : dr_X G M fr wo R s m meth c H locs cells slots ls l h) : R.slots + h.2.1 = dr_SC + slots := X.2.2.2.2.1
theorem dr_X.locsE (X : dr_X G M fr wo R s m meth c H locs cells slots ls l h) : ∀ q ∈ locs, G.s.heap.size ≤ q.base := X.2.2.2.2.2.1
theorem dr_X.heap (X : dr_X G M fr wo R s m meth c H locs cells slots ls l h) : dr_C G h H := X.2.2.2.2.2.2.1
theorem dr_X.lsE (X : dr_X G M fr wo R s m meth c H locs cells slots ls l h) : lv_has ls M.maxL (dr_tl G l) := X.2.2.2.2.2.2.2
theorem dr_X.bs (X : dr_X G M fr wo R s m meth c H locs cells slots ls l h) : G.b < G.s.heap.size := X.1.2.2.2.1
theorem dr_X.setL (X : dr_X G M fr wo R s m meth c H locs cells slots ls l h) {ls' : Array Slot} {l' : List (Nat × Value)} (hl : lv_has ls' M.maxL (dr_tl G l')) : dr_X G M fr wo R s m meth c H locs cells slots ls' l' h :=
  ⟨X.1, X.2.1, X.room, X.cellsE, X.slotsE, X.locsE, X.heap, hl⟩
theorem dr_X.setH (X : dr_X G M fr wo R s m meth c H locs cells slots ls l h) {H' : Heap} {locs' : List Loc} {h' : dr_AH} (h1 : h'.1 = h.1) (h2 : h'.2.1 = h.2.1) (hl : ∀ q ∈ locs', G.s.heap.size ≤ q.base) (hC : dr_C G h' H') : dr_X G M fr wo R s m meth c H' locs' cells slots ls l h' :=
  ⟨X.1, X.2.1, X.room, by rw [h1]; exact X.cellsE, by rw [h2]; exact X.slotsE, hl, hC, X.lsE⟩
/-- a word of the tables, here -/
theorem dr_X.word (X : dr_X G M fr wo R s m meth c H locs cells slots ls l h) {w : Cond} (hw : dr_T w) {a' : Array Value} : w.before a' s = true := hw G s a' X.1 X.warm
theorem dr_X.at (X : dr_X G M fr wo R s m meth c H locs cells slots ls l h) {i k : Nat} {v : Value} (hk : l[k]? = some (i, v)) : ls[i]? = some (.val (dr_tr G v)) :=
  lv_at X.lsE k (by unfold dr_tl; rw [List.getElem?_map, hk]; rfl)
theorem dr_X.known (X : dr_X G M fr wo R s m meth c H locs cells slots ls l h) {ci : Nat} {q : vw_C} (hq : vwCl[ci]? = some q) : u_Kn s q.1 q.2.1 q.2.2 (G.dC ci) (G.dI ci) := u_Kn_moved X.warm.alike (X.1.2.2.1 ci q hq)
end DRX
/-! locals -/
def dr_st (l : List (Nat × Value)) (i : Nat) (v : Value) : List (Nat × Value) := (i, v) :: l.filter (fun q => !(q.1 == i) && !(q.1 + 1 == i && q.2.category == 2))
def dr_st2 (l : List (Nat × Value)) (i : Nat) (v : Value) : List (Nat × Value) := (i, v) :: l.filter (fun q => !(q.1 == i) && (!(q.1 == i + 1) && !(q.1 + 1 == i && q.2.category == 2)))
theorem dr_st_tl (G : dr_Gt) (l : List (Nat × Value)) (i : Nat) (v : Value) : (i, dr_tr G v) :: (dr_tl G l).filter (fun q => !(q.1 == i) && !(q.1 + 1 == i && q.2.category == 2)) = dr_tl G (dr_st l i v) := by
  unfold dr_tl dr_st
  rw [List.map_cons, List.filter_map]
  congr 3
  funext q
  simp only [Function.comp, dr_tr_cat]
theorem dr_st2_tl (G : dr_Gt) (l : List (Nat × Value)) (i : Nat) (v : Value) : (i, dr_tr G v) :: (dr_tl G l).filter (fun q => !(q.1 == i) && (!(q.1 == i + 1) && !(q.1 + 1 == i && q.2.category == 2))) = dr_tl G (dr_st2 l i v) := by
  unfold dr_tl dr_st2
  rw [List.map_cons, List.filter_map]
  congr 3
  funext q
  simp only [Function.comp, dr_tr_cat]
end
section
/-! ===== a row an instruction ===== -/
section DRW
variable {M : dr_MI} {fr wo pc : Nat} {l : List (Nat × Value)} {st : List Value} {h : dr_AH} {Q : dr_RS → dr_AH → Prop}
theorem wp_iconst {n : Int} {v : Int32} (hv : Int32.ofInt n = v) (hd : decode M.code pc = .ok (.iconst n, 1)) (k : dr_W M fr wo (pc + 1) l (.int v :: st) h Q) : dr_W M fr wo pc l (st) h Q := fun G R s m args below meth c H locs cells slots ls X => lv_iconst X.exec X.bytes hd hv (k G R s m args below meth c H locs cells slots ls X)
theorem wp_bipush {n : Int} {v : Int32} (hv : (Int8.ofInt n).toInt32 = v) (hd : decode M.code pc = .ok (.bipush n, 2)) (k : dr_W M fr wo (pc + 2) l (.int v :: st) h Q) : dr_W M fr wo pc l (st) h Q := fun G R s m args below meth c H locs cells slots ls X => lv_bipush X.exec X.bytes hd hv (k G R s m args below meth c H locs cells slots ls X)
theorem wp_sipush {n : Int} {v : Int32} (hv : (Int16.ofInt n).toInt32 = v) (hd : decode M.code pc = .ok (.sipush n, 3)) (k : dr_W M fr wo (pc + 3) l (.int v :: st) h Q) : dr_W M fr wo pc l (st) h Q := fun G R s m args below meth c H locs cells slots ls X => lv_sipush X.exec X.bytes hd hv (k G R s m args below meth c H locs cells slots ls X)
theorem wp_lconst {n : Fin 2} {v : Int64} (hv : Int64.ofNat (n : Nat) = v) (hd : decode M.code pc = .ok (.lconst n, 1)) (k : dr_W M fr wo (pc + 1) l (.long v :: st) h Q) : dr_W M fr wo pc l (st) h Q := fun G R s m args below meth c H locs cells slots ls X => lv_lconst X.exec X.bytes hd hv (k G R s m args below meth c H locs cells slots ls X)
theorem wp_ldc {i : Nat} {v : Int32} (hw : dr_T (.constant M.own i v)) (hd : decode M.code pc = .ok (.ldc i, 2)) (k : dr_W M fr wo (pc + 2) l (.int v :: st) h Q) : dr_W M fr wo pc l (st) h Q := fun G R s m args below meth c H locs cells slots ls X => lv_ldc X.exec X.bytes X.own (X.word hw) hd (k G R s m args below meth c H locs cells slots ls X)
theorem wp_ldcw {i : Nat} {v : Int32} (hw : dr_T (.constant M.own i v)) (hd : decode M.code pc = .ok (.ldc_w i, 3)) (k : dr_W M fr wo (pc + 3) l (.int v :: st) h Q) : dr_W M fr wo pc l (st) h Q := fun G R s m args below meth c H locs cells slots ls X => lv_ldcw X.exec X.bytes X.own (X.word hw) hd (k G R s m args below meth c H locs cells slots ls X)
theorem wp_ldc2 {i : Nat} {v : Int64} (hw : dr_T (.constantLong M.own i v)) (hd : decode M.code pc = .ok (.ldc2_w i, 3)) (k : dr_W M fr wo (pc + 3) l (.long v :: st) h Q) : dr_W M fr wo pc l (st) h Q := fun G R s m args below meth c H locs cells slots ls X => lv_ldc2 X.exec X.bytes X.own (X.word hw) hd (k G R s m args below meth c H locs cells slots ls X)
theorem wp_null  (hd : decode M.code pc = .ok (.aconst_null, 1)) (k : dr_W M fr wo (pc + 1) l (.null :: st) h Q) : dr_W M fr wo pc l (st) h Q := fun G R s m args below meth c H locs cells slots ls X => lv_null X.exec X.bytes hd (k G R s m args below meth c H locs cells slots ls X)
theorem wp_iload_n {k' : Fin 4} {x : Int32} (j : Nat) (hj : l[j]? = some ((k' : Nat), .int x)) (hd : decode M.code pc = .ok (.iload_n k', 1)) (k : dr_W M fr wo (pc + 1) l (.int x :: st) h Q) : dr_W M fr wo pc l (st) h Q := fun G R s m args below meth c H locs cells slots ls X => lv_iload_n X.exec X.bytes hd rfl (X.at hj) (k G R s m args below meth c H locs cells slots ls X)
theorem wp_iload {i : Nat} {x : Int32} (j : Nat) (hj : l[j]? = some (i, .int x)) (hd : decode M.code pc = .ok (.iload i, 2)) (k : dr_W M fr wo (pc + 2) l (.int x :: st) h Q) : dr_W M fr wo pc l (st) h Q := fun G R s m args below meth c H locs cells slots ls X => lv_iload X.exec X.bytes hd (X.at hj) (k G R s m args below meth c H locs cells slots ls X)
theorem wp_lload_n {k' : Fin 4} {x : Int64} (j : Nat) (hj : l[j]? = some ((k' : Nat), .long x)) (hd : decode M.code pc = .ok (.lload_n k', 1)) (k : dr_W M fr wo (pc + 1) l (.long x :: st) h Q) : dr_W M fr wo pc l (st) h Q := fun G R s m args below meth c H locs cells slots ls X => lv_lload_n X.exec X.bytes hd rfl (X.at hj) (k G R s m args below meth c H locs cells slots ls X)
theorem wp_lload {i : Nat} {x : Int64} (j : Nat) (hj : l[j]? = some (i, .long x)) (hd : decode M.code pc = .ok (.lload i, 2)) (k : dr_W M fr wo (pc + 2) l (.long x :: st) h Q) : dr_W M fr wo pc l (st) h Q := fun G R s m args below meth c H locs cells slots ls X => lv_lload X.exec X.bytes hd (X.at hj) (k G R s m args below meth c H locs cells slots ls X)
theorem wp_aload_n {k' : Fin 4} {x : Nat} (j : Nat) (hj : l[j]? = some ((k' : Nat), .ref x)) (hd : decode M.code pc = .ok (.aload_n k', 1)) (k : dr_W M fr wo (pc + 1) l (.ref x :: st) h Q) : dr_W M fr wo pc l (st) h Q := fun G R s m args below meth c H locs cells slots ls X => lv_aload_n X.exec X.bytes hd rfl (X.at hj) (k G R s m args below meth c H locs cells slots ls X)
theorem wp_aload {i : Nat} {x : Nat} (j : Nat) (hj : l[j]? = some (i, .ref x)) (hd : decode M.code pc = .ok (.aload i, 2)) (k : dr_W M fr wo (pc + 2) l (.ref x :: st) h Q) : dr_W M fr wo pc l (st) h Q := fun G R s m args below meth c H locs cells slots ls X => lv_aload X.exec X.bytes hd (X.at hj) (k G R s m args below meth c H locs cells slots ls X)
theorem wp_aload_nN {k' : Fin 4} (j : Nat) (hj : l[j]? = some ((k' : Nat), .null)) (hd : decode M.code pc = .ok (.aload_n k', 1)) (k : dr_W M fr wo (pc + 1) l (.null :: st) h Q) : dr_W M fr wo pc l (st) h Q := fun G R s m args below meth c H locs cells slots ls X => lv_aload_nN X.exec X.bytes hd rfl (X.at hj) (k G R s m args below meth c H locs cells slots ls X)
theorem wp_aloadN {i : Nat} (j : Nat) (hj : l[j]? = some (i, .null)) (hd : decode M.code pc = .ok (.aload i, 2)) (k : dr_W M fr wo (pc + 2) l (.null :: st) h Q) : dr_W M fr wo pc l (st) h Q := fun G R s m args below meth c H locs cells slots ls X => lv_aloadN X.exec X.bytes hd (X.at hj) (k G R s m args below meth c H locs cells slots ls X)
theorem wp_istore_n {k' : Fin 4} {x : Int32} {l' : List (Nat × Value)} (hd : decode M.code pc = .ok (.istore_n k', 1)) (hn : (k' : Nat) < M.maxL) (hl : dr_st l (k' : Nat) (.int x) = l') (k : dr_W M fr wo (pc + 1) l' st h Q) : dr_W M fr wo pc l (.int x :: st) h Q := fun G R s m args below meth c H locs cells slots ls X => by
  subst hl
  exact lv_istore_n X.exec X.bytes hd rfl X.lsE hn (dr_st_tl G l (k' : Nat) (Value.int x)) (fun ls' hl' => k G R s m args below meth c H locs cells slots ls' (X.setL hl'))
theorem wp_istore {i : Nat} {x : Int32} {l' : List (Nat × Value)} (hd : decode M.code pc = .ok (.istore i, 2)) (hn : i < M.maxL) (hl : dr_st l i (.int x) = l') (k : dr_W M fr wo (pc + 2) l' st h Q) : dr_W M fr wo pc l (.int x :: st) h Q := fun G R s m args below meth c H locs cells slots ls X => by
  subst hl
  exact lv_istore X.exec X.bytes hd  X.lsE hn (dr_st_tl G l i (Value.int x)) (fun ls' hl' => k G R s m args below meth c H locs cells slots ls' (X.setL hl'))
theorem wp_lstore_n {k' : Fin 4} {x : Int64} {l' : List (Nat × Value)} (hd : decode M.code pc = .ok (.lstore_n k', 1)) (hn : (k' : Nat) + 1 < M.maxL) (hl : dr_st2 l (k' : Nat) (.long x) = l') (k : dr_W M fr wo (pc + 1) l' st h Q) : dr_W M fr wo pc l (.long x :: st) h Q := fun G R s m args below meth c H locs cells slots ls X => by
  subst hl
  exact lv_lstore_n X.exec X.bytes hd rfl X.lsE hn (dr_st2_tl G l (k' : Nat) (Value.long x)) (fun ls' hl' => k G R s m args below meth c H locs cells slots ls' (X.setL hl'))
theorem wp_lstore {i : Nat} {x : Int64} {l' : List (Nat × Value)} (hd : decode M.code pc = .ok (.lstore i, 2)) (hn : i + 1 < M.maxL) (hl : dr_st2 l i (.long x) = l') (k : dr_W M fr wo (pc + 2) l' st h Q) : dr_W M fr wo pc l (.long x :: st) h Q := fun G R s m args below meth c H locs cells slots ls X => by
  subst hl
  exact lv_lstore X.exec X.bytes hd  X.lsE hn (dr_st2_tl G l i (Value.long x)) (fun ls' hl' => k G R s m args below meth c H locs cells slots ls' (X.setL hl'))
theorem wp_astore_n {k' : Fin 4} {x : Nat} {l' : List (Nat × Value)} (hd : decode M.code pc = .ok (.astore_n k', 1)) (hn : (k' : Nat) < M.maxL) (hl : dr_st l (k' : Nat) (.ref x) = l') (k : dr_W M fr wo (pc + 1) l' st h Q) : dr_W M fr wo pc l (.ref x :: st) h Q := fun G R s m args below meth c H locs cells slots ls X => by
  subst hl
  exact lv_astore_n X.exec X.bytes hd rfl X.lsE hn (dr_st_tl G l (k' : Nat) (Value.ref x)) (fun ls' hl' => k G R s m args below meth c H locs cells slots ls' (X.setL hl'))
theorem wp_astore {i : Nat} {x : Nat} {l' : List (Nat × Value)} (hd : decode M.code pc = .ok (.astore i, 2)) (hn : i < M.maxL) (hl : dr_st l i (.ref x) = l') (k : dr_W M fr wo (pc + 2) l' st h Q) : dr_W M fr wo pc l (.ref x :: st) h Q := fun G R s m args below meth c H locs cells slots ls X => by
  subst hl
  exact lv_astore X.exec X.bytes hd  X.lsE hn (dr_st_tl G l i (Value.ref x)) (fun ls' hl' => k G R s m args below meth c H locs cells slots ls' (X.setL hl'))
theorem wp_astore_nN {k' : Fin 4}  {l' : List (Nat × Value)} (hd : decode M.code pc = .ok (.astore_n k', 1)) (hn : (k' : Nat) < M.maxL) (hl : dr_st l (k' : Nat) (.null) = l') (k : dr_W M fr wo (pc + 1) l' st h Q) : dr_W M fr wo pc l (.null :: st) h Q := fun G R s m args below meth c H locs cells slots ls X => by
  subst hl
  exact lv_astore_nN X.exec X.bytes hd rfl X.lsE hn (dr_st_tl G l (k' : Nat) (Value.null)) (fun ls' hl' => k G R s m args below meth c H locs cells slots ls' (X.setL hl'))
theorem wp_astoreN {i : Nat}  {l' : List (Nat × Value)} (hd : decode M.code pc = .ok (.astore i, 2)) (hn : i < M.maxL) (hl : dr_st l i (.null) = l') (k : dr_W M fr wo (pc + 2) l' st h Q) : dr_W M fr wo pc l (.null :: st) h Q := fun G R s m args below meth c H locs cells slots ls X => by
  subst hl
  exact lv_astoreN X.exec X.bytes hd  X.lsE hn (dr_st_tl G l i (Value.null)) (fun ls' hl' => k G R s m args below meth c H locs cells slots ls' (X.setL hl'))
theorem wp_iinc {i : Nat} {n : Int} {x v : Int32} {l' : List (Nat × Value)} (j : Nat) (hj : l[j]? = some (i, .int x)) (hv : x + Int32.ofInt n = v) (hd : decode M.code pc = .ok (.iinc i n, 3)) (hn : i < M.maxL) (hl : dr_st l i (.int v) = l') (k : dr_W M fr wo (pc + 3) l' st h Q) : dr_W M fr wo pc l st h Q := fun G R s m args below meth c H locs cells slots ls X => by
  subst hl
  exact lv_iinc X.exec X.bytes hd X.lsE (k := j) (by unfold dr_tl; rw [List.getElem?_map, hj]; rfl) hv hn (dr_st_tl G l i (Value.int v)) (fun ls' hl' => k G R s m args below meth c H locs cells slots ls' (X.setL hl'))
theorem wp_iadd {x y : Int32} (hd : decode M.code pc = .ok (.iadd, 1)) (k : dr_W M fr wo (pc + 1) l (.int (x + y) :: st) h Q) : dr_W M fr wo pc l (.int y :: .int x :: st) h Q := fun G R s m args below meth c H locs cells slots ls X => lv_iadd X.exec X.bytes hd (k G R s m args below meth c H locs cells slots ls X)
theorem wp_isub {x y : Int32} (hd : decode M.code pc = .ok (.isub, 1)) (k : dr_W M fr wo (pc + 1) l (.int (x - y) :: st) h Q) : dr_W M fr wo pc l (.int y :: .int x :: st) h Q := fun G R s m args below meth c H locs cells slots ls X => lv_isub X.exec X.bytes hd (k G R s m args below meth c H locs cells slots ls X)
theorem wp_imul {x y : Int32} (hd : decode M.code pc = .ok (.imul, 1)) (k : dr_W M fr wo (pc + 1) l (.int (x * y) :: st) h Q) : dr_W M fr wo pc l (.int y :: .int x :: st) h Q := fun G R s m args below meth c H locs cells slots ls X => lv_imul X.exec X.bytes hd (k G R s m args below meth c H locs cells slots ls X)
theorem wp_iand {x y : Int32} (hd : decode M.code pc = .ok (.iand, 1)) (k : dr_W M fr wo (pc + 1) l (.int (x &&& y) :: st) h Q) : dr_W M fr wo pc l (.int y :: .int x :: st) h Q := fun G R s m args below meth c H locs cells slots ls X => lv_iand X.exec X.bytes hd (k G R s m args below meth c H locs cells slots ls X)
theorem wp_ior {x y : Int32} (hd : decode M.code pc = .ok (.ior, 1)) (k : dr_W M fr wo (pc + 1) l (.int (x ||| y) :: st) h Q) : dr_W M fr wo pc l (.int y :: .int x :: st) h Q := fun G R s m args below meth c H locs cells slots ls X => lv_ior X.exec X.bytes hd (k G R s m args below meth c H locs cells slots ls X)
theorem wp_ixor {x y : Int32} (hd : decode M.code pc = .ok (.ixor, 1)) (k : dr_W M fr wo (pc + 1) l (.int (x ^^^ y) :: st) h Q) : dr_W M fr wo pc l (.int y :: .int x :: st) h Q := fun G R s m args below meth c H locs cells slots ls X => lv_ixor X.exec X.bytes hd (k G R s m args below meth c H locs cells slots ls X)
theorem wp_ladd {x y : Int64} (hd : decode M.code pc = .ok (.ladd, 1)) (k : dr_W M fr wo (pc + 1) l (.long (x + y) :: st) h Q) : dr_W M fr wo pc l (.long y :: .long x :: st) h Q := fun G R s m args below meth c H locs cells slots ls X => lv_ladd X.exec X.bytes hd (k G R s m args below meth c H locs cells slots ls X)
theorem wp_lsub {x y : Int64} (hd : decode M.code pc = .ok (.lsub, 1)) (k : dr_W M fr wo (pc + 1) l (.long (x - y) :: st) h Q) : dr_W M fr wo pc l (.long y :: .long x :: st) h Q := fun G R s m args below meth c H locs cells slots ls X => lv_lsub X.exec X.bytes hd (k G R s m args below meth c H locs cells slots ls X)
theorem wp_lmul {x y : Int64} (hd : decode M.code pc = .ok (.lmul, 1)) (k : dr_W M fr wo (pc + 1) l (.long (x * y) :: st) h Q) : dr_W M fr wo pc l (.long y :: .long x :: st) h Q := fun G R s m args below meth c H locs cells slots ls X => lv_lmul X.exec X.bytes hd (k G R s m args below meth c H locs cells slots ls X)
theorem wp_land {x y : Int64} (hd : decode M.code pc = .ok (.land, 1)) (k : dr_W M fr wo (pc + 1) l (.long (x &&& y) :: st) h Q) : dr_W M fr wo pc l (.long y :: .long x :: st) h Q := fun G R s m args below meth c H locs cells slots ls X => lv_land X.exec X.bytes hd (k G R s m args below meth c H locs cells slots ls X)
theorem wp_lor {x y : Int64} (hd : decode M.code pc = .ok (.lor, 1)) (k : dr_W M fr wo (pc + 1) l (.long (x ||| y) :: st) h Q) : dr_W M fr wo pc l (.long y :: .long x :: st) h Q := fun G R s m args below meth c H locs cells slots ls X => lv_lor X.exec X.bytes hd (k G R s m args below meth c H locs cells slots ls X)
theorem wp_lxor {x y : Int64} (hd : decode M.code pc = .ok (.lxor, 1)) (k : dr_W M fr wo (pc + 1) l (.long (x ^^^ y) :: st) h Q) : dr_W M fr wo pc l (.long y :: .long x :: st) h Q := fun G R s m args below meth c H locs cells slots ls X => lv_lxor X.exec X.bytes hd (k G R s m args below meth c H locs cells slots ls X)
theorem wp_ineg {x : Int32} (hd : decode M.code pc = .ok (.ineg, 1)) (k : dr_W M fr wo (pc + 1) l (.int (-x) :: st) h Q) : dr_W M fr wo pc l (.int x :: st) h Q := fun G R s m args below meth c H locs cells slots ls X => lv_ineg X.exec X.bytes hd (k G R s m args below meth c H locs cells slots ls X)
theorem wp_ishl {x y : Int32} (hd : decode M.code pc = .ok (.ishl, 1)) (k : dr_W M fr wo (pc + 1) l (.int (x <<< (y &&& 31)) :: st) h Q) : dr_W M fr wo pc l (.int y :: .int x :: st) h Q := fun G R s m args below meth c H locs cells slots ls X => lv_ishl X.exec X.bytes hd (k G R s m args below meth c H locs cells slots ls X)
theorem wp_ishr {x y : Int32} (hd : decode M.code pc = .ok (.ishr, 1)) (k : dr_W M fr wo (pc + 1) l (.int (x >>> (y &&& 31)) :: st) h Q) : dr_W M fr wo pc l (.int y :: .int x :: st) h Q := fun G R s m args below meth c H locs cells slots ls X => lv_ishr X.exec X.bytes hd (k G R s m args below meth c H locs cells slots ls X)
theorem wp_iushr {x y v : Int32} (hv : (x.toUInt32 >>> (y.toUInt32 &&& Int32.toUInt32 31)).toInt32 = v) (hd : decode M.code pc = .ok (.iushr, 1)) (k : dr_W M fr wo (pc + 1) l (.int v :: st) h Q) : dr_W M fr wo pc l (.int y :: .int x :: st) h Q := fun G R s m args below meth c H locs cells slots ls X => lv_iushr X.exec X.bytes hd hv (k G R s m args below meth c H locs cells slots ls X)
theorem wp_lushr {x v : Int64} {y : Int32} (hv : (x.toUInt64 >>> (y.toInt64.toUInt64 &&& Int64.toUInt64 63)).toInt64 = v) (hd : decode M.code pc = .ok (.lushr, 1)) (k : dr_W M fr wo (pc + 1) l (.long v :: st) h Q) : dr_W M fr wo pc l (.int y :: .long x :: st) h Q := fun G R s m args below meth c H locs cells slots ls X => lv_lushr X.exec X.bytes hd hv (k G R s m args below meth c H locs cells slots ls X)
theorem wp_lshl {x v : Int64} {y : Int32} (hv : x <<< (y.toInt64 &&& 63) = v) (hd : decode M.code pc = .ok (.lshl, 1)) (k : dr_W M fr wo (pc + 1) l (.long v :: st) h Q) : dr_W M fr wo pc l (.int y :: .long x :: st) h Q := fun G R s m args below meth c H locs cells slots ls X => lv_lshl X.exec X.bytes hd hv (k G R s m args below meth c H locs cells slots ls X)
theorem wp_lshr {x v : Int64} {y : Int32} (hv : x >>> (y.toInt64 &&& 63) = v) (hd : decode M.code pc = .ok (.lshr, 1)) (k : dr_W M fr wo (pc + 1) l (.long v :: st) h Q) : dr_W M fr wo pc l (.int y :: .long x :: st) h Q := fun G R s m args below meth c H locs cells slots ls X => lv_lshr X.exec X.bytes hd hv (k G R s m args below meth c H locs cells slots ls X)
theorem wp_i2l {x : Int32} (hd : decode M.code pc = .ok (.i2l, 1)) (k : dr_W M fr wo (pc + 1) l (.long x.toInt64 :: st) h Q) : dr_W M fr wo pc l (.int x :: st) h Q := fun G R s m args below meth c H locs cells slots ls X => lv_i2l X.exec X.bytes hd rfl (k G R s m args below meth c H locs cells slots ls X)
theorem wp_l2i {x : Int64} (hd : decode M.code pc = .ok (.l2i, 1)) (k : dr_W M fr wo (pc + 1) l (.int x.toInt32 :: st) h Q) : dr_W M fr wo pc l (.long x :: st) h Q := fun G R s m args below meth c H locs cells slots ls X => lv_l2i X.exec X.bytes hd rfl (k G R s m args below meth c H locs cells slots ls X)
theorem wp_i2b {x : Int32} (hd : decode M.code pc = .ok (.i2b, 1)) (k : dr_W M fr wo (pc + 1) l (.int x.toInt8.toInt32 :: st) h Q) : dr_W M fr wo pc l (.int x :: st) h Q := fun G R s m args below meth c H locs cells slots ls X => lv_i2b X.exec X.bytes hd rfl (k G R s m args below meth c H locs cells slots ls X)
theorem wp_i2c {x : Int32} (hd : decode M.code pc = .ok (.i2c, 1)) (k : dr_W M fr wo (pc + 1) l (.int (x.toUInt32 % 65536).toInt32 :: st) h Q) : dr_W M fr wo pc l (.int x :: st) h Q := fun G R s m args below meth c H locs cells slots ls X => lv_i2c X.exec X.bytes hd rfl (k G R s m args below meth c H locs cells slots ls X)
theorem wp_lcmp {x y : Int64} (hd : decode M.code pc = .ok (.lcmp, 1)) (k : dr_W M fr wo (pc + 1) l (.int (lg_cmp x y) :: st) h Q) : dr_W M fr wo pc l (.long y :: .long x :: st) h Q := fun G R s m args below meth c H locs cells slots ls X => W.lcmp X.exec X.bytes hd (k G R s m args below meth c H locs cells slots ls X)
theorem wp_dup {v : Value} (hv : v.category = 1) (hd : decode M.code pc = .ok (.dup, 1)) (k : dr_W M fr wo (pc + 1) l (v :: v :: st) h Q) : dr_W M fr wo pc l (v :: st) h Q := fun G R s m args below meth c H locs cells slots ls X => lv_dup X.exec X.bytes hd (by rw [dr_tr_cat]; exact hv) (k G R s m args below meth c H locs cells slots ls X)
theorem wp_pop {v : Value} (hv : v.category = 1) (hd : decode M.code pc = .ok (.pop, 1)) (k : dr_W M fr wo (pc + 1) l (st) h Q) : dr_W M fr wo pc l (v :: st) h Q := fun G R s m args below meth c H locs cells slots ls X => lv_pop X.exec X.bytes hd (by rw [dr_tr_cat]; exact hv) (k G R s m args below meth c H locs cells slots ls X)
theorem wp_pop2 {v : Value} (hv : v.category = 2) (hd : decode M.code pc = .ok (.pop2, 1)) (k : dr_W M fr wo (pc + 1) l (st) h Q) : dr_W M fr wo pc l (v :: st) h Q := fun G R s m args below meth c H locs cells slots ls X => lv_pop2_2 X.exec X.bytes hd (by rw [dr_tr_cat]; exact hv) (k G R s m args below meth c H locs cells slots ls X)
theorem wp_dup2 {v w : Value} (hv : v.category = 1) (hw : w.category = 1) (hd : decode M.code pc = .ok (.dup2, 1)) (k : dr_W M fr wo (pc + 1) l (v :: w :: v :: w :: st) h Q) : dr_W M fr wo pc l (v :: w :: st) h Q := fun G R s m args below meth c H locs cells slots ls X => lv_dup2_11 X.exec X.bytes hd (by rw [dr_tr_cat]; exact hv) (by rw [dr_tr_cat]; exact hw) (k G R s m args below meth c H locs cells slots ls X)
theorem wp_dup_x1 {v w : Value} (hv : v.category = 1) (hw : w.category = 1) (hd : decode M.code pc = .ok (.dup_x1, 1)) (k : dr_W M fr wo (pc + 1) l (v :: w :: v :: st) h Q) : dr_W M fr wo pc l (v :: w :: st) h Q := fun G R s m args below meth c H locs cells slots ls X => lv_dup_x1 X.exec X.bytes hd (by rw [dr_tr_cat]; exact hv) (by rw [dr_tr_cat]; exact hw) (k G R s m args below meth c H locs cells slots ls X)
theorem wp_dup_x2 {v w u : Value} (hv : v.category = 1) (hw : w.category = 1) (hu : u.category = 1) (hd : decode M.code pc = .ok (.dup_x2, 1)) (k : dr_W M fr wo (pc + 1) l (v :: w :: u :: v :: st) h Q) : dr_W M fr wo pc l (v :: w :: u :: st) h Q := fun G R s m args below meth c H locs cells slots ls X => lv_dup_x2 X.exec X.bytes hd (by rw [dr_tr_cat]; exact hv) (by rw [dr_tr_cat]; exact hw) (by rw [dr_tr_cat]; exact hu) (k G R s m args below meth c H locs cells slots ls X)
/-! branches -/
theorem dr_pif {c : Prop} [Decidable c] {A B : Option (dr_RS × dr_AH)} {Q : dr_RS → dr_AH → Prop} (hp : dr_p (if c then A else B) Q) : (c → dr_p A Q) ∧ (¬ c → dr_p B Q) := ⟨fun hc => by rwa [if_pos hc] at hp, fun hc => by rwa [if_neg hc] at hp⟩
theorem wp_if_eq {x : Int32} {off : Int} {tgt : Nat} {A B : Option (dr_RS × dr_AH)} (hd : decode M.code pc = .ok (.ifCond .eq off, 3)) (ht : (pc : Int) + off = (tgt : Int)) (hp : dr_p (if x = 0 then A else B) Q) (kt : x = 0 → dr_p A Q → dr_W M fr wo tgt l st h Q) (kf : ¬ x = 0 → dr_p B Q → dr_W M fr wo (pc + 3) l st h Q) : dr_W M fr wo pc l (.int x :: st) h Q := fun G R s m args below meth c H locs cells slots ls X =>
  lv_if_eq X.exec X.bytes hd ht (fun hc => (kt hc ((dr_pif hp).1 hc) G R s m args below meth c H locs cells slots ls X)) (fun hc => (kf hc ((dr_pif hp).2 hc) G R s m args below meth c H locs cells slots ls X))
theorem wp_icmp_eq {x y : Int32} {off : Int} {tgt : Nat} {A B : Option (dr_RS × dr_AH)} (hd : decode M.code pc = .ok (.if_icmp .eq off, 3)) (ht : (pc : Int) + off = (tgt : Int)) (hp : dr_p (if x = y then A else B) Q) (kt : x = y → dr_p A Q → dr_W M fr wo tgt l st h Q) (kf : ¬ x = y → dr_p B Q → dr_W M fr wo (pc + 3) l st h Q) : dr_W M fr wo pc l (.int y :: .int x :: st) h Q := fun G R s m args below meth c H locs cells slots ls X =>
  lv_icmp_eq X.exec X.bytes hd ht (fun hc => (kt hc ((dr_pif hp).1 hc) G R s m args below meth c H locs cells slots ls X)) (fun hc => (kf hc ((dr_pif hp).2 hc) G R s m args below meth c H locs cells slots ls X))
theorem wp_if_lt {x : Int32} {off : Int} {tgt : Nat} {A B : Option (dr_RS × dr_AH)} (hd : decode M.code pc = .ok (.ifCond .lt off, 3)) (ht : (pc : Int) + off = (tgt : Int)) (hp : dr_p (if x < 0 then A else B) Q) (kt : x < 0 → dr_p A Q → dr_W M fr wo tgt l st h Q) (kf : ¬ x < 0 → dr_p B Q → dr_W M fr wo (pc + 3) l st h Q) : dr_W M fr wo pc l (.int x :: st) h Q := fun G R s m args below meth c H locs cells slots ls X =>
  lv_if_lt X.exec X.bytes hd ht (fun hc => (kt hc ((dr_pif hp).1 hc) G R s m args below meth c H locs cells slots ls X)) (fun hc => (kf hc ((dr_pif hp).2 hc) G R s m args below meth c H locs cells slots ls X))
theorem wp_icmp_lt {x y : Int32} {off : Int} {tgt : Nat} {A B : Option (dr_RS × dr_AH)} (hd : decode M.code pc = .ok (.if_icmp .lt off, 3)) (ht : (pc : Int) + off = (tgt : Int)) (hp : dr_p (if x < y then A else B) Q) (kt : x < y → dr_p A Q → dr_W M fr wo tgt l st h Q) (kf : ¬ x < y → dr_p B Q → dr_W M fr wo (pc + 3) l st h Q) : dr_W M fr wo pc l (.int y :: .int x :: st) h Q := fun G R s m args below meth c H locs cells slots ls X =>
  lv_icmp_lt X.exec X.bytes hd ht (fun hc => (kt hc ((dr_pif hp).1 hc) G R s m args below meth c H locs cells slots ls X)) (fun hc => (kf hc ((dr_pif hp).2 hc) G R s m args below meth c H locs cells slots ls X))
theorem wp_if_ge {x : Int32} {off : Int} {tgt : Nat} {A B : Option (dr_RS × dr_AH)} (hd : decode M.code pc = .ok (.ifCond .ge off, 3)) (ht : (pc : Int) + off = (tgt : Int)) (hp : dr_p (if 0 ≤ x then A else B) Q) (kt : 0 ≤ x → dr_p A Q → dr_W M fr wo tgt l st h Q) (kf : ¬ 0 ≤ x → dr_p B Q → dr_W M fr wo (pc + 3) l st h Q) : dr_W M fr wo pc l (.int x :: st) h Q := fun G R s m args below meth c H locs cells slots ls X =>
  lv_if_ge X.exec X.bytes hd ht (fun hc => (kt hc ((dr_pif hp).1 hc) G R s m args below meth c H locs cells slots ls X)) (fun hc => (kf hc ((dr_pif hp).2 hc) G R s m args below meth c H locs cells slots ls X))
theorem wp_icmp_ge {x y : Int32} {off : Int} {tgt : Nat} {A B : Option (dr_RS × dr_AH)} (hd : decode M.code pc = .ok (.if_icmp .ge off, 3)) (ht : (pc : Int) + off = (tgt : Int)) (hp : dr_p (if y ≤ x then A else B) Q) (kt : y ≤ x → dr_p A Q → dr_W M fr wo tgt l st h Q) (kf : ¬ y ≤ x → dr_p B Q → dr_W M fr wo (pc + 3) l st h Q) : dr_W M fr wo pc l (.int y :: .int x :: st) h Q := fun G R s m args below meth c H locs cells slots ls X =>
  lv_icmp_ge X.exec X.bytes hd ht (fun hc => (kt hc ((dr_pif hp).1 hc) G R s m args below meth c H locs cells slots ls X)) (fun hc => (kf hc ((dr_pif hp).2 hc) G R s m args below meth c H locs cells slots ls X))
theorem wp_if_gt {x : Int32} {off : Int} {tgt : Nat} {A B : Option (dr_RS × dr_AH)} (hd : decode M.code pc = .ok (.ifCond .gt off, 3)) (ht : (pc : Int) + off = (tgt : Int)) (hp : dr_p (if 0 < x then A else B) Q) (kt : 0 < x → dr_p A Q → dr_W M fr wo tgt l st h Q) (kf : ¬ 0 < x → dr_p B Q → dr_W M fr wo (pc + 3) l st h Q) : dr_W M fr wo pc l (.int x :: st) h Q := fun G R s m args below meth c H locs cells slots ls X =>
  lv_if_gt X.exec X.bytes hd ht (fun hc => (kt hc ((dr_pif hp).1 hc) G R s m args below meth c H locs cells slots ls X)) (fun hc => (kf hc ((dr_pif hp).2 hc) G R s m args below meth c H locs cells slots ls X))
theorem wp_icmp_gt {x y : Int32} {off : Int} {tgt : Nat} {A B : Option (dr_RS × dr_AH)} (hd : decode M.code pc = .ok (.if_icmp .gt off, 3)) (ht : (pc : Int) + off = (tgt : Int)) (hp : dr_p (if y < x then A else B) Q) (kt : y < x → dr_p A Q → dr_W M fr wo tgt l st h Q) (kf : ¬ y < x → dr_p B Q → dr_W M fr wo (pc + 3) l st h Q) : dr_W M fr wo pc l (.int y :: .int x :: st) h Q := fun G R s m args below meth c H locs cells slots ls X =>
  lv_icmp_gt X.exec X.bytes hd ht (fun hc => (kt hc ((dr_pif hp).1 hc) G R s m args below meth c H locs cells slots ls X)) (fun hc => (kf hc ((dr_pif hp).2 hc) G R s m args below meth c H locs cells slots ls X))
theorem wp_if_le {x : Int32} {off : Int} {tgt : Nat} {A B : Option (dr_RS × dr_AH)} (hd : decode M.code pc = .ok (.ifCond .le off, 3)) (ht : (pc : Int) + off = (tgt : Int)) (hp : dr_p (if x ≤ 0 then A else B) Q) (kt : x ≤ 0 → dr_p A Q → dr_W M fr wo tgt l st h Q) (kf : ¬ x ≤ 0 → dr_p B Q → dr_W M fr wo (pc + 3) l st h Q) : dr_W M fr wo pc l (.int x :: st) h Q := fun G R s m args below meth c H locs cells slots ls X =>
  lv_if_le X.exec X.bytes hd ht (fun hc => (kt hc ((dr_pif hp).1 hc) G R s m args below meth c H locs cells slots ls X)) (fun hc => (kf hc ((dr_pif hp).2 hc) G R s m args below meth c H locs cells slots ls X))
theorem wp_icmp_le {x y : Int32} {off : Int} {tgt : Nat} {A B : Option (dr_RS × dr_AH)} (hd : decode M.code pc = .ok (.if_icmp .le off, 3)) (ht : (pc : Int) + off = (tgt : Int)) (hp : dr_p (if x ≤ y then A else B) Q) (kt : x ≤ y → dr_p A Q → dr_W M fr wo tgt l st h Q) (kf : ¬ x ≤ y → dr_p B Q → dr_W M fr wo (pc + 3) l st h Q) : dr_W M fr wo pc l (.int y :: .int x :: st) h Q := fun G R s m args below meth c H locs cells slots ls X =>
  lv_icmp_le X.exec X.bytes hd ht (fun hc => (kt hc ((dr_pif hp).1 hc) G R s m args below meth c H locs cells slots ls X)) (fun hc => (kf hc ((dr_pif hp).2 hc) G R s m args below meth c H locs cells slots ls X))
theorem wp_if_ne {x : Int32} {off : Int} {tgt : Nat} {A B : Option (dr_RS × dr_AH)} (hd : decode M.code pc = .ok (.ifCond .ne off, 3)) (ht : (pc : Int) + off = (tgt : Int)) (hp : dr_p (if x = 0 then B else A) Q) (kt : ¬ x = 0 → dr_p A Q → dr_W M fr wo tgt l st h Q) (kf : x = 0 → dr_p B Q → dr_W M fr wo (pc + 3) l st h Q) : dr_W M fr wo pc l (.int x :: st) h Q := fun G R s m args below meth c H locs cells slots ls X =>
  lv_if_ne X.exec X.bytes hd ht (fun hc => (kt hc ((dr_pif hp).2 hc) G R s m args below meth c H locs cells slots ls X)) (fun hc => (kf hc ((dr_pif hp).1 hc) G R s m args below meth c H locs cells slots ls X))
theorem wp_icmp_ne {x y : Int32} {off : Int} {tgt : Nat} {A B : Option (dr_RS × dr_AH)} (hd : decode M.code pc = .ok (.if_icmp .ne off, 3)) (ht : (pc : Int) + off = (tgt : Int)) (hp : dr_p (if x = y then B else A) Q) (kt : ¬ x = y → dr_p A Q → dr_W M fr wo tgt l st h Q) (kf : x = y → dr_p B Q → dr_W M fr wo (pc + 3) l st h Q) : dr_W M fr wo pc l (.int y :: .int x :: st) h Q := fun G R s m args below meth c H locs cells slots ls X =>
  lv_icmp_ne X.exec X.bytes hd ht (fun hc => (kt hc ((dr_pif hp).2 hc) G R s m args below meth c H locs cells slots ls X)) (fun hc => (kf hc ((dr_pif hp).1 hc) G R s m args below meth c H locs cells slots ls X))
theorem wp_goto {off : Int} {tgt : Nat} (hd : decode M.code pc = .ok (.goto off, 3)) (ht : (pc : Int) + off = (tgt : Int)) (k : dr_W M fr wo tgt l st h Q) : dr_W M fr wo pc l st h Q := fun G R s m args below meth c H locs cells slots ls X => lv_goto X.exec X.bytes hd ht (k G R s m args below meth c H locs cells slots ls X)
theorem wp_ifnull {x : Nat} {off : Int} (hd : decode M.code pc = .ok (.ifnull off, 3)) (k : dr_W M fr wo (pc + 3) l st h Q) : dr_W M fr wo pc l (.ref x :: st) h Q := fun G R s m args below meth c H locs cells slots ls X => lv_ifnull X.exec X.bytes hd (k G R s m args below meth c H locs cells slots ls X)
theorem wp_ifnullN {off : Int} {tgt : Nat} (hd : decode M.code pc = .ok (.ifnull off, 3)) (ht : (pc : Int) + off = (tgt : Int)) (k : dr_W M fr wo tgt l st h Q) : dr_W M fr wo pc l (.null :: st) h Q := fun G R s m args below meth c H locs cells slots ls X => lv_ifnullN X.exec X.bytes hd ht (k G R s m args below meth c H locs cells slots ls X)
theorem wp_ifnonnull {x : Nat} {off : Int} {tgt : Nat} (hd : decode M.code pc = .ok (.ifnonnull off, 3)) (ht : (pc : Int) + off = (tgt : Int)) (k : dr_W M fr wo tgt l st h Q) : dr_W M fr wo pc l (.ref x :: st) h Q := fun G R s m args below meth c H locs cells slots ls X => lv_ifnonnull X.exec X.bytes hd ht (k G R s m args below meth c H locs cells slots ls X)
theorem wp_ifnonnullN {off : Int} (hd : decode M.code pc = .ok (.ifnonnull off, 3)) (k : dr_W M fr wo (pc + 3) l st h Q) : dr_W M fr wo pc l (.null :: st) h Q := fun G R s m args below meth c H locs cells slots ls X => lv_ifnonnullN X.exec X.bytes hd (k G R s m args below meth c H locs cells slots ls X)
theorem wp_sw {x z : Int32} {A B : Option (dr_RS × dr_AH)} (hp : dr_p (if x = z then A else B) Q) (kt : x = z → dr_p A Q → dr_W M fr wo pc l (.int x :: st) h Q) (kf : ¬ x = z → dr_p B Q → dr_W M fr wo pc l (.int x :: st) h Q) : dr_W M fr wo pc l (.int x :: st) h Q := by
  by_cases hc : x = z
  · exact kt hc ((dr_pif hp).1 hc)
  · exact kf hc ((dr_pif hp).2 hc)
theorem wp_tableIn {dflt lo hi : Int} {offs : Array Int} {len : Nat} {x : Int32} {off : Int} {tgt : Nat} (hd : decode M.code pc = .ok (.tableswitch dflt lo hi offs, len)) (h1 : ¬ x.toInt < lo) (h2 : ¬ hi < x.toInt) (ho : offs[(x.toInt - lo).toNat]? = some off) (ht : (pc : Int) + off = (tgt : Int)) (k : dr_W M fr wo tgt l st h Q) : dr_W M fr wo pc l (.int x :: st) h Q := fun G R s m args below meth c H locs cells slots ls X => lv_tableIn X.exec X.bytes hd h1 h2 ho ht (k G R s m args below meth c H locs cells slots ls X)
theorem wp_tableOut {dflt lo hi : Int} {offs : Array Int} {len : Nat} {x : Int32} {tgt : Nat} (hd : decode M.code pc = .ok (.tableswitch dflt lo hi offs, len)) (h1 : x.toInt < lo ∨ hi < x.toInt) (ht : (pc : Int) + dflt = (tgt : Int)) (k : dr_W M fr wo tgt l st h Q) : dr_W M fr wo pc l (.int x :: st) h Q := fun G R s m args below meth c H locs cells slots ls X => lv_tableOut X.exec X.bytes hd h1 ht (k G R s m args below meth c H locs cells slots ls X)
theorem wp_lookup {dflt : Int} {ps : Array (Int × Int)} {len : Nat} {x : Int32} {off : Int} {tgt : Nat} (hd : decode M.code pc = .ok (.lookupswitch dflt ps, len)) (hs : (ps.toList.zip (ps.toList.drop 1)).all (fun (a, next) => a.1 < next.1) = true) (ho : Op.lookupswitch.offset ps.toList dflt x.toInt = off) (ht : (pc : Int) + off = (tgt : Int)) (k : dr_W M fr wo tgt l st h Q) : dr_W M fr wo pc l (.int x :: st) h Q := fun G R s m args below meth c H locs cells slots ls X => lv_lookup X.exec X.bytes hd hs ho ht (k G R s m args below meth c H locs cells slots ls X)
/-! division -/
theorem wp_idiv {x y : Int32} {A : Option (dr_RS × dr_AH)} (hd : decode M.code pc = .ok (.idiv, 1)) (hp : dr_p (if y = 0 then none else A) Q) (k : ¬ y = 0 → dr_p A Q → dr_W M fr wo (pc + 1) l (.int (x / y) :: st) h Q) : dr_W M fr wo pc l (.int y :: .int x :: st) h Q := by
  by_cases hc : y = 0
  · exact (dr_p0 ((dr_pif hp).1 hc)).elim
  · exact fun G R s m args below meth c H locs cells slots ls X => lv_idiv X.exec X.bytes hd hc (k hc ((dr_pif hp).2 hc) G R s m args below meth c H locs cells slots ls X)
theorem wp_irem {x y : Int32} {A : Option (dr_RS × dr_AH)} (hd : decode M.code pc = .ok (.irem, 1)) (hp : dr_p (if y = 0 then none else A) Q) (k : ¬ y = 0 → dr_p A Q → dr_W M fr wo (pc + 1) l (.int (x - x / y * y) :: st) h Q) : dr_W M fr wo pc l (.int y :: .int x :: st) h Q := by
  by_cases hc : y = 0
  · exact (dr_p0 ((dr_pif hp).1 hc)).elim
  · exact fun G R s m args below meth c H locs cells slots ls X => lv_irem X.exec X.bytes hd hc (k hc ((dr_pif hp).2 hc) G R s m args below meth c H locs cells slots ls X)
end DRW
end
section
/-! ===== objects ===== -/
/-- class number ci: its name, fields, their types; words, spelling and names decided once -/
def dr_Cl (ci : Nat) (C : String) (T : u_T) (N : Nat) (ty : Nat → FieldType) : Prop :=
  vwCl[ci]? = some (C, T, N) ∧ ci < 100 ∧ (∀ w ∈ u_ws C T N, dr_T w) ∧ (∀ k, k < N → parseFieldDescriptor (T k).2.2.1 = some (ty k)) ∧ ∀ a, a < N → ∀ b, b < N → a ≠ b → (T a).2.1 ≠ (T b).2.1
/-- the pool's entry idx of the class own names the k-th field of T -/
def dr_L (own : String) (idx : Nat) (T : u_T) (k : Nat) : Prop := dr_T (.fieldLink own idx (T k).1 (T k).2.1 (T k).2.2.1) ∨ ∃ host : String, dr_T (.fieldLinkNest own idx (T k).1 (T k).2.1 (T k).2.2.1 host)
theorem dr_fits (G : dr_Gt) (t : FieldType) (v : Value) : fits t (dr_tr G v) = fits t v := by cases v <;> cases t <;> rfl
theorem dr_narrow (G : dr_Gt) {t : FieldType} {v : Value} (h : narrow t v = v) : narrow t (dr_tr G v) = dr_tr G v := by
  cases v <;> first | exact h | (cases t <;> rfl)
section DRO
variable {M : dr_MI} {fr wo pc : Nat} {l : List (Nat × Value)} {st : List Value} {h : dr_AH} {Q : dr_RS → dr_AH → Prop} {ci a k idx N : Nat} {C : String} {T : u_T} {ty : Nat → FieldType}
theorem wp_getv (hCl : dr_Cl ci C T N ty) (hL : dr_L M.own idx T k) (hkN : k < N) (hd : decode M.code pc = .ok (.getfield idx, 3)) (hk : (h.2.2 a).1 = ci) {v : Value} (hv : (h.2.2 a).2.2 k = v) (kk : dr_W M fr wo (pc + 3) l (v :: st) h Q) : dr_W M fr wo pc l (.ref a :: st) h Q := by
  intro G R s m args below meth c H locs cells slots ls X
  obtain ⟨hq, hci, hlay, hty, hnm⟩ := hCl
  obtain ⟨ha, q, q1, q2, cell, e1, e2, e3, e4⟩ := X.heap.obj hk hci
  have hqe : q = (C, T, N) := Option.some.inj (q1.symm.trans hq)
  subst hqe
  have q2 : N = (h.2.2 a).2.1 := q2
  obtain ⟨hS, hfc, kC, hkC, hkind⟩ := X.known hq
  obtain ⟨cf, kf, fi, f, hi, hsl⟩ := hS k hkN
  have hst := (u_facts (args := args) hfc hkC (u_lays (ws := u_ws C T N) (fun w hw => X.word (hlay w hw)) (fun w h => h) hkN) hi).1
  have hv' : cell.slots[f.slot]? = some (dr_tr G v) := by
    rw [hsl, e4 k (by omega)]
    show some (dr_tr G ((h.2.2 a).2.2 k)) = _
    rw [hv]
  rcases hL with hl | ⟨host, hl⟩
  · exact W.getf X.exec X.bytes X.own (X.word hl) hi hst e1 (by rw [e3]; exact fun h => by cases h) hv' rfl rfl hd (kk G R s m args below meth c H locs cells slots ls X)
  · exact va_Wgetf X.exec X.bytes X.own (X.word hl) hi hst e1 (by rw [e3]; exact fun h => by cases h) hv' rfl rfl hd (kk G R s m args below meth c H locs cells slots ls X)
def dr_gi (h : dr_AH) (ci a k : Nat) (K : Int32 → Option (dr_RS × dr_AH)) : Option (dr_RS × dr_AH) :=
  if (h.2.2 a).1 = ci then (match (h.2.2 a).2.2 k with
    | .int x => K x
    | _ => none) else none
def dr_gl (h : dr_AH) (ci a k : Nat) (K : Int64 → Option (dr_RS × dr_AH)) : Option (dr_RS × dr_AH) :=
  if (h.2.2 a).1 = ci then (match (h.2.2 a).2.2 k with
    | .long x => K x
    | _ => none) else none
def dr_gr (h : dr_AH) (ci a k : Nat) (K : Nat → Option (dr_RS × dr_AH)) (K0 : Option (dr_RS × dr_AH)) : Option (dr_RS × dr_AH) :=
  if (h.2.2 a).1 = ci then (match (h.2.2 a).2.2 k with
    | .ref x => K x
    | .null => K0
    | _ => none) else none
theorem wp_gi {K : Int32 → Option (dr_RS × dr_AH)} (hCl : dr_Cl ci C T N ty) (hL : dr_L M.own idx T k) (hkN : k < N) (hd : decode M.code pc = .ok (.getfield idx, 3)) (hp : dr_p (dr_gi h ci a k K) Q) (kk : ∀ x, dr_p (K x) Q → dr_W M fr wo (pc + 3) l (.int x :: st) h Q) : dr_W M fr wo pc l (.ref a :: st) h Q := by
  unfold dr_gi at hp
  by_cases hk : (h.2.2 a).1 = ci
  · rw [if_pos hk] at hp
    cases hv : (h.2.2 a).2.2 k with
    | int x => rw [hv] at hp; exact wp_getv hCl hL hkN hd hk hv (kk x hp)
    | _ => rw [hv] at hp; exact (dr_p0 hp).elim
  · rw [if_neg hk] at hp; exact (dr_p0 hp).elim
theorem wp_gl {K : Int64 → Option (dr_RS × dr_AH)} (hCl : dr_Cl ci C T N ty) (hL : dr_L M.own idx T k) (hkN : k < N) (hd : decode M.code pc = .ok (.getfield idx, 3)) (hp : dr_p (dr_gl h ci a k K) Q) (kk : ∀ x, dr_p (K x) Q → dr_W M fr wo (pc + 3) l (.long x :: st) h Q) : dr_W M fr wo pc l (.ref a :: st) h Q := by
  unfold dr_gl at hp
  by_cases hk : (h.2.2 a).1 = ci
  · rw [if_pos hk] at hp
    cases hv : (h.2.2 a).2.2 k with
    | long x => rw [hv] at hp; exact wp_getv hCl hL hkN hd hk hv (kk x hp)
    | _ => rw [hv] at hp; exact (dr_p0 hp).elim
  · rw [if_neg hk] at hp; exact (dr_p0 hp).elim
theorem wp_gr {K : Nat → Option (dr_RS × dr_AH)} {K0 : Option (dr_RS × dr_AH)} (hCl : dr_Cl ci C T N ty) (hL : dr_L M.own idx T k) (hkN : k < N) (hd : decode M.code pc = .ok (.getfield idx, 3)) (hp : dr_p (dr_gr h ci a k K K0) Q) (kk : ∀ x, dr_p (K x) Q → dr_W M fr wo (pc + 3) l (.ref x :: st) h Q) (k0 : dr_p K0 Q → dr_W M fr wo (pc + 3) l (.null :: st) h Q) : dr_W M fr wo pc l (.ref a :: st) h Q := by
  unfold dr_gr at hp
  by_cases hk : (h.2.2 a).1 = ci
  · rw [if_pos hk] at hp
    cases hv : (h.2.2 a).2.2 k with
    | ref x => rw [hv] at hp; exact wp_getv hCl hL hkN hd hk hv (kk x hp)
    | null => rw [hv] at hp; exact wp_getv hCl hL hkN hd hk hv (k0 hp)
    | _ => rw [hv] at hp; exact (dr_p0 hp).elim
  · rw [if_neg hk] at hp; exact (dr_p0 hp).elim
def dr_pf (h : dr_AH) (ci a k : Nat) (v : Value) (K : dr_AH → Option (dr_RS × dr_AH)) : Option (dr_RS × dr_AH) := if (h.2.2 a).1 = ci then K (dr_put h a k v) else none
theorem wp_put {v : Value} {K : dr_AH → Option (dr_RS × dr_AH)} (hCl : dr_Cl ci C T N ty) (hL : dr_L M.own idx T k) (hkN : k < N) (hfin : (T k).2.2.2 = false ∨ (M.y.name = "<init>" ∧ (T k).1 = M.own)) (hn : narrow (ty k) v = v) (hfit : fits (ty k) v = true) (hd : decode M.code pc = .ok (.putfield idx, 3)) (hp : dr_p (dr_pf h ci a k v K) Q)
    (kk : dr_p (K (dr_put h a k v)) Q → dr_W M fr wo (pc + 3) l st (dr_put h a k v) Q) : dr_W M fr wo pc l (v :: .ref a :: st) h Q := by
  unfold dr_pf at hp
  by_cases hk : (h.2.2 a).1 = ci
  case neg => rw [if_neg hk] at hp; exact (dr_p0 hp).elim
  rw [if_pos hk] at hp
  have kk := kk hp
  intro G R s m args below meth c H locs cells slots ls X
  obtain ⟨hq, hci, hlay, hty, hnm⟩ := hCl
  obtain ⟨ha, q, q1, q2, cell, e1, e2, e3, e4⟩ := X.heap.obj hk hci
  have hqe : q = (C, T, N) := Option.some.inj (q1.symm.trans hq)
  subst hqe
  have q2 : N = (h.2.2 a).2.1 := q2
  have ha0 : 0 < a := by
    rcases Nat.eq_zero_or_pos a with z | z
    · rw [z] at hk
      have := X.heap.2.2.2.2.1
      omega
    · exact z
  have hts : ∀ w ∈ u_ws C T N, w.before args s = true := fun w hw => X.word (hlay w hw)
  have hK : va_K (G.dC, G.dI) vwCl [] s := ⟨fun c q hq => X.known hq, fun k q h => by simp at h⟩
  have hap := va_apart (own := C) hts (fun w h => h) ty hty hnm hK hq
  obtain ⟨hS, hfc, kC, hkC, hkind⟩ := X.known hq
  obtain ⟨cf, kf, fi, f, hi, hsl⟩ := hS k hkN
  have hlays := u_lays (args := args) hts (fun w h => h) hkN
  have hst := (u_facts hfc hkC hlays hi).1
  have hlt : f.slot < cell.slots.size := by rw [hsl]; exact k2_hasslot (e4 k (by omega))
  have hlb : G.s.heap.size ≤ dr_ad G a := by
    cases a with
    | zero => omega
    | succ a => simp only [dr_ad]; omega
  have hlocs : ∀ z ∈ locs ++ [⟨dr_ad G a, f.slot⟩], G.s.heap.size ≤ z.base := by
    intro z hz
    rcases List.mem_append.mp hz with hz | hz
    · exact X.locsE z hz
    · rw [List.mem_singleton.mp hz]; exact hlb
  have hw := u_fits (args := args) hfc hkC hkind hlays hi (hty k hkN) (dr_narrow G hn) (by rw [dr_fits]; exact hfit)
  have fin : ∀ H' : Heap, H'[dr_ad G a]? = some (cell.setSlot f.slot (dr_tr G v)) → H'.size = H.size → (∀ q, q ≠ dr_ad G a → H'[q]? = H[q]?) → W G.p G.l G.e R s m args below meth c H' (locs ++ [⟨dr_ad G a, f.slot⟩]) cells slots (dr_E G R s below Q) (F0 m (pc + 3) ls (st.map (dr_tr G))) := by
    intro H' e1' e2' e3'
    refine kk G R s m args below meth c H' _ cells slots ls (X.setH rfl rfl hlocs (X.heap.put X.bs ha ha0 e2' e3' ⟨fun _ => ?_, fun h1 => ?_⟩))
    · refine ⟨(C, T, N), by rw [← hq, ← hk]; rfl, q2, cell.setSlot f.slot (dr_tr G v), e1', ?_, e3, ?_⟩
      · show cell.cls = G.dC (h.2.2 a).1
        rw [e2, hk]
      · intro j hj
        have hj : j < (h.2.2 a).2.1 := hj
        have := t_set (V := fun k => dr_tr G ((h.2.2 a).2.2 k)) (N := N) (fun k hk => e4 k (by omega)) hap hkN (dr_tr G v) j (by omega)
        show (cell.setSlot f.slot (dr_tr G v)).slots[G.dI (h.2.2 a).1 j]? = some (dr_tr G (if j = k then v else (h.2.2 a).2.2 j))
        rw [hsl, hk]
        rw [this]
        unfold updV
        by_cases hjk : j = k
        · rw [if_pos hjk, if_pos hjk]
        · rw [if_neg hjk, if_neg hjk]
    · exfalso
      have h1 : 100 ≤ (h.2.2 a).1 := h1
      omega
  by_cases hf : (T k).2.2.2 = false
  · have hlay1 := hts _ (u_in_lay hkN)
    unfold u_lay at hlay1
    rw [if_neg (by rw [hf]; decide)] at hlay1
    have h6 := u_store hfc hkC hkind hlay1 hi (hty k hkN) (dr_narrow G hn) (by rw [dr_fits]; exact hfit)
    rcases hL with hl | ⟨host, hl⟩
    · exact W.putK X.exec X.bytes (f := f) ⟨X.own, X.word hl, ⟨_, _, _, hi⟩, hst⟩ (by rw [e2]; exact h6) e1 e3 hlt rfl rfl hd fin
    · exact va_WputK X.exec X.bytes (f := f) X.own (X.word hl) hi hst (by rw [e2]; exact h6) e1 e3 hlt rfl rfl hd fin
  · obtain ⟨hin, hdecl⟩ : M.y.name = "<init>" ∧ (T k).1 = M.own := by
      rcases hfin with z | z
      · exact absurd z hf
      · exact z
    have hlay1 := hts _ (u_in_lay hkN)
    unfold u_lay at hlay1
    rw [if_pos (by simpa using hf)] at hlay1
    obtain ⟨_, _, c', _, _, _, -, -, hf', -, hown2, -⟩ := Cond.laid_spec (final := true) (cls := C) (owner := (T k).1) (name := (T k).2.1) (desc := (T k).2.2.1) hlay1
    have ecf : c' = cf := by have := hi.symm.trans hf'; simp at this; exact this.1.symm
    have hcf : m.cls = cf := by
      rw [← ecf]
      have := X.own
      rw [← hdecl] at this
      exact Option.some.inj (this.symm.trans hown2)
    rcases hL with hl | ⟨host, hl⟩
    · exact W.putFinK X.exec X.bytes X.own (X.word hl) hi hst hcf (by rw [X.name]; exact hin) (by rw [e2]; exact hw) e1 e3 hlt rfl rfl hd fin
    · refine va_Wputf X.exec X.bytes X.own (X.word hl) hi hst (Or.inr ⟨hcf, by rw [X.name]; exact hin⟩) e1 (by rw [e3]; exact fun h => by cases h) hlt hw.1 (by rw [e3, e2]; exact hw.2) rfl rfl hd ?_
      have hlt1 : dr_ad G a < H.size := (Array.getElem?_eq_some_iff.mp e1).1
      refine fin _ ?_ ?_ ?_
      · simp [Array.getElem?_setIfInBounds, hlt1]
      · simp
      · intro q hq
        simp [Array.getElem?_setIfInBounds, Ne.symm hq]
end DRO
/-! ===== arrays ===== -/
section DRA
variable {M : dr_MI} {fr wo pc : Nat} {l : List (Nat × Value)} {st : List Value} {h : dr_AH} {Q : dr_RS → dr_AH → Prop} {a : Nat} {j : Int32}
abbrev dr_in (h : dr_AH) (c a : Nat) (j : Int32) : Prop := (h.2.2 a).1 = 100 + c ∧ 0 ≤ j.toInt ∧ j.toInt < ((h.2.2 a).2.1 : Int)
theorem dr_in.nat {h : dr_AH} {c a : Nat} {j : Int32} (hj : dr_in h c a j) : j.toNatClampNeg < (h.2.2 a).2.1 := by
  have h1 : j.toNatClampNeg = j.toInt.toNat := rfl
  have := hj.2
  omega
theorem dr_in.ok {h : dr_AH} {c a : Nat} {j : Int32} (hj : dr_in h c a j) {cell : Cell} (hz : cell.slots.size = (h.2.2 a).2.1) : ¬ (j < 0 ∨ cell.slots.size ≤ j.toNatClampNeg) := by
  rw [hz]
  exact vp_in_iff.mpr hj.2
def dr_ai (h : dr_AH) (a : Nat) (j : Int32) (K : Int32 → Option (dr_RS × dr_AH)) : Option (dr_RS × dr_AH) :=
  if dr_in h 0 a j then (match (h.2.2 a).2.2 j.toNatClampNeg with
    | .int x => K x
    | _ => none) else none
def dr_al (h : dr_AH) (a : Nat) (j : Int32) (K : Int64 → Option (dr_RS × dr_AH)) : Option (dr_RS × dr_AH) :=
  if dr_in h 1 a j then (match (h.2.2 a).2.2 j.toNatClampNeg with
    | .long x => K x
    | _ => none) else none
def dr_az (h : dr_AH) (a : Nat) (j : Int32) (K : Int32 → Option (dr_RS × dr_AH)) : Option (dr_RS × dr_AH) :=
  if dr_in h 2 a j then (match (h.2.2 a).2.2 j.toNatClampNeg with
    | .int x => K x
    | _ => none) else none
def dr_ar (h : dr_AH) (ci a : Nat) (j : Int32) (K : Nat → Option (dr_RS × dr_AH)) (K0 : Option (dr_RS × dr_AH)) : Option (dr_RS × dr_AH) :=
  if dr_in h (10 + ci) a j then (match (h.2.2 a).2.2 j.toNatClampNeg with
    | .ref x => K x
    | .null => K0
    | _ => none) else none
theorem wp_iaload {K : Int32 → Option (dr_RS × dr_AH)} (hd : decode M.code pc = .ok (.iaload, 1)) (hp : dr_p (dr_ai h a j K) Q) (kk : ∀ x, dr_p (K x) Q → dr_W M fr wo (pc + 1) l (.int x :: st) h Q) : dr_W M fr wo pc l (.int j :: .ref a :: st) h Q := by
  unfold dr_ai at hp
  by_cases hj : dr_in h 0 a j
  case neg => rw [if_neg hj] at hp; exact (dr_p0 hp).elim
  rw [if_pos hj] at hp
  cases hv : (h.2.2 a).2.2 j.toNatClampNeg with
  | int x =>
    rw [hv] at hp
    intro G R s m args below meth c H locs cells slots ls X
    obtain ⟨ha, cell, e1, e2, e3, e4, e5, e6⟩ := X.heap.arr hj.1 (by decide)
    exact W.iald X.exec X.bytes e1 (State.isArrayOf_alike X.warm.alike e3.1) e2 (hj.ok e4) (v := dr_tr G (.int x)) (by rw [e6 _ hj.nat, hv]) rfl rfl hd (kk x hp G R s m args below meth c H locs cells slots ls X)
  | _ => rw [hv] at hp; exact (dr_p0 hp).elim
theorem wp_laload {K : Int64 → Option (dr_RS × dr_AH)} (hd : decode M.code pc = .ok (.laload, 1)) (hp : dr_p (dr_al h a j K) Q) (kk : ∀ x, dr_p (K x) Q → dr_W M fr wo (pc + 1) l (.long x :: st) h Q) : dr_W M fr wo pc l (.int j :: .ref a :: st) h Q := by
  unfold dr_al at hp
  by_cases hj : dr_in h 1 a j
  case neg => rw [if_neg hj] at hp; exact (dr_p0 hp).elim
  rw [if_pos hj] at hp
  cases hv : (h.2.2 a).2.2 j.toNatClampNeg with
  | long x =>
    rw [hv] at hp
    intro G R s m args below meth c H locs cells slots ls X
    obtain ⟨ha, cell, e1, e2, e3, e4, e5, e6⟩ := X.heap.arr hj.1 (by decide)
    exact W.lald X.exec X.bytes e1 (State.isArrayOf_alike X.warm.alike e3.1) e2 (hj.ok e4) (v := dr_tr G (.long x)) (by rw [e6 _ hj.nat, hv]) rfl rfl hd (kk x hp G R s m args below meth c H locs cells slots ls X)
  | _ => rw [hv] at hp; exact (dr_p0 hp).elim
theorem wp_zaload {K : Int32 → Option (dr_RS × dr_AH)} (hd : decode M.code pc = .ok (.baload, 1)) (hp : dr_p (dr_az h a j K) Q) (kk : ∀ x, dr_p (K x) Q → dr_W M fr wo (pc + 1) l (.int x :: st) h Q) : dr_W M fr wo pc l (.int j :: .ref a :: st) h Q := by
  unfold dr_az at hp
  by_cases hj : dr_in h 2 a j
  case neg => rw [if_neg hj] at hp; exact (dr_p0 hp).elim
  rw [if_pos hj] at hp
  cases hv : (h.2.2 a).2.2 j.toNatClampNeg with
  | int x =>
    rw [hv] at hp
    intro G R s m args below meth c H locs cells slots ls X
    obtain ⟨ha, cell, e1, e2, e3, e4, e5, e6⟩ := X.heap.arr hj.1 (by decide)
    exact W.zald X.exec X.bytes e1 (State.isArrayOf_alike X.warm.alike e3.1) e2 (hj.ok e4) (v := dr_tr G (.int x)) (by rw [e6 _ hj.nat, hv]) rfl rfl hd (kk x hp G R s m args below meth c H locs cells slots ls X)
  | _ => rw [hv] at hp; exact (dr_p0 hp).elim
theorem wp_aaload {ci : Nat} {K : Nat → Option (dr_RS × dr_AH)} {K0 : Option (dr_RS × dr_AH)} (hci : ci < 90) (hd : decode M.code pc = .ok (.aaload, 1)) (hp : dr_p (dr_ar h ci a j K K0) Q) (kk : ∀ x, dr_p (K x) Q → dr_W M fr wo (pc + 1) l (.ref x :: st) h Q) (k0 : dr_p K0 Q → dr_W M fr wo (pc + 1) l (.null :: st) h Q) : dr_W M fr wo pc l (.int j :: .ref a :: st) h Q := by
  unfold dr_ar at hp
  by_cases hj : dr_in h (10 + ci) a j
  case neg => rw [if_neg hj] at hp; exact (dr_p0 hp).elim
  rw [if_pos hj] at hp
  have hty : (dr_ty (10 + ci)).isReference = true := by
    unfold dr_ty
    rw [if_neg (by omega), if_neg (by omega), if_neg (by omega), if_neg (by omega), if_neg (by omega)]
    rfl
  cases hv : (h.2.2 a).2.2 j.toNatClampNeg with
  | ref x =>
    rw [hv] at hp
    intro G R s m args below meth c H locs cells slots ls X
    obtain ⟨ha, cell, e1, e2, e3, e4, e5, e6⟩ := X.heap.arr hj.1 (by omega)
    exact W.aald X.exec X.bytes e1 (State.isArrayOf_alike X.warm.alike e3.1) hty e2 (hj.ok e4) (v := dr_tr G (.ref x)) (by rw [e6 _ hj.nat, hv]) rfl rfl hd (kk x hp G R s m args below meth c H locs cells slots ls X)
  | null =>
    rw [hv] at hp
    intro G R s m args below meth c H locs cells slots ls X
    obtain ⟨ha, cell, e1, e2, e3, e4, e5, e6⟩ := X.heap.arr hj.1 (by omega)
    exact W.aald X.exec X.bytes e1 (State.isArrayOf_alike X.warm.alike e3.1) hty e2 (hj.ok e4) (v := dr_tr G .null) (by rw [e6 _ hj.nat, hv]) rfl rfl hd (k0 hp G R s m args below meth c H locs cells slots ls X)
  | _ => rw [hv] at hp; exact (dr_p0 hp).elim
def dr_ln (h : dr_AH) (c a : Nat) (K : Int32 → Option (dr_RS × dr_AH)) : Option (dr_RS × dr_AH) := if (h.2.2 a).1 = 100 + c then K (h.2.2 a).2.1.toInt32 else none
theorem wp_alen {c : Nat} {K : Int32 → Option (dr_RS × dr_AH)} (hc : c < 100) (hd : decode M.code pc = .ok (.arraylength, 1)) (hp : dr_p (dr_ln h c a K) Q) (kk : dr_p (K (h.2.2 a).2.1.toInt32) Q → dr_W M fr wo (pc + 1) l (.int (h.2.2 a).2.1.toInt32 :: st) h Q) : dr_W M fr wo pc l (.ref a :: st) h Q := by
  unfold dr_ln at hp
  by_cases hk : (h.2.2 a).1 = 100 + c
  case neg => rw [if_neg hk] at hp; exact (dr_p0 hp).elim
  rw [if_pos hk] at hp
  intro G R s m args below meth cc H locs cells slots ls X
  obtain ⟨ha, cell, e1, e2, e3, e4, e5, e6⟩ := X.heap.arr hk hc
  exact W.alen X.exec X.bytes e1 (State.isArrayOf_alike X.warm.alike e3.1) (by rw [e4]) rfl rfl hd (kk hp G R s m args below meth cc H locs cells slots ls X)
/-- the array's cell with a place written -/
theorem dr_C.ast {G : dr_Gt} (hb : G.b < G.s.heap.size) {h : dr_AH} {H H1 : Heap} (hC : dr_C G h H) {c a k : Nat} {v : Value} (hc : c < 100) (hk : (h.2.2 a).1 = 100 + c) (ha0 : a ≠ 0) {cell : Cell} (e1 : H[dr_ad G a]? = some cell) (hz : H1.size = H.size) (ho : ∀ q, q ≠ dr_ad G a → H1[q]? = H[q]?)
    (hn : H1[dr_ad G a]? = some (cell.setSlot k (dr_tr G v))) (hkl : k < (h.2.2 a).2.1) : dr_C G (dr_put h a k v) H1 := by
  obtain ⟨ha, cell', f1, f2, f3, f4, f5, f6⟩ := hC.arr hk hc
  have : cell' = cell := Option.some.inj (f1.symm.trans e1)
  subst this
  refine hC.put hb ha (Nat.pos_of_ne_zero ha0) hz ho ⟨fun h1 => ?_, fun h1 h2 => ?_⟩
  · exfalso
    have h1 : (h.2.2 a).1 < 100 := h1
    omega
  · refine ⟨cell'.setSlot k (dr_tr G v), hn, f2, ?_, (k2_slotsz _ _ _).trans f4, f5, fun j hj => ?_⟩
    · show dr_ka G ((h.2.2 a).1 - 100) _
      rw [hk, show 100 + c - 100 = c by omega]
      exact f3
    · show (cell'.setSlot k (dr_tr G v)).slots[j]? = some (dr_tr G (if j = k then v else (h.2.2 a).2.2 j))
      by_cases hjk : j = k
      · subst hjk
        rw [if_pos rfl]
        exact Cell.slots_setSlot_self _ (by rw [f4]; exact hkl)
      · rw [if_neg hjk, slot_ne _ _ (Ne.symm hjk)]
        exact f6 j hj
theorem dr_lb {G : dr_Gt} {locs : List Loc} {a k : Nat} (ha0 : a ≠ 0) (hl : ∀ q ∈ locs, G.s.heap.size ≤ q.base) : ∀ z ∈ locs ++ [⟨dr_ad G a, k⟩], G.s.heap.size ≤ z.base := by
  intro z hz
  rcases List.mem_append.mp hz with hz | hz
  · exact hl z hz
  · rw [List.mem_singleton.mp hz]
    cases a with
    | zero => exact absurd rfl ha0
    | succ a => exact Nat.le_add_right _ _
def dr_si (h : dr_AH) (a : Nat) (j x : Int32) (K : dr_AH → Option (dr_RS × dr_AH)) : Option (dr_RS × dr_AH) := if dr_in h 0 a j ∧ a ≠ 0 then K (dr_put h a j.toNatClampNeg (.int x)) else none
def dr_sl (h : dr_AH) (a : Nat) (j : Int32) (x : Int64) (K : dr_AH → Option (dr_RS × dr_AH)) : Option (dr_RS × dr_AH) := if dr_in h 1 a j ∧ a ≠ 0 then K (dr_put h a j.toNatClampNeg (.long x)) else none
def dr_sz (h : dr_AH) (a : Nat) (j x : Int32) (K : dr_AH → Option (dr_RS × dr_AH)) : Option (dr_RS × dr_AH) := if dr_in h 2 a j ∧ a ≠ 0 then K (dr_put h a j.toNatClampNeg (.int (x &&& 1))) else none
theorem wp_iastore {x : Int32} {K : dr_AH → Option (dr_RS × dr_AH)} (hd : decode M.code pc = .ok (.iastore, 1)) (hp : dr_p (dr_si h a j x K) Q) (kk : dr_p (K (dr_put h a j.toNatClampNeg (.int (x)))) Q → dr_W M fr wo (pc + 1) l st (dr_put h a j.toNatClampNeg (.int (x))) Q) : dr_W M fr wo pc l (.int x :: .int j :: .ref a :: st) h Q := by
  unfold dr_si at hp
  by_cases hj : dr_in h 0 a j ∧ a ≠ 0
  case neg => rw [if_neg hj] at hp; exact (dr_p0 hp).elim
  rw [if_pos hj] at hp
  intro G R s m args below meth c H locs cells slots ls X
  obtain ⟨ha, cell, e1, e2, e3, e4, e5, e6⟩ := X.heap.arr hj.1.1 (by decide)
  exact W.iast X.exec X.bytes e1 (State.isArrayOf_alike X.warm.alike e3.1) e2 (hj.1.ok e4) rfl rfl hd fun H' f1 f2 f3 => kk hp G R s m args below meth c H' _ cells slots ls (X.setH rfl rfl (dr_lb hj.2 X.locsE) (X.heap.ast X.bs (by decide) hj.1.1 hj.2 e1 f2 f3 f1 hj.1.nat))
theorem wp_lastore {x : Int64} {K : dr_AH → Option (dr_RS × dr_AH)} (hd : decode M.code pc = .ok (.lastore, 1)) (hp : dr_p (dr_sl h a j x K) Q) (kk : dr_p (K (dr_put h a j.toNatClampNeg (.long (x)))) Q → dr_W M fr wo (pc + 1) l st (dr_put h a j.toNatClampNeg (.long (x))) Q) : dr_W M fr wo pc l (.long x :: .int j :: .ref a :: st) h Q := by
  unfold dr_sl at hp
  by_cases hj : dr_in h 1 a j ∧ a ≠ 0
  case neg => rw [if_neg hj] at hp; exact (dr_p0 hp).elim
  rw [if_pos hj] at hp
  intro G R s m args below meth c H locs cells slots ls X
  obtain ⟨ha, cell, e1, e2, e3, e4, e5, e6⟩ := X.heap.arr hj.1.1 (by decide)
  exact W.last X.exec X.bytes e1 (State.isArrayOf_alike X.warm.alike e3.1) e2 (hj.1.ok e4) rfl rfl hd fun H' f1 f2 f3 => kk hp G R s m args below meth c H' _ cells slots ls (X.setH rfl rfl (dr_lb hj.2 X.locsE) (X.heap.ast X.bs (by decide) hj.1.1 hj.2 e1 f2 f3 f1 hj.1.nat))
theorem wp_zastore {x : Int32} {K : dr_AH → Option (dr_RS × dr_AH)} (hd : decode M.code pc = .ok (.bastore, 1)) (hp : dr_p (dr_sz h a j x K) Q) (kk : dr_p (K (dr_put h a j.toNatClampNeg (.int (x &&& 1)))) Q → dr_W M fr wo (pc + 1) l st (dr_put h a j.toNatClampNeg (.int (x &&& 1))) Q) : dr_W M fr wo pc l (.int x :: .int j :: .ref a :: st) h Q := by
  unfold dr_sz at hp
  by_cases hj : dr_in h 2 a j ∧ a ≠ 0
  case neg => rw [if_neg hj] at hp; exact (dr_p0 hp).elim
  rw [if_pos hj] at hp
  intro G R s m args below meth c H locs cells slots ls X
  obtain ⟨ha, cell, e1, e2, e3, e4, e5, e6⟩ := X.heap.arr hj.1.1 (by decide)
  exact W.zast X.exec X.bytes e1 (State.isArrayOf_alike X.warm.alike e3.1) e2 (hj.1.ok e4) rfl rfl hd fun H' f1 f2 f3 => kk hp G R s m args below meth c H' _ cells slots ls (X.setH rfl rfl (dr_lb hj.2 X.locsE) (X.heap.ast X.bs (by decide) hj.1.1 hj.2 e1 f2 f3 f1 hj.1.nat))
def dr_sr (h : dr_AH) (ci a : Nat) (j : Int32) (x : Nat) (K : dr_AH → Option (dr_RS × dr_AH)) : Option (dr_RS × dr_AH) := if (dr_in h (10 + ci) a j ∧ a ≠ 0) ∧ (h.2.2 x).1 = ci then K (dr_put h a j.toNatClampNeg (.ref x)) else none
theorem wp_aastore {ci x : Nat} {K : dr_AH → Option (dr_RS × dr_AH)} (hci : ci < 90) (hd : decode M.code pc = .ok (.aastore, 1)) (hp : dr_p (dr_sr h ci a j x K) Q) (kk : dr_p (K (dr_put h a j.toNatClampNeg (.ref x))) Q → dr_W M fr wo (pc + 1) l st (dr_put h a j.toNatClampNeg (.ref x)) Q) : dr_W M fr wo pc l (.ref x :: .int j :: .ref a :: st) h Q := by
  unfold dr_sr at hp
  by_cases hj : (dr_in h (10 + ci) a j ∧ a ≠ 0) ∧ (h.2.2 x).1 = ci
  case neg => rw [if_neg hj] at hp; exact (dr_p0 hp).elim
  rw [if_pos hj] at hp
  have hty : (dr_ty (10 + ci)).isReference = true := by
    unfold dr_ty
    rw [if_neg (by omega), if_neg (by omega), if_neg (by omega), if_neg (by omega), if_neg (by omega)]
    rfl
  intro G R s m args below meth c H locs cells slots ls X
  obtain ⟨ha, cell, e1, e2, e3, e4, e5, e6⟩ := X.heap.arr hj.1.1.1 (by omega)
  obtain ⟨hx, q, q1, q2, cv, g1, g2, g3, g4⟩ := X.heap.obj hj.2 (by omega)
  obtain ⟨kA, k1, k2, q', hq'⟩ := e3.2 (by omega)
  rw [show 10 + ci - 10 = ci by omega] at k2 hq'
  have hal := X.warm.alike
  obtain ⟨kA', k1', ke⟩ := hal.2.2 _ _ k1
  obtain ⟨-, hfc, kC, hkC, -⟩ := X.known q1
  refine W.aast X.exec X.bytes (k := kA') (kv := kC) (kcomp := kC) (comp := G.dC ci) (t := dr_ty (10 + ci)) e1 (fun z => (e3.1.1 z)) e2 k1' (by rw [ke]; exact k2) hty hkC ⟨fun z => hj.1.1.ok e4 (Or.inl z), by rw [e4]; exact hj.1.1.nat⟩ g1 (fun z h => by rw [g3] at h; cases h) (by rw [g2]; exact hkC) ?_ rfl rfl hd fun H' f1 f2 f3 => kk hp G R s m args below meth c H' _ cells slots ls (X.setH rfl rfl (dr_lb hj.1.2 X.locsE) (X.heap.ast X.bs (by omega) hj.1.1.1 hj.1.2 e1 f2 f3 f1 hj.1.1.nat))
  rw [g2]
  show s.vm.assignableAux (255 + 1) _ _ = true
  rw [Vm.assignableAux, Bool.or_eq_true, beq_iff_eq]
  exact Or.inl rfl
end DRA
/-! ===== making ===== -/
theorem dr_tr_def (G : dr_Gt) (t : FieldType) : dr_tr G (defaultValue t) = defaultValue t := by cases t <;> rfl
theorem dr_X.push {G : dr_Gt} {M : dr_MI} {fr wo : Nat} {R : Room} {s : State} {m : MethodId} {meth : Method} {c : Code} {H H' : Heap} {locs : List Loc} {cells slots : Nat} {ls : Array Slot} {l : List (Nat × Value)} {h : dr_AH} (X : dr_X G M fr wo R s m meth c H locs cells slots ls l h) {o : dr_AO} (hC : dr_C G (dr_push h o) H') :
    dr_X G M fr wo R s m meth c H' locs (cells + 1) (slots + o.2.1) ls l (dr_push h o) :=
  ⟨X.1, X.2.1, X.room, by have := X.cellsE; simp only [dr_push]; omega, by have := X.slotsE; simp only [dr_push]; omega, X.locsE, hC, X.lsE⟩
section DRN
variable {M : dr_MI} {fr wo pc : Nat} {l : List (Nat × Value)} {st : List Value} {h : dr_AH} {Q : dr_RS → dr_AH → Prop} {ci idx N : Nat} {C : String} {T : u_T} {ty : Nat → FieldType}
def dr_nw (h : dr_AH) (ci N : Nat) (f : Nat → Value) (K : Nat → dr_AH → Option (dr_RS × dr_AH)) : Option (dr_RS × dr_AH) :=
  if h.1 < dr_CC ∧ h.2.1 + N ≤ dr_SC then K (h.1 + 1) (dr_push h (ci, N, f)) else none
theorem wp_new {K : Nat → dr_AH → Option (dr_RS × dr_AH)} (hCl : dr_Cl ci C T N ty) (hlk : dr_T (.classLink M.own idx C)) (hins : dr_T (.instantiable C N)) (hini : dr_T (.initialized C)) (hd : decode M.code pc = .ok (.new idx, 3)) (hp : dr_p (dr_nw h ci N (fun k => defaultValue (ty k)) K) Q)
    (kk : dr_p (K (h.1 + 1) (dr_push h (ci, N, fun k => defaultValue (ty k)))) Q → dr_W M fr wo (pc + 3) l (.ref (h.1 + 1) :: st) (dr_push h (ci, N, fun k => defaultValue (ty k))) Q) : dr_W M fr wo pc l st h Q := by
  unfold dr_nw at hp
  by_cases hr : h.1 < dr_CC ∧ h.2.1 + N ≤ dr_SC
  case neg => rw [if_neg hr] at hp; exact (dr_p0 hp).elim
  rw [if_pos hr] at hp
  intro G R s m args below meth c H locs cells slots ls X
  obtain ⟨hq, hci, hlay, hty, hnm⟩ := hCl
  have hKn := X.known hq
  have h1 := X.cellsE
  have h2 := X.slotsE
  have h3 := X.heap.2.2.2.2.2
  refine W.newcK X.exec X.bytes X.own (X.word hlk) (X.word hins) (X.word hini) rfl hd (by omega) (by omega) hKn.2.1 X.heap.1 fun H' kC hkC e1 e2 e3 => ?_
  have hb := u_born (args := args) ty (ws := u_ws C T N) (fun w hw => X.word (hlay w hw)) (fun w h => h) hKn hkC e1 hty
  have hz := X.heap.1
  refine kk hp G R s m args below meth c H' locs (cells + 1) (slots + N) ls (X.push (X.heap.push X.bs (by omega) (fun q hq => e3 q (by omega)) ⟨fun _ => ?_, fun h1 => ?_⟩ hr))
  · refine ⟨(C, T, N), hq, rfl, ?_⟩
    refine t_OB.to hb (fun k _ => ?_)
    exact (dr_tr_def G (ty k)).symm
  · exfalso
    have h1 : 100 ≤ ci := h1
    omega
def dr_na (h : dr_AH) (c : Nat) (v : Value) (n : Int32) (K : Nat → dr_AH → Option (dr_RS × dr_AH)) : Option (dr_RS × dr_AH) :=
  if (0 ≤ n.toInt ∧ n.toInt ≤ 100000) ∧ h.1 < dr_CC ∧ h.2.1 + n.toNatClampNeg ≤ dr_SC then K (h.1 + 1) (dr_push h (100 + c, n.toNatClampNeg, fun _ => v)) else none
theorem wp_newarray {c : Nat} {atype : ArrayType} {v : Value} {n : Int32} {K : Nat → dr_AH → Option (dr_RS × dr_AH)} (hc : c < 10) (hty : dr_ty c = newarray.typeOf atype) (hv : defaultValue (newarray.typeOf atype) = v) (hcb : componentBytes (newarray.typeOf atype) ≤ 8) (hw : dr_T (.arrayClass (newarray.typeOf atype))) (hd : decode M.code pc = .ok (.newarray atype, 2)) (hp : dr_p (dr_na h c v n K) Q)
    (kk : dr_p (K (h.1 + 1) (dr_push h (100 + c, n.toNatClampNeg, fun _ => v))) Q → dr_W M fr wo (pc + 2) l (.ref (h.1 + 1) :: st) (dr_push h (100 + c, n.toNatClampNeg, fun _ => v)) Q) : dr_W M fr wo pc l (.int n :: st) h Q := by
  unfold dr_na at hp
  by_cases hr : (0 ≤ n.toInt ∧ n.toInt ≤ 100000) ∧ h.1 < dr_CC ∧ h.2.1 + n.toNatClampNeg ≤ dr_SC
  case neg => rw [if_neg hr] at hp; exact (dr_p0 hp).elim
  rw [if_pos hr] at hp
  intro G R s m args below meth cc H locs cells slots ls X
  have h1 := X.cellsE
  have h2 := X.slotsE
  have h3 := X.heap.2.2.2.2.2
  have hz := X.heap.1
  have hn0 : ¬ n < 0 := by
    rw [Int32.lt_iff_toInt_lt]
    have : (0 : Int32).toInt = 0 := rfl
    omega
  have hnn : n.toNatClampNeg = n.toInt.toNat := rfl
  refine W.newaK X.exec X.bytes (X.word hw) rfl hd rfl hn0 rfl ?_ (by omega) (by omega) X.heap.1 fun H' cA e1 e2 e3 hA => ?_
  · have : n.toNatClampNeg * componentBytes (newarray.typeOf atype) ≤ n.toNatClampNeg * 8 := Nat.mul_le_mul_left _ hcb
    omega
  refine kk hp G R s m args below meth cc H' locs (cells + 1) (slots + n.toNatClampNeg) ls (X.push (X.heap.push X.bs (by omega) (fun q hq => e3 q (by omega)) ⟨fun h1 => ?_, fun h1 h2 => ?_⟩ hr.2))
  · exfalso
    have h1 : 100 + c < 100 := h1
    omega
  · refine ⟨_, e1, (fun z => by cases z), ⟨?_, fun hc10 => ?_⟩, arrV_size _ _ _, ?_, fun j hj => ?_⟩
    · show G.s.isArrayOf _ (dr_ty (100 + c - 100))
      rw [show 100 + c - 100 = c by omega, hty]
      exact State.isArrayOf_alike X.warm.alike.symm (hA _ _)
    · exfalso
      have hc10 : 10 ≤ 100 + c - 100 := hc10
      omega
    · show n.toNatClampNeg < 2 ^ 31
      omega
    · have hj : j < n.toNatClampNeg := hj
      show (arrV cA n.toNatClampNeg _).slots[j]? = some (dr_tr G v)
      rw [← hv, dr_tr_def]
      simp [arrV, hj]
theorem wp_anewarray {n : Int32} {K : Nat → dr_AH → Option (dr_RS × dr_AH)} (hCl : dr_Cl ci C T N ty) (hci : ci < 90) (hlk : dr_T (.classLink M.own idx C)) (hov : dr_T (.arrayOver (.object C))) (hd : decode M.code pc = .ok (.anewarray idx, 3)) (hp : dr_p (dr_na h (10 + ci) .null n K) Q)
    (kk : dr_p (K (h.1 + 1) (dr_push h (100 + (10 + ci), n.toNatClampNeg, fun _ => .null))) Q → dr_W M fr wo (pc + 3) l (.ref (h.1 + 1) :: st) (dr_push h (100 + (10 + ci), n.toNatClampNeg, fun _ => .null)) Q) : dr_W M fr wo pc l (.int n :: st) h Q := by
  unfold dr_na at hp
  by_cases hr : (0 ≤ n.toInt ∧ n.toInt ≤ 100000) ∧ h.1 < dr_CC ∧ h.2.1 + n.toNatClampNeg ≤ dr_SC
  case neg => rw [if_neg hr] at hp; exact (dr_p0 hp).elim
  rw [if_pos hr] at hp
  intro G R s m args below meth cc H locs cells slots ls X
  obtain ⟨hq, hci', hlay, hty, hnm⟩ := hCl
  have h1 := X.cellsE
  have h2 := X.slotsE
  have h3 := X.heap.2.2.2.2.2
  have hz := X.heap.1
  have hn0 : ¬ n < 0 := by
    rw [Int32.lt_iff_toInt_lt]
    have : (0 : Int32).toInt = 0 := rfl
    omega
  have hnn : n.toNatClampNeg = n.toInt.toNat := rfl
  have hte : dr_ty (10 + ci) = .object C := by
    unfold dr_ty
    rw [if_neg (by omega), if_neg (by omega), if_neg (by omega), if_neg (by omega), if_neg (by omega), show 10 + ci - 10 = ci by omega]
    unfold dr_nm
    rw [hq]
  refine W.anew X.exec X.bytes X.own (X.word hlk) (X.word hov) rfl hd rfl hn0 (by omega) (by omega) (by omega) fun cA kA comp f1 f2 f3 f4 => ?_
  have hcomp : comp = G.dC ci := Option.some.inj (f4.symm.trans (X.known hq).2.1)
  subst hcomp
  have ead : dr_ad G (h.1 + 1) = H.size := by rw [hz]; rfl
  have hal := X.warm.alike.symm
  obtain ⟨kA', g1, g2⟩ := hal.2.2 _ _ f2
  rw [show (Value.ref H.size) = dr_tr G (.ref (h.1 + 1)) by simp only [dr_tr, ead]]
  refine kk hp G R s m args below meth cc _ locs (cells + 1) (slots + n.toNatClampNeg) ls (X.push (X.heap.push X.bs (by simp) (fun q hq => by rw [Array.getElem?_push, if_neg (by omega)]) ⟨fun h1 => ?_, fun h1 h2 => ?_⟩ hr.2))
  · exfalso
    have h1 : 100 + (10 + ci) < 100 := h1
    omega
  · refine ⟨{ cls := cA, slots := Array.replicate n.toNatClampNeg .null, vm := .none }, (by rw [ead]; simp), (fun z => by cases z), ⟨?_, fun _ => ?_⟩, (by simp), ?_, fun j hj => ?_⟩
    · show G.s.isArrayOf _ (dr_ty (100 + (10 + ci) - 100))
      rw [show 100 + (10 + ci) - 100 = 10 + ci by omega, hte]
      exact ⟨(fun k h => by cases h), kA', g1, G.dC ci, (by rw [g2]; exact f3)⟩
    · show ∃ kA : Class, G.s.vm.classes[cA]? = some kA ∧ kA.kind = .array (G.dC (100 + (10 + ci) - 100 - 10)) (dr_ty (100 + (10 + ci) - 100)) ∧ ∃ q, vwCl[100 + (10 + ci) - 100 - 10]? = some q
      rw [show 100 + (10 + ci) - 100 = 10 + ci by omega, show 10 + ci - 10 = ci by omega, hte]
      exact ⟨kA', g1, (by rw [g2]; exact f3), _, hq⟩
    · show n.toNatClampNeg < 2 ^ 31
      omega
    · have hj : j < n.toNatClampNeg := hj
      show (Array.replicate n.toNatClampNeg Value.null)[j]? = some (dr_tr G .null)
      simp [hj, dr_tr]
theorem dr_cats (G : dr_Gt) (st : List Value) : ((st.map (dr_tr G)).map fun v => v.category).sum = (st.map fun v => v.category).sum := by
  rw [List.map_map]
  congr 1
  apply List.map_congr_left
  intro v _
  exact dr_tr_cat G v
theorem wp_objInit {a : Nat} (hlk : dr_T (.methodLink M.own idx Lib.objectInit)) (hin : dr_T (.instanceMethod Lib.objectInit)) (hco : dr_T (.code Lib.objectInit ⟨#[0xb1]⟩ 1 none)) (hf : 1 ≤ fr) (hw : (st.map fun v => v.category).sum + 12 ≤ wo) (hd : decode M.code pc = .ok (.invokespecial idx, 3)) (k : dr_W M fr wo (pc + 3) l st h Q) : dr_W M fr wo pc l (.ref a :: st) h Q := by
  intro G R s m args below meth c H locs cells slots ls X
  have hR := X.room
  unfold dr_R at hR
  refine W.objInit X.exec X.bytes X.own (X.word hlk) (X.word hin) (X.word hco) rfl (X.lsE.1.trans X.maxL.symm) (a := dr_ad G a) (rest := st.map (dr_tr G)) rfl hd (by omega) ?_ (k G R s m args below meth c H locs cells slots ls X)
  rw [dr_cats]
  show 2 * 0 + _ + 12 ≤ R.locals
  omega
end DRN
/-! ===== ends ===== -/
section DRE
variable {G : dr_Gt} {M : dr_MI} {fr wo pc : Nat} {R : Room} {s : State} {m : MethodId} {args : Array Value} {below : List Frame} {meth : Method} {c : Code} {H : Heap} {locs : List Loc} {cells slots : Nat} {ls : Array Slot} {l : List (Nat × Value)} {h : dr_AH} {Q : dr_RS → dr_AH → Prop}
theorem dr_fin (X : dr_X G M fr wo R s m meth c H locs cells slots ls l h) {v : Option Value} (hq : dr_p (some (.inl v, h)) Q) (t : State) (ht : MQ below (fun _ _ o t => o = .returned (v.map (dr_tr G)) ∧ t.heap = H) args s cells slots (fun q => G.s.heap.size ≤ q) t) : dr_E G R s below Q t := by
  obtain ⟨o, h1, h2, ⟨h3, h4⟩, L, ⟨h5, h6, h7⟩, h8⟩ := ht
  obtain ⟨r, e, hQ⟩ := hq
  cases e
  exact ⟨o, .inl v, h, L, cells, slots, h1, h2, h6, h7, h8, X.cellsE, X.slotsE, by rw [h4]; exact X.heap, h3, hQ⟩
theorem dr_mono {p : Program} {lc : Launch} {e : Env} {Q1 Q2 : State → Prop} {g : JFrame} (hq : ∀ t, Q1 t → Q2 t) (k : W p lc e R s m args below meth c H locs cells slots Q1 g) : W p lc e R s m args below meth c H locs cells slots Q2 g := fun T hT X => by
  obtain ⟨t, a, b⟩ := k T hT X
  exact ⟨t, a, hq t b⟩
end DRE
section DRF
variable {M : dr_MI} {fr wo pc : Nat} {l : List (Nat × Value)} {st : List Value} {h : dr_AH} {Q : dr_RS → dr_AH → Prop}
theorem wp_ireturn {x : Int32} {ty : FieldType} (hr : M.ret = some ty) (hn : narrow ty (.int x) = .int x) (hd : decode M.code pc = .ok (.ireturn, 1)) (hp : dr_p (some (.inl (some (.int x)), h)) Q) : dr_W M fr wo pc l [.int x] h Q := fun G R s m args below meth c H locs cells slots ls X =>
  dr_mono (dr_fin X hp) (W.zret X.exec X.bytes (X.rets.trans hr) hn (fun t ht _ => ⟨rfl, ht⟩) X.locsE hd X.locks)
def dr_rz (x : Int32) (h : dr_AH) : Option (dr_RS × dr_AH) := if x &&& 1 = x then some (.inl (some (.int x)), h) else none
theorem wp_zreturn {x : Int32} (hr : M.ret = some .boolean) (hd : decode M.code pc = .ok (.ireturn, 1)) (hp : dr_p (dr_rz x h) Q) : dr_W M fr wo pc l [.int x] h Q := by
  unfold dr_rz at hp
  by_cases hx : x &&& 1 = x
  · rw [if_pos hx] at hp
    exact wp_ireturn hr (by show Value.int (x &&& 1) = .int x; rw [hx]) hd hp
  · rw [if_neg hx] at hp; exact (dr_p0 hp).elim
theorem wp_lreturn {x : Int64} (hr : M.ret = some .long) (hd : decode M.code pc = .ok (.lreturn, 1)) (hp : dr_p (some (.inl (some (.long x)), h)) Q) : dr_W M fr wo pc l [.long x] h Q := fun G R s m args below meth c H locs cells slots ls X =>
  dr_mono (dr_fin X hp) (W.lret X.exec X.bytes (X.rets.trans hr) (fun t ht _ => ⟨rfl, ht⟩) X.locsE hd X.locks)
theorem wp_return (hr : M.ret = none) (hd : decode M.code pc = .ok (.return_, 1)) (hp : dr_p (some (.inl none, h)) Q) : dr_W M fr wo pc l [] h Q := fun G R s m args below meth c H locs cells slots ls X =>
  dr_mono (dr_fin X hp) (W.vret X.exec X.bytes (X.rets.trans hr) (fun t ht _ => ⟨rfl, ht⟩) X.locsE hd X.locks)
theorem wp_areturn {a : Nat} {rt : FieldType} (hr : M.ret = some rt) (hrt : (∃ n, rt = .object n) ∨ ∃ t, rt = .array t) (hd : decode M.code pc = .ok (.areturn, 1)) (hp : dr_p (some (.inl (some (.ref a)), h)) Q) : dr_W M fr wo pc l [.ref a] h Q := fun G R s m args below meth c H locs cells slots ls X =>
  dr_mono (dr_fin X hp) (W.aret X.exec X.bytes (X.rets.trans hr) hrt (Or.inr ⟨_, rfl⟩) (fun t ht _ => ⟨rfl, ht⟩) X.locsE hd X.locks)
theorem wp_areturnN {rt : FieldType} (hr : M.ret = some rt) (hrt : (∃ n, rt = .object n) ∨ ∃ t, rt = .array t) (hd : decode M.code pc = .ok (.areturn, 1)) (hp : dr_p (some (.inl (some .null), h)) Q) : dr_W M fr wo pc l [.null] h Q := fun G R s m args below meth c H locs cells slots ls X =>
  dr_mono (dr_fin X hp) (W.aret X.exec X.bytes (X.rets.trans hr) hrt (Or.inl rfl) (fun t ht _ => ⟨rfl, ht⟩) X.locsE hd X.locks)
end DRF
end
section
/-! ===== calls ===== -/
/-- the method's code stands in the tables -/
def dr_code (M : dr_MI) : Prop := (M.tab = [] ∧ dr_T (.code M.y M.code M.maxL M.ret)) ∨ dr_T (.codeWith M.y M.code M.maxL M.ret M.tab)
theorem dr_code.at {M : dr_MI} (hc : dr_code M) {G : dr_Gt} {s : State} (K : dr_K G) (hW : G.s.WarmedH s.vm) {mk : MethodId} (hn : s.methodNamed? M.y = some mk) :
    ∃ methk ck, s.vm.method? mk = some methk ∧ methk.code = some ck ∧ ck.code = M.code ∧ ck.maxLocals = M.maxL ∧ methk.sig.returnType = M.ret ∧ methk.locks = false ∧ ck.exceptionTable.toList.map (fun x => (x.startPc, x.endPc, x.handlerPc, x.catchType)) = M.tab ∧ parseMethodDescriptor M.y.desc = some methk.sig := by
  rcases hc with ⟨ht, hc⟩ | hc
  · obtain ⟨methk, ck, h1, h2, h3, h4, h5, h6, h7, h8⟩ := Cond.code_spec (args := #[]) (first := s) (o := none) (idx := []) hn (hc G s #[] K hW)
    refine ⟨methk, ck, h1, h2, h3, h4, h5, h6, ?_, h8⟩
    rw [ht]
    have : ck.exceptionTable = #[] := by simpa using h7
    rw [this]
    rfl
  · obtain ⟨mk', methk, ck, h0, h1, h2, h3, h4, h5, h6, h7, h8⟩ := Cond.codeWith_spec (args := #[]) (first := s) (o := none) (idx := []) (hc G s #[] K hW)
    cases hn.symm.trans h0
    exact ⟨methk, ck, h1, h2, h3, h4, h6, h7, h5, h8⟩
theorem dr_args (G : dr_Gt) : ∀ (vs : List Value) (i : Nat), lv_args i (vs.map (dr_tr G)) = dr_tl G (lv_args i vs) := by
  intro vs
  induction vs with
  | nil => intro i; rfl
  | cons v vs ih =>
    intro i
    simp only [List.map_cons, lv_args, dr_tr_cat, ih]
    rfl
theorem dr_sl_len (G : dr_Gt) (vs : List Value) : (lg_sl (vs.map (dr_tr G))).length = (lg_sl vs).length := by
  induction vs with
  | nil => rfl
  | cons v vs ih =>
    simp only [lg_sl, List.map_cons, List.flatMap_cons, List.length_append, dr_tr_cat] at ih ⊢
    rw [ih]
    congr 1
    by_cases hv : v.category = 2
    · rw [if_pos hv, if_pos hv]; rfl
    · rw [if_neg hv, if_neg hv]; rfl
theorem dr_under {tb : Tables} {e : Env} {g : Frame} {below : List Frame} {s t : State} (h : Steps tb e (g :: below) s t) : Steps tb e below s t := by
  obtain ⟨n, e1, w⟩ := h
  exact ⟨n, e1, fun k hk => Within.weaken (mid := [g]) (w k hk)⟩
section DRG
variable {G : dr_Gt} {M M' : dr_MI} {fr' wo' fr wo pc : Nat} {R : Room} {s : State} {m : MethodId} {args : Array Value} {below : List Frame} {meth : Method} {c : Code} {H : Heap} {locs : List Loc} {cells slots : Nat} {ls : Array Slot} {l : List (Nat × Value)} {h : dr_AH} {Q' : dr_RS → dr_AH → Prop}
/-- into the callee, through it, and out again -/
theorem dr_go (X : dr_X G M fr wo R s m meth c H locs cells slots ls l h) {T₁ : State} (hT : T₁.heap = H) (S : Stand G.p G.l G.e R s m args below meth c T₁ locs cells slots) {mk : MethodId} (hn : s.methodNamed? M'.y = some mk) (hcode : dr_code M') (hpl : plainFor M'.y = true)
    {As st : List Value} {ig : Instr} {len : Nat} (hdg : decode c.code pc = .ok (ig, len)) (hf : fr' + 1 ≤ fr) (hw : (st.map fun v => v.category).sum + (M'.maxL + 11) + wo' ≤ wo) (hAs : (lg_sl As).length ≤ M'.maxL) (k : dr_W M' fr' wo' 0 (lv_args 0 As) [] h Q') :
    (∃ (v : Option Value) (h' : dr_AH) (T' : State) (L : List Loc) (k n : Nat), Q' (.inl v) h' ∧ Stand G.p G.l G.e R s m args below meth c T' (locs ++ L) (cells + k) (slots + n) ∧ dr_X G M fr wo R s m meth c T'.heap (locs ++ L) (cells + k) (slots + n) ls l h' ∧
      ∀ acts, Steps G.p.tables G.e below (doInvoke G.e (T₁.setTop (F0 m pc ls (st.map (dr_tr G)))) acts mk (As.map (dr_tr G)).toArray).1 (T'.setTop (F0 m (pc + len) ls ((v.map (dr_tr G)).toList ++ st.map (dr_tr G))))) ∨
    (∃ (E : String) (q : Nat) (h' : dr_AH) (T' : State) (L : List Loc) (k n : Nat), Q' (.inr (E, q)) h' ∧ Stand G.p G.l G.e R s m args below meth c T' (locs ++ L) (cells + k) (slots + n) ∧ dr_X G M fr wo R s m meth c T'.heap (locs ++ L) (cells + k) (slots + n) ls l h' ∧
      1 ≤ q ∧ q ≤ h'.1 ∧ (∃ ce : Cell, T'.heap[dr_ad G q]? = some ce ∧ ce.vm = .none ∧ G.s.vm.findClass E = some ce.cls) ∧
      ∀ acts, Steps G.p.tables G.e below (doInvoke G.e (T₁.setTop (F0 m pc ls (st.map (dr_tr G)))) acts mk (As.map (dr_tr G)).toArray).1 ((T'.setTop (F0 m pc ls (st.map (dr_tr G)))).pushFrame (.throwing (dr_ad G q)))) := by
  obtain ⟨methk, ck, h1, h2, h3, h4, h5, h6, h7, -⟩ := hcode.at X.1 X.warm hn
  have hal := S.warmed.alike
  have hmk : T₁.vm.method? mk = some methk := by rw [hal.method?]; exact h1
  have hn1 : T₁.methodNamed? M'.y = some mk := S.named hn
  have hpk : T₁.plainMethod mk := State.plainMethod.of_named hpl hn1 hmk
  have hr := X.room
  have hc1 := X.cellsE
  have hs1 := X.slotsE
  have hb1 := X.heap.2.2.2.2.2
  unfold dr_R at hr
  have hcat := dr_cats G st
  obtain ⟨Y, hdo⟩ := S.into (g := F0 m pc ls (st.map (dr_tr G))) rfl (X.lsE.1.trans X.maxL.symm) hdg (mk := mk) (methk := methk) (ck := ck) (As.map (dr_tr G)).toArray
    (R' := { frames := R.frames - 1, cells := R.cells - cells, slots := R.slots - slots, locals := R.locals - ((st.map fun v => v.category).sum + (M'.maxL + 11)) }) hmk h2 h6 hpk (by show R.frames - 1 + 1 ≤ R.frames; omega)
    (by show 2 * 0 + ((st.map (dr_tr G)).map fun v => v.category).sum + (ck.maxLocals + 11) + (R.locals - _) ≤ R.locals; rw [hcat, h4]; omega) (by show cells + (R.cells - cells) ≤ R.cells; omega) (by show slots + (R.slots - slots) ≤ R.slots; omega)
  rw [h4] at hdo Y
  have hls := lv_entry (As.map (dr_tr G)) (n := M'.maxL) (by rw [dr_sl_len]; exact hAs)
  rw [dr_args] at hls
  have hX' : dr_X G M' fr' wo' { frames := R.frames - 1, cells := R.cells - cells, slots := R.slots - slots, locals := R.locals - ((st.map fun v => v.category).sum + (M'.maxL + 11)) } (T₁.calling (F0 m pc ls (st.map (dr_tr G))) mk (As.map (dr_tr G)).toArray) mk methk ck H [] 0 0 _ (lv_args 0 As) h :=
    ⟨X.1, ⟨State.WarmedH.trans X.warm S.warmed, findClass_of_methodNamed hn1, h3, h4, h5, h6, (name_of_methodNamed hn1 hmk).1, h7⟩, ⟨by show fr' ≤ R.frames - 1; omega, by show wo' ≤ R.locals - _; omega⟩, by show R.cells - cells + h.1 = dr_CC + 0; omega, by show R.slots - slots + h.2.1 = dr_SC + 0; omega, (fun q hq => by cases hq), X.heap, hls⟩
  obtain ⟨t, hst, o, r, h', L, kk, n, e1, e2, e3, e4, e5, e6, e7, e8, e9, e10⟩ := k G _ _ mk (As.map (dr_tr G)).toArray (.java (F0 m pc ls (st.map (dr_tr G))) :: below) methk ck H [] 0 0 _ hX' ((T₁.setTop (F0 m pc ls (st.map (dr_tr G)))).pushFrame (.java (entryFrame mk (As.map (dr_tr G)).toArray M'.maxL))) hT Y
  have e6 : R.cells - cells + h'.1 = dr_CC + kk := e6
  have e7 : R.slots - slots + h'.2.1 = dr_SC + n := e7
  have hst := dr_under hst
  have hdo2 : ∀ acts, Steps G.p.tables G.e below (doInvoke G.e (T₁.setTop (F0 m pc ls (st.map (dr_tr G)))) acts mk (As.map (dr_tr G)).toArray).1 t := fun acts => by
    rw [hdo acts]
    have := hst
    rw [show F0 mk 0 _ (List.map (dr_tr G) []) = entryFrame mk (As.map (dr_tr G)).toArray M'.maxL from (lg_entry_eq mk (As.map (dr_tr G)) M'.maxL).symm] at this
    exact this
  have hlocs : ∀ q ∈ locs ++ L, G.s.heap.size ≤ q.base := fun q hq => (List.mem_append.mp hq).elim (X.locsE q) (e5 q)
  cases r with
  | inl v =>
    have e9 : o = .returned (v.map (dr_tr G)) := e9
    subst e9
    obtain ⟨T', f1, f2, f3, f4⟩ := S.outOf (g := F0 m pc ls (st.map (dr_tr G))) rfl hdg e2 e3 e4
    refine Or.inl ⟨v, h', T', L, kk, n, e10, f1, ⟨X.1, X.2.1, X.room, by omega, by omega, hlocs, ?_, X.lsE⟩, fun acts => ?_⟩
    · have : t.heap = T'.heap := by rw [f4]; rfl
      rw [← this]; exact e8
    · have := hdo2 acts
      rw [f4] at this
      exact this
  | inr x =>
    obtain ⟨E, q⟩ := x
    obtain ⟨g1, g2, g3, ce, g4, g5, g6⟩ := e9
    subst g1
    obtain ⟨T', f1, f2, f3, f4⟩ := S.outOfThrown (g := F0 m pc ls (st.map (dr_tr G))) rfl e2 e3 e4
    have hh : t.heap = T'.heap := by rw [f4]; rfl
    refine Or.inr ⟨E, q, h', T', L, kk, n, e10, f1, ⟨X.1, X.2.1, X.room, by omega, by omega, hlocs, ?_, X.lsE⟩, g2, g3, ⟨ce, by rw [← hh]; exact g4, g5, g6⟩, fun acts => ?_⟩
    · rw [← hh]; exact e8
    · have := hdo2 acts
      rw [f4] at this
      exact this
end DRG
/-- the call at pc: the operands stk hold the arguments As over st; the machine comes to the method M' -/
def dr_S (M : dr_MI) (pc : Nat) (M' : dr_MI) (As stk st : List Value) (h : dr_AH) : Prop :=
  ∀ (G : dr_Gt) (fr wo : Nat) (R : Room) (s : State) (m : MethodId) (args : Array Value) (below : List Frame) (meth : Method) (c : Code) (H : Heap) (locs : List Loc) (cells slots : Nat) (ls : Array Slot) (l : List (Nat × Value)) (T : State),
    dr_X G M fr wo R s m meth c H locs cells slots ls l h → T.heap = H → Stand G.p G.l G.e R s m args below meth c T locs cells slots →
    ∃ (vm₁ : Vm) (mk : MethodId) (ig : Instr), Stand G.p G.l G.e R s m args below meth c (T.setVm vm₁) locs cells slots ∧ s.methodNamed? M'.y = some mk ∧ decode c.code pc = .ok (ig, 3) ∧
      ∀ target, (∀ acts, Steps G.p.tables G.e below (doInvoke G.e ((T.setVm vm₁).setTop (F0 m pc ls (st.map (dr_tr G)))) acts mk (As.map (dr_tr G)).toArray).1 target) → Steps G.p.tables G.e below (T.setTop (F0 m pc ls (stk.map (dr_tr G)))) target
section DRC
variable {M M' : dr_MI} {fr' wo' fr wo pc : Nat} {l : List (Nat × Value)} {st stk As : List Value} {h : dr_AH} {Q : dr_RS → dr_AH → Prop} {o : Option (dr_RS × dr_AH)}
theorem wp_call (S : dr_S M pc M' As stk st h) (hcode : dr_code M') (hpl : plainFor M'.y = true) (hf : fr' + 1 ≤ fr) (hw : (st.map fun v => v.category).sum + (M'.maxL + 11) + wo' ≤ wo) (hAs : (lg_sl As).length ≤ M'.maxL) (hc : ∀ Q', dr_p o Q' → dr_W M' fr' wo' 0 (lv_args 0 As) [] h Q') {r0 : dr_RS × dr_AH} (ho : o = some r0)
    (kr : ∀ v h', o = some (.inl v, h') → dr_W M fr wo (pc + 3) l (v.toList ++ st) h' Q) (kx : ∀ E q h', o = some (.inr (E, q), h') → dr_V M fr wo pc l st E q h' Q) : dr_W M fr wo pc l stk h Q := by
  intro G R s m args below meth c H locs cells slots ls X T hT SS
  obtain ⟨vm₁, mk, ig, S1, hn, hdg, hgo⟩ := S G fr wo R s m args below meth c H locs cells slots ls l T X hT SS
  have hk := hc (fun r h' => o = some (r, h')) ⟨r0, ho, ho⟩
  rcases dr_go X (T₁ := T.setVm vm₁) hT S1 hn hcode hpl (st := st) hdg hf hw hAs hk with ⟨v, h', T', L, k, n, e1, e2, e3, e4⟩ | ⟨E, q, h', T', L, k, n, e1, e2, e3, e5, e6, e7, e4⟩
  · obtain ⟨t, a1, b1⟩ := kr v h' e1 G R s m args below meth c T'.heap (locs ++ L) (cells + k) (slots + n) ls e3 T' rfl e2
    refine ⟨t, hgo t fun acts => (e4 acts).trans ?_, b1⟩
    have ev : (v.toList ++ st).map (dr_tr G) = (v.map (dr_tr G)).toList ++ st.map (dr_tr G) := by cases v <;> rfl
    rw [ev] at a1
    exact a1
  · obtain ⟨t, a1, b1⟩ := kx E q h' e1 G R s m args below meth c T'.heap (locs ++ L) (cells + k) (slots + n) ls e3 e5 e6 e7 T' rfl e2
    exact ⟨t, hgo t fun acts => (e4 acts).trans a1, b1⟩
def dr_ci (o : Option (dr_RS × dr_AH)) (K : Int32 → dr_AH → Option (dr_RS × dr_AH)) (X : String → Nat → dr_AH → Option (dr_RS × dr_AH)) : Option (dr_RS × dr_AH) := match o with
  | some (.inl (some (.int x)), h) => K x h
  | some (.inr (E, q), h) => X E q h
  | _ => none
def dr_cv (o : Option (dr_RS × dr_AH)) (K : dr_AH → Option (dr_RS × dr_AH)) (X : String → Nat → dr_AH → Option (dr_RS × dr_AH)) : Option (dr_RS × dr_AH) := match o with
  | some (.inl none, h) => K h
  | some (.inr (E, q), h) => X E q h
  | _ => none
def dr_cr (o : Option (dr_RS × dr_AH)) (K : Nat → dr_AH → Option (dr_RS × dr_AH)) (X : String → Nat → dr_AH → Option (dr_RS × dr_AH)) : Option (dr_RS × dr_AH) := match o with
  | some (.inl (some (.ref a)), h) => K a h
  | some (.inr (E, q), h) => X E q h
  | _ => none
/-- where the exception goes on to the caller -/
def dr_x0 (E : String) (q : Nat) (h : dr_AH) : Option (dr_RS × dr_AH) := some (.inr (E, q), h)
theorem wp_ci {K : Int32 → dr_AH → Option (dr_RS × dr_AH)} {X : String → Nat → dr_AH → Option (dr_RS × dr_AH)} (S : dr_S M pc M' As stk st h) (hcode : dr_code M') (hpl : plainFor M'.y = true) (hf : fr' + 1 ≤ fr) (hw : (st.map fun v => v.category).sum + (M'.maxL + 11) + wo' ≤ wo) (hAs : (lg_sl As).length ≤ M'.maxL) (hc : ∀ Q', dr_p o Q' → dr_W M' fr' wo' 0 (lv_args 0 As) [] h Q') (hp : dr_p (dr_ci o K X) Q)
    (kr : ∀ x h', dr_p (K x h') Q → dr_W M fr wo (pc + 3) l (.int x :: st) h' Q) (kx : ∀ E q h', dr_p (X E q h') Q → dr_V M fr wo pc l st E q h' Q) : dr_W M fr wo pc l stk h Q := by
  cases o with
  | none => exact (dr_p0 hp).elim
  | some r0 =>
    refine wp_call S hcode hpl hf hw hAs hc rfl (fun v h' e => ?_) (fun E q h' e => ?_)
    · cases e
      cases v with
      | none => exact (dr_p0 hp).elim
      | some v => cases v with
        | int x => exact kr x h' hp
        | _ => exact (dr_p0 hp).elim
    · cases e
      exact kx E q h' hp
theorem wp_cv {K : dr_AH → Option (dr_RS × dr_AH)} {X : String → Nat → dr_AH → Option (dr_RS × dr_AH)} (S : dr_S M pc M' As stk st h) (hcode : dr_code M') (hpl : plainFor M'.y = true) (hf : fr' + 1 ≤ fr) (hw : (st.map fun v => v.category).sum + (M'.maxL + 11) + wo' ≤ wo) (hAs : (lg_sl As).length ≤ M'.maxL) (hc : ∀ Q', dr_p o Q' → dr_W M' fr' wo' 0 (lv_args 0 As) [] h Q') (hp : dr_p (dr_cv o K X) Q)
    (kr : ∀ h', dr_p (K h') Q → dr_W M fr wo (pc + 3) l st h' Q) (kx : ∀ E q h', dr_p (X E q h') Q → dr_V M fr wo pc l st E q h' Q) : dr_W M fr wo pc l stk h Q := by
  cases o with
  | none => exact (dr_p0 hp).elim
  | some r0 =>
    refine wp_call S hcode hpl hf hw hAs hc rfl (fun v h' e => ?_) (fun E q h' e => ?_)
    · cases e
      cases v with
      | none => exact kr h' hp
      | some v => exact (dr_p0 hp).elim
    · cases e
      exact kx E q h' hp
theorem wp_cr {K : Nat → dr_AH → Option (dr_RS × dr_AH)} {X : String → Nat → dr_AH → Option (dr_RS × dr_AH)} (S : dr_S M pc M' As stk st h) (hcode : dr_code M') (hpl : plainFor M'.y = true) (hf : fr' + 1 ≤ fr) (hw : (st.map fun v => v.category).sum + (M'.maxL + 11) + wo' ≤ wo) (hAs : (lg_sl As).length ≤ M'.maxL) (hc : ∀ Q', dr_p o Q' → dr_W M' fr' wo' 0 (lv_args 0 As) [] h Q') (hp : dr_p (dr_cr o K X) Q)
    (kr : ∀ x h', dr_p (K x h') Q → dr_W M fr wo (pc + 3) l (.ref x :: st) h' Q) (kx : ∀ E q h', dr_p (X E q h') Q → dr_V M fr wo pc l st E q h' Q) : dr_W M fr wo pc l stk h Q := by
  cases o with
  | none => exact (dr_p0 hp).elim
  | some r0 =>
    refine wp_call S hcode hpl hf hw hAs hc rfl (fun v h' e => ?_) (fun E q h' e => ?_)
    · cases e
      cases v with
      | none => exact (dr_p0 hp).elim
      | some v => cases v with
        | ref x => exact kr x h' hp
        | _ => exact (dr_p0 hp).elim
    · cases e
      exact kx E q h' hp
/-- no row of the table covers pc: the exception leaves the method -/
theorem wx_out {E : String} {q : Nat} (hout : M.tab.all (fun z => !(decide (z.1 ≤ pc) && decide (pc < z.2.1))) = true) (hp : dr_p (dr_x0 E q h) Q) : dr_V M fr wo pc l st E q h Q := by
  intro G R s m args below meth c H locs cells slots ls X h1 h2 h3 T hT S
  have hlocks := X.locks
  have hno : ∀ x ∈ c.exceptionTable.toList, covers x pc = false := by
    intro x hx
    have hm : (x.startPc, x.endPc, x.handlerPc, x.catchType) ∈ M.tab := by
      rw [← X.tab]
      exact List.mem_map.mpr ⟨x, hx, rfl⟩
    have := List.all_eq_true.mp hout _ hm
    rw [Bool.not_eq_true'] at this
    exact this
  obtain ⟨f1, f2, f3, f4, f5⟩ := S.leaveThrown (dr_ad G q) (g := F0 m pc ls (st.map (dr_tr G))) rfl rfl rfl hno
  obtain ⟨r, e, hQ⟩ := hp
  cases e
  refine ⟨_, f1, .threw (dr_ad G q), .inr (E, q), h, locs, cells, slots, f2, f3, f4, f5, X.locsE, X.cellsE, X.slotsE, ?_, ⟨rfl, h1, h2, ?_⟩, hQ⟩
  · show dr_C G h T.heap
    rw [hT]; exact X.heap
  · show ∃ ce : Cell, T.heap[dr_ad G q]? = some ce ∧ _
    rw [hT]; exact h3
theorem dr_len {G : dr_Gt} {R : Room} {s : State} {m : MethodId} {meth : Method} {c : Code} {H : Heap} {locs : List Loc} {cells slots : Nat} {ls : Array Slot} (hco : dr_code M') (X : dr_X G M fr wo R s m meth c H locs cells slots ls l h) {mk : MethodId} {methM : Method} (hn : s.methodNamed? M'.y = some mk) (hm : s.vm.method? mk = some methM)
    {A : List Value} (hlen : (parseMethodDescriptor M'.y.desc).map (fun d => d.parameters.length) = some A.length) : (A.map (dr_tr G)).length = methM.sig.parameters.length := by
  obtain ⟨methk, ck, h1, -, -, -, -, -, -, h8⟩ := hco.at X.1 X.warm hn
  cases hm.symm.trans h1
  rw [h8] at hlen
  rw [List.length_map]
  exact (Option.some.inj hlen).symm
/-! the kinds of calls -/
variable {idx : Nat} {A : List Value} {a : Nat}
theorem dr_sV {ci N : Nat} {C : String} {TT : u_T} {ty : Nat → FieldType} (hCl : dr_Cl ci C TT N ty) (hk : (h.2.2 a).1 = ci) (hlk : dr_T (.methodLink M.own idx M'.y)) (hin : dr_T (.instanceMethod M'.y)) (hsel : dr_T (.selects C M'.y M'.y)) (hco : dr_code M')
    (hy : M'.y.cls ≠ "java/lang/invoke/MethodHandle" ∧ M'.y.cls ≠ "java/lang/invoke/VarHandle") (hlen : (parseMethodDescriptor M'.y.desc).map (fun d => d.parameters.length) = some A.length) (hd : decode M.code pc = .ok (.invokevirtual idx, 3)) (hstk : A.reverse ++ .ref a :: st = stk) : dr_S M pc M' (.ref a :: A) stk st h := by
  intro G fr wo R s m args below meth c H locs cells slots ls l T X hT S
  subst hstk
  obtain ⟨mk, methM, hnamed, hmethM, hstM, habM⟩ := Cond.instanceMethod_spec (X.word hin (a' := args))
  obtain ⟨ha, q, q1, q2, cellB, e1, e2, e3, e4⟩ := X.heap.obj hk hCl.2.1
  have hqe : q = (C, TT, N) := Option.some.inj (q1.symm.trans hCl.1)
  subst hqe
  obtain ⟨c2, r2, m2, p1, p2, p3, p4, kP, hkP, hkPi⟩ := Cond.selects_spec (X.word hsel (a' := args))
  have hcls : s.vm.findClass C = some cellB.cls := by rw [e2]; exact (X.known q1).2.1
  cases hcls.symm.trans p1
  cases (State.methodFound?_of_named hnamed hy).symm.trans p2
  cases hnamed.symm.trans p3
  have hselP : selectMethod G.e.platform s.vm cellB.cls mk = .method mk := by rw [Launch.admits_selectMethod S.admits]; exact p4
  have hobj : ∀ z, cellB.vm ≠ .statics z := fun z h => by rw [e3] at h; cases h
  have hl : (A.map (dr_tr G)).length = methM.sig.parameters.length := dr_len hco X hnamed hmethM hlen
  obtain ⟨vm₁, X₁, hstep₁⟩ := S.invokevirtual X.exec X.own (X.word hlk) hnamed hmethM hstM hkP hkPi hy (a := dr_ad G a) (cell := cellB) (by rw [hT]; exact e1) hobj hselP hmethM habM hkP hkPi
    (g := F0 m pc ls ((A.reverse ++ .ref a :: st).map (dr_tr G))) rfl (argsL := A.map (dr_tr G)) (rest := st.map (dr_tr G)) hl (by simp [dr_tr]) (by rw [X.bytes]; exact hd)
  exact ⟨vm₁, mk, _, X₁, hnamed, by rw [X.bytes]; exact hd, hstep₁⟩
theorem dr_sVN {ci N : Nat} {C host : String} {TT : u_T} {ty : Nat → FieldType} (hCl : dr_Cl ci C TT N ty) (hk : (h.2.2 a).1 = ci) (hlk : dr_T (.methodLinkNest M.own idx M'.y host)) (hin : dr_T (.instanceMethod M'.y)) (hsel : dr_T (.selects C M'.y M'.y)) (hco : dr_code M')
    (hy : M'.y.cls ≠ "java/lang/invoke/MethodHandle" ∧ M'.y.cls ≠ "java/lang/invoke/VarHandle") (hlen : (parseMethodDescriptor M'.y.desc).map (fun d => d.parameters.length) = some A.length) (hd : decode M.code pc = .ok (.invokevirtual idx, 3)) (hstk : A.reverse ++ .ref a :: st = stk) : dr_S M pc M' (.ref a :: A) stk st h := by
  intro G fr wo R s m args below meth c H locs cells slots ls l T X hT S
  subst hstk
  obtain ⟨mk, methM, hnamed, hmethM, hstM, habM⟩ := Cond.instanceMethod_spec (X.word hin (a' := args))
  obtain ⟨ha, q, q1, q2, cellB, e1, e2, e3, e4⟩ := X.heap.obj hk hCl.2.1
  have hqe : q = (C, TT, N) := Option.some.inj (q1.symm.trans hCl.1)
  subst hqe
  obtain ⟨c2, r2, m2, p1, p2, p3, p4, kP, hkP, hkPi⟩ := Cond.selects_spec (X.word hsel (a' := args))
  have hcls : s.vm.findClass C = some cellB.cls := by rw [e2]; exact (X.known q1).2.1
  cases hcls.symm.trans p1
  cases (State.methodFound?_of_named hnamed hy).symm.trans p2
  cases hnamed.symm.trans p3
  have hselP : selectMethod G.e.platform s.vm cellB.cls mk = .method mk := by rw [Launch.admits_selectMethod S.admits]; exact p4
  have hobj : ∀ z, cellB.vm ≠ .statics z := fun z h => by rw [e3] at h; cases h
  have hl : (A.map (dr_tr G)).length = methM.sig.parameters.length := dr_len hco X hnamed hmethM hlen
  obtain ⟨vm₁, X₁, hstep₁⟩ := S.invokevirtualNest X.exec X.own (X.word hlk) hnamed hmethM hstM hkP hkPi hy (a := dr_ad G a) (cell := cellB) (by rw [hT]; exact e1) hobj hselP hmethM habM hkP hkPi
    (g := F0 m pc ls ((A.reverse ++ .ref a :: st).map (dr_tr G))) rfl (argsL := A.map (dr_tr G)) (rest := st.map (dr_tr G)) hl (by simp [dr_tr]) (by rw [X.bytes]; exact hd)
  exact ⟨vm₁, mk, _, X₁, hnamed, by rw [X.bytes]; exact hd, hstep₁⟩
theorem dr_sS (hlk : dr_T (.methodLink M.own idx M'.y)) (hst : dr_T (.static M'.y)) (hini : dr_T (.initialized M'.y.cls)) (hco : dr_code M')
    (hy : M'.y.cls ≠ "java/lang/invoke/MethodHandle" ∧ M'.y.cls ≠ "java/lang/invoke/VarHandle") (hlen : (parseMethodDescriptor M'.y.desc).map (fun d => d.parameters.length) = some A.length) (hd : decode M.code pc = .ok (.invokestatic idx, 3)) (hstk : A.reverse ++ st = stk) : dr_S M pc M' A stk st h := by
  intro G fr wo R s m args below meth c H locs cells slots ls l T X hT S
  subst hstk
  obtain ⟨mk, hnamed⟩ : ∃ mk, s.methodNamed? M'.y = some mk := by
    rcases hco with ⟨-, hc⟩ | hc
    · exact Cond.code_named (X.word hc (a' := args))
    · obtain ⟨mk', _, _, h0, -⟩ := Cond.codeWith_spec (X.word hc (a' := args))
      exact ⟨mk', h0⟩
  obtain ⟨methM, ck, hmethM, -⟩ := hco.at X.1 X.warm hnamed
  have hstatic : methM.isStatic = true := Cond.static_spec hnamed hmethM (X.word hst (a' := args))
  obtain ⟨kP, hkP, -⟩ := className_of_methodNamed hnamed
  have hinitP : kP.init = .initialized := Cond.initialized_spec (findClass_of_methodNamed hnamed) hkP (X.word hini (a' := args))
  have hl : (A.map (dr_tr G)).length = methM.sig.parameters.length := dr_len hco X hnamed hmethM hlen
  obtain ⟨vm₁, X₁, hstep₁⟩ := S.invokestatic X.exec X.own (X.word hlk) hnamed hmethM hstatic hkP hinitP hy (g := F0 m pc ls ((A.reverse ++ st).map (dr_tr G))) rfl (argsL := A.map (dr_tr G)) (rest := st.map (dr_tr G)) hl (by simp) (by rw [X.bytes]; exact hd)
  exact ⟨vm₁, mk, _, X₁, hnamed, by rw [X.bytes]; exact hd, hstep₁⟩
theorem dr_sSN {host : String} (hlk : dr_T (.methodLinkNest M.own idx M'.y host)) (hst : dr_T (.static M'.y)) (hini : dr_T (.initialized M'.y.cls)) (hco : dr_code M')
    (hy : M'.y.cls ≠ "java/lang/invoke/MethodHandle" ∧ M'.y.cls ≠ "java/lang/invoke/VarHandle") (hlen : (parseMethodDescriptor M'.y.desc).map (fun d => d.parameters.length) = some A.length) (hd : decode M.code pc = .ok (.invokestatic idx, 3)) (hstk : A.reverse ++ st = stk) : dr_S M pc M' A stk st h := by
  intro G fr wo R s m args below meth c H locs cells slots ls l T X hT S
  subst hstk
  obtain ⟨mk, hnamed⟩ : ∃ mk, s.methodNamed? M'.y = some mk := by
    rcases hco with ⟨-, hc⟩ | hc
    · exact Cond.code_named (X.word hc (a' := args))
    · obtain ⟨mk', _, _, h0, -⟩ := Cond.codeWith_spec (X.word hc (a' := args))
      exact ⟨mk', h0⟩
  obtain ⟨methM, ck, hmethM, -⟩ := hco.at X.1 X.warm hnamed
  have hstatic : methM.isStatic = true := Cond.static_spec hnamed hmethM (X.word hst (a' := args))
  obtain ⟨kP, hkP, -⟩ := className_of_methodNamed hnamed
  have hinitP : kP.init = .initialized := Cond.initialized_spec (findClass_of_methodNamed hnamed) hkP (X.word hini (a' := args))
  have hl : (A.map (dr_tr G)).length = methM.sig.parameters.length := dr_len hco X hnamed hmethM hlen
  obtain ⟨vm₁, X₁, hstep₁⟩ := S.invokestaticNest X.exec X.own (X.word hlk) hnamed hmethM hstatic hkP hinitP hy (g := F0 m pc ls ((A.reverse ++ st).map (dr_tr G))) rfl (argsL := A.map (dr_tr G)) (rest := st.map (dr_tr G)) hl (by simp) (by rw [X.bytes]; exact hd)
  exact ⟨vm₁, mk, _, X₁, hnamed, by rw [X.bytes]; exact hd, hstep₁⟩
theorem dr_sI (hy1 : M'.y.name = "<init>") (hlk : dr_T (.methodLink M.own idx M'.y)) (hin : dr_T (.instanceMethod M'.y)) (hco : dr_T (.code M'.y M'.code M'.maxL none))
    (hy : M'.y.cls ≠ "java/lang/invoke/MethodHandle" ∧ M'.y.cls ≠ "java/lang/invoke/VarHandle") (hlen : (parseMethodDescriptor M'.y.desc).map (fun d => d.parameters.length) = some A.length) (hd : decode M.code pc = .ok (.invokespecial idx, 3)) (hstk : A.reverse ++ .ref a :: st = stk) : dr_S M pc M' (.ref a :: A) stk st h := by
  intro G fr wo R s m args below meth c H locs cells slots ls l T X hT S
  subst hstk
  have hpl : G.e.platform.magicAccessors = ({} : Platform).magicAccessors := by rw [S.admits.platform]
  have hl : ∀ sig, parseMethodDescriptor M'.y.desc = some sig → (A.map (dr_tr G)).length = sig.parameters.length := fun sig h => by
    rw [h] at hlen
    rw [List.length_map]
    exact (Option.some.inj hlen).symm
  obtain ⟨mk, methM, cM, kP, vm₁, hnamed, hmethM, hcodeM, -, hlocalsM, -, hkP, -, hW₁, hstep₁⟩ := Steps.initColdArgs (e := G.e) S.here X.exec S.warmed hpl X.own hy1 hy (X.word hlk (a' := args)) (X.word hin) (X.word hco)
    (f := F0 m pc ls ((A.reverse ++ .ref a :: st).map (dr_tr G))) rfl (a := dr_ad G a) (argsL := A.map (dr_tr G)) (rest := st.map (dr_tr G)) hl (by simp [dr_tr]) (by rw [X.bytes]; exact hd)
  exact ⟨vm₁, mk, _, S.noted hW₁, hnamed, by rw [X.bytes]; exact hd, hstep₁⟩
theorem dr_sIN {host : String} (hy1 : M'.y.name = "<init>") (hlk : dr_T (.methodLinkNest M.own idx M'.y host)) (hin : dr_T (.instanceMethod M'.y)) (hco : dr_T (.code M'.y M'.code M'.maxL none))
    (hy : M'.y.cls ≠ "java/lang/invoke/MethodHandle" ∧ M'.y.cls ≠ "java/lang/invoke/VarHandle") (hlen : (parseMethodDescriptor M'.y.desc).map (fun d => d.parameters.length) = some A.length) (hd : decode M.code pc = .ok (.invokespecial idx, 3)) (hstk : A.reverse ++ .ref a :: st = stk) : dr_S M pc M' (.ref a :: A) stk st h := by
  intro G fr wo R s m args below meth c H locs cells slots ls l T X hT S
  subst hstk
  have hpl : G.e.platform.magicAccessors = ({} : Platform).magicAccessors := by rw [S.admits.platform]
  have hl : ∀ sig, parseMethodDescriptor M'.y.desc = some sig → (A.map (dr_tr G)).length = sig.parameters.length := fun sig h => by
    rw [h] at hlen
    rw [List.length_map]
    exact (Option.some.inj hlen).symm
  obtain ⟨mk, methM, cM, kP, vm₁, hnamed, hmethM, hcodeM, -, hlocalsM, -, hkP, -, hW₁, hstep₁⟩ := Steps.initColdArgsNest (e := G.e) S.here X.exec S.warmed hpl X.own hy1 hy (X.word hlk (a' := args)) (X.word hin) (X.word hco)
    (f := F0 m pc ls ((A.reverse ++ .ref a :: st).map (dr_tr G))) rfl (a := dr_ad G a) (argsL := A.map (dr_tr G)) (rest := st.map (dr_tr G)) hl (by simp [dr_tr]) (by rw [X.bytes]; exact hd)
  exact ⟨vm₁, mk, _, S.noted hW₁, hnamed, by rw [X.bytes]; exact hd, hstep₁⟩
end DRC
end
section
/-! ===== exceptions ===== -/
/-- a word that holds at the start and in every later state whose old cells are the start's -/
def dr_U (w : Cond) : Prop := ∀ (G : dr_Gt) (U : State) (a' : Array Value), dr_K G → G.s.WarmedH U.vm → (∀ q, q < G.s.heap.size → U.heap[q]? = G.s.heap[q]?) → w.before a' U = true
theorem dr_T.u {w : Cond} (h : dr_T w) : dr_U w := fun G U a' K hW _ => h G U a' K hW
theorem dr_stat {a1 a2 : Array Value} {s U : State} {C n d : String} (hal : s.vm.Alike U.vm) (hh : ∀ q, q < s.heap.size → U.heap[q]? = s.heap[q]?) (h1 : (Cond.laysStatic C n d).before a1 s = true) (h2 : (Cond.isRef (.static C n d)).before a1 s = true) :
    (Cond.laysStatic C n d).before a2 U = true ∧ (Cond.isRef (.static C n d)).before a2 U = true := by
  obtain ⟨c, k, i, f, a, cell, hc, hi, hst, ha, hcell, hs, hcls, hlt, hty⟩ := Cond.laysStatic_spec h1
  obtain ⟨k', hi', hek⟩ := State.fieldFound?_setVm hal hi
  have hi2 : U.fieldFound? C n d = some (c, k', i, f) := by simpa only [State.fieldFound?, State.vm_setVm] using hi'
  have ha' : k'.statics = some a := by rw [hek]; exact ha
  have hlt0 : a < s.heap.size := (Array.getElem?_eq_some_iff.mp hcell).1
  have hcell' : U.heap[a]? = some cell := by rw [hh a hlt0]; exact hcell
  refine ⟨Cond.laysStatic_of (s := U) (by rw [hal.findClass]; exact hc) hi2 hst ha' hcell' hs hcls hlt (by rw [hek]; exact hty), ?_⟩
  simp only [Cond.before, Cond.holds, Cond.value, Term.eval, State.fieldNamed?, hi, hst, ha, hcell, hs, hi2, ha', hcell', Option.bind_eq_bind, Option.bind_some, Option.pure_def, beq_self_eq_true, if_true] at h2 ⊢
  exact h2
section DRB
variable {p : Program} {l : Launch} {e : Env} {R : Room} {s : State} {m : MethodId} {args : Array Value} {below : List Frame} {meth : Method} {c : Code} {T : State} {locs : List Loc} {cells slots : Nat}
/-- the frame at hand, as if its method had been called in this heap: what is older than this moment may be told apart from what is made now -/
theorem dr_base (X : Stand p l e R s m args below meth c T locs cells slots) (hc : cells + 1 ≤ R.cells) (hs : slots + 6 ≤ R.slots) :
    Stand p l e { frames := R.frames, cells := 1, slots := 6, locals := R.locals } ((T.setVm s.vm).setFrames (.invoking m args :: below)) m args below meth c T [] 0 0 := by
  have hcur : (T.setVm s.vm).cur < (T.setVm s.vm).threads.size := State.cur_lt_of_top (s := T.setVm s.vm) X.here.top
  have hF := State.frames_setFrames (s := T.setVm s.vm) (.invoking m args :: below) hcur
  have hheap := X.heapHas hc hs
  have hbook := X.book
  have hroom := X.room
  have hin := State.localsInUse_invoking X.frames X.method X.code
  have hin' : ((T.setVm s.vm).setFrames (.invoking m args :: below)).localsInUse = _ := State.localsInUse_invoking hF (meth := meth) (c := c) X.method X.code
  have hlim : e.platform.stackLimits ((T.setVm s.vm).setFrames (.invoking m args :: below)).me = e.platform.stackLimits s.me := by
    rw [State.stackLimits_setFrames]; exact X.limits
  have hby : ((T.setVm s.vm).setFrames (.invoking m args :: below)).me.stackBytes = s.me.stackBytes := by
    rw [State.stackBytes_setFrames]; exact X.bytes
  have hlen : ((T.setVm s.vm).setFrames (.invoking m args :: below)).frames.length = s.frames.length := by rw [hF, X.frames]
  refine ⟨X.admits, X.cas, X.clock, hF, ?_, X.hears, X.method, X.code, X.here, X.tail, X.warmed, ?_, ?_, ?_⟩
  · unfold State.hasRoom at hroom ⊢
    rw [hlen, hin', hlim, hby, ← hin]
    simp only [Bool.and_eq_true, decide_eq_true_eq] at hroom ⊢
    exact ⟨⟨⟨hroom.1.1.1, hheap.1⟩, hheap.2⟩, hbook⟩
  · rw [hlim]; exact X.limits
  · rw [hby]; exact X.bytes
  · obtain ⟨g₀, hfr⟩ := X.frames_eq
    obtain ⟨t, ht, -⟩ := State.frames_cons hfr
    have hd : T.heap.toList.drop T.heap.size = [] := List.drop_eq_nil_of_le (Nat.le_of_eq Array.length_toList)
    refine ⟨?_, Nat.le_refl _, Nat.le_refl _, ?_, ?_, fun a c9 h9 => ⟨c9, h9, rfl, rfl, fun _ _ => rfl⟩⟩
    · show T.setVm s.vm = { ((T.setVm s.vm).setFrames (.invoking m args :: below)).setFrames (T.setVm s.vm).frames with heap := T.heap, slotsUsed := T.slotsUsed }
      rw [State.setFrames_setFrames, State.setFrames_self (s := T.setVm s.vm) ht]
      rfl
    · show T.slotsUsed = T.slotsUsed + ((T.heap.toList.drop T.heap.size).map (·.slots.size)).sum
      rw [hd]; rfl
    · show ((T.heap.toList.drop T.heap.size).map (·.slots.size)).sum ≤ 0
      rw [hd]; exact Nat.le_refl _
end DRB
def dr_th (h : dr_AH) (E : String) : Option (dr_RS × dr_AH) := if h.1 < dr_CC ∧ h.2.1 + 6 ≤ dr_SC then some (.inr (E, h.1 + 1), dr_push h (200, 6, fun _ => .null)) else none
section DRT
variable {M : dr_MI} {fr wo pc : Nat} {l : List (Nat × Value)} {st : List Value} {h : dr_AH} {Q : dr_RS → dr_AH → Prop}
/-- 'throw new E("text")': new; dup; ldc; invokespecial; athrow -/
theorem wp_throwS {E text : String} {names : List String} {ik is ic : Nat} (hE : Bundle.fit E = true) (hnm : ∀ n ∈ names, Bundle.fit n = true) (hk : dr_T (.classLink M.own ik E)) (hini : dr_T (.initialized E)) (hs : dr_T (.stringRef M.own is text)) (hat : ∀ w ∈ Bundle.ownAtoms M.own ic E names, dr_U w)
    (d0 : decode M.code pc = .ok (.new ik, 3)) (d3 : decode M.code (pc + 3) = .ok (.dup, 1)) (d4 : decode M.code (pc + 4) = .ok (.ldc is, 2)) (d6 : decode M.code (pc + 6) = .ok (.invokespecial ic, 3)) (d9 : decode M.code (pc + 9) = .ok (.athrow, 1))
    (hout : M.tab.all (fun z => !(decide (z.1 ≤ pc + 9) && decide (pc + 9 < z.2.1))) = true) (hn : names.length + 3 < fr) (hw : (st.map fun v => v.category).sum + (13 * (names.length + 1) + 43) ≤ wo) (hp : dr_p (dr_th h E) Q) : dr_W M fr wo pc l st h Q := by
  unfold dr_th at hp
  by_cases hr : h.1 < dr_CC ∧ h.2.1 + 6 ≤ dr_SC
  case neg => rw [if_neg hr] at hp; exact (dr_p0 hp).elim
  rw [if_pos hr] at hp
  intro G R s m args below meth c H locs cells slots ls X T hT S
  have hlocks := X.locks
  have htr : G.e.platform.stackTraces = false := (show G.e.platform.stackTraces = G.l.stackTraces by rw [S.admits.platform]).trans X.1.2.2.2.2.1
  have h1 := X.cellsE
  have h2 := X.slotsE
  have h3 := X.heap.2.2.2.2.2
  have hR := X.room
  unfold dr_R at hR
  have hz := X.heap.1
  have B := dr_base S (by omega) (by omega)
  obtain ⟨sb, hsb⟩ : ∃ z, z = (T.setVm s.vm).setFrames (.invoking m args :: below) := ⟨_, rfl⟩
  rw [← hsb] at B
  have hvm : sb.vm = s.vm := by rw [hsb]; rfl
  have hheap : sb.heap = H := by rw [hsb]; exact hT
  have hWs : G.s.WarmedH sb.vm := by rw [hvm]; exact X.warm
  have hown : sb.vm.findClass M.own = some m.cls := by rw [hvm]; exact X.own
  have hold : ∀ q, q < G.s.heap.size → sb.heap[q]? = G.s.heap[q]? := by rw [hheap]; exact X.heap.2.1
  have hno : ∀ x ∈ c.exceptionTable.toList, covers x (pc + 9) = false := by
    intro x hx
    have hm : (x.startPc, x.endPc, x.handlerPc, x.catchType) ∈ M.tab := by
      rw [← X.tab]
      exact List.mem_map.mpr ⟨x, hx, rfl⟩
    have := List.all_eq_true.mp hout _ hm
    rw [Bool.not_eq_true'] at this
    exact this
  have hTs : T.heap.size = H.size := by rw [hT]
  obtain ⟨vm₁, cX, kX, hfX, hkX, -, -, X₁, st1⟩ := B.newCold X.exec (own := M.own) (C := E) (index := ik) (n := 6) hown (hk G sb args X.1 hWs) (hat (.instantiable E 6) (by simp [Bundle.ownAtoms]) G sb args X.1 hWs hold) (hini G sb args X.1 hWs)
    (g := F0 m pc ls (st.map (dr_tr G))) rfl (by rw [X.bytes]; exact d0) (Nat.le_refl 1) (Nat.le_refl 6)
  generalize hT1 : (T.setVm vm₁).pushCell { cls := cX, slots := kX.instanceTypes.map defaultValue, vm := .none } = T1 at X₁ st1
  have hcellA : T1.heap[T.heap.size]? = some (freshCell cX kX) := by rw [← hT1]; exact State.heap_pushCell_size _ _
  obtain ⟨-, -, -, sa, -, -, -, -, -, hev⟩ := Cond.stringRef_spec hown (hs G sb args X.1 hWs)
  obtain ⟨U, hsteps, hrun, hend, hW, hsame, ce, hce, hO⟩ := X₁.ctorThrowS X.exec htr (own := M.own) (cls := E) (names := names) (ic := ic) hown hE hnm (fun a ha => hat a ha G sb args X.1 hWs hold) (fun x hx => by cases hx) hfX hkX hcellA (by rw [hheap, hTs]; exact Nat.le_refl _) (msg := .ref sa) rfl
    (g := { method := m, pc := pc + 6, locals := ls, stack := .ref sa :: .ref T.heap.size :: .ref T.heap.size :: st.map (dr_tr G), locked := none }) rfl (X.lsE.1.trans X.maxL.symm) rfl rfl (rest := st.map (dr_tr G)) rfl
    (by rw [X.bytes]; exact d6) (by rw [X.bytes]; exact d9) hno (by show names.length + 3 < R.frames; omega)
    (by
      have hcat := dr_cats G st
      show 2 * 0 + (1 + ((st.map (dr_tr G)).map fun v => v.category).sum) + (13 * (names.length + 1) + 42) ≤ R.locals
      rw [hcat]
      omega)
  have ead : dr_ad G (h.1 + 1) = T.heap.size := by rw [hTs, hz]; rfl
  have hW2 : s.WarmedH U.vm := by rw [hsb] at hW; exact hW
  obtain ⟨q1, q2, q3, q4, q5, q6⟩ := id hsame
  have q2 : sb.heap.size ≤ U.heap.size := q2
  have q3 : U.heap.size ≤ sb.heap.size + 1 := q3
  have hlt : T.heap.size < U.heap.size := (Array.getElem?_eq_some_iff.mp hce).1
  have hsz : U.heap.size = H.size + 1 := by rw [hheap] at q3; omega
  have hkeep : ∀ q, q < H.size → U.heap[q]? = H[q]? := by
    intro q hq
    obtain ⟨c0, hc0⟩ : ∃ c0, H[q]? = some c0 := ⟨_, Array.getElem?_eq_getElem hq⟩
    obtain ⟨c', g1, g2, g3, g4⟩ := q6 q c0 (by rw [hheap]; exact hc0)
    have g1 : U.heap[q]? = some c' := g1
    rw [g1, hc0]
    congr 1
    have : c'.slots = c0.slots := by
      apply Array.ext'
      apply List.ext_getElem?
      intro i
      have := g4 i (by simp)
      simpa using this
    rw [g2, this]
  have hsm : s.sameButNew ({ U with vm := s.vm } : State) locs (cells + 1) (slots + 6) := by
    have hm : (T.setVm s.vm).sameButNew ({ U with vm := s.vm } : State) [] 1 6 := by
      rw [hsb] at q1 q2 q3 q4 q5 q6
      refine ⟨?_, q2, q3, q4, q5, q6⟩
      rw [State.setFrames_setFrames] at q1
      exact q1
    have := S.same.trans hm
    rwa [List.append_nil] at this
  obtain ⟨r, e, hQ⟩ := hp
  cases e
  refine ⟨U, st1 _ ?_, .threw T.heap.size, .inr (E, h.1 + 1), dr_push h (200, 6, fun _ => .null), locs, cells + 1, slots + 6, hrun, hend, hW2, hsm, X.locsE, by simp only [dr_push]; omega, by simp only [dr_push]; omega, X.heap.push X.bs hsz hkeep ⟨fun z => ?_, fun _ z => ?_⟩ hr, ⟨by rw [ead], by omega, by simp only [dr_push]; omega, ce, by rw [ead]; exact hce, hO.vm, ?_⟩, hQ⟩
  · show Steps G.p.tables G.e below (T1.setTop { method := m, pc := pc + 3, locals := ls, stack := .ref T.heap.size :: st.map (dr_tr G), locked := none }) _
    have d3' : decode c.code (pc + 3) = .ok (.dup, 1) := by rw [X.bytes]; exact d3
    jvm_step X₁.here [X₁.here.top, X.exec, d3', Value.category]
    exact X₁.ldcString X.exec (own := M.own) (text := text) (index := is) (a := sa) hown (hs G sb args X.1 hWs) hev
      (g := { method := m, pc := pc + 4, locals := ls, stack := .ref T.heap.size :: .ref T.heap.size :: st.map (dr_tr G), locked := none }) rfl (by rw [X.bytes]; exact d4) _ hsteps
  · exfalso
    have z : 200 < 100 := z
    omega
  · exfalso
    have z : 200 < 200 := z
    omega
  · have := hO.cls
    rw [hvm, X.warm.alike.findClass] at this
    exact this
end DRT
end
