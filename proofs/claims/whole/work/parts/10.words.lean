/-! ===== the tables' words, by program (wip/whole/gen/words.py) ===== -/
theorem dr_Ts {own tx : String} {k : Nat} (hi : Cond.stringRef own k tx ∈ lw_tbl) : dr_T (.stringRef own k tx) := fun G s a' K hW => by
  have h := Cond.stringRef_warmed hW (K.2.1 _ hi)
  exact h
theorem dr_Tm {own : String} {k : Nat} {y : MethodName} {host : String} (hi : Cond.methodLinkNest own k y host ∈ lw_tbl) : dr_T (.methodLinkNest own k y host) := fun G s a' K hW => by
  have h := Cond.methodLinkNest_warmed hW (K.2.1 _ hi)
  exact h
theorem dr_To {t : FieldType} (hi : Cond.arrayOver t ∈ lw_tbl) : dr_T (.arrayOver t) := fun G s a' K hW => by
  have h := K.2.1 _ hi
  rw [← Cond.arrayOver_setVmC hW.alike] at h
  exact h
theorem dr_Tf {w : Cond} (hi : w ∈ lw_tbl) (hg : (w.onTables && w.keepsFace) = true) : dr_T w := fun G s a' K hW => by
  rw [Bool.and_eq_true] at hg
  have h1 : w.before #[Value.ref G.b] (G.s.setVm s.vm) = true := Cond.before_shiftedFace (State.Shifted.of_warmed hW) w hg.2 (K.2.1 w hi)
  exact va_tabs hg.1 (rfl : (G.s.setVm s.vm).vm = s.vm) h1
theorem tw_0 : dr_T (Jvm.Cond.initialized "DrillRowsLaw") := dr_Tg (List.mem_of_getElem? (i := 35) (by decide +kernel)) (Or.inl (by decide +kernel))
theorem tw_1 : dr_T (Jvm.Cond.initialized "DrillRows") := dr_Tg (List.mem_of_getElem? (i := 36) (by decide +kernel)) (Or.inl (by decide +kernel))
theorem tw_2 : dr_T (Jvm.Cond.initialized "DrillRows$Tape") := dr_Tg (List.mem_of_getElem? (i := 37) (by decide +kernel)) (Or.inl (by decide +kernel))
theorem tw_3 : dr_T (Jvm.Cond.initialized "DrillRows$Script") := dr_Tg (List.mem_of_getElem? (i := 38) (by decide +kernel)) (Or.inl (by decide +kernel))
theorem tw_4 : dr_T (Jvm.Cond.initialized "java/util/Arrays") := dr_Tg (List.mem_of_getElem? (i := 39) (by decide +kernel)) (Or.inl (by decide +kernel))
theorem tw_5 : dr_T (Jvm.Cond.initialized "DrillRowsModel") := dr_Tg (List.mem_of_getElem? (i := 40) (by decide +kernel)) (Or.inl (by decide +kernel))
theorem tw_6 : dr_T (Jvm.Cond.initialized "java/lang/Throwable") := dr_Tg (List.mem_of_getElem? (i := 41) (by decide +kernel)) (Or.inl (by decide +kernel))
theorem tw_7 : dr_T (Jvm.Cond.initialized "java/lang/Exception") := dr_Tg (List.mem_of_getElem? (i := 42) (by decide +kernel)) (Or.inl (by decide +kernel))
theorem tw_8 : dr_T (Jvm.Cond.initialized "java/lang/RuntimeException") := dr_Tg (List.mem_of_getElem? (i := 43) (by decide +kernel)) (Or.inl (by decide +kernel))
theorem tw_9 : dr_T (Jvm.Cond.initialized "java/lang/IndexOutOfBoundsException") := dr_Tg (List.mem_of_getElem? (i := 44) (by decide +kernel)) (Or.inl (by decide +kernel))
theorem tw_10 : dr_T (Jvm.Cond.initialized "java/lang/UnsupportedOperationException") := dr_Tg (List.mem_of_getElem? (i := 45) (by decide +kernel)) (Or.inl (by decide +kernel))
theorem tw_11 : dr_T (Jvm.Cond.initialized "java/lang/IllegalStateException") := dr_Tg (List.mem_of_getElem? (i := 46) (by decide +kernel)) (Or.inl (by decide +kernel))
theorem tw_12 : dr_T (Jvm.Cond.initialized "DrillRows$Drill") := dr_Tg (List.mem_of_getElem? (i := 47) (by decide +kernel)) (Or.inl (by decide +kernel))
theorem tw_13 : dr_T (Jvm.Cond.initialized "java/lang/Math") := dr_Tg (List.mem_of_getElem? (i := 48) (by decide +kernel)) (Or.inl (by decide +kernel))
theorem tw_14 : dr_T (Jvm.Cond.initialized "java/lang/IllegalArgumentException") := dr_Tg (List.mem_of_getElem? (i := 49) (by decide +kernel)) (Or.inl (by decide +kernel))
theorem tw_15 : dr_T (Jvm.Cond.initialized "java/lang/ArithmeticException") := dr_Tg (List.mem_of_getElem? (i := 50) (by decide +kernel)) (Or.inl (by decide +kernel))
theorem tw_16 : dr_T (Jvm.Cond.classLink "DrillRowsLaw" (8 : Nat) "DrillRows") := dr_Tg (List.mem_of_getElem? (i := 51) (by decide +kernel)) (Or.inl (by decide +kernel))
theorem tw_17 : dr_T (Jvm.Cond.instantiable "DrillRows" (10 : Nat)) := dr_Tg (List.mem_of_getElem? (i := 52) (by decide +kernel)) (Or.inl (by decide +kernel))
theorem tw_18 : dr_T (Jvm.Cond.methodLink "DrillRowsLaw" (81 : Nat) ({ cls := "DrillRows", name := "<init>", desc := "()V" } : Jvm.MethodName)) := dr_Tg (List.mem_of_getElem? (i := 53) (by decide +kernel)) (Or.inl (by decide +kernel))
theorem tw_19 : dr_T (Jvm.Cond.instanceMethod ({ cls := "DrillRows", name := "<init>", desc := "()V" } : Jvm.MethodName)) := dr_Tg (List.mem_of_getElem? (i := 54) (by decide +kernel)) (Or.inl (by decide +kernel))
theorem tw_20 : dr_T (Jvm.Cond.code ({ cls := "DrillRows", name := "<init>", desc := "()V" } : Jvm.MethodName) prog_1_method_1_code (1 : Nat) (Option.none : Option Jvm.ClassFile.FieldType)) := dr_Tg (List.mem_of_getElem? (i := 55) (by decide +kernel)) (Or.inl (by decide +kernel))
theorem tw_21 : dr_T (Jvm.Cond.methodLink "DrillRows" (1 : Nat) ({ cls := "java/lang/Object", name := "<init>", desc := "()V" } : Jvm.MethodName)) := dr_Tg (List.mem_of_getElem? (i := 56) (by decide +kernel)) (Or.inl (by decide +kernel))
theorem tw_22 : dr_T (Jvm.Cond.instanceMethod ({ cls := "java/lang/Object", name := "<init>", desc := "()V" } : Jvm.MethodName)) := dr_Tg (List.mem_of_getElem? (i := 57) (by decide +kernel)) (Or.inl (by decide +kernel))
theorem tw_23 : dr_T (Jvm.Cond.code ({ cls := "java/lang/Object", name := "<init>", desc := "()V" } : Jvm.MethodName) object_method_1_code (1 : Nat) (Option.none : Option Jvm.ClassFile.FieldType)) := dr_Tg (List.mem_of_getElem? (i := 58) (by decide +kernel)) (Or.inl (by decide +kernel))
theorem tw_24 : dr_T (Jvm.Cond.classLink "DrillRows" (7 : Nat) "DrillRows$Tape") := dr_Tg (List.mem_of_getElem? (i := 59) (by decide +kernel)) (Or.inl (by decide +kernel))
theorem tw_25 : dr_T (Jvm.Cond.instantiable "DrillRows$Tape" (4 : Nat)) := dr_Tg (List.mem_of_getElem? (i := 60) (by decide +kernel)) (Or.inl (by decide +kernel))
theorem tw_26 : dr_T (Jvm.Cond.methodLinkNest "DrillRows" (9 : Nat) ({ cls := "DrillRows$Tape", name := "<init>", desc := "()V" } : Jvm.MethodName) "DrillRows") := dr_Tm (List.mem_of_getElem? (i := 61) (by decide +kernel))
theorem tw_27 : dr_T (Jvm.Cond.instanceMethod ({ cls := "DrillRows$Tape", name := "<init>", desc := "()V" } : Jvm.MethodName)) := dr_Tg (List.mem_of_getElem? (i := 62) (by decide +kernel)) (Or.inl (by decide +kernel))
theorem tw_28 : dr_T (Jvm.Cond.code ({ cls := "DrillRows$Tape", name := "<init>", desc := "()V" } : Jvm.MethodName) prog_4_method_1_code (1 : Nat) (Option.none : Option Jvm.ClassFile.FieldType)) := dr_Tg (List.mem_of_getElem? (i := 63) (by decide +kernel)) (Or.inl (by decide +kernel))
theorem tw_29 : dr_T (Jvm.Cond.methodLink "DrillRows$Tape" (3 : Nat) ({ cls := "java/lang/Object", name := "<init>", desc := "()V" } : Jvm.MethodName)) := dr_Tg (List.mem_of_getElem? (i := 64) (by decide +kernel)) (Or.inl (by decide +kernel))
theorem tw_30 : dr_T (Jvm.Cond.fieldLink "DrillRows$Tape" (9 : Nat) "DrillRows$Tape" "bytes" "[I") := dr_Tg (List.mem_of_getElem? (i := 65) (by decide +kernel)) (Or.inl (by decide +kernel))
theorem tw_31 : dr_T (Jvm.Cond.fieldLink "DrillRows$Tape" (15 : Nat) "DrillRows$Tape" "length" "I") := dr_Tg (List.mem_of_getElem? (i := 66) (by decide +kernel)) (Or.inl (by decide +kernel))
theorem tw_32 : dr_T (Jvm.Cond.fieldLink "DrillRows$Tape" (19 : Nat) "DrillRows$Tape" "at" "I") := dr_Tg (List.mem_of_getElem? (i := 67) (by decide +kernel)) (Or.inl (by decide +kernel))
theorem tw_33 : dr_T (Jvm.Cond.fieldLink "DrillRows$Tape" (22 : Nat) "DrillRows$Tape" "wrongAt" "I") := dr_Tg (List.mem_of_getElem? (i := 68) (by decide +kernel)) (Or.inl (by decide +kernel))
theorem tw_43 : dr_T (Jvm.Cond.arrayClass Jvm.ClassFile.FieldType.int) := dr_Tg (List.mem_of_getElem? (i := 78) (by decide +kernel)) (Or.inr ⟨_, rfl⟩)
theorem tw_44 : dr_T (Jvm.Cond.classLink "DrillRows" (16 : Nat) "DrillRows$Script") := dr_Tg (List.mem_of_getElem? (i := 79) (by decide +kernel)) (Or.inl (by decide +kernel))
theorem tw_45 : dr_T (Jvm.Cond.instantiable "DrillRows$Script" (13 : Nat)) := dr_Tg (List.mem_of_getElem? (i := 80) (by decide +kernel)) (Or.inl (by decide +kernel))
theorem tw_46 : dr_T (Jvm.Cond.methodLinkNest "DrillRows" (18 : Nat) ({ cls := "DrillRows$Script", name := "<init>", desc := "()V" } : Jvm.MethodName) "DrillRows") := dr_Tm (List.mem_of_getElem? (i := 81) (by decide +kernel))
theorem tw_47 : dr_T (Jvm.Cond.instanceMethod ({ cls := "DrillRows$Script", name := "<init>", desc := "()V" } : Jvm.MethodName)) := dr_Tg (List.mem_of_getElem? (i := 82) (by decide +kernel)) (Or.inl (by decide +kernel))
theorem tw_48 : dr_T (Jvm.Cond.code ({ cls := "DrillRows$Script", name := "<init>", desc := "()V" } : Jvm.MethodName) prog_3_method_1_code (1 : Nat) (Option.none : Option Jvm.ClassFile.FieldType)) := dr_Tg (List.mem_of_getElem? (i := 83) (by decide +kernel)) (Or.inl (by decide +kernel))
theorem tw_49 : dr_T (Jvm.Cond.methodLink "DrillRows$Script" (3 : Nat) ({ cls := "java/lang/Object", name := "<init>", desc := "()V" } : Jvm.MethodName)) := dr_Tg (List.mem_of_getElem? (i := 84) (by decide +kernel)) (Or.inl (by decide +kernel))
theorem tw_50 : dr_T (Jvm.Cond.fieldLink "DrillRows$Script" (9 : Nat) "DrillRows$Script" "eventTold" "[Z") := dr_Tg (List.mem_of_getElem? (i := 85) (by decide +kernel)) (Or.inl (by decide +kernel))
theorem tw_51 : dr_T (Jvm.Cond.fieldLink "DrillRows$Script" (15 : Nat) "DrillRows$Script" "eventAct" "[I") := dr_Tg (List.mem_of_getElem? (i := 86) (by decide +kernel)) (Or.inl (by decide +kernel))
theorem tw_52 : dr_T (Jvm.Cond.fieldLink "DrillRows$Drill" (64 : Nat) "DrillRows$Script" "eventAct" "[I") := dr_Tg (List.mem_of_getElem? (i := 87) (by decide +kernel)) (Or.inl (by decide +kernel))
theorem tw_53 : dr_T (Jvm.Cond.fieldLink "DrillRows$Script" (19 : Nat) "DrillRows$Script" "eventDelay" "[I") := dr_Tg (List.mem_of_getElem? (i := 88) (by decide +kernel)) (Or.inl (by decide +kernel))
theorem tw_54 : dr_T (Jvm.Cond.fieldLink "DrillRows$Drill" (70 : Nat) "DrillRows$Script" "eventDelay" "[I") := dr_Tg (List.mem_of_getElem? (i := 89) (by decide +kernel)) (Or.inl (by decide +kernel))
theorem tw_55 : dr_T (Jvm.Cond.fieldLink "DrillRows$Script" (22 : Nat) "DrillRows$Script" "eventLatest" "[I") := dr_Tg (List.mem_of_getElem? (i := 90) (by decide +kernel)) (Or.inl (by decide +kernel))
theorem tw_56 : dr_T (Jvm.Cond.fieldLink "DrillRows$Drill" (61 : Nat) "DrillRows$Script" "eventLatest" "[I") := dr_Tg (List.mem_of_getElem? (i := 91) (by decide +kernel)) (Or.inl (by decide +kernel))
theorem tw_57 : dr_T (Jvm.Cond.fieldLink "DrillRows$Script" (25 : Nat) "DrillRows$Script" "eventPart" "[I") := dr_Tg (List.mem_of_getElem? (i := 92) (by decide +kernel)) (Or.inl (by decide +kernel))
theorem tw_58 : dr_T (Jvm.Cond.fieldLink "DrillRows$Drill" (87 : Nat) "DrillRows$Script" "eventPart" "[I") := dr_Tg (List.mem_of_getElem? (i := 93) (by decide +kernel)) (Or.inl (by decide +kernel))
theorem tw_59 : dr_T (Jvm.Cond.fieldLink "DrillRows" (145 : Nat) "DrillRows$Script" "eventPart" "[I") := dr_Tg (List.mem_of_getElem? (i := 94) (by decide +kernel)) (Or.inl (by decide +kernel))
theorem tw_60 : dr_T (Jvm.Cond.fieldLink "DrillRows$Script" (28 : Nat) "DrillRows$Script" "eventSecret" "[Z") := dr_Tg (List.mem_of_getElem? (i := 95) (by decide +kernel)) (Or.inl (by decide +kernel))
theorem tw_61 : dr_T (Jvm.Cond.fieldLink "DrillRows$Drill" (83 : Nat) "DrillRows$Script" "eventSecret" "[Z") := dr_Tg (List.mem_of_getElem? (i := 96) (by decide +kernel)) (Or.inl (by decide +kernel))
theorem tw_62 : dr_T (Jvm.Cond.fieldLink "DrillRows" (148 : Nat) "DrillRows$Script" "eventSecret" "[Z") := dr_Tg (List.mem_of_getElem? (i := 97) (by decide +kernel)) (Or.inl (by decide +kernel))
theorem tw_63 : dr_T (Jvm.Cond.fieldLink "DrillRows$Script" (31 : Nat) "DrillRows$Script" "eventFault" "[I") := dr_Tg (List.mem_of_getElem? (i := 98) (by decide +kernel)) (Or.inl (by decide +kernel))
theorem tw_64 : dr_T (Jvm.Cond.fieldLink "DrillRows$Drill" (90 : Nat) "DrillRows$Script" "eventFault" "[I") := dr_Tg (List.mem_of_getElem? (i := 99) (by decide +kernel)) (Or.inl (by decide +kernel))
theorem tw_65 : dr_T (Jvm.Cond.fieldLink "DrillRows" (152 : Nat) "DrillRows$Script" "eventFault" "[I") := dr_Tg (List.mem_of_getElem? (i := 100) (by decide +kernel)) (Or.inl (by decide +kernel))
theorem tw_66 : dr_T (Jvm.Cond.fieldLink "DrillRows$Script" (34 : Nat) "DrillRows$Script" "eventCount" "I") := dr_Tg (List.mem_of_getElem? (i := 101) (by decide +kernel)) (Or.inl (by decide +kernel))
theorem tw_67 : dr_T (Jvm.Cond.fieldLink "DrillRows" (91 : Nat) "DrillRows$Script" "eventCount" "I") := dr_Tg (List.mem_of_getElem? (i := 102) (by decide +kernel)) (Or.inl (by decide +kernel))
theorem tw_68 : dr_T (Jvm.Cond.fieldLink "DrillRows$Script" (38 : Nat) "DrillRows$Script" "aimEvent" "[I") := dr_Tg (List.mem_of_getElem? (i := 103) (by decide +kernel)) (Or.inl (by decide +kernel))
theorem tw_69 : dr_T (Jvm.Cond.fieldLink "DrillRows$Drill" (96 : Nat) "DrillRows$Script" "aimEvent" "[I") := dr_Tg (List.mem_of_getElem? (i := 104) (by decide +kernel)) (Or.inl (by decide +kernel))
theorem tw_70 : dr_T (Jvm.Cond.fieldLink "DrillRows$Script" (41 : Nat) "DrillRows$Script" "aimAct" "[I") := dr_Tg (List.mem_of_getElem? (i := 105) (by decide +kernel)) (Or.inl (by decide +kernel))
theorem tw_71 : dr_T (Jvm.Cond.fieldLink "DrillRows$Drill" (105 : Nat) "DrillRows$Script" "aimAct" "[I") := dr_Tg (List.mem_of_getElem? (i := 106) (by decide +kernel)) (Or.inl (by decide +kernel))
theorem tw_72 : dr_T (Jvm.Cond.fieldLink "DrillRows$Script" (44 : Nat) "DrillRows$Script" "aimSeconds" "[I") := dr_Tg (List.mem_of_getElem? (i := 107) (by decide +kernel)) (Or.inl (by decide +kernel))
theorem tw_73 : dr_T (Jvm.Cond.fieldLink "DrillRows$Drill" (102 : Nat) "DrillRows$Script" "aimSeconds" "[I") := dr_Tg (List.mem_of_getElem? (i := 108) (by decide +kernel)) (Or.inl (by decide +kernel))
theorem tw_74 : dr_T (Jvm.Cond.fieldLink "DrillRows$Script" (47 : Nat) "DrillRows$Script" "aimWeight" "[I") := dr_Tg (List.mem_of_getElem? (i := 109) (by decide +kernel)) (Or.inl (by decide +kernel))
theorem tw_75 : dr_T (Jvm.Cond.fieldLink "DrillRows$Drill" (115 : Nat) "DrillRows$Script" "aimWeight" "[I") := dr_Tg (List.mem_of_getElem? (i := 110) (by decide +kernel)) (Or.inl (by decide +kernel))
theorem tw_76 : dr_T (Jvm.Cond.fieldLink "DrillRows$Script" (50 : Nat) "DrillRows$Script" "played" "Z") := dr_Tg (List.mem_of_getElem? (i := 111) (by decide +kernel)) (Or.inl (by decide +kernel))
theorem tw_77 : dr_T (Jvm.Cond.fieldLink "DrillRows" (87 : Nat) "DrillRows$Script" "played" "Z") := dr_Tg (List.mem_of_getElem? (i := 112) (by decide +kernel)) (Or.inl (by decide +kernel))
theorem tw_105 : dr_T (Jvm.Cond.arrayClass Jvm.ClassFile.FieldType.boolean) := dr_Tg (List.mem_of_getElem? (i := 140) (by decide +kernel)) (Or.inr ⟨_, rfl⟩)
theorem tw_106 : dr_T (Jvm.Cond.classLink "DrillRows" (33 : Nat) "DrillRows$Drill") := dr_Tg (List.mem_of_getElem? (i := 141) (by decide +kernel)) (Or.inl (by decide +kernel))
theorem tw_107 : dr_T (Jvm.Cond.arrayOver (Jvm.ClassFile.FieldType.object "DrillRows$Drill")) := dr_To (List.mem_of_getElem? (i := 142) (by decide +kernel))
theorem tw_108 : dr_T (Jvm.Cond.methodLink "DrillRows" (52 : Nat) ({ cls := "java/util/Arrays", name := "fill", desc := "([II)V" } : Jvm.MethodName)) := dr_Tg (List.mem_of_getElem? (i := 143) (by decide +kernel)) (Or.inl (by decide +kernel))
theorem tw_109 : dr_T (Jvm.Cond.static ({ cls := "java/util/Arrays", name := "fill", desc := "([II)V" } : Jvm.MethodName)) := dr_Tg (List.mem_of_getElem? (i := 144) (by decide +kernel)) (Or.inl (by decide +kernel))
theorem tw_110 : dr_T (Jvm.Cond.code ({ cls := "java/util/Arrays", name := "fill", desc := "([II)V" } : Jvm.MethodName) prog_17_method_103_code (4 : Nat) (Option.none : Option Jvm.ClassFile.FieldType)) := dr_Tg (List.mem_of_getElem? (i := 145) (by decide +kernel)) (Or.inl (by decide +kernel))
theorem tw_111 : dr_T (Jvm.Cond.fieldLink "DrillRows" (10 : Nat) "DrillRows" "tape" "LDrillRows$Tape;") := dr_Tg (List.mem_of_getElem? (i := 146) (by decide +kernel)) (Or.inl (by decide +kernel))
theorem tw_112 : dr_T (Jvm.Cond.fieldLink "DrillRows" (19 : Nat) "DrillRows" "script" "LDrillRows$Script;") := dr_Tg (List.mem_of_getElem? (i := 147) (by decide +kernel)) (Or.inl (by decide +kernel))
theorem tw_113 : dr_T (Jvm.Cond.fieldLink "DrillRows" (23 : Nat) "DrillRows" "spare" "LDrillRows$Script;") := dr_Tg (List.mem_of_getElem? (i := 148) (by decide +kernel)) (Or.inl (by decide +kernel))
theorem tw_114 : dr_T (Jvm.Cond.fieldLink "DrillRows" (26 : Nat) "DrillRows" "wrongPlace" "I") := dr_Tg (List.mem_of_getElem? (i := 149) (by decide +kernel)) (Or.inl (by decide +kernel))
theorem tw_115 : dr_T (Jvm.Cond.fieldLink "DrillRows" (30 : Nat) "DrillRows" "now" "I") := dr_Tg (List.mem_of_getElem? (i := 150) (by decide +kernel)) (Or.inl (by decide +kernel))
theorem tw_116 : dr_T (Jvm.Cond.fieldLink "DrillRows" (35 : Nat) "DrillRows" "drills" "[LDrillRows$Drill;") := dr_Tg (List.mem_of_getElem? (i := 151) (by decide +kernel)) (Or.inl (by decide +kernel))
theorem tw_117 : dr_T (Jvm.Cond.fieldLink "DrillRows" (39 : Nat) "DrillRows" "drillCount" "I") := dr_Tg (List.mem_of_getElem? (i := 152) (by decide +kernel)) (Or.inl (by decide +kernel))
theorem tw_118 : dr_T (Jvm.Cond.fieldLink "DrillRows" (42 : Nat) "DrillRows" "drillOfUnit" "[I") := dr_Tg (List.mem_of_getElem? (i := 153) (by decide +kernel)) (Or.inl (by decide +kernel))
theorem tw_119 : dr_T (Jvm.Cond.fieldLink "DrillRows" (46 : Nat) "DrillRows" "rowCells" "[I") := dr_Tg (List.mem_of_getElem? (i := 154) (by decide +kernel)) (Or.inl (by decide +kernel))
theorem tw_120 : dr_T (Jvm.Cond.fieldLink "DrillRows" (49 : Nat) "DrillRows" "rowCount" "I") := dr_Tg (List.mem_of_getElem? (i := 155) (by decide +kernel)) (Or.inl (by decide +kernel))
theorem tw_142 : dr_T (Jvm.Cond.methodLink "DrillRowsLaw" (100 : Nat) ({ cls := "DrillRows", name := "place", desc := "()I" } : Jvm.MethodName)) := dr_Tg (List.mem_of_getElem? (i := 177) (by decide +kernel)) (Or.inl (by decide +kernel))
theorem tw_143 : dr_T (Jvm.Cond.instanceMethod ({ cls := "DrillRows", name := "place", desc := "()I" } : Jvm.MethodName)) := dr_Tg (List.mem_of_getElem? (i := 178) (by decide +kernel)) (Or.inl (by decide +kernel))
theorem tw_144 : dr_T (Jvm.Cond.selects "DrillRows" ({ cls := "DrillRows", name := "place", desc := "()I" } : Jvm.MethodName) ({ cls := "DrillRows", name := "place", desc := "()I" } : Jvm.MethodName)) := dr_Tg (List.mem_of_getElem? (i := 179) (by decide +kernel)) (Or.inl (by decide +kernel))
theorem tw_145 : dr_T (Jvm.Cond.code ({ cls := "DrillRows", name := "place", desc := "()I" } : Jvm.MethodName) prog_1_method_4_code (1 : Nat) (Option.some Jvm.ClassFile.FieldType.int)) := dr_Tg (List.mem_of_getElem? (i := 180) (by decide +kernel)) (Or.inl (by decide +kernel))
theorem tw_146 : dr_T (Jvm.Cond.methodLink "DrillRowsLaw" (87 : Nat) ({ cls := "DrillRowsLaw", name := "sign", desc := "(LDrillRows;JI[J)I" } : Jvm.MethodName)) := dr_Tg (List.mem_of_getElem? (i := 181) (by decide +kernel)) (Or.inl (by decide +kernel))
theorem tw_147 : dr_T (Jvm.Cond.static ({ cls := "DrillRowsLaw", name := "sign", desc := "(LDrillRows;JI[J)I" } : Jvm.MethodName)) := dr_Tg (List.mem_of_getElem? (i := 182) (by decide +kernel)) (Or.inl (by decide +kernel))
theorem tw_148 : dr_T (Jvm.Cond.codeWith ({ cls := "DrillRowsLaw", name := "sign", desc := "(LDrillRows;JI[J)I" } : Jvm.MethodName) method_3_code (6 : Nat) (Option.some Jvm.ClassFile.FieldType.int) [((0 : Nat), (11 : Nat), (14 : Nat), (13 : Nat)), ((0 : Nat), (11 : Nat), (18 : Nat), (15 : Nat))]) := dr_Tg (List.mem_of_getElem? (i := 183) (by decide +kernel)) (Or.inl (by decide +kernel))
theorem tw_149 : dr_T (Jvm.Cond.classLink "DrillRowsLaw" (13 : Nat) "java/lang/IndexOutOfBoundsException") := dr_Tg (List.mem_of_getElem? (i := 184) (by decide +kernel)) (Or.inl (by decide +kernel))
theorem tw_150 : dr_T (Jvm.Cond.classLink "DrillRowsLaw" (15 : Nat) "java/lang/UnsupportedOperationException") := dr_Tg (List.mem_of_getElem? (i := 185) (by decide +kernel)) (Or.inl (by decide +kernel))
theorem tw_151 : dr_T (Jvm.Cond.methodLink "DrillRowsLaw" (7 : Nat) ({ cls := "DrillRows", name := "sign", desc := "(JI)I" } : Jvm.MethodName)) := dr_Tg (List.mem_of_getElem? (i := 186) (by decide +kernel)) (Or.inl (by decide +kernel))
theorem tw_152 : dr_T (Jvm.Cond.instanceMethod ({ cls := "DrillRows", name := "sign", desc := "(JI)I" } : Jvm.MethodName)) := dr_Tg (List.mem_of_getElem? (i := 187) (by decide +kernel)) (Or.inl (by decide +kernel))
theorem tw_153 : dr_T (Jvm.Cond.selects "DrillRows" ({ cls := "DrillRows", name := "sign", desc := "(JI)I" } : Jvm.MethodName) ({ cls := "DrillRows", name := "sign", desc := "(JI)I" } : Jvm.MethodName)) := dr_Tg (List.mem_of_getElem? (i := 188) (by decide +kernel)) (Or.inl (by decide +kernel))
theorem tw_154 : dr_T (Jvm.Cond.code ({ cls := "DrillRows", name := "sign", desc := "(JI)I" } : Jvm.MethodName) prog_1_method_2_code (4 : Nat) (Option.some Jvm.ClassFile.FieldType.int)) := dr_Tg (List.mem_of_getElem? (i := 189) (by decide +kernel)) (Or.inl (by decide +kernel))
theorem tw_155 : dr_T (Jvm.Cond.classLink "DrillRows" (58 : Nat) "java/lang/IndexOutOfBoundsException") := dr_Tg (List.mem_of_getElem? (i := 190) (by decide +kernel)) (Or.inl (by decide +kernel))
theorem tw_156 : dr_T (Jvm.Cond.instantiable "java/lang/IndexOutOfBoundsException" (6 : Nat)) := dr_Tg (List.mem_of_getElem? (i := 191) (by decide +kernel)) (Or.inl (by decide +kernel))
theorem tw_157 : dr_T (Jvm.Cond.castable "java/lang/IndexOutOfBoundsException" "java/lang/IndexOutOfBoundsException") := dr_Tf (List.mem_of_getElem? (i := 192) (by decide +kernel)) (by decide +kernel)
theorem tw_164 : dr_T (Jvm.Cond.selects "java/lang/IndexOutOfBoundsException" ({ cls := "java/lang/Throwable", name := "fillInStackTrace", desc := "(I)Ljava/lang/Throwable;" } : Jvm.MethodName) ({ cls := "java/lang/Throwable", name := "fillInStackTrace", desc := "(I)Ljava/lang/Throwable;" } : Jvm.MethodName)) := dr_Tg (List.mem_of_getElem? (i := 199) (by decide +kernel)) (Or.inl (by decide +kernel))
theorem tw_165 : dr_T (Jvm.Cond.selects "java/lang/IndexOutOfBoundsException" ({ cls := "java/lang/Throwable", name := "fillInStackTrace", desc := "()Ljava/lang/Throwable;" } : Jvm.MethodName) ({ cls := "java/lang/Throwable", name := "fillInStackTrace", desc := "()Ljava/lang/Throwable;" } : Jvm.MethodName)) := dr_Tg (List.mem_of_getElem? (i := 200) (by decide +kernel)) (Or.inl (by decide +kernel))
theorem tw_176 : dr_T (Jvm.Cond.fieldLink "java/lang/Throwable" (198 : Nat) "java/lang/Throwable" "backtrace" "Ljava/lang/Object;") := dr_Tg (List.mem_of_getElem? (i := 211) (by decide +kernel)) (Or.inl (by decide +kernel))
theorem tw_178 : dr_T (Jvm.Cond.instanceMethod ({ cls := "java/lang/Throwable", name := "<init>", desc := "()V" } : Jvm.MethodName)) := dr_Tg (List.mem_of_getElem? (i := 213) (by decide +kernel)) (Or.inl (by decide +kernel))
theorem tw_179 : dr_T (Jvm.Cond.code ({ cls := "java/lang/Throwable", name := "<init>", desc := "()V" } : Jvm.MethodName) prog_15_method_1_code (1 : Nat) (Option.none : Option Jvm.ClassFile.FieldType)) := dr_Tg (List.mem_of_getElem? (i := 214) (by decide +kernel)) (Or.inl (by decide +kernel))
theorem tw_180 : dr_T (Jvm.Cond.methodLink "java/lang/Throwable" (1 : Nat) ({ cls := "java/lang/Object", name := "<init>", desc := "()V" } : Jvm.MethodName)) := dr_Tg (List.mem_of_getElem? (i := 215) (by decide +kernel)) (Or.inl (by decide +kernel))
theorem tw_181 : dr_T (Jvm.Cond.fieldLink "java/lang/Throwable" (13 : Nat) "java/lang/Throwable" "UNASSIGNED_STACK" "[Ljava/lang/StackTraceElement;") := dr_Tg (List.mem_of_getElem? (i := 216) (by decide +kernel)) (Or.inl (by decide +kernel))
theorem tw_183 : dr_T (Jvm.Cond.fieldLink "java/lang/Throwable" (20 : Nat) "java/lang/Throwable" "SUPPRESSED_SENTINEL" "Ljava/util/List;") := dr_Tg (List.mem_of_getElem? (i := 218) (by decide +kernel)) (Or.inl (by decide +kernel))
theorem tw_185 : dr_T (Jvm.Cond.methodLink "java/lang/Throwable" (27 : Nat) ({ cls := "java/lang/Throwable", name := "fillInStackTrace", desc := "()Ljava/lang/Throwable;" } : Jvm.MethodName)) := dr_Tg (List.mem_of_getElem? (i := 220) (by decide +kernel)) (Or.inl (by decide +kernel))
theorem tw_186 : dr_T (Jvm.Cond.instanceMethod ({ cls := "java/lang/Throwable", name := "fillInStackTrace", desc := "()Ljava/lang/Throwable;" } : Jvm.MethodName)) := dr_Tg (List.mem_of_getElem? (i := 221) (by decide +kernel)) (Or.inl (by decide +kernel))
theorem tw_188 : dr_T (Jvm.Cond.selects "java/lang/ArithmeticException" ({ cls := "java/lang/Throwable", name := "fillInStackTrace", desc := "()Ljava/lang/Throwable;" } : Jvm.MethodName) ({ cls := "java/lang/Throwable", name := "fillInStackTrace", desc := "()Ljava/lang/Throwable;" } : Jvm.MethodName)) := dr_Tg (List.mem_of_getElem? (i := 223) (by decide +kernel)) (Or.inl (by decide +kernel))
theorem tw_189 : dr_T (Jvm.Cond.selects "java/lang/IllegalArgumentException" ({ cls := "java/lang/Throwable", name := "fillInStackTrace", desc := "()Ljava/lang/Throwable;" } : Jvm.MethodName) ({ cls := "java/lang/Throwable", name := "fillInStackTrace", desc := "()Ljava/lang/Throwable;" } : Jvm.MethodName)) := dr_Tg (List.mem_of_getElem? (i := 224) (by decide +kernel)) (Or.inl (by decide +kernel))
theorem tw_190 : dr_T (Jvm.Cond.selects "java/lang/IllegalStateException" ({ cls := "java/lang/Throwable", name := "fillInStackTrace", desc := "()Ljava/lang/Throwable;" } : Jvm.MethodName) ({ cls := "java/lang/Throwable", name := "fillInStackTrace", desc := "()Ljava/lang/Throwable;" } : Jvm.MethodName)) := dr_Tg (List.mem_of_getElem? (i := 225) (by decide +kernel)) (Or.inl (by decide +kernel))
theorem tw_191 : dr_T (Jvm.Cond.selects "java/lang/UnsupportedOperationException" ({ cls := "java/lang/Throwable", name := "fillInStackTrace", desc := "()Ljava/lang/Throwable;" } : Jvm.MethodName) ({ cls := "java/lang/Throwable", name := "fillInStackTrace", desc := "()Ljava/lang/Throwable;" } : Jvm.MethodName)) := dr_Tg (List.mem_of_getElem? (i := 226) (by decide +kernel)) (Or.inl (by decide +kernel))
theorem tw_193 : dr_T (Jvm.Cond.methodLink "java/lang/Throwable" (202 : Nat) ({ cls := "java/lang/Throwable", name := "fillInStackTrace", desc := "(I)Ljava/lang/Throwable;" } : Jvm.MethodName)) := dr_Tg (List.mem_of_getElem? (i := 228) (by decide +kernel)) (Or.inl (by decide +kernel))
theorem tw_195 : dr_T (Jvm.Cond.instanceMethod ({ cls := "java/lang/Throwable", name := "fillInStackTrace", desc := "(I)Ljava/lang/Throwable;" } : Jvm.MethodName)) := dr_Tg (List.mem_of_getElem? (i := 230) (by decide +kernel)) (Or.inl (by decide +kernel))
theorem tw_196 : dr_T (Jvm.Cond.instantiable "java/lang/Throwable" (6 : Nat)) := dr_Tg (List.mem_of_getElem? (i := 231) (by decide +kernel)) (Or.inl (by decide +kernel))
theorem tw_198 : dr_T (Jvm.Cond.stringRef "DrillRows" (60 : Nat) "not 1 to 8 bytes") := dr_Ts (List.mem_of_getElem? (i := 233) (by decide +kernel))
theorem tw_199 : dr_T (Jvm.Cond.methodLink "DrillRows" (62 : Nat) ({ cls := "java/lang/IndexOutOfBoundsException", name := "<init>", desc := "(Ljava/lang/String;)V" } : Jvm.MethodName)) := dr_Tg (List.mem_of_getElem? (i := 234) (by decide +kernel)) (Or.inl (by decide +kernel))
theorem tw_200 : dr_T (Jvm.Cond.instanceMethod ({ cls := "java/lang/IndexOutOfBoundsException", name := "<init>", desc := "(Ljava/lang/String;)V" } : Jvm.MethodName)) := dr_Tg (List.mem_of_getElem? (i := 235) (by decide +kernel)) (Or.inl (by decide +kernel))
theorem tw_201 : dr_T (Jvm.Cond.code ({ cls := "java/lang/IndexOutOfBoundsException", name := "<init>", desc := "(Ljava/lang/String;)V" } : Jvm.MethodName) prog_11_method_2_code (2 : Nat) (Option.none : Option Jvm.ClassFile.FieldType)) := dr_Tg (List.mem_of_getElem? (i := 236) (by decide +kernel)) (Or.inl (by decide +kernel))
theorem tw_202 : dr_T (Jvm.Cond.methodLink "java/lang/IndexOutOfBoundsException" (7 : Nat) ({ cls := "java/lang/RuntimeException", name := "<init>", desc := "(Ljava/lang/String;)V" } : Jvm.MethodName)) := dr_Tg (List.mem_of_getElem? (i := 237) (by decide +kernel)) (Or.inl (by decide +kernel))
theorem tw_203 : dr_T (Jvm.Cond.instanceMethod ({ cls := "java/lang/RuntimeException", name := "<init>", desc := "(Ljava/lang/String;)V" } : Jvm.MethodName)) := dr_Tg (List.mem_of_getElem? (i := 238) (by decide +kernel)) (Or.inl (by decide +kernel))
theorem tw_204 : dr_T (Jvm.Cond.code ({ cls := "java/lang/RuntimeException", name := "<init>", desc := "(Ljava/lang/String;)V" } : Jvm.MethodName) prog_13_method_2_code (2 : Nat) (Option.none : Option Jvm.ClassFile.FieldType)) := dr_Tg (List.mem_of_getElem? (i := 239) (by decide +kernel)) (Or.inl (by decide +kernel))
theorem tw_205 : dr_T (Jvm.Cond.methodLink "java/lang/RuntimeException" (7 : Nat) ({ cls := "java/lang/Exception", name := "<init>", desc := "(Ljava/lang/String;)V" } : Jvm.MethodName)) := dr_Tg (List.mem_of_getElem? (i := 240) (by decide +kernel)) (Or.inl (by decide +kernel))
theorem tw_206 : dr_T (Jvm.Cond.instanceMethod ({ cls := "java/lang/Exception", name := "<init>", desc := "(Ljava/lang/String;)V" } : Jvm.MethodName)) := dr_Tg (List.mem_of_getElem? (i := 241) (by decide +kernel)) (Or.inl (by decide +kernel))
theorem tw_207 : dr_T (Jvm.Cond.code ({ cls := "java/lang/Exception", name := "<init>", desc := "(Ljava/lang/String;)V" } : Jvm.MethodName) prog_8_method_2_code (2 : Nat) (Option.none : Option Jvm.ClassFile.FieldType)) := dr_Tg (List.mem_of_getElem? (i := 242) (by decide +kernel)) (Or.inl (by decide +kernel))
theorem tw_208 : dr_T (Jvm.Cond.methodLink "java/lang/Exception" (7 : Nat) ({ cls := "java/lang/Throwable", name := "<init>", desc := "(Ljava/lang/String;)V" } : Jvm.MethodName)) := dr_Tg (List.mem_of_getElem? (i := 243) (by decide +kernel)) (Or.inl (by decide +kernel))
theorem tw_209 : dr_T (Jvm.Cond.instanceMethod ({ cls := "java/lang/Throwable", name := "<init>", desc := "(Ljava/lang/String;)V" } : Jvm.MethodName)) := dr_Tg (List.mem_of_getElem? (i := 244) (by decide +kernel)) (Or.inl (by decide +kernel))
theorem tw_210 : dr_T (Jvm.Cond.code ({ cls := "java/lang/Throwable", name := "<init>", desc := "(Ljava/lang/String;)V" } : Jvm.MethodName) prog_15_method_2_code (2 : Nat) (Option.none : Option Jvm.ClassFile.FieldType)) := dr_Tg (List.mem_of_getElem? (i := 245) (by decide +kernel)) (Or.inl (by decide +kernel))
theorem tw_211 : dr_T (Jvm.Cond.fieldLink "java/lang/Throwable" (198 : Nat) "java/lang/Throwable" "backtrace" "Ljava/lang/Object;") := dr_Tg (List.mem_of_getElem? (i := 246) (by decide +kernel)) (Or.inl (by decide +kernel))
theorem tw_212 : dr_T (Jvm.Cond.fieldLink "java/lang/Throwable" (31 : Nat) "java/lang/Throwable" "detailMessage" "Ljava/lang/String;") := dr_Tg (List.mem_of_getElem? (i := 247) (by decide +kernel)) (Or.inl (by decide +kernel))
theorem tw_213 : dr_T (Jvm.Cond.fieldLink "java/lang/Throwable" (7 : Nat) "java/lang/Throwable" "cause" "Ljava/lang/Throwable;") := dr_Tg (List.mem_of_getElem? (i := 248) (by decide +kernel)) (Or.inl (by decide +kernel))
theorem tw_214 : dr_T (Jvm.Cond.fieldLink "java/lang/Throwable" (17 : Nat) "java/lang/Throwable" "stackTrace" "[Ljava/lang/StackTraceElement;") := dr_Tg (List.mem_of_getElem? (i := 249) (by decide +kernel)) (Or.inl (by decide +kernel))
theorem tw_215 : dr_T (Jvm.Cond.fieldLink "java/lang/Throwable" (24 : Nat) "java/lang/Throwable" "suppressedExceptions" "Ljava/util/List;") := dr_Tg (List.mem_of_getElem? (i := 250) (by decide +kernel)) (Or.inl (by decide +kernel))
theorem tw_224 : dr_T (Jvm.Cond.arrayClass Jvm.ClassFile.FieldType.byte) := dr_Tg (List.mem_of_getElem? (i := 259) (by decide +kernel)) (Or.inr ⟨_, rfl⟩)
theorem tw_225 : dr_T (Jvm.Cond.methodLink "DrillRows" (65 : Nat) ({ cls := "DrillRows$Tape", name := "hasRoomFor", desc := "(I)Z" } : Jvm.MethodName)) := dr_Tg (List.mem_of_getElem? (i := 260) (by decide +kernel)) (Or.inl (by decide +kernel))
theorem tw_226 : dr_T (Jvm.Cond.instanceMethod ({ cls := "DrillRows$Tape", name := "hasRoomFor", desc := "(I)Z" } : Jvm.MethodName)) := dr_Tg (List.mem_of_getElem? (i := 261) (by decide +kernel)) (Or.inl (by decide +kernel))
theorem tw_227 : dr_T (Jvm.Cond.selects "DrillRows$Tape" ({ cls := "DrillRows$Tape", name := "hasRoomFor", desc := "(I)Z" } : Jvm.MethodName) ({ cls := "DrillRows$Tape", name := "hasRoomFor", desc := "(I)Z" } : Jvm.MethodName)) := dr_Tg (List.mem_of_getElem? (i := 262) (by decide +kernel)) (Or.inl (by decide +kernel))
theorem tw_228 : dr_T (Jvm.Cond.code ({ cls := "DrillRows$Tape", name := "hasRoomFor", desc := "(I)Z" } : Jvm.MethodName) prog_4_method_2_code (2 : Nat) (Option.some Jvm.ClassFile.FieldType.boolean)) := dr_Tg (List.mem_of_getElem? (i := 263) (by decide +kernel)) (Or.inl (by decide +kernel))
theorem tw_229 : dr_T (Jvm.Cond.classLink "DrillRows" (69 : Nat) "java/lang/UnsupportedOperationException") := dr_Tg (List.mem_of_getElem? (i := 264) (by decide +kernel)) (Or.inl (by decide +kernel))
theorem tw_230 : dr_T (Jvm.Cond.instantiable "java/lang/UnsupportedOperationException" (6 : Nat)) := dr_Tg (List.mem_of_getElem? (i := 265) (by decide +kernel)) (Or.inl (by decide +kernel))
theorem tw_231 : dr_T (Jvm.Cond.castable "java/lang/UnsupportedOperationException" "java/lang/UnsupportedOperationException") := dr_Tf (List.mem_of_getElem? (i := 266) (by decide +kernel)) (by decide +kernel)
theorem tw_232 : dr_T (Jvm.Cond.selects "java/lang/UnsupportedOperationException" ({ cls := "java/lang/Throwable", name := "fillInStackTrace", desc := "(I)Ljava/lang/Throwable;" } : Jvm.MethodName) ({ cls := "java/lang/Throwable", name := "fillInStackTrace", desc := "(I)Ljava/lang/Throwable;" } : Jvm.MethodName)) := dr_Tg (List.mem_of_getElem? (i := 267) (by decide +kernel)) (Or.inl (by decide +kernel))
theorem tw_238 : dr_T (Jvm.Cond.stringRef "DrillRows" (71 : Nat) "the tape would be too long") := dr_Ts (List.mem_of_getElem? (i := 273) (by decide +kernel))
theorem tw_239 : dr_T (Jvm.Cond.methodLink "DrillRows" (73 : Nat) ({ cls := "java/lang/UnsupportedOperationException", name := "<init>", desc := "(Ljava/lang/String;)V" } : Jvm.MethodName)) := dr_Tg (List.mem_of_getElem? (i := 274) (by decide +kernel)) (Or.inl (by decide +kernel))
theorem tw_240 : dr_T (Jvm.Cond.instanceMethod ({ cls := "java/lang/UnsupportedOperationException", name := "<init>", desc := "(Ljava/lang/String;)V" } : Jvm.MethodName)) := dr_Tg (List.mem_of_getElem? (i := 275) (by decide +kernel)) (Or.inl (by decide +kernel))
theorem tw_241 : dr_T (Jvm.Cond.code ({ cls := "java/lang/UnsupportedOperationException", name := "<init>", desc := "(Ljava/lang/String;)V" } : Jvm.MethodName) prog_16_method_2_code (2 : Nat) (Option.none : Option Jvm.ClassFile.FieldType)) := dr_Tg (List.mem_of_getElem? (i := 276) (by decide +kernel)) (Or.inl (by decide +kernel))
theorem tw_242 : dr_T (Jvm.Cond.methodLink "java/lang/UnsupportedOperationException" (7 : Nat) ({ cls := "java/lang/RuntimeException", name := "<init>", desc := "(Ljava/lang/String;)V" } : Jvm.MethodName)) := dr_Tg (List.mem_of_getElem? (i := 277) (by decide +kernel)) (Or.inl (by decide +kernel))
theorem tw_245 : dr_T (Jvm.Cond.methodLink "DrillRows" (74 : Nat) ({ cls := "DrillRows$Tape", name := "append", desc := "(JI)I" } : Jvm.MethodName)) := dr_Tg (List.mem_of_getElem? (i := 280) (by decide +kernel)) (Or.inl (by decide +kernel))
theorem tw_246 : dr_T (Jvm.Cond.instanceMethod ({ cls := "DrillRows$Tape", name := "append", desc := "(JI)I" } : Jvm.MethodName)) := dr_Tg (List.mem_of_getElem? (i := 281) (by decide +kernel)) (Or.inl (by decide +kernel))
theorem tw_247 : dr_T (Jvm.Cond.selects "DrillRows$Tape" ({ cls := "DrillRows$Tape", name := "append", desc := "(JI)I" } : Jvm.MethodName) ({ cls := "DrillRows$Tape", name := "append", desc := "(JI)I" } : Jvm.MethodName)) := dr_Tg (List.mem_of_getElem? (i := 282) (by decide +kernel)) (Or.inl (by decide +kernel))
theorem tw_248 : dr_T (Jvm.Cond.code ({ cls := "DrillRows$Tape", name := "append", desc := "(JI)I" } : Jvm.MethodName) prog_4_method_3_code (5 : Nat) (Option.some Jvm.ClassFile.FieldType.int)) := dr_Tg (List.mem_of_getElem? (i := 283) (by decide +kernel)) (Or.inl (by decide +kernel))
theorem tw_249 : dr_T (Jvm.Cond.methodLink "DrillRowsLaw" (96 : Nat) ({ cls := "DrillRowsLaw", name := "read", desc := "(LDrillRows;[J)I" } : Jvm.MethodName)) := dr_Tg (List.mem_of_getElem? (i := 284) (by decide +kernel)) (Or.inl (by decide +kernel))
theorem tw_250 : dr_T (Jvm.Cond.static ({ cls := "DrillRowsLaw", name := "read", desc := "(LDrillRows;[J)I" } : Jvm.MethodName)) := dr_Tg (List.mem_of_getElem? (i := 285) (by decide +kernel)) (Or.inl (by decide +kernel))
theorem tw_251 : dr_T (Jvm.Cond.codeWith ({ cls := "DrillRowsLaw", name := "read", desc := "(LDrillRows;[J)I" } : Jvm.MethodName) method_4_code (3 : Nat) (Option.some Jvm.ClassFile.FieldType.int) [((0 : Nat), (8 : Nat), (11 : Nat), (21 : Nat))]) := dr_Tg (List.mem_of_getElem? (i := 286) (by decide +kernel)) (Or.inl (by decide +kernel))
theorem tw_252 : dr_T (Jvm.Cond.classLink "DrillRowsLaw" (21 : Nat) "java/lang/IllegalStateException") := dr_Tg (List.mem_of_getElem? (i := 287) (by decide +kernel)) (Or.inl (by decide +kernel))
theorem tw_253 : dr_T (Jvm.Cond.methodLink "DrillRowsLaw" (17 : Nat) ({ cls := "DrillRows", name := "read", desc := "()I" } : Jvm.MethodName)) := dr_Tg (List.mem_of_getElem? (i := 288) (by decide +kernel)) (Or.inl (by decide +kernel))
theorem tw_254 : dr_T (Jvm.Cond.instanceMethod ({ cls := "DrillRows", name := "read", desc := "()I" } : Jvm.MethodName)) := dr_Tg (List.mem_of_getElem? (i := 289) (by decide +kernel)) (Or.inl (by decide +kernel))
theorem tw_255 : dr_T (Jvm.Cond.selects "DrillRows" ({ cls := "DrillRows", name := "read", desc := "()I" } : Jvm.MethodName) ({ cls := "DrillRows", name := "read", desc := "()I" } : Jvm.MethodName)) := dr_Tg (List.mem_of_getElem? (i := 290) (by decide +kernel)) (Or.inl (by decide +kernel))
theorem tw_256 : dr_T (Jvm.Cond.code ({ cls := "DrillRows", name := "read", desc := "()I" } : Jvm.MethodName) prog_1_method_3_code (2 : Nat) (Option.some Jvm.ClassFile.FieldType.int)) := dr_Tg (List.mem_of_getElem? (i := 291) (by decide +kernel)) (Or.inl (by decide +kernel))
theorem tw_257 : dr_T (Jvm.Cond.methodLink "DrillRows" (78 : Nat) ({ cls := "DrillRows$Tape", name := "parseInto", desc := "(LDrillRows$Script;)I" } : Jvm.MethodName)) := dr_Tg (List.mem_of_getElem? (i := 292) (by decide +kernel)) (Or.inl (by decide +kernel))
theorem tw_258 : dr_T (Jvm.Cond.instanceMethod ({ cls := "DrillRows$Tape", name := "parseInto", desc := "(LDrillRows$Script;)I" } : Jvm.MethodName)) := dr_Tg (List.mem_of_getElem? (i := 293) (by decide +kernel)) (Or.inl (by decide +kernel))
theorem tw_259 : dr_T (Jvm.Cond.selects "DrillRows$Tape" ({ cls := "DrillRows$Tape", name := "parseInto", desc := "(LDrillRows$Script;)I" } : Jvm.MethodName) ({ cls := "DrillRows$Tape", name := "parseInto", desc := "(LDrillRows$Script;)I" } : Jvm.MethodName)) := dr_Tg (List.mem_of_getElem? (i := 294) (by decide +kernel)) (Or.inl (by decide +kernel))
theorem tw_260 : dr_T (Jvm.Cond.code ({ cls := "DrillRows$Tape", name := "parseInto", desc := "(LDrillRows$Script;)I" } : Jvm.MethodName) prog_4_method_4_code (3 : Nat) (Option.some Jvm.ClassFile.FieldType.int)) := dr_Tg (List.mem_of_getElem? (i := 295) (by decide +kernel)) (Or.inl (by decide +kernel))
theorem tw_261 : dr_T (Jvm.Cond.methodLink "DrillRows$Tape" (25 : Nat) ({ cls := "DrillRows$Script", name := "clear", desc := "()V" } : Jvm.MethodName)) := dr_Tg (List.mem_of_getElem? (i := 296) (by decide +kernel)) (Or.inl (by decide +kernel))
theorem tw_262 : dr_T (Jvm.Cond.instanceMethod ({ cls := "DrillRows$Script", name := "clear", desc := "()V" } : Jvm.MethodName)) := dr_Tg (List.mem_of_getElem? (i := 297) (by decide +kernel)) (Or.inl (by decide +kernel))
theorem tw_263 : dr_T (Jvm.Cond.selects "DrillRows$Script" ({ cls := "DrillRows$Script", name := "clear", desc := "()V" } : Jvm.MethodName) ({ cls := "DrillRows$Script", name := "clear", desc := "()V" } : Jvm.MethodName)) := dr_Tg (List.mem_of_getElem? (i := 298) (by decide +kernel)) (Or.inl (by decide +kernel))
theorem tw_264 : dr_T (Jvm.Cond.code ({ cls := "DrillRows$Script", name := "clear", desc := "()V" } : Jvm.MethodName) prog_3_method_2_code (2 : Nat) (Option.none : Option Jvm.ClassFile.FieldType)) := dr_Tg (List.mem_of_getElem? (i := 299) (by decide +kernel)) (Or.inl (by decide +kernel))
theorem tw_265 : dr_T (Jvm.Cond.methodLink "DrillRows$Script" (54 : Nat) ({ cls := "java/util/Arrays", name := "fill", desc := "([II)V" } : Jvm.MethodName)) := dr_Tg (List.mem_of_getElem? (i := 300) (by decide +kernel)) (Or.inl (by decide +kernel))
theorem tw_266 : dr_T (Jvm.Cond.methodLink "DrillRows$Tape" (30 : Nat) ({ cls := "DrillRows$Tape", name := "skipBlanks", desc := "()V" } : Jvm.MethodName)) := dr_Tg (List.mem_of_getElem? (i := 301) (by decide +kernel)) (Or.inl (by decide +kernel))
theorem tw_268 : dr_T (Jvm.Cond.instanceMethod ({ cls := "DrillRows$Tape", name := "skipBlanks", desc := "()V" } : Jvm.MethodName)) := dr_Tg (List.mem_of_getElem? (i := 303) (by decide +kernel)) (Or.inl (by decide +kernel))
theorem tw_269 : dr_T (Jvm.Cond.code ({ cls := "DrillRows$Tape", name := "skipBlanks", desc := "()V" } : Jvm.MethodName) prog_4_method_11_code (1 : Nat) (Option.none : Option Jvm.ClassFile.FieldType)) := dr_Tg (List.mem_of_getElem? (i := 304) (by decide +kernel)) (Or.inl (by decide +kernel))
theorem tw_270 : dr_T (Jvm.Cond.methodLink "DrillRows$Tape" (78 : Nat) ({ cls := "DrillRows$Tape", name := "nextByte", desc := "()I" } : Jvm.MethodName)) := dr_Tg (List.mem_of_getElem? (i := 305) (by decide +kernel)) (Or.inl (by decide +kernel))
theorem tw_272 : dr_T (Jvm.Cond.instanceMethod ({ cls := "DrillRows$Tape", name := "nextByte", desc := "()I" } : Jvm.MethodName)) := dr_Tg (List.mem_of_getElem? (i := 307) (by decide +kernel)) (Or.inl (by decide +kernel))
theorem tw_273 : dr_T (Jvm.Cond.code ({ cls := "DrillRows$Tape", name := "nextByte", desc := "()I" } : Jvm.MethodName) prog_4_method_12_code (1 : Nat) (Option.some Jvm.ClassFile.FieldType.int)) := dr_Tg (List.mem_of_getElem? (i := 308) (by decide +kernel)) (Or.inl (by decide +kernel))
theorem tw_274 : dr_T (Jvm.Cond.methodLink "DrillRows$Tape" (33 : Nat) ({ cls := "DrillRows$Tape", name := "parseRow", desc := "(LDrillRows$Script;)V" } : Jvm.MethodName)) := dr_Tg (List.mem_of_getElem? (i := 309) (by decide +kernel)) (Or.inl (by decide +kernel))
theorem tw_276 : dr_T (Jvm.Cond.instanceMethod ({ cls := "DrillRows$Tape", name := "parseRow", desc := "(LDrillRows$Script;)V" } : Jvm.MethodName)) := dr_Tg (List.mem_of_getElem? (i := 311) (by decide +kernel)) (Or.inl (by decide +kernel))
theorem tw_277 : dr_T (Jvm.Cond.code ({ cls := "DrillRows$Tape", name := "parseRow", desc := "(LDrillRows$Script;)V" } : Jvm.MethodName) prog_4_method_5_code (2 : Nat) (Option.none : Option Jvm.ClassFile.FieldType)) := dr_Tg (List.mem_of_getElem? (i := 312) (by decide +kernel)) (Or.inl (by decide +kernel))
theorem tw_278 : dr_T (Jvm.Cond.methodLink "DrillRows$Tape" (37 : Nat) ({ cls := "DrillRows$Tape", name := "accept", desc := "(C)Z" } : Jvm.MethodName)) := dr_Tg (List.mem_of_getElem? (i := 313) (by decide +kernel)) (Or.inl (by decide +kernel))
theorem tw_280 : dr_T (Jvm.Cond.instanceMethod ({ cls := "DrillRows$Tape", name := "accept", desc := "(C)Z" } : Jvm.MethodName)) := dr_Tg (List.mem_of_getElem? (i := 315) (by decide +kernel)) (Or.inl (by decide +kernel))
theorem tw_281 : dr_T (Jvm.Cond.code ({ cls := "DrillRows$Tape", name := "accept", desc := "(C)Z" } : Jvm.MethodName) prog_4_method_10_code (2 : Nat) (Option.some Jvm.ClassFile.FieldType.boolean)) := dr_Tg (List.mem_of_getElem? (i := 316) (by decide +kernel)) (Or.inl (by decide +kernel))
theorem tw_282 : dr_T (Jvm.Cond.methodLink "DrillRows$Tape" (41 : Nat) ({ cls := "DrillRows$Tape", name := "parseEvent", desc := "(LDrillRows$Script;)V" } : Jvm.MethodName)) := dr_Tg (List.mem_of_getElem? (i := 317) (by decide +kernel)) (Or.inl (by decide +kernel))
theorem tw_284 : dr_T (Jvm.Cond.instanceMethod ({ cls := "DrillRows$Tape", name := "parseEvent", desc := "(LDrillRows$Script;)V" } : Jvm.MethodName)) := dr_Tg (List.mem_of_getElem? (i := 319) (by decide +kernel)) (Or.inl (by decide +kernel))
theorem tw_285 : dr_T (Jvm.Cond.code ({ cls := "DrillRows$Tape", name := "parseEvent", desc := "(LDrillRows$Script;)V" } : Jvm.MethodName) prog_4_method_6_code (9 : Nat) (Option.none : Option Jvm.ClassFile.FieldType)) := dr_Tg (List.mem_of_getElem? (i := 320) (by decide +kernel)) (Or.inl (by decide +kernel))
theorem tw_286 : dr_T (Jvm.Cond.methodLink "DrillRows$Tape" (51 : Nat) ({ cls := "DrillRows$Tape", name := "parseNumber", desc := "(II)I" } : Jvm.MethodName)) := dr_Tg (List.mem_of_getElem? (i := 321) (by decide +kernel)) (Or.inl (by decide +kernel))
theorem tw_288 : dr_T (Jvm.Cond.instanceMethod ({ cls := "DrillRows$Tape", name := "parseNumber", desc := "(II)I" } : Jvm.MethodName)) := dr_Tg (List.mem_of_getElem? (i := 323) (by decide +kernel)) (Or.inl (by decide +kernel))
theorem tw_289 : dr_T (Jvm.Cond.code ({ cls := "DrillRows$Tape", name := "parseNumber", desc := "(II)I" } : Jvm.MethodName) prog_4_method_8_code (5 : Nat) (Option.some Jvm.ClassFile.FieldType.int)) := dr_Tg (List.mem_of_getElem? (i := 324) (by decide +kernel)) (Or.inl (by decide +kernel))
theorem tw_290 : dr_T (Jvm.Cond.methodLink "DrillRows$Tape" (82 : Nat) ({ cls := "DrillRows$Tape", name := "isDigit", desc := "(I)Z" } : Jvm.MethodName)) := dr_Tg (List.mem_of_getElem? (i := 325) (by decide +kernel)) (Or.inl (by decide +kernel))
theorem tw_291 : dr_T (Jvm.Cond.static ({ cls := "DrillRows$Tape", name := "isDigit", desc := "(I)Z" } : Jvm.MethodName)) := dr_Tg (List.mem_of_getElem? (i := 326) (by decide +kernel)) (Or.inl (by decide +kernel))
theorem tw_292 : dr_T (Jvm.Cond.code ({ cls := "DrillRows$Tape", name := "isDigit", desc := "(I)Z" } : Jvm.MethodName) prog_4_method_13_code (1 : Nat) (Option.some Jvm.ClassFile.FieldType.boolean)) := dr_Tg (List.mem_of_getElem? (i := 327) (by decide +kernel)) (Or.inl (by decide +kernel))
theorem tw_293 : dr_T (Jvm.Cond.methodLink "DrillRows$Tape" (47 : Nat) ({ cls := "DrillRows$Tape", name := "fail", desc := "(I)V" } : Jvm.MethodName)) := dr_Tg (List.mem_of_getElem? (i := 328) (by decide +kernel)) (Or.inl (by decide +kernel))
theorem tw_295 : dr_T (Jvm.Cond.instanceMethod ({ cls := "DrillRows$Tape", name := "fail", desc := "(I)V" } : Jvm.MethodName)) := dr_Tg (List.mem_of_getElem? (i := 330) (by decide +kernel)) (Or.inl (by decide +kernel))
theorem tw_296 : dr_T (Jvm.Cond.code ({ cls := "DrillRows$Tape", name := "fail", desc := "(I)V" } : Jvm.MethodName) prog_4_method_14_code (2 : Nat) (Option.none : Option Jvm.ClassFile.FieldType)) := dr_Tg (List.mem_of_getElem? (i := 331) (by decide +kernel)) (Or.inl (by decide +kernel))
theorem tw_297 : dr_T (Jvm.Cond.methodLink "DrillRows$Tape" (55 : Nat) ({ cls := "DrillRows$Script", name := "hasEvent", desc := "(I)Z" } : Jvm.MethodName)) := dr_Tg (List.mem_of_getElem? (i := 332) (by decide +kernel)) (Or.inl (by decide +kernel))
theorem tw_298 : dr_T (Jvm.Cond.instanceMethod ({ cls := "DrillRows$Script", name := "hasEvent", desc := "(I)Z" } : Jvm.MethodName)) := dr_Tg (List.mem_of_getElem? (i := 333) (by decide +kernel)) (Or.inl (by decide +kernel))
theorem tw_299 : dr_T (Jvm.Cond.selects "DrillRows$Script" ({ cls := "DrillRows$Script", name := "hasEvent", desc := "(I)Z" } : Jvm.MethodName) ({ cls := "DrillRows$Script", name := "hasEvent", desc := "(I)Z" } : Jvm.MethodName)) := dr_Tg (List.mem_of_getElem? (i := 334) (by decide +kernel)) (Or.inl (by decide +kernel))
theorem tw_300 : dr_T (Jvm.Cond.code ({ cls := "DrillRows$Script", name := "hasEvent", desc := "(I)Z" } : Jvm.MethodName) prog_3_method_3_code (2 : Nat) (Option.some Jvm.ClassFile.FieldType.boolean)) := dr_Tg (List.mem_of_getElem? (i := 335) (by decide +kernel)) (Or.inl (by decide +kernel))
theorem tw_301 : dr_T (Jvm.Cond.methodLink "DrillRows$Tape" (59 : Nat) ({ cls := "DrillRows$Tape", name := "expect", desc := "(C)V" } : Jvm.MethodName)) := dr_Tg (List.mem_of_getElem? (i := 336) (by decide +kernel)) (Or.inl (by decide +kernel))
theorem tw_303 : dr_T (Jvm.Cond.instanceMethod ({ cls := "DrillRows$Tape", name := "expect", desc := "(C)V" } : Jvm.MethodName)) := dr_Tg (List.mem_of_getElem? (i := 338) (by decide +kernel)) (Or.inl (by decide +kernel))
theorem tw_304 : dr_T (Jvm.Cond.code ({ cls := "DrillRows$Tape", name := "expect", desc := "(C)V" } : Jvm.MethodName) prog_4_method_9_code (2 : Nat) (Option.none : Option Jvm.ClassFile.FieldType)) := dr_Tg (List.mem_of_getElem? (i := 339) (by decide +kernel)) (Or.inl (by decide +kernel))
theorem tw_305 : dr_T (Jvm.Cond.methodLink "DrillRows$Tape" (63 : Nat) ({ cls := "DrillRows$Script", name := "addEvent", desc := "(IIII)V" } : Jvm.MethodName)) := dr_Tg (List.mem_of_getElem? (i := 340) (by decide +kernel)) (Or.inl (by decide +kernel))
theorem tw_306 : dr_T (Jvm.Cond.instanceMethod ({ cls := "DrillRows$Script", name := "addEvent", desc := "(IIII)V" } : Jvm.MethodName)) := dr_Tg (List.mem_of_getElem? (i := 341) (by decide +kernel)) (Or.inl (by decide +kernel))
theorem tw_307 : dr_T (Jvm.Cond.selects "DrillRows$Script" ({ cls := "DrillRows$Script", name := "addEvent", desc := "(IIII)V" } : Jvm.MethodName) ({ cls := "DrillRows$Script", name := "addEvent", desc := "(IIII)V" } : Jvm.MethodName)) := dr_Tg (List.mem_of_getElem? (i := 342) (by decide +kernel)) (Or.inl (by decide +kernel))
theorem tw_308 : dr_T (Jvm.Cond.code ({ cls := "DrillRows$Script", name := "addEvent", desc := "(IIII)V" } : Jvm.MethodName) prog_3_method_5_code (5 : Nat) (Option.none : Option Jvm.ClassFile.FieldType)) := dr_Tg (List.mem_of_getElem? (i := 343) (by decide +kernel)) (Or.inl (by decide +kernel))
theorem tw_309 : dr_T (Jvm.Cond.methodLink "DrillRows$Tape" (67 : Nat) ({ cls := "DrillRows$Script", name := "describeEvent", desc := "(IIZI)V" } : Jvm.MethodName)) := dr_Tg (List.mem_of_getElem? (i := 344) (by decide +kernel)) (Or.inl (by decide +kernel))
theorem tw_310 : dr_T (Jvm.Cond.instanceMethod ({ cls := "DrillRows$Script", name := "describeEvent", desc := "(IIZI)V" } : Jvm.MethodName)) := dr_Tg (List.mem_of_getElem? (i := 345) (by decide +kernel)) (Or.inl (by decide +kernel))
theorem tw_311 : dr_T (Jvm.Cond.selects "DrillRows$Script" ({ cls := "DrillRows$Script", name := "describeEvent", desc := "(IIZI)V" } : Jvm.MethodName) ({ cls := "DrillRows$Script", name := "describeEvent", desc := "(IIZI)V" } : Jvm.MethodName)) := dr_Tg (List.mem_of_getElem? (i := 346) (by decide +kernel)) (Or.inl (by decide +kernel))
theorem tw_312 : dr_T (Jvm.Cond.code ({ cls := "DrillRows$Script", name := "describeEvent", desc := "(IIZI)V" } : Jvm.MethodName) prog_3_method_6_code (5 : Nat) (Option.none : Option Jvm.ClassFile.FieldType)) := dr_Tg (List.mem_of_getElem? (i := 347) (by decide +kernel)) (Or.inl (by decide +kernel))
theorem tw_313 : dr_T (Jvm.Cond.methodLink "DrillRows$Tape" (44 : Nat) ({ cls := "DrillRows$Tape", name := "parseAim", desc := "(LDrillRows$Script;)V" } : Jvm.MethodName)) := dr_Tg (List.mem_of_getElem? (i := 348) (by decide +kernel)) (Or.inl (by decide +kernel))
theorem tw_315 : dr_T (Jvm.Cond.instanceMethod ({ cls := "DrillRows$Tape", name := "parseAim", desc := "(LDrillRows$Script;)V" } : Jvm.MethodName)) := dr_Tg (List.mem_of_getElem? (i := 350) (by decide +kernel)) (Or.inl (by decide +kernel))
theorem tw_316 : dr_T (Jvm.Cond.code ({ cls := "DrillRows$Tape", name := "parseAim", desc := "(LDrillRows$Script;)V" } : Jvm.MethodName) prog_4_method_7_code (7 : Nat) (Option.none : Option Jvm.ClassFile.FieldType)) := dr_Tg (List.mem_of_getElem? (i := 351) (by decide +kernel)) (Or.inl (by decide +kernel))
theorem tw_317 : dr_T (Jvm.Cond.methodLink "DrillRows$Tape" (71 : Nat) ({ cls := "DrillRows$Script", name := "hasAim", desc := "(I)Z" } : Jvm.MethodName)) := dr_Tg (List.mem_of_getElem? (i := 352) (by decide +kernel)) (Or.inl (by decide +kernel))
theorem tw_318 : dr_T (Jvm.Cond.instanceMethod ({ cls := "DrillRows$Script", name := "hasAim", desc := "(I)Z" } : Jvm.MethodName)) := dr_Tg (List.mem_of_getElem? (i := 353) (by decide +kernel)) (Or.inl (by decide +kernel))
theorem tw_319 : dr_T (Jvm.Cond.selects "DrillRows$Script" ({ cls := "DrillRows$Script", name := "hasAim", desc := "(I)Z" } : Jvm.MethodName) ({ cls := "DrillRows$Script", name := "hasAim", desc := "(I)Z" } : Jvm.MethodName)) := dr_Tg (List.mem_of_getElem? (i := 354) (by decide +kernel)) (Or.inl (by decide +kernel))
theorem tw_320 : dr_T (Jvm.Cond.code ({ cls := "DrillRows$Script", name := "hasAim", desc := "(I)Z" } : Jvm.MethodName) prog_3_method_4_code (2 : Nat) (Option.some Jvm.ClassFile.FieldType.boolean)) := dr_Tg (List.mem_of_getElem? (i := 355) (by decide +kernel)) (Or.inl (by decide +kernel))
theorem tw_321 : dr_T (Jvm.Cond.methodLink "DrillRows$Tape" (74 : Nat) ({ cls := "DrillRows$Script", name := "addAim", desc := "(IIIII)V" } : Jvm.MethodName)) := dr_Tg (List.mem_of_getElem? (i := 356) (by decide +kernel)) (Or.inl (by decide +kernel))
theorem tw_322 : dr_T (Jvm.Cond.instanceMethod ({ cls := "DrillRows$Script", name := "addAim", desc := "(IIIII)V" } : Jvm.MethodName)) := dr_Tg (List.mem_of_getElem? (i := 357) (by decide +kernel)) (Or.inl (by decide +kernel))
theorem tw_323 : dr_T (Jvm.Cond.selects "DrillRows$Script" ({ cls := "DrillRows$Script", name := "addAim", desc := "(IIIII)V" } : Jvm.MethodName) ({ cls := "DrillRows$Script", name := "addAim", desc := "(IIIII)V" } : Jvm.MethodName)) := dr_Tg (List.mem_of_getElem? (i := 358) (by decide +kernel)) (Or.inl (by decide +kernel))
theorem tw_324 : dr_T (Jvm.Cond.code ({ cls := "DrillRows$Script", name := "addAim", desc := "(IIIII)V" } : Jvm.MethodName) prog_3_method_7_code (6 : Nat) (Option.none : Option Jvm.ClassFile.FieldType)) := dr_Tg (List.mem_of_getElem? (i := 359) (by decide +kernel)) (Or.inl (by decide +kernel))
theorem tw_325 : dr_T (Jvm.Cond.classLink "DrillRows" (82 : Nat) "java/lang/IllegalStateException") := dr_Tg (List.mem_of_getElem? (i := 360) (by decide +kernel)) (Or.inl (by decide +kernel))
theorem tw_326 : dr_T (Jvm.Cond.instantiable "java/lang/IllegalStateException" (6 : Nat)) := dr_Tg (List.mem_of_getElem? (i := 361) (by decide +kernel)) (Or.inl (by decide +kernel))
theorem tw_327 : dr_T (Jvm.Cond.castable "java/lang/IllegalStateException" "java/lang/IllegalStateException") := dr_Tf (List.mem_of_getElem? (i := 362) (by decide +kernel)) (by decide +kernel)
theorem tw_328 : dr_T (Jvm.Cond.selects "java/lang/IllegalStateException" ({ cls := "java/lang/Throwable", name := "fillInStackTrace", desc := "(I)Ljava/lang/Throwable;" } : Jvm.MethodName) ({ cls := "java/lang/Throwable", name := "fillInStackTrace", desc := "(I)Ljava/lang/Throwable;" } : Jvm.MethodName)) := dr_Tg (List.mem_of_getElem? (i := 363) (by decide +kernel)) (Or.inl (by decide +kernel))
theorem tw_334 : dr_T (Jvm.Cond.stringRef "DrillRows" (84 : Nat) "the text is wrong") := dr_Ts (List.mem_of_getElem? (i := 369) (by decide +kernel))
theorem tw_335 : dr_T (Jvm.Cond.methodLink "DrillRows" (86 : Nat) ({ cls := "java/lang/IllegalStateException", name := "<init>", desc := "(Ljava/lang/String;)V" } : Jvm.MethodName)) := dr_Tg (List.mem_of_getElem? (i := 370) (by decide +kernel)) (Or.inl (by decide +kernel))
theorem tw_336 : dr_T (Jvm.Cond.instanceMethod ({ cls := "java/lang/IllegalStateException", name := "<init>", desc := "(Ljava/lang/String;)V" } : Jvm.MethodName)) := dr_Tg (List.mem_of_getElem? (i := 371) (by decide +kernel)) (Or.inl (by decide +kernel))
theorem tw_337 : dr_T (Jvm.Cond.code ({ cls := "java/lang/IllegalStateException", name := "<init>", desc := "(Ljava/lang/String;)V" } : Jvm.MethodName) prog_10_method_2_code (2 : Nat) (Option.none : Option Jvm.ClassFile.FieldType)) := dr_Tg (List.mem_of_getElem? (i := 372) (by decide +kernel)) (Or.inl (by decide +kernel))
theorem tw_338 : dr_T (Jvm.Cond.methodLink "java/lang/IllegalStateException" (7 : Nat) ({ cls := "java/lang/RuntimeException", name := "<init>", desc := "(Ljava/lang/String;)V" } : Jvm.MethodName)) := dr_Tg (List.mem_of_getElem? (i := 373) (by decide +kernel)) (Or.inl (by decide +kernel))
theorem tw_341 : dr_T (Jvm.Cond.methodLink "DrillRowsLaw" (104 : Nat) ({ cls := "DrillRowsLaw", name := "begin", desc := "(LDrillRows;[J)I" } : Jvm.MethodName)) := dr_Tg (List.mem_of_getElem? (i := 376) (by decide +kernel)) (Or.inl (by decide +kernel))
theorem tw_342 : dr_T (Jvm.Cond.static ({ cls := "DrillRowsLaw", name := "begin", desc := "(LDrillRows;[J)I" } : Jvm.MethodName)) := dr_Tg (List.mem_of_getElem? (i := 377) (by decide +kernel)) (Or.inl (by decide +kernel))
theorem tw_343 : dr_T (Jvm.Cond.codeWith ({ cls := "DrillRowsLaw", name := "begin", desc := "(LDrillRows;[J)I" } : Jvm.MethodName) method_5_code (3 : Nat) (Option.some Jvm.ClassFile.FieldType.int) [((0 : Nat), (8 : Nat), (11 : Nat), (21 : Nat)), ((0 : Nat), (8 : Nat), (14 : Nat), (15 : Nat))]) := dr_Tg (List.mem_of_getElem? (i := 378) (by decide +kernel)) (Or.inl (by decide +kernel))
theorem tw_344 : dr_T (Jvm.Cond.methodLink "DrillRowsLaw" (23 : Nat) ({ cls := "DrillRows", name := "begin", desc := "()I" } : Jvm.MethodName)) := dr_Tg (List.mem_of_getElem? (i := 379) (by decide +kernel)) (Or.inl (by decide +kernel))
theorem tw_345 : dr_T (Jvm.Cond.instanceMethod ({ cls := "DrillRows", name := "begin", desc := "()I" } : Jvm.MethodName)) := dr_Tg (List.mem_of_getElem? (i := 380) (by decide +kernel)) (Or.inl (by decide +kernel))
theorem tw_346 : dr_T (Jvm.Cond.selects "DrillRows" ({ cls := "DrillRows", name := "begin", desc := "()I" } : Jvm.MethodName) ({ cls := "DrillRows", name := "begin", desc := "()I" } : Jvm.MethodName)) := dr_Tg (List.mem_of_getElem? (i := 381) (by decide +kernel)) (Or.inl (by decide +kernel))
theorem tw_347 : dr_T (Jvm.Cond.code ({ cls := "DrillRows", name := "begin", desc := "()I" } : Jvm.MethodName) prog_1_method_5_code (2 : Nat) (Option.some Jvm.ClassFile.FieldType.int)) := dr_Tg (List.mem_of_getElem? (i := 382) (by decide +kernel)) (Or.inl (by decide +kernel))
theorem tw_348 : dr_T (Jvm.Cond.stringRef "DrillRows" (94 : Nat) "the script has no events") := dr_Ts (List.mem_of_getElem? (i := 383) (by decide +kernel))
theorem tw_349 : dr_T (Jvm.Cond.stringRef "DrillRows" (96 : Nat) "there are 8 drills") := dr_Ts (List.mem_of_getElem? (i := 384) (by decide +kernel))
theorem tw_350 : dr_T (Jvm.Cond.instantiable "DrillRows$Drill" (9 : Nat)) := dr_Tg (List.mem_of_getElem? (i := 385) (by decide +kernel)) (Or.inl (by decide +kernel))
theorem tw_351 : dr_T (Jvm.Cond.methodLink "DrillRows" (98 : Nat) ({ cls := "DrillRows$Drill", name := "<init>", desc := "(LDrillRows$Script;I)V" } : Jvm.MethodName)) := dr_Tg (List.mem_of_getElem? (i := 386) (by decide +kernel)) (Or.inl (by decide +kernel))
theorem tw_352 : dr_T (Jvm.Cond.instanceMethod ({ cls := "DrillRows$Drill", name := "<init>", desc := "(LDrillRows$Script;I)V" } : Jvm.MethodName)) := dr_Tg (List.mem_of_getElem? (i := 387) (by decide +kernel)) (Or.inl (by decide +kernel))
theorem tw_353 : dr_T (Jvm.Cond.code ({ cls := "DrillRows$Drill", name := "<init>", desc := "(LDrillRows$Script;I)V" } : Jvm.MethodName) prog_2_method_1_code (3 : Nat) (Option.none : Option Jvm.ClassFile.FieldType)) := dr_Tg (List.mem_of_getElem? (i := 388) (by decide +kernel)) (Or.inl (by decide +kernel))
theorem tw_354 : dr_T (Jvm.Cond.methodLink "DrillRows$Drill" (3 : Nat) ({ cls := "java/lang/Object", name := "<init>", desc := "()V" } : Jvm.MethodName)) := dr_Tg (List.mem_of_getElem? (i := 389) (by decide +kernel)) (Or.inl (by decide +kernel))
theorem tw_355 : dr_T (Jvm.Cond.methodLink "DrillRows$Drill" (42 : Nat) ({ cls := "java/util/Arrays", name := "fill", desc := "([II)V" } : Jvm.MethodName)) := dr_Tg (List.mem_of_getElem? (i := 390) (by decide +kernel)) (Or.inl (by decide +kernel))
theorem tw_356 : dr_T (Jvm.Cond.fieldLink "DrillRows$Drill" (35 : Nat) "DrillRows$Drill" "script" "LDrillRows$Script;") := dr_Tg (List.mem_of_getElem? (i := 391) (by decide +kernel)) (Or.inl (by decide +kernel))
theorem tw_357 : dr_T (Jvm.Cond.fieldLink "DrillRows" (136 : Nat) "DrillRows$Drill" "script" "LDrillRows$Script;") := dr_Tg (List.mem_of_getElem? (i := 392) (by decide +kernel)) (Or.inl (by decide +kernel))
theorem tw_358 : dr_T (Jvm.Cond.fieldLink "DrillRows$Drill" (39 : Nat) "DrillRows$Drill" "beganAt" "I") := dr_Tg (List.mem_of_getElem? (i := 393) (by decide +kernel)) (Or.inl (by decide +kernel))
theorem tw_359 : dr_T (Jvm.Cond.fieldLink "DrillRows" (207 : Nat) "DrillRows$Drill" "beganAt" "I") := dr_Tg (List.mem_of_getElem? (i := 394) (by decide +kernel)) (Or.inl (by decide +kernel))
theorem tw_360 : dr_T (Jvm.Cond.fieldLink "DrillRows$Drill" (9 : Nat) "DrillRows$Drill" "on" "Z") := dr_Tg (List.mem_of_getElem? (i := 395) (by decide +kernel)) (Or.inl (by decide +kernel))
theorem tw_361 : dr_T (Jvm.Cond.fieldLink "DrillRows" (109 : Nat) "DrillRows$Drill" "on" "Z") := dr_Tg (List.mem_of_getElem? (i := 396) (by decide +kernel)) (Or.inl (by decide +kernel))
theorem tw_362 : dr_T (Jvm.Cond.fieldLink "DrillRows$Drill" (15 : Nat) "DrillRows$Drill" "eventBegin" "[I") := dr_Tg (List.mem_of_getElem? (i := 397) (by decide +kernel)) (Or.inl (by decide +kernel))
theorem tw_363 : dr_T (Jvm.Cond.fieldLink "DrillRows$Drill" (19 : Nat) "DrillRows$Drill" "begunCount" "I") := dr_Tg (List.mem_of_getElem? (i := 398) (by decide +kernel)) (Or.inl (by decide +kernel))
theorem tw_364 : dr_T (Jvm.Cond.fieldLink "DrillRows" (216 : Nat) "DrillRows$Drill" "begunCount" "I") := dr_Tg (List.mem_of_getElem? (i := 399) (by decide +kernel)) (Or.inl (by decide +kernel))
theorem tw_365 : dr_T (Jvm.Cond.fieldLink "DrillRows$Drill" (23 : Nat) "DrillRows$Drill" "firstAct" "[I") := dr_Tg (List.mem_of_getElem? (i := 400) (by decide +kernel)) (Or.inl (by decide +kernel))
theorem tw_366 : dr_T (Jvm.Cond.fieldLink "DrillRows$Drill" (26 : Nat) "DrillRows$Drill" "actKind" "[I") := dr_Tg (List.mem_of_getElem? (i := 401) (by decide +kernel)) (Or.inl (by decide +kernel))
theorem tw_367 : dr_T (Jvm.Cond.fieldLink "DrillRows$Drill" (29 : Nat) "DrillRows$Drill" "actSecond" "[I") := dr_Tg (List.mem_of_getElem? (i := 402) (by decide +kernel)) (Or.inl (by decide +kernel))
theorem tw_368 : dr_T (Jvm.Cond.fieldLink "DrillRows$Drill" (32 : Nat) "DrillRows$Drill" "actCount" "I") := dr_Tg (List.mem_of_getElem? (i := 403) (by decide +kernel)) (Or.inl (by decide +kernel))
theorem tw_369 : dr_T (Jvm.Cond.fieldLink "DrillRows" (210 : Nat) "DrillRows$Drill" "actCount" "I") := dr_Tg (List.mem_of_getElem? (i := 404) (by decide +kernel)) (Or.inl (by decide +kernel))
theorem tw_389 : dr_T (Jvm.Cond.methodLink "DrillRows" (101 : Nat) ({ cls := "DrillRows$Drill", name := "beginDueEvents", desc := "(I)I" } : Jvm.MethodName)) := dr_Tg (List.mem_of_getElem? (i := 424) (by decide +kernel)) (Or.inl (by decide +kernel))
theorem tw_390 : dr_T (Jvm.Cond.instanceMethod ({ cls := "DrillRows$Drill", name := "beginDueEvents", desc := "(I)I" } : Jvm.MethodName)) := dr_Tg (List.mem_of_getElem? (i := 425) (by decide +kernel)) (Or.inl (by decide +kernel))
theorem tw_391 : dr_T (Jvm.Cond.selects "DrillRows$Drill" ({ cls := "DrillRows$Drill", name := "beginDueEvents", desc := "(I)I" } : Jvm.MethodName) ({ cls := "DrillRows$Drill", name := "beginDueEvents", desc := "(I)I" } : Jvm.MethodName)) := dr_Tg (List.mem_of_getElem? (i := 426) (by decide +kernel)) (Or.inl (by decide +kernel))
theorem tw_392 : dr_T (Jvm.Cond.code ({ cls := "DrillRows$Drill", name := "beginDueEvents", desc := "(I)I" } : Jvm.MethodName) prog_2_method_6_code (6 : Nat) (Option.some Jvm.ClassFile.FieldType.int)) := dr_Tg (List.mem_of_getElem? (i := 427) (by decide +kernel)) (Or.inl (by decide +kernel))
theorem tw_393 : dr_T (Jvm.Cond.methodLink "DrillRows$Drill" (48 : Nat) ({ cls := "DrillRows$Drill", name := "drillSecond", desc := "(I)I" } : Jvm.MethodName)) := dr_Tg (List.mem_of_getElem? (i := 428) (by decide +kernel)) (Or.inl (by decide +kernel))
theorem tw_394 : dr_T (Jvm.Cond.instanceMethod ({ cls := "DrillRows$Drill", name := "drillSecond", desc := "(I)I" } : Jvm.MethodName)) := dr_Tg (List.mem_of_getElem? (i := 429) (by decide +kernel)) (Or.inl (by decide +kernel))
theorem tw_395 : dr_T (Jvm.Cond.selects "DrillRows$Drill" ({ cls := "DrillRows$Drill", name := "drillSecond", desc := "(I)I" } : Jvm.MethodName) ({ cls := "DrillRows$Drill", name := "drillSecond", desc := "(I)I" } : Jvm.MethodName)) := dr_Tg (List.mem_of_getElem? (i := 430) (by decide +kernel)) (Or.inl (by decide +kernel))
theorem tw_396 : dr_T (Jvm.Cond.code ({ cls := "DrillRows$Drill", name := "drillSecond", desc := "(I)I" } : Jvm.MethodName) prog_2_method_2_code (2 : Nat) (Option.some Jvm.ClassFile.FieldType.int)) := dr_Tg (List.mem_of_getElem? (i := 431) (by decide +kernel)) (Or.inl (by decide +kernel))
theorem tw_397 : dr_T (Jvm.Cond.methodLink "DrillRows$Drill" (52 : Nat) ({ cls := "DrillRows$Script", name := "hasEvent", desc := "(I)Z" } : Jvm.MethodName)) := dr_Tg (List.mem_of_getElem? (i := 432) (by decide +kernel)) (Or.inl (by decide +kernel))
theorem tw_398 : dr_T (Jvm.Cond.methodLink "DrillRows$Drill" (58 : Nat) ({ cls := "DrillRows$Drill", name := "dueSecond", desc := "(I)I" } : Jvm.MethodName)) := dr_Tg (List.mem_of_getElem? (i := 433) (by decide +kernel)) (Or.inl (by decide +kernel))
theorem tw_400 : dr_T (Jvm.Cond.instanceMethod ({ cls := "DrillRows$Drill", name := "dueSecond", desc := "(I)I" } : Jvm.MethodName)) := dr_Tg (List.mem_of_getElem? (i := 435) (by decide +kernel)) (Or.inl (by decide +kernel))
theorem tw_401 : dr_T (Jvm.Cond.code ({ cls := "DrillRows$Drill", name := "dueSecond", desc := "(I)I" } : Jvm.MethodName) prog_2_method_7_code (4 : Nat) (Option.some Jvm.ClassFile.FieldType.int)) := dr_Tg (List.mem_of_getElem? (i := 436) (by decide +kernel)) (Or.inl (by decide +kernel))
theorem tw_402 : dr_T (Jvm.Cond.methodLink "DrillRows$Drill" (67 : Nat) ({ cls := "DrillRows$Drill", name := "firstSecondOf", desc := "(I)I" } : Jvm.MethodName)) := dr_Tg (List.mem_of_getElem? (i := 437) (by decide +kernel)) (Or.inl (by decide +kernel))
theorem tw_404 : dr_T (Jvm.Cond.instanceMethod ({ cls := "DrillRows$Drill", name := "firstSecondOf", desc := "(I)I" } : Jvm.MethodName)) := dr_Tg (List.mem_of_getElem? (i := 439) (by decide +kernel)) (Or.inl (by decide +kernel))
theorem tw_405 : dr_T (Jvm.Cond.code ({ cls := "DrillRows$Drill", name := "firstSecondOf", desc := "(I)I" } : Jvm.MethodName) prog_2_method_8_code (2 : Nat) (Option.some Jvm.ClassFile.FieldType.int)) := dr_Tg (List.mem_of_getElem? (i := 440) (by decide +kernel)) (Or.inl (by decide +kernel))
theorem tw_406 : dr_T (Jvm.Cond.methodLink "DrillRows$Drill" (73 : Nat) ({ cls := "java/lang/Math", name := "min", desc := "(II)I" } : Jvm.MethodName)) := dr_Tg (List.mem_of_getElem? (i := 441) (by decide +kernel)) (Or.inl (by decide +kernel))
theorem tw_407 : dr_T (Jvm.Cond.static ({ cls := "java/lang/Math", name := "min", desc := "(II)I" } : Jvm.MethodName)) := dr_Tg (List.mem_of_getElem? (i := 442) (by decide +kernel)) (Or.inl (by decide +kernel))
theorem tw_408 : dr_T (Jvm.Cond.code ({ cls := "java/lang/Math", name := "min", desc := "(II)I" } : Jvm.MethodName) prog_12_method_69_code (2 : Nat) (Option.some Jvm.ClassFile.FieldType.int)) := dr_Tg (List.mem_of_getElem? (i := 443) (by decide +kernel)) (Or.inl (by decide +kernel))
theorem tw_409 : dr_T (Jvm.Cond.methodLink "DrillRowsLaw" (107 : Nat) ({ cls := "DrillRowsLaw", name := "stop", desc := "(LDrillRows;I)I" } : Jvm.MethodName)) := dr_Tg (List.mem_of_getElem? (i := 444) (by decide +kernel)) (Or.inl (by decide +kernel))
theorem tw_410 : dr_T (Jvm.Cond.static ({ cls := "DrillRowsLaw", name := "stop", desc := "(LDrillRows;I)I" } : Jvm.MethodName)) := dr_Tg (List.mem_of_getElem? (i := 445) (by decide +kernel)) (Or.inl (by decide +kernel))
theorem tw_411 : dr_T (Jvm.Cond.codeWith ({ cls := "DrillRowsLaw", name := "stop", desc := "(LDrillRows;I)I" } : Jvm.MethodName) method_6_code (3 : Nat) (Option.some Jvm.ClassFile.FieldType.int) [((0 : Nat), (5 : Nat), (8 : Nat), (30 : Nat)), ((0 : Nat), (5 : Nat), (11 : Nat), (21 : Nat))]) := dr_Tg (List.mem_of_getElem? (i := 446) (by decide +kernel)) (Or.inl (by decide +kernel))
theorem tw_412 : dr_T (Jvm.Cond.classLink "DrillRowsLaw" (30 : Nat) "java/lang/IllegalArgumentException") := dr_Tg (List.mem_of_getElem? (i := 447) (by decide +kernel)) (Or.inl (by decide +kernel))
theorem tw_413 : dr_T (Jvm.Cond.methodLink "DrillRowsLaw" (26 : Nat) ({ cls := "DrillRows", name := "stop", desc := "(I)V" } : Jvm.MethodName)) := dr_Tg (List.mem_of_getElem? (i := 448) (by decide +kernel)) (Or.inl (by decide +kernel))
theorem tw_414 : dr_T (Jvm.Cond.instanceMethod ({ cls := "DrillRows", name := "stop", desc := "(I)V" } : Jvm.MethodName)) := dr_Tg (List.mem_of_getElem? (i := 449) (by decide +kernel)) (Or.inl (by decide +kernel))
theorem tw_415 : dr_T (Jvm.Cond.selects "DrillRows" ({ cls := "DrillRows", name := "stop", desc := "(I)V" } : Jvm.MethodName) ({ cls := "DrillRows", name := "stop", desc := "(I)V" } : Jvm.MethodName)) := dr_Tg (List.mem_of_getElem? (i := 450) (by decide +kernel)) (Or.inl (by decide +kernel))
theorem tw_416 : dr_T (Jvm.Cond.code ({ cls := "DrillRows", name := "stop", desc := "(I)V" } : Jvm.MethodName) prog_1_method_6_code (4 : Nat) (Option.none : Option Jvm.ClassFile.FieldType)) := dr_Tg (List.mem_of_getElem? (i := 451) (by decide +kernel)) (Or.inl (by decide +kernel))
theorem tw_417 : dr_T (Jvm.Cond.methodLink "DrillRows" (105 : Nat) ({ cls := "DrillRows", name := "knownDrill", desc := "(I)LDrillRows$Drill;" } : Jvm.MethodName)) := dr_Tg (List.mem_of_getElem? (i := 452) (by decide +kernel)) (Or.inl (by decide +kernel))
theorem tw_419 : dr_T (Jvm.Cond.instanceMethod ({ cls := "DrillRows", name := "knownDrill", desc := "(I)LDrillRows$Drill;" } : Jvm.MethodName)) := dr_Tg (List.mem_of_getElem? (i := 454) (by decide +kernel)) (Or.inl (by decide +kernel))
theorem tw_420 : dr_T (Jvm.Cond.code ({ cls := "DrillRows", name := "knownDrill", desc := "(I)LDrillRows$Drill;" } : Jvm.MethodName) prog_1_method_21_code (3 : Nat) (Option.some (Jvm.ClassFile.FieldType.object "DrillRows$Drill"))) := dr_Tg (List.mem_of_getElem? (i := 455) (by decide +kernel)) (Or.inl (by decide +kernel))
theorem tw_421 : dr_T (Jvm.Cond.classLink "DrillRows" (114 : Nat) "java/lang/IllegalArgumentException") := dr_Tg (List.mem_of_getElem? (i := 456) (by decide +kernel)) (Or.inl (by decide +kernel))
theorem tw_422 : dr_T (Jvm.Cond.instantiable "java/lang/IllegalArgumentException" (6 : Nat)) := dr_Tg (List.mem_of_getElem? (i := 457) (by decide +kernel)) (Or.inl (by decide +kernel))
theorem tw_423 : dr_T (Jvm.Cond.castable "java/lang/IllegalArgumentException" "java/lang/IllegalArgumentException") := dr_Tf (List.mem_of_getElem? (i := 458) (by decide +kernel)) (by decide +kernel)
theorem tw_424 : dr_T (Jvm.Cond.selects "java/lang/IllegalArgumentException" ({ cls := "java/lang/Throwable", name := "fillInStackTrace", desc := "(I)Ljava/lang/Throwable;" } : Jvm.MethodName) ({ cls := "java/lang/Throwable", name := "fillInStackTrace", desc := "(I)Ljava/lang/Throwable;" } : Jvm.MethodName)) := dr_Tg (List.mem_of_getElem? (i := 459) (by decide +kernel)) (Or.inl (by decide +kernel))
theorem tw_430 : dr_T (Jvm.Cond.stringRef "DrillRows" (219 : Nat) "no such drill") := dr_Ts (List.mem_of_getElem? (i := 465) (by decide +kernel))
theorem tw_431 : dr_T (Jvm.Cond.methodLink "DrillRows" (118 : Nat) ({ cls := "java/lang/IllegalArgumentException", name := "<init>", desc := "(Ljava/lang/String;)V" } : Jvm.MethodName)) := dr_Tg (List.mem_of_getElem? (i := 466) (by decide +kernel)) (Or.inl (by decide +kernel))
theorem tw_432 : dr_T (Jvm.Cond.instanceMethod ({ cls := "java/lang/IllegalArgumentException", name := "<init>", desc := "(Ljava/lang/String;)V" } : Jvm.MethodName)) := dr_Tg (List.mem_of_getElem? (i := 467) (by decide +kernel)) (Or.inl (by decide +kernel))
theorem tw_433 : dr_T (Jvm.Cond.code ({ cls := "java/lang/IllegalArgumentException", name := "<init>", desc := "(Ljava/lang/String;)V" } : Jvm.MethodName) prog_9_method_2_code (2 : Nat) (Option.none : Option Jvm.ClassFile.FieldType)) := dr_Tg (List.mem_of_getElem? (i := 468) (by decide +kernel)) (Or.inl (by decide +kernel))
theorem tw_434 : dr_T (Jvm.Cond.methodLink "java/lang/IllegalArgumentException" (7 : Nat) ({ cls := "java/lang/RuntimeException", name := "<init>", desc := "(Ljava/lang/String;)V" } : Jvm.MethodName)) := dr_Tg (List.mem_of_getElem? (i := 469) (by decide +kernel)) (Or.inl (by decide +kernel))
theorem tw_437 : dr_T (Jvm.Cond.stringRef "DrillRows" (112 : Nat) "the drill is stopped") := dr_Ts (List.mem_of_getElem? (i := 472) (by decide +kernel))
theorem tw_438 : dr_T (Jvm.Cond.methodLink "DrillRowsLaw" (111 : Nat) ({ cls := "DrillRowsLaw", name := "unit", desc := "(LDrillRows;II)I" } : Jvm.MethodName)) := dr_Tg (List.mem_of_getElem? (i := 473) (by decide +kernel)) (Or.inl (by decide +kernel))
theorem tw_439 : dr_T (Jvm.Cond.static ({ cls := "DrillRowsLaw", name := "unit", desc := "(LDrillRows;II)I" } : Jvm.MethodName)) := dr_Tg (List.mem_of_getElem? (i := 474) (by decide +kernel)) (Or.inl (by decide +kernel))
theorem tw_440 : dr_T (Jvm.Cond.codeWith ({ cls := "DrillRowsLaw", name := "unit", desc := "(LDrillRows;II)I" } : Jvm.MethodName) method_7_code (4 : Nat) (Option.some Jvm.ClassFile.FieldType.int) [((0 : Nat), (6 : Nat), (9 : Nat), (30 : Nat)), ((0 : Nat), (6 : Nat), (12 : Nat), (21 : Nat))]) := dr_Tg (List.mem_of_getElem? (i := 475) (by decide +kernel)) (Or.inl (by decide +kernel))
theorem tw_441 : dr_T (Jvm.Cond.methodLink "DrillRowsLaw" (32 : Nat) ({ cls := "DrillRows", name := "unit", desc := "(II)V" } : Jvm.MethodName)) := dr_Tg (List.mem_of_getElem? (i := 476) (by decide +kernel)) (Or.inl (by decide +kernel))
theorem tw_442 : dr_T (Jvm.Cond.instanceMethod ({ cls := "DrillRows", name := "unit", desc := "(II)V" } : Jvm.MethodName)) := dr_Tg (List.mem_of_getElem? (i := 477) (by decide +kernel)) (Or.inl (by decide +kernel))
theorem tw_443 : dr_T (Jvm.Cond.selects "DrillRows" ({ cls := "DrillRows", name := "unit", desc := "(II)V" } : Jvm.MethodName) ({ cls := "DrillRows", name := "unit", desc := "(II)V" } : Jvm.MethodName)) := dr_Tg (List.mem_of_getElem? (i := 478) (by decide +kernel)) (Or.inl (by decide +kernel))
theorem tw_444 : dr_T (Jvm.Cond.code ({ cls := "DrillRows", name := "unit", desc := "(II)V" } : Jvm.MethodName) prog_1_method_7_code (4 : Nat) (Option.none : Option Jvm.ClassFile.FieldType)) := dr_Tg (List.mem_of_getElem? (i := 479) (by decide +kernel)) (Or.inl (by decide +kernel))
theorem tw_445 : dr_T (Jvm.Cond.stringRef "DrillRows" (116 : Nat) "no such unit") := dr_Ts (List.mem_of_getElem? (i := 480) (by decide +kernel))
theorem tw_446 : dr_T (Jvm.Cond.stringRef "DrillRows" (119 : Nat) "the drill is stopped, or the unit drills") := dr_Ts (List.mem_of_getElem? (i := 481) (by decide +kernel))
theorem tw_447 : dr_T (Jvm.Cond.methodLink "DrillRowsLaw" (115 : Nat) ({ cls := "DrillRowsLaw", name := "real", desc := "(LDrillRows;I[J)I" } : Jvm.MethodName)) := dr_Tg (List.mem_of_getElem? (i := 482) (by decide +kernel)) (Or.inl (by decide +kernel))
theorem tw_448 : dr_T (Jvm.Cond.static ({ cls := "DrillRowsLaw", name := "real", desc := "(LDrillRows;I[J)I" } : Jvm.MethodName)) := dr_Tg (List.mem_of_getElem? (i := 483) (by decide +kernel)) (Or.inl (by decide +kernel))
theorem tw_449 : dr_T (Jvm.Cond.codeWith ({ cls := "DrillRowsLaw", name := "real", desc := "(LDrillRows;I[J)I" } : Jvm.MethodName) method_8_code (4 : Nat) (Option.some Jvm.ClassFile.FieldType.int) [((0 : Nat), (9 : Nat), (12 : Nat), (30 : Nat))]) := dr_Tg (List.mem_of_getElem? (i := 484) (by decide +kernel)) (Or.inl (by decide +kernel))
theorem tw_450 : dr_T (Jvm.Cond.methodLink "DrillRowsLaw" (36 : Nat) ({ cls := "DrillRows", name := "real", desc := "(I)I" } : Jvm.MethodName)) := dr_Tg (List.mem_of_getElem? (i := 485) (by decide +kernel)) (Or.inl (by decide +kernel))
theorem tw_451 : dr_T (Jvm.Cond.instanceMethod ({ cls := "DrillRows", name := "real", desc := "(I)I" } : Jvm.MethodName)) := dr_Tg (List.mem_of_getElem? (i := 486) (by decide +kernel)) (Or.inl (by decide +kernel))
theorem tw_452 : dr_T (Jvm.Cond.selects "DrillRows" ({ cls := "DrillRows", name := "real", desc := "(I)I" } : Jvm.MethodName) ({ cls := "DrillRows", name := "real", desc := "(I)I" } : Jvm.MethodName)) := dr_Tg (List.mem_of_getElem? (i := 487) (by decide +kernel)) (Or.inl (by decide +kernel))
theorem tw_453 : dr_T (Jvm.Cond.code ({ cls := "DrillRows", name := "real", desc := "(I)I" } : Jvm.MethodName) prog_1_method_8_code (3 : Nat) (Option.some Jvm.ClassFile.FieldType.int)) := dr_Tg (List.mem_of_getElem? (i := 488) (by decide +kernel)) (Or.inl (by decide +kernel))
theorem tw_454 : dr_T (Jvm.Cond.methodLink "DrillRowsLaw" (119 : Nat) ({ cls := "DrillRowsLaw", name := "act", desc := "(LDrillRows;II[J)I" } : Jvm.MethodName)) := dr_Tg (List.mem_of_getElem? (i := 489) (by decide +kernel)) (Or.inl (by decide +kernel))
theorem tw_455 : dr_T (Jvm.Cond.static ({ cls := "DrillRowsLaw", name := "act", desc := "(LDrillRows;II[J)I" } : Jvm.MethodName)) := dr_Tg (List.mem_of_getElem? (i := 490) (by decide +kernel)) (Or.inl (by decide +kernel))
theorem tw_456 : dr_T (Jvm.Cond.codeWith ({ cls := "DrillRowsLaw", name := "act", desc := "(LDrillRows;II[J)I" } : Jvm.MethodName) method_9_code (5 : Nat) (Option.some Jvm.ClassFile.FieldType.int) [((0 : Nat), (10 : Nat), (13 : Nat), (30 : Nat)), ((0 : Nat), (10 : Nat), (17 : Nat), (21 : Nat)), ((0 : Nat), (10 : Nat), (21 : Nat), (15 : Nat))]) := dr_Tg (List.mem_of_getElem? (i := 491) (by decide +kernel)) (Or.inl (by decide +kernel))
theorem tw_457 : dr_T (Jvm.Cond.methodLink "DrillRowsLaw" (40 : Nat) ({ cls := "DrillRows", name := "act", desc := "(II)I" } : Jvm.MethodName)) := dr_Tg (List.mem_of_getElem? (i := 492) (by decide +kernel)) (Or.inl (by decide +kernel))
theorem tw_458 : dr_T (Jvm.Cond.instanceMethod ({ cls := "DrillRows", name := "act", desc := "(II)I" } : Jvm.MethodName)) := dr_Tg (List.mem_of_getElem? (i := 493) (by decide +kernel)) (Or.inl (by decide +kernel))
theorem tw_459 : dr_T (Jvm.Cond.selects "DrillRows" ({ cls := "DrillRows", name := "act", desc := "(II)I" } : Jvm.MethodName) ({ cls := "DrillRows", name := "act", desc := "(II)I" } : Jvm.MethodName)) := dr_Tg (List.mem_of_getElem? (i := 494) (by decide +kernel)) (Or.inl (by decide +kernel))
theorem tw_460 : dr_T (Jvm.Cond.code ({ cls := "DrillRows", name := "act", desc := "(II)I" } : Jvm.MethodName) prog_1_method_9_code (4 : Nat) (Option.some Jvm.ClassFile.FieldType.int)) := dr_Tg (List.mem_of_getElem? (i := 495) (by decide +kernel)) (Or.inl (by decide +kernel))
theorem tw_461 : dr_T (Jvm.Cond.stringRef "DrillRows" (121 : Nat) "no such act") := dr_Ts (List.mem_of_getElem? (i := 496) (by decide +kernel))
theorem tw_462 : dr_T (Jvm.Cond.methodLink "DrillRows" (123 : Nat) ({ cls := "DrillRows$Drill", name := "hasRoomForAct", desc := "()Z" } : Jvm.MethodName)) := dr_Tg (List.mem_of_getElem? (i := 497) (by decide +kernel)) (Or.inl (by decide +kernel))
theorem tw_463 : dr_T (Jvm.Cond.instanceMethod ({ cls := "DrillRows$Drill", name := "hasRoomForAct", desc := "()Z" } : Jvm.MethodName)) := dr_Tg (List.mem_of_getElem? (i := 498) (by decide +kernel)) (Or.inl (by decide +kernel))
theorem tw_464 : dr_T (Jvm.Cond.selects "DrillRows$Drill" ({ cls := "DrillRows$Drill", name := "hasRoomForAct", desc := "()Z" } : Jvm.MethodName) ({ cls := "DrillRows$Drill", name := "hasRoomForAct", desc := "()Z" } : Jvm.MethodName)) := dr_Tg (List.mem_of_getElem? (i := 499) (by decide +kernel)) (Or.inl (by decide +kernel))
theorem tw_465 : dr_T (Jvm.Cond.code ({ cls := "DrillRows$Drill", name := "hasRoomForAct", desc := "()Z" } : Jvm.MethodName) prog_2_method_4_code (1 : Nat) (Option.some Jvm.ClassFile.FieldType.boolean)) := dr_Tg (List.mem_of_getElem? (i := 500) (by decide +kernel)) (Or.inl (by decide +kernel))
theorem tw_466 : dr_T (Jvm.Cond.stringRef "DrillRows" (127 : Nat) "the drill had 60 acts") := dr_Ts (List.mem_of_getElem? (i := 501) (by decide +kernel))
theorem tw_467 : dr_T (Jvm.Cond.methodLink "DrillRows" (129 : Nat) ({ cls := "DrillRows$Drill", name := "noteAct", desc := "(II)V" } : Jvm.MethodName)) := dr_Tg (List.mem_of_getElem? (i := 502) (by decide +kernel)) (Or.inl (by decide +kernel))
theorem tw_468 : dr_T (Jvm.Cond.instanceMethod ({ cls := "DrillRows$Drill", name := "noteAct", desc := "(II)V" } : Jvm.MethodName)) := dr_Tg (List.mem_of_getElem? (i := 503) (by decide +kernel)) (Or.inl (by decide +kernel))
theorem tw_469 : dr_T (Jvm.Cond.selects "DrillRows$Drill" ({ cls := "DrillRows$Drill", name := "noteAct", desc := "(II)V" } : Jvm.MethodName) ({ cls := "DrillRows$Drill", name := "noteAct", desc := "(II)V" } : Jvm.MethodName)) := dr_Tg (List.mem_of_getElem? (i := 504) (by decide +kernel)) (Or.inl (by decide +kernel))
theorem tw_470 : dr_T (Jvm.Cond.code ({ cls := "DrillRows$Drill", name := "noteAct", desc := "(II)V" } : Jvm.MethodName) prog_2_method_5_code (4 : Nat) (Option.none : Option Jvm.ClassFile.FieldType)) := dr_Tg (List.mem_of_getElem? (i := 505) (by decide +kernel)) (Or.inl (by decide +kernel))
theorem tw_471 : dr_T (Jvm.Cond.methodLink "DrillRowsLaw" (123 : Nat) ({ cls := "DrillRowsLaw", name := "tick", desc := "(LDrillRows;I[J)I" } : Jvm.MethodName)) := dr_Tg (List.mem_of_getElem? (i := 506) (by decide +kernel)) (Or.inl (by decide +kernel))
theorem tw_472 : dr_T (Jvm.Cond.static ({ cls := "DrillRowsLaw", name := "tick", desc := "(LDrillRows;I[J)I" } : Jvm.MethodName)) := dr_Tg (List.mem_of_getElem? (i := 507) (by decide +kernel)) (Or.inl (by decide +kernel))
theorem tw_473 : dr_T (Jvm.Cond.codeWith ({ cls := "DrillRowsLaw", name := "tick", desc := "(LDrillRows;I[J)I" } : Jvm.MethodName) method_10_code (4 : Nat) (Option.some Jvm.ClassFile.FieldType.int) [((0 : Nat), (9 : Nat), (12 : Nat), (13 : Nat))]) := dr_Tg (List.mem_of_getElem? (i := 508) (by decide +kernel)) (Or.inl (by decide +kernel))
theorem tw_474 : dr_T (Jvm.Cond.methodLink "DrillRowsLaw" (44 : Nat) ({ cls := "DrillRows", name := "tick", desc := "(I)I" } : Jvm.MethodName)) := dr_Tg (List.mem_of_getElem? (i := 509) (by decide +kernel)) (Or.inl (by decide +kernel))
theorem tw_475 : dr_T (Jvm.Cond.instanceMethod ({ cls := "DrillRows", name := "tick", desc := "(I)I" } : Jvm.MethodName)) := dr_Tg (List.mem_of_getElem? (i := 510) (by decide +kernel)) (Or.inl (by decide +kernel))
theorem tw_476 : dr_T (Jvm.Cond.selects "DrillRows" ({ cls := "DrillRows", name := "tick", desc := "(I)I" } : Jvm.MethodName) ({ cls := "DrillRows", name := "tick", desc := "(I)I" } : Jvm.MethodName)) := dr_Tg (List.mem_of_getElem? (i := 511) (by decide +kernel)) (Or.inl (by decide +kernel))
theorem tw_477 : dr_T (Jvm.Cond.code ({ cls := "DrillRows", name := "tick", desc := "(I)I" } : Jvm.MethodName) prog_1_method_10_code (7 : Nat) (Option.some Jvm.ClassFile.FieldType.int)) := dr_Tg (List.mem_of_getElem? (i := 512) (by decide +kernel)) (Or.inl (by decide +kernel))
theorem tw_478 : dr_T (Jvm.Cond.constant "DrillRows" (133 : Nat) (99999 : Int32)) := dr_Tg (List.mem_of_getElem? (i := 513) (by decide +kernel)) (Or.inl (by decide +kernel))
theorem tw_479 : dr_T (Jvm.Cond.stringRef "DrillRows" (134 : Nat) "not 1 to 5,000 seconds, or beyond the last second") := dr_Ts (List.mem_of_getElem? (i := 514) (by decide +kernel))
theorem tw_480 : dr_T (Jvm.Cond.methodLink "DrillRowsLaw" (126 : Nat) ({ cls := "DrillRowsLaw", name := "event", desc := "(LDrillRows;III[J)I" } : Jvm.MethodName)) := dr_Tg (List.mem_of_getElem? (i := 515) (by decide +kernel)) (Or.inl (by decide +kernel))
theorem tw_481 : dr_T (Jvm.Cond.static ({ cls := "DrillRowsLaw", name := "event", desc := "(LDrillRows;III[J)I" } : Jvm.MethodName)) := dr_Tg (List.mem_of_getElem? (i := 516) (by decide +kernel)) (Or.inl (by decide +kernel))
theorem tw_482 : dr_T (Jvm.Cond.codeWith ({ cls := "DrillRowsLaw", name := "event", desc := "(LDrillRows;III[J)I" } : Jvm.MethodName) method_11_code (6 : Nat) (Option.some Jvm.ClassFile.FieldType.int) [((0 : Nat), (12 : Nat), (15 : Nat), (30 : Nat))]) := dr_Tg (List.mem_of_getElem? (i := 517) (by decide +kernel)) (Or.inl (by decide +kernel))
theorem tw_483 : dr_T (Jvm.Cond.methodLink "DrillRowsLaw" (47 : Nat) ({ cls := "DrillRows", name := "event", desc := "(III)I" } : Jvm.MethodName)) := dr_Tg (List.mem_of_getElem? (i := 518) (by decide +kernel)) (Or.inl (by decide +kernel))
theorem tw_484 : dr_T (Jvm.Cond.instanceMethod ({ cls := "DrillRows", name := "event", desc := "(III)I" } : Jvm.MethodName)) := dr_Tg (List.mem_of_getElem? (i := 519) (by decide +kernel)) (Or.inl (by decide +kernel))
theorem tw_485 : dr_T (Jvm.Cond.selects "DrillRows" ({ cls := "DrillRows", name := "event", desc := "(III)I" } : Jvm.MethodName) ({ cls := "DrillRows", name := "event", desc := "(III)I" } : Jvm.MethodName)) := dr_Tg (List.mem_of_getElem? (i := 520) (by decide +kernel)) (Or.inl (by decide +kernel))
theorem tw_486 : dr_T (Jvm.Cond.code ({ cls := "DrillRows", name := "event", desc := "(III)I" } : Jvm.MethodName) prog_1_method_11_code (5 : Nat) (Option.some Jvm.ClassFile.FieldType.int)) := dr_Tg (List.mem_of_getElem? (i := 521) (by decide +kernel)) (Or.inl (by decide +kernel))
theorem tw_487 : dr_T (Jvm.Cond.methodLink "DrillRows" (137 : Nat) ({ cls := "DrillRows$Script", name := "hasEvent", desc := "(I)Z" } : Jvm.MethodName)) := dr_Tg (List.mem_of_getElem? (i := 522) (by decide +kernel)) (Or.inl (by decide +kernel))
theorem tw_488 : dr_T (Jvm.Cond.stringRef "DrillRows" (140 : Nat) "no such event") := dr_Ts (List.mem_of_getElem? (i := 523) (by decide +kernel))
theorem tw_489 : dr_T (Jvm.Cond.methodLink "DrillRows" (142 : Nat) ({ cls := "DrillRows$Drill", name := "beginOf", desc := "(I)I" } : Jvm.MethodName)) := dr_Tg (List.mem_of_getElem? (i := 524) (by decide +kernel)) (Or.inl (by decide +kernel))
theorem tw_490 : dr_T (Jvm.Cond.instanceMethod ({ cls := "DrillRows$Drill", name := "beginOf", desc := "(I)I" } : Jvm.MethodName)) := dr_Tg (List.mem_of_getElem? (i := 525) (by decide +kernel)) (Or.inl (by decide +kernel))
theorem tw_491 : dr_T (Jvm.Cond.selects "DrillRows$Drill" ({ cls := "DrillRows$Drill", name := "beginOf", desc := "(I)I" } : Jvm.MethodName) ({ cls := "DrillRows$Drill", name := "beginOf", desc := "(I)I" } : Jvm.MethodName)) := dr_Tg (List.mem_of_getElem? (i := 526) (by decide +kernel)) (Or.inl (by decide +kernel))
theorem tw_492 : dr_T (Jvm.Cond.code ({ cls := "DrillRows$Drill", name := "beginOf", desc := "(I)I" } : Jvm.MethodName) prog_2_method_3_code (2 : Nat) (Option.some Jvm.ClassFile.FieldType.int)) := dr_Tg (List.mem_of_getElem? (i := 527) (by decide +kernel)) (Or.inl (by decide +kernel))
theorem tw_493 : dr_T (Jvm.Cond.stringRef "DrillRows" (155 : Nat) "no such what") := dr_Ts (List.mem_of_getElem? (i := 528) (by decide +kernel))
theorem tw_494 : dr_T (Jvm.Cond.methodLink "DrillRowsLaw" (130 : Nat) ({ cls := "DrillRowsLaw", name := "seen", desc := "(LDrillRows;III[J)I" } : Jvm.MethodName)) := dr_Tg (List.mem_of_getElem? (i := 529) (by decide +kernel)) (Or.inl (by decide +kernel))
theorem tw_495 : dr_T (Jvm.Cond.static ({ cls := "DrillRowsLaw", name := "seen", desc := "(LDrillRows;III[J)I" } : Jvm.MethodName)) := dr_Tg (List.mem_of_getElem? (i := 530) (by decide +kernel)) (Or.inl (by decide +kernel))
theorem tw_496 : dr_T (Jvm.Cond.codeWith ({ cls := "DrillRowsLaw", name := "seen", desc := "(LDrillRows;III[J)I" } : Jvm.MethodName) method_12_code (6 : Nat) (Option.some Jvm.ClassFile.FieldType.int) [((0 : Nat), (12 : Nat), (15 : Nat), (30 : Nat)), ((0 : Nat), (12 : Nat), (19 : Nat), (13 : Nat))]) := dr_Tg (List.mem_of_getElem? (i := 531) (by decide +kernel)) (Or.inl (by decide +kernel))
theorem tw_497 : dr_T (Jvm.Cond.methodLink "DrillRowsLaw" (51 : Nat) ({ cls := "DrillRows", name := "seen", desc := "(III)I" } : Jvm.MethodName)) := dr_Tg (List.mem_of_getElem? (i := 532) (by decide +kernel)) (Or.inl (by decide +kernel))
theorem tw_498 : dr_T (Jvm.Cond.instanceMethod ({ cls := "DrillRows", name := "seen", desc := "(III)I" } : Jvm.MethodName)) := dr_Tg (List.mem_of_getElem? (i := 533) (by decide +kernel)) (Or.inl (by decide +kernel))
theorem tw_499 : dr_T (Jvm.Cond.selects "DrillRows" ({ cls := "DrillRows", name := "seen", desc := "(III)I" } : Jvm.MethodName) ({ cls := "DrillRows", name := "seen", desc := "(III)I" } : Jvm.MethodName)) := dr_Tg (List.mem_of_getElem? (i := 534) (by decide +kernel)) (Or.inl (by decide +kernel))
theorem tw_500 : dr_T (Jvm.Cond.code ({ cls := "DrillRows", name := "seen", desc := "(III)I" } : Jvm.MethodName) prog_1_method_12_code (5 : Nat) (Option.some Jvm.ClassFile.FieldType.int)) := dr_Tg (List.mem_of_getElem? (i := 535) (by decide +kernel)) (Or.inl (by decide +kernel))
theorem tw_501 : dr_T (Jvm.Cond.stringRef "DrillRows" (157 : Nat) "no such part") := dr_Ts (List.mem_of_getElem? (i := 536) (by decide +kernel))
theorem tw_502 : dr_T (Jvm.Cond.stringRef "DrillRows" (159 : Nat) "below 0") := dr_Ts (List.mem_of_getElem? (i := 537) (by decide +kernel))
theorem tw_503 : dr_T (Jvm.Cond.methodLink "DrillRows" (161 : Nat) ({ cls := "DrillRows$Drill", name := "eventSeenBy", desc := "(II)I" } : Jvm.MethodName)) := dr_Tg (List.mem_of_getElem? (i := 538) (by decide +kernel)) (Or.inl (by decide +kernel))
theorem tw_504 : dr_T (Jvm.Cond.instanceMethod ({ cls := "DrillRows$Drill", name := "eventSeenBy", desc := "(II)I" } : Jvm.MethodName)) := dr_Tg (List.mem_of_getElem? (i := 539) (by decide +kernel)) (Or.inl (by decide +kernel))
theorem tw_505 : dr_T (Jvm.Cond.selects "DrillRows$Drill" ({ cls := "DrillRows$Drill", name := "eventSeenBy", desc := "(II)I" } : Jvm.MethodName) ({ cls := "DrillRows$Drill", name := "eventSeenBy", desc := "(II)I" } : Jvm.MethodName)) := dr_Tg (List.mem_of_getElem? (i := 540) (by decide +kernel)) (Or.inl (by decide +kernel))
theorem tw_506 : dr_T (Jvm.Cond.code ({ cls := "DrillRows$Drill", name := "eventSeenBy", desc := "(II)I" } : Jvm.MethodName) prog_2_method_9_code (5 : Nat) (Option.some Jvm.ClassFile.FieldType.int)) := dr_Tg (List.mem_of_getElem? (i := 541) (by decide +kernel)) (Or.inl (by decide +kernel))
theorem tw_507 : dr_T (Jvm.Cond.methodLink "DrillRows$Drill" (79 : Nat) ({ cls := "DrillRows$Drill", name := "maySee", desc := "(II)Z" } : Jvm.MethodName)) := dr_Tg (List.mem_of_getElem? (i := 542) (by decide +kernel)) (Or.inl (by decide +kernel))
theorem tw_509 : dr_T (Jvm.Cond.instanceMethod ({ cls := "DrillRows$Drill", name := "maySee", desc := "(II)Z" } : Jvm.MethodName)) := dr_Tg (List.mem_of_getElem? (i := 544) (by decide +kernel)) (Or.inl (by decide +kernel))
theorem tw_510 : dr_T (Jvm.Cond.code ({ cls := "DrillRows$Drill", name := "maySee", desc := "(II)Z" } : Jvm.MethodName) prog_2_method_10_code (3 : Nat) (Option.some Jvm.ClassFile.FieldType.boolean)) := dr_Tg (List.mem_of_getElem? (i := 545) (by decide +kernel)) (Or.inl (by decide +kernel))
theorem tw_511 : dr_T (Jvm.Cond.methodLink "DrillRowsLaw" (133 : Nat) ({ cls := "DrillRowsLaw", name := "fault", desc := "(LDrillRows;II[J)I" } : Jvm.MethodName)) := dr_Tg (List.mem_of_getElem? (i := 546) (by decide +kernel)) (Or.inl (by decide +kernel))
theorem tw_512 : dr_T (Jvm.Cond.static ({ cls := "DrillRowsLaw", name := "fault", desc := "(LDrillRows;II[J)I" } : Jvm.MethodName)) := dr_Tg (List.mem_of_getElem? (i := 547) (by decide +kernel)) (Or.inl (by decide +kernel))
theorem tw_513 : dr_T (Jvm.Cond.codeWith ({ cls := "DrillRowsLaw", name := "fault", desc := "(LDrillRows;II[J)I" } : Jvm.MethodName) method_13_code (5 : Nat) (Option.some Jvm.ClassFile.FieldType.int) [((0 : Nat), (17 : Nat), (20 : Nat), (30 : Nat))]) := dr_Tg (List.mem_of_getElem? (i := 548) (by decide +kernel)) (Or.inl (by decide +kernel))
theorem tw_514 : dr_T (Jvm.Cond.methodLink "DrillRowsLaw" (54 : Nat) ({ cls := "DrillRows", name := "fault", desc := "(II)Z" } : Jvm.MethodName)) := dr_Tg (List.mem_of_getElem? (i := 549) (by decide +kernel)) (Or.inl (by decide +kernel))
theorem tw_515 : dr_T (Jvm.Cond.instanceMethod ({ cls := "DrillRows", name := "fault", desc := "(II)Z" } : Jvm.MethodName)) := dr_Tg (List.mem_of_getElem? (i := 550) (by decide +kernel)) (Or.inl (by decide +kernel))
theorem tw_516 : dr_T (Jvm.Cond.selects "DrillRows" ({ cls := "DrillRows", name := "fault", desc := "(II)Z" } : Jvm.MethodName) ({ cls := "DrillRows", name := "fault", desc := "(II)Z" } : Jvm.MethodName)) := dr_Tg (List.mem_of_getElem? (i := 551) (by decide +kernel)) (Or.inl (by decide +kernel))
theorem tw_517 : dr_T (Jvm.Cond.code ({ cls := "DrillRows", name := "fault", desc := "(II)Z" } : Jvm.MethodName) prog_1_method_13_code (4 : Nat) (Option.some Jvm.ClassFile.FieldType.boolean)) := dr_Tg (List.mem_of_getElem? (i := 552) (by decide +kernel)) (Or.inl (by decide +kernel))
theorem tw_518 : dr_T (Jvm.Cond.stringRef "DrillRows" (165 : Nat) "no such fault") := dr_Ts (List.mem_of_getElem? (i := 553) (by decide +kernel))
theorem tw_519 : dr_T (Jvm.Cond.methodLink "DrillRows" (167 : Nat) ({ cls := "DrillRows$Drill", name := "hasBegunFault", desc := "(I)Z" } : Jvm.MethodName)) := dr_Tg (List.mem_of_getElem? (i := 554) (by decide +kernel)) (Or.inl (by decide +kernel))
theorem tw_520 : dr_T (Jvm.Cond.instanceMethod ({ cls := "DrillRows$Drill", name := "hasBegunFault", desc := "(I)Z" } : Jvm.MethodName)) := dr_Tg (List.mem_of_getElem? (i := 555) (by decide +kernel)) (Or.inl (by decide +kernel))
theorem tw_521 : dr_T (Jvm.Cond.selects "DrillRows$Drill" ({ cls := "DrillRows$Drill", name := "hasBegunFault", desc := "(I)Z" } : Jvm.MethodName) ({ cls := "DrillRows$Drill", name := "hasBegunFault", desc := "(I)Z" } : Jvm.MethodName)) := dr_Tg (List.mem_of_getElem? (i := 556) (by decide +kernel)) (Or.inl (by decide +kernel))
theorem tw_522 : dr_T (Jvm.Cond.code ({ cls := "DrillRows$Drill", name := "hasBegunFault", desc := "(I)Z" } : Jvm.MethodName) prog_2_method_11_code (3 : Nat) (Option.some Jvm.ClassFile.FieldType.boolean)) := dr_Tg (List.mem_of_getElem? (i := 557) (by decide +kernel)) (Or.inl (by decide +kernel))
theorem tw_523 : dr_T (Jvm.Cond.methodLink "DrillRowsLaw" (136 : Nat) ({ cls := "DrillRowsLaw", name := "aim", desc := "(LDrillRows;II[J)I" } : Jvm.MethodName)) := dr_Tg (List.mem_of_getElem? (i := 558) (by decide +kernel)) (Or.inl (by decide +kernel))
theorem tw_524 : dr_T (Jvm.Cond.static ({ cls := "DrillRowsLaw", name := "aim", desc := "(LDrillRows;II[J)I" } : Jvm.MethodName)) := dr_Tg (List.mem_of_getElem? (i := 559) (by decide +kernel)) (Or.inl (by decide +kernel))
theorem tw_525 : dr_T (Jvm.Cond.codeWith ({ cls := "DrillRowsLaw", name := "aim", desc := "(LDrillRows;II[J)I" } : Jvm.MethodName) method_14_code (5 : Nat) (Option.some Jvm.ClassFile.FieldType.int) [((0 : Nat), (10 : Nat), (13 : Nat), (30 : Nat))]) := dr_Tg (List.mem_of_getElem? (i := 560) (by decide +kernel)) (Or.inl (by decide +kernel))
theorem tw_526 : dr_T (Jvm.Cond.methodLink "DrillRowsLaw" (58 : Nat) ({ cls := "DrillRows", name := "aim", desc := "(II)I" } : Jvm.MethodName)) := dr_Tg (List.mem_of_getElem? (i := 561) (by decide +kernel)) (Or.inl (by decide +kernel))
theorem tw_527 : dr_T (Jvm.Cond.instanceMethod ({ cls := "DrillRows", name := "aim", desc := "(II)I" } : Jvm.MethodName)) := dr_Tg (List.mem_of_getElem? (i := 562) (by decide +kernel)) (Or.inl (by decide +kernel))
theorem tw_528 : dr_T (Jvm.Cond.selects "DrillRows" ({ cls := "DrillRows", name := "aim", desc := "(II)I" } : Jvm.MethodName) ({ cls := "DrillRows", name := "aim", desc := "(II)I" } : Jvm.MethodName)) := dr_Tg (List.mem_of_getElem? (i := 563) (by decide +kernel)) (Or.inl (by decide +kernel))
theorem tw_529 : dr_T (Jvm.Cond.code ({ cls := "DrillRows", name := "aim", desc := "(II)I" } : Jvm.MethodName) prog_1_method_14_code (4 : Nat) (Option.some Jvm.ClassFile.FieldType.int)) := dr_Tg (List.mem_of_getElem? (i := 564) (by decide +kernel)) (Or.inl (by decide +kernel))
theorem tw_530 : dr_T (Jvm.Cond.methodLink "DrillRows" (170 : Nat) ({ cls := "DrillRows$Script", name := "hasAim", desc := "(I)Z" } : Jvm.MethodName)) := dr_Tg (List.mem_of_getElem? (i := 565) (by decide +kernel)) (Or.inl (by decide +kernel))
theorem tw_531 : dr_T (Jvm.Cond.stringRef "DrillRows" (173 : Nat) "no such aim") := dr_Ts (List.mem_of_getElem? (i := 566) (by decide +kernel))
theorem tw_532 : dr_T (Jvm.Cond.methodLink "DrillRows" (175 : Nat) ({ cls := "DrillRows$Drill", name := "stateOfAim", desc := "(II)I" } : Jvm.MethodName)) := dr_Tg (List.mem_of_getElem? (i := 567) (by decide +kernel)) (Or.inl (by decide +kernel))
theorem tw_533 : dr_T (Jvm.Cond.instanceMethod ({ cls := "DrillRows$Drill", name := "stateOfAim", desc := "(II)I" } : Jvm.MethodName)) := dr_Tg (List.mem_of_getElem? (i := 568) (by decide +kernel)) (Or.inl (by decide +kernel))
theorem tw_534 : dr_T (Jvm.Cond.selects "DrillRows$Drill" ({ cls := "DrillRows$Drill", name := "stateOfAim", desc := "(II)I" } : Jvm.MethodName) ({ cls := "DrillRows$Drill", name := "stateOfAim", desc := "(II)I" } : Jvm.MethodName)) := dr_Tg (List.mem_of_getElem? (i := 569) (by decide +kernel)) (Or.inl (by decide +kernel))
theorem tw_535 : dr_T (Jvm.Cond.code ({ cls := "DrillRows$Drill", name := "stateOfAim", desc := "(II)I" } : Jvm.MethodName) prog_2_method_12_code (6 : Nat) (Option.some Jvm.ClassFile.FieldType.int)) := dr_Tg (List.mem_of_getElem? (i := 570) (by decide +kernel)) (Or.inl (by decide +kernel))
theorem tw_536 : dr_T (Jvm.Cond.methodLink "DrillRows$Drill" (93 : Nat) ({ cls := "DrillRows$Script", name := "hasAim", desc := "(I)Z" } : Jvm.MethodName)) := dr_Tg (List.mem_of_getElem? (i := 571) (by decide +kernel)) (Or.inl (by decide +kernel))
theorem tw_537 : dr_T (Jvm.Cond.methodLink "DrillRows$Drill" (99 : Nat) ({ cls := "DrillRows$Drill", name := "beginOf", desc := "(I)I" } : Jvm.MethodName)) := dr_Tg (List.mem_of_getElem? (i := 572) (by decide +kernel)) (Or.inl (by decide +kernel))
theorem tw_538 : dr_T (Jvm.Cond.methodLink "DrillRows$Drill" (108 : Nat) ({ cls := "DrillRows$Drill", name := "hasActWithin", desc := "(III)Z" } : Jvm.MethodName)) := dr_Tg (List.mem_of_getElem? (i := 573) (by decide +kernel)) (Or.inl (by decide +kernel))
theorem tw_540 : dr_T (Jvm.Cond.instanceMethod ({ cls := "DrillRows$Drill", name := "hasActWithin", desc := "(III)Z" } : Jvm.MethodName)) := dr_Tg (List.mem_of_getElem? (i := 575) (by decide +kernel)) (Or.inl (by decide +kernel))
theorem tw_541 : dr_T (Jvm.Cond.code ({ cls := "DrillRows$Drill", name := "hasActWithin", desc := "(III)Z" } : Jvm.MethodName) prog_2_method_13_code (5 : Nat) (Option.some Jvm.ClassFile.FieldType.boolean)) := dr_Tg (List.mem_of_getElem? (i := 576) (by decide +kernel)) (Or.inl (by decide +kernel))
theorem tw_542 : dr_T (Jvm.Cond.methodLink "DrillRowsLaw" (139 : Nat) ({ cls := "DrillRowsLaw", name := "score", desc := "(LDrillRows;II[J)I" } : Jvm.MethodName)) := dr_Tg (List.mem_of_getElem? (i := 577) (by decide +kernel)) (Or.inl (by decide +kernel))
theorem tw_543 : dr_T (Jvm.Cond.static ({ cls := "DrillRowsLaw", name := "score", desc := "(LDrillRows;II[J)I" } : Jvm.MethodName)) := dr_Tg (List.mem_of_getElem? (i := 578) (by decide +kernel)) (Or.inl (by decide +kernel))
theorem tw_544 : dr_T (Jvm.Cond.codeWith ({ cls := "DrillRowsLaw", name := "score", desc := "(LDrillRows;II[J)I" } : Jvm.MethodName) method_15_code (5 : Nat) (Option.some Jvm.ClassFile.FieldType.int) [((0 : Nat), (10 : Nat), (13 : Nat), (30 : Nat)), ((0 : Nat), (10 : Nat), (17 : Nat), (64 : Nat))]) := dr_Tg (List.mem_of_getElem? (i := 579) (by decide +kernel)) (Or.inl (by decide +kernel))
theorem tw_545 : dr_T (Jvm.Cond.classLink "DrillRowsLaw" (64 : Nat) "java/lang/ArithmeticException") := dr_Tg (List.mem_of_getElem? (i := 580) (by decide +kernel)) (Or.inl (by decide +kernel))
theorem tw_546 : dr_T (Jvm.Cond.methodLink "DrillRowsLaw" (61 : Nat) ({ cls := "DrillRows", name := "score", desc := "(II)I" } : Jvm.MethodName)) := dr_Tg (List.mem_of_getElem? (i := 581) (by decide +kernel)) (Or.inl (by decide +kernel))
theorem tw_547 : dr_T (Jvm.Cond.instanceMethod ({ cls := "DrillRows", name := "score", desc := "(II)I" } : Jvm.MethodName)) := dr_Tg (List.mem_of_getElem? (i := 582) (by decide +kernel)) (Or.inl (by decide +kernel))
theorem tw_548 : dr_T (Jvm.Cond.selects "DrillRows" ({ cls := "DrillRows", name := "score", desc := "(II)I" } : Jvm.MethodName) ({ cls := "DrillRows", name := "score", desc := "(II)I" } : Jvm.MethodName)) := dr_Tg (List.mem_of_getElem? (i := 583) (by decide +kernel)) (Or.inl (by decide +kernel))
theorem tw_549 : dr_T (Jvm.Cond.code ({ cls := "DrillRows", name := "score", desc := "(II)I" } : Jvm.MethodName) prog_1_method_15_code (6 : Nat) (Option.some Jvm.ClassFile.FieldType.int)) := dr_Tg (List.mem_of_getElem? (i := 584) (by decide +kernel)) (Or.inl (by decide +kernel))
theorem tw_550 : dr_T (Jvm.Cond.methodLink "DrillRows" (178 : Nat) ({ cls := "DrillRows$Script", name := "weightOfAims", desc := "()I" } : Jvm.MethodName)) := dr_Tg (List.mem_of_getElem? (i := 585) (by decide +kernel)) (Or.inl (by decide +kernel))
theorem tw_551 : dr_T (Jvm.Cond.instanceMethod ({ cls := "DrillRows$Script", name := "weightOfAims", desc := "()I" } : Jvm.MethodName)) := dr_Tg (List.mem_of_getElem? (i := 586) (by decide +kernel)) (Or.inl (by decide +kernel))
theorem tw_552 : dr_T (Jvm.Cond.selects "DrillRows$Script" ({ cls := "DrillRows$Script", name := "weightOfAims", desc := "()I" } : Jvm.MethodName) ({ cls := "DrillRows$Script", name := "weightOfAims", desc := "()I" } : Jvm.MethodName)) := dr_Tg (List.mem_of_getElem? (i := 587) (by decide +kernel)) (Or.inl (by decide +kernel))
theorem tw_553 : dr_T (Jvm.Cond.code ({ cls := "DrillRows$Script", name := "weightOfAims", desc := "()I" } : Jvm.MethodName) prog_3_method_8_code (6 : Nat) (Option.some Jvm.ClassFile.FieldType.int)) := dr_Tg (List.mem_of_getElem? (i := 588) (by decide +kernel)) (Or.inl (by decide +kernel))
theorem tw_554 : dr_T (Jvm.Cond.classLink "DrillRows" (182 : Nat) "java/lang/ArithmeticException") := dr_Tg (List.mem_of_getElem? (i := 589) (by decide +kernel)) (Or.inl (by decide +kernel))
theorem tw_555 : dr_T (Jvm.Cond.instantiable "java/lang/ArithmeticException" (6 : Nat)) := dr_Tg (List.mem_of_getElem? (i := 590) (by decide +kernel)) (Or.inl (by decide +kernel))
theorem tw_556 : dr_T (Jvm.Cond.castable "java/lang/ArithmeticException" "java/lang/ArithmeticException") := dr_Tf (List.mem_of_getElem? (i := 591) (by decide +kernel)) (by decide +kernel)
theorem tw_557 : dr_T (Jvm.Cond.selects "java/lang/ArithmeticException" ({ cls := "java/lang/Throwable", name := "fillInStackTrace", desc := "(I)Ljava/lang/Throwable;" } : Jvm.MethodName) ({ cls := "java/lang/Throwable", name := "fillInStackTrace", desc := "(I)Ljava/lang/Throwable;" } : Jvm.MethodName)) := dr_Tg (List.mem_of_getElem? (i := 592) (by decide +kernel)) (Or.inl (by decide +kernel))
theorem tw_563 : dr_T (Jvm.Cond.stringRef "DrillRows" (184 : Nat) "the drill has no aims") := dr_Ts (List.mem_of_getElem? (i := 598) (by decide +kernel))
theorem tw_564 : dr_T (Jvm.Cond.methodLink "DrillRows" (186 : Nat) ({ cls := "java/lang/ArithmeticException", name := "<init>", desc := "(Ljava/lang/String;)V" } : Jvm.MethodName)) := dr_Tg (List.mem_of_getElem? (i := 599) (by decide +kernel)) (Or.inl (by decide +kernel))
theorem tw_565 : dr_T (Jvm.Cond.instanceMethod ({ cls := "java/lang/ArithmeticException", name := "<init>", desc := "(Ljava/lang/String;)V" } : Jvm.MethodName)) := dr_Tg (List.mem_of_getElem? (i := 600) (by decide +kernel)) (Or.inl (by decide +kernel))
theorem tw_566 : dr_T (Jvm.Cond.code ({ cls := "java/lang/ArithmeticException", name := "<init>", desc := "(Ljava/lang/String;)V" } : Jvm.MethodName) prog_7_method_2_code (2 : Nat) (Option.none : Option Jvm.ClassFile.FieldType)) := dr_Tg (List.mem_of_getElem? (i := 601) (by decide +kernel)) (Or.inl (by decide +kernel))
theorem tw_567 : dr_T (Jvm.Cond.methodLink "java/lang/ArithmeticException" (7 : Nat) ({ cls := "java/lang/RuntimeException", name := "<init>", desc := "(Ljava/lang/String;)V" } : Jvm.MethodName)) := dr_Tg (List.mem_of_getElem? (i := 602) (by decide +kernel)) (Or.inl (by decide +kernel))
theorem tw_570 : dr_T (Jvm.Cond.methodLink "DrillRows" (187 : Nat) ({ cls := "DrillRows$Drill", name := "weightOfMetAims", desc := "(I)I" } : Jvm.MethodName)) := dr_Tg (List.mem_of_getElem? (i := 605) (by decide +kernel)) (Or.inl (by decide +kernel))
theorem tw_571 : dr_T (Jvm.Cond.instanceMethod ({ cls := "DrillRows$Drill", name := "weightOfMetAims", desc := "(I)I" } : Jvm.MethodName)) := dr_Tg (List.mem_of_getElem? (i := 606) (by decide +kernel)) (Or.inl (by decide +kernel))
theorem tw_572 : dr_T (Jvm.Cond.selects "DrillRows$Drill" ({ cls := "DrillRows$Drill", name := "weightOfMetAims", desc := "(I)I" } : Jvm.MethodName) ({ cls := "DrillRows$Drill", name := "weightOfMetAims", desc := "(I)I" } : Jvm.MethodName)) := dr_Tg (List.mem_of_getElem? (i := 607) (by decide +kernel)) (Or.inl (by decide +kernel))
theorem tw_573 : dr_T (Jvm.Cond.code ({ cls := "DrillRows$Drill", name := "weightOfMetAims", desc := "(I)I" } : Jvm.MethodName) prog_2_method_14_code (4 : Nat) (Option.some Jvm.ClassFile.FieldType.int)) := dr_Tg (List.mem_of_getElem? (i := 608) (by decide +kernel)) (Or.inl (by decide +kernel))
theorem tw_574 : dr_T (Jvm.Cond.methodLink "DrillRows$Drill" (112 : Nat) ({ cls := "DrillRows$Drill", name := "stateOfAim", desc := "(II)I" } : Jvm.MethodName)) := dr_Tg (List.mem_of_getElem? (i := 609) (by decide +kernel)) (Or.inl (by decide +kernel))
theorem tw_575 : dr_T (Jvm.Cond.methodLink "DrillRows" (190 : Nat) ({ cls := "DrillRows", name := "inLowestTerms", desc := "(III)I" } : Jvm.MethodName)) := dr_Tg (List.mem_of_getElem? (i := 610) (by decide +kernel)) (Or.inl (by decide +kernel))
theorem tw_576 : dr_T (Jvm.Cond.static ({ cls := "DrillRows", name := "inLowestTerms", desc := "(III)I" } : Jvm.MethodName)) := dr_Tg (List.mem_of_getElem? (i := 611) (by decide +kernel)) (Or.inl (by decide +kernel))
theorem tw_577 : dr_T (Jvm.Cond.code ({ cls := "DrillRows", name := "inLowestTerms", desc := "(III)I" } : Jvm.MethodName) prog_1_method_23_code (4 : Nat) (Option.some Jvm.ClassFile.FieldType.int)) := dr_Tg (List.mem_of_getElem? (i := 612) (by decide +kernel)) (Or.inl (by decide +kernel))
theorem tw_578 : dr_T (Jvm.Cond.methodLink "DrillRowsLaw" (142 : Nat) ({ cls := "DrillRowsLaw", name := "compare", desc := "(LDrillRows;II[J)I" } : Jvm.MethodName)) := dr_Tg (List.mem_of_getElem? (i := 613) (by decide +kernel)) (Or.inl (by decide +kernel))
theorem tw_579 : dr_T (Jvm.Cond.static ({ cls := "DrillRowsLaw", name := "compare", desc := "(LDrillRows;II[J)I" } : Jvm.MethodName)) := dr_Tg (List.mem_of_getElem? (i := 614) (by decide +kernel)) (Or.inl (by decide +kernel))
theorem tw_580 : dr_T (Jvm.Cond.codeWith ({ cls := "DrillRowsLaw", name := "compare", desc := "(LDrillRows;II[J)I" } : Jvm.MethodName) method_16_code (5 : Nat) (Option.some Jvm.ClassFile.FieldType.int) [((0 : Nat), (10 : Nat), (13 : Nat), (30 : Nat))]) := dr_Tg (List.mem_of_getElem? (i := 615) (by decide +kernel)) (Or.inl (by decide +kernel))
theorem tw_581 : dr_T (Jvm.Cond.methodLink "DrillRowsLaw" (66 : Nat) ({ cls := "DrillRows", name := "compare", desc := "(II)I" } : Jvm.MethodName)) := dr_Tg (List.mem_of_getElem? (i := 616) (by decide +kernel)) (Or.inl (by decide +kernel))
theorem tw_582 : dr_T (Jvm.Cond.instanceMethod ({ cls := "DrillRows", name := "compare", desc := "(II)I" } : Jvm.MethodName)) := dr_Tg (List.mem_of_getElem? (i := 617) (by decide +kernel)) (Or.inl (by decide +kernel))
theorem tw_583 : dr_T (Jvm.Cond.selects "DrillRows" ({ cls := "DrillRows", name := "compare", desc := "(II)I" } : Jvm.MethodName) ({ cls := "DrillRows", name := "compare", desc := "(II)I" } : Jvm.MethodName)) := dr_Tg (List.mem_of_getElem? (i := 618) (by decide +kernel)) (Or.inl (by decide +kernel))
theorem tw_584 : dr_T (Jvm.Cond.code ({ cls := "DrillRows", name := "compare", desc := "(II)I" } : Jvm.MethodName) prog_1_method_16_code (8 : Nat) (Option.some Jvm.ClassFile.FieldType.int)) := dr_Tg (List.mem_of_getElem? (i := 619) (by decide +kernel)) (Or.inl (by decide +kernel))
theorem tw_585 : dr_T (Jvm.Cond.methodLink "DrillRowsLaw" (145 : Nat) ({ cls := "DrillRowsLaw", name := "observe", desc := "(LDrillRows;III[J)I" } : Jvm.MethodName)) := dr_Tg (List.mem_of_getElem? (i := 620) (by decide +kernel)) (Or.inl (by decide +kernel))
theorem tw_586 : dr_T (Jvm.Cond.static ({ cls := "DrillRowsLaw", name := "observe", desc := "(LDrillRows;III[J)I" } : Jvm.MethodName)) := dr_Tg (List.mem_of_getElem? (i := 621) (by decide +kernel)) (Or.inl (by decide +kernel))
theorem tw_587 : dr_T (Jvm.Cond.codeWith ({ cls := "DrillRowsLaw", name := "observe", desc := "(LDrillRows;III[J)I" } : Jvm.MethodName) method_17_code (6 : Nat) (Option.some Jvm.ClassFile.FieldType.int) [((0 : Nat), (12 : Nat), (15 : Nat), (30 : Nat)), ((0 : Nat), (12 : Nat), (19 : Nat), (13 : Nat)), ((0 : Nat), (12 : Nat), (23 : Nat), (15 : Nat))]) := dr_Tg (List.mem_of_getElem? (i := 622) (by decide +kernel)) (Or.inl (by decide +kernel))
theorem tw_588 : dr_T (Jvm.Cond.methodLink "DrillRowsLaw" (69 : Nat) ({ cls := "DrillRows", name := "observe", desc := "(III)I" } : Jvm.MethodName)) := dr_Tg (List.mem_of_getElem? (i := 623) (by decide +kernel)) (Or.inl (by decide +kernel))
theorem tw_589 : dr_T (Jvm.Cond.instanceMethod ({ cls := "DrillRows", name := "observe", desc := "(III)I" } : Jvm.MethodName)) := dr_Tg (List.mem_of_getElem? (i := 624) (by decide +kernel)) (Or.inl (by decide +kernel))
theorem tw_590 : dr_T (Jvm.Cond.selects "DrillRows" ({ cls := "DrillRows", name := "observe", desc := "(III)I" } : Jvm.MethodName) ({ cls := "DrillRows", name := "observe", desc := "(III)I" } : Jvm.MethodName)) := dr_Tg (List.mem_of_getElem? (i := 625) (by decide +kernel)) (Or.inl (by decide +kernel))
theorem tw_591 : dr_T (Jvm.Cond.code ({ cls := "DrillRows", name := "observe", desc := "(III)I" } : Jvm.MethodName) prog_1_method_17_code (7 : Nat) (Option.some Jvm.ClassFile.FieldType.int)) := dr_Tg (List.mem_of_getElem? (i := 626) (by decide +kernel)) (Or.inl (by decide +kernel))
theorem tw_592 : dr_T (Jvm.Cond.methodLink "DrillRows" (194 : Nat) ({ cls := "DrillRows$Drill", name := "drillSecond", desc := "(I)I" } : Jvm.MethodName)) := dr_Tg (List.mem_of_getElem? (i := 627) (by decide +kernel)) (Or.inl (by decide +kernel))
theorem tw_593 : dr_T (Jvm.Cond.stringRef "DrillRows" (197 : Nat) "the second or the mark") := dr_Ts (List.mem_of_getElem? (i := 628) (by decide +kernel))
theorem tw_594 : dr_T (Jvm.Cond.stringRef "DrillRows" (199 : Nat) "there are 100 rows") := dr_Ts (List.mem_of_getElem? (i := 629) (by decide +kernel))
theorem tw_595 : dr_T (Jvm.Cond.methodLink "DrillRowsLaw" (148 : Nat) ({ cls := "DrillRowsLaw", name := "row", desc := "(LDrillRows;II[J)I" } : Jvm.MethodName)) := dr_Tg (List.mem_of_getElem? (i := 630) (by decide +kernel)) (Or.inl (by decide +kernel))
theorem tw_596 : dr_T (Jvm.Cond.static ({ cls := "DrillRowsLaw", name := "row", desc := "(LDrillRows;II[J)I" } : Jvm.MethodName)) := dr_Tg (List.mem_of_getElem? (i := 631) (by decide +kernel)) (Or.inl (by decide +kernel))
theorem tw_597 : dr_T (Jvm.Cond.codeWith ({ cls := "DrillRowsLaw", name := "row", desc := "(LDrillRows;II[J)I" } : Jvm.MethodName) method_18_code (5 : Nat) (Option.some Jvm.ClassFile.FieldType.int) [((0 : Nat), (10 : Nat), (13 : Nat), (30 : Nat))]) := dr_Tg (List.mem_of_getElem? (i := 632) (by decide +kernel)) (Or.inl (by decide +kernel))
theorem tw_598 : dr_T (Jvm.Cond.methodLink "DrillRowsLaw" (72 : Nat) ({ cls := "DrillRows", name := "row", desc := "(II)I" } : Jvm.MethodName)) := dr_Tg (List.mem_of_getElem? (i := 633) (by decide +kernel)) (Or.inl (by decide +kernel))
theorem tw_599 : dr_T (Jvm.Cond.instanceMethod ({ cls := "DrillRows", name := "row", desc := "(II)I" } : Jvm.MethodName)) := dr_Tg (List.mem_of_getElem? (i := 634) (by decide +kernel)) (Or.inl (by decide +kernel))
theorem tw_600 : dr_T (Jvm.Cond.selects "DrillRows" ({ cls := "DrillRows", name := "row", desc := "(II)I" } : Jvm.MethodName) ({ cls := "DrillRows", name := "row", desc := "(II)I" } : Jvm.MethodName)) := dr_Tg (List.mem_of_getElem? (i := 635) (by decide +kernel)) (Or.inl (by decide +kernel))
theorem tw_601 : dr_T (Jvm.Cond.code ({ cls := "DrillRows", name := "row", desc := "(II)I" } : Jvm.MethodName) prog_1_method_18_code (3 : Nat) (Option.some Jvm.ClassFile.FieldType.int)) := dr_Tg (List.mem_of_getElem? (i := 636) (by decide +kernel)) (Or.inl (by decide +kernel))
theorem tw_602 : dr_T (Jvm.Cond.stringRef "DrillRows" (201 : Nat) "no such row or what") := dr_Ts (List.mem_of_getElem? (i := 637) (by decide +kernel))
theorem tw_603 : dr_T (Jvm.Cond.methodLink "DrillRowsLaw" (151 : Nat) ({ cls := "DrillRowsLaw", name := "play", desc := "(LDrillRows;II[J)I" } : Jvm.MethodName)) := dr_Tg (List.mem_of_getElem? (i := 638) (by decide +kernel)) (Or.inl (by decide +kernel))
theorem tw_604 : dr_T (Jvm.Cond.static ({ cls := "DrillRowsLaw", name := "play", desc := "(LDrillRows;II[J)I" } : Jvm.MethodName)) := dr_Tg (List.mem_of_getElem? (i := 639) (by decide +kernel)) (Or.inl (by decide +kernel))
theorem tw_605 : dr_T (Jvm.Cond.codeWith ({ cls := "DrillRowsLaw", name := "play", desc := "(LDrillRows;II[J)I" } : Jvm.MethodName) method_19_code (5 : Nat) (Option.some Jvm.ClassFile.FieldType.int) [((0 : Nat), (10 : Nat), (13 : Nat), (30 : Nat)), ((0 : Nat), (10 : Nat), (17 : Nat), (21 : Nat)), ((0 : Nat), (10 : Nat), (21 : Nat), (15 : Nat))]) := dr_Tg (List.mem_of_getElem? (i := 640) (by decide +kernel)) (Or.inl (by decide +kernel))
theorem tw_606 : dr_T (Jvm.Cond.methodLink "DrillRowsLaw" (75 : Nat) ({ cls := "DrillRows", name := "play", desc := "(II)I" } : Jvm.MethodName)) := dr_Tg (List.mem_of_getElem? (i := 641) (by decide +kernel)) (Or.inl (by decide +kernel))
theorem tw_607 : dr_T (Jvm.Cond.instanceMethod ({ cls := "DrillRows", name := "play", desc := "(II)I" } : Jvm.MethodName)) := dr_Tg (List.mem_of_getElem? (i := 642) (by decide +kernel)) (Or.inl (by decide +kernel))
theorem tw_608 : dr_T (Jvm.Cond.selects "DrillRows" ({ cls := "DrillRows", name := "play", desc := "(II)I" } : Jvm.MethodName) ({ cls := "DrillRows", name := "play", desc := "(II)I" } : Jvm.MethodName)) := dr_Tg (List.mem_of_getElem? (i := 643) (by decide +kernel)) (Or.inl (by decide +kernel))
theorem tw_609 : dr_T (Jvm.Cond.code ({ cls := "DrillRows", name := "play", desc := "(II)I" } : Jvm.MethodName) prog_1_method_19_code (4 : Nat) (Option.some Jvm.ClassFile.FieldType.int)) := dr_Tg (List.mem_of_getElem? (i := 644) (by decide +kernel)) (Or.inl (by decide +kernel))
theorem tw_610 : dr_T (Jvm.Cond.constant "DrillRows" (203 : Nat) (1103515245 : Int32)) := dr_Tg (List.mem_of_getElem? (i := 645) (by decide +kernel)) (Or.inl (by decide +kernel))
theorem tw_611 : dr_T (Jvm.Cond.methodLink "DrillRows" (204 : Nat) ({ cls := "DrillRows", name := "act", desc := "(II)I" } : Jvm.MethodName)) := dr_Tg (List.mem_of_getElem? (i := 646) (by decide +kernel)) (Or.inl (by decide +kernel))
theorem tw_612 : dr_T (Jvm.Cond.methodLink "DrillRowsLaw" (154 : Nat) ({ cls := "DrillRowsLaw", name := "drill", desc := "(LDrillRows;II[J)I" } : Jvm.MethodName)) := dr_Tg (List.mem_of_getElem? (i := 647) (by decide +kernel)) (Or.inl (by decide +kernel))
theorem tw_613 : dr_T (Jvm.Cond.static ({ cls := "DrillRowsLaw", name := "drill", desc := "(LDrillRows;II[J)I" } : Jvm.MethodName)) := dr_Tg (List.mem_of_getElem? (i := 648) (by decide +kernel)) (Or.inl (by decide +kernel))
theorem tw_614 : dr_T (Jvm.Cond.codeWith ({ cls := "DrillRowsLaw", name := "drill", desc := "(LDrillRows;II[J)I" } : Jvm.MethodName) method_20_code (5 : Nat) (Option.some Jvm.ClassFile.FieldType.int) [((0 : Nat), (10 : Nat), (13 : Nat), (30 : Nat))]) := dr_Tg (List.mem_of_getElem? (i := 649) (by decide +kernel)) (Or.inl (by decide +kernel))
theorem tw_615 : dr_T (Jvm.Cond.methodLink "DrillRowsLaw" (78 : Nat) ({ cls := "DrillRows", name := "drill", desc := "(II)I" } : Jvm.MethodName)) := dr_Tg (List.mem_of_getElem? (i := 650) (by decide +kernel)) (Or.inl (by decide +kernel))
theorem tw_616 : dr_T (Jvm.Cond.instanceMethod ({ cls := "DrillRows", name := "drill", desc := "(II)I" } : Jvm.MethodName)) := dr_Tg (List.mem_of_getElem? (i := 651) (by decide +kernel)) (Or.inl (by decide +kernel))
theorem tw_617 : dr_T (Jvm.Cond.selects "DrillRows" ({ cls := "DrillRows", name := "drill", desc := "(II)I" } : Jvm.MethodName) ({ cls := "DrillRows", name := "drill", desc := "(II)I" } : Jvm.MethodName)) := dr_Tg (List.mem_of_getElem? (i := 652) (by decide +kernel)) (Or.inl (by decide +kernel))
theorem tw_618 : dr_T (Jvm.Cond.code ({ cls := "DrillRows", name := "drill", desc := "(II)I" } : Jvm.MethodName) prog_1_method_20_code (4 : Nat) (Option.some Jvm.ClassFile.FieldType.int)) := dr_Tg (List.mem_of_getElem? (i := 653) (by decide +kernel)) (Or.inl (by decide +kernel))
theorem tw_619 : dr_T (Jvm.Cond.methodLink "DrillRows" (213 : Nat) ({ cls := "DrillRows", name := "countUnits", desc := "(I)I" } : Jvm.MethodName)) := dr_Tg (List.mem_of_getElem? (i := 654) (by decide +kernel)) (Or.inl (by decide +kernel))
theorem tw_621 : dr_T (Jvm.Cond.instanceMethod ({ cls := "DrillRows", name := "countUnits", desc := "(I)I" } : Jvm.MethodName)) := dr_Tg (List.mem_of_getElem? (i := 656) (by decide +kernel)) (Or.inl (by decide +kernel))
theorem tw_622 : dr_T (Jvm.Cond.code ({ cls := "DrillRows", name := "countUnits", desc := "(I)I" } : Jvm.MethodName) prog_1_method_22_code (7 : Nat) (Option.some Jvm.ClassFile.FieldType.int)) := dr_Tg (List.mem_of_getElem? (i := 657) (by decide +kernel)) (Or.inl (by decide +kernel))
theorem tw_623 : dr_T (Jvm.Cond.classLink "DrillRowsLaw" (82 : Nat) "DrillRowsModel") := dr_Tg (List.mem_of_getElem? (i := 658) (by decide +kernel)) (Or.inl (by decide +kernel))
theorem tw_624 : dr_T (Jvm.Cond.instantiable "DrillRowsModel" (32 : Nat)) := dr_Tg (List.mem_of_getElem? (i := 659) (by decide +kernel)) (Or.inl (by decide +kernel))
theorem tw_625 : dr_T (Jvm.Cond.methodLink "DrillRowsLaw" (84 : Nat) ({ cls := "DrillRowsModel", name := "<init>", desc := "()V" } : Jvm.MethodName)) := dr_Tg (List.mem_of_getElem? (i := 660) (by decide +kernel)) (Or.inl (by decide +kernel))
theorem tw_626 : dr_T (Jvm.Cond.instanceMethod ({ cls := "DrillRowsModel", name := "<init>", desc := "()V" } : Jvm.MethodName)) := dr_Tg (List.mem_of_getElem? (i := 661) (by decide +kernel)) (Or.inl (by decide +kernel))
theorem tw_627 : dr_T (Jvm.Cond.code ({ cls := "DrillRowsModel", name := "<init>", desc := "()V" } : Jvm.MethodName) prog_6_method_1_code (2 : Nat) (Option.none : Option Jvm.ClassFile.FieldType)) := dr_Tg (List.mem_of_getElem? (i := 662) (by decide +kernel)) (Or.inl (by decide +kernel))
theorem tw_628 : dr_T (Jvm.Cond.methodLink "DrillRowsModel" (1 : Nat) ({ cls := "java/lang/Object", name := "<init>", desc := "()V" } : Jvm.MethodName)) := dr_Tg (List.mem_of_getElem? (i := 663) (by decide +kernel)) (Or.inl (by decide +kernel))
theorem tw_629 : dr_T (Jvm.Cond.fieldLink "DrillRowsModel" (87 : Nat) "DrillRowsModel" "thrown" "I") := dr_Tg (List.mem_of_getElem? (i := 664) (by decide +kernel)) (Or.inl (by decide +kernel))
theorem tw_630 : dr_T (Jvm.Cond.fieldLink "DrillRowsModel" (147 : Nat) "DrillRowsModel" "now" "I") := dr_Tg (List.mem_of_getElem? (i := 665) (by decide +kernel)) (Or.inl (by decide +kernel))
theorem tw_631 : dr_T (Jvm.Cond.fieldLink "DrillRowsModel" (94 : Nat) "DrillRowsModel" "taped" "I") := dr_Tg (List.mem_of_getElem? (i := 666) (by decide +kernel)) (Or.inl (by decide +kernel))
theorem tw_632 : dr_T (Jvm.Cond.fieldLink "DrillRowsModel" (7 : Nat) "DrillRowsModel" "tape" "[I") := dr_Tg (List.mem_of_getElem? (i := 667) (by decide +kernel)) (Or.inl (by decide +kernel))
theorem tw_633 : dr_T (Jvm.Cond.fieldLink "DrillRowsModel" (13 : Nat) "DrillRowsModel" "place" "I") := dr_Tg (List.mem_of_getElem? (i := 668) (by decide +kernel)) (Or.inl (by decide +kernel))
theorem tw_634 : dr_T (Jvm.Cond.fieldLink "DrillRowsModel" (101 : Nat) "DrillRowsModel" "at" "I") := dr_Tg (List.mem_of_getElem? (i := 669) (by decide +kernel)) (Or.inl (by decide +kernel))
theorem tw_635 : dr_T (Jvm.Cond.fieldLink "DrillRowsModel" (108 : Nat) "DrillRowsModel" "wrong" "I") := dr_Tg (List.mem_of_getElem? (i := 670) (by decide +kernel)) (Or.inl (by decide +kernel))
theorem tw_636 : dr_T (Jvm.Cond.fieldLink "DrillRowsModel" (17 : Nat) "DrillRowsModel" "isEvent" "[Z") := dr_Tg (List.mem_of_getElem? (i := 671) (by decide +kernel)) (Or.inl (by decide +kernel))
theorem tw_637 : dr_T (Jvm.Cond.fieldLink "DrillRowsModel" (21 : Nat) "DrillRowsModel" "second" "[I") := dr_Tg (List.mem_of_getElem? (i := 672) (by decide +kernel)) (Or.inl (by decide +kernel))
theorem tw_638 : dr_T (Jvm.Cond.fieldLink "DrillRowsModel" (24 : Nat) "DrillRowsModel" "act" "[I") := dr_Tg (List.mem_of_getElem? (i := 673) (by decide +kernel)) (Or.inl (by decide +kernel))
theorem tw_639 : dr_T (Jvm.Cond.fieldLink "DrillRowsModel" (27 : Nat) "DrillRowsModel" "delay" "[I") := dr_Tg (List.mem_of_getElem? (i := 674) (by decide +kernel)) (Or.inl (by decide +kernel))
theorem tw_640 : dr_T (Jvm.Cond.fieldLink "DrillRowsModel" (30 : Nat) "DrillRowsModel" "part" "[I") := dr_Tg (List.mem_of_getElem? (i := 675) (by decide +kernel)) (Or.inl (by decide +kernel))
theorem tw_641 : dr_T (Jvm.Cond.fieldLink "DrillRowsModel" (33 : Nat) "DrillRowsModel" "secret" "[Z") := dr_Tg (List.mem_of_getElem? (i := 676) (by decide +kernel)) (Or.inl (by decide +kernel))
theorem tw_642 : dr_T (Jvm.Cond.fieldLink "DrillRowsModel" (36 : Nat) "DrillRowsModel" "fault" "[I") := dr_Tg (List.mem_of_getElem? (i := 677) (by decide +kernel)) (Or.inl (by decide +kernel))
theorem tw_643 : dr_T (Jvm.Cond.fieldLink "DrillRowsModel" (39 : Nat) "DrillRowsModel" "isAim" "[Z") := dr_Tg (List.mem_of_getElem? (i := 678) (by decide +kernel)) (Or.inl (by decide +kernel))
theorem tw_644 : dr_T (Jvm.Cond.fieldLink "DrillRowsModel" (42 : Nat) "DrillRowsModel" "aimEvent" "[I") := dr_Tg (List.mem_of_getElem? (i := 679) (by decide +kernel)) (Or.inl (by decide +kernel))
theorem tw_645 : dr_T (Jvm.Cond.fieldLink "DrillRowsModel" (45 : Nat) "DrillRowsModel" "aimAct" "[I") := dr_Tg (List.mem_of_getElem? (i := 680) (by decide +kernel)) (Or.inl (by decide +kernel))
theorem tw_646 : dr_T (Jvm.Cond.fieldLink "DrillRowsModel" (48 : Nat) "DrillRowsModel" "aimWithin" "[I") := dr_Tg (List.mem_of_getElem? (i := 681) (by decide +kernel)) (Or.inl (by decide +kernel))
theorem tw_647 : dr_T (Jvm.Cond.fieldLink "DrillRowsModel" (51 : Nat) "DrillRowsModel" "weight" "[I") := dr_Tg (List.mem_of_getElem? (i := 682) (by decide +kernel)) (Or.inl (by decide +kernel))
theorem tw_648 : dr_T (Jvm.Cond.fieldLink "DrillRowsModel" (161 : Nat) "DrillRowsModel" "drills" "I") := dr_Tg (List.mem_of_getElem? (i := 683) (by decide +kernel)) (Or.inl (by decide +kernel))
theorem tw_649 : dr_T (Jvm.Cond.fieldLink "DrillRowsModel" (54 : Nat) "DrillRowsModel" "begun" "[I") := dr_Tg (List.mem_of_getElem? (i := 684) (by decide +kernel)) (Or.inl (by decide +kernel))
theorem tw_650 : dr_T (Jvm.Cond.fieldLink "DrillRowsModel" (57 : Nat) "DrillRowsModel" "stopped" "[Z") := dr_Tg (List.mem_of_getElem? (i := 685) (by decide +kernel)) (Or.inl (by decide +kernel))
theorem tw_651 : dr_T (Jvm.Cond.fieldLink "DrillRowsModel" (60 : Nat) "DrillRowsModel" "begins" "[I") := dr_Tg (List.mem_of_getElem? (i := 686) (by decide +kernel)) (Or.inl (by decide +kernel))
theorem tw_652 : dr_T (Jvm.Cond.fieldLink "DrillRowsModel" (63 : Nat) "DrillRowsModel" "acts" "[I") := dr_Tg (List.mem_of_getElem? (i := 687) (by decide +kernel)) (Or.inl (by decide +kernel))
theorem tw_653 : dr_T (Jvm.Cond.fieldLink "DrillRowsModel" (66 : Nat) "DrillRowsModel" "did" "[I") := dr_Tg (List.mem_of_getElem? (i := 688) (by decide +kernel)) (Or.inl (by decide +kernel))
theorem tw_654 : dr_T (Jvm.Cond.fieldLink "DrillRowsModel" (69 : Nat) "DrillRowsModel" "didAt" "[I") := dr_Tg (List.mem_of_getElem? (i := 689) (by decide +kernel)) (Or.inl (by decide +kernel))
theorem tw_655 : dr_T (Jvm.Cond.fieldLink "DrillRowsModel" (72 : Nat) "DrillRowsModel" "unitOf" "[I") := dr_Tg (List.mem_of_getElem? (i := 690) (by decide +kernel)) (Or.inl (by decide +kernel))
theorem tw_656 : dr_T (Jvm.Cond.fieldLink "DrillRowsModel" (178 : Nat) "DrillRowsModel" "rows" "I") := dr_Tg (List.mem_of_getElem? (i := 691) (by decide +kernel)) (Or.inl (by decide +kernel))
theorem tw_657 : dr_T (Jvm.Cond.fieldLink "DrillRowsModel" (75 : Nat) "DrillRowsModel" "rowDrill" "[I") := dr_Tg (List.mem_of_getElem? (i := 692) (by decide +kernel)) (Or.inl (by decide +kernel))
theorem tw_658 : dr_T (Jvm.Cond.fieldLink "DrillRowsModel" (78 : Nat) "DrillRowsModel" "rowSecond" "[I") := dr_Tg (List.mem_of_getElem? (i := 693) (by decide +kernel)) (Or.inl (by decide +kernel))
theorem tw_659 : dr_T (Jvm.Cond.fieldLink "DrillRowsModel" (81 : Nat) "DrillRowsModel" "rowMark" "[I") := dr_Tg (List.mem_of_getElem? (i := 694) (by decide +kernel)) (Or.inl (by decide +kernel))
theorem tw_660 : dr_T (Jvm.Cond.fieldLink "DrillRowsModel" (84 : Nat) "DrillRowsModel" "rowLate" "[Z") := dr_Tg (List.mem_of_getElem? (i := 695) (by decide +kernel)) (Or.inl (by decide +kernel))
theorem tw_726 : dr_T (Jvm.Cond.methodLink "DrillRowsLaw" (93 : Nat) ({ cls := "DrillRowsModel", name := "thrown", desc := "()I" } : Jvm.MethodName)) := dr_Tg (List.mem_of_getElem? (i := 761) (by decide +kernel)) (Or.inl (by decide +kernel))
theorem tw_727 : dr_T (Jvm.Cond.instanceMethod ({ cls := "DrillRowsModel", name := "thrown", desc := "()I" } : Jvm.MethodName)) := dr_Tg (List.mem_of_getElem? (i := 762) (by decide +kernel)) (Or.inl (by decide +kernel))
theorem tw_728 : dr_T (Jvm.Cond.selects "DrillRowsModel" ({ cls := "DrillRowsModel", name := "thrown", desc := "()I" } : Jvm.MethodName) ({ cls := "DrillRowsModel", name := "thrown", desc := "()I" } : Jvm.MethodName)) := dr_Tg (List.mem_of_getElem? (i := 763) (by decide +kernel)) (Or.inl (by decide +kernel))
theorem tw_729 : dr_T (Jvm.Cond.code ({ cls := "DrillRowsModel", name := "thrown", desc := "()I" } : Jvm.MethodName) prog_6_method_2_code (1 : Nat) (Option.some Jvm.ClassFile.FieldType.int)) := dr_Tg (List.mem_of_getElem? (i := 764) (by decide +kernel)) (Or.inl (by decide +kernel))
theorem tw_730 : dr_T (Jvm.Cond.methodLink "DrillRowsLaw" (92 : Nat) ({ cls := "DrillRowsModel", name := "sign", desc := "(JI)I" } : Jvm.MethodName)) := dr_Tg (List.mem_of_getElem? (i := 765) (by decide +kernel)) (Or.inl (by decide +kernel))
theorem tw_731 : dr_T (Jvm.Cond.instanceMethod ({ cls := "DrillRowsModel", name := "sign", desc := "(JI)I" } : Jvm.MethodName)) := dr_Tg (List.mem_of_getElem? (i := 766) (by decide +kernel)) (Or.inl (by decide +kernel))
theorem tw_732 : dr_T (Jvm.Cond.selects "DrillRowsModel" ({ cls := "DrillRowsModel", name := "sign", desc := "(JI)I" } : Jvm.MethodName) ({ cls := "DrillRowsModel", name := "sign", desc := "(JI)I" } : Jvm.MethodName)) := dr_Tg (List.mem_of_getElem? (i := 767) (by decide +kernel)) (Or.inl (by decide +kernel))
theorem tw_733 : dr_T (Jvm.Cond.code ({ cls := "DrillRowsModel", name := "sign", desc := "(JI)I" } : Jvm.MethodName) prog_6_method_5_code (5 : Nat) (Option.some Jvm.ClassFile.FieldType.int)) := dr_Tg (List.mem_of_getElem? (i := 768) (by decide +kernel)) (Or.inl (by decide +kernel))
theorem tw_734 : dr_T (Jvm.Cond.methodLink "DrillRowsModel" (90 : Nat) ({ cls := "DrillRowsModel", name := "in", desc := "(III)Z" } : Jvm.MethodName)) := dr_Tg (List.mem_of_getElem? (i := 769) (by decide +kernel)) (Or.inl (by decide +kernel))
theorem tw_735 : dr_T (Jvm.Cond.static ({ cls := "DrillRowsModel", name := "in", desc := "(III)Z" } : Jvm.MethodName)) := dr_Tg (List.mem_of_getElem? (i := 770) (by decide +kernel)) (Or.inl (by decide +kernel))
theorem tw_736 : dr_T (Jvm.Cond.code ({ cls := "DrillRowsModel", name := "in", desc := "(III)Z" } : Jvm.MethodName) prog_6_method_3_code (3 : Nat) (Option.some Jvm.ClassFile.FieldType.boolean)) := dr_Tg (List.mem_of_getElem? (i := 771) (by decide +kernel)) (Or.inl (by decide +kernel))
theorem tw_737 : dr_T (Jvm.Cond.methodLink "DrillRowsModel" (97 : Nat) ({ cls := "DrillRowsModel", name := "goes", desc := "(ZZZ)Z" } : Jvm.MethodName)) := dr_Tg (List.mem_of_getElem? (i := 772) (by decide +kernel)) (Or.inl (by decide +kernel))
theorem tw_739 : dr_T (Jvm.Cond.instanceMethod ({ cls := "DrillRowsModel", name := "goes", desc := "(ZZZ)Z" } : Jvm.MethodName)) := dr_Tg (List.mem_of_getElem? (i := 774) (by decide +kernel)) (Or.inl (by decide +kernel))
theorem tw_740 : dr_T (Jvm.Cond.code ({ cls := "DrillRowsModel", name := "goes", desc := "(ZZZ)Z" } : Jvm.MethodName) prog_6_method_4_code (4 : Nat) (Option.some Jvm.ClassFile.FieldType.boolean)) := dr_Tg (List.mem_of_getElem? (i := 775) (by decide +kernel)) (Or.inl (by decide +kernel))
theorem tw_741 : dr_T (Jvm.Cond.methodLink "DrillRowsLaw" (99 : Nat) ({ cls := "DrillRowsModel", name := "read", desc := "()I" } : Jvm.MethodName)) := dr_Tg (List.mem_of_getElem? (i := 776) (by decide +kernel)) (Or.inl (by decide +kernel))
theorem tw_742 : dr_T (Jvm.Cond.instanceMethod ({ cls := "DrillRowsModel", name := "read", desc := "()I" } : Jvm.MethodName)) := dr_Tg (List.mem_of_getElem? (i := 777) (by decide +kernel)) (Or.inl (by decide +kernel))
theorem tw_743 : dr_T (Jvm.Cond.selects "DrillRowsModel" ({ cls := "DrillRowsModel", name := "read", desc := "()I" } : Jvm.MethodName) ({ cls := "DrillRowsModel", name := "read", desc := "()I" } : Jvm.MethodName)) := dr_Tg (List.mem_of_getElem? (i := 778) (by decide +kernel)) (Or.inl (by decide +kernel))
theorem tw_744 : dr_T (Jvm.Cond.code ({ cls := "DrillRowsModel", name := "read", desc := "()I" } : Jvm.MethodName) prog_6_method_17_code (2 : Nat) (Option.some Jvm.ClassFile.FieldType.int)) := dr_Tg (List.mem_of_getElem? (i := 779) (by decide +kernel)) (Or.inl (by decide +kernel))
theorem tw_745 : dr_T (Jvm.Cond.methodLink "DrillRowsModel" (111 : Nat) ({ cls := "DrillRowsModel", name := "see", desc := "()I" } : Jvm.MethodName)) := dr_Tg (List.mem_of_getElem? (i := 780) (by decide +kernel)) (Or.inl (by decide +kernel))
theorem tw_747 : dr_T (Jvm.Cond.instanceMethod ({ cls := "DrillRowsModel", name := "see", desc := "()I" } : Jvm.MethodName)) := dr_Tg (List.mem_of_getElem? (i := 782) (by decide +kernel)) (Or.inl (by decide +kernel))
theorem tw_748 : dr_T (Jvm.Cond.code ({ cls := "DrillRowsModel", name := "see", desc := "()I" } : Jvm.MethodName) prog_6_method_7_code (1 : Nat) (Option.some Jvm.ClassFile.FieldType.int)) := dr_Tg (List.mem_of_getElem? (i := 783) (by decide +kernel)) (Or.inl (by decide +kernel))
theorem tw_749 : dr_T (Jvm.Cond.methodLink "DrillRowsModel" (104 : Nat) ({ cls := "DrillRowsModel", name := "here", desc := "()I" } : Jvm.MethodName)) := dr_Tg (List.mem_of_getElem? (i := 784) (by decide +kernel)) (Or.inl (by decide +kernel))
theorem tw_751 : dr_T (Jvm.Cond.instanceMethod ({ cls := "DrillRowsModel", name := "here", desc := "()I" } : Jvm.MethodName)) := dr_Tg (List.mem_of_getElem? (i := 786) (by decide +kernel)) (Or.inl (by decide +kernel))
theorem tw_752 : dr_T (Jvm.Cond.code ({ cls := "DrillRowsModel", name := "here", desc := "()I" } : Jvm.MethodName) prog_6_method_6_code (1 : Nat) (Option.some Jvm.ClassFile.FieldType.int)) := dr_Tg (List.mem_of_getElem? (i := 787) (by decide +kernel)) (Or.inl (by decide +kernel))
theorem tw_753 : dr_T (Jvm.Cond.methodLink "DrillRowsModel" (126 : Nat) ({ cls := "DrillRowsModel", name := "takes", desc := "(I)Z" } : Jvm.MethodName)) := dr_Tg (List.mem_of_getElem? (i := 788) (by decide +kernel)) (Or.inl (by decide +kernel))
theorem tw_755 : dr_T (Jvm.Cond.instanceMethod ({ cls := "DrillRowsModel", name := "takes", desc := "(I)Z" } : Jvm.MethodName)) := dr_Tg (List.mem_of_getElem? (i := 790) (by decide +kernel)) (Or.inl (by decide +kernel))
theorem tw_756 : dr_T (Jvm.Cond.code ({ cls := "DrillRowsModel", name := "takes", desc := "(I)Z" } : Jvm.MethodName) prog_6_method_10_code (2 : Nat) (Option.some Jvm.ClassFile.FieldType.boolean)) := dr_Tg (List.mem_of_getElem? (i := 791) (by decide +kernel)) (Or.inl (by decide +kernel))
theorem tw_757 : dr_T (Jvm.Cond.methodLink "DrillRowsModel" (133 : Nat) ({ cls := "DrillRowsModel", name := "eventRow", desc := "()V" } : Jvm.MethodName)) := dr_Tg (List.mem_of_getElem? (i := 792) (by decide +kernel)) (Or.inl (by decide +kernel))
theorem tw_759 : dr_T (Jvm.Cond.instanceMethod ({ cls := "DrillRowsModel", name := "eventRow", desc := "()V" } : Jvm.MethodName)) := dr_Tg (List.mem_of_getElem? (i := 794) (by decide +kernel)) (Or.inl (by decide +kernel))
theorem tw_760 : dr_T (Jvm.Cond.code ({ cls := "DrillRowsModel", name := "eventRow", desc := "()V" } : Jvm.MethodName) prog_6_method_13_code (3 : Nat) (Option.none : Option Jvm.ClassFile.FieldType)) := dr_Tg (List.mem_of_getElem? (i := 795) (by decide +kernel)) (Or.inl (by decide +kernel))
theorem tw_761 : dr_T (Jvm.Cond.methodLink "DrillRowsModel" (122 : Nat) ({ cls := "DrillRowsModel", name := "number", desc := "(II)I" } : Jvm.MethodName)) := dr_Tg (List.mem_of_getElem? (i := 796) (by decide +kernel)) (Or.inl (by decide +kernel))
theorem tw_763 : dr_T (Jvm.Cond.instanceMethod ({ cls := "DrillRowsModel", name := "number", desc := "(II)I" } : Jvm.MethodName)) := dr_Tg (List.mem_of_getElem? (i := 798) (by decide +kernel)) (Or.inl (by decide +kernel))
theorem tw_764 : dr_T (Jvm.Cond.code ({ cls := "DrillRowsModel", name := "number", desc := "(II)I" } : Jvm.MethodName) prog_6_method_12_code (5 : Nat) (Option.some Jvm.ClassFile.FieldType.int)) := dr_Tg (List.mem_of_getElem? (i := 799) (by decide +kernel)) (Or.inl (by decide +kernel))
theorem tw_765 : dr_T (Jvm.Cond.methodLink "DrillRowsModel" (118 : Nat) ({ cls := "DrillRowsModel", name := "isDigit", desc := "()Z" } : Jvm.MethodName)) := dr_Tg (List.mem_of_getElem? (i := 800) (by decide +kernel)) (Or.inl (by decide +kernel))
theorem tw_767 : dr_T (Jvm.Cond.instanceMethod ({ cls := "DrillRowsModel", name := "isDigit", desc := "()Z" } : Jvm.MethodName)) := dr_Tg (List.mem_of_getElem? (i := 802) (by decide +kernel)) (Or.inl (by decide +kernel))
theorem tw_768 : dr_T (Jvm.Cond.code ({ cls := "DrillRowsModel", name := "isDigit", desc := "()Z" } : Jvm.MethodName) prog_6_method_11_code (1 : Nat) (Option.some Jvm.ClassFile.FieldType.boolean)) := dr_Tg (List.mem_of_getElem? (i := 803) (by decide +kernel)) (Or.inl (by decide +kernel))
theorem tw_769 : dr_T (Jvm.Cond.methodLink "DrillRowsModel" (114 : Nat) ({ cls := "DrillRowsModel", name := "fail", desc := "(I)V" } : Jvm.MethodName)) := dr_Tg (List.mem_of_getElem? (i := 804) (by decide +kernel)) (Or.inl (by decide +kernel))
theorem tw_771 : dr_T (Jvm.Cond.instanceMethod ({ cls := "DrillRowsModel", name := "fail", desc := "(I)V" } : Jvm.MethodName)) := dr_Tg (List.mem_of_getElem? (i := 806) (by decide +kernel)) (Or.inl (by decide +kernel))
theorem tw_772 : dr_T (Jvm.Cond.code ({ cls := "DrillRowsModel", name := "fail", desc := "(I)V" } : Jvm.MethodName) prog_6_method_8_code (2 : Nat) (Option.none : Option Jvm.ClassFile.FieldType)) := dr_Tg (List.mem_of_getElem? (i := 807) (by decide +kernel)) (Or.inl (by decide +kernel))
theorem tw_773 : dr_T (Jvm.Cond.methodLink "DrillRowsModel" (130 : Nat) ({ cls := "DrillRowsModel", name := "take", desc := "(I)V" } : Jvm.MethodName)) := dr_Tg (List.mem_of_getElem? (i := 808) (by decide +kernel)) (Or.inl (by decide +kernel))
theorem tw_775 : dr_T (Jvm.Cond.instanceMethod ({ cls := "DrillRowsModel", name := "take", desc := "(I)V" } : Jvm.MethodName)) := dr_Tg (List.mem_of_getElem? (i := 810) (by decide +kernel)) (Or.inl (by decide +kernel))
theorem tw_776 : dr_T (Jvm.Cond.code ({ cls := "DrillRowsModel", name := "take", desc := "(I)V" } : Jvm.MethodName) prog_6_method_9_code (2 : Nat) (Option.none : Option Jvm.ClassFile.FieldType)) := dr_Tg (List.mem_of_getElem? (i := 811) (by decide +kernel)) (Or.inl (by decide +kernel))
theorem tw_777 : dr_T (Jvm.Cond.methodLink "DrillRowsModel" (136 : Nat) ({ cls := "DrillRowsModel", name := "aimRow", desc := "()V" } : Jvm.MethodName)) := dr_Tg (List.mem_of_getElem? (i := 812) (by decide +kernel)) (Or.inl (by decide +kernel))
theorem tw_779 : dr_T (Jvm.Cond.instanceMethod ({ cls := "DrillRowsModel", name := "aimRow", desc := "()V" } : Jvm.MethodName)) := dr_Tg (List.mem_of_getElem? (i := 814) (by decide +kernel)) (Or.inl (by decide +kernel))
theorem tw_780 : dr_T (Jvm.Cond.code ({ cls := "DrillRowsModel", name := "aimRow", desc := "()V" } : Jvm.MethodName) prog_6_method_14_code (3 : Nat) (Option.none : Option Jvm.ClassFile.FieldType)) := dr_Tg (List.mem_of_getElem? (i := 815) (by decide +kernel)) (Or.inl (by decide +kernel))
theorem tw_781 : dr_T (Jvm.Cond.methodLink "DrillRowsModel" (139 : Nat) ({ cls := "DrillRowsModel", name := "copy", desc := "(II)V" } : Jvm.MethodName)) := dr_Tg (List.mem_of_getElem? (i := 816) (by decide +kernel)) (Or.inl (by decide +kernel))
theorem tw_783 : dr_T (Jvm.Cond.instanceMethod ({ cls := "DrillRowsModel", name := "copy", desc := "(II)V" } : Jvm.MethodName)) := dr_Tg (List.mem_of_getElem? (i := 818) (by decide +kernel)) (Or.inl (by decide +kernel))
theorem tw_784 : dr_T (Jvm.Cond.code ({ cls := "DrillRowsModel", name := "copy", desc := "(II)V" } : Jvm.MethodName) prog_6_method_15_code (6 : Nat) (Option.none : Option Jvm.ClassFile.FieldType)) := dr_Tg (List.mem_of_getElem? (i := 819) (by decide +kernel)) (Or.inl (by decide +kernel))
theorem tw_785 : dr_T (Jvm.Cond.methodLink "DrillRowsModel" (143 : Nat) ({ cls := "DrillRowsModel", name := "size", desc := "(I)I" } : Jvm.MethodName)) := dr_Tg (List.mem_of_getElem? (i := 820) (by decide +kernel)) (Or.inl (by decide +kernel))
theorem tw_787 : dr_T (Jvm.Cond.instanceMethod ({ cls := "DrillRowsModel", name := "size", desc := "(I)I" } : Jvm.MethodName)) := dr_Tg (List.mem_of_getElem? (i := 822) (by decide +kernel)) (Or.inl (by decide +kernel))
theorem tw_788 : dr_T (Jvm.Cond.code ({ cls := "DrillRowsModel", name := "size", desc := "(I)I" } : Jvm.MethodName) prog_6_method_16_code (4 : Nat) (Option.some Jvm.ClassFile.FieldType.int)) := dr_Tg (List.mem_of_getElem? (i := 823) (by decide +kernel)) (Or.inl (by decide +kernel))
theorem tw_789 : dr_T (Jvm.Cond.methodLink "DrillRowsLaw" (103 : Nat) ({ cls := "DrillRowsModel", name := "place", desc := "()I" } : Jvm.MethodName)) := dr_Tg (List.mem_of_getElem? (i := 824) (by decide +kernel)) (Or.inl (by decide +kernel))
theorem tw_790 : dr_T (Jvm.Cond.instanceMethod ({ cls := "DrillRowsModel", name := "place", desc := "()I" } : Jvm.MethodName)) := dr_Tg (List.mem_of_getElem? (i := 825) (by decide +kernel)) (Or.inl (by decide +kernel))
theorem tw_791 : dr_T (Jvm.Cond.selects "DrillRowsModel" ({ cls := "DrillRowsModel", name := "place", desc := "()I" } : Jvm.MethodName) ({ cls := "DrillRowsModel", name := "place", desc := "()I" } : Jvm.MethodName)) := dr_Tg (List.mem_of_getElem? (i := 826) (by decide +kernel)) (Or.inl (by decide +kernel))
theorem tw_792 : dr_T (Jvm.Cond.code ({ cls := "DrillRowsModel", name := "place", desc := "()I" } : Jvm.MethodName) prog_6_method_18_code (1 : Nat) (Option.some Jvm.ClassFile.FieldType.int)) := dr_Tg (List.mem_of_getElem? (i := 827) (by decide +kernel)) (Or.inl (by decide +kernel))
theorem tw_793 : dr_T (Jvm.Cond.methodLink "DrillRowsLaw" (106 : Nat) ({ cls := "DrillRowsModel", name := "begin", desc := "()I" } : Jvm.MethodName)) := dr_Tg (List.mem_of_getElem? (i := 828) (by decide +kernel)) (Or.inl (by decide +kernel))
theorem tw_794 : dr_T (Jvm.Cond.instanceMethod ({ cls := "DrillRowsModel", name := "begin", desc := "()I" } : Jvm.MethodName)) := dr_Tg (List.mem_of_getElem? (i := 829) (by decide +kernel)) (Or.inl (by decide +kernel))
theorem tw_795 : dr_T (Jvm.Cond.selects "DrillRowsModel" ({ cls := "DrillRowsModel", name := "begin", desc := "()I" } : Jvm.MethodName) ({ cls := "DrillRowsModel", name := "begin", desc := "()I" } : Jvm.MethodName)) := dr_Tg (List.mem_of_getElem? (i := 830) (by decide +kernel)) (Or.inl (by decide +kernel))
theorem tw_796 : dr_T (Jvm.Cond.code ({ cls := "DrillRowsModel", name := "begin", desc := "()I" } : Jvm.MethodName) prog_6_method_23_code (2 : Nat) (Option.some Jvm.ClassFile.FieldType.int)) := dr_Tg (List.mem_of_getElem? (i := 831) (by decide +kernel)) (Or.inl (by decide +kernel))
theorem tw_797 : dr_T (Jvm.Cond.methodLink "DrillRowsModel" (164 : Nat) ({ cls := "DrillRowsModel", name := "look", desc := "(I)I" } : Jvm.MethodName)) := dr_Tg (List.mem_of_getElem? (i := 832) (by decide +kernel)) (Or.inl (by decide +kernel))
theorem tw_799 : dr_T (Jvm.Cond.instanceMethod ({ cls := "DrillRowsModel", name := "look", desc := "(I)I" } : Jvm.MethodName)) := dr_Tg (List.mem_of_getElem? (i := 834) (by decide +kernel)) (Or.inl (by decide +kernel))
theorem tw_800 : dr_T (Jvm.Cond.code ({ cls := "DrillRowsModel", name := "look", desc := "(I)I" } : Jvm.MethodName) prog_6_method_22_code (5 : Nat) (Option.some Jvm.ClassFile.FieldType.int)) := dr_Tg (List.mem_of_getElem? (i := 835) (by decide +kernel)) (Or.inl (by decide +kernel))
theorem tw_801 : dr_T (Jvm.Cond.methodLink "DrillRowsModel" (157 : Nat) ({ cls := "DrillRowsModel", name := "isDue", desc := "(II)Z" } : Jvm.MethodName)) := dr_Tg (List.mem_of_getElem? (i := 836) (by decide +kernel)) (Or.inl (by decide +kernel))
theorem tw_803 : dr_T (Jvm.Cond.instanceMethod ({ cls := "DrillRowsModel", name := "isDue", desc := "(II)Z" } : Jvm.MethodName)) := dr_Tg (List.mem_of_getElem? (i := 838) (by decide +kernel)) (Or.inl (by decide +kernel))
theorem tw_804 : dr_T (Jvm.Cond.code ({ cls := "DrillRowsModel", name := "isDue", desc := "(II)Z" } : Jvm.MethodName) prog_6_method_21_code (5 : Nat) (Option.some Jvm.ClassFile.FieldType.boolean)) := dr_Tg (List.mem_of_getElem? (i := 839) (by decide +kernel)) (Or.inl (by decide +kernel))
theorem tw_805 : dr_T (Jvm.Cond.methodLink "DrillRowsModel" (150 : Nat) ({ cls := "DrillRowsModel", name := "relative", desc := "(I)I" } : Jvm.MethodName)) := dr_Tg (List.mem_of_getElem? (i := 840) (by decide +kernel)) (Or.inl (by decide +kernel))
theorem tw_807 : dr_T (Jvm.Cond.instanceMethod ({ cls := "DrillRowsModel", name := "relative", desc := "(I)I" } : Jvm.MethodName)) := dr_Tg (List.mem_of_getElem? (i := 842) (by decide +kernel)) (Or.inl (by decide +kernel))
theorem tw_808 : dr_T (Jvm.Cond.code ({ cls := "DrillRowsModel", name := "relative", desc := "(I)I" } : Jvm.MethodName) prog_6_method_19_code (2 : Nat) (Option.some Jvm.ClassFile.FieldType.int)) := dr_Tg (List.mem_of_getElem? (i := 843) (by decide +kernel)) (Or.inl (by decide +kernel))
theorem tw_809 : dr_T (Jvm.Cond.methodLink "DrillRowsModel" (153 : Nat) ({ cls := "DrillRowsModel", name := "first", desc := "(III)I" } : Jvm.MethodName)) := dr_Tg (List.mem_of_getElem? (i := 844) (by decide +kernel)) (Or.inl (by decide +kernel))
theorem tw_811 : dr_T (Jvm.Cond.instanceMethod ({ cls := "DrillRowsModel", name := "first", desc := "(III)I" } : Jvm.MethodName)) := dr_Tg (List.mem_of_getElem? (i := 846) (by decide +kernel)) (Or.inl (by decide +kernel))
theorem tw_812 : dr_T (Jvm.Cond.code ({ cls := "DrillRowsModel", name := "first", desc := "(III)I" } : Jvm.MethodName) prog_6_method_20_code (5 : Nat) (Option.some Jvm.ClassFile.FieldType.int)) := dr_Tg (List.mem_of_getElem? (i := 847) (by decide +kernel)) (Or.inl (by decide +kernel))
theorem tw_813 : dr_T (Jvm.Cond.methodLink "DrillRowsLaw" (110 : Nat) ({ cls := "DrillRowsModel", name := "stop", desc := "(I)V" } : Jvm.MethodName)) := dr_Tg (List.mem_of_getElem? (i := 848) (by decide +kernel)) (Or.inl (by decide +kernel))
theorem tw_814 : dr_T (Jvm.Cond.instanceMethod ({ cls := "DrillRowsModel", name := "stop", desc := "(I)V" } : Jvm.MethodName)) := dr_Tg (List.mem_of_getElem? (i := 849) (by decide +kernel)) (Or.inl (by decide +kernel))
theorem tw_815 : dr_T (Jvm.Cond.selects "DrillRowsModel" ({ cls := "DrillRowsModel", name := "stop", desc := "(I)V" } : Jvm.MethodName) ({ cls := "DrillRowsModel", name := "stop", desc := "(I)V" } : Jvm.MethodName)) := dr_Tg (List.mem_of_getElem? (i := 850) (by decide +kernel)) (Or.inl (by decide +kernel))
theorem tw_816 : dr_T (Jvm.Cond.code ({ cls := "DrillRowsModel", name := "stop", desc := "(I)V" } : Jvm.MethodName) prog_6_method_25_code (3 : Nat) (Option.none : Option Jvm.ClassFile.FieldType)) := dr_Tg (List.mem_of_getElem? (i := 851) (by decide +kernel)) (Or.inl (by decide +kernel))
theorem tw_817 : dr_T (Jvm.Cond.methodLink "DrillRowsModel" (167 : Nat) ({ cls := "DrillRowsModel", name := "isDrill", desc := "(I)Z" } : Jvm.MethodName)) := dr_Tg (List.mem_of_getElem? (i := 852) (by decide +kernel)) (Or.inl (by decide +kernel))
theorem tw_819 : dr_T (Jvm.Cond.instanceMethod ({ cls := "DrillRowsModel", name := "isDrill", desc := "(I)Z" } : Jvm.MethodName)) := dr_Tg (List.mem_of_getElem? (i := 854) (by decide +kernel)) (Or.inl (by decide +kernel))
theorem tw_820 : dr_T (Jvm.Cond.code ({ cls := "DrillRowsModel", name := "isDrill", desc := "(I)Z" } : Jvm.MethodName) prog_6_method_24_code (2 : Nat) (Option.some Jvm.ClassFile.FieldType.boolean)) := dr_Tg (List.mem_of_getElem? (i := 855) (by decide +kernel)) (Or.inl (by decide +kernel))
theorem tw_821 : dr_T (Jvm.Cond.methodLink "DrillRowsLaw" (114 : Nat) ({ cls := "DrillRowsModel", name := "unit", desc := "(II)V" } : Jvm.MethodName)) := dr_Tg (List.mem_of_getElem? (i := 856) (by decide +kernel)) (Or.inl (by decide +kernel))
theorem tw_822 : dr_T (Jvm.Cond.instanceMethod ({ cls := "DrillRowsModel", name := "unit", desc := "(II)V" } : Jvm.MethodName)) := dr_Tg (List.mem_of_getElem? (i := 857) (by decide +kernel)) (Or.inl (by decide +kernel))
theorem tw_823 : dr_T (Jvm.Cond.selects "DrillRowsModel" ({ cls := "DrillRowsModel", name := "unit", desc := "(II)V" } : Jvm.MethodName) ({ cls := "DrillRowsModel", name := "unit", desc := "(II)V" } : Jvm.MethodName)) := dr_Tg (List.mem_of_getElem? (i := 858) (by decide +kernel)) (Or.inl (by decide +kernel))
theorem tw_824 : dr_T (Jvm.Cond.code ({ cls := "DrillRowsModel", name := "unit", desc := "(II)V" } : Jvm.MethodName) prog_6_method_26_code (4 : Nat) (Option.none : Option Jvm.ClassFile.FieldType)) := dr_Tg (List.mem_of_getElem? (i := 859) (by decide +kernel)) (Or.inl (by decide +kernel))
theorem tw_825 : dr_T (Jvm.Cond.methodLink "DrillRowsLaw" (118 : Nat) ({ cls := "DrillRowsModel", name := "real", desc := "(I)I" } : Jvm.MethodName)) := dr_Tg (List.mem_of_getElem? (i := 860) (by decide +kernel)) (Or.inl (by decide +kernel))
theorem tw_826 : dr_T (Jvm.Cond.instanceMethod ({ cls := "DrillRowsModel", name := "real", desc := "(I)I" } : Jvm.MethodName)) := dr_Tg (List.mem_of_getElem? (i := 861) (by decide +kernel)) (Or.inl (by decide +kernel))
theorem tw_827 : dr_T (Jvm.Cond.selects "DrillRowsModel" ({ cls := "DrillRowsModel", name := "real", desc := "(I)I" } : Jvm.MethodName) ({ cls := "DrillRowsModel", name := "real", desc := "(I)I" } : Jvm.MethodName)) := dr_Tg (List.mem_of_getElem? (i := 862) (by decide +kernel)) (Or.inl (by decide +kernel))
theorem tw_828 : dr_T (Jvm.Cond.code ({ cls := "DrillRowsModel", name := "real", desc := "(I)I" } : Jvm.MethodName) prog_6_method_27_code (3 : Nat) (Option.some Jvm.ClassFile.FieldType.int)) := dr_Tg (List.mem_of_getElem? (i := 863) (by decide +kernel)) (Or.inl (by decide +kernel))
theorem tw_829 : dr_T (Jvm.Cond.methodLink "DrillRowsLaw" (122 : Nat) ({ cls := "DrillRowsModel", name := "act", desc := "(II)I" } : Jvm.MethodName)) := dr_Tg (List.mem_of_getElem? (i := 864) (by decide +kernel)) (Or.inl (by decide +kernel))
theorem tw_830 : dr_T (Jvm.Cond.instanceMethod ({ cls := "DrillRowsModel", name := "act", desc := "(II)I" } : Jvm.MethodName)) := dr_Tg (List.mem_of_getElem? (i := 865) (by decide +kernel)) (Or.inl (by decide +kernel))
theorem tw_831 : dr_T (Jvm.Cond.selects "DrillRowsModel" ({ cls := "DrillRowsModel", name := "act", desc := "(II)I" } : Jvm.MethodName) ({ cls := "DrillRowsModel", name := "act", desc := "(II)I" } : Jvm.MethodName)) := dr_Tg (List.mem_of_getElem? (i := 866) (by decide +kernel)) (Or.inl (by decide +kernel))
theorem tw_832 : dr_T (Jvm.Cond.code ({ cls := "DrillRowsModel", name := "act", desc := "(II)I" } : Jvm.MethodName) prog_6_method_29_code (4 : Nat) (Option.some Jvm.ClassFile.FieldType.int)) := dr_Tg (List.mem_of_getElem? (i := 867) (by decide +kernel)) (Or.inl (by decide +kernel))
theorem tw_833 : dr_T (Jvm.Cond.methodLink "DrillRowsModel" (170 : Nat) ({ cls := "DrillRowsModel", name := "does", desc := "(II)I" } : Jvm.MethodName)) := dr_Tg (List.mem_of_getElem? (i := 868) (by decide +kernel)) (Or.inl (by decide +kernel))
theorem tw_835 : dr_T (Jvm.Cond.instanceMethod ({ cls := "DrillRowsModel", name := "does", desc := "(II)I" } : Jvm.MethodName)) := dr_Tg (List.mem_of_getElem? (i := 870) (by decide +kernel)) (Or.inl (by decide +kernel))
theorem tw_836 : dr_T (Jvm.Cond.code ({ cls := "DrillRowsModel", name := "does", desc := "(II)I" } : Jvm.MethodName) prog_6_method_28_code (3 : Nat) (Option.some Jvm.ClassFile.FieldType.int)) := dr_Tg (List.mem_of_getElem? (i := 871) (by decide +kernel)) (Or.inl (by decide +kernel))
theorem tw_837 : dr_T (Jvm.Cond.methodLink "DrillRowsLaw" (153 : Nat) ({ cls := "DrillRowsModel", name := "play", desc := "(II)I" } : Jvm.MethodName)) := dr_Tg (List.mem_of_getElem? (i := 872) (by decide +kernel)) (Or.inl (by decide +kernel))
theorem tw_838 : dr_T (Jvm.Cond.instanceMethod ({ cls := "DrillRowsModel", name := "play", desc := "(II)I" } : Jvm.MethodName)) := dr_Tg (List.mem_of_getElem? (i := 873) (by decide +kernel)) (Or.inl (by decide +kernel))
theorem tw_839 : dr_T (Jvm.Cond.selects "DrillRowsModel" ({ cls := "DrillRowsModel", name := "play", desc := "(II)I" } : Jvm.MethodName) ({ cls := "DrillRowsModel", name := "play", desc := "(II)I" } : Jvm.MethodName)) := dr_Tg (List.mem_of_getElem? (i := 874) (by decide +kernel)) (Or.inl (by decide +kernel))
theorem tw_840 : dr_T (Jvm.Cond.code ({ cls := "DrillRowsModel", name := "play", desc := "(II)I" } : Jvm.MethodName) prog_6_method_30_code (5 : Nat) (Option.some Jvm.ClassFile.FieldType.int)) := dr_Tg (List.mem_of_getElem? (i := 875) (by decide +kernel)) (Or.inl (by decide +kernel))
theorem tw_841 : dr_T (Jvm.Cond.constant "DrillRowsModel" (173 : Nat) (1103515245 : Int32)) := dr_Tg (List.mem_of_getElem? (i := 876) (by decide +kernel)) (Or.inl (by decide +kernel))
theorem tw_842 : dr_T (Jvm.Cond.methodLink "DrillRowsLaw" (125 : Nat) ({ cls := "DrillRowsModel", name := "tick", desc := "(I)I" } : Jvm.MethodName)) := dr_Tg (List.mem_of_getElem? (i := 877) (by decide +kernel)) (Or.inl (by decide +kernel))
theorem tw_843 : dr_T (Jvm.Cond.instanceMethod ({ cls := "DrillRowsModel", name := "tick", desc := "(I)I" } : Jvm.MethodName)) := dr_Tg (List.mem_of_getElem? (i := 878) (by decide +kernel)) (Or.inl (by decide +kernel))
theorem tw_844 : dr_T (Jvm.Cond.selects "DrillRowsModel" ({ cls := "DrillRowsModel", name := "tick", desc := "(I)I" } : Jvm.MethodName) ({ cls := "DrillRowsModel", name := "tick", desc := "(I)I" } : Jvm.MethodName)) := dr_Tg (List.mem_of_getElem? (i := 879) (by decide +kernel)) (Or.inl (by decide +kernel))
theorem tw_845 : dr_T (Jvm.Cond.code ({ cls := "DrillRowsModel", name := "tick", desc := "(I)I" } : Jvm.MethodName) prog_6_method_31_code (5 : Nat) (Option.some Jvm.ClassFile.FieldType.int)) := dr_Tg (List.mem_of_getElem? (i := 880) (by decide +kernel)) (Or.inl (by decide +kernel))
theorem tw_846 : dr_T (Jvm.Cond.constant "DrillRowsModel" (174 : Nat) (99999 : Int32)) := dr_Tg (List.mem_of_getElem? (i := 881) (by decide +kernel)) (Or.inl (by decide +kernel))
theorem tw_847 : dr_T (Jvm.Cond.methodLink "DrillRowsLaw" (129 : Nat) ({ cls := "DrillRowsModel", name := "event", desc := "(III)I" } : Jvm.MethodName)) := dr_Tg (List.mem_of_getElem? (i := 882) (by decide +kernel)) (Or.inl (by decide +kernel))
theorem tw_848 : dr_T (Jvm.Cond.instanceMethod ({ cls := "DrillRowsModel", name := "event", desc := "(III)I" } : Jvm.MethodName)) := dr_Tg (List.mem_of_getElem? (i := 883) (by decide +kernel)) (Or.inl (by decide +kernel))
theorem tw_849 : dr_T (Jvm.Cond.selects "DrillRowsModel" ({ cls := "DrillRowsModel", name := "event", desc := "(III)I" } : Jvm.MethodName) ({ cls := "DrillRowsModel", name := "event", desc := "(III)I" } : Jvm.MethodName)) := dr_Tg (List.mem_of_getElem? (i := 884) (by decide +kernel)) (Or.inl (by decide +kernel))
theorem tw_850 : dr_T (Jvm.Cond.code ({ cls := "DrillRowsModel", name := "event", desc := "(III)I" } : Jvm.MethodName) prog_6_method_32_code (6 : Nat) (Option.some Jvm.ClassFile.FieldType.int)) := dr_Tg (List.mem_of_getElem? (i := 885) (by decide +kernel)) (Or.inl (by decide +kernel))
theorem tw_851 : dr_T (Jvm.Cond.methodLink "DrillRowsLaw" (132 : Nat) ({ cls := "DrillRowsModel", name := "seen", desc := "(III)I" } : Jvm.MethodName)) := dr_Tg (List.mem_of_getElem? (i := 886) (by decide +kernel)) (Or.inl (by decide +kernel))
theorem tw_852 : dr_T (Jvm.Cond.instanceMethod ({ cls := "DrillRowsModel", name := "seen", desc := "(III)I" } : Jvm.MethodName)) := dr_Tg (List.mem_of_getElem? (i := 887) (by decide +kernel)) (Or.inl (by decide +kernel))
theorem tw_853 : dr_T (Jvm.Cond.selects "DrillRowsModel" ({ cls := "DrillRowsModel", name := "seen", desc := "(III)I" } : Jvm.MethodName) ({ cls := "DrillRowsModel", name := "seen", desc := "(III)I" } : Jvm.MethodName)) := dr_Tg (List.mem_of_getElem? (i := 888) (by decide +kernel)) (Or.inl (by decide +kernel))
theorem tw_854 : dr_T (Jvm.Cond.code ({ cls := "DrillRowsModel", name := "seen", desc := "(III)I" } : Jvm.MethodName) prog_6_method_33_code (7 : Nat) (Option.some Jvm.ClassFile.FieldType.int)) := dr_Tg (List.mem_of_getElem? (i := 889) (by decide +kernel)) (Or.inl (by decide +kernel))
theorem tw_855 : dr_T (Jvm.Cond.methodLink "DrillRowsLaw" (135 : Nat) ({ cls := "DrillRowsModel", name := "fault", desc := "(II)Z" } : Jvm.MethodName)) := dr_Tg (List.mem_of_getElem? (i := 890) (by decide +kernel)) (Or.inl (by decide +kernel))
theorem tw_856 : dr_T (Jvm.Cond.instanceMethod ({ cls := "DrillRowsModel", name := "fault", desc := "(II)Z" } : Jvm.MethodName)) := dr_Tg (List.mem_of_getElem? (i := 891) (by decide +kernel)) (Or.inl (by decide +kernel))
theorem tw_857 : dr_T (Jvm.Cond.selects "DrillRowsModel" ({ cls := "DrillRowsModel", name := "fault", desc := "(II)Z" } : Jvm.MethodName) ({ cls := "DrillRowsModel", name := "fault", desc := "(II)Z" } : Jvm.MethodName)) := dr_Tg (List.mem_of_getElem? (i := 892) (by decide +kernel)) (Or.inl (by decide +kernel))
theorem tw_858 : dr_T (Jvm.Cond.code ({ cls := "DrillRowsModel", name := "fault", desc := "(II)Z" } : Jvm.MethodName) prog_6_method_34_code (4 : Nat) (Option.some Jvm.ClassFile.FieldType.boolean)) := dr_Tg (List.mem_of_getElem? (i := 893) (by decide +kernel)) (Or.inl (by decide +kernel))
theorem tw_859 : dr_T (Jvm.Cond.methodLink "DrillRowsLaw" (138 : Nat) ({ cls := "DrillRowsModel", name := "aim", desc := "(II)I" } : Jvm.MethodName)) := dr_Tg (List.mem_of_getElem? (i := 894) (by decide +kernel)) (Or.inl (by decide +kernel))
theorem tw_860 : dr_T (Jvm.Cond.instanceMethod ({ cls := "DrillRowsModel", name := "aim", desc := "(II)I" } : Jvm.MethodName)) := dr_Tg (List.mem_of_getElem? (i := 895) (by decide +kernel)) (Or.inl (by decide +kernel))
theorem tw_861 : dr_T (Jvm.Cond.selects "DrillRowsModel" ({ cls := "DrillRowsModel", name := "aim", desc := "(II)I" } : Jvm.MethodName) ({ cls := "DrillRowsModel", name := "aim", desc := "(II)I" } : Jvm.MethodName)) := dr_Tg (List.mem_of_getElem? (i := 896) (by decide +kernel)) (Or.inl (by decide +kernel))
theorem tw_862 : dr_T (Jvm.Cond.code ({ cls := "DrillRowsModel", name := "aim", desc := "(II)I" } : Jvm.MethodName) prog_6_method_36_code (4 : Nat) (Option.some Jvm.ClassFile.FieldType.int)) := dr_Tg (List.mem_of_getElem? (i := 897) (by decide +kernel)) (Or.inl (by decide +kernel))
theorem tw_863 : dr_T (Jvm.Cond.methodLink "DrillRowsModel" (175 : Nat) ({ cls := "DrillRowsModel", name := "is", desc := "(II)I" } : Jvm.MethodName)) := dr_Tg (List.mem_of_getElem? (i := 898) (by decide +kernel)) (Or.inl (by decide +kernel))
theorem tw_865 : dr_T (Jvm.Cond.instanceMethod ({ cls := "DrillRowsModel", name := "is", desc := "(II)I" } : Jvm.MethodName)) := dr_Tg (List.mem_of_getElem? (i := 900) (by decide +kernel)) (Or.inl (by decide +kernel))
theorem tw_866 : dr_T (Jvm.Cond.code ({ cls := "DrillRowsModel", name := "is", desc := "(II)I" } : Jvm.MethodName) prog_6_method_35_code (6 : Nat) (Option.some Jvm.ClassFile.FieldType.int)) := dr_Tg (List.mem_of_getElem? (i := 901) (by decide +kernel)) (Or.inl (by decide +kernel))
theorem tw_867 : dr_T (Jvm.Cond.methodLink "DrillRowsLaw" (141 : Nat) ({ cls := "DrillRowsModel", name := "score", desc := "(II)I" } : Jvm.MethodName)) := dr_Tg (List.mem_of_getElem? (i := 902) (by decide +kernel)) (Or.inl (by decide +kernel))
theorem tw_868 : dr_T (Jvm.Cond.instanceMethod ({ cls := "DrillRowsModel", name := "score", desc := "(II)I" } : Jvm.MethodName)) := dr_Tg (List.mem_of_getElem? (i := 903) (by decide +kernel)) (Or.inl (by decide +kernel))
theorem tw_869 : dr_T (Jvm.Cond.selects "DrillRowsModel" ({ cls := "DrillRowsModel", name := "score", desc := "(II)I" } : Jvm.MethodName) ({ cls := "DrillRowsModel", name := "score", desc := "(II)I" } : Jvm.MethodName)) := dr_Tg (List.mem_of_getElem? (i := 904) (by decide +kernel)) (Or.inl (by decide +kernel))
theorem tw_870 : dr_T (Jvm.Cond.code ({ cls := "DrillRowsModel", name := "score", desc := "(II)I" } : Jvm.MethodName) prog_6_method_37_code (9 : Nat) (Option.some Jvm.ClassFile.FieldType.int)) := dr_Tg (List.mem_of_getElem? (i := 905) (by decide +kernel)) (Or.inl (by decide +kernel))
theorem tw_871 : dr_T (Jvm.Cond.methodLink "DrillRowsLaw" (144 : Nat) ({ cls := "DrillRowsModel", name := "compare", desc := "(II)I" } : Jvm.MethodName)) := dr_Tg (List.mem_of_getElem? (i := 906) (by decide +kernel)) (Or.inl (by decide +kernel))
theorem tw_872 : dr_T (Jvm.Cond.instanceMethod ({ cls := "DrillRowsModel", name := "compare", desc := "(II)I" } : Jvm.MethodName)) := dr_Tg (List.mem_of_getElem? (i := 907) (by decide +kernel)) (Or.inl (by decide +kernel))
theorem tw_873 : dr_T (Jvm.Cond.selects "DrillRowsModel" ({ cls := "DrillRowsModel", name := "compare", desc := "(II)I" } : Jvm.MethodName) ({ cls := "DrillRowsModel", name := "compare", desc := "(II)I" } : Jvm.MethodName)) := dr_Tg (List.mem_of_getElem? (i := 908) (by decide +kernel)) (Or.inl (by decide +kernel))
theorem tw_874 : dr_T (Jvm.Cond.code ({ cls := "DrillRowsModel", name := "compare", desc := "(II)I" } : Jvm.MethodName) prog_6_method_38_code (5 : Nat) (Option.some Jvm.ClassFile.FieldType.int)) := dr_Tg (List.mem_of_getElem? (i := 909) (by decide +kernel)) (Or.inl (by decide +kernel))
theorem tw_875 : dr_T (Jvm.Cond.methodLink "DrillRowsLaw" (147 : Nat) ({ cls := "DrillRowsModel", name := "observe", desc := "(III)I" } : Jvm.MethodName)) := dr_Tg (List.mem_of_getElem? (i := 910) (by decide +kernel)) (Or.inl (by decide +kernel))
theorem tw_876 : dr_T (Jvm.Cond.instanceMethod ({ cls := "DrillRowsModel", name := "observe", desc := "(III)I" } : Jvm.MethodName)) := dr_Tg (List.mem_of_getElem? (i := 911) (by decide +kernel)) (Or.inl (by decide +kernel))
theorem tw_877 : dr_T (Jvm.Cond.selects "DrillRowsModel" ({ cls := "DrillRowsModel", name := "observe", desc := "(III)I" } : Jvm.MethodName) ({ cls := "DrillRowsModel", name := "observe", desc := "(III)I" } : Jvm.MethodName)) := dr_Tg (List.mem_of_getElem? (i := 912) (by decide +kernel)) (Or.inl (by decide +kernel))
theorem tw_878 : dr_T (Jvm.Cond.code ({ cls := "DrillRowsModel", name := "observe", desc := "(III)I" } : Jvm.MethodName) prog_6_method_39_code (5 : Nat) (Option.some Jvm.ClassFile.FieldType.int)) := dr_Tg (List.mem_of_getElem? (i := 913) (by decide +kernel)) (Or.inl (by decide +kernel))
theorem tw_879 : dr_T (Jvm.Cond.methodLink "DrillRowsLaw" (150 : Nat) ({ cls := "DrillRowsModel", name := "row", desc := "(II)I" } : Jvm.MethodName)) := dr_Tg (List.mem_of_getElem? (i := 914) (by decide +kernel)) (Or.inl (by decide +kernel))
theorem tw_880 : dr_T (Jvm.Cond.instanceMethod ({ cls := "DrillRowsModel", name := "row", desc := "(II)I" } : Jvm.MethodName)) := dr_Tg (List.mem_of_getElem? (i := 915) (by decide +kernel)) (Or.inl (by decide +kernel))
theorem tw_881 : dr_T (Jvm.Cond.selects "DrillRowsModel" ({ cls := "DrillRowsModel", name := "row", desc := "(II)I" } : Jvm.MethodName) ({ cls := "DrillRowsModel", name := "row", desc := "(II)I" } : Jvm.MethodName)) := dr_Tg (List.mem_of_getElem? (i := 916) (by decide +kernel)) (Or.inl (by decide +kernel))
theorem tw_882 : dr_T (Jvm.Cond.code ({ cls := "DrillRowsModel", name := "row", desc := "(II)I" } : Jvm.MethodName) prog_6_method_40_code (3 : Nat) (Option.some Jvm.ClassFile.FieldType.int)) := dr_Tg (List.mem_of_getElem? (i := 917) (by decide +kernel)) (Or.inl (by decide +kernel))
theorem tw_883 : dr_T (Jvm.Cond.methodLink "DrillRowsLaw" (156 : Nat) ({ cls := "DrillRowsModel", name := "drill", desc := "(II)I" } : Jvm.MethodName)) := dr_Tg (List.mem_of_getElem? (i := 918) (by decide +kernel)) (Or.inl (by decide +kernel))
theorem tw_884 : dr_T (Jvm.Cond.instanceMethod ({ cls := "DrillRowsModel", name := "drill", desc := "(II)I" } : Jvm.MethodName)) := dr_Tg (List.mem_of_getElem? (i := 919) (by decide +kernel)) (Or.inl (by decide +kernel))
theorem tw_885 : dr_T (Jvm.Cond.selects "DrillRowsModel" ({ cls := "DrillRowsModel", name := "drill", desc := "(II)I" } : Jvm.MethodName) ({ cls := "DrillRowsModel", name := "drill", desc := "(II)I" } : Jvm.MethodName)) := dr_Tg (List.mem_of_getElem? (i := 920) (by decide +kernel)) (Or.inl (by decide +kernel))
theorem tw_886 : dr_T (Jvm.Cond.code ({ cls := "DrillRowsModel", name := "drill", desc := "(II)I" } : Jvm.MethodName) prog_6_method_41_code (6 : Nat) (Option.some Jvm.ClassFile.FieldType.int)) := dr_Tg (List.mem_of_getElem? (i := 921) (by decide +kernel)) (Or.inl (by decide +kernel))
theorem tw_887 : dr_T (Jvm.Cond.constantLong "DrillRowsLaw" (85 : Nat) (4294967295 : Int64)) := dr_Tg (List.mem_of_getElem? (i := 922) (by decide +kernel)) (Or.inl (by decide +kernel))
theorem tw_888 : dr_T (Jvm.Cond.arrayClass Jvm.ClassFile.FieldType.long) := dr_Tg (List.mem_of_getElem? (i := 923) (by decide +kernel)) (Or.inr ⟨_, rfl⟩)
theorem tp_0 : dr_T (.selects "java/lang/Throwable" ⟨"java/lang/Throwable", "fillInStackTrace", "(I)Ljava/lang/Throwable;"⟩ ⟨"java/lang/Throwable", "fillInStackTrace", "(I)Ljava/lang/Throwable;"⟩) := dr_Tg (List.mem_of_getElem? (i := 0) (by decide +kernel)) (Or.inl (by decide +kernel))
theorem tp_1 : dr_T (.selects "DrillRows$Tape" ⟨"DrillRows$Tape", "skipBlanks", "()V"⟩ ⟨"DrillRows$Tape", "skipBlanks", "()V"⟩) := dr_Tg (List.mem_of_getElem? (i := 1) (by decide +kernel)) (Or.inl (by decide +kernel))
theorem tp_2 : dr_T (.selects "DrillRows$Tape" ⟨"DrillRows$Tape", "nextByte", "()I"⟩ ⟨"DrillRows$Tape", "nextByte", "()I"⟩) := dr_Tg (List.mem_of_getElem? (i := 2) (by decide +kernel)) (Or.inl (by decide +kernel))
theorem tp_3 : dr_T (.selects "DrillRows$Tape" ⟨"DrillRows$Tape", "parseRow", "(LDrillRows$Script;)V"⟩ ⟨"DrillRows$Tape", "parseRow", "(LDrillRows$Script;)V"⟩) := dr_Tg (List.mem_of_getElem? (i := 3) (by decide +kernel)) (Or.inl (by decide +kernel))
theorem tp_4 : dr_T (.selects "DrillRows$Tape" ⟨"DrillRows$Tape", "accept", "(C)Z"⟩ ⟨"DrillRows$Tape", "accept", "(C)Z"⟩) := dr_Tg (List.mem_of_getElem? (i := 4) (by decide +kernel)) (Or.inl (by decide +kernel))
theorem tp_5 : dr_T (.selects "DrillRows$Tape" ⟨"DrillRows$Tape", "parseEvent", "(LDrillRows$Script;)V"⟩ ⟨"DrillRows$Tape", "parseEvent", "(LDrillRows$Script;)V"⟩) := dr_Tg (List.mem_of_getElem? (i := 5) (by decide +kernel)) (Or.inl (by decide +kernel))
theorem tp_6 : dr_T (.selects "DrillRows$Tape" ⟨"DrillRows$Tape", "parseNumber", "(II)I"⟩ ⟨"DrillRows$Tape", "parseNumber", "(II)I"⟩) := dr_Tg (List.mem_of_getElem? (i := 6) (by decide +kernel)) (Or.inl (by decide +kernel))
theorem tp_7 : dr_T (.selects "DrillRows$Tape" ⟨"DrillRows$Tape", "fail", "(I)V"⟩ ⟨"DrillRows$Tape", "fail", "(I)V"⟩) := dr_Tg (List.mem_of_getElem? (i := 7) (by decide +kernel)) (Or.inl (by decide +kernel))
theorem tp_8 : dr_T (.selects "DrillRows$Tape" ⟨"DrillRows$Tape", "expect", "(C)V"⟩ ⟨"DrillRows$Tape", "expect", "(C)V"⟩) := dr_Tg (List.mem_of_getElem? (i := 8) (by decide +kernel)) (Or.inl (by decide +kernel))
theorem tp_9 : dr_T (.selects "DrillRows$Tape" ⟨"DrillRows$Tape", "parseAim", "(LDrillRows$Script;)V"⟩ ⟨"DrillRows$Tape", "parseAim", "(LDrillRows$Script;)V"⟩) := dr_Tg (List.mem_of_getElem? (i := 9) (by decide +kernel)) (Or.inl (by decide +kernel))
theorem tp_10 : dr_T (.selects "DrillRows$Drill" ⟨"DrillRows$Drill", "dueSecond", "(I)I"⟩ ⟨"DrillRows$Drill", "dueSecond", "(I)I"⟩) := dr_Tg (List.mem_of_getElem? (i := 10) (by decide +kernel)) (Or.inl (by decide +kernel))
theorem tp_11 : dr_T (.selects "DrillRows$Drill" ⟨"DrillRows$Drill", "firstSecondOf", "(I)I"⟩ ⟨"DrillRows$Drill", "firstSecondOf", "(I)I"⟩) := dr_Tg (List.mem_of_getElem? (i := 11) (by decide +kernel)) (Or.inl (by decide +kernel))
theorem tp_12 : dr_T (.selects "DrillRows" ⟨"DrillRows", "knownDrill", "(I)LDrillRows$Drill;"⟩ ⟨"DrillRows", "knownDrill", "(I)LDrillRows$Drill;"⟩) := dr_Tg (List.mem_of_getElem? (i := 12) (by decide +kernel)) (Or.inl (by decide +kernel))
theorem tp_13 : dr_T (.selects "DrillRows$Drill" ⟨"DrillRows$Drill", "maySee", "(II)Z"⟩ ⟨"DrillRows$Drill", "maySee", "(II)Z"⟩) := dr_Tg (List.mem_of_getElem? (i := 13) (by decide +kernel)) (Or.inl (by decide +kernel))
theorem tp_14 : dr_T (.selects "DrillRows$Drill" ⟨"DrillRows$Drill", "hasActWithin", "(III)Z"⟩ ⟨"DrillRows$Drill", "hasActWithin", "(III)Z"⟩) := dr_Tg (List.mem_of_getElem? (i := 14) (by decide +kernel)) (Or.inl (by decide +kernel))
theorem tp_15 : dr_T (.selects "DrillRows" ⟨"DrillRows", "countUnits", "(I)I"⟩ ⟨"DrillRows", "countUnits", "(I)I"⟩) := dr_Tg (List.mem_of_getElem? (i := 15) (by decide +kernel)) (Or.inl (by decide +kernel))
theorem tp_16 : dr_T (.selects "DrillRowsModel" ⟨"DrillRowsModel", "goes", "(ZZZ)Z"⟩ ⟨"DrillRowsModel", "goes", "(ZZZ)Z"⟩) := dr_Tg (List.mem_of_getElem? (i := 16) (by decide +kernel)) (Or.inl (by decide +kernel))
theorem tp_17 : dr_T (.selects "DrillRowsModel" ⟨"DrillRowsModel", "see", "()I"⟩ ⟨"DrillRowsModel", "see", "()I"⟩) := dr_Tg (List.mem_of_getElem? (i := 17) (by decide +kernel)) (Or.inl (by decide +kernel))
theorem tp_18 : dr_T (.selects "DrillRowsModel" ⟨"DrillRowsModel", "here", "()I"⟩ ⟨"DrillRowsModel", "here", "()I"⟩) := dr_Tg (List.mem_of_getElem? (i := 18) (by decide +kernel)) (Or.inl (by decide +kernel))
theorem tp_19 : dr_T (.selects "DrillRowsModel" ⟨"DrillRowsModel", "takes", "(I)Z"⟩ ⟨"DrillRowsModel", "takes", "(I)Z"⟩) := dr_Tg (List.mem_of_getElem? (i := 19) (by decide +kernel)) (Or.inl (by decide +kernel))
theorem tp_20 : dr_T (.selects "DrillRowsModel" ⟨"DrillRowsModel", "eventRow", "()V"⟩ ⟨"DrillRowsModel", "eventRow", "()V"⟩) := dr_Tg (List.mem_of_getElem? (i := 20) (by decide +kernel)) (Or.inl (by decide +kernel))
theorem tp_21 : dr_T (.selects "DrillRowsModel" ⟨"DrillRowsModel", "number", "(II)I"⟩ ⟨"DrillRowsModel", "number", "(II)I"⟩) := dr_Tg (List.mem_of_getElem? (i := 21) (by decide +kernel)) (Or.inl (by decide +kernel))
theorem tp_22 : dr_T (.selects "DrillRowsModel" ⟨"DrillRowsModel", "isDigit", "()Z"⟩ ⟨"DrillRowsModel", "isDigit", "()Z"⟩) := dr_Tg (List.mem_of_getElem? (i := 22) (by decide +kernel)) (Or.inl (by decide +kernel))
theorem tp_23 : dr_T (.selects "DrillRowsModel" ⟨"DrillRowsModel", "fail", "(I)V"⟩ ⟨"DrillRowsModel", "fail", "(I)V"⟩) := dr_Tg (List.mem_of_getElem? (i := 23) (by decide +kernel)) (Or.inl (by decide +kernel))
theorem tp_24 : dr_T (.selects "DrillRowsModel" ⟨"DrillRowsModel", "take", "(I)V"⟩ ⟨"DrillRowsModel", "take", "(I)V"⟩) := dr_Tg (List.mem_of_getElem? (i := 24) (by decide +kernel)) (Or.inl (by decide +kernel))
theorem tp_25 : dr_T (.selects "DrillRowsModel" ⟨"DrillRowsModel", "aimRow", "()V"⟩ ⟨"DrillRowsModel", "aimRow", "()V"⟩) := dr_Tg (List.mem_of_getElem? (i := 25) (by decide +kernel)) (Or.inl (by decide +kernel))
theorem tp_26 : dr_T (.selects "DrillRowsModel" ⟨"DrillRowsModel", "copy", "(II)V"⟩ ⟨"DrillRowsModel", "copy", "(II)V"⟩) := dr_Tg (List.mem_of_getElem? (i := 26) (by decide +kernel)) (Or.inl (by decide +kernel))
theorem tp_27 : dr_T (.selects "DrillRowsModel" ⟨"DrillRowsModel", "size", "(I)I"⟩ ⟨"DrillRowsModel", "size", "(I)I"⟩) := dr_Tg (List.mem_of_getElem? (i := 27) (by decide +kernel)) (Or.inl (by decide +kernel))
theorem tp_28 : dr_T (.selects "DrillRowsModel" ⟨"DrillRowsModel", "look", "(I)I"⟩ ⟨"DrillRowsModel", "look", "(I)I"⟩) := dr_Tg (List.mem_of_getElem? (i := 28) (by decide +kernel)) (Or.inl (by decide +kernel))
theorem tp_29 : dr_T (.selects "DrillRowsModel" ⟨"DrillRowsModel", "isDue", "(II)Z"⟩ ⟨"DrillRowsModel", "isDue", "(II)Z"⟩) := dr_Tg (List.mem_of_getElem? (i := 29) (by decide +kernel)) (Or.inl (by decide +kernel))
theorem tp_30 : dr_T (.selects "DrillRowsModel" ⟨"DrillRowsModel", "relative", "(I)I"⟩ ⟨"DrillRowsModel", "relative", "(I)I"⟩) := dr_Tg (List.mem_of_getElem? (i := 30) (by decide +kernel)) (Or.inl (by decide +kernel))
theorem tp_31 : dr_T (.selects "DrillRowsModel" ⟨"DrillRowsModel", "first", "(III)I"⟩ ⟨"DrillRowsModel", "first", "(III)I"⟩) := dr_Tg (List.mem_of_getElem? (i := 31) (by decide +kernel)) (Or.inl (by decide +kernel))
theorem tp_32 : dr_T (.selects "DrillRowsModel" ⟨"DrillRowsModel", "isDrill", "(I)Z"⟩ ⟨"DrillRowsModel", "isDrill", "(I)Z"⟩) := dr_Tg (List.mem_of_getElem? (i := 32) (by decide +kernel)) (Or.inl (by decide +kernel))
theorem tp_33 : dr_T (.selects "DrillRowsModel" ⟨"DrillRowsModel", "does", "(II)I"⟩ ⟨"DrillRowsModel", "does", "(II)I"⟩) := dr_Tg (List.mem_of_getElem? (i := 33) (by decide +kernel)) (Or.inl (by decide +kernel))
theorem tp_34 : dr_T (.selects "DrillRowsModel" ⟨"DrillRowsModel", "is", "(II)I"⟩ ⟨"DrillRowsModel", "is", "(II)I"⟩) := dr_Tg (List.mem_of_getElem? (i := 34) (by decide +kernel)) (Or.inl (by decide +kernel))
theorem cl_D : dr_Cl 0 "DrillRows$Drill" nT_D 9 nt_D := ⟨rfl, by decide, fun w hw => dr_Tg (nw_D w hw) (Or.inl ((by decide +kernel : ∀ w ∈ u_ws "DrillRows$Drill" nT_D 9, (w.onTables && w.keeps) = true) w hw)), nd_D, nn_D⟩
theorem cl_S : dr_Cl 1 "DrillRows$Script" nT_S 13 nt_S := ⟨rfl, by decide, fun w hw => dr_Tg (nw_S w hw) (Or.inl ((by decide +kernel : ∀ w ∈ u_ws "DrillRows$Script" nT_S 13, (w.onTables && w.keeps) = true) w hw)), nd_S, nn_S⟩
theorem cl_T : dr_Cl 2 "DrillRows$Tape" nT_T 4 nt_T := ⟨rfl, by decide, fun w hw => dr_Tg (nw_T w hw) (Or.inl ((by decide +kernel : ∀ w ∈ u_ws "DrillRows$Tape" nT_T 4, (w.onTables && w.keeps) = true) w hw)), nd_T, nn_T⟩
theorem cl_R : dr_Cl 3 "DrillRows" nT_R 10 nt_R := ⟨rfl, by decide, fun w hw => dr_Tg (nw_R w hw) (Or.inl ((by decide +kernel : ∀ w ∈ u_ws "DrillRows" nT_R 10, (w.onTables && w.keeps) = true) w hw)), nd_R, nn_R⟩
theorem cl_M : dr_Cl 4 "DrillRowsModel" nT_M 32 nt_M := ⟨rfl, by decide, fun w hw => dr_Tg (nw_M w hw) (Or.inl ((by decide +kernel : ∀ w ∈ u_ws "DrillRowsModel" nT_M 32, (w.onTables && w.keeps) = true) w hw)), nd_M, nn_M⟩
theorem fl_T_9 : dr_L "DrillRows$Tape" 9 nT_T 0 := Or.inl tw_30
theorem fl_T_15 : dr_L "DrillRows$Tape" 15 nT_T 1 := Or.inl tw_31
theorem fl_T_19 : dr_L "DrillRows$Tape" 19 nT_T 2 := Or.inl tw_32
theorem fl_T_22 : dr_L "DrillRows$Tape" 22 nT_T 3 := Or.inl tw_33
theorem fl_S_9 : dr_L "DrillRows$Script" 9 nT_S 0 := Or.inl tw_50
theorem fl_S_15 : dr_L "DrillRows$Script" 15 nT_S 1 := Or.inl tw_51
theorem fl_D_64 : dr_L "DrillRows$Drill" 64 nT_S 1 := Or.inl tw_52
theorem fl_S_19 : dr_L "DrillRows$Script" 19 nT_S 2 := Or.inl tw_53
theorem fl_D_70 : dr_L "DrillRows$Drill" 70 nT_S 2 := Or.inl tw_54
theorem fl_S_22 : dr_L "DrillRows$Script" 22 nT_S 3 := Or.inl tw_55
theorem fl_D_61 : dr_L "DrillRows$Drill" 61 nT_S 3 := Or.inl tw_56
theorem fl_S_25 : dr_L "DrillRows$Script" 25 nT_S 4 := Or.inl tw_57
theorem fl_D_87 : dr_L "DrillRows$Drill" 87 nT_S 4 := Or.inl tw_58
theorem fl_R_145 : dr_L "DrillRows" 145 nT_S 4 := Or.inl tw_59
theorem fl_S_28 : dr_L "DrillRows$Script" 28 nT_S 5 := Or.inl tw_60
theorem fl_D_83 : dr_L "DrillRows$Drill" 83 nT_S 5 := Or.inl tw_61
theorem fl_R_148 : dr_L "DrillRows" 148 nT_S 5 := Or.inl tw_62
theorem fl_S_31 : dr_L "DrillRows$Script" 31 nT_S 6 := Or.inl tw_63
theorem fl_D_90 : dr_L "DrillRows$Drill" 90 nT_S 6 := Or.inl tw_64
theorem fl_R_152 : dr_L "DrillRows" 152 nT_S 6 := Or.inl tw_65
theorem fl_S_34 : dr_L "DrillRows$Script" 34 nT_S 7 := Or.inl tw_66
theorem fl_R_91 : dr_L "DrillRows" 91 nT_S 7 := Or.inl tw_67
theorem fl_S_38 : dr_L "DrillRows$Script" 38 nT_S 8 := Or.inl tw_68
theorem fl_D_96 : dr_L "DrillRows$Drill" 96 nT_S 8 := Or.inl tw_69
theorem fl_S_41 : dr_L "DrillRows$Script" 41 nT_S 9 := Or.inl tw_70
theorem fl_D_105 : dr_L "DrillRows$Drill" 105 nT_S 9 := Or.inl tw_71
theorem fl_S_44 : dr_L "DrillRows$Script" 44 nT_S 10 := Or.inl tw_72
theorem fl_D_102 : dr_L "DrillRows$Drill" 102 nT_S 10 := Or.inl tw_73
theorem fl_S_47 : dr_L "DrillRows$Script" 47 nT_S 11 := Or.inl tw_74
theorem fl_D_115 : dr_L "DrillRows$Drill" 115 nT_S 11 := Or.inl tw_75
theorem fl_S_50 : dr_L "DrillRows$Script" 50 nT_S 12 := Or.inl tw_76
theorem fl_R_87 : dr_L "DrillRows" 87 nT_S 12 := Or.inl tw_77
theorem fl_R_10 : dr_L "DrillRows" 10 nT_R 0 := Or.inl tw_111
theorem fl_R_19 : dr_L "DrillRows" 19 nT_R 1 := Or.inl tw_112
theorem fl_R_23 : dr_L "DrillRows" 23 nT_R 2 := Or.inl tw_113
theorem fl_R_26 : dr_L "DrillRows" 26 nT_R 3 := Or.inl tw_114
theorem fl_R_30 : dr_L "DrillRows" 30 nT_R 4 := Or.inl tw_115
theorem fl_R_35 : dr_L "DrillRows" 35 nT_R 5 := Or.inl tw_116
theorem fl_R_39 : dr_L "DrillRows" 39 nT_R 6 := Or.inl tw_117
theorem fl_R_42 : dr_L "DrillRows" 42 nT_R 7 := Or.inl tw_118
theorem fl_R_46 : dr_L "DrillRows" 46 nT_R 8 := Or.inl tw_119
theorem fl_R_49 : dr_L "DrillRows" 49 nT_R 9 := Or.inl tw_120
theorem fl_D_35 : dr_L "DrillRows$Drill" 35 nT_D 0 := Or.inl tw_356
theorem fl_R_136 : dr_L "DrillRows" 136 nT_D 0 := Or.inl tw_357
theorem fl_D_39 : dr_L "DrillRows$Drill" 39 nT_D 1 := Or.inl tw_358
theorem fl_R_207 : dr_L "DrillRows" 207 nT_D 1 := Or.inl tw_359
theorem fl_D_9 : dr_L "DrillRows$Drill" 9 nT_D 2 := Or.inl tw_360
theorem fl_R_109 : dr_L "DrillRows" 109 nT_D 2 := Or.inl tw_361
theorem fl_D_15 : dr_L "DrillRows$Drill" 15 nT_D 3 := Or.inl tw_362
theorem fl_D_19 : dr_L "DrillRows$Drill" 19 nT_D 4 := Or.inl tw_363
theorem fl_R_216 : dr_L "DrillRows" 216 nT_D 4 := Or.inl tw_364
theorem fl_D_23 : dr_L "DrillRows$Drill" 23 nT_D 5 := Or.inl tw_365
theorem fl_D_26 : dr_L "DrillRows$Drill" 26 nT_D 6 := Or.inl tw_366
theorem fl_D_29 : dr_L "DrillRows$Drill" 29 nT_D 7 := Or.inl tw_367
theorem fl_D_32 : dr_L "DrillRows$Drill" 32 nT_D 8 := Or.inl tw_368
theorem fl_R_210 : dr_L "DrillRows" 210 nT_D 8 := Or.inl tw_369
theorem fl_M_87 : dr_L "DrillRowsModel" 87 nT_M 0 := Or.inl tw_629
theorem fl_M_147 : dr_L "DrillRowsModel" 147 nT_M 1 := Or.inl tw_630
theorem fl_M_94 : dr_L "DrillRowsModel" 94 nT_M 2 := Or.inl tw_631
theorem fl_M_7 : dr_L "DrillRowsModel" 7 nT_M 3 := Or.inl tw_632
theorem fl_M_13 : dr_L "DrillRowsModel" 13 nT_M 4 := Or.inl tw_633
theorem fl_M_101 : dr_L "DrillRowsModel" 101 nT_M 5 := Or.inl tw_634
theorem fl_M_108 : dr_L "DrillRowsModel" 108 nT_M 6 := Or.inl tw_635
theorem fl_M_17 : dr_L "DrillRowsModel" 17 nT_M 7 := Or.inl tw_636
theorem fl_M_21 : dr_L "DrillRowsModel" 21 nT_M 8 := Or.inl tw_637
theorem fl_M_24 : dr_L "DrillRowsModel" 24 nT_M 9 := Or.inl tw_638
theorem fl_M_27 : dr_L "DrillRowsModel" 27 nT_M 10 := Or.inl tw_639
theorem fl_M_30 : dr_L "DrillRowsModel" 30 nT_M 11 := Or.inl tw_640
theorem fl_M_33 : dr_L "DrillRowsModel" 33 nT_M 12 := Or.inl tw_641
theorem fl_M_36 : dr_L "DrillRowsModel" 36 nT_M 13 := Or.inl tw_642
theorem fl_M_39 : dr_L "DrillRowsModel" 39 nT_M 14 := Or.inl tw_643
theorem fl_M_42 : dr_L "DrillRowsModel" 42 nT_M 15 := Or.inl tw_644
theorem fl_M_45 : dr_L "DrillRowsModel" 45 nT_M 16 := Or.inl tw_645
theorem fl_M_48 : dr_L "DrillRowsModel" 48 nT_M 17 := Or.inl tw_646
theorem fl_M_51 : dr_L "DrillRowsModel" 51 nT_M 18 := Or.inl tw_647
theorem fl_M_161 : dr_L "DrillRowsModel" 161 nT_M 19 := Or.inl tw_648
theorem fl_M_54 : dr_L "DrillRowsModel" 54 nT_M 20 := Or.inl tw_649
theorem fl_M_57 : dr_L "DrillRowsModel" 57 nT_M 21 := Or.inl tw_650
theorem fl_M_60 : dr_L "DrillRowsModel" 60 nT_M 22 := Or.inl tw_651
theorem fl_M_63 : dr_L "DrillRowsModel" 63 nT_M 23 := Or.inl tw_652
theorem fl_M_66 : dr_L "DrillRowsModel" 66 nT_M 24 := Or.inl tw_653
theorem fl_M_69 : dr_L "DrillRowsModel" 69 nT_M 25 := Or.inl tw_654
theorem fl_M_72 : dr_L "DrillRowsModel" 72 nT_M 26 := Or.inl tw_655
theorem fl_M_178 : dr_L "DrillRowsModel" 178 nT_M 27 := Or.inl tw_656
theorem fl_M_75 : dr_L "DrillRowsModel" 75 nT_M 28 := Or.inl tw_657
theorem fl_M_78 : dr_L "DrillRowsModel" 78 nT_M 29 := Or.inl tw_658
theorem fl_M_81 : dr_L "DrillRowsModel" 81 nT_M 30 := Or.inl tw_659
theorem fl_M_84 : dr_L "DrillRowsModel" 84 nT_M 31 := Or.inl tw_660
abbrev mi_R_init : dr_MI := (ny_R_init, prog_1_method_1_code, 1, (Option.none : Option Jvm.ClassFile.FieldType), [])
theorem co_R_init : dr_code mi_R_init := Or.inl ⟨rfl, tw_20⟩
abbrev mi_R_sign : dr_MI := (ny_R_sign, prog_1_method_2_code, 4, (Option.some Jvm.ClassFile.FieldType.int), [])
theorem co_R_sign : dr_code mi_R_sign := Or.inl ⟨rfl, tw_154⟩
abbrev mi_R_read : dr_MI := (ny_R_read, prog_1_method_3_code, 2, (Option.some Jvm.ClassFile.FieldType.int), [])
theorem co_R_read : dr_code mi_R_read := Or.inl ⟨rfl, tw_256⟩
abbrev mi_R_place : dr_MI := (ny_R_place, prog_1_method_4_code, 1, (Option.some Jvm.ClassFile.FieldType.int), [])
theorem co_R_place : dr_code mi_R_place := Or.inl ⟨rfl, tw_145⟩
abbrev mi_R_begin : dr_MI := (ny_R_begin, prog_1_method_5_code, 2, (Option.some Jvm.ClassFile.FieldType.int), [])
theorem co_R_begin : dr_code mi_R_begin := Or.inl ⟨rfl, tw_347⟩
abbrev mi_R_stop : dr_MI := (ny_R_stop, prog_1_method_6_code, 4, (Option.none : Option Jvm.ClassFile.FieldType), [])
theorem co_R_stop : dr_code mi_R_stop := Or.inl ⟨rfl, tw_416⟩
abbrev mi_R_unit : dr_MI := (ny_R_unit, prog_1_method_7_code, 4, (Option.none : Option Jvm.ClassFile.FieldType), [])
theorem co_R_unit : dr_code mi_R_unit := Or.inl ⟨rfl, tw_444⟩
abbrev mi_R_real : dr_MI := (ny_R_real, prog_1_method_8_code, 3, (Option.some Jvm.ClassFile.FieldType.int), [])
theorem co_R_real : dr_code mi_R_real := Or.inl ⟨rfl, tw_453⟩
abbrev mi_R_act : dr_MI := (ny_R_act, prog_1_method_9_code, 4, (Option.some Jvm.ClassFile.FieldType.int), [])
theorem co_R_act : dr_code mi_R_act := Or.inl ⟨rfl, tw_460⟩
abbrev mi_R_tick : dr_MI := (ny_R_tick, prog_1_method_10_code, 7, (Option.some Jvm.ClassFile.FieldType.int), [])
theorem co_R_tick : dr_code mi_R_tick := Or.inl ⟨rfl, tw_477⟩
abbrev mi_R_event : dr_MI := (ny_R_event, prog_1_method_11_code, 5, (Option.some Jvm.ClassFile.FieldType.int), [])
theorem co_R_event : dr_code mi_R_event := Or.inl ⟨rfl, tw_486⟩
abbrev mi_R_seen : dr_MI := (ny_R_seen, prog_1_method_12_code, 5, (Option.some Jvm.ClassFile.FieldType.int), [])
theorem co_R_seen : dr_code mi_R_seen := Or.inl ⟨rfl, tw_500⟩
abbrev mi_R_fault : dr_MI := (ny_R_fault, prog_1_method_13_code, 4, (Option.some Jvm.ClassFile.FieldType.boolean), [])
theorem co_R_fault : dr_code mi_R_fault := Or.inl ⟨rfl, tw_517⟩
abbrev mi_R_aim : dr_MI := (ny_R_aim, prog_1_method_14_code, 4, (Option.some Jvm.ClassFile.FieldType.int), [])
theorem co_R_aim : dr_code mi_R_aim := Or.inl ⟨rfl, tw_529⟩
abbrev mi_R_score : dr_MI := (ny_R_score, prog_1_method_15_code, 6, (Option.some Jvm.ClassFile.FieldType.int), [])
theorem co_R_score : dr_code mi_R_score := Or.inl ⟨rfl, tw_549⟩
abbrev mi_R_compare : dr_MI := (ny_R_compare, prog_1_method_16_code, 8, (Option.some Jvm.ClassFile.FieldType.int), [])
theorem co_R_compare : dr_code mi_R_compare := Or.inl ⟨rfl, tw_584⟩
abbrev mi_R_observe : dr_MI := (ny_R_observe, prog_1_method_17_code, 7, (Option.some Jvm.ClassFile.FieldType.int), [])
theorem co_R_observe : dr_code mi_R_observe := Or.inl ⟨rfl, tw_591⟩
abbrev mi_R_row : dr_MI := (ny_R_row, prog_1_method_18_code, 3, (Option.some Jvm.ClassFile.FieldType.int), [])
theorem co_R_row : dr_code mi_R_row := Or.inl ⟨rfl, tw_601⟩
abbrev mi_R_play : dr_MI := (ny_R_play, prog_1_method_19_code, 4, (Option.some Jvm.ClassFile.FieldType.int), [])
theorem co_R_play : dr_code mi_R_play := Or.inl ⟨rfl, tw_609⟩
abbrev mi_R_drill : dr_MI := (ny_R_drill, prog_1_method_20_code, 4, (Option.some Jvm.ClassFile.FieldType.int), [])
theorem co_R_drill : dr_code mi_R_drill := Or.inl ⟨rfl, tw_618⟩
abbrev mi_R_knownDrill : dr_MI := (ny_R_knownDrill, prog_1_method_21_code, 3, (Option.some (Jvm.ClassFile.FieldType.object "DrillRows$Drill")), [])
theorem co_R_knownDrill : dr_code mi_R_knownDrill := Or.inl ⟨rfl, tw_420⟩
abbrev mi_R_countUnits : dr_MI := (ny_R_countUnits, prog_1_method_22_code, 7, (Option.some Jvm.ClassFile.FieldType.int), [])
theorem co_R_countUnits : dr_code mi_R_countUnits := Or.inl ⟨rfl, tw_622⟩
abbrev mi_R_inLowestTerms : dr_MI := (ny_R_inLowestTerms, prog_1_method_23_code, 4, (Option.some Jvm.ClassFile.FieldType.int), [])
theorem co_R_inLowestTerms : dr_code mi_R_inLowestTerms := Or.inl ⟨rfl, tw_577⟩
abbrev mi_M_init : dr_MI := (ny_M_init, prog_6_method_1_code, 2, (Option.none : Option Jvm.ClassFile.FieldType), [])
theorem co_M_init : dr_code mi_M_init := Or.inl ⟨rfl, tw_627⟩
abbrev mi_M_thrown : dr_MI := (ny_M_thrown, prog_6_method_2_code, 1, (Option.some Jvm.ClassFile.FieldType.int), [])
theorem co_M_thrown : dr_code mi_M_thrown := Or.inl ⟨rfl, tw_729⟩
abbrev mi_M_in : dr_MI := (ny_M_in, prog_6_method_3_code, 3, (Option.some Jvm.ClassFile.FieldType.boolean), [])
theorem co_M_in : dr_code mi_M_in := Or.inl ⟨rfl, tw_736⟩
abbrev mi_M_goes : dr_MI := (ny_M_goes, prog_6_method_4_code, 4, (Option.some Jvm.ClassFile.FieldType.boolean), [])
theorem co_M_goes : dr_code mi_M_goes := Or.inl ⟨rfl, tw_740⟩
abbrev mi_M_sign : dr_MI := (ny_M_sign, prog_6_method_5_code, 5, (Option.some Jvm.ClassFile.FieldType.int), [])
theorem co_M_sign : dr_code mi_M_sign := Or.inl ⟨rfl, tw_733⟩
abbrev mi_M_here : dr_MI := (ny_M_here, prog_6_method_6_code, 1, (Option.some Jvm.ClassFile.FieldType.int), [])
theorem co_M_here : dr_code mi_M_here := Or.inl ⟨rfl, tw_752⟩
abbrev mi_M_see : dr_MI := (ny_M_see, prog_6_method_7_code, 1, (Option.some Jvm.ClassFile.FieldType.int), [])
theorem co_M_see : dr_code mi_M_see := Or.inl ⟨rfl, tw_748⟩
abbrev mi_M_fail : dr_MI := (ny_M_fail, prog_6_method_8_code, 2, (Option.none : Option Jvm.ClassFile.FieldType), [])
theorem co_M_fail : dr_code mi_M_fail := Or.inl ⟨rfl, tw_772⟩
abbrev mi_M_take : dr_MI := (ny_M_take, prog_6_method_9_code, 2, (Option.none : Option Jvm.ClassFile.FieldType), [])
theorem co_M_take : dr_code mi_M_take := Or.inl ⟨rfl, tw_776⟩
abbrev mi_M_takes : dr_MI := (ny_M_takes, prog_6_method_10_code, 2, (Option.some Jvm.ClassFile.FieldType.boolean), [])
theorem co_M_takes : dr_code mi_M_takes := Or.inl ⟨rfl, tw_756⟩
abbrev mi_M_isDigit : dr_MI := (ny_M_isDigit, prog_6_method_11_code, 1, (Option.some Jvm.ClassFile.FieldType.boolean), [])
theorem co_M_isDigit : dr_code mi_M_isDigit := Or.inl ⟨rfl, tw_768⟩
abbrev mi_M_number : dr_MI := (ny_M_number, prog_6_method_12_code, 5, (Option.some Jvm.ClassFile.FieldType.int), [])
theorem co_M_number : dr_code mi_M_number := Or.inl ⟨rfl, tw_764⟩
abbrev mi_M_eventRow : dr_MI := (ny_M_eventRow, prog_6_method_13_code, 3, (Option.none : Option Jvm.ClassFile.FieldType), [])
theorem co_M_eventRow : dr_code mi_M_eventRow := Or.inl ⟨rfl, tw_760⟩
abbrev mi_M_aimRow : dr_MI := (ny_M_aimRow, prog_6_method_14_code, 3, (Option.none : Option Jvm.ClassFile.FieldType), [])
theorem co_M_aimRow : dr_code mi_M_aimRow := Or.inl ⟨rfl, tw_780⟩
abbrev mi_M_copy : dr_MI := (ny_M_copy, prog_6_method_15_code, 6, (Option.none : Option Jvm.ClassFile.FieldType), [])
theorem co_M_copy : dr_code mi_M_copy := Or.inl ⟨rfl, tw_784⟩
abbrev mi_M_size : dr_MI := (ny_M_size, prog_6_method_16_code, 4, (Option.some Jvm.ClassFile.FieldType.int), [])
theorem co_M_size : dr_code mi_M_size := Or.inl ⟨rfl, tw_788⟩
abbrev mi_M_read : dr_MI := (ny_M_read, prog_6_method_17_code, 2, (Option.some Jvm.ClassFile.FieldType.int), [])
theorem co_M_read : dr_code mi_M_read := Or.inl ⟨rfl, tw_744⟩
abbrev mi_M_place : dr_MI := (ny_M_place, prog_6_method_18_code, 1, (Option.some Jvm.ClassFile.FieldType.int), [])
theorem co_M_place : dr_code mi_M_place := Or.inl ⟨rfl, tw_792⟩
abbrev mi_M_relative : dr_MI := (ny_M_relative, prog_6_method_19_code, 2, (Option.some Jvm.ClassFile.FieldType.int), [])
theorem co_M_relative : dr_code mi_M_relative := Or.inl ⟨rfl, tw_808⟩
abbrev mi_M_first : dr_MI := (ny_M_first, prog_6_method_20_code, 5, (Option.some Jvm.ClassFile.FieldType.int), [])
theorem co_M_first : dr_code mi_M_first := Or.inl ⟨rfl, tw_812⟩
abbrev mi_M_isDue : dr_MI := (ny_M_isDue, prog_6_method_21_code, 5, (Option.some Jvm.ClassFile.FieldType.boolean), [])
theorem co_M_isDue : dr_code mi_M_isDue := Or.inl ⟨rfl, tw_804⟩
abbrev mi_M_look : dr_MI := (ny_M_look, prog_6_method_22_code, 5, (Option.some Jvm.ClassFile.FieldType.int), [])
theorem co_M_look : dr_code mi_M_look := Or.inl ⟨rfl, tw_800⟩
abbrev mi_M_begin : dr_MI := (ny_M_begin, prog_6_method_23_code, 2, (Option.some Jvm.ClassFile.FieldType.int), [])
theorem co_M_begin : dr_code mi_M_begin := Or.inl ⟨rfl, tw_796⟩
abbrev mi_M_isDrill : dr_MI := (ny_M_isDrill, prog_6_method_24_code, 2, (Option.some Jvm.ClassFile.FieldType.boolean), [])
theorem co_M_isDrill : dr_code mi_M_isDrill := Or.inl ⟨rfl, tw_820⟩
abbrev mi_M_stop : dr_MI := (ny_M_stop, prog_6_method_25_code, 3, (Option.none : Option Jvm.ClassFile.FieldType), [])
theorem co_M_stop : dr_code mi_M_stop := Or.inl ⟨rfl, tw_816⟩
abbrev mi_M_unit : dr_MI := (ny_M_unit, prog_6_method_26_code, 4, (Option.none : Option Jvm.ClassFile.FieldType), [])
theorem co_M_unit : dr_code mi_M_unit := Or.inl ⟨rfl, tw_824⟩
abbrev mi_M_real : dr_MI := (ny_M_real, prog_6_method_27_code, 3, (Option.some Jvm.ClassFile.FieldType.int), [])
theorem co_M_real : dr_code mi_M_real := Or.inl ⟨rfl, tw_828⟩
abbrev mi_M_does : dr_MI := (ny_M_does, prog_6_method_28_code, 3, (Option.some Jvm.ClassFile.FieldType.int), [])
theorem co_M_does : dr_code mi_M_does := Or.inl ⟨rfl, tw_836⟩
abbrev mi_M_act : dr_MI := (ny_M_act, prog_6_method_29_code, 4, (Option.some Jvm.ClassFile.FieldType.int), [])
theorem co_M_act : dr_code mi_M_act := Or.inl ⟨rfl, tw_832⟩
abbrev mi_M_play : dr_MI := (ny_M_play, prog_6_method_30_code, 5, (Option.some Jvm.ClassFile.FieldType.int), [])
theorem co_M_play : dr_code mi_M_play := Or.inl ⟨rfl, tw_840⟩
abbrev mi_M_tick : dr_MI := (ny_M_tick, prog_6_method_31_code, 5, (Option.some Jvm.ClassFile.FieldType.int), [])
theorem co_M_tick : dr_code mi_M_tick := Or.inl ⟨rfl, tw_845⟩
abbrev mi_M_event : dr_MI := (ny_M_event, prog_6_method_32_code, 6, (Option.some Jvm.ClassFile.FieldType.int), [])
theorem co_M_event : dr_code mi_M_event := Or.inl ⟨rfl, tw_850⟩
abbrev mi_M_seen : dr_MI := (ny_M_seen, prog_6_method_33_code, 7, (Option.some Jvm.ClassFile.FieldType.int), [])
theorem co_M_seen : dr_code mi_M_seen := Or.inl ⟨rfl, tw_854⟩
abbrev mi_M_fault : dr_MI := (ny_M_fault, prog_6_method_34_code, 4, (Option.some Jvm.ClassFile.FieldType.boolean), [])
theorem co_M_fault : dr_code mi_M_fault := Or.inl ⟨rfl, tw_858⟩
abbrev mi_M_is : dr_MI := (ny_M_is, prog_6_method_35_code, 6, (Option.some Jvm.ClassFile.FieldType.int), [])
theorem co_M_is : dr_code mi_M_is := Or.inl ⟨rfl, tw_866⟩
abbrev mi_M_aim : dr_MI := (ny_M_aim, prog_6_method_36_code, 4, (Option.some Jvm.ClassFile.FieldType.int), [])
theorem co_M_aim : dr_code mi_M_aim := Or.inl ⟨rfl, tw_862⟩
abbrev mi_M_score : dr_MI := (ny_M_score, prog_6_method_37_code, 9, (Option.some Jvm.ClassFile.FieldType.int), [])
theorem co_M_score : dr_code mi_M_score := Or.inl ⟨rfl, tw_870⟩
abbrev mi_M_compare : dr_MI := (ny_M_compare, prog_6_method_38_code, 5, (Option.some Jvm.ClassFile.FieldType.int), [])
theorem co_M_compare : dr_code mi_M_compare := Or.inl ⟨rfl, tw_874⟩
abbrev mi_M_observe : dr_MI := (ny_M_observe, prog_6_method_39_code, 5, (Option.some Jvm.ClassFile.FieldType.int), [])
theorem co_M_observe : dr_code mi_M_observe := Or.inl ⟨rfl, tw_878⟩
abbrev mi_M_row : dr_MI := (ny_M_row, prog_6_method_40_code, 3, (Option.some Jvm.ClassFile.FieldType.int), [])
theorem co_M_row : dr_code mi_M_row := Or.inl ⟨rfl, tw_882⟩
abbrev mi_M_drill : dr_MI := (ny_M_drill, prog_6_method_41_code, 6, (Option.some Jvm.ClassFile.FieldType.int), [])
theorem co_M_drill : dr_code mi_M_drill := Or.inl ⟨rfl, tw_886⟩
abbrev mi_D_init : dr_MI := (ny_D_init, prog_2_method_1_code, 3, (Option.none : Option Jvm.ClassFile.FieldType), [])
theorem co_D_init : dr_code mi_D_init := Or.inl ⟨rfl, tw_353⟩
abbrev mi_D_drillSecond : dr_MI := (ny_D_drillSecond, prog_2_method_2_code, 2, (Option.some Jvm.ClassFile.FieldType.int), [])
theorem co_D_drillSecond : dr_code mi_D_drillSecond := Or.inl ⟨rfl, tw_396⟩
abbrev mi_D_beginOf : dr_MI := (ny_D_beginOf, prog_2_method_3_code, 2, (Option.some Jvm.ClassFile.FieldType.int), [])
theorem co_D_beginOf : dr_code mi_D_beginOf := Or.inl ⟨rfl, tw_492⟩
abbrev mi_D_hasRoomForAct : dr_MI := (ny_D_hasRoomForAct, prog_2_method_4_code, 1, (Option.some Jvm.ClassFile.FieldType.boolean), [])
theorem co_D_hasRoomForAct : dr_code mi_D_hasRoomForAct := Or.inl ⟨rfl, tw_465⟩
abbrev mi_D_noteAct : dr_MI := (ny_D_noteAct, prog_2_method_5_code, 4, (Option.none : Option Jvm.ClassFile.FieldType), [])
theorem co_D_noteAct : dr_code mi_D_noteAct := Or.inl ⟨rfl, tw_470⟩
abbrev mi_D_beginDueEvents : dr_MI := (ny_D_beginDueEvents, prog_2_method_6_code, 6, (Option.some Jvm.ClassFile.FieldType.int), [])
theorem co_D_beginDueEvents : dr_code mi_D_beginDueEvents := Or.inl ⟨rfl, tw_392⟩
abbrev mi_D_dueSecond : dr_MI := (ny_D_dueSecond, prog_2_method_7_code, 4, (Option.some Jvm.ClassFile.FieldType.int), [])
theorem co_D_dueSecond : dr_code mi_D_dueSecond := Or.inl ⟨rfl, tw_401⟩
abbrev mi_D_firstSecondOf : dr_MI := (ny_D_firstSecondOf, prog_2_method_8_code, 2, (Option.some Jvm.ClassFile.FieldType.int), [])
theorem co_D_firstSecondOf : dr_code mi_D_firstSecondOf := Or.inl ⟨rfl, tw_405⟩
abbrev mi_D_eventSeenBy : dr_MI := (ny_D_eventSeenBy, prog_2_method_9_code, 5, (Option.some Jvm.ClassFile.FieldType.int), [])
theorem co_D_eventSeenBy : dr_code mi_D_eventSeenBy := Or.inl ⟨rfl, tw_506⟩
abbrev mi_D_maySee : dr_MI := (ny_D_maySee, prog_2_method_10_code, 3, (Option.some Jvm.ClassFile.FieldType.boolean), [])
theorem co_D_maySee : dr_code mi_D_maySee := Or.inl ⟨rfl, tw_510⟩
abbrev mi_D_hasBegunFault : dr_MI := (ny_D_hasBegunFault, prog_2_method_11_code, 3, (Option.some Jvm.ClassFile.FieldType.boolean), [])
theorem co_D_hasBegunFault : dr_code mi_D_hasBegunFault := Or.inl ⟨rfl, tw_522⟩
abbrev mi_D_stateOfAim : dr_MI := (ny_D_stateOfAim, prog_2_method_12_code, 6, (Option.some Jvm.ClassFile.FieldType.int), [])
theorem co_D_stateOfAim : dr_code mi_D_stateOfAim := Or.inl ⟨rfl, tw_535⟩
abbrev mi_D_hasActWithin : dr_MI := (ny_D_hasActWithin, prog_2_method_13_code, 5, (Option.some Jvm.ClassFile.FieldType.boolean), [])
theorem co_D_hasActWithin : dr_code mi_D_hasActWithin := Or.inl ⟨rfl, tw_541⟩
abbrev mi_D_weightOfMetAims : dr_MI := (ny_D_weightOfMetAims, prog_2_method_14_code, 4, (Option.some Jvm.ClassFile.FieldType.int), [])
theorem co_D_weightOfMetAims : dr_code mi_D_weightOfMetAims := Or.inl ⟨rfl, tw_573⟩
abbrev mi_S_init : dr_MI := (ny_S_init, prog_3_method_1_code, 1, (Option.none : Option Jvm.ClassFile.FieldType), [])
theorem co_S_init : dr_code mi_S_init := Or.inl ⟨rfl, tw_48⟩
abbrev mi_S_clear : dr_MI := (ny_S_clear, prog_3_method_2_code, 2, (Option.none : Option Jvm.ClassFile.FieldType), [])
theorem co_S_clear : dr_code mi_S_clear := Or.inl ⟨rfl, tw_264⟩
abbrev mi_S_hasEvent : dr_MI := (ny_S_hasEvent, prog_3_method_3_code, 2, (Option.some Jvm.ClassFile.FieldType.boolean), [])
theorem co_S_hasEvent : dr_code mi_S_hasEvent := Or.inl ⟨rfl, tw_300⟩
abbrev mi_S_hasAim : dr_MI := (ny_S_hasAim, prog_3_method_4_code, 2, (Option.some Jvm.ClassFile.FieldType.boolean), [])
theorem co_S_hasAim : dr_code mi_S_hasAim := Or.inl ⟨rfl, tw_320⟩
abbrev mi_S_addEvent : dr_MI := (ny_S_addEvent, prog_3_method_5_code, 5, (Option.none : Option Jvm.ClassFile.FieldType), [])
theorem co_S_addEvent : dr_code mi_S_addEvent := Or.inl ⟨rfl, tw_308⟩
abbrev mi_S_describeEvent : dr_MI := (ny_S_describeEvent, prog_3_method_6_code, 5, (Option.none : Option Jvm.ClassFile.FieldType), [])
theorem co_S_describeEvent : dr_code mi_S_describeEvent := Or.inl ⟨rfl, tw_312⟩
abbrev mi_S_addAim : dr_MI := (ny_S_addAim, prog_3_method_7_code, 6, (Option.none : Option Jvm.ClassFile.FieldType), [])
theorem co_S_addAim : dr_code mi_S_addAim := Or.inl ⟨rfl, tw_324⟩
abbrev mi_S_weightOfAims : dr_MI := (ny_S_weightOfAims, prog_3_method_8_code, 6, (Option.some Jvm.ClassFile.FieldType.int), [])
theorem co_S_weightOfAims : dr_code mi_S_weightOfAims := Or.inl ⟨rfl, tw_553⟩
abbrev mi_T_init : dr_MI := (ny_T_init, prog_4_method_1_code, 1, (Option.none : Option Jvm.ClassFile.FieldType), [])
theorem co_T_init : dr_code mi_T_init := Or.inl ⟨rfl, tw_28⟩
abbrev mi_T_hasRoomFor : dr_MI := (ny_T_hasRoomFor, prog_4_method_2_code, 2, (Option.some Jvm.ClassFile.FieldType.boolean), [])
theorem co_T_hasRoomFor : dr_code mi_T_hasRoomFor := Or.inl ⟨rfl, tw_228⟩
abbrev mi_T_append : dr_MI := (ny_T_append, prog_4_method_3_code, 5, (Option.some Jvm.ClassFile.FieldType.int), [])
theorem co_T_append : dr_code mi_T_append := Or.inl ⟨rfl, tw_248⟩
abbrev mi_T_parseInto : dr_MI := (ny_T_parseInto, prog_4_method_4_code, 3, (Option.some Jvm.ClassFile.FieldType.int), [])
theorem co_T_parseInto : dr_code mi_T_parseInto := Or.inl ⟨rfl, tw_260⟩
abbrev mi_T_parseRow : dr_MI := (ny_T_parseRow, prog_4_method_5_code, 2, (Option.none : Option Jvm.ClassFile.FieldType), [])
theorem co_T_parseRow : dr_code mi_T_parseRow := Or.inl ⟨rfl, tw_277⟩
abbrev mi_T_parseEvent : dr_MI := (ny_T_parseEvent, prog_4_method_6_code, 9, (Option.none : Option Jvm.ClassFile.FieldType), [])
theorem co_T_parseEvent : dr_code mi_T_parseEvent := Or.inl ⟨rfl, tw_285⟩
abbrev mi_T_parseAim : dr_MI := (ny_T_parseAim, prog_4_method_7_code, 7, (Option.none : Option Jvm.ClassFile.FieldType), [])
theorem co_T_parseAim : dr_code mi_T_parseAim := Or.inl ⟨rfl, tw_316⟩
abbrev mi_T_parseNumber : dr_MI := (ny_T_parseNumber, prog_4_method_8_code, 5, (Option.some Jvm.ClassFile.FieldType.int), [])
theorem co_T_parseNumber : dr_code mi_T_parseNumber := Or.inl ⟨rfl, tw_289⟩
abbrev mi_T_expect : dr_MI := (ny_T_expect, prog_4_method_9_code, 2, (Option.none : Option Jvm.ClassFile.FieldType), [])
theorem co_T_expect : dr_code mi_T_expect := Or.inl ⟨rfl, tw_304⟩
abbrev mi_T_accept : dr_MI := (ny_T_accept, prog_4_method_10_code, 2, (Option.some Jvm.ClassFile.FieldType.boolean), [])
theorem co_T_accept : dr_code mi_T_accept := Or.inl ⟨rfl, tw_281⟩
abbrev mi_T_skipBlanks : dr_MI := (ny_T_skipBlanks, prog_4_method_11_code, 1, (Option.none : Option Jvm.ClassFile.FieldType), [])
theorem co_T_skipBlanks : dr_code mi_T_skipBlanks := Or.inl ⟨rfl, tw_269⟩
abbrev mi_T_nextByte : dr_MI := (ny_T_nextByte, prog_4_method_12_code, 1, (Option.some Jvm.ClassFile.FieldType.int), [])
theorem co_T_nextByte : dr_code mi_T_nextByte := Or.inl ⟨rfl, tw_273⟩
abbrev mi_T_isDigit : dr_MI := (ny_T_isDigit, prog_4_method_13_code, 1, (Option.some Jvm.ClassFile.FieldType.boolean), [])
theorem co_T_isDigit : dr_code mi_T_isDigit := Or.inl ⟨rfl, tw_292⟩
abbrev mi_T_fail : dr_MI := (ny_T_fail, prog_4_method_14_code, 2, (Option.none : Option Jvm.ClassFile.FieldType), [])
theorem co_T_fail : dr_code mi_T_fail := Or.inl ⟨rfl, tw_296⟩
abbrev mi_L_sign : dr_MI := (ny_L_sign, method_3_code, 6, (Option.some Jvm.ClassFile.FieldType.int), [((0 : Nat), (11 : Nat), (14 : Nat), (13 : Nat)), ((0 : Nat), (11 : Nat), (18 : Nat), (15 : Nat))])
theorem co_L_sign : dr_code mi_L_sign := Or.inr tw_148
abbrev mi_L_read : dr_MI := (ny_L_read, method_4_code, 3, (Option.some Jvm.ClassFile.FieldType.int), [((0 : Nat), (8 : Nat), (11 : Nat), (21 : Nat))])
theorem co_L_read : dr_code mi_L_read := Or.inr tw_251
abbrev mi_L_begin : dr_MI := (ny_L_begin, method_5_code, 3, (Option.some Jvm.ClassFile.FieldType.int), [((0 : Nat), (8 : Nat), (11 : Nat), (21 : Nat)), ((0 : Nat), (8 : Nat), (14 : Nat), (15 : Nat))])
theorem co_L_begin : dr_code mi_L_begin := Or.inr tw_343
abbrev mi_L_stop : dr_MI := (ny_L_stop, method_6_code, 3, (Option.some Jvm.ClassFile.FieldType.int), [((0 : Nat), (5 : Nat), (8 : Nat), (30 : Nat)), ((0 : Nat), (5 : Nat), (11 : Nat), (21 : Nat))])
theorem co_L_stop : dr_code mi_L_stop := Or.inr tw_411
abbrev mi_L_unit : dr_MI := (ny_L_unit, method_7_code, 4, (Option.some Jvm.ClassFile.FieldType.int), [((0 : Nat), (6 : Nat), (9 : Nat), (30 : Nat)), ((0 : Nat), (6 : Nat), (12 : Nat), (21 : Nat))])
theorem co_L_unit : dr_code mi_L_unit := Or.inr tw_440
abbrev mi_L_real : dr_MI := (ny_L_real, method_8_code, 4, (Option.some Jvm.ClassFile.FieldType.int), [((0 : Nat), (9 : Nat), (12 : Nat), (30 : Nat))])
theorem co_L_real : dr_code mi_L_real := Or.inr tw_449
abbrev mi_L_act : dr_MI := (ny_L_act, method_9_code, 5, (Option.some Jvm.ClassFile.FieldType.int), [((0 : Nat), (10 : Nat), (13 : Nat), (30 : Nat)), ((0 : Nat), (10 : Nat), (17 : Nat), (21 : Nat)), ((0 : Nat), (10 : Nat), (21 : Nat), (15 : Nat))])
theorem co_L_act : dr_code mi_L_act := Or.inr tw_456
abbrev mi_L_tick : dr_MI := (ny_L_tick, method_10_code, 4, (Option.some Jvm.ClassFile.FieldType.int), [((0 : Nat), (9 : Nat), (12 : Nat), (13 : Nat))])
theorem co_L_tick : dr_code mi_L_tick := Or.inr tw_473
abbrev mi_L_event : dr_MI := (ny_L_event, method_11_code, 6, (Option.some Jvm.ClassFile.FieldType.int), [((0 : Nat), (12 : Nat), (15 : Nat), (30 : Nat))])
theorem co_L_event : dr_code mi_L_event := Or.inr tw_482
abbrev mi_L_seen : dr_MI := (ny_L_seen, method_12_code, 6, (Option.some Jvm.ClassFile.FieldType.int), [((0 : Nat), (12 : Nat), (15 : Nat), (30 : Nat)), ((0 : Nat), (12 : Nat), (19 : Nat), (13 : Nat))])
theorem co_L_seen : dr_code mi_L_seen := Or.inr tw_496
abbrev mi_L_fault : dr_MI := (ny_L_fault, method_13_code, 5, (Option.some Jvm.ClassFile.FieldType.int), [((0 : Nat), (17 : Nat), (20 : Nat), (30 : Nat))])
theorem co_L_fault : dr_code mi_L_fault := Or.inr tw_513
abbrev mi_L_aim : dr_MI := (ny_L_aim, method_14_code, 5, (Option.some Jvm.ClassFile.FieldType.int), [((0 : Nat), (10 : Nat), (13 : Nat), (30 : Nat))])
theorem co_L_aim : dr_code mi_L_aim := Or.inr tw_525
abbrev mi_L_score : dr_MI := (ny_L_score, method_15_code, 5, (Option.some Jvm.ClassFile.FieldType.int), [((0 : Nat), (10 : Nat), (13 : Nat), (30 : Nat)), ((0 : Nat), (10 : Nat), (17 : Nat), (64 : Nat))])
theorem co_L_score : dr_code mi_L_score := Or.inr tw_544
abbrev mi_L_compare : dr_MI := (ny_L_compare, method_16_code, 5, (Option.some Jvm.ClassFile.FieldType.int), [((0 : Nat), (10 : Nat), (13 : Nat), (30 : Nat))])
theorem co_L_compare : dr_code mi_L_compare := Or.inr tw_580
abbrev mi_L_observe : dr_MI := (ny_L_observe, method_17_code, 6, (Option.some Jvm.ClassFile.FieldType.int), [((0 : Nat), (12 : Nat), (15 : Nat), (30 : Nat)), ((0 : Nat), (12 : Nat), (19 : Nat), (13 : Nat)), ((0 : Nat), (12 : Nat), (23 : Nat), (15 : Nat))])
theorem co_L_observe : dr_code mi_L_observe := Or.inr tw_587
abbrev mi_L_row : dr_MI := (ny_L_row, method_18_code, 5, (Option.some Jvm.ClassFile.FieldType.int), [((0 : Nat), (10 : Nat), (13 : Nat), (30 : Nat))])
theorem co_L_row : dr_code mi_L_row := Or.inr tw_597
abbrev mi_L_play : dr_MI := (ny_L_play, method_19_code, 5, (Option.some Jvm.ClassFile.FieldType.int), [((0 : Nat), (10 : Nat), (13 : Nat), (30 : Nat)), ((0 : Nat), (10 : Nat), (17 : Nat), (21 : Nat)), ((0 : Nat), (10 : Nat), (21 : Nat), (15 : Nat))])
theorem co_L_play : dr_code mi_L_play := Or.inr tw_605
abbrev mi_L_drill : dr_MI := (ny_L_drill, method_20_code, 5, (Option.some Jvm.ClassFile.FieldType.int), [((0 : Nat), (10 : Nat), (13 : Nat), (30 : Nat))])
theorem co_L_drill : dr_code mi_L_drill := Or.inr tw_614
abbrev mi_L_law : dr_MI := (ny_L_law, code, 7, (some .boolean), [])
abbrev mi_N_min : dr_MI := (ny_N_min, prog_12_method_69_code, 2, (Option.some Jvm.ClassFile.FieldType.int), [])
theorem co_N_min : dr_code mi_N_min := Or.inl ⟨rfl, tw_408⟩
abbrev mi_A_fill : dr_MI := (ny_A_fill, prog_17_method_103_code, 4, (Option.none : Option Jvm.ClassFile.FieldType), [])
theorem co_A_fill : dr_code mi_A_fill := Or.inl ⟨rfl, tw_110⟩
theorem us_UNASSIGNED_STACK : dr_U (.laysStatic "java/lang/Throwable" "UNASSIGNED_STACK" "[Ljava/lang/StackTraceElement;") ∧ dr_U (.isRef (.static "java/lang/Throwable" "UNASSIGNED_STACK" "[Ljava/lang/StackTraceElement;")) := by
  have h : ∀ (G : dr_Gt) (U : State) (a' : Array Value), dr_K G → G.s.WarmedH U.vm → (∀ q, q < G.s.heap.size → U.heap[q]? = G.s.heap[q]?) → _ := fun G U a' K hW hh => dr_stat (C := "java/lang/Throwable") (n := "UNASSIGNED_STACK") (d := "[Ljava/lang/StackTraceElement;") (a2 := a') hW.alike hh (K.2.1 _ (List.mem_of_getElem? (i := 217) (by decide +kernel))) (flat_of_before _ K.2.2.2.2.2 _ (by decide +kernel))
  exact ⟨fun G U a' K hW hh => (h G U a' K hW hh).1, fun G U a' K hW hh => (h G U a' K hW hh).2⟩
theorem us_SUPPRESSED_SENTINEL : dr_U (.laysStatic "java/lang/Throwable" "SUPPRESSED_SENTINEL" "Ljava/util/List;") ∧ dr_U (.isRef (.static "java/lang/Throwable" "SUPPRESSED_SENTINEL" "Ljava/util/List;")) := by
  have h : ∀ (G : dr_Gt) (U : State) (a' : Array Value), dr_K G → G.s.WarmedH U.vm → (∀ q, q < G.s.heap.size → U.heap[q]? = G.s.heap[q]?) → _ := fun G U a' K hW hh => dr_stat (C := "java/lang/Throwable") (n := "SUPPRESSED_SENTINEL") (d := "Ljava/util/List;") (a2 := a') hW.alike hh (K.2.1 _ (List.mem_of_getElem? (i := 219) (by decide +kernel))) (flat_of_before _ K.2.2.2.2.2 _ (by decide +kernel))
  exact ⟨fun G U a' K hW hh => (h G U a' K hW hh).1, fun G U a' K hW hh => (h G U a' K hW hh).2⟩
def dr_hw (w : Cond) : Bool := decide (w = .laysStatic "java/lang/Throwable" "UNASSIGNED_STACK" "[Ljava/lang/StackTraceElement;") || decide (w = .isRef (.static "java/lang/Throwable" "UNASSIGNED_STACK" "[Ljava/lang/StackTraceElement;")) || decide (w = .laysStatic "java/lang/Throwable" "SUPPRESSED_SENTINEL" "Ljava/util/List;") || decide (w = .isRef (.static "java/lang/Throwable" "SUPPRESSED_SENTINEL" "Ljava/util/List;"))
theorem dr_ats {L : List Cond} (h : ∀ w ∈ L, dr_hw w = true ∨ (w ∈ lw_tbl ∧ (w.onTables && w.keepsFace) = true)) : ∀ w ∈ L, dr_U w := by
  intro w hw
  rcases h w hw with h | ⟨h1, h2⟩
  · unfold dr_hw at h
    simp only [Bool.or_eq_true, decide_eq_true_eq] at h
    rcases h with ((h | h) | h) | h
    · rw [h]; exact us_UNASSIGNED_STACK.1
    · rw [h]; exact us_UNASSIGNED_STACK.2
    · rw [h]; exact us_SUPPRESSED_SENTINEL.1
    · rw [h]; exact us_SUPPRESSED_SENTINEL.2
  · exact (dr_Tf h1 h2).u
