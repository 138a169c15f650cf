def cd_Ts : List Cond := lw_tbl.filter goodWord
theorem cd_in {w : Cond} (h : w ∈ lw_tbl) (hg : goodWord w = true) : w ∈ cd_Ts := List.mem_filter.mpr ⟨h, hg⟩
theorem cd_tb {w : Cond} (h : w ∈ tables_1) : w ∈ lw_tbl := List.mem_append_right _ h
theorem cd_t1 {w : Cond} (h : w ∈ tables_1_1) : w ∈ lw_tbl := cd_tb (by unfold tables_1; exact List.mem_append_left _ h)
theorem cd_t2 {w : Cond} (h : w ∈ tables_1_2) : w ∈ lw_tbl := cd_tb (by unfold tables_1; exact List.mem_append_right _ (List.mem_append_left _ h))
theorem cd_t3 {w : Cond} (h : w ∈ tables_1_3) : w ∈ lw_tbl := cd_tb (by unfold tables_1; exact List.mem_append_right _ (List.mem_append_right _ (List.mem_append_left _ h)))
theorem cd_t4 {w : Cond} (h : w ∈ tables_1_4) : w ∈ lw_tbl := cd_tb (by unfold tables_1; exact List.mem_append_right _ (List.mem_append_right _ (List.mem_append_right _ (List.mem_append_left _ h))))
theorem cd_t5 {w : Cond} (h : w ∈ tables_1_5) : w ∈ lw_tbl := cd_tb (by unfold tables_1; exact List.mem_append_right _ (List.mem_append_right _ (List.mem_append_right _ (List.mem_append_right _ (h)))))
theorem tw_0 : (Jvm.Cond.initialized "CaptionDeskLaw") ∈ cd_Ts := cd_in (cd_t1 (List.mem_of_getElem? (i := 0) (by decide +kernel))) rfl
theorem tw_1 : (Jvm.Cond.initialized "CaptionDesk") ∈ cd_Ts := cd_in (cd_t1 (List.mem_of_getElem? (i := 1) (by decide +kernel))) rfl
theorem tw_2 : (Jvm.Cond.initialized "CaptionDesk$Store") ∈ cd_Ts := cd_in (cd_t1 (List.mem_of_getElem? (i := 2) (by decide +kernel))) rfl
theorem tw_3 : (Jvm.Cond.initialized "CaptionDesk$Watched") ∈ cd_Ts := cd_in (cd_t1 (List.mem_of_getElem? (i := 3) (by decide +kernel))) rfl
theorem tw_4 : (Jvm.Cond.initialized "CaptionDesk$PageText") ∈ cd_Ts := cd_in (cd_t1 (List.mem_of_getElem? (i := 4) (by decide +kernel))) rfl
theorem tw_5 : (Jvm.Cond.initialized "CaptionDesk$Lines") ∈ cd_Ts := cd_in (cd_t1 (List.mem_of_getElem? (i := 5) (by decide +kernel))) rfl
theorem tw_6 : (Jvm.Cond.initialized "CaptionDesk$Channel") ∈ cd_Ts := cd_in (cd_t1 (List.mem_of_getElem? (i := 6) (by decide +kernel))) rfl
theorem tw_7 : (Jvm.Cond.initialized "CaptionDesk$Screen") ∈ cd_Ts := cd_in (cd_t1 (List.mem_of_getElem? (i := 7) (by decide +kernel))) rfl
theorem tw_8 : (Jvm.Cond.initialized "CaptionDeskModel") ∈ cd_Ts := cd_in (cd_t1 (List.mem_of_getElem? (i := 8) (by decide +kernel))) rfl
theorem tw_9 : (Jvm.Cond.initialized "java/lang/Throwable") ∈ cd_Ts := cd_in (cd_t1 (List.mem_of_getElem? (i := 9) (by decide +kernel))) rfl
theorem tw_10 : (Jvm.Cond.initialized "java/lang/Exception") ∈ cd_Ts := cd_in (cd_t1 (List.mem_of_getElem? (i := 10) (by decide +kernel))) rfl
theorem tw_11 : (Jvm.Cond.initialized "java/lang/RuntimeException") ∈ cd_Ts := cd_in (cd_t1 (List.mem_of_getElem? (i := 11) (by decide +kernel))) rfl
theorem tw_12 : (Jvm.Cond.initialized "java/lang/IndexOutOfBoundsException") ∈ cd_Ts := cd_in (cd_t1 (List.mem_of_getElem? (i := 12) (by decide +kernel))) rfl
theorem tw_13 : (Jvm.Cond.initialized "java/lang/Integer") ∈ cd_Ts := cd_in (cd_t1 (List.mem_of_getElem? (i := 13) (by decide +kernel))) rfl
theorem tw_14 : (Jvm.Cond.initialized "java/lang/Math") ∈ cd_Ts := cd_in (cd_t1 (List.mem_of_getElem? (i := 14) (by decide +kernel))) rfl
theorem tw_15 : (Jvm.Cond.initialized "java/lang/System") ∈ cd_Ts := cd_in (cd_t1 (List.mem_of_getElem? (i := 15) (by decide +kernel))) rfl
theorem tw_16 : (Jvm.Cond.initialized "java/lang/IllegalStateException") ∈ cd_Ts := cd_in (cd_t1 (List.mem_of_getElem? (i := 16) (by decide +kernel))) rfl
theorem tw_17 : (Jvm.Cond.initialized "CaptionDesk$Page") ∈ cd_Ts := cd_in (cd_t1 (List.mem_of_getElem? (i := 17) (by decide +kernel))) rfl
theorem tw_18 : (Jvm.Cond.initialized "java/lang/IllegalArgumentException") ∈ cd_Ts := cd_in (cd_t1 (List.mem_of_getElem? (i := 18) (by decide +kernel))) rfl
theorem tw_19 : (Jvm.Cond.initialized "CaptionDesk$Cue") ∈ cd_Ts := cd_in (cd_t1 (List.mem_of_getElem? (i := 19) (by decide +kernel))) rfl
theorem tw_20 : (Jvm.Cond.classLink "CaptionDeskLaw" (8 : Nat) "CaptionDesk") ∈ cd_Ts := cd_in (cd_t1 (List.mem_of_getElem? (i := 20) (by decide +kernel))) rfl
theorem tw_21 : (Jvm.Cond.instantiable "CaptionDesk" (14 : Nat)) ∈ cd_Ts := cd_in (cd_t1 (List.mem_of_getElem? (i := 21) (by decide +kernel))) rfl
theorem tw_22 : (Jvm.Cond.methodLink "CaptionDeskLaw" (65 : Nat) ({ cls := "CaptionDesk", name := "<init>", desc := "()V" } : Jvm.MethodName)) ∈ cd_Ts := cd_in (cd_t1 (List.mem_of_getElem? (i := 22) (by decide +kernel))) rfl
theorem tw_23 : (Jvm.Cond.instanceMethod ({ cls := "CaptionDesk", name := "<init>", desc := "()V" } : Jvm.MethodName)) ∈ cd_Ts := cd_in (cd_t1 (List.mem_of_getElem? (i := 23) (by decide +kernel))) rfl
set_option maxRecDepth 100000 in
theorem tw_24 : (Jvm.Cond.code ({ cls := "CaptionDesk", name := "<init>", desc := "()V" } : Jvm.MethodName) prog_1_method_1_code (2 : Nat) (Option.none : Option Jvm.ClassFile.FieldType)) ∈ cd_Ts := cd_in (cd_t1 (List.mem_of_getElem? (i := 24) rfl)) rfl
theorem tw_25 : (Jvm.Cond.methodLink "CaptionDesk" (1 : Nat) ({ cls := "java/lang/Object", name := "<init>", desc := "()V" } : Jvm.MethodName)) ∈ cd_Ts := cd_in (cd_t1 (List.mem_of_getElem? (i := 25) (by decide +kernel))) rfl
theorem tw_26 : (Jvm.Cond.instanceMethod ({ cls := "java/lang/Object", name := "<init>", desc := "()V" } : Jvm.MethodName)) ∈ cd_Ts := cd_in (cd_t1 (List.mem_of_getElem? (i := 26) (by decide +kernel))) rfl
set_option maxRecDepth 100000 in
theorem tw_27 : (Jvm.Cond.code ({ cls := "java/lang/Object", name := "<init>", desc := "()V" } : Jvm.MethodName) object_method_1_code (1 : Nat) (Option.none : Option Jvm.ClassFile.FieldType)) ∈ cd_Ts := cd_in (cd_t1 (List.mem_of_getElem? (i := 27) rfl)) rfl
theorem tw_28 : (Jvm.Cond.classLink "CaptionDesk" (9 : Nat) "CaptionDesk$Channel") ∈ cd_Ts := cd_in (cd_t1 (List.mem_of_getElem? (i := 28) (by decide +kernel))) rfl
theorem tl_29 : (Jvm.Cond.arrayOver (Jvm.ClassFile.FieldType.object "CaptionDesk$Channel")) ∈ lw_tbl := cd_t1 (List.mem_of_getElem? (i := 29) (by decide +kernel))
theorem tw_30 : (Jvm.Cond.classLink "CaptionDesk" (31 : Nat) "CaptionDesk$Store") ∈ cd_Ts := cd_in (cd_t1 (List.mem_of_getElem? (i := 30) (by decide +kernel))) rfl
theorem tw_31 : (Jvm.Cond.instantiable "CaptionDesk$Store" (2 : Nat)) ∈ cd_Ts := cd_in (cd_t1 (List.mem_of_getElem? (i := 31) (by decide +kernel))) rfl
theorem tw_33 : (Jvm.Cond.instanceMethod ({ cls := "CaptionDesk$Store", name := "<init>", desc := "()V" } : Jvm.MethodName)) ∈ cd_Ts := cd_in (cd_t1 (List.mem_of_getElem? (i := 33) (by decide +kernel))) rfl
set_option maxRecDepth 100000 in
theorem tw_34 : (Jvm.Cond.code ({ cls := "CaptionDesk$Store", name := "<init>", desc := "()V" } : Jvm.MethodName) prog_8_method_1_code (1 : Nat) (Option.none : Option Jvm.ClassFile.FieldType)) ∈ cd_Ts := cd_in (cd_t1 (List.mem_of_getElem? (i := 34) rfl)) rfl
theorem tw_35 : (Jvm.Cond.methodLink "CaptionDesk$Store" (3 : Nat) ({ cls := "java/lang/Object", name := "<init>", desc := "()V" } : Jvm.MethodName)) ∈ cd_Ts := cd_in (cd_t1 (List.mem_of_getElem? (i := 35) (by decide +kernel))) rfl
theorem tw_36 : (Jvm.Cond.classLink "CaptionDesk$Store" (9 : Nat) "CaptionDesk$Page") ∈ cd_Ts := cd_in (cd_t1 (List.mem_of_getElem? (i := 36) (by decide +kernel))) rfl
theorem tl_37 : (Jvm.Cond.arrayOver (Jvm.ClassFile.FieldType.object "CaptionDesk$Page")) ∈ lw_tbl := cd_t1 (List.mem_of_getElem? (i := 37) (by decide +kernel))
theorem tw_38 : (Jvm.Cond.fieldLink "CaptionDesk$Store" (11 : Nat) "CaptionDesk$Store" "places" "[LCaptionDesk$Page;") ∈ cd_Ts := cd_in (cd_t1 (List.mem_of_getElem? (i := 38) (by decide +kernel))) rfl
theorem tw_39 : (Jvm.Cond.fieldLink "CaptionDesk$Store" (17 : Nat) "CaptionDesk$Store" "count" "I") ∈ cd_Ts := cd_in (cd_t1 (List.mem_of_getElem? (i := 39) (by decide +kernel))) rfl
theorem tw_41 : (Jvm.Cond.laysFinal "CaptionDesk$Store" "CaptionDesk$Store" "places" "[LCaptionDesk$Page;") ∈ cd_Ts := cd_in (cd_t1 (List.mem_of_getElem? (i := 41) (by decide +kernel))) rfl
theorem tl_42 : (Jvm.Cond.soleField "CaptionDesk$Store" "places") ∈ lw_tbl := cd_t1 (List.mem_of_getElem? (i := 42) (by decide +kernel))
theorem tw_43 : (Jvm.Cond.lays "CaptionDesk$Store" "CaptionDesk$Store" "count" "I") ∈ cd_Ts := cd_in (cd_t1 (List.mem_of_getElem? (i := 43) (by decide +kernel))) rfl
theorem tl_44 : (Jvm.Cond.soleField "CaptionDesk$Store" "count") ∈ lw_tbl := cd_t1 (List.mem_of_getElem? (i := 44) (by decide +kernel))
theorem tw_45 : (Jvm.Cond.superclass "CaptionDesk$Store" "java/lang/Object") ∈ cd_Ts := cd_in (cd_t1 (List.mem_of_getElem? (i := 45) (by decide +kernel))) rfl
theorem tw_46 : (Jvm.Cond.arrayClass Jvm.ClassFile.FieldType.int) ∈ cd_Ts := cd_in (cd_t1 (List.mem_of_getElem? (i := 46) (by decide +kernel))) rfl
theorem tw_47 : (Jvm.Cond.classLink "CaptionDesk" (38 : Nat) "CaptionDesk$Watched") ∈ cd_Ts := cd_in (cd_t1 (List.mem_of_getElem? (i := 47) (by decide +kernel))) rfl
theorem tw_48 : (Jvm.Cond.instantiable "CaptionDesk$Watched" (3 : Nat)) ∈ cd_Ts := cd_in (cd_t1 (List.mem_of_getElem? (i := 48) (by decide +kernel))) rfl
theorem tw_50 : (Jvm.Cond.instanceMethod ({ cls := "CaptionDesk$Watched", name := "<init>", desc := "()V" } : Jvm.MethodName)) ∈ cd_Ts := cd_in (cd_t1 (List.mem_of_getElem? (i := 50) (by decide +kernel))) rfl
set_option maxRecDepth 100000 in
theorem tw_51 : (Jvm.Cond.code ({ cls := "CaptionDesk$Watched", name := "<init>", desc := "()V" } : Jvm.MethodName) prog_9_method_1_code (1 : Nat) (Option.none : Option Jvm.ClassFile.FieldType)) ∈ cd_Ts := cd_in (cd_t1 (List.mem_of_getElem? (i := 51) rfl)) rfl
theorem tw_52 : (Jvm.Cond.methodLink "CaptionDesk$Watched" (3 : Nat) ({ cls := "java/lang/Object", name := "<init>", desc := "()V" } : Jvm.MethodName)) ∈ cd_Ts := cd_in (cd_t1 (List.mem_of_getElem? (i := 52) (by decide +kernel))) rfl
theorem tw_53 : (Jvm.Cond.classLink "CaptionDesk$Watched" (9 : Nat) "CaptionDesk$PageText") ∈ cd_Ts := cd_in (cd_t1 (List.mem_of_getElem? (i := 53) (by decide +kernel))) rfl
theorem tw_54 : (Jvm.Cond.instantiable "CaptionDesk$PageText" (2 : Nat)) ∈ cd_Ts := cd_in (cd_t1 (List.mem_of_getElem? (i := 54) (by decide +kernel))) rfl
theorem tw_56 : (Jvm.Cond.instanceMethod ({ cls := "CaptionDesk$PageText", name := "<init>", desc := "()V" } : Jvm.MethodName)) ∈ cd_Ts := cd_in (cd_t1 (List.mem_of_getElem? (i := 56) (by decide +kernel))) rfl
set_option maxRecDepth 100000 in
theorem tw_57 : (Jvm.Cond.code ({ cls := "CaptionDesk$PageText", name := "<init>", desc := "()V" } : Jvm.MethodName) prog_6_method_1_code (1 : Nat) (Option.none : Option Jvm.ClassFile.FieldType)) ∈ cd_Ts := cd_in (cd_t1 (List.mem_of_getElem? (i := 57) rfl)) rfl
theorem tw_58 : (Jvm.Cond.methodLink "CaptionDesk$PageText" (3 : Nat) ({ cls := "java/lang/Object", name := "<init>", desc := "()V" } : Jvm.MethodName)) ∈ cd_Ts := cd_in (cd_t1 (List.mem_of_getElem? (i := 58) (by decide +kernel))) rfl
theorem tw_59 : (Jvm.Cond.fieldLink "CaptionDesk$PageText" (9 : Nat) "CaptionDesk$PageText" "signs" "[I") ∈ cd_Ts := cd_in (cd_t1 (List.mem_of_getElem? (i := 59) (by decide +kernel))) rfl
theorem tw_60 : (Jvm.Cond.fieldLink "CaptionDesk$PageText" (15 : Nat) "CaptionDesk$PageText" "filled" "[Z") ∈ cd_Ts := cd_in (cd_t1 (List.mem_of_getElem? (i := 60) (by decide +kernel))) rfl
theorem tw_61 : (Jvm.Cond.laysFinal "CaptionDesk$PageText" "CaptionDesk$PageText" "signs" "[I") ∈ cd_Ts := cd_in (cd_t1 (List.mem_of_getElem? (i := 61) (by decide +kernel))) rfl
theorem tl_62 : (Jvm.Cond.soleField "CaptionDesk$PageText" "signs") ∈ lw_tbl := cd_t1 (List.mem_of_getElem? (i := 62) (by decide +kernel))
theorem tw_63 : (Jvm.Cond.laysFinal "CaptionDesk$PageText" "CaptionDesk$PageText" "filled" "[Z") ∈ cd_Ts := cd_in (cd_t1 (List.mem_of_getElem? (i := 63) (by decide +kernel))) rfl
theorem tl_64 : (Jvm.Cond.soleField "CaptionDesk$PageText" "filled") ∈ lw_tbl := cd_t1 (List.mem_of_getElem? (i := 64) (by decide +kernel))
theorem tw_65 : (Jvm.Cond.superclass "CaptionDesk$PageText" "java/lang/Object") ∈ cd_Ts := cd_in (cd_t1 (List.mem_of_getElem? (i := 65) (by decide +kernel))) rfl
theorem tw_66 : (Jvm.Cond.arrayClass Jvm.ClassFile.FieldType.boolean) ∈ cd_Ts := cd_in (cd_t1 (List.mem_of_getElem? (i := 66) (by decide +kernel))) rfl
theorem tw_67 : (Jvm.Cond.fieldLink "CaptionDesk$Watched" (12 : Nat) "CaptionDesk$Watched" "text" "LCaptionDesk$PageText;") ∈ cd_Ts := cd_in (cd_t1 (List.mem_of_getElem? (i := 67) (by decide +kernel))) rfl
theorem tw_68 : (Jvm.Cond.fieldLink "CaptionDesk$Watched" (18 : Nat) "CaptionDesk$Watched" "magazine" "I") ∈ cd_Ts := cd_in (cd_t1 (List.mem_of_getElem? (i := 68) (by decide +kernel))) rfl
theorem tw_69 : (Jvm.Cond.fieldLink "CaptionDesk$Watched" (22 : Nat) "CaptionDesk$Watched" "number" "I") ∈ cd_Ts := cd_in (cd_t1 (List.mem_of_getElem? (i := 69) (by decide +kernel))) rfl
theorem tw_70 : (Jvm.Cond.laysFinal "CaptionDesk$Watched" "CaptionDesk$Watched" "text" "LCaptionDesk$PageText;") ∈ cd_Ts := cd_in (cd_t1 (List.mem_of_getElem? (i := 70) (by decide +kernel))) rfl
theorem tl_71 : (Jvm.Cond.soleField "CaptionDesk$Watched" "text") ∈ lw_tbl := cd_t1 (List.mem_of_getElem? (i := 71) (by decide +kernel))
theorem tw_72 : (Jvm.Cond.lays "CaptionDesk$Watched" "CaptionDesk$Watched" "magazine" "I") ∈ cd_Ts := cd_in (cd_t1 (List.mem_of_getElem? (i := 72) (by decide +kernel))) rfl
theorem tl_73 : (Jvm.Cond.soleField "CaptionDesk$Watched" "magazine") ∈ lw_tbl := cd_t1 (List.mem_of_getElem? (i := 73) (by decide +kernel))
theorem tw_74 : (Jvm.Cond.lays "CaptionDesk$Watched" "CaptionDesk$Watched" "number" "I") ∈ cd_Ts := cd_in (cd_t1 (List.mem_of_getElem? (i := 74) (by decide +kernel))) rfl
theorem tl_75 : (Jvm.Cond.soleField "CaptionDesk$Watched" "number") ∈ lw_tbl := cd_t1 (List.mem_of_getElem? (i := 75) (by decide +kernel))
theorem tw_76 : (Jvm.Cond.superclass "CaptionDesk$Watched" "java/lang/Object") ∈ cd_Ts := cd_in (cd_t1 (List.mem_of_getElem? (i := 76) (by decide +kernel))) rfl
theorem tw_77 : (Jvm.Cond.classLink "CaptionDesk" (45 : Nat) "CaptionDesk$Lines") ∈ cd_Ts := cd_in (cd_t1 (List.mem_of_getElem? (i := 77) (by decide +kernel))) rfl
theorem tw_78 : (Jvm.Cond.instantiable "CaptionDesk$Lines" (2 : Nat)) ∈ cd_Ts := cd_in (cd_t1 (List.mem_of_getElem? (i := 78) (by decide +kernel))) rfl
theorem tw_80 : (Jvm.Cond.instanceMethod ({ cls := "CaptionDesk$Lines", name := "<init>", desc := "()V" } : Jvm.MethodName)) ∈ cd_Ts := cd_in (cd_t1 (List.mem_of_getElem? (i := 80) (by decide +kernel))) rfl
set_option maxRecDepth 100000 in
theorem tw_81 : (Jvm.Cond.code ({ cls := "CaptionDesk$Lines", name := "<init>", desc := "()V" } : Jvm.MethodName) prog_4_method_1_code (1 : Nat) (Option.none : Option Jvm.ClassFile.FieldType)) ∈ cd_Ts := cd_in (cd_t1 (List.mem_of_getElem? (i := 81) rfl)) rfl
theorem tw_82 : (Jvm.Cond.methodLink "CaptionDesk$Lines" (3 : Nat) ({ cls := "java/lang/Object", name := "<init>", desc := "()V" } : Jvm.MethodName)) ∈ cd_Ts := cd_in (cd_t1 (List.mem_of_getElem? (i := 82) (by decide +kernel))) rfl
theorem tw_83 : (Jvm.Cond.fieldLink "CaptionDesk$Lines" (9 : Nat) "CaptionDesk$Lines" "bytes" "[I") ∈ cd_Ts := cd_in (cd_t1 (List.mem_of_getElem? (i := 83) (by decide +kernel))) rfl
theorem tw_84 : (Jvm.Cond.fieldLink "CaptionDesk$Lines" (25 : Nat) "CaptionDesk$Lines" "length" "I") ∈ cd_Ts := cd_in (cd_t1 (List.mem_of_getElem? (i := 84) (by decide +kernel))) rfl
theorem tw_86 : (Jvm.Cond.laysFinal "CaptionDesk$Lines" "CaptionDesk$Lines" "bytes" "[I") ∈ cd_Ts := cd_in (cd_t1 (List.mem_of_getElem? (i := 86) (by decide +kernel))) rfl
theorem tl_87 : (Jvm.Cond.soleField "CaptionDesk$Lines" "bytes") ∈ lw_tbl := cd_t1 (List.mem_of_getElem? (i := 87) (by decide +kernel))
theorem tw_88 : (Jvm.Cond.lays "CaptionDesk$Lines" "CaptionDesk$Lines" "length" "I") ∈ cd_Ts := cd_in (cd_t1 (List.mem_of_getElem? (i := 88) (by decide +kernel))) rfl
theorem tl_89 : (Jvm.Cond.soleField "CaptionDesk$Lines" "length") ∈ lw_tbl := cd_t1 (List.mem_of_getElem? (i := 89) (by decide +kernel))
theorem tw_90 : (Jvm.Cond.superclass "CaptionDesk$Lines" "java/lang/Object") ∈ cd_Ts := cd_in (cd_t1 (List.mem_of_getElem? (i := 90) (by decide +kernel))) rfl
theorem tw_91 : (Jvm.Cond.classLink "CaptionDesk" (52 : Nat) "CaptionDesk$Cue") ∈ cd_Ts := cd_in (cd_t1 (List.mem_of_getElem? (i := 91) (by decide +kernel))) rfl
theorem tl_92 : (Jvm.Cond.arrayOver (Jvm.ClassFile.FieldType.object "CaptionDesk$Cue")) ∈ lw_tbl := cd_t1 (List.mem_of_getElem? (i := 92) (by decide +kernel))
theorem tw_93 : (Jvm.Cond.instantiable "CaptionDesk$Channel" (7 : Nat)) ∈ cd_Ts := cd_in (cd_t1 (List.mem_of_getElem? (i := 93) (by decide +kernel))) rfl
theorem tw_95 : (Jvm.Cond.instanceMethod ({ cls := "CaptionDesk$Channel", name := "<init>", desc := "()V" } : Jvm.MethodName)) ∈ cd_Ts := cd_in (cd_t1 (List.mem_of_getElem? (i := 95) (by decide +kernel))) rfl
set_option maxRecDepth 100000 in
theorem tw_96 : (Jvm.Cond.code ({ cls := "CaptionDesk$Channel", name := "<init>", desc := "()V" } : Jvm.MethodName) prog_2_method_1_code (1 : Nat) (Option.none : Option Jvm.ClassFile.FieldType)) ∈ cd_Ts := cd_in (cd_t1 (List.mem_of_getElem? (i := 96) rfl)) rfl
theorem tw_97 : (Jvm.Cond.methodLink "CaptionDesk$Channel" (3 : Nat) ({ cls := "java/lang/Object", name := "<init>", desc := "()V" } : Jvm.MethodName)) ∈ cd_Ts := cd_in (cd_t1 (List.mem_of_getElem? (i := 97) (by decide +kernel))) rfl
theorem tw_98 : (Jvm.Cond.classLink "CaptionDesk$Channel" (9 : Nat) "CaptionDesk$Screen") ∈ cd_Ts := cd_in (cd_t1 (List.mem_of_getElem? (i := 98) (by decide +kernel))) rfl
theorem tw_99 : (Jvm.Cond.instantiable "CaptionDesk$Screen" (2 : Nat)) ∈ cd_Ts := cd_in (cd_t1 (List.mem_of_getElem? (i := 99) (by decide +kernel))) rfl
theorem tw_101 : (Jvm.Cond.instanceMethod ({ cls := "CaptionDesk$Screen", name := "<init>", desc := "()V" } : Jvm.MethodName)) ∈ cd_Ts := cd_in (cd_t1 (List.mem_of_getElem? (i := 101) (by decide +kernel))) rfl
set_option maxRecDepth 100000 in
theorem tw_102 : (Jvm.Cond.code ({ cls := "CaptionDesk$Screen", name := "<init>", desc := "()V" } : Jvm.MethodName) prog_7_method_1_code (1 : Nat) (Option.none : Option Jvm.ClassFile.FieldType)) ∈ cd_Ts := cd_in (cd_t1 (List.mem_of_getElem? (i := 102) rfl)) rfl
theorem tw_103 : (Jvm.Cond.methodLink "CaptionDesk$Screen" (3 : Nat) ({ cls := "java/lang/Object", name := "<init>", desc := "()V" } : Jvm.MethodName)) ∈ cd_Ts := cd_in (cd_t1 (List.mem_of_getElem? (i := 103) (by decide +kernel))) rfl
theorem tw_104 : (Jvm.Cond.fieldLink "CaptionDesk$Screen" (9 : Nat) "CaptionDesk$Screen" "letters" "[I") ∈ cd_Ts := cd_in (cd_t1 (List.mem_of_getElem? (i := 104) (by decide +kernel))) rfl
theorem tw_105 : (Jvm.Cond.fieldLink "CaptionDesk$Screen" (15 : Nat) "CaptionDesk$Screen" "looks" "[I") ∈ cd_Ts := cd_in (cd_t1 (List.mem_of_getElem? (i := 105) (by decide +kernel))) rfl
theorem tw_106 : (Jvm.Cond.laysFinal "CaptionDesk$Screen" "CaptionDesk$Screen" "letters" "[I") ∈ cd_Ts := cd_in (cd_t1 (List.mem_of_getElem? (i := 106) (by decide +kernel))) rfl
theorem tl_107 : (Jvm.Cond.soleField "CaptionDesk$Screen" "letters") ∈ lw_tbl := cd_t1 (List.mem_of_getElem? (i := 107) (by decide +kernel))
theorem tw_108 : (Jvm.Cond.laysFinal "CaptionDesk$Screen" "CaptionDesk$Screen" "looks" "[I") ∈ cd_Ts := cd_in (cd_t1 (List.mem_of_getElem? (i := 108) (by decide +kernel))) rfl
theorem tl_109 : (Jvm.Cond.soleField "CaptionDesk$Screen" "looks") ∈ lw_tbl := cd_t1 (List.mem_of_getElem? (i := 109) (by decide +kernel))
theorem tw_110 : (Jvm.Cond.superclass "CaptionDesk$Screen" "java/lang/Object") ∈ cd_Ts := cd_in (cd_t1 (List.mem_of_getElem? (i := 110) (by decide +kernel))) rfl
theorem tw_111 : (Jvm.Cond.fieldLink "CaptionDesk$Channel" (12 : Nat) "CaptionDesk$Channel" "shown" "LCaptionDesk$Screen;") ∈ cd_Ts := cd_in (cd_t1 (List.mem_of_getElem? (i := 111) (by decide +kernel))) rfl
theorem tw_113 : (Jvm.Cond.fieldLink "CaptionDesk$Channel" (18 : Nat) "CaptionDesk$Channel" "hidden" "LCaptionDesk$Screen;") ∈ cd_Ts := cd_in (cd_t1 (List.mem_of_getElem? (i := 113) (by decide +kernel))) rfl
theorem tw_115 : (Jvm.Cond.fieldLink "CaptionDesk$Channel" (21 : Nat) "CaptionDesk$Channel" "mode" "I") ∈ cd_Ts := cd_in (cd_t1 (List.mem_of_getElem? (i := 115) (by decide +kernel))) rfl
theorem tw_117 : (Jvm.Cond.fieldLink "CaptionDesk$Channel" (25 : Nat) "CaptionDesk$Channel" "row" "I") ∈ cd_Ts := cd_in (cd_t1 (List.mem_of_getElem? (i := 117) (by decide +kernel))) rfl
theorem tw_119 : (Jvm.Cond.fieldLink "CaptionDesk$Channel" (28 : Nat) "CaptionDesk$Channel" "column" "I") ∈ cd_Ts := cd_in (cd_t1 (List.mem_of_getElem? (i := 119) (by decide +kernel))) rfl
theorem tw_121 : (Jvm.Cond.fieldLink "CaptionDesk$Channel" (31 : Nat) "CaptionDesk$Channel" "look" "I") ∈ cd_Ts := cd_in (cd_t1 (List.mem_of_getElem? (i := 121) (by decide +kernel))) rfl
theorem tw_123 : (Jvm.Cond.fieldLink "CaptionDesk$Channel" (34 : Nat) "CaptionDesk$Channel" "depth" "I") ∈ cd_Ts := cd_in (cd_t1 (List.mem_of_getElem? (i := 123) (by decide +kernel))) rfl
theorem tw_125 : (Jvm.Cond.lays "CaptionDesk$Channel" "CaptionDesk$Channel" "shown" "LCaptionDesk$Screen;") ∈ cd_Ts := cd_in (cd_t1 (List.mem_of_getElem? (i := 125) (by decide +kernel))) rfl
theorem tl_126 : (Jvm.Cond.soleField "CaptionDesk$Channel" "shown") ∈ lw_tbl := cd_t1 (List.mem_of_getElem? (i := 126) (by decide +kernel))
theorem tw_127 : (Jvm.Cond.lays "CaptionDesk$Channel" "CaptionDesk$Channel" "hidden" "LCaptionDesk$Screen;") ∈ cd_Ts := cd_in (cd_t1 (List.mem_of_getElem? (i := 127) (by decide +kernel))) rfl
theorem tl_128 : (Jvm.Cond.soleField "CaptionDesk$Channel" "hidden") ∈ lw_tbl := cd_t1 (List.mem_of_getElem? (i := 128) (by decide +kernel))
theorem tw_129 : (Jvm.Cond.lays "CaptionDesk$Channel" "CaptionDesk$Channel" "mode" "I") ∈ cd_Ts := cd_in (cd_t1 (List.mem_of_getElem? (i := 129) (by decide +kernel))) rfl
theorem tl_130 : (Jvm.Cond.soleField "CaptionDesk$Channel" "mode") ∈ lw_tbl := cd_t1 (List.mem_of_getElem? (i := 130) (by decide +kernel))
theorem tw_131 : (Jvm.Cond.lays "CaptionDesk$Channel" "CaptionDesk$Channel" "row" "I") ∈ cd_Ts := cd_in (cd_t1 (List.mem_of_getElem? (i := 131) (by decide +kernel))) rfl
theorem tl_132 : (Jvm.Cond.soleField "CaptionDesk$Channel" "row") ∈ lw_tbl := cd_t1 (List.mem_of_getElem? (i := 132) (by decide +kernel))
theorem tw_133 : (Jvm.Cond.lays "CaptionDesk$Channel" "CaptionDesk$Channel" "column" "I") ∈ cd_Ts := cd_in (cd_t1 (List.mem_of_getElem? (i := 133) (by decide +kernel))) rfl
theorem tl_134 : (Jvm.Cond.soleField "CaptionDesk$Channel" "column") ∈ lw_tbl := cd_t1 (List.mem_of_getElem? (i := 134) (by decide +kernel))
theorem tw_135 : (Jvm.Cond.lays "CaptionDesk$Channel" "CaptionDesk$Channel" "look" "I") ∈ cd_Ts := cd_in (cd_t1 (List.mem_of_getElem? (i := 135) (by decide +kernel))) rfl
theorem tl_136 : (Jvm.Cond.soleField "CaptionDesk$Channel" "look") ∈ lw_tbl := cd_t1 (List.mem_of_getElem? (i := 136) (by decide +kernel))
theorem tw_137 : (Jvm.Cond.lays "CaptionDesk$Channel" "CaptionDesk$Channel" "depth" "I") ∈ cd_Ts := cd_in (cd_t1 (List.mem_of_getElem? (i := 137) (by decide +kernel))) rfl
theorem tl_138 : (Jvm.Cond.soleField "CaptionDesk$Channel" "depth") ∈ lw_tbl := cd_t1 (List.mem_of_getElem? (i := 138) (by decide +kernel))
theorem tw_139 : (Jvm.Cond.superclass "CaptionDesk$Channel" "java/lang/Object") ∈ cd_Ts := cd_in (cd_t1 (List.mem_of_getElem? (i := 139) (by decide +kernel))) rfl
theorem tw_140 : (Jvm.Cond.fieldLink "CaptionDesk" (11 : Nat) "CaptionDesk" "channels" "[LCaptionDesk$Channel;") ∈ cd_Ts := cd_in (cd_t1 (List.mem_of_getElem? (i := 140) (by decide +kernel))) rfl
theorem tw_141 : (Jvm.Cond.fieldLink "CaptionDesk" (15 : Nat) "CaptionDesk" "fieldChannels" "[I") ∈ cd_Ts := cd_in (cd_t1 (List.mem_of_getElem? (i := 141) (by decide +kernel))) rfl
theorem tw_142 : (Jvm.Cond.fieldLink "CaptionDesk" (19 : Nat) "CaptionDesk" "repeatableCodes" "[I") ∈ cd_Ts := cd_in (cd_t1 (List.mem_of_getElem? (i := 142) (by decide +kernel))) rfl
theorem tw_143 : (Jvm.Cond.fieldLink "CaptionDesk" (22 : Nat) "CaptionDesk" "tape" "[I") ∈ cd_Ts := cd_in (cd_t1 (List.mem_of_getElem? (i := 143) (by decide +kernel))) rfl
theorem tw_144 : (Jvm.Cond.fieldLink "CaptionDesk" (147 : Nat) "CaptionDesk" "tapeLength" "I") ∈ cd_Ts := cd_in (cd_t1 (List.mem_of_getElem? (i := 144) (by decide +kernel))) rfl
theorem tw_145 : (Jvm.Cond.fieldLink "CaptionDesk" (25 : Nat) "CaptionDesk" "values" "[I") ∈ cd_Ts := cd_in (cd_t1 (List.mem_of_getElem? (i := 145) (by decide +kernel))) rfl
theorem tw_146 : (Jvm.Cond.fieldLink "CaptionDesk" (28 : Nat) "CaptionDesk" "nothings" "[I") ∈ cd_Ts := cd_in (cd_t1 (List.mem_of_getElem? (i := 146) (by decide +kernel))) rfl
theorem tw_147 : (Jvm.Cond.fieldLink "CaptionDesk" (34 : Nat) "CaptionDesk" "store" "LCaptionDesk$Store;") ∈ cd_Ts := cd_in (cd_t1 (List.mem_of_getElem? (i := 147) (by decide +kernel))) rfl
theorem tw_148 : (Jvm.Cond.fieldLink "CaptionDesk" (41 : Nat) "CaptionDesk" "watched" "LCaptionDesk$Watched;") ∈ cd_Ts := cd_in (cd_t1 (List.mem_of_getElem? (i := 148) (by decide +kernel))) rfl
theorem tw_149 : (Jvm.Cond.fieldLink "CaptionDesk" (48 : Nat) "CaptionDesk" "lines" "LCaptionDesk$Lines;") ∈ cd_Ts := cd_in (cd_t1 (List.mem_of_getElem? (i := 149) (by decide +kernel))) rfl
theorem tw_150 : (Jvm.Cond.fieldLink "CaptionDesk" (54 : Nat) "CaptionDesk" "cueRow" "[LCaptionDesk$Cue;") ∈ cd_Ts := cd_in (cd_t1 (List.mem_of_getElem? (i := 150) (by decide +kernel))) rfl
theorem tw_151 : (Jvm.Cond.fieldLink "CaptionDesk" (297 : Nat) "CaptionDesk" "cueCount" "I") ∈ cd_Ts := cd_in (cd_t1 (List.mem_of_getElem? (i := 151) (by decide +kernel))) rfl
theorem tw_152 : (Jvm.Cond.fieldLink "CaptionDesk" (58 : Nat) "CaptionDesk" "endlessCues" "[I") ∈ cd_Ts := cd_in (cd_t1 (List.mem_of_getElem? (i := 152) (by decide +kernel))) rfl
theorem tw_153 : (Jvm.Cond.fieldLink "CaptionDesk" (285 : Nat) "CaptionDesk" "time" "I") ∈ cd_Ts := cd_in (cd_t1 (List.mem_of_getElem? (i := 153) (by decide +kernel))) rfl
theorem tw_154 : (Jvm.Cond.laysFinal "CaptionDesk" "CaptionDesk" "channels" "[LCaptionDesk$Channel;") ∈ cd_Ts := cd_in (cd_t1 (List.mem_of_getElem? (i := 154) (by decide +kernel))) rfl
theorem tl_155 : (Jvm.Cond.soleField "CaptionDesk" "channels") ∈ lw_tbl := cd_t1 (List.mem_of_getElem? (i := 155) (by decide +kernel))
theorem tw_156 : (Jvm.Cond.laysFinal "CaptionDesk" "CaptionDesk" "fieldChannels" "[I") ∈ cd_Ts := cd_in (cd_t1 (List.mem_of_getElem? (i := 156) (by decide +kernel))) rfl
theorem tl_157 : (Jvm.Cond.soleField "CaptionDesk" "fieldChannels") ∈ lw_tbl := cd_t1 (List.mem_of_getElem? (i := 157) (by decide +kernel))
theorem tw_158 : (Jvm.Cond.laysFinal "CaptionDesk" "CaptionDesk" "repeatableCodes" "[I") ∈ cd_Ts := cd_in (cd_t1 (List.mem_of_getElem? (i := 158) (by decide +kernel))) rfl
theorem tl_159 : (Jvm.Cond.soleField "CaptionDesk" "repeatableCodes") ∈ lw_tbl := cd_t1 (List.mem_of_getElem? (i := 159) (by decide +kernel))
theorem tw_160 : (Jvm.Cond.laysFinal "CaptionDesk" "CaptionDesk" "tape" "[I") ∈ cd_Ts := cd_in (cd_t1 (List.mem_of_getElem? (i := 160) (by decide +kernel))) rfl
theorem tl_161 : (Jvm.Cond.soleField "CaptionDesk" "tape") ∈ lw_tbl := cd_t1 (List.mem_of_getElem? (i := 161) (by decide +kernel))
theorem tw_162 : (Jvm.Cond.lays "CaptionDesk" "CaptionDesk" "tapeLength" "I") ∈ cd_Ts := cd_in (cd_t1 (List.mem_of_getElem? (i := 162) (by decide +kernel))) rfl
theorem tl_163 : (Jvm.Cond.soleField "CaptionDesk" "tapeLength") ∈ lw_tbl := cd_t1 (List.mem_of_getElem? (i := 163) (by decide +kernel))
theorem tw_164 : (Jvm.Cond.laysFinal "CaptionDesk" "CaptionDesk" "values" "[I") ∈ cd_Ts := cd_in (cd_t1 (List.mem_of_getElem? (i := 164) (by decide +kernel))) rfl
theorem tl_165 : (Jvm.Cond.soleField "CaptionDesk" "values") ∈ lw_tbl := cd_t1 (List.mem_of_getElem? (i := 165) (by decide +kernel))
theorem tw_166 : (Jvm.Cond.laysFinal "CaptionDesk" "CaptionDesk" "nothings" "[I") ∈ cd_Ts := cd_in (cd_t1 (List.mem_of_getElem? (i := 166) (by decide +kernel))) rfl
theorem tl_167 : (Jvm.Cond.soleField "CaptionDesk" "nothings") ∈ lw_tbl := cd_t1 (List.mem_of_getElem? (i := 167) (by decide +kernel))
theorem tw_168 : (Jvm.Cond.laysFinal "CaptionDesk" "CaptionDesk" "store" "LCaptionDesk$Store;") ∈ cd_Ts := cd_in (cd_t1 (List.mem_of_getElem? (i := 168) (by decide +kernel))) rfl
theorem tl_169 : (Jvm.Cond.soleField "CaptionDesk" "store") ∈ lw_tbl := cd_t1 (List.mem_of_getElem? (i := 169) (by decide +kernel))
theorem tw_170 : (Jvm.Cond.laysFinal "CaptionDesk" "CaptionDesk" "watched" "LCaptionDesk$Watched;") ∈ cd_Ts := cd_in (cd_t1 (List.mem_of_getElem? (i := 170) (by decide +kernel))) rfl
theorem tl_171 : (Jvm.Cond.soleField "CaptionDesk" "watched") ∈ lw_tbl := cd_t1 (List.mem_of_getElem? (i := 171) (by decide +kernel))
theorem tw_172 : (Jvm.Cond.laysFinal "CaptionDesk" "CaptionDesk" "lines" "LCaptionDesk$Lines;") ∈ cd_Ts := cd_in (cd_t1 (List.mem_of_getElem? (i := 172) (by decide +kernel))) rfl
theorem tl_173 : (Jvm.Cond.soleField "CaptionDesk" "lines") ∈ lw_tbl := cd_t1 (List.mem_of_getElem? (i := 173) (by decide +kernel))
theorem tw_174 : (Jvm.Cond.laysFinal "CaptionDesk" "CaptionDesk" "cueRow" "[LCaptionDesk$Cue;") ∈ cd_Ts := cd_in (cd_t1 (List.mem_of_getElem? (i := 174) (by decide +kernel))) rfl
theorem tl_175 : (Jvm.Cond.soleField "CaptionDesk" "cueRow") ∈ lw_tbl := cd_t1 (List.mem_of_getElem? (i := 175) (by decide +kernel))
theorem tw_176 : (Jvm.Cond.lays "CaptionDesk" "CaptionDesk" "cueCount" "I") ∈ cd_Ts := cd_in (cd_t1 (List.mem_of_getElem? (i := 176) (by decide +kernel))) rfl
theorem tl_177 : (Jvm.Cond.soleField "CaptionDesk" "cueCount") ∈ lw_tbl := cd_t1 (List.mem_of_getElem? (i := 177) (by decide +kernel))
theorem tw_178 : (Jvm.Cond.laysFinal "CaptionDesk" "CaptionDesk" "endlessCues" "[I") ∈ cd_Ts := cd_in (cd_t1 (List.mem_of_getElem? (i := 178) (by decide +kernel))) rfl
theorem tl_179 : (Jvm.Cond.soleField "CaptionDesk" "endlessCues") ∈ lw_tbl := cd_t1 (List.mem_of_getElem? (i := 179) (by decide +kernel))
theorem tw_180 : (Jvm.Cond.lays "CaptionDesk" "CaptionDesk" "time" "I") ∈ cd_Ts := cd_in (cd_t1 (List.mem_of_getElem? (i := 180) (by decide +kernel))) rfl
theorem tl_181 : (Jvm.Cond.soleField "CaptionDesk" "time") ∈ lw_tbl := cd_t1 (List.mem_of_getElem? (i := 181) (by decide +kernel))
theorem tw_182 : (Jvm.Cond.superclass "CaptionDesk" "java/lang/Object") ∈ cd_Ts := cd_in (cd_t1 (List.mem_of_getElem? (i := 182) (by decide +kernel))) rfl
theorem tw_183 : (Jvm.Cond.methodLink "CaptionDeskLaw" (87 : Nat) ({ cls := "CaptionDesk", name := "guarded", desc := "(I)I" } : Jvm.MethodName)) ∈ cd_Ts := cd_in (cd_t1 (List.mem_of_getElem? (i := 183) (by decide +kernel))) rfl
theorem tw_184 : (Jvm.Cond.instanceMethod ({ cls := "CaptionDesk", name := "guarded", desc := "(I)I" } : Jvm.MethodName)) ∈ cd_Ts := cd_in (cd_t1 (List.mem_of_getElem? (i := 184) (by decide +kernel))) rfl
theorem tw_185 : (Jvm.Cond.selects "CaptionDesk" ({ cls := "CaptionDesk", name := "guarded", desc := "(I)I" } : Jvm.MethodName) ({ cls := "CaptionDesk", name := "guarded", desc := "(I)I" } : Jvm.MethodName)) ∈ cd_Ts := cd_in (cd_t1 (List.mem_of_getElem? (i := 185) (by decide +kernel))) rfl
set_option maxRecDepth 100000 in
theorem tw_186 : (Jvm.Cond.code ({ cls := "CaptionDesk", name := "guarded", desc := "(I)I" } : Jvm.MethodName) prog_1_method_13_code (2 : Nat) (Option.some Jvm.ClassFile.FieldType.int)) ∈ cd_Ts := cd_in (cd_t1 (List.mem_of_getElem? (i := 186) rfl)) rfl
theorem tw_187 : (Jvm.Cond.methodLink "CaptionDesk" (144 : Nat) ({ cls := "CaptionDesk", name := "mend", desc := "(I)I" } : Jvm.MethodName)) ∈ cd_Ts := cd_in (cd_t1 (List.mem_of_getElem? (i := 187) (by decide +kernel))) rfl
theorem tw_188 : (Jvm.Cond.static ({ cls := "CaptionDesk", name := "mend", desc := "(I)I" } : Jvm.MethodName)) ∈ cd_Ts := cd_in (cd_t1 (List.mem_of_getElem? (i := 188) (by decide +kernel))) rfl
set_option maxRecDepth 100000 in
theorem tw_189 : (Jvm.Cond.code ({ cls := "CaptionDesk", name := "mend", desc := "(I)I" } : Jvm.MethodName) prog_1_method_23_code (2 : Nat) (Option.some Jvm.ClassFile.FieldType.int)) ∈ cd_Ts := cd_in (cd_t1 (List.mem_of_getElem? (i := 189) rfl)) rfl
theorem tw_190 : (Jvm.Cond.methodLink "CaptionDesk" (227 : Nat) ({ cls := "CaptionDesk", name := "isOdd", desc := "(II)Z" } : Jvm.MethodName)) ∈ cd_Ts := cd_in (cd_t1 (List.mem_of_getElem? (i := 190) (by decide +kernel))) rfl
theorem tw_191 : (Jvm.Cond.static ({ cls := "CaptionDesk", name := "isOdd", desc := "(II)Z" } : Jvm.MethodName)) ∈ cd_Ts := cd_in (cd_t1 (List.mem_of_getElem? (i := 191) (by decide +kernel))) rfl
set_option maxRecDepth 100000 in
theorem tw_192 : (Jvm.Cond.code ({ cls := "CaptionDesk", name := "isOdd", desc := "(II)Z" } : Jvm.MethodName) prog_1_method_11_code (2 : Nat) (Option.some Jvm.ClassFile.FieldType.boolean)) ∈ cd_Ts := cd_in (cd_t1 (List.mem_of_getElem? (i := 192) rfl)) rfl
theorem tw_193 : (Jvm.Cond.methodLink "CaptionDesk" (138 : Nat) ({ cls := "java/lang/Integer", name := "bitCount", desc := "(I)I" } : Jvm.MethodName)) ∈ cd_Ts := cd_in (cd_t1 (List.mem_of_getElem? (i := 193) (by decide +kernel))) rfl
theorem tw_194 : (Jvm.Cond.static ({ cls := "java/lang/Integer", name := "bitCount", desc := "(I)I" } : Jvm.MethodName)) ∈ cd_Ts := cd_in (cd_t1 (List.mem_of_getElem? (i := 194) (by decide +kernel))) rfl
set_option maxRecDepth 100000 in
theorem tw_195 : (Jvm.Cond.code ({ cls := "java/lang/Integer", name := "bitCount", desc := "(I)I" } : Jvm.MethodName) prog_16_method_49_code (1 : Nat) (Option.some Jvm.ClassFile.FieldType.int)) ∈ cd_Ts := cd_in (cd_t1 (List.mem_of_getElem? (i := 195) rfl)) rfl
theorem tw_196 : (Jvm.Cond.constant "java/lang/Integer" (265 : Nat) (1431655765 : Int32)) ∈ cd_Ts := cd_in (cd_t1 (List.mem_of_getElem? (i := 196) (by decide +kernel))) rfl
theorem tw_197 : (Jvm.Cond.constant "java/lang/Integer" (266 : Nat) (858993459 : Int32)) ∈ cd_Ts := cd_in (cd_t1 (List.mem_of_getElem? (i := 197) (by decide +kernel))) rfl
theorem tw_198 : (Jvm.Cond.constant "java/lang/Integer" (267 : Nat) (252645135 : Int32)) ∈ cd_Ts := cd_in (cd_t1 (List.mem_of_getElem? (i := 198) (by decide +kernel))) rfl
theorem tw_199 : (Jvm.Cond.fieldLink "CaptionDesk" (230 : Nat) "CaptionDesk" "WRONG_BITS" "[I") ∈ cd_Ts := cd_in (cd_t1 (List.mem_of_getElem? (i := 199) (by decide +kernel))) rfl
theorem tl_200 : (Jvm.Cond.laysStatic "CaptionDesk" "WRONG_BITS" "[I") ∈ lw_tbl := cd_t1 (List.mem_of_getElem? (i := 200) (by decide +kernel))
theorem tw_201 : (Jvm.Cond.methodLink "CaptionDesk" (233 : Nat) ({ cls := "CaptionDesk", name := "guardedValue", desc := "(I)I" } : Jvm.MethodName)) ∈ cd_Ts := cd_in (cd_t1 (List.mem_of_getElem? (i := 201) (by decide +kernel))) rfl
theorem tw_202 : (Jvm.Cond.static ({ cls := "CaptionDesk", name := "guardedValue", desc := "(I)I" } : Jvm.MethodName)) ∈ cd_Ts := cd_in (cd_t1 (List.mem_of_getElem? (i := 202) (by decide +kernel))) rfl
set_option maxRecDepth 100000 in
theorem tw_203 : (Jvm.Cond.code ({ cls := "CaptionDesk", name := "guardedValue", desc := "(I)I" } : Jvm.MethodName) prog_1_method_24_code (1 : Nat) (Option.some Jvm.ClassFile.FieldType.int)) ∈ cd_Ts := cd_in (cd_t1 (List.mem_of_getElem? (i := 203) rfl)) rfl
theorem tw_204 : (Jvm.Cond.methodLink "CaptionDeskLaw" (101 : Nat) ({ cls := "CaptionDesk", name := "pages", desc := "()I" } : Jvm.MethodName)) ∈ cd_Ts := cd_in (cd_t1 (List.mem_of_getElem? (i := 204) (by decide +kernel))) rfl
theorem tw_205 : (Jvm.Cond.instanceMethod ({ cls := "CaptionDesk", name := "pages", desc := "()I" } : Jvm.MethodName)) ∈ cd_Ts := cd_in (cd_t1 (List.mem_of_getElem? (i := 205) (by decide +kernel))) rfl
theorem tw_206 : (Jvm.Cond.selects "CaptionDesk" ({ cls := "CaptionDesk", name := "pages", desc := "()I" } : Jvm.MethodName) ({ cls := "CaptionDesk", name := "pages", desc := "()I" } : Jvm.MethodName)) ∈ cd_Ts := cd_in (cd_t1 (List.mem_of_getElem? (i := 206) (by decide +kernel))) rfl
set_option maxRecDepth 100000 in
theorem tw_207 : (Jvm.Cond.code ({ cls := "CaptionDesk", name := "pages", desc := "()I" } : Jvm.MethodName) prog_1_method_17_code (1 : Nat) (Option.some Jvm.ClassFile.FieldType.int)) ∈ cd_Ts := cd_in (cd_t1 (List.mem_of_getElem? (i := 207) rfl)) rfl
theorem tw_208 : (Jvm.Cond.methodLink "CaptionDeskLaw" (105 : Nat) ({ cls := "CaptionDesk", name := "find", desc := "(III)I" } : Jvm.MethodName)) ∈ cd_Ts := cd_in (cd_t1 (List.mem_of_getElem? (i := 208) (by decide +kernel))) rfl
theorem tw_209 : (Jvm.Cond.instanceMethod ({ cls := "CaptionDesk", name := "find", desc := "(III)I" } : Jvm.MethodName)) ∈ cd_Ts := cd_in (cd_t1 (List.mem_of_getElem? (i := 209) (by decide +kernel))) rfl
theorem tw_210 : (Jvm.Cond.selects "CaptionDesk" ({ cls := "CaptionDesk", name := "find", desc := "(III)I" } : Jvm.MethodName) ({ cls := "CaptionDesk", name := "find", desc := "(III)I" } : Jvm.MethodName)) ∈ cd_Ts := cd_in (cd_t1 (List.mem_of_getElem? (i := 210) (by decide +kernel))) rfl
set_option maxRecDepth 100000 in
theorem tw_211 : (Jvm.Cond.code ({ cls := "CaptionDesk", name := "find", desc := "(III)I" } : Jvm.MethodName) prog_1_method_18_code (4 : Nat) (Option.some Jvm.ClassFile.FieldType.int)) ∈ cd_Ts := cd_in (cd_t1 (List.mem_of_getElem? (i := 211) rfl)) rfl
theorem tw_212 : (Jvm.Cond.methodLink "CaptionDesk" (174 : Nat) ({ cls := "CaptionDesk$Store", name := "placeOf", desc := "(III)I" } : Jvm.MethodName)) ∈ cd_Ts := cd_in (cd_t1 (List.mem_of_getElem? (i := 212) (by decide +kernel))) rfl
theorem tw_213 : (Jvm.Cond.instanceMethod ({ cls := "CaptionDesk$Store", name := "placeOf", desc := "(III)I" } : Jvm.MethodName)) ∈ cd_Ts := cd_in (cd_t1 (List.mem_of_getElem? (i := 213) (by decide +kernel))) rfl
theorem tw_214 : (Jvm.Cond.selects "CaptionDesk$Store" ({ cls := "CaptionDesk$Store", name := "placeOf", desc := "(III)I" } : Jvm.MethodName) ({ cls := "CaptionDesk$Store", name := "placeOf", desc := "(III)I" } : Jvm.MethodName)) ∈ cd_Ts := cd_in (cd_t1 (List.mem_of_getElem? (i := 214) (by decide +kernel))) rfl
set_option maxRecDepth 100000 in
theorem tw_215 : (Jvm.Cond.code ({ cls := "CaptionDesk$Store", name := "placeOf", desc := "(III)I" } : Jvm.MethodName) prog_8_method_3_code (6 : Nat) (Option.some Jvm.ClassFile.FieldType.int)) ∈ cd_Ts := cd_in (cd_t1 (List.mem_of_getElem? (i := 215) rfl)) rfl
theorem tw_216 : (Jvm.Cond.methodLink "CaptionDesk$Store" (25 : Nat) ({ cls := "CaptionDesk$Store", name := "pageAt", desc := "(I)LCaptionDesk$Page;" } : Jvm.MethodName)) ∈ cd_Ts := cd_in (cd_t1 (List.mem_of_getElem? (i := 216) (by decide +kernel))) rfl
theorem tw_217 : (Jvm.Cond.instanceMethod ({ cls := "CaptionDesk$Store", name := "pageAt", desc := "(I)LCaptionDesk$Page;" } : Jvm.MethodName)) ∈ cd_Ts := cd_in (cd_t1 (List.mem_of_getElem? (i := 217) (by decide +kernel))) rfl
theorem tw_218 : (Jvm.Cond.selects "CaptionDesk$Store" ({ cls := "CaptionDesk$Store", name := "pageAt", desc := "(I)LCaptionDesk$Page;" } : Jvm.MethodName) ({ cls := "CaptionDesk$Store", name := "pageAt", desc := "(I)LCaptionDesk$Page;" } : Jvm.MethodName)) ∈ cd_Ts := cd_in (cd_t1 (List.mem_of_getElem? (i := 218) (by decide +kernel))) rfl
set_option maxRecDepth 100000 in
theorem tw_219 : (Jvm.Cond.code ({ cls := "CaptionDesk$Store", name := "pageAt", desc := "(I)LCaptionDesk$Page;" } : Jvm.MethodName) prog_8_method_2_code (2 : Nat) (Option.some (Jvm.ClassFile.FieldType.object "CaptionDesk$Page"))) ∈ cd_Ts := cd_in (cd_t1 (List.mem_of_getElem? (i := 219) rfl)) rfl
theorem tw_221 : (Jvm.Cond.static ({ cls := "CaptionDesk", name := "isOutside", desc := "(II)Z" } : Jvm.MethodName)) ∈ cd_Ts := cd_in (cd_t1 (List.mem_of_getElem? (i := 221) (by decide +kernel))) rfl
set_option maxRecDepth 100000 in
theorem tw_222 : (Jvm.Cond.code ({ cls := "CaptionDesk", name := "isOutside", desc := "(II)Z" } : Jvm.MethodName) prog_1_method_12_code (2 : Nat) (Option.some Jvm.ClassFile.FieldType.boolean)) ∈ cd_Ts := cd_in (cd_t1 (List.mem_of_getElem? (i := 222) rfl)) rfl
theorem tw_223 : (Jvm.Cond.methodLink "CaptionDesk$Store" (29 : Nat) ({ cls := "CaptionDesk$Page", name := "hasName", desc := "(III)Z" } : Jvm.MethodName)) ∈ cd_Ts := cd_in (cd_t1 (List.mem_of_getElem? (i := 223) (by decide +kernel))) rfl
theorem tw_224 : (Jvm.Cond.instanceMethod ({ cls := "CaptionDesk$Page", name := "hasName", desc := "(III)Z" } : Jvm.MethodName)) ∈ cd_Ts := cd_in (cd_t1 (List.mem_of_getElem? (i := 224) (by decide +kernel))) rfl
theorem tw_225 : (Jvm.Cond.selects "CaptionDesk$Page" ({ cls := "CaptionDesk$Page", name := "hasName", desc := "(III)Z" } : Jvm.MethodName) ({ cls := "CaptionDesk$Page", name := "hasName", desc := "(III)Z" } : Jvm.MethodName)) ∈ cd_Ts := cd_in (cd_t1 (List.mem_of_getElem? (i := 225) (by decide +kernel))) rfl
set_option maxRecDepth 100000 in
theorem tw_226 : (Jvm.Cond.code ({ cls := "CaptionDesk$Page", name := "hasName", desc := "(III)Z" } : Jvm.MethodName) prog_5_method_4_code (4 : Nat) (Option.some Jvm.ClassFile.FieldType.boolean)) ∈ cd_Ts := cd_in (cd_t1 (List.mem_of_getElem? (i := 226) rfl)) rfl
theorem tw_227 : (Jvm.Cond.methodLink "CaptionDeskLaw" (130 : Nat) ({ cls := "CaptionDesk", name := "cues", desc := "()I" } : Jvm.MethodName)) ∈ cd_Ts := cd_in (cd_t1 (List.mem_of_getElem? (i := 227) (by decide +kernel))) rfl
theorem tw_228 : (Jvm.Cond.instanceMethod ({ cls := "CaptionDesk", name := "cues", desc := "()I" } : Jvm.MethodName)) ∈ cd_Ts := cd_in (cd_t1 (List.mem_of_getElem? (i := 228) (by decide +kernel))) rfl
theorem tw_229 : (Jvm.Cond.selects "CaptionDesk" ({ cls := "CaptionDesk", name := "cues", desc := "()I" } : Jvm.MethodName) ({ cls := "CaptionDesk", name := "cues", desc := "()I" } : Jvm.MethodName)) ∈ cd_Ts := cd_in (cd_t1 (List.mem_of_getElem? (i := 229) (by decide +kernel))) rfl
set_option maxRecDepth 100000 in
theorem tw_230 : (Jvm.Cond.code ({ cls := "CaptionDesk", name := "cues", desc := "()I" } : Jvm.MethodName) prog_1_method_37_code (1 : Nat) (Option.some Jvm.ClassFile.FieldType.int)) ∈ cd_Ts := cd_in (cd_t1 (List.mem_of_getElem? (i := 230) rfl)) rfl
theorem tw_231 : (Jvm.Cond.methodLink "CaptionDeskLaw" (69 : Nat) ({ cls := "CaptionDeskLaw", name := "pair", desc := "(LCaptionDesk;III[J)I" } : Jvm.MethodName)) ∈ cd_Ts := cd_in (cd_t1 (List.mem_of_getElem? (i := 231) (by decide +kernel))) rfl
theorem tw_232 : (Jvm.Cond.static ({ cls := "CaptionDeskLaw", name := "pair", desc := "(LCaptionDesk;III[J)I" } : Jvm.MethodName)) ∈ cd_Ts := cd_in (cd_t1 (List.mem_of_getElem? (i := 232) (by decide +kernel))) rfl
set_option maxRecDepth 100000 in
theorem tw_233 : (Jvm.Cond.codeWith ({ cls := "CaptionDeskLaw", name := "pair", desc := "(LCaptionDesk;III[J)I" } : Jvm.MethodName) method_3_code (6 : Nat) (Option.some Jvm.ClassFile.FieldType.int) [((0 : Nat), (12 : Nat), (15 : Nat), (13 : Nat))]) ∈ cd_Ts := cd_in (cd_t1 (List.mem_of_getElem? (i := 233) rfl)) rfl
theorem tw_234 : (Jvm.Cond.classLink "CaptionDeskLaw" (13 : Nat) "java/lang/IndexOutOfBoundsException") ∈ cd_Ts := cd_in (cd_t1 (List.mem_of_getElem? (i := 234) (by decide +kernel))) rfl
theorem tw_235 : (Jvm.Cond.methodLink "CaptionDeskLaw" (7 : Nat) ({ cls := "CaptionDesk", name := "pair", desc := "(III)I" } : Jvm.MethodName)) ∈ cd_Ts := cd_in (cd_t1 (List.mem_of_getElem? (i := 235) (by decide +kernel))) rfl
theorem tw_236 : (Jvm.Cond.instanceMethod ({ cls := "CaptionDesk", name := "pair", desc := "(III)I" } : Jvm.MethodName)) ∈ cd_Ts := cd_in (cd_t1 (List.mem_of_getElem? (i := 236) (by decide +kernel))) rfl
theorem tw_237 : (Jvm.Cond.selects "CaptionDesk" ({ cls := "CaptionDesk", name := "pair", desc := "(III)I" } : Jvm.MethodName) ({ cls := "CaptionDesk", name := "pair", desc := "(III)I" } : Jvm.MethodName)) ∈ cd_Ts := cd_in (cd_t1 (List.mem_of_getElem? (i := 237) (by decide +kernel))) rfl
set_option maxRecDepth 100000 in
theorem tw_238 : (Jvm.Cond.code ({ cls := "CaptionDesk", name := "pair", desc := "(III)I" } : Jvm.MethodName) prog_1_method_2_code (7 : Nat) (Option.some Jvm.ClassFile.FieldType.int)) ∈ cd_Ts := cd_in (cd_t1 (List.mem_of_getElem? (i := 238) rfl)) rfl
theorem tw_239 : (Jvm.Cond.methodLink "CaptionDesk" (62 : Nat) ({ cls := "CaptionDesk", name := "isOutside", desc := "(II)Z" } : Jvm.MethodName)) ∈ cd_Ts := cd_in (cd_t1 (List.mem_of_getElem? (i := 239) (by decide +kernel))) rfl
theorem tw_240 : (Jvm.Cond.classLink "CaptionDesk" (66 : Nat) "java/lang/IndexOutOfBoundsException") ∈ cd_Ts := cd_in (cd_t2 (List.mem_of_getElem? (i := 0) (by decide +kernel))) rfl
theorem tw_241 : (Jvm.Cond.instantiable "java/lang/IndexOutOfBoundsException" (6 : Nat)) ∈ cd_Ts := cd_in (cd_t2 (List.mem_of_getElem? (i := 1) (by decide +kernel))) rfl
theorem tw_249 : (Jvm.Cond.selects "java/lang/IndexOutOfBoundsException" ({ cls := "java/lang/Throwable", name := "fillInStackTrace", desc := "(I)Ljava/lang/Throwable;" } : Jvm.MethodName) ({ cls := "java/lang/Throwable", name := "fillInStackTrace", desc := "(I)Ljava/lang/Throwable;" } : Jvm.MethodName)) ∈ cd_Ts := cd_in (cd_t2 (List.mem_of_getElem? (i := 9) (by decide +kernel))) rfl
theorem tw_250 : (Jvm.Cond.selects "java/lang/IndexOutOfBoundsException" ({ cls := "java/lang/Throwable", name := "fillInStackTrace", desc := "()Ljava/lang/Throwable;" } : Jvm.MethodName) ({ cls := "java/lang/Throwable", name := "fillInStackTrace", desc := "()Ljava/lang/Throwable;" } : Jvm.MethodName)) ∈ cd_Ts := cd_in (cd_t2 (List.mem_of_getElem? (i := 10) (by decide +kernel))) rfl
theorem tw_251 : (Jvm.Cond.lays "java/lang/IndexOutOfBoundsException" "java/lang/Throwable" "cause" "Ljava/lang/Throwable;") ∈ cd_Ts := cd_in (cd_t2 (List.mem_of_getElem? (i := 11) (by decide +kernel))) rfl
theorem tw_252 : (Jvm.Cond.lays "java/lang/Throwable" "java/lang/Throwable" "cause" "Ljava/lang/Throwable;") ∈ cd_Ts := cd_in (cd_t2 (List.mem_of_getElem? (i := 12) (by decide +kernel))) rfl
theorem tw_253 : (Jvm.Cond.lays "java/lang/IndexOutOfBoundsException" "java/lang/Throwable" "stackTrace" "[Ljava/lang/StackTraceElement;") ∈ cd_Ts := cd_in (cd_t2 (List.mem_of_getElem? (i := 13) (by decide +kernel))) rfl
theorem tw_254 : (Jvm.Cond.lays "java/lang/Throwable" "java/lang/Throwable" "stackTrace" "[Ljava/lang/StackTraceElement;") ∈ cd_Ts := cd_in (cd_t2 (List.mem_of_getElem? (i := 14) (by decide +kernel))) rfl
theorem tw_255 : (Jvm.Cond.lays "java/lang/IndexOutOfBoundsException" "java/lang/Throwable" "suppressedExceptions" "Ljava/util/List;") ∈ cd_Ts := cd_in (cd_t2 (List.mem_of_getElem? (i := 15) (by decide +kernel))) rfl
theorem tw_256 : (Jvm.Cond.lays "java/lang/Throwable" "java/lang/Throwable" "suppressedExceptions" "Ljava/util/List;") ∈ cd_Ts := cd_in (cd_t2 (List.mem_of_getElem? (i := 16) (by decide +kernel))) rfl
theorem tw_257 : (Jvm.Cond.lays "java/lang/IndexOutOfBoundsException" "java/lang/Throwable" "detailMessage" "Ljava/lang/String;") ∈ cd_Ts := cd_in (cd_t2 (List.mem_of_getElem? (i := 17) (by decide +kernel))) rfl
theorem tw_258 : (Jvm.Cond.lays "java/lang/Throwable" "java/lang/Throwable" "detailMessage" "Ljava/lang/String;") ∈ cd_Ts := cd_in (cd_t2 (List.mem_of_getElem? (i := 18) (by decide +kernel))) rfl
theorem tw_259 : (Jvm.Cond.lays "java/lang/IndexOutOfBoundsException" "java/lang/Throwable" "backtrace" "Ljava/lang/Object;") ∈ cd_Ts := cd_in (cd_t2 (List.mem_of_getElem? (i := 19) (by decide +kernel))) rfl
theorem tw_260 : (Jvm.Cond.lays "java/lang/Throwable" "java/lang/Throwable" "backtrace" "Ljava/lang/Object;") ∈ cd_Ts := cd_in (cd_t2 (List.mem_of_getElem? (i := 20) (by decide +kernel))) rfl
theorem tw_261 : (Jvm.Cond.fieldLink "java/lang/Throwable" (198 : Nat) "java/lang/Throwable" "backtrace" "Ljava/lang/Object;") ∈ cd_Ts := cd_in (cd_t2 (List.mem_of_getElem? (i := 21) (by decide +kernel))) rfl
theorem tw_262 : (Jvm.Cond.superclass "java/lang/Throwable" "java/lang/Object") ∈ cd_Ts := cd_in (cd_t2 (List.mem_of_getElem? (i := 22) (by decide +kernel))) rfl
theorem tw_263 : (Jvm.Cond.instanceMethod ({ cls := "java/lang/Throwable", name := "<init>", desc := "()V" } : Jvm.MethodName)) ∈ cd_Ts := cd_in (cd_t2 (List.mem_of_getElem? (i := 23) (by decide +kernel))) rfl
set_option maxRecDepth 100000 in
theorem tw_264 : (Jvm.Cond.code ({ cls := "java/lang/Throwable", name := "<init>", desc := "()V" } : Jvm.MethodName) prog_21_method_1_code (1 : Nat) (Option.none : Option Jvm.ClassFile.FieldType)) ∈ cd_Ts := cd_in (cd_t2 (List.mem_of_getElem? (i := 24) rfl)) rfl
theorem tw_265 : (Jvm.Cond.methodLink "java/lang/Throwable" (1 : Nat) ({ cls := "java/lang/Object", name := "<init>", desc := "()V" } : Jvm.MethodName)) ∈ cd_Ts := cd_in (cd_t2 (List.mem_of_getElem? (i := 25) (by decide +kernel))) rfl
theorem tw_266 : (Jvm.Cond.fieldLink "java/lang/Throwable" (13 : Nat) "java/lang/Throwable" "UNASSIGNED_STACK" "[Ljava/lang/StackTraceElement;") ∈ cd_Ts := cd_in (cd_t2 (List.mem_of_getElem? (i := 26) (by decide +kernel))) rfl
theorem tl_267 : (Jvm.Cond.laysStatic "java/lang/Throwable" "UNASSIGNED_STACK" "[Ljava/lang/StackTraceElement;") ∈ lw_tbl := cd_t2 (List.mem_of_getElem? (i := 27) (by decide +kernel))
theorem tw_268 : (Jvm.Cond.fieldLink "java/lang/Throwable" (20 : Nat) "java/lang/Throwable" "SUPPRESSED_SENTINEL" "Ljava/util/List;") ∈ cd_Ts := cd_in (cd_t2 (List.mem_of_getElem? (i := 28) (by decide +kernel))) rfl
theorem tl_269 : (Jvm.Cond.laysStatic "java/lang/Throwable" "SUPPRESSED_SENTINEL" "Ljava/util/List;") ∈ lw_tbl := cd_t2 (List.mem_of_getElem? (i := 29) (by decide +kernel))
theorem tw_270 : (Jvm.Cond.methodLink "java/lang/Throwable" (27 : Nat) ({ cls := "java/lang/Throwable", name := "fillInStackTrace", desc := "()Ljava/lang/Throwable;" } : Jvm.MethodName)) ∈ cd_Ts := cd_in (cd_t2 (List.mem_of_getElem? (i := 30) (by decide +kernel))) rfl
theorem tw_271 : (Jvm.Cond.instanceMethod ({ cls := "java/lang/Throwable", name := "fillInStackTrace", desc := "()Ljava/lang/Throwable;" } : Jvm.MethodName)) ∈ cd_Ts := cd_in (cd_t2 (List.mem_of_getElem? (i := 31) (by decide +kernel))) rfl
theorem tl_272 : (Jvm.Cond.sameMethod "java/lang/Throwable" "java/lang/Throwable" "fillInStackTrace" "()Ljava/lang/Throwable;") ∈ lw_tbl := cd_t2 (List.mem_of_getElem? (i := 32) (by decide +kernel))
theorem tw_273 : (Jvm.Cond.selects "java/lang/IllegalArgumentException" ({ cls := "java/lang/Throwable", name := "fillInStackTrace", desc := "()Ljava/lang/Throwable;" } : Jvm.MethodName) ({ cls := "java/lang/Throwable", name := "fillInStackTrace", desc := "()Ljava/lang/Throwable;" } : Jvm.MethodName)) ∈ cd_Ts := cd_in (cd_t2 (List.mem_of_getElem? (i := 33) (by decide +kernel))) rfl
theorem tw_274 : (Jvm.Cond.selects "java/lang/IllegalStateException" ({ cls := "java/lang/Throwable", name := "fillInStackTrace", desc := "()Ljava/lang/Throwable;" } : Jvm.MethodName) ({ cls := "java/lang/Throwable", name := "fillInStackTrace", desc := "()Ljava/lang/Throwable;" } : Jvm.MethodName)) ∈ cd_Ts := cd_in (cd_t2 (List.mem_of_getElem? (i := 34) (by decide +kernel))) rfl
set_option maxRecDepth 100000 in
theorem tw_275 : (Jvm.Cond.codeSync ({ cls := "java/lang/Throwable", name := "fillInStackTrace", desc := "()Ljava/lang/Throwable;" } : Jvm.MethodName) prog_21_method_18_code (1 : Nat) (Option.some (Jvm.ClassFile.FieldType.object "java/lang/Throwable"))) ∈ cd_Ts := cd_in (cd_t2 (List.mem_of_getElem? (i := 35) rfl)) rfl
theorem tw_276 : (Jvm.Cond.methodLink "java/lang/Throwable" (202 : Nat) ({ cls := "java/lang/Throwable", name := "fillInStackTrace", desc := "(I)Ljava/lang/Throwable;" } : Jvm.MethodName)) ∈ cd_Ts := cd_in (cd_t2 (List.mem_of_getElem? (i := 36) (by decide +kernel))) rfl
theorem tl_277 : (Jvm.Cond.privateMethod ({ cls := "java/lang/Throwable", name := "fillInStackTrace", desc := "(I)Ljava/lang/Throwable;" } : Jvm.MethodName)) ∈ lw_tbl := cd_t2 (List.mem_of_getElem? (i := 37) (by decide +kernel))
theorem tw_278 : (Jvm.Cond.instanceMethod ({ cls := "java/lang/Throwable", name := "fillInStackTrace", desc := "(I)Ljava/lang/Throwable;" } : Jvm.MethodName)) ∈ cd_Ts := cd_in (cd_t2 (List.mem_of_getElem? (i := 38) (by decide +kernel))) rfl
theorem tw_279 : (Jvm.Cond.instantiable "java/lang/Throwable" (6 : Nat)) ∈ cd_Ts := cd_in (cd_t2 (List.mem_of_getElem? (i := 39) (by decide +kernel))) rfl
theorem tw_280 : (Jvm.Cond.native ({ cls := "java/lang/Throwable", name := "fillInStackTrace", desc := "(I)Ljava/lang/Throwable;" } : Jvm.MethodName)) ∈ cd_Ts := cd_in (cd_t2 (List.mem_of_getElem? (i := 40) (by decide +kernel))) rfl
theorem tl_281 : (Jvm.Cond.stringRef "CaptionDesk" (68 : Nat) "field") ∈ lw_tbl := cd_t2 (List.mem_of_getElem? (i := 41) (by decide +kernel))
theorem tw_282 : (Jvm.Cond.methodLink "CaptionDesk" (70 : Nat) ({ cls := "java/lang/IndexOutOfBoundsException", name := "<init>", desc := "(Ljava/lang/String;)V" } : Jvm.MethodName)) ∈ cd_Ts := cd_in (cd_t2 (List.mem_of_getElem? (i := 42) (by decide +kernel))) rfl
theorem tw_283 : (Jvm.Cond.instanceMethod ({ cls := "java/lang/IndexOutOfBoundsException", name := "<init>", desc := "(Ljava/lang/String;)V" } : Jvm.MethodName)) ∈ cd_Ts := cd_in (cd_t2 (List.mem_of_getElem? (i := 43) (by decide +kernel))) rfl
set_option maxRecDepth 100000 in
theorem tw_284 : (Jvm.Cond.code ({ cls := "java/lang/IndexOutOfBoundsException", name := "<init>", desc := "(Ljava/lang/String;)V" } : Jvm.MethodName) prog_15_method_2_code (2 : Nat) (Option.none : Option Jvm.ClassFile.FieldType)) ∈ cd_Ts := cd_in (cd_t2 (List.mem_of_getElem? (i := 44) rfl)) rfl
theorem tw_285 : (Jvm.Cond.methodLink "java/lang/IndexOutOfBoundsException" (7 : Nat) ({ cls := "java/lang/RuntimeException", name := "<init>", desc := "(Ljava/lang/String;)V" } : Jvm.MethodName)) ∈ cd_Ts := cd_in (cd_t2 (List.mem_of_getElem? (i := 45) (by decide +kernel))) rfl
theorem tw_286 : (Jvm.Cond.instanceMethod ({ cls := "java/lang/RuntimeException", name := "<init>", desc := "(Ljava/lang/String;)V" } : Jvm.MethodName)) ∈ cd_Ts := cd_in (cd_t2 (List.mem_of_getElem? (i := 46) (by decide +kernel))) rfl
set_option maxRecDepth 100000 in
theorem tw_287 : (Jvm.Cond.code ({ cls := "java/lang/RuntimeException", name := "<init>", desc := "(Ljava/lang/String;)V" } : Jvm.MethodName) prog_18_method_2_code (2 : Nat) (Option.none : Option Jvm.ClassFile.FieldType)) ∈ cd_Ts := cd_in (cd_t2 (List.mem_of_getElem? (i := 47) rfl)) rfl
theorem tw_288 : (Jvm.Cond.methodLink "java/lang/RuntimeException" (7 : Nat) ({ cls := "java/lang/Exception", name := "<init>", desc := "(Ljava/lang/String;)V" } : Jvm.MethodName)) ∈ cd_Ts := cd_in (cd_t2 (List.mem_of_getElem? (i := 48) (by decide +kernel))) rfl
theorem tw_289 : (Jvm.Cond.instanceMethod ({ cls := "java/lang/Exception", name := "<init>", desc := "(Ljava/lang/String;)V" } : Jvm.MethodName)) ∈ cd_Ts := cd_in (cd_t2 (List.mem_of_getElem? (i := 49) (by decide +kernel))) rfl
set_option maxRecDepth 100000 in
theorem tw_290 : (Jvm.Cond.code ({ cls := "java/lang/Exception", name := "<init>", desc := "(Ljava/lang/String;)V" } : Jvm.MethodName) prog_12_method_2_code (2 : Nat) (Option.none : Option Jvm.ClassFile.FieldType)) ∈ cd_Ts := cd_in (cd_t2 (List.mem_of_getElem? (i := 50) rfl)) rfl
theorem tw_291 : (Jvm.Cond.methodLink "java/lang/Exception" (7 : Nat) ({ cls := "java/lang/Throwable", name := "<init>", desc := "(Ljava/lang/String;)V" } : Jvm.MethodName)) ∈ cd_Ts := cd_in (cd_t2 (List.mem_of_getElem? (i := 51) (by decide +kernel))) rfl
theorem tw_292 : (Jvm.Cond.instanceMethod ({ cls := "java/lang/Throwable", name := "<init>", desc := "(Ljava/lang/String;)V" } : Jvm.MethodName)) ∈ cd_Ts := cd_in (cd_t2 (List.mem_of_getElem? (i := 52) (by decide +kernel))) rfl
set_option maxRecDepth 100000 in
theorem tw_293 : (Jvm.Cond.code ({ cls := "java/lang/Throwable", name := "<init>", desc := "(Ljava/lang/String;)V" } : Jvm.MethodName) prog_21_method_2_code (2 : Nat) (Option.none : Option Jvm.ClassFile.FieldType)) ∈ cd_Ts := cd_in (cd_t2 (List.mem_of_getElem? (i := 53) rfl)) rfl
theorem tw_295 : (Jvm.Cond.fieldLink "java/lang/Throwable" (31 : Nat) "java/lang/Throwable" "detailMessage" "Ljava/lang/String;") ∈ cd_Ts := cd_in (cd_t2 (List.mem_of_getElem? (i := 55) (by decide +kernel))) rfl
theorem tw_296 : (Jvm.Cond.fieldLink "java/lang/Throwable" (7 : Nat) "java/lang/Throwable" "cause" "Ljava/lang/Throwable;") ∈ cd_Ts := cd_in (cd_t2 (List.mem_of_getElem? (i := 56) (by decide +kernel))) rfl
theorem tw_297 : (Jvm.Cond.fieldLink "java/lang/Throwable" (17 : Nat) "java/lang/Throwable" "stackTrace" "[Ljava/lang/StackTraceElement;") ∈ cd_Ts := cd_in (cd_t2 (List.mem_of_getElem? (i := 57) (by decide +kernel))) rfl
theorem tw_298 : (Jvm.Cond.fieldLink "java/lang/Throwable" (24 : Nat) "java/lang/Throwable" "suppressedExceptions" "Ljava/util/List;") ∈ cd_Ts := cd_in (cd_t2 (List.mem_of_getElem? (i := 58) (by decide +kernel))) rfl
theorem tl_299 : (Jvm.Cond.soleField "java/lang/Throwable" "backtrace") ∈ lw_tbl := cd_t2 (List.mem_of_getElem? (i := 59) (by decide +kernel))
theorem tl_300 : (Jvm.Cond.soleField "java/lang/Throwable" "detailMessage") ∈ lw_tbl := cd_t2 (List.mem_of_getElem? (i := 60) (by decide +kernel))
theorem tl_301 : (Jvm.Cond.soleField "java/lang/Throwable" "cause") ∈ lw_tbl := cd_t2 (List.mem_of_getElem? (i := 61) (by decide +kernel))
theorem tl_302 : (Jvm.Cond.soleField "java/lang/Throwable" "stackTrace") ∈ lw_tbl := cd_t2 (List.mem_of_getElem? (i := 62) (by decide +kernel))
theorem tw_303 : (Jvm.Cond.lays "java/lang/IndexOutOfBoundsException" "java/lang/Throwable" "depth" "I") ∈ cd_Ts := cd_in (cd_t2 (List.mem_of_getElem? (i := 63) (by decide +kernel))) rfl
theorem tl_304 : (Jvm.Cond.soleField "java/lang/Throwable" "depth") ∈ lw_tbl := cd_t2 (List.mem_of_getElem? (i := 64) (by decide +kernel))
theorem tl_305 : (Jvm.Cond.soleField "java/lang/Throwable" "suppressedExceptions") ∈ lw_tbl := cd_t2 (List.mem_of_getElem? (i := 65) (by decide +kernel))
theorem tw_306 : (Jvm.Cond.superclass "java/lang/IndexOutOfBoundsException" "java/lang/RuntimeException") ∈ cd_Ts := cd_in (cd_t2 (List.mem_of_getElem? (i := 66) (by decide +kernel))) rfl
theorem tw_307 : (Jvm.Cond.arrayClass Jvm.ClassFile.FieldType.byte) ∈ cd_Ts := cd_in (cd_t2 (List.mem_of_getElem? (i := 67) (by decide +kernel))) rfl
theorem tw_308 : (Jvm.Cond.methodLink "CaptionDesk" (73 : Nat) ({ cls := "CaptionDesk", name := "isCode", desc := "(II)Z" } : Jvm.MethodName)) ∈ cd_Ts := cd_in (cd_t2 (List.mem_of_getElem? (i := 68) (by decide +kernel))) rfl
theorem tw_309 : (Jvm.Cond.static ({ cls := "CaptionDesk", name := "isCode", desc := "(II)Z" } : Jvm.MethodName)) ∈ cd_Ts := cd_in (cd_t2 (List.mem_of_getElem? (i := 69) (by decide +kernel))) rfl
set_option maxRecDepth 100000 in
theorem tw_310 : (Jvm.Cond.code ({ cls := "CaptionDesk", name := "isCode", desc := "(II)Z" } : Jvm.MethodName) prog_1_method_9_code (3 : Nat) (Option.some Jvm.ClassFile.FieldType.boolean)) ∈ cd_Ts := cd_in (cd_t2 (List.mem_of_getElem? (i := 70) rfl)) rfl
theorem tw_311 : (Jvm.Cond.methodLink "CaptionDesk" (126 : Nat) ({ cls := "CaptionDesk", name := "isRight", desc := "(I)Z" } : Jvm.MethodName)) ∈ cd_Ts := cd_in (cd_t2 (List.mem_of_getElem? (i := 71) (by decide +kernel))) rfl
theorem tw_312 : (Jvm.Cond.static ({ cls := "CaptionDesk", name := "isRight", desc := "(I)Z" } : Jvm.MethodName)) ∈ cd_Ts := cd_in (cd_t2 (List.mem_of_getElem? (i := 72) (by decide +kernel))) rfl
set_option maxRecDepth 100000 in
theorem tw_313 : (Jvm.Cond.code ({ cls := "CaptionDesk", name := "isRight", desc := "(I)Z" } : Jvm.MethodName) prog_1_method_10_code (1 : Nat) (Option.some Jvm.ClassFile.FieldType.boolean)) ∈ cd_Ts := cd_in (cd_t2 (List.mem_of_getElem? (i := 73) rfl)) rfl
theorem tw_314 : (Jvm.Cond.methodLink "CaptionDesk" (76 : Nat) ({ cls := "CaptionDesk", name := "takeLetters", desc := "(III)Z" } : Jvm.MethodName)) ∈ cd_Ts := cd_in (cd_t2 (List.mem_of_getElem? (i := 74) (by decide +kernel))) rfl
theorem tl_315 : (Jvm.Cond.privateMethod ({ cls := "CaptionDesk", name := "takeLetters", desc := "(III)Z" } : Jvm.MethodName)) ∈ lw_tbl := cd_t2 (List.mem_of_getElem? (i := 75) (by decide +kernel))
theorem tw_316 : (Jvm.Cond.instanceMethod ({ cls := "CaptionDesk", name := "takeLetters", desc := "(III)Z" } : Jvm.MethodName)) ∈ cd_Ts := cd_in (cd_t2 (List.mem_of_getElem? (i := 76) (by decide +kernel))) rfl
set_option maxRecDepth 100000 in
theorem tw_317 : (Jvm.Cond.code ({ cls := "CaptionDesk", name := "takeLetters", desc := "(III)Z" } : Jvm.MethodName) prog_1_method_7_code (6 : Nat) (Option.some Jvm.ClassFile.FieldType.boolean)) ∈ cd_Ts := cd_in (cd_t2 (List.mem_of_getElem? (i := 77) rfl)) rfl
theorem tw_318 : (Jvm.Cond.methodLink "CaptionDesk" (130 : Nat) ({ cls := "CaptionDesk$Channel", name := "put", desc := "(I)V" } : Jvm.MethodName)) ∈ cd_Ts := cd_in (cd_t2 (List.mem_of_getElem? (i := 78) (by decide +kernel))) rfl
theorem tw_319 : (Jvm.Cond.instanceMethod ({ cls := "CaptionDesk$Channel", name := "put", desc := "(I)V" } : Jvm.MethodName)) ∈ cd_Ts := cd_in (cd_t2 (List.mem_of_getElem? (i := 79) (by decide +kernel))) rfl
theorem tw_320 : (Jvm.Cond.selects "CaptionDesk$Channel" ({ cls := "CaptionDesk$Channel", name := "put", desc := "(I)V" } : Jvm.MethodName) ({ cls := "CaptionDesk$Channel", name := "put", desc := "(I)V" } : Jvm.MethodName)) ∈ cd_Ts := cd_in (cd_t2 (List.mem_of_getElem? (i := 80) (by decide +kernel))) rfl
set_option maxRecDepth 100000 in
theorem tw_321 : (Jvm.Cond.code ({ cls := "CaptionDesk$Channel", name := "put", desc := "(I)V" } : Jvm.MethodName) prog_2_method_2_code (3 : Nat) (Option.none : Option Jvm.ClassFile.FieldType)) ∈ cd_Ts := cd_in (cd_t2 (List.mem_of_getElem? (i := 81) rfl)) rfl
theorem tw_322 : (Jvm.Cond.methodLink "CaptionDesk$Channel" (37 : Nat) ({ cls := "CaptionDesk$Channel", name := "putScreen", desc := "()LCaptionDesk$Screen;" } : Jvm.MethodName)) ∈ cd_Ts := cd_in (cd_t2 (List.mem_of_getElem? (i := 82) (by decide +kernel))) rfl
theorem tl_323 : (Jvm.Cond.privateMethod ({ cls := "CaptionDesk$Channel", name := "putScreen", desc := "()LCaptionDesk$Screen;" } : Jvm.MethodName)) ∈ lw_tbl := cd_t2 (List.mem_of_getElem? (i := 83) (by decide +kernel))
