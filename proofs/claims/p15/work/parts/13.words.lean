theorem tw_948 : (Jvm.Cond.methodLink "CaptionDeskModel" (173 : Nat) ({ cls := "CaptionDeskModel", name := "isOdd", desc := "(I)Z" } : Jvm.MethodName)) ∈ cd_Ts := cd_in (cd_t4 (List.mem_of_getElem? (i := 228) (by decide +kernel))) rfl
theorem tw_949 : (Jvm.Cond.static ({ cls := "CaptionDeskModel", name := "isOdd", desc := "(I)Z" } : Jvm.MethodName)) ∈ cd_Ts := cd_in (cd_t4 (List.mem_of_getElem? (i := 229) (by decide +kernel))) rfl
set_option maxRecDepth 100000 in
theorem tw_950 : (Jvm.Cond.code ({ cls := "CaptionDeskModel", name := "isOdd", desc := "(I)Z" } : Jvm.MethodName) prog_11_method_5_code (3 : Nat) (Option.some Jvm.ClassFile.FieldType.boolean)) ∈ cd_Ts := cd_in (cd_t4 (List.mem_of_getElem? (i := 230) rfl)) rfl
theorem tw_951 : (Jvm.Cond.methodLink "CaptionDeskModel" (177 : Nat) ({ cls := "CaptionDeskModel", name := "code", desc := "(III)V" } : Jvm.MethodName)) ∈ cd_Ts := cd_in (cd_t4 (List.mem_of_getElem? (i := 231) (by decide +kernel))) rfl
theorem tl_952 : (Jvm.Cond.privateMethod ({ cls := "CaptionDeskModel", name := "code", desc := "(III)V" } : Jvm.MethodName)) ∈ lw_tbl := cd_t4 (List.mem_of_getElem? (i := 232) (by decide +kernel))
theorem tw_953 : (Jvm.Cond.instanceMethod ({ cls := "CaptionDeskModel", name := "code", desc := "(III)V" } : Jvm.MethodName)) ∈ cd_Ts := cd_in (cd_t4 (List.mem_of_getElem? (i := 233) (by decide +kernel))) rfl
set_option maxRecDepth 100000 in
theorem tw_954 : (Jvm.Cond.code ({ cls := "CaptionDeskModel", name := "code", desc := "(III)V" } : Jvm.MethodName) prog_11_method_15_code (5 : Nat) (Option.none : Option Jvm.ClassFile.FieldType)) ∈ cd_Ts := cd_in (cd_t4 (List.mem_of_getElem? (i := 234) rfl)) rfl
theorem tw_955 : (Jvm.Cond.methodLink "CaptionDeskModel" (147 : Nat) ({ cls := "CaptionDeskModel", name := "rowCode", desc := "(III)V" } : Jvm.MethodName)) ∈ cd_Ts := cd_in (cd_t4 (List.mem_of_getElem? (i := 235) (by decide +kernel))) rfl
theorem tl_956 : (Jvm.Cond.privateMethod ({ cls := "CaptionDeskModel", name := "rowCode", desc := "(III)V" } : Jvm.MethodName)) ∈ lw_tbl := cd_t4 (List.mem_of_getElem? (i := 236) (by decide +kernel))
theorem tw_957 : (Jvm.Cond.instanceMethod ({ cls := "CaptionDeskModel", name := "rowCode", desc := "(III)V" } : Jvm.MethodName)) ∈ cd_Ts := cd_in (cd_t4 (List.mem_of_getElem? (i := 237) (by decide +kernel))) rfl
set_option maxRecDepth 100000 in
theorem tw_958 : (Jvm.Cond.code ({ cls := "CaptionDeskModel", name := "rowCode", desc := "(III)V" } : Jvm.MethodName) prog_11_method_14_code (5 : Nat) (Option.none : Option Jvm.ClassFile.FieldType)) ∈ cd_Ts := cd_in (cd_t4 (List.mem_of_getElem? (i := 238) rfl)) rfl
theorem tw_959 : (Jvm.Cond.methodLink "CaptionDeskModel" (136 : Nat) ({ cls := "CaptionDeskModel", name := "screenOf", desc := "(I)I" } : Jvm.MethodName)) ∈ cd_Ts := cd_in (cd_t4 (List.mem_of_getElem? (i := 239) (by decide +kernel))) rfl
theorem tl_960 : (Jvm.Cond.privateMethod ({ cls := "CaptionDeskModel", name := "screenOf", desc := "(I)I" } : Jvm.MethodName)) ∈ lw_tbl := cd_t5 (List.mem_of_getElem? (i := 0) (by decide +kernel))
theorem tw_961 : (Jvm.Cond.instanceMethod ({ cls := "CaptionDeskModel", name := "screenOf", desc := "(I)I" } : Jvm.MethodName)) ∈ cd_Ts := cd_in (cd_t5 (List.mem_of_getElem? (i := 1) (by decide +kernel))) rfl
set_option maxRecDepth 100000 in
theorem tw_962 : (Jvm.Cond.code ({ cls := "CaptionDeskModel", name := "screenOf", desc := "(I)I" } : Jvm.MethodName) prog_11_method_10_code (2 : Nat) (Option.some Jvm.ClassFile.FieldType.int)) ∈ cd_Ts := cd_in (cd_t5 (List.mem_of_getElem? (i := 2) rfl)) rfl
theorem tw_963 : (Jvm.Cond.methodLink "CaptionDeskModel" (140 : Nat) ({ cls := "CaptionDeskModel", name := "rowOf", desc := "(I)I" } : Jvm.MethodName)) ∈ cd_Ts := cd_in (cd_t5 (List.mem_of_getElem? (i := 3) (by decide +kernel))) rfl
theorem tw_964 : (Jvm.Cond.static ({ cls := "CaptionDeskModel", name := "rowOf", desc := "(I)I" } : Jvm.MethodName)) ∈ cd_Ts := cd_in (cd_t5 (List.mem_of_getElem? (i := 4) (by decide +kernel))) rfl
set_option maxRecDepth 100000 in
theorem tw_965 : (Jvm.Cond.code ({ cls := "CaptionDeskModel", name := "rowOf", desc := "(I)I" } : Jvm.MethodName) prog_11_method_12_code (1 : Nat) (Option.some Jvm.ClassFile.FieldType.int)) ∈ cd_Ts := cd_in (cd_t5 (List.mem_of_getElem? (i := 5) rfl)) rfl
theorem tw_966 : (Jvm.Cond.methodLink "CaptionDeskModel" (143 : Nat) ({ cls := "CaptionDeskModel", name := "toRow", desc := "(II)V" } : Jvm.MethodName)) ∈ cd_Ts := cd_in (cd_t5 (List.mem_of_getElem? (i := 6) (by decide +kernel))) rfl
theorem tl_967 : (Jvm.Cond.privateMethod ({ cls := "CaptionDeskModel", name := "toRow", desc := "(II)V" } : Jvm.MethodName)) ∈ lw_tbl := cd_t5 (List.mem_of_getElem? (i := 7) (by decide +kernel))
theorem tw_968 : (Jvm.Cond.instanceMethod ({ cls := "CaptionDeskModel", name := "toRow", desc := "(II)V" } : Jvm.MethodName)) ∈ cd_Ts := cd_in (cd_t5 (List.mem_of_getElem? (i := 8) (by decide +kernel))) rfl
set_option maxRecDepth 100000 in
theorem tw_969 : (Jvm.Cond.code ({ cls := "CaptionDeskModel", name := "toRow", desc := "(II)V" } : Jvm.MethodName) prog_11_method_13_code (9 : Nat) (Option.none : Option Jvm.ClassFile.FieldType)) ∈ cd_Ts := cd_in (cd_t5 (List.mem_of_getElem? (i := 9) rfl)) rfl
theorem tw_970 : (Jvm.Cond.methodLink "CaptionDeskModel" (124 : Nat) ({ cls := "CaptionDeskModel", name := "cellAt", desc := "(IIII)I" } : Jvm.MethodName)) ∈ cd_Ts := cd_in (cd_t5 (List.mem_of_getElem? (i := 10) (by decide +kernel))) rfl
theorem tl_971 : (Jvm.Cond.privateMethod ({ cls := "CaptionDeskModel", name := "cellAt", desc := "(IIII)I" } : Jvm.MethodName)) ∈ lw_tbl := cd_t5 (List.mem_of_getElem? (i := 11) (by decide +kernel))
theorem tw_972 : (Jvm.Cond.instanceMethod ({ cls := "CaptionDeskModel", name := "cellAt", desc := "(IIII)I" } : Jvm.MethodName)) ∈ cd_Ts := cd_in (cd_t5 (List.mem_of_getElem? (i := 12) (by decide +kernel))) rfl
set_option maxRecDepth 100000 in
theorem tw_973 : (Jvm.Cond.code ({ cls := "CaptionDeskModel", name := "cellAt", desc := "(IIII)I" } : Jvm.MethodName) prog_11_method_6_code (6 : Nat) (Option.some Jvm.ClassFile.FieldType.int)) ∈ cd_Ts := cd_in (cd_t5 (List.mem_of_getElem? (i := 13) rfl)) rfl
theorem tw_974 : (Jvm.Cond.methodLink "CaptionDeskModel" (132 : Nat) ({ cls := "CaptionDeskModel", name := "clearRow", desc := "(III)V" } : Jvm.MethodName)) ∈ cd_Ts := cd_in (cd_t5 (List.mem_of_getElem? (i := 14) (by decide +kernel))) rfl
theorem tl_975 : (Jvm.Cond.privateMethod ({ cls := "CaptionDeskModel", name := "clearRow", desc := "(III)V" } : Jvm.MethodName)) ∈ lw_tbl := cd_t5 (List.mem_of_getElem? (i := 15) (by decide +kernel))
theorem tw_976 : (Jvm.Cond.instanceMethod ({ cls := "CaptionDeskModel", name := "clearRow", desc := "(III)V" } : Jvm.MethodName)) ∈ cd_Ts := cd_in (cd_t5 (List.mem_of_getElem? (i := 16) (by decide +kernel))) rfl
set_option maxRecDepth 100000 in
theorem tw_977 : (Jvm.Cond.code ({ cls := "CaptionDeskModel", name := "clearRow", desc := "(III)V" } : Jvm.MethodName) prog_11_method_8_code (5 : Nat) (Option.none : Option Jvm.ClassFile.FieldType)) ∈ cd_Ts := cd_in (cd_t5 (List.mem_of_getElem? (i := 17) rfl)) rfl
theorem tw_978 : (Jvm.Cond.methodLink "CaptionDeskModel" (128 : Nat) ({ cls := "CaptionDeskModel", name := "clear", desc := "(I)V" } : Jvm.MethodName)) ∈ cd_Ts := cd_in (cd_t5 (List.mem_of_getElem? (i := 18) (by decide +kernel))) rfl
theorem tl_979 : (Jvm.Cond.privateMethod ({ cls := "CaptionDeskModel", name := "clear", desc := "(I)V" } : Jvm.MethodName)) ∈ lw_tbl := cd_t5 (List.mem_of_getElem? (i := 19) (by decide +kernel))
theorem tw_980 : (Jvm.Cond.instanceMethod ({ cls := "CaptionDeskModel", name := "clear", desc := "(I)V" } : Jvm.MethodName)) ∈ cd_Ts := cd_in (cd_t5 (List.mem_of_getElem? (i := 20) (by decide +kernel))) rfl
set_option maxRecDepth 100000 in
theorem tw_981 : (Jvm.Cond.code ({ cls := "CaptionDeskModel", name := "clear", desc := "(I)V" } : Jvm.MethodName) prog_11_method_7_code (2 : Nat) (Option.none : Option Jvm.ClassFile.FieldType)) ∈ cd_Ts := cd_in (cd_t5 (List.mem_of_getElem? (i := 21) rfl)) rfl
theorem tw_982 : (Jvm.Cond.methodLink "CaptionDeskModel" (150 : Nat) ({ cls := "CaptionDeskModel", name := "put", desc := "(II)V" } : Jvm.MethodName)) ∈ cd_Ts := cd_in (cd_t5 (List.mem_of_getElem? (i := 22) (by decide +kernel))) rfl
theorem tl_983 : (Jvm.Cond.privateMethod ({ cls := "CaptionDeskModel", name := "put", desc := "(II)V" } : Jvm.MethodName)) ∈ lw_tbl := cd_t5 (List.mem_of_getElem? (i := 23) (by decide +kernel))
theorem tw_984 : (Jvm.Cond.instanceMethod ({ cls := "CaptionDeskModel", name := "put", desc := "(II)V" } : Jvm.MethodName)) ∈ cd_Ts := cd_in (cd_t5 (List.mem_of_getElem? (i := 24) (by decide +kernel))) rfl
set_option maxRecDepth 100000 in
theorem tw_985 : (Jvm.Cond.code ({ cls := "CaptionDeskModel", name := "put", desc := "(II)V" } : Jvm.MethodName) prog_11_method_11_code (5 : Nat) (Option.none : Option Jvm.ClassFile.FieldType)) ∈ cd_Ts := cd_in (cd_t5 (List.mem_of_getElem? (i := 25) rfl)) rfl
theorem tw_986 : (Jvm.Cond.methodLink "CaptionDeskModel" (157 : Nat) ({ cls := "CaptionDeskModel", name := "control", desc := "(II)V" } : Jvm.MethodName)) ∈ cd_Ts := cd_in (cd_t5 (List.mem_of_getElem? (i := 26) (by decide +kernel))) rfl
theorem tl_987 : (Jvm.Cond.privateMethod ({ cls := "CaptionDeskModel", name := "control", desc := "(II)V" } : Jvm.MethodName)) ∈ lw_tbl := cd_t5 (List.mem_of_getElem? (i := 27) (by decide +kernel))
theorem tw_988 : (Jvm.Cond.instanceMethod ({ cls := "CaptionDeskModel", name := "control", desc := "(II)V" } : Jvm.MethodName)) ∈ cd_Ts := cd_in (cd_t5 (List.mem_of_getElem? (i := 28) (by decide +kernel))) rfl
set_option maxRecDepth 100000 in
theorem tw_989 : (Jvm.Cond.code ({ cls := "CaptionDeskModel", name := "control", desc := "(II)V" } : Jvm.MethodName) prog_11_method_16_code (5 : Nat) (Option.none : Option Jvm.ClassFile.FieldType)) ∈ cd_Ts := cd_in (cd_t5 (List.mem_of_getElem? (i := 29) rfl)) rfl
theorem tw_990 : (Jvm.Cond.methodLink "CaptionDeskModel" (160 : Nat) ({ cls := "CaptionDeskModel", name := "roll", desc := "(II)V" } : Jvm.MethodName)) ∈ cd_Ts := cd_in (cd_t5 (List.mem_of_getElem? (i := 30) (by decide +kernel))) rfl
theorem tl_991 : (Jvm.Cond.privateMethod ({ cls := "CaptionDeskModel", name := "roll", desc := "(II)V" } : Jvm.MethodName)) ∈ lw_tbl := cd_t5 (List.mem_of_getElem? (i := 31) (by decide +kernel))
theorem tw_992 : (Jvm.Cond.instanceMethod ({ cls := "CaptionDeskModel", name := "roll", desc := "(II)V" } : Jvm.MethodName)) ∈ cd_Ts := cd_in (cd_t5 (List.mem_of_getElem? (i := 32) (by decide +kernel))) rfl
set_option maxRecDepth 100000 in
theorem tw_993 : (Jvm.Cond.code ({ cls := "CaptionDeskModel", name := "roll", desc := "(II)V" } : Jvm.MethodName) prog_11_method_17_code (4 : Nat) (Option.none : Option Jvm.ClassFile.FieldType)) ∈ cd_Ts := cd_in (cd_t5 (List.mem_of_getElem? (i := 33) rfl)) rfl
theorem tw_994 : (Jvm.Cond.methodLink "CaptionDeskModel" (163 : Nat) ({ cls := "CaptionDeskModel", name := "clearScreen", desc := "(II)V" } : Jvm.MethodName)) ∈ cd_Ts := cd_in (cd_t5 (List.mem_of_getElem? (i := 34) (by decide +kernel))) rfl
theorem tl_995 : (Jvm.Cond.privateMethod ({ cls := "CaptionDeskModel", name := "clearScreen", desc := "(II)V" } : Jvm.MethodName)) ∈ lw_tbl := cd_t5 (List.mem_of_getElem? (i := 35) (by decide +kernel))
theorem tw_996 : (Jvm.Cond.instanceMethod ({ cls := "CaptionDeskModel", name := "clearScreen", desc := "(II)V" } : Jvm.MethodName)) ∈ cd_Ts := cd_in (cd_t5 (List.mem_of_getElem? (i := 36) (by decide +kernel))) rfl
set_option maxRecDepth 100000 in
theorem tw_997 : (Jvm.Cond.code ({ cls := "CaptionDeskModel", name := "clearScreen", desc := "(II)V" } : Jvm.MethodName) prog_11_method_9_code (4 : Nat) (Option.none : Option Jvm.ClassFile.FieldType)) ∈ cd_Ts := cd_in (cd_t5 (List.mem_of_getElem? (i := 37) rfl)) rfl
theorem tw_998 : (Jvm.Cond.methodLink "CaptionDeskModel" (166 : Nat) ({ cls := "CaptionDeskModel", name := "up", desc := "(I)V" } : Jvm.MethodName)) ∈ cd_Ts := cd_in (cd_t5 (List.mem_of_getElem? (i := 38) (by decide +kernel))) rfl
theorem tl_999 : (Jvm.Cond.privateMethod ({ cls := "CaptionDeskModel", name := "up", desc := "(I)V" } : Jvm.MethodName)) ∈ lw_tbl := cd_t5 (List.mem_of_getElem? (i := 39) (by decide +kernel))
theorem tw_1000 : (Jvm.Cond.instanceMethod ({ cls := "CaptionDeskModel", name := "up", desc := "(I)V" } : Jvm.MethodName)) ∈ cd_Ts := cd_in (cd_t5 (List.mem_of_getElem? (i := 40) (by decide +kernel))) rfl
set_option maxRecDepth 100000 in
theorem tw_1001 : (Jvm.Cond.code ({ cls := "CaptionDeskModel", name := "up", desc := "(I)V" } : Jvm.MethodName) prog_11_method_18_code (4 : Nat) (Option.none : Option Jvm.ClassFile.FieldType)) ∈ cd_Ts := cd_in (cd_t5 (List.mem_of_getElem? (i := 41) rfl)) rfl
theorem tw_1002 : (Jvm.Cond.methodLink "CaptionDeskLaw" (78 : Nat) ({ cls := "CaptionDeskModel", name := "cell", desc := "(IIIII)I" } : Jvm.MethodName)) ∈ cd_Ts := cd_in (cd_t5 (List.mem_of_getElem? (i := 42) (by decide +kernel))) rfl
theorem tw_1003 : (Jvm.Cond.instanceMethod ({ cls := "CaptionDeskModel", name := "cell", desc := "(IIIII)I" } : Jvm.MethodName)) ∈ cd_Ts := cd_in (cd_t5 (List.mem_of_getElem? (i := 43) (by decide +kernel))) rfl
theorem tw_1004 : (Jvm.Cond.selects "CaptionDeskModel" ({ cls := "CaptionDeskModel", name := "cell", desc := "(IIIII)I" } : Jvm.MethodName) ({ cls := "CaptionDeskModel", name := "cell", desc := "(IIIII)I" } : Jvm.MethodName)) ∈ cd_Ts := cd_in (cd_t5 (List.mem_of_getElem? (i := 44) (by decide +kernel))) rfl
set_option maxRecDepth 100000 in
theorem tw_1005 : (Jvm.Cond.code ({ cls := "CaptionDeskModel", name := "cell", desc := "(IIIII)I" } : Jvm.MethodName) prog_11_method_20_code (7 : Nat) (Option.some Jvm.ClassFile.FieldType.int)) ∈ cd_Ts := cd_in (cd_t5 (List.mem_of_getElem? (i := 45) rfl)) rfl
theorem tw_1006 : (Jvm.Cond.methodLink "CaptionDeskLaw" (82 : Nat) ({ cls := "CaptionDeskModel", name := "state", desc := "(II)I" } : Jvm.MethodName)) ∈ cd_Ts := cd_in (cd_t5 (List.mem_of_getElem? (i := 46) (by decide +kernel))) rfl
theorem tw_1007 : (Jvm.Cond.instanceMethod ({ cls := "CaptionDeskModel", name := "state", desc := "(II)I" } : Jvm.MethodName)) ∈ cd_Ts := cd_in (cd_t5 (List.mem_of_getElem? (i := 47) (by decide +kernel))) rfl
theorem tw_1008 : (Jvm.Cond.selects "CaptionDeskModel" ({ cls := "CaptionDeskModel", name := "state", desc := "(II)I" } : Jvm.MethodName) ({ cls := "CaptionDeskModel", name := "state", desc := "(II)I" } : Jvm.MethodName)) ∈ cd_Ts := cd_in (cd_t5 (List.mem_of_getElem? (i := 48) (by decide +kernel))) rfl
set_option maxRecDepth 100000 in
theorem tw_1009 : (Jvm.Cond.code ({ cls := "CaptionDeskModel", name := "state", desc := "(II)I" } : Jvm.MethodName) prog_11_method_21_code (3 : Nat) (Option.some Jvm.ClassFile.FieldType.int)) ∈ cd_Ts := cd_in (cd_t5 (List.mem_of_getElem? (i := 49) rfl)) rfl
theorem tw_1010 : (Jvm.Cond.methodLink "CaptionDeskLaw" (86 : Nat) ({ cls := "CaptionDeskModel", name := "channel", desc := "(I)I" } : Jvm.MethodName)) ∈ cd_Ts := cd_in (cd_t5 (List.mem_of_getElem? (i := 50) (by decide +kernel))) rfl
theorem tw_1011 : (Jvm.Cond.instanceMethod ({ cls := "CaptionDeskModel", name := "channel", desc := "(I)I" } : Jvm.MethodName)) ∈ cd_Ts := cd_in (cd_t5 (List.mem_of_getElem? (i := 51) (by decide +kernel))) rfl
theorem tw_1012 : (Jvm.Cond.selects "CaptionDeskModel" ({ cls := "CaptionDeskModel", name := "channel", desc := "(I)I" } : Jvm.MethodName) ({ cls := "CaptionDeskModel", name := "channel", desc := "(I)I" } : Jvm.MethodName)) ∈ cd_Ts := cd_in (cd_t5 (List.mem_of_getElem? (i := 52) (by decide +kernel))) rfl
set_option maxRecDepth 100000 in
theorem tw_1013 : (Jvm.Cond.code ({ cls := "CaptionDeskModel", name := "channel", desc := "(I)I" } : Jvm.MethodName) prog_11_method_22_code (2 : Nat) (Option.some Jvm.ClassFile.FieldType.int)) ∈ cd_Ts := cd_in (cd_t5 (List.mem_of_getElem? (i := 53) rfl)) rfl
theorem tw_1014 : (Jvm.Cond.methodLink "CaptionDeskLaw" (90 : Nat) ({ cls := "CaptionDeskModel", name := "guarded", desc := "(I)I" } : Jvm.MethodName)) ∈ cd_Ts := cd_in (cd_t5 (List.mem_of_getElem? (i := 54) (by decide +kernel))) rfl
theorem tw_1015 : (Jvm.Cond.instanceMethod ({ cls := "CaptionDeskModel", name := "guarded", desc := "(I)I" } : Jvm.MethodName)) ∈ cd_Ts := cd_in (cd_t5 (List.mem_of_getElem? (i := 55) (by decide +kernel))) rfl
theorem tw_1016 : (Jvm.Cond.selects "CaptionDeskModel" ({ cls := "CaptionDeskModel", name := "guarded", desc := "(I)I" } : Jvm.MethodName) ({ cls := "CaptionDeskModel", name := "guarded", desc := "(I)I" } : Jvm.MethodName)) ∈ cd_Ts := cd_in (cd_t5 (List.mem_of_getElem? (i := 56) (by decide +kernel))) rfl
set_option maxRecDepth 100000 in
theorem tw_1017 : (Jvm.Cond.code ({ cls := "CaptionDeskModel", name := "guarded", desc := "(I)I" } : Jvm.MethodName) prog_11_method_26_code (2 : Nat) (Option.some Jvm.ClassFile.FieldType.int)) ∈ cd_Ts := cd_in (cd_t5 (List.mem_of_getElem? (i := 57) rfl)) rfl
theorem tw_1018 : (Jvm.Cond.methodLink "CaptionDeskModel" (187 : Nat) ({ cls := "CaptionDeskModel", name := "guard", desc := "(I)I" } : Jvm.MethodName)) ∈ cd_Ts := cd_in (cd_t5 (List.mem_of_getElem? (i := 58) (by decide +kernel))) rfl
theorem tw_1019 : (Jvm.Cond.static ({ cls := "CaptionDeskModel", name := "guard", desc := "(I)I" } : Jvm.MethodName)) ∈ cd_Ts := cd_in (cd_t5 (List.mem_of_getElem? (i := 59) (by decide +kernel))) rfl
set_option maxRecDepth 100000 in
theorem tw_1020 : (Jvm.Cond.code ({ cls := "CaptionDeskModel", name := "guard", desc := "(I)I" } : Jvm.MethodName) prog_11_method_25_code (7 : Nat) (Option.some Jvm.ClassFile.FieldType.int)) ∈ cd_Ts := cd_in (cd_t5 (List.mem_of_getElem? (i := 60) rfl)) rfl
theorem tw_1021 : (Jvm.Cond.methodLink "CaptionDeskModel" (180 : Nat) ({ cls := "CaptionDeskModel", name := "bit", desc := "(II)I" } : Jvm.MethodName)) ∈ cd_Ts := cd_in (cd_t5 (List.mem_of_getElem? (i := 61) (by decide +kernel))) rfl
theorem tw_1022 : (Jvm.Cond.static ({ cls := "CaptionDeskModel", name := "bit", desc := "(II)I" } : Jvm.MethodName)) ∈ cd_Ts := cd_in (cd_t5 (List.mem_of_getElem? (i := 62) (by decide +kernel))) rfl
set_option maxRecDepth 100000 in
theorem tw_1023 : (Jvm.Cond.code ({ cls := "CaptionDeskModel", name := "bit", desc := "(II)I" } : Jvm.MethodName) prog_11_method_23_code (2 : Nat) (Option.some Jvm.ClassFile.FieldType.int)) ∈ cd_Ts := cd_in (cd_t5 (List.mem_of_getElem? (i := 63) rfl)) rfl
theorem tw_1024 : (Jvm.Cond.methodLink "CaptionDeskModel" (184 : Nat) ({ cls := "CaptionDeskModel", name := "valueOf", desc := "(I)I" } : Jvm.MethodName)) ∈ cd_Ts := cd_in (cd_t5 (List.mem_of_getElem? (i := 64) (by decide +kernel))) rfl
theorem tw_1025 : (Jvm.Cond.static ({ cls := "CaptionDeskModel", name := "valueOf", desc := "(I)I" } : Jvm.MethodName)) ∈ cd_Ts := cd_in (cd_t5 (List.mem_of_getElem? (i := 65) (by decide +kernel))) rfl
set_option maxRecDepth 100000 in
theorem tw_1026 : (Jvm.Cond.code ({ cls := "CaptionDeskModel", name := "valueOf", desc := "(I)I" } : Jvm.MethodName) prog_11_method_24_code (1 : Nat) (Option.some Jvm.ClassFile.FieldType.int)) ∈ cd_Ts := cd_in (cd_t5 (List.mem_of_getElem? (i := 66) rfl)) rfl
theorem tw_1027 : (Jvm.Cond.methodLink "CaptionDeskLaw" (93 : Nat) ({ cls := "CaptionDeskModel", name := "feed", desc := "(IIIII)I" } : Jvm.MethodName)) ∈ cd_Ts := cd_in (cd_t5 (List.mem_of_getElem? (i := 67) (by decide +kernel))) rfl
theorem tw_1028 : (Jvm.Cond.instanceMethod ({ cls := "CaptionDeskModel", name := "feed", desc := "(IIIII)I" } : Jvm.MethodName)) ∈ cd_Ts := cd_in (cd_t5 (List.mem_of_getElem? (i := 68) (by decide +kernel))) rfl
theorem tw_1029 : (Jvm.Cond.selects "CaptionDeskModel" ({ cls := "CaptionDeskModel", name := "feed", desc := "(IIIII)I" } : Jvm.MethodName) ({ cls := "CaptionDeskModel", name := "feed", desc := "(IIIII)I" } : Jvm.MethodName)) ∈ cd_Ts := cd_in (cd_t5 (List.mem_of_getElem? (i := 69) (by decide +kernel))) rfl
set_option maxRecDepth 100000 in
theorem tw_1030 : (Jvm.Cond.code ({ cls := "CaptionDeskModel", name := "feed", desc := "(IIIII)I" } : Jvm.MethodName) prog_11_method_27_code (8 : Nat) (Option.some Jvm.ClassFile.FieldType.int)) ∈ cd_Ts := cd_in (cd_t5 (List.mem_of_getElem? (i := 70) rfl)) rfl
theorem tw_1031 : (Jvm.Cond.methodLink "CaptionDeskLaw" (97 : Nat) ({ cls := "CaptionDeskModel", name := "packet", desc := "()I" } : Jvm.MethodName)) ∈ cd_Ts := cd_in (cd_t5 (List.mem_of_getElem? (i := 71) (by decide +kernel))) rfl
theorem tw_1032 : (Jvm.Cond.instanceMethod ({ cls := "CaptionDeskModel", name := "packet", desc := "()I" } : Jvm.MethodName)) ∈ cd_Ts := cd_in (cd_t5 (List.mem_of_getElem? (i := 72) (by decide +kernel))) rfl
theorem tw_1033 : (Jvm.Cond.selects "CaptionDeskModel" ({ cls := "CaptionDeskModel", name := "packet", desc := "()I" } : Jvm.MethodName) ({ cls := "CaptionDeskModel", name := "packet", desc := "()I" } : Jvm.MethodName)) ∈ cd_Ts := cd_in (cd_t5 (List.mem_of_getElem? (i := 73) (by decide +kernel))) rfl
set_option maxRecDepth 100000 in
theorem tw_1034 : (Jvm.Cond.code ({ cls := "CaptionDeskModel", name := "packet", desc := "()I" } : Jvm.MethodName) prog_11_method_39_code (6 : Nat) (Option.some Jvm.ClassFile.FieldType.int)) ∈ cd_Ts := cd_in (cd_t5 (List.mem_of_getElem? (i := 74) rfl)) rfl
theorem tw_1035 : (Jvm.Cond.methodLink "CaptionDeskModel" (215 : Nat) ({ cls := "CaptionDeskModel", name := "value", desc := "(I)I" } : Jvm.MethodName)) ∈ cd_Ts := cd_in (cd_t5 (List.mem_of_getElem? (i := 75) (by decide +kernel))) rfl
theorem tl_1036 : (Jvm.Cond.privateMethod ({ cls := "CaptionDeskModel", name := "value", desc := "(I)I" } : Jvm.MethodName)) ∈ lw_tbl := cd_t5 (List.mem_of_getElem? (i := 76) (by decide +kernel))
theorem tw_1037 : (Jvm.Cond.instanceMethod ({ cls := "CaptionDeskModel", name := "value", desc := "(I)I" } : Jvm.MethodName)) ∈ cd_Ts := cd_in (cd_t5 (List.mem_of_getElem? (i := 77) (by decide +kernel))) rfl
set_option maxRecDepth 100000 in
theorem tw_1038 : (Jvm.Cond.code ({ cls := "CaptionDeskModel", name := "value", desc := "(I)I" } : Jvm.MethodName) prog_11_method_28_code (3 : Nat) (Option.some Jvm.ClassFile.FieldType.int)) ∈ cd_Ts := cd_in (cd_t5 (List.mem_of_getElem? (i := 78) rfl)) rfl
theorem tw_1039 : (Jvm.Cond.methodLink "CaptionDeskModel" (232 : Nat) ({ cls := "CaptionDeskModel", name := "mag", desc := "(I)I" } : Jvm.MethodName)) ∈ cd_Ts := cd_in (cd_t5 (List.mem_of_getElem? (i := 79) (by decide +kernel))) rfl
theorem tw_1040 : (Jvm.Cond.static ({ cls := "CaptionDeskModel", name := "mag", desc := "(I)I" } : Jvm.MethodName)) ∈ cd_Ts := cd_in (cd_t5 (List.mem_of_getElem? (i := 80) (by decide +kernel))) rfl
set_option maxRecDepth 100000 in
theorem tw_1041 : (Jvm.Cond.code ({ cls := "CaptionDeskModel", name := "mag", desc := "(I)I" } : Jvm.MethodName) prog_11_method_29_code (1 : Nat) (Option.some Jvm.ClassFile.FieldType.int)) ∈ cd_Ts := cd_in (cd_t5 (List.mem_of_getElem? (i := 81) rfl)) rfl
theorem tw_1042 : (Jvm.Cond.methodLink "CaptionDeskModel" (235 : Nat) ({ cls := "CaptionDeskModel", name := "header", desc := "(I)V" } : Jvm.MethodName)) ∈ cd_Ts := cd_in (cd_t5 (List.mem_of_getElem? (i := 82) (by decide +kernel))) rfl
theorem tl_1043 : (Jvm.Cond.privateMethod ({ cls := "CaptionDeskModel", name := "header", desc := "(I)V" } : Jvm.MethodName)) ∈ lw_tbl := cd_t5 (List.mem_of_getElem? (i := 83) (by decide +kernel))
theorem tw_1044 : (Jvm.Cond.instanceMethod ({ cls := "CaptionDeskModel", name := "header", desc := "(I)V" } : Jvm.MethodName)) ∈ cd_Ts := cd_in (cd_t5 (List.mem_of_getElem? (i := 84) (by decide +kernel))) rfl
set_option maxRecDepth 100000 in
theorem tw_1045 : (Jvm.Cond.code ({ cls := "CaptionDeskModel", name := "header", desc := "(I)V" } : Jvm.MethodName) prog_11_method_37_code (8 : Nat) (Option.none : Option Jvm.ClassFile.FieldType)) ∈ cd_Ts := cd_in (cd_t5 (List.mem_of_getElem? (i := 85) rfl)) rfl
theorem tw_1046 : (Jvm.Cond.methodLink "CaptionDeskModel" (218 : Nat) ({ cls := "CaptionDeskModel", name := "close", desc := "(I)V" } : Jvm.MethodName)) ∈ cd_Ts := cd_in (cd_t5 (List.mem_of_getElem? (i := 86) (by decide +kernel))) rfl
theorem tl_1047 : (Jvm.Cond.privateMethod ({ cls := "CaptionDeskModel", name := "close", desc := "(I)V" } : Jvm.MethodName)) ∈ lw_tbl := cd_t5 (List.mem_of_getElem? (i := 87) (by decide +kernel))
theorem tw_1048 : (Jvm.Cond.instanceMethod ({ cls := "CaptionDeskModel", name := "close", desc := "(I)V" } : Jvm.MethodName)) ∈ cd_Ts := cd_in (cd_t5 (List.mem_of_getElem? (i := 88) (by decide +kernel))) rfl
set_option maxRecDepth 100000 in
theorem tw_1049 : (Jvm.Cond.code ({ cls := "CaptionDeskModel", name := "close", desc := "(I)V" } : Jvm.MethodName) prog_11_method_31_code (4 : Nat) (Option.none : Option Jvm.ClassFile.FieldType)) ∈ cd_Ts := cd_in (cd_t5 (List.mem_of_getElem? (i := 89) rfl)) rfl
theorem tw_1050 : (Jvm.Cond.methodLink "CaptionDeskModel" (221 : Nat) ({ cls := "CaptionDeskModel", name := "subcodeOf", desc := "(IIII)I" } : Jvm.MethodName)) ∈ cd_Ts := cd_in (cd_t5 (List.mem_of_getElem? (i := 90) (by decide +kernel))) rfl
theorem tw_1051 : (Jvm.Cond.static ({ cls := "CaptionDeskModel", name := "subcodeOf", desc := "(IIII)I" } : Jvm.MethodName)) ∈ cd_Ts := cd_in (cd_t5 (List.mem_of_getElem? (i := 91) (by decide +kernel))) rfl
set_option maxRecDepth 100000 in
theorem tw_1052 : (Jvm.Cond.code ({ cls := "CaptionDeskModel", name := "subcodeOf", desc := "(IIII)I" } : Jvm.MethodName) prog_11_method_36_code (4 : Nat) (Option.some Jvm.ClassFile.FieldType.int)) ∈ cd_Ts := cd_in (cd_t5 (List.mem_of_getElem? (i := 92) rfl)) rfl
theorem tw_1053 : (Jvm.Cond.methodLink "CaptionDeskModel" (224 : Nat) ({ cls := "CaptionDeskModel", name := "pageFor", desc := "(III)I" } : Jvm.MethodName)) ∈ cd_Ts := cd_in (cd_t5 (List.mem_of_getElem? (i := 93) (by decide +kernel))) rfl
theorem tl_1054 : (Jvm.Cond.privateMethod ({ cls := "CaptionDeskModel", name := "pageFor", desc := "(III)I" } : Jvm.MethodName)) ∈ lw_tbl := cd_t5 (List.mem_of_getElem? (i := 94) (by decide +kernel))
theorem tw_1055 : (Jvm.Cond.instanceMethod ({ cls := "CaptionDeskModel", name := "pageFor", desc := "(III)I" } : Jvm.MethodName)) ∈ cd_Ts := cd_in (cd_t5 (List.mem_of_getElem? (i := 95) (by decide +kernel))) rfl
set_option maxRecDepth 100000 in
theorem tw_1056 : (Jvm.Cond.code ({ cls := "CaptionDeskModel", name := "pageFor", desc := "(III)I" } : Jvm.MethodName) prog_11_method_35_code (6 : Nat) (Option.some Jvm.ClassFile.FieldType.int)) ∈ cd_Ts := cd_in (cd_t5 (List.mem_of_getElem? (i := 96) rfl)) rfl
theorem tw_1057 : (Jvm.Cond.methodLink "CaptionDeskModel" (209 : Nat) ({ cls := "CaptionDeskModel", name := "takeOut", desc := "(I)V" } : Jvm.MethodName)) ∈ cd_Ts := cd_in (cd_t5 (List.mem_of_getElem? (i := 97) (by decide +kernel))) rfl
theorem tl_1058 : (Jvm.Cond.privateMethod ({ cls := "CaptionDeskModel", name := "takeOut", desc := "(I)V" } : Jvm.MethodName)) ∈ lw_tbl := cd_t5 (List.mem_of_getElem? (i := 98) (by decide +kernel))
theorem tw_1059 : (Jvm.Cond.instanceMethod ({ cls := "CaptionDeskModel", name := "takeOut", desc := "(I)V" } : Jvm.MethodName)) ∈ cd_Ts := cd_in (cd_t5 (List.mem_of_getElem? (i := 99) (by decide +kernel))) rfl
set_option maxRecDepth 100000 in
theorem tw_1060 : (Jvm.Cond.code ({ cls := "CaptionDeskModel", name := "takeOut", desc := "(I)V" } : Jvm.MethodName) prog_11_method_34_code (3 : Nat) (Option.none : Option Jvm.ClassFile.FieldType)) ∈ cd_Ts := cd_in (cd_t5 (List.mem_of_getElem? (i := 100) rfl)) rfl
theorem tw_1061 : (Jvm.Cond.methodLink "CaptionDeskModel" (212 : Nat) ({ cls := "CaptionDeskModel", name := "emptyRows", desc := "(II)V" } : Jvm.MethodName)) ∈ cd_Ts := cd_in (cd_t5 (List.mem_of_getElem? (i := 101) (by decide +kernel))) rfl
theorem tl_1062 : (Jvm.Cond.privateMethod ({ cls := "CaptionDeskModel", name := "emptyRows", desc := "(II)V" } : Jvm.MethodName)) ∈ lw_tbl := cd_t5 (List.mem_of_getElem? (i := 102) (by decide +kernel))
theorem tw_1063 : (Jvm.Cond.instanceMethod ({ cls := "CaptionDeskModel", name := "emptyRows", desc := "(II)V" } : Jvm.MethodName)) ∈ cd_Ts := cd_in (cd_t5 (List.mem_of_getElem? (i := 103) (by decide +kernel))) rfl
set_option maxRecDepth 100000 in
theorem tw_1064 : (Jvm.Cond.code ({ cls := "CaptionDeskModel", name := "emptyRows", desc := "(II)V" } : Jvm.MethodName) prog_11_method_32_code (4 : Nat) (Option.none : Option Jvm.ClassFile.FieldType)) ∈ cd_Ts := cd_in (cd_t5 (List.mem_of_getElem? (i := 104) rfl)) rfl
theorem tw_1065 : (Jvm.Cond.methodLink "CaptionDeskModel" (228 : Nat) ({ cls := "CaptionDeskModel", name := "text", desc := "(IIIII)V" } : Jvm.MethodName)) ∈ cd_Ts := cd_in (cd_t5 (List.mem_of_getElem? (i := 105) (by decide +kernel))) rfl
theorem tl_1066 : (Jvm.Cond.privateMethod ({ cls := "CaptionDeskModel", name := "text", desc := "(IIIII)V" } : Jvm.MethodName)) ∈ lw_tbl := cd_t5 (List.mem_of_getElem? (i := 106) (by decide +kernel))
theorem tw_1067 : (Jvm.Cond.instanceMethod ({ cls := "CaptionDeskModel", name := "text", desc := "(IIIII)V" } : Jvm.MethodName)) ∈ cd_Ts := cd_in (cd_t5 (List.mem_of_getElem? (i := 107) (by decide +kernel))) rfl
set_option maxRecDepth 100000 in
theorem tw_1068 : (Jvm.Cond.code ({ cls := "CaptionDeskModel", name := "text", desc := "(IIIII)V" } : Jvm.MethodName) prog_11_method_30_code (10 : Nat) (Option.none : Option Jvm.ClassFile.FieldType)) ∈ cd_Ts := cd_in (cd_t5 (List.mem_of_getElem? (i := 108) rfl)) rfl
theorem tw_1069 : (Jvm.Cond.methodLink "CaptionDeskModel" (238 : Nat) ({ cls := "CaptionDeskModel", name := "linkPacket", desc := "(II)V" } : Jvm.MethodName)) ∈ cd_Ts := cd_in (cd_t5 (List.mem_of_getElem? (i := 109) (by decide +kernel))) rfl
theorem tl_1070 : (Jvm.Cond.privateMethod ({ cls := "CaptionDeskModel", name := "linkPacket", desc := "(II)V" } : Jvm.MethodName)) ∈ lw_tbl := cd_t5 (List.mem_of_getElem? (i := 110) (by decide +kernel))
theorem tw_1071 : (Jvm.Cond.instanceMethod ({ cls := "CaptionDeskModel", name := "linkPacket", desc := "(II)V" } : Jvm.MethodName)) ∈ cd_Ts := cd_in (cd_t5 (List.mem_of_getElem? (i := 111) (by decide +kernel))) rfl
set_option maxRecDepth 100000 in
theorem tw_1072 : (Jvm.Cond.code ({ cls := "CaptionDeskModel", name := "linkPacket", desc := "(II)V" } : Jvm.MethodName) prog_11_method_38_code (9 : Nat) (Option.none : Option Jvm.ClassFile.FieldType)) ∈ cd_Ts := cd_in (cd_t5 (List.mem_of_getElem? (i := 112) rfl)) rfl
theorem tw_1073 : (Jvm.Cond.methodLink "CaptionDeskLaw" (100 : Nat) ({ cls := "CaptionDeskModel", name := "nothing", desc := "(I)I" } : Jvm.MethodName)) ∈ cd_Ts := cd_in (cd_t5 (List.mem_of_getElem? (i := 113) (by decide +kernel))) rfl
theorem tw_1074 : (Jvm.Cond.instanceMethod ({ cls := "CaptionDeskModel", name := "nothing", desc := "(I)I" } : Jvm.MethodName)) ∈ cd_Ts := cd_in (cd_t5 (List.mem_of_getElem? (i := 114) (by decide +kernel))) rfl
theorem tw_1075 : (Jvm.Cond.selects "CaptionDeskModel" ({ cls := "CaptionDeskModel", name := "nothing", desc := "(I)I" } : Jvm.MethodName) ({ cls := "CaptionDeskModel", name := "nothing", desc := "(I)I" } : Jvm.MethodName)) ∈ cd_Ts := cd_in (cd_t5 (List.mem_of_getElem? (i := 115) (by decide +kernel))) rfl
set_option maxRecDepth 100000 in
theorem tw_1076 : (Jvm.Cond.code ({ cls := "CaptionDeskModel", name := "nothing", desc := "(I)I" } : Jvm.MethodName) prog_11_method_40_code (2 : Nat) (Option.some Jvm.ClassFile.FieldType.int)) ∈ cd_Ts := cd_in (cd_t5 (List.mem_of_getElem? (i := 116) rfl)) rfl
theorem tw_1077 : (Jvm.Cond.methodLink "CaptionDeskLaw" (104 : Nat) ({ cls := "CaptionDeskModel", name := "pages", desc := "()I" } : Jvm.MethodName)) ∈ cd_Ts := cd_in (cd_t5 (List.mem_of_getElem? (i := 117) (by decide +kernel))) rfl
theorem tw_1078 : (Jvm.Cond.instanceMethod ({ cls := "CaptionDeskModel", name := "pages", desc := "()I" } : Jvm.MethodName)) ∈ cd_Ts := cd_in (cd_t5 (List.mem_of_getElem? (i := 118) (by decide +kernel))) rfl
theorem tw_1079 : (Jvm.Cond.selects "CaptionDeskModel" ({ cls := "CaptionDeskModel", name := "pages", desc := "()I" } : Jvm.MethodName) ({ cls := "CaptionDeskModel", name := "pages", desc := "()I" } : Jvm.MethodName)) ∈ cd_Ts := cd_in (cd_t5 (List.mem_of_getElem? (i := 119) (by decide +kernel))) rfl
set_option maxRecDepth 100000 in
theorem tw_1080 : (Jvm.Cond.code ({ cls := "CaptionDeskModel", name := "pages", desc := "()I" } : Jvm.MethodName) prog_11_method_41_code (1 : Nat) (Option.some Jvm.ClassFile.FieldType.int)) ∈ cd_Ts := cd_in (cd_t5 (List.mem_of_getElem? (i := 120) rfl)) rfl
theorem tw_1081 : (Jvm.Cond.methodLink "CaptionDeskLaw" (108 : Nat) ({ cls := "CaptionDeskModel", name := "find", desc := "(III)I" } : Jvm.MethodName)) ∈ cd_Ts := cd_in (cd_t5 (List.mem_of_getElem? (i := 121) (by decide +kernel))) rfl
theorem tw_1082 : (Jvm.Cond.instanceMethod ({ cls := "CaptionDeskModel", name := "find", desc := "(III)I" } : Jvm.MethodName)) ∈ cd_Ts := cd_in (cd_t5 (List.mem_of_getElem? (i := 122) (by decide +kernel))) rfl
theorem tw_1083 : (Jvm.Cond.selects "CaptionDeskModel" ({ cls := "CaptionDeskModel", name := "find", desc := "(III)I" } : Jvm.MethodName) ({ cls := "CaptionDeskModel", name := "find", desc := "(III)I" } : Jvm.MethodName)) ∈ cd_Ts := cd_in (cd_t5 (List.mem_of_getElem? (i := 123) (by decide +kernel))) rfl
set_option maxRecDepth 100000 in
theorem tw_1084 : (Jvm.Cond.code ({ cls := "CaptionDeskModel", name := "find", desc := "(III)I" } : Jvm.MethodName) prog_11_method_42_code (7 : Nat) (Option.some Jvm.ClassFile.FieldType.int)) ∈ cd_Ts := cd_in (cd_t5 (List.mem_of_getElem? (i := 124) rfl)) rfl
theorem tw_1085 : (Jvm.Cond.methodLink "CaptionDeskLaw" (111 : Nat) ({ cls := "CaptionDeskModel", name := "page", desc := "(II)I" } : Jvm.MethodName)) ∈ cd_Ts := cd_in (cd_t5 (List.mem_of_getElem? (i := 125) (by decide +kernel))) rfl
theorem tw_1086 : (Jvm.Cond.instanceMethod ({ cls := "CaptionDeskModel", name := "page", desc := "(II)I" } : Jvm.MethodName)) ∈ cd_Ts := cd_in (cd_t5 (List.mem_of_getElem? (i := 126) (by decide +kernel))) rfl
theorem tw_1087 : (Jvm.Cond.selects "CaptionDeskModel" ({ cls := "CaptionDeskModel", name := "page", desc := "(II)I" } : Jvm.MethodName) ({ cls := "CaptionDeskModel", name := "page", desc := "(II)I" } : Jvm.MethodName)) ∈ cd_Ts := cd_in (cd_t5 (List.mem_of_getElem? (i := 127) (by decide +kernel))) rfl
set_option maxRecDepth 100000 in
theorem tw_1088 : (Jvm.Cond.code ({ cls := "CaptionDeskModel", name := "page", desc := "(II)I" } : Jvm.MethodName) prog_11_method_43_code (4 : Nat) (Option.some Jvm.ClassFile.FieldType.int)) ∈ cd_Ts := cd_in (cd_t5 (List.mem_of_getElem? (i := 128) rfl)) rfl
theorem tw_1089 : (Jvm.Cond.methodLink "CaptionDeskLaw" (114 : Nat) ({ cls := "CaptionDeskModel", name := "sign", desc := "(III)I" } : Jvm.MethodName)) ∈ cd_Ts := cd_in (cd_t5 (List.mem_of_getElem? (i := 129) (by decide +kernel))) rfl
theorem tw_1090 : (Jvm.Cond.instanceMethod ({ cls := "CaptionDeskModel", name := "sign", desc := "(III)I" } : Jvm.MethodName)) ∈ cd_Ts := cd_in (cd_t5 (List.mem_of_getElem? (i := 130) (by decide +kernel))) rfl
theorem tw_1091 : (Jvm.Cond.selects "CaptionDeskModel" ({ cls := "CaptionDeskModel", name := "sign", desc := "(III)I" } : Jvm.MethodName) ({ cls := "CaptionDeskModel", name := "sign", desc := "(III)I" } : Jvm.MethodName)) ∈ cd_Ts := cd_in (cd_t5 (List.mem_of_getElem? (i := 131) (by decide +kernel))) rfl
set_option maxRecDepth 100000 in
theorem tw_1092 : (Jvm.Cond.code ({ cls := "CaptionDeskModel", name := "sign", desc := "(III)I" } : Jvm.MethodName) prog_11_method_44_code (5 : Nat) (Option.some Jvm.ClassFile.FieldType.int)) ∈ cd_Ts := cd_in (cd_t5 (List.mem_of_getElem? (i := 132) rfl)) rfl
theorem tw_1093 : (Jvm.Cond.methodLink "CaptionDeskLaw" (117 : Nat) ({ cls := "CaptionDeskModel", name := "link", desc := "(III)I" } : Jvm.MethodName)) ∈ cd_Ts := cd_in (cd_t5 (List.mem_of_getElem? (i := 133) (by decide +kernel))) rfl
theorem tw_1094 : (Jvm.Cond.instanceMethod ({ cls := "CaptionDeskModel", name := "link", desc := "(III)I" } : Jvm.MethodName)) ∈ cd_Ts := cd_in (cd_t5 (List.mem_of_getElem? (i := 134) (by decide +kernel))) rfl
theorem tw_1095 : (Jvm.Cond.selects "CaptionDeskModel" ({ cls := "CaptionDeskModel", name := "link", desc := "(III)I" } : Jvm.MethodName) ({ cls := "CaptionDeskModel", name := "link", desc := "(III)I" } : Jvm.MethodName)) ∈ cd_Ts := cd_in (cd_t5 (List.mem_of_getElem? (i := 135) (by decide +kernel))) rfl
set_option maxRecDepth 100000 in
theorem tw_1096 : (Jvm.Cond.code ({ cls := "CaptionDeskModel", name := "link", desc := "(III)I" } : Jvm.MethodName) prog_11_method_45_code (5 : Nat) (Option.some Jvm.ClassFile.FieldType.int)) ∈ cd_Ts := cd_in (cd_t5 (List.mem_of_getElem? (i := 136) rfl)) rfl
theorem tw_1097 : (Jvm.Cond.methodLink "CaptionDeskLaw" (120 : Nat) ({ cls := "CaptionDeskModel", name := "open", desc := "(I)I" } : Jvm.MethodName)) ∈ cd_Ts := cd_in (cd_t5 (List.mem_of_getElem? (i := 137) (by decide +kernel))) rfl
theorem tw_1098 : (Jvm.Cond.instanceMethod ({ cls := "CaptionDeskModel", name := "open", desc := "(I)I" } : Jvm.MethodName)) ∈ cd_Ts := cd_in (cd_t5 (List.mem_of_getElem? (i := 138) (by decide +kernel))) rfl
theorem tw_1099 : (Jvm.Cond.selects "CaptionDeskModel" ({ cls := "CaptionDeskModel", name := "open", desc := "(I)I" } : Jvm.MethodName) ({ cls := "CaptionDeskModel", name := "open", desc := "(I)I" } : Jvm.MethodName)) ∈ cd_Ts := cd_in (cd_t5 (List.mem_of_getElem? (i := 139) (by decide +kernel))) rfl
set_option maxRecDepth 100000 in
theorem tw_1100 : (Jvm.Cond.code ({ cls := "CaptionDeskModel", name := "open", desc := "(I)I" } : Jvm.MethodName) prog_11_method_46_code (2 : Nat) (Option.some Jvm.ClassFile.FieldType.int)) ∈ cd_Ts := cd_in (cd_t5 (List.mem_of_getElem? (i := 140) rfl)) rfl
theorem tw_1101 : (Jvm.Cond.methodLink "CaptionDeskModel" (241 : Nat) ({ cls := "CaptionDeskModel", name := "placeOf", desc := "(I)I" } : Jvm.MethodName)) ∈ cd_Ts := cd_in (cd_t5 (List.mem_of_getElem? (i := 141) (by decide +kernel))) rfl
theorem tl_1102 : (Jvm.Cond.privateMethod ({ cls := "CaptionDeskModel", name := "placeOf", desc := "(I)I" } : Jvm.MethodName)) ∈ lw_tbl := cd_t5 (List.mem_of_getElem? (i := 142) (by decide +kernel))
theorem tw_1103 : (Jvm.Cond.instanceMethod ({ cls := "CaptionDeskModel", name := "placeOf", desc := "(I)I" } : Jvm.MethodName)) ∈ cd_Ts := cd_in (cd_t5 (List.mem_of_getElem? (i := 143) (by decide +kernel))) rfl
set_option maxRecDepth 100000 in
theorem tw_1104 : (Jvm.Cond.code ({ cls := "CaptionDeskModel", name := "placeOf", desc := "(I)I" } : Jvm.MethodName) prog_11_method_33_code (3 : Nat) (Option.some Jvm.ClassFile.FieldType.int)) ∈ cd_Ts := cd_in (cd_t5 (List.mem_of_getElem? (i := 144) rfl)) rfl
theorem tw_1105 : (Jvm.Cond.methodLink "CaptionDeskLaw" (126 : Nat) ({ cls := "CaptionDeskModel", name := "watch", desc := "(II)I" } : Jvm.MethodName)) ∈ cd_Ts := cd_in (cd_t5 (List.mem_of_getElem? (i := 145) (by decide +kernel))) rfl
theorem tw_1106 : (Jvm.Cond.instanceMethod ({ cls := "CaptionDeskModel", name := "watch", desc := "(II)I" } : Jvm.MethodName)) ∈ cd_Ts := cd_in (cd_t5 (List.mem_of_getElem? (i := 146) (by decide +kernel))) rfl
theorem tw_1107 : (Jvm.Cond.selects "CaptionDeskModel" ({ cls := "CaptionDeskModel", name := "watch", desc := "(II)I" } : Jvm.MethodName) ({ cls := "CaptionDeskModel", name := "watch", desc := "(II)I" } : Jvm.MethodName)) ∈ cd_Ts := cd_in (cd_t5 (List.mem_of_getElem? (i := 147) (by decide +kernel))) rfl
set_option maxRecDepth 100000 in
theorem tw_1108 : (Jvm.Cond.code ({ cls := "CaptionDeskModel", name := "watch", desc := "(II)I" } : Jvm.MethodName) prog_11_method_47_code (3 : Nat) (Option.some Jvm.ClassFile.FieldType.int)) ∈ cd_Ts := cd_in (cd_t5 (List.mem_of_getElem? (i := 148) rfl)) rfl
theorem tw_1109 : (Jvm.Cond.methodLink "CaptionDeskLaw" (129 : Nat) ({ cls := "CaptionDeskModel", name := "tick", desc := "(I)I" } : Jvm.MethodName)) ∈ cd_Ts := cd_in (cd_t5 (List.mem_of_getElem? (i := 149) (by decide +kernel))) rfl
theorem tw_1110 : (Jvm.Cond.instanceMethod ({ cls := "CaptionDeskModel", name := "tick", desc := "(I)I" } : Jvm.MethodName)) ∈ cd_Ts := cd_in (cd_t5 (List.mem_of_getElem? (i := 150) (by decide +kernel))) rfl
theorem tw_1111 : (Jvm.Cond.selects "CaptionDeskModel" ({ cls := "CaptionDeskModel", name := "tick", desc := "(I)I" } : Jvm.MethodName) ({ cls := "CaptionDeskModel", name := "tick", desc := "(I)I" } : Jvm.MethodName)) ∈ cd_Ts := cd_in (cd_t5 (List.mem_of_getElem? (i := 151) (by decide +kernel))) rfl
set_option maxRecDepth 100000 in
theorem tw_1112 : (Jvm.Cond.code ({ cls := "CaptionDeskModel", name := "tick", desc := "(I)I" } : Jvm.MethodName) prog_11_method_51_code (4 : Nat) (Option.some Jvm.ClassFile.FieldType.int)) ∈ cd_Ts := cd_in (cd_t5 (List.mem_of_getElem? (i := 152) rfl)) rfl
theorem tw_1113 : (Jvm.Cond.constant "CaptionDeskModel" (250 : Nat) (100000 : Int32)) ∈ cd_Ts := cd_in (cd_t5 (List.mem_of_getElem? (i := 153) (by decide +kernel))) rfl
theorem tw_1114 : (Jvm.Cond.methodLink "CaptionDeskModel" (254 : Nat) ({ cls := "CaptionDeskModel", name := "layLines", desc := "(I)V" } : Jvm.MethodName)) ∈ cd_Ts := cd_in (cd_t5 (List.mem_of_getElem? (i := 154) (by decide +kernel))) rfl
theorem tl_1115 : (Jvm.Cond.privateMethod ({ cls := "CaptionDeskModel", name := "layLines", desc := "(I)V" } : Jvm.MethodName)) ∈ lw_tbl := cd_t5 (List.mem_of_getElem? (i := 155) (by decide +kernel))
theorem tw_1116 : (Jvm.Cond.instanceMethod ({ cls := "CaptionDeskModel", name := "layLines", desc := "(I)V" } : Jvm.MethodName)) ∈ cd_Ts := cd_in (cd_t5 (List.mem_of_getElem? (i := 156) (by decide +kernel))) rfl
set_option maxRecDepth 100000 in
theorem tw_1117 : (Jvm.Cond.code ({ cls := "CaptionDeskModel", name := "layLines", desc := "(I)V" } : Jvm.MethodName) prog_11_method_49_code (9 : Nat) (Option.none : Option Jvm.ClassFile.FieldType)) ∈ cd_Ts := cd_in (cd_t5 (List.mem_of_getElem? (i := 157) rfl)) rfl
theorem tw_1118 : (Jvm.Cond.methodLink "CaptionDeskModel" (247 : Nat) ({ cls := "CaptionDeskModel", name := "letterOf", desc := "(III)I" } : Jvm.MethodName)) ∈ cd_Ts := cd_in (cd_t5 (List.mem_of_getElem? (i := 158) (by decide +kernel))) rfl
theorem tl_1119 : (Jvm.Cond.privateMethod ({ cls := "CaptionDeskModel", name := "letterOf", desc := "(III)I" } : Jvm.MethodName)) ∈ lw_tbl := cd_t5 (List.mem_of_getElem? (i := 159) (by decide +kernel))
theorem tw_1120 : (Jvm.Cond.instanceMethod ({ cls := "CaptionDeskModel", name := "letterOf", desc := "(III)I" } : Jvm.MethodName)) ∈ cd_Ts := cd_in (cd_t5 (List.mem_of_getElem? (i := 160) (by decide +kernel))) rfl
set_option maxRecDepth 100000 in
theorem tw_1121 : (Jvm.Cond.code ({ cls := "CaptionDeskModel", name := "letterOf", desc := "(III)I" } : Jvm.MethodName) prog_11_method_48_code (4 : Nat) (Option.some Jvm.ClassFile.FieldType.int)) ∈ cd_Ts := cd_in (cd_t5 (List.mem_of_getElem? (i := 161) rfl)) rfl
theorem tw_1122 : (Jvm.Cond.methodLink "CaptionDeskModel" (257 : Nat) ({ cls := "CaptionDeskModel", name := "isSame", desc := "(I)Z" } : Jvm.MethodName)) ∈ cd_Ts := cd_in (cd_t5 (List.mem_of_getElem? (i := 162) (by decide +kernel))) rfl
theorem tl_1123 : (Jvm.Cond.privateMethod ({ cls := "CaptionDeskModel", name := "isSame", desc := "(I)Z" } : Jvm.MethodName)) ∈ lw_tbl := cd_t5 (List.mem_of_getElem? (i := 163) (by decide +kernel))
theorem tw_1124 : (Jvm.Cond.instanceMethod ({ cls := "CaptionDeskModel", name := "isSame", desc := "(I)Z" } : Jvm.MethodName)) ∈ cd_Ts := cd_in (cd_t5 (List.mem_of_getElem? (i := 164) (by decide +kernel))) rfl
set_option maxRecDepth 100000 in
theorem tw_1125 : (Jvm.Cond.code ({ cls := "CaptionDeskModel", name := "isSame", desc := "(I)Z" } : Jvm.MethodName) prog_11_method_50_code (4 : Nat) (Option.some Jvm.ClassFile.FieldType.boolean)) ∈ cd_Ts := cd_in (cd_t5 (List.mem_of_getElem? (i := 165) rfl)) rfl
theorem tw_1126 : (Jvm.Cond.methodLink "CaptionDeskLaw" (133 : Nat) ({ cls := "CaptionDeskModel", name := "cues", desc := "()I" } : Jvm.MethodName)) ∈ cd_Ts := cd_in (cd_t5 (List.mem_of_getElem? (i := 166) (by decide +kernel))) rfl
theorem tw_1127 : (Jvm.Cond.instanceMethod ({ cls := "CaptionDeskModel", name := "cues", desc := "()I" } : Jvm.MethodName)) ∈ cd_Ts := cd_in (cd_t5 (List.mem_of_getElem? (i := 167) (by decide +kernel))) rfl
theorem tw_1128 : (Jvm.Cond.selects "CaptionDeskModel" ({ cls := "CaptionDeskModel", name := "cues", desc := "()I" } : Jvm.MethodName) ({ cls := "CaptionDeskModel", name := "cues", desc := "()I" } : Jvm.MethodName)) ∈ cd_Ts := cd_in (cd_t5 (List.mem_of_getElem? (i := 168) (by decide +kernel))) rfl
set_option maxRecDepth 100000 in
theorem tw_1129 : (Jvm.Cond.code ({ cls := "CaptionDeskModel", name := "cues", desc := "()I" } : Jvm.MethodName) prog_11_method_52_code (1 : Nat) (Option.some Jvm.ClassFile.FieldType.int)) ∈ cd_Ts := cd_in (cd_t5 (List.mem_of_getElem? (i := 169) rfl)) rfl
theorem tw_1130 : (Jvm.Cond.methodLink "CaptionDeskLaw" (136 : Nat) ({ cls := "CaptionDeskModel", name := "cue", desc := "(II)I" } : Jvm.MethodName)) ∈ cd_Ts := cd_in (cd_t5 (List.mem_of_getElem? (i := 170) (by decide +kernel))) rfl
theorem tw_1131 : (Jvm.Cond.instanceMethod ({ cls := "CaptionDeskModel", name := "cue", desc := "(II)I" } : Jvm.MethodName)) ∈ cd_Ts := cd_in (cd_t5 (List.mem_of_getElem? (i := 171) (by decide +kernel))) rfl
theorem tw_1132 : (Jvm.Cond.selects "CaptionDeskModel" ({ cls := "CaptionDeskModel", name := "cue", desc := "(II)I" } : Jvm.MethodName) ({ cls := "CaptionDeskModel", name := "cue", desc := "(II)I" } : Jvm.MethodName)) ∈ cd_Ts := cd_in (cd_t5 (List.mem_of_getElem? (i := 172) (by decide +kernel))) rfl
set_option maxRecDepth 100000 in
theorem tw_1133 : (Jvm.Cond.code ({ cls := "CaptionDeskModel", name := "cue", desc := "(II)I" } : Jvm.MethodName) prog_11_method_53_code (3 : Nat) (Option.some Jvm.ClassFile.FieldType.int)) ∈ cd_Ts := cd_in (cd_t5 (List.mem_of_getElem? (i := 173) rfl)) rfl
theorem tw_1134 : (Jvm.Cond.methodLink "CaptionDeskLaw" (139 : Nat) ({ cls := "CaptionDeskModel", name := "line", desc := "(II)I" } : Jvm.MethodName)) ∈ cd_Ts := cd_in (cd_t5 (List.mem_of_getElem? (i := 174) (by decide +kernel))) rfl
theorem tw_1135 : (Jvm.Cond.instanceMethod ({ cls := "CaptionDeskModel", name := "line", desc := "(II)I" } : Jvm.MethodName)) ∈ cd_Ts := cd_in (cd_t5 (List.mem_of_getElem? (i := 175) (by decide +kernel))) rfl
theorem tw_1136 : (Jvm.Cond.selects "CaptionDeskModel" ({ cls := "CaptionDeskModel", name := "line", desc := "(II)I" } : Jvm.MethodName) ({ cls := "CaptionDeskModel", name := "line", desc := "(II)I" } : Jvm.MethodName)) ∈ cd_Ts := cd_in (cd_t5 (List.mem_of_getElem? (i := 176) (by decide +kernel))) rfl
set_option maxRecDepth 100000 in
theorem tw_1137 : (Jvm.Cond.code ({ cls := "CaptionDeskModel", name := "line", desc := "(II)I" } : Jvm.MethodName) prog_11_method_54_code (3 : Nat) (Option.some Jvm.ClassFile.FieldType.int)) ∈ cd_Ts := cd_in (cd_t5 (List.mem_of_getElem? (i := 177) rfl)) rfl
theorem tw_1138 : (Jvm.Cond.arrayClass Jvm.ClassFile.FieldType.long) ∈ cd_Ts := cd_in (cd_t5 (List.mem_of_getElem? (i := 178) (by decide +kernel))) rfl
theorem tl_1139 : (Jvm.Cond.sameMethod "java/lang/Throwable" "java/lang/Throwable" "fillInStackTrace" "(I)Ljava/lang/Throwable;") ∈ lw_tbl := cd_t5 (List.mem_of_getElem? (i := 179) (by decide +kernel))
