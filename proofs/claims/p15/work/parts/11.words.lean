theorem tw_324 : (Jvm.Cond.instanceMethod ({ cls := "CaptionDesk$Channel", name := "putScreen", desc := "()LCaptionDesk$Screen;" } : Jvm.MethodName)) ∈ cd_Ts := cd_in (cd_t2 (List.mem_of_getElem? (i := 84) (by decide +kernel))) rfl
set_option maxRecDepth 100000 in
theorem tw_325 : (Jvm.Cond.code ({ cls := "CaptionDesk$Channel", name := "putScreen", desc := "()LCaptionDesk$Screen;" } : Jvm.MethodName) prog_2_method_4_code (1 : Nat) (Option.some (Jvm.ClassFile.FieldType.object "CaptionDesk$Screen"))) ∈ cd_Ts := cd_in (cd_t2 (List.mem_of_getElem? (i := 85) rfl)) rfl
theorem tw_326 : (Jvm.Cond.methodLink "CaptionDesk$Channel" (41 : Nat) ({ cls := "java/lang/Math", name := "min", desc := "(II)I" } : Jvm.MethodName)) ∈ cd_Ts := cd_in (cd_t2 (List.mem_of_getElem? (i := 86) (by decide +kernel))) rfl
theorem tw_327 : (Jvm.Cond.static ({ cls := "java/lang/Math", name := "min", desc := "(II)I" } : Jvm.MethodName)) ∈ cd_Ts := cd_in (cd_t2 (List.mem_of_getElem? (i := 87) (by decide +kernel))) rfl
set_option maxRecDepth 100000 in
theorem tw_328 : (Jvm.Cond.code ({ cls := "java/lang/Math", name := "min", desc := "(II)I" } : Jvm.MethodName) prog_17_method_69_code (2 : Nat) (Option.some Jvm.ClassFile.FieldType.int)) ∈ cd_Ts := cd_in (cd_t2 (List.mem_of_getElem? (i := 88) rfl)) rfl
theorem tw_329 : (Jvm.Cond.methodLink "CaptionDesk$Channel" (47 : Nat) ({ cls := "CaptionDesk$Screen", name := "write", desc := "(IIII)V" } : Jvm.MethodName)) ∈ cd_Ts := cd_in (cd_t2 (List.mem_of_getElem? (i := 89) (by decide +kernel))) rfl
theorem tw_330 : (Jvm.Cond.instanceMethod ({ cls := "CaptionDesk$Screen", name := "write", desc := "(IIII)V" } : Jvm.MethodName)) ∈ cd_Ts := cd_in (cd_t2 (List.mem_of_getElem? (i := 90) (by decide +kernel))) rfl
theorem tw_331 : (Jvm.Cond.selects "CaptionDesk$Screen" ({ cls := "CaptionDesk$Screen", name := "write", desc := "(IIII)V" } : Jvm.MethodName) ({ cls := "CaptionDesk$Screen", name := "write", desc := "(IIII)V" } : Jvm.MethodName)) ∈ cd_Ts := cd_in (cd_t2 (List.mem_of_getElem? (i := 91) (by decide +kernel))) rfl
set_option maxRecDepth 100000 in
theorem tw_332 : (Jvm.Cond.code ({ cls := "CaptionDesk$Screen", name := "write", desc := "(IIII)V" } : Jvm.MethodName) prog_7_method_4_code (5 : Nat) (Option.none : Option Jvm.ClassFile.FieldType)) ∈ cd_Ts := cd_in (cd_t2 (List.mem_of_getElem? (i := 92) rfl)) rfl
theorem tw_333 : (Jvm.Cond.methodLink "CaptionDesk$Screen" (18 : Nat) ({ cls := "CaptionDesk$Screen", name := "isCell", desc := "(II)Z" } : Jvm.MethodName)) ∈ cd_Ts := cd_in (cd_t2 (List.mem_of_getElem? (i := 93) (by decide +kernel))) rfl
theorem tw_334 : (Jvm.Cond.static ({ cls := "CaptionDesk$Screen", name := "isCell", desc := "(II)Z" } : Jvm.MethodName)) ∈ cd_Ts := cd_in (cd_t2 (List.mem_of_getElem? (i := 94) (by decide +kernel))) rfl
set_option maxRecDepth 100000 in
theorem tw_335 : (Jvm.Cond.code ({ cls := "CaptionDesk$Screen", name := "isCell", desc := "(II)Z" } : Jvm.MethodName) prog_7_method_11_code (2 : Nat) (Option.some Jvm.ClassFile.FieldType.boolean)) ∈ cd_Ts := cd_in (cd_t2 (List.mem_of_getElem? (i := 95) rfl)) rfl
theorem tw_336 : (Jvm.Cond.methodLink "CaptionDesk$Screen" (22 : Nat) ({ cls := "CaptionDesk$Screen", name := "indexOf", desc := "(II)I" } : Jvm.MethodName)) ∈ cd_Ts := cd_in (cd_t2 (List.mem_of_getElem? (i := 96) (by decide +kernel))) rfl
theorem tw_337 : (Jvm.Cond.static ({ cls := "CaptionDesk$Screen", name := "indexOf", desc := "(II)I" } : Jvm.MethodName)) ∈ cd_Ts := cd_in (cd_t2 (List.mem_of_getElem? (i := 97) (by decide +kernel))) rfl
set_option maxRecDepth 100000 in
theorem tw_338 : (Jvm.Cond.code ({ cls := "CaptionDesk$Screen", name := "indexOf", desc := "(II)I" } : Jvm.MethodName) prog_7_method_12_code (2 : Nat) (Option.some Jvm.ClassFile.FieldType.int)) ∈ cd_Ts := cd_in (cd_t2 (List.mem_of_getElem? (i := 98) rfl)) rfl
theorem tw_339 : (Jvm.Cond.methodLink "CaptionDesk" (134 : Nat) ({ cls := "CaptionDesk", name := "takeSecondLetter", desc := "(LCaptionDesk$Channel;I)V" } : Jvm.MethodName)) ∈ cd_Ts := cd_in (cd_t2 (List.mem_of_getElem? (i := 99) (by decide +kernel))) rfl
theorem tw_340 : (Jvm.Cond.static ({ cls := "CaptionDesk", name := "takeSecondLetter", desc := "(LCaptionDesk$Channel;I)V" } : Jvm.MethodName)) ∈ cd_Ts := cd_in (cd_t2 (List.mem_of_getElem? (i := 100) (by decide +kernel))) rfl
set_option maxRecDepth 100000 in
theorem tw_341 : (Jvm.Cond.code ({ cls := "CaptionDesk", name := "takeSecondLetter", desc := "(LCaptionDesk$Channel;I)V" } : Jvm.MethodName) prog_1_method_8_code (2 : Nat) (Option.none : Option Jvm.ClassFile.FieldType)) ∈ cd_Ts := cd_in (cd_t2 (List.mem_of_getElem? (i := 101) rfl)) rfl
theorem tw_342 : (Jvm.Cond.methodLink "CaptionDesk" (80 : Nat) ({ cls := "CaptionDesk", name := "takeCode", desc := "(III)I" } : Jvm.MethodName)) ∈ cd_Ts := cd_in (cd_t2 (List.mem_of_getElem? (i := 102) (by decide +kernel))) rfl
theorem tl_343 : (Jvm.Cond.privateMethod ({ cls := "CaptionDesk", name := "takeCode", desc := "(III)I" } : Jvm.MethodName)) ∈ lw_tbl := cd_t2 (List.mem_of_getElem? (i := 103) (by decide +kernel))
theorem tw_344 : (Jvm.Cond.instanceMethod ({ cls := "CaptionDesk", name := "takeCode", desc := "(III)I" } : Jvm.MethodName)) ∈ cd_Ts := cd_in (cd_t2 (List.mem_of_getElem? (i := 104) (by decide +kernel))) rfl
set_option maxRecDepth 100000 in
theorem tw_345 : (Jvm.Cond.code ({ cls := "CaptionDesk", name := "takeCode", desc := "(III)I" } : Jvm.MethodName) prog_1_method_6_code (5 : Nat) (Option.some Jvm.ClassFile.FieldType.int)) ∈ cd_Ts := cd_in (cd_t2 (List.mem_of_getElem? (i := 105) rfl)) rfl
theorem tw_346 : (Jvm.Cond.methodLink "CaptionDesk" (122 : Nat) ({ cls := "CaptionDesk$Channel", name := "obey", desc := "(II)V" } : Jvm.MethodName)) ∈ cd_Ts := cd_in (cd_t2 (List.mem_of_getElem? (i := 106) (by decide +kernel))) rfl
theorem tw_347 : (Jvm.Cond.instanceMethod ({ cls := "CaptionDesk$Channel", name := "obey", desc := "(II)V" } : Jvm.MethodName)) ∈ cd_Ts := cd_in (cd_t2 (List.mem_of_getElem? (i := 107) (by decide +kernel))) rfl
theorem tw_348 : (Jvm.Cond.selects "CaptionDesk$Channel" ({ cls := "CaptionDesk$Channel", name := "obey", desc := "(II)V" } : Jvm.MethodName) ({ cls := "CaptionDesk$Channel", name := "obey", desc := "(II)V" } : Jvm.MethodName)) ∈ cd_Ts := cd_in (cd_t2 (List.mem_of_getElem? (i := 108) (by decide +kernel))) rfl
set_option maxRecDepth 100000 in
theorem tw_349 : (Jvm.Cond.code ({ cls := "CaptionDesk$Channel", name := "obey", desc := "(II)V" } : Jvm.MethodName) prog_2_method_3_code (3 : Nat) (Option.none : Option Jvm.ClassFile.FieldType)) ∈ cd_Ts := cd_in (cd_t2 (List.mem_of_getElem? (i := 109) rfl)) rfl
theorem tw_350 : (Jvm.Cond.methodLink "CaptionDesk$Channel" (51 : Nat) ({ cls := "CaptionDesk$Channel", name := "goToRow", desc := "(II)V" } : Jvm.MethodName)) ∈ cd_Ts := cd_in (cd_t2 (List.mem_of_getElem? (i := 110) (by decide +kernel))) rfl
theorem tl_351 : (Jvm.Cond.privateMethod ({ cls := "CaptionDesk$Channel", name := "goToRow", desc := "(II)V" } : Jvm.MethodName)) ∈ lw_tbl := cd_t2 (List.mem_of_getElem? (i := 111) (by decide +kernel))
theorem tw_352 : (Jvm.Cond.instanceMethod ({ cls := "CaptionDesk$Channel", name := "goToRow", desc := "(II)V" } : Jvm.MethodName)) ∈ cd_Ts := cd_in (cd_t2 (List.mem_of_getElem? (i := 112) (by decide +kernel))) rfl
set_option maxRecDepth 100000 in
theorem tw_353 : (Jvm.Cond.code ({ cls := "CaptionDesk$Channel", name := "goToRow", desc := "(II)V" } : Jvm.MethodName) prog_2_method_5_code (5 : Nat) (Option.none : Option Jvm.ClassFile.FieldType)) ∈ cd_Ts := cd_in (cd_t2 (List.mem_of_getElem? (i := 113) rfl)) rfl
theorem tl_355 : (Jvm.Cond.laysStatic "CaptionDesk" "CODE_ROWS" "[I") ∈ lw_tbl := cd_t2 (List.mem_of_getElem? (i := 115) (by decide +kernel))
theorem tw_357 : (Jvm.Cond.methodLink "CaptionDesk$Channel" (59 : Nat) ({ cls := "java/lang/Math", name := "max", desc := "(II)I" } : Jvm.MethodName)) ∈ cd_Ts := cd_in (cd_t2 (List.mem_of_getElem? (i := 117) (by decide +kernel))) rfl
theorem tw_358 : (Jvm.Cond.static ({ cls := "java/lang/Math", name := "max", desc := "(II)I" } : Jvm.MethodName)) ∈ cd_Ts := cd_in (cd_t2 (List.mem_of_getElem? (i := 118) (by decide +kernel))) rfl
set_option maxRecDepth 100000 in
theorem tw_359 : (Jvm.Cond.code ({ cls := "java/lang/Math", name := "max", desc := "(II)I" } : Jvm.MethodName) prog_17_method_65_code (2 : Nat) (Option.some Jvm.ClassFile.FieldType.int)) ∈ cd_Ts := cd_in (cd_t2 (List.mem_of_getElem? (i := 119) rfl)) rfl
theorem tw_360 : (Jvm.Cond.methodLink "CaptionDesk$Channel" (79 : Nat) ({ cls := "CaptionDesk$Channel", name := "moveRolledRows", desc := "(I)V" } : Jvm.MethodName)) ∈ cd_Ts := cd_in (cd_t2 (List.mem_of_getElem? (i := 120) (by decide +kernel))) rfl
theorem tl_361 : (Jvm.Cond.privateMethod ({ cls := "CaptionDesk$Channel", name := "moveRolledRows", desc := "(I)V" } : Jvm.MethodName)) ∈ lw_tbl := cd_t2 (List.mem_of_getElem? (i := 121) (by decide +kernel))
theorem tw_362 : (Jvm.Cond.instanceMethod ({ cls := "CaptionDesk$Channel", name := "moveRolledRows", desc := "(I)V" } : Jvm.MethodName)) ∈ cd_Ts := cd_in (cd_t2 (List.mem_of_getElem? (i := 122) (by decide +kernel))) rfl
set_option maxRecDepth 100000 in
theorem tw_363 : (Jvm.Cond.code ({ cls := "CaptionDesk$Channel", name := "moveRolledRows", desc := "(I)V" } : Jvm.MethodName) prog_2_method_6_code (4 : Nat) (Option.none : Option Jvm.ClassFile.FieldType)) ∈ cd_Ts := cd_in (cd_t2 (List.mem_of_getElem? (i := 123) rfl)) rfl
theorem tw_364 : (Jvm.Cond.methodLink "CaptionDesk$Channel" (82 : Nat) ({ cls := "CaptionDesk$Screen", name := "moveRow", desc := "(II)V" } : Jvm.MethodName)) ∈ cd_Ts := cd_in (cd_t2 (List.mem_of_getElem? (i := 124) (by decide +kernel))) rfl
theorem tw_365 : (Jvm.Cond.instanceMethod ({ cls := "CaptionDesk$Screen", name := "moveRow", desc := "(II)V" } : Jvm.MethodName)) ∈ cd_Ts := cd_in (cd_t2 (List.mem_of_getElem? (i := 125) (by decide +kernel))) rfl
theorem tw_366 : (Jvm.Cond.selects "CaptionDesk$Screen" ({ cls := "CaptionDesk$Screen", name := "moveRow", desc := "(II)V" } : Jvm.MethodName) ({ cls := "CaptionDesk$Screen", name := "moveRow", desc := "(II)V" } : Jvm.MethodName)) ∈ cd_Ts := cd_in (cd_t2 (List.mem_of_getElem? (i := 126) (by decide +kernel))) rfl
set_option maxRecDepth 100000 in
theorem tw_367 : (Jvm.Cond.code ({ cls := "CaptionDesk$Screen", name := "moveRow", desc := "(II)V" } : Jvm.MethodName) prog_7_method_8_code (4 : Nat) (Option.none : Option Jvm.ClassFile.FieldType)) ∈ cd_Ts := cd_in (cd_t2 (List.mem_of_getElem? (i := 127) rfl)) rfl
theorem tw_368 : (Jvm.Cond.methodLink "CaptionDesk$Screen" (30 : Nat) ({ cls := "java/lang/System", name := "arraycopy", desc := "(Ljava/lang/Object;ILjava/lang/Object;II)V" } : Jvm.MethodName)) ∈ cd_Ts := cd_in (cd_t2 (List.mem_of_getElem? (i := 128) (by decide +kernel))) rfl
theorem tw_369 : (Jvm.Cond.static ({ cls := "java/lang/System", name := "arraycopy", desc := "(Ljava/lang/Object;ILjava/lang/Object;II)V" } : Jvm.MethodName)) ∈ cd_Ts := cd_in (cd_t2 (List.mem_of_getElem? (i := 129) (by decide +kernel))) rfl
theorem tw_370 : (Jvm.Cond.native ({ cls := "java/lang/System", name := "arraycopy", desc := "(Ljava/lang/Object;ILjava/lang/Object;II)V" } : Jvm.MethodName)) ∈ cd_Ts := cd_in (cd_t2 (List.mem_of_getElem? (i := 130) (by decide +kernel))) rfl
theorem tw_371 : (Jvm.Cond.methodLink "CaptionDesk$Screen" (26 : Nat) ({ cls := "CaptionDesk$Screen", name := "eraseCells", desc := "(II)V" } : Jvm.MethodName)) ∈ cd_Ts := cd_in (cd_t2 (List.mem_of_getElem? (i := 131) (by decide +kernel))) rfl
theorem tl_372 : (Jvm.Cond.privateMethod ({ cls := "CaptionDesk$Screen", name := "eraseCells", desc := "(II)V" } : Jvm.MethodName)) ∈ lw_tbl := cd_t2 (List.mem_of_getElem? (i := 132) (by decide +kernel))
theorem tw_373 : (Jvm.Cond.instanceMethod ({ cls := "CaptionDesk$Screen", name := "eraseCells", desc := "(II)V" } : Jvm.MethodName)) ∈ cd_Ts := cd_in (cd_t2 (List.mem_of_getElem? (i := 133) (by decide +kernel))) rfl
set_option maxRecDepth 100000 in
theorem tw_374 : (Jvm.Cond.code ({ cls := "CaptionDesk$Screen", name := "eraseCells", desc := "(II)V" } : Jvm.MethodName) prog_7_method_10_code (4 : Nat) (Option.none : Option Jvm.ClassFile.FieldType)) ∈ cd_Ts := cd_in (cd_t2 (List.mem_of_getElem? (i := 134) rfl)) rfl
theorem tw_375 : (Jvm.Cond.methodLink "CaptionDesk$Channel" (55 : Nat) ({ cls := "CaptionDesk$Channel", name := "obeyLookOrSpecial", desc := "(I)V" } : Jvm.MethodName)) ∈ cd_Ts := cd_in (cd_t2 (List.mem_of_getElem? (i := 135) (by decide +kernel))) rfl
theorem tl_376 : (Jvm.Cond.privateMethod ({ cls := "CaptionDesk$Channel", name := "obeyLookOrSpecial", desc := "(I)V" } : Jvm.MethodName)) ∈ lw_tbl := cd_t2 (List.mem_of_getElem? (i := 136) (by decide +kernel))
theorem tw_377 : (Jvm.Cond.instanceMethod ({ cls := "CaptionDesk$Channel", name := "obeyLookOrSpecial", desc := "(I)V" } : Jvm.MethodName)) ∈ cd_Ts := cd_in (cd_t2 (List.mem_of_getElem? (i := 137) (by decide +kernel))) rfl
set_option maxRecDepth 100000 in
theorem tw_378 : (Jvm.Cond.code ({ cls := "CaptionDesk$Channel", name := "obeyLookOrSpecial", desc := "(I)V" } : Jvm.MethodName) prog_2_method_7_code (2 : Nat) (Option.none : Option Jvm.ClassFile.FieldType)) ∈ cd_Ts := cd_in (cd_t2 (List.mem_of_getElem? (i := 138) rfl)) rfl
theorem tw_379 : (Jvm.Cond.methodLink "CaptionDesk$Channel" (62 : Nat) ({ cls := "CaptionDesk$Channel", name := "put", desc := "(I)V" } : Jvm.MethodName)) ∈ cd_Ts := cd_in (cd_t2 (List.mem_of_getElem? (i := 139) (by decide +kernel))) rfl
theorem tw_380 : (Jvm.Cond.methodLink "CaptionDesk$Channel" (65 : Nat) ({ cls := "CaptionDesk$Channel", name := "obeyControl", desc := "(I)V" } : Jvm.MethodName)) ∈ cd_Ts := cd_in (cd_t2 (List.mem_of_getElem? (i := 140) (by decide +kernel))) rfl
theorem tl_381 : (Jvm.Cond.privateMethod ({ cls := "CaptionDesk$Channel", name := "obeyControl", desc := "(I)V" } : Jvm.MethodName)) ∈ lw_tbl := cd_t2 (List.mem_of_getElem? (i := 141) (by decide +kernel))
theorem tw_382 : (Jvm.Cond.instanceMethod ({ cls := "CaptionDesk$Channel", name := "obeyControl", desc := "(I)V" } : Jvm.MethodName)) ∈ cd_Ts := cd_in (cd_t2 (List.mem_of_getElem? (i := 142) (by decide +kernel))) rfl
set_option maxRecDepth 100000 in
theorem tw_383 : (Jvm.Cond.code ({ cls := "CaptionDesk$Channel", name := "obeyControl", desc := "(I)V" } : Jvm.MethodName) prog_2_method_9_code (2 : Nat) (Option.none : Option Jvm.ClassFile.FieldType)) ∈ cd_Ts := cd_in (cd_t2 (List.mem_of_getElem? (i := 143) rfl)) rfl
theorem tw_384 : (Jvm.Cond.methodLink "CaptionDesk$Channel" (85 : Nat) ({ cls := "CaptionDesk$Channel", name := "eraseBack", desc := "()V" } : Jvm.MethodName)) ∈ cd_Ts := cd_in (cd_t2 (List.mem_of_getElem? (i := 144) (by decide +kernel))) rfl
theorem tl_385 : (Jvm.Cond.privateMethod ({ cls := "CaptionDesk$Channel", name := "eraseBack", desc := "()V" } : Jvm.MethodName)) ∈ lw_tbl := cd_t2 (List.mem_of_getElem? (i := 145) (by decide +kernel))
theorem tw_386 : (Jvm.Cond.instanceMethod ({ cls := "CaptionDesk$Channel", name := "eraseBack", desc := "()V" } : Jvm.MethodName)) ∈ cd_Ts := cd_in (cd_t2 (List.mem_of_getElem? (i := 146) (by decide +kernel))) rfl
set_option maxRecDepth 100000 in
theorem tw_387 : (Jvm.Cond.code ({ cls := "CaptionDesk$Channel", name := "eraseBack", desc := "()V" } : Jvm.MethodName) prog_2_method_10_code (2 : Nat) (Option.none : Option Jvm.ClassFile.FieldType)) ∈ cd_Ts := cd_in (cd_t2 (List.mem_of_getElem? (i := 147) rfl)) rfl
theorem tw_388 : (Jvm.Cond.methodLink "CaptionDesk$Channel" (88 : Nat) ({ cls := "CaptionDesk$Channel", name := "eraseOn", desc := "()V" } : Jvm.MethodName)) ∈ cd_Ts := cd_in (cd_t2 (List.mem_of_getElem? (i := 148) (by decide +kernel))) rfl
theorem tl_389 : (Jvm.Cond.privateMethod ({ cls := "CaptionDesk$Channel", name := "eraseOn", desc := "()V" } : Jvm.MethodName)) ∈ lw_tbl := cd_t2 (List.mem_of_getElem? (i := 149) (by decide +kernel))
theorem tw_390 : (Jvm.Cond.instanceMethod ({ cls := "CaptionDesk$Channel", name := "eraseOn", desc := "()V" } : Jvm.MethodName)) ∈ cd_Ts := cd_in (cd_t2 (List.mem_of_getElem? (i := 150) (by decide +kernel))) rfl
set_option maxRecDepth 100000 in
theorem tw_391 : (Jvm.Cond.code ({ cls := "CaptionDesk$Channel", name := "eraseOn", desc := "()V" } : Jvm.MethodName) prog_2_method_11_code (2 : Nat) (Option.none : Option Jvm.ClassFile.FieldType)) ∈ cd_Ts := cd_in (cd_t2 (List.mem_of_getElem? (i := 151) rfl)) rfl
theorem tw_392 : (Jvm.Cond.methodLink "CaptionDesk$Channel" (103 : Nat) ({ cls := "CaptionDesk$Screen", name := "eraseFrom", desc := "(II)V" } : Jvm.MethodName)) ∈ cd_Ts := cd_in (cd_t2 (List.mem_of_getElem? (i := 152) (by decide +kernel))) rfl
theorem tw_393 : (Jvm.Cond.instanceMethod ({ cls := "CaptionDesk$Screen", name := "eraseFrom", desc := "(II)V" } : Jvm.MethodName)) ∈ cd_Ts := cd_in (cd_t2 (List.mem_of_getElem? (i := 153) (by decide +kernel))) rfl
theorem tw_394 : (Jvm.Cond.selects "CaptionDesk$Screen" ({ cls := "CaptionDesk$Screen", name := "eraseFrom", desc := "(II)V" } : Jvm.MethodName) ({ cls := "CaptionDesk$Screen", name := "eraseFrom", desc := "(II)V" } : Jvm.MethodName)) ∈ cd_Ts := cd_in (cd_t2 (List.mem_of_getElem? (i := 154) (by decide +kernel))) rfl
set_option maxRecDepth 100000 in
theorem tw_395 : (Jvm.Cond.code ({ cls := "CaptionDesk$Screen", name := "eraseFrom", desc := "(II)V" } : Jvm.MethodName) prog_7_method_5_code (3 : Nat) (Option.none : Option Jvm.ClassFile.FieldType)) ∈ cd_Ts := cd_in (cd_t2 (List.mem_of_getElem? (i := 155) rfl)) rfl
theorem tw_396 : (Jvm.Cond.methodLink "CaptionDesk$Channel" (91 : Nat) ({ cls := "CaptionDesk$Channel", name := "beginRoll", desc := "(I)V" } : Jvm.MethodName)) ∈ cd_Ts := cd_in (cd_t2 (List.mem_of_getElem? (i := 156) (by decide +kernel))) rfl
theorem tl_397 : (Jvm.Cond.privateMethod ({ cls := "CaptionDesk$Channel", name := "beginRoll", desc := "(I)V" } : Jvm.MethodName)) ∈ lw_tbl := cd_t2 (List.mem_of_getElem? (i := 157) (by decide +kernel))
theorem tw_398 : (Jvm.Cond.instanceMethod ({ cls := "CaptionDesk$Channel", name := "beginRoll", desc := "(I)V" } : Jvm.MethodName)) ∈ cd_Ts := cd_in (cd_t2 (List.mem_of_getElem? (i := 158) (by decide +kernel))) rfl
set_option maxRecDepth 100000 in
theorem tw_399 : (Jvm.Cond.code ({ cls := "CaptionDesk$Channel", name := "beginRoll", desc := "(I)V" } : Jvm.MethodName) prog_2_method_12_code (2 : Nat) (Option.none : Option Jvm.ClassFile.FieldType)) ∈ cd_Ts := cd_in (cd_t2 (List.mem_of_getElem? (i := 159) rfl)) rfl
theorem tw_400 : (Jvm.Cond.methodLink "CaptionDesk$Channel" (106 : Nat) ({ cls := "CaptionDesk$Screen", name := "eraseRowsAbove", desc := "(I)V" } : Jvm.MethodName)) ∈ cd_Ts := cd_in (cd_t2 (List.mem_of_getElem? (i := 160) (by decide +kernel))) rfl
theorem tw_401 : (Jvm.Cond.instanceMethod ({ cls := "CaptionDesk$Screen", name := "eraseRowsAbove", desc := "(I)V" } : Jvm.MethodName)) ∈ cd_Ts := cd_in (cd_t2 (List.mem_of_getElem? (i := 161) (by decide +kernel))) rfl
theorem tw_402 : (Jvm.Cond.selects "CaptionDesk$Screen" ({ cls := "CaptionDesk$Screen", name := "eraseRowsAbove", desc := "(I)V" } : Jvm.MethodName) ({ cls := "CaptionDesk$Screen", name := "eraseRowsAbove", desc := "(I)V" } : Jvm.MethodName)) ∈ cd_Ts := cd_in (cd_t2 (List.mem_of_getElem? (i := 162) (by decide +kernel))) rfl
set_option maxRecDepth 100000 in
theorem tw_403 : (Jvm.Cond.code ({ cls := "CaptionDesk$Screen", name := "eraseRowsAbove", desc := "(I)V" } : Jvm.MethodName) prog_7_method_6_code (2 : Nat) (Option.none : Option Jvm.ClassFile.FieldType)) ∈ cd_Ts := cd_in (cd_t2 (List.mem_of_getElem? (i := 163) rfl)) rfl
theorem tw_404 : (Jvm.Cond.methodLink "CaptionDesk$Channel" (94 : Nat) ({ cls := "CaptionDesk$Screen", name := "eraseAll", desc := "()V" } : Jvm.MethodName)) ∈ cd_Ts := cd_in (cd_t2 (List.mem_of_getElem? (i := 164) (by decide +kernel))) rfl
theorem tw_405 : (Jvm.Cond.instanceMethod ({ cls := "CaptionDesk$Screen", name := "eraseAll", desc := "()V" } : Jvm.MethodName)) ∈ cd_Ts := cd_in (cd_t2 (List.mem_of_getElem? (i := 165) (by decide +kernel))) rfl
theorem tw_406 : (Jvm.Cond.selects "CaptionDesk$Screen" ({ cls := "CaptionDesk$Screen", name := "eraseAll", desc := "()V" } : Jvm.MethodName) ({ cls := "CaptionDesk$Screen", name := "eraseAll", desc := "()V" } : Jvm.MethodName)) ∈ cd_Ts := cd_in (cd_t2 (List.mem_of_getElem? (i := 166) (by decide +kernel))) rfl
set_option maxRecDepth 100000 in
theorem tw_407 : (Jvm.Cond.code ({ cls := "CaptionDesk$Screen", name := "eraseAll", desc := "()V" } : Jvm.MethodName) prog_7_method_7_code (1 : Nat) (Option.none : Option Jvm.ClassFile.FieldType)) ∈ cd_Ts := cd_in (cd_t2 (List.mem_of_getElem? (i := 167) rfl)) rfl
theorem tw_408 : (Jvm.Cond.methodLink "CaptionDesk$Channel" (97 : Nat) ({ cls := "CaptionDesk$Channel", name := "rollUp", desc := "()V" } : Jvm.MethodName)) ∈ cd_Ts := cd_in (cd_t2 (List.mem_of_getElem? (i := 168) (by decide +kernel))) rfl
theorem tl_409 : (Jvm.Cond.privateMethod ({ cls := "CaptionDesk$Channel", name := "rollUp", desc := "()V" } : Jvm.MethodName)) ∈ lw_tbl := cd_t2 (List.mem_of_getElem? (i := 169) (by decide +kernel))
theorem tw_410 : (Jvm.Cond.instanceMethod ({ cls := "CaptionDesk$Channel", name := "rollUp", desc := "()V" } : Jvm.MethodName)) ∈ cd_Ts := cd_in (cd_t2 (List.mem_of_getElem? (i := 170) (by decide +kernel))) rfl
set_option maxRecDepth 100000 in
theorem tw_411 : (Jvm.Cond.code ({ cls := "CaptionDesk$Channel", name := "rollUp", desc := "()V" } : Jvm.MethodName) prog_2_method_13_code (2 : Nat) (Option.none : Option Jvm.ClassFile.FieldType)) ∈ cd_Ts := cd_in (cd_t2 (List.mem_of_getElem? (i := 171) rfl)) rfl
theorem tw_412 : (Jvm.Cond.methodLink "CaptionDesk$Channel" (100 : Nat) ({ cls := "CaptionDesk$Channel", name := "changeScreens", desc := "()V" } : Jvm.MethodName)) ∈ cd_Ts := cd_in (cd_t2 (List.mem_of_getElem? (i := 172) (by decide +kernel))) rfl
theorem tl_413 : (Jvm.Cond.privateMethod ({ cls := "CaptionDesk$Channel", name := "changeScreens", desc := "()V" } : Jvm.MethodName)) ∈ lw_tbl := cd_t2 (List.mem_of_getElem? (i := 173) (by decide +kernel))
theorem tw_414 : (Jvm.Cond.instanceMethod ({ cls := "CaptionDesk$Channel", name := "changeScreens", desc := "()V" } : Jvm.MethodName)) ∈ cd_Ts := cd_in (cd_t2 (List.mem_of_getElem? (i := 174) (by decide +kernel))) rfl
set_option maxRecDepth 100000 in
theorem tw_415 : (Jvm.Cond.code ({ cls := "CaptionDesk$Channel", name := "changeScreens", desc := "()V" } : Jvm.MethodName) prog_2_method_14_code (2 : Nat) (Option.none : Option Jvm.ClassFile.FieldType)) ∈ cd_Ts := cd_in (cd_t2 (List.mem_of_getElem? (i := 175) rfl)) rfl
theorem tw_416 : (Jvm.Cond.methodLink "CaptionDesk$Channel" (68 : Nat) ({ cls := "CaptionDesk$Channel", name := "skipColumns", desc := "(I)V" } : Jvm.MethodName)) ∈ cd_Ts := cd_in (cd_t2 (List.mem_of_getElem? (i := 176) (by decide +kernel))) rfl
theorem tl_417 : (Jvm.Cond.privateMethod ({ cls := "CaptionDesk$Channel", name := "skipColumns", desc := "(I)V" } : Jvm.MethodName)) ∈ lw_tbl := cd_t2 (List.mem_of_getElem? (i := 177) (by decide +kernel))
theorem tw_418 : (Jvm.Cond.instanceMethod ({ cls := "CaptionDesk$Channel", name := "skipColumns", desc := "(I)V" } : Jvm.MethodName)) ∈ cd_Ts := cd_in (cd_t2 (List.mem_of_getElem? (i := 178) (by decide +kernel))) rfl
set_option maxRecDepth 100000 in
theorem tw_419 : (Jvm.Cond.code ({ cls := "CaptionDesk$Channel", name := "skipColumns", desc := "(I)V" } : Jvm.MethodName) prog_2_method_8_code (2 : Nat) (Option.none : Option Jvm.ClassFile.FieldType)) ∈ cd_Ts := cd_in (cd_t2 (List.mem_of_getElem? (i := 179) rfl)) rfl
theorem tw_420 : (Jvm.Cond.methodLink "CaptionDeskLaw" (75 : Nat) ({ cls := "CaptionDeskLaw", name := "cell", desc := "(LCaptionDesk;IIIII[J)I" } : Jvm.MethodName)) ∈ cd_Ts := cd_in (cd_t2 (List.mem_of_getElem? (i := 180) (by decide +kernel))) rfl
theorem tw_421 : (Jvm.Cond.static ({ cls := "CaptionDeskLaw", name := "cell", desc := "(LCaptionDesk;IIIII[J)I" } : Jvm.MethodName)) ∈ cd_Ts := cd_in (cd_t2 (List.mem_of_getElem? (i := 181) (by decide +kernel))) rfl
set_option maxRecDepth 100000 in
theorem tw_422 : (Jvm.Cond.codeWith ({ cls := "CaptionDeskLaw", name := "cell", desc := "(LCaptionDesk;IIIII[J)I" } : Jvm.MethodName) method_4_code (8 : Nat) (Option.some Jvm.ClassFile.FieldType.int) [((0 : Nat), (16 : Nat), (19 : Nat), (13 : Nat))]) ∈ cd_Ts := cd_in (cd_t2 (List.mem_of_getElem? (i := 182) rfl)) rfl
theorem tw_423 : (Jvm.Cond.methodLink "CaptionDeskLaw" (15 : Nat) ({ cls := "CaptionDesk", name := "cell", desc := "(IIIII)I" } : Jvm.MethodName)) ∈ cd_Ts := cd_in (cd_t2 (List.mem_of_getElem? (i := 183) (by decide +kernel))) rfl
theorem tw_424 : (Jvm.Cond.instanceMethod ({ cls := "CaptionDesk", name := "cell", desc := "(IIIII)I" } : Jvm.MethodName)) ∈ cd_Ts := cd_in (cd_t2 (List.mem_of_getElem? (i := 184) (by decide +kernel))) rfl
theorem tw_425 : (Jvm.Cond.selects "CaptionDesk" ({ cls := "CaptionDesk", name := "cell", desc := "(IIIII)I" } : Jvm.MethodName) ({ cls := "CaptionDesk", name := "cell", desc := "(IIIII)I" } : Jvm.MethodName)) ∈ cd_Ts := cd_in (cd_t2 (List.mem_of_getElem? (i := 185) (by decide +kernel))) rfl
set_option maxRecDepth 100000 in
theorem tw_426 : (Jvm.Cond.code ({ cls := "CaptionDesk", name := "cell", desc := "(IIIII)I" } : Jvm.MethodName) prog_1_method_3_code (8 : Nat) (Option.some Jvm.ClassFile.FieldType.int)) ∈ cd_Ts := cd_in (cd_t2 (List.mem_of_getElem? (i := 186) rfl)) rfl
theorem tl_427 : (Jvm.Cond.stringRef "CaptionDesk" (84 : Nat) "channel, screen or what") ∈ lw_tbl := cd_t2 (List.mem_of_getElem? (i := 187) (by decide +kernel))
theorem tl_428 : (Jvm.Cond.stringRef "CaptionDesk" (86 : Nat) "row or column") ∈ lw_tbl := cd_t2 (List.mem_of_getElem? (i := 188) (by decide +kernel))
theorem tw_429 : (Jvm.Cond.methodLink "CaptionDesk" (95 : Nat) ({ cls := "CaptionDesk$Screen", name := "letterAt", desc := "(II)I" } : Jvm.MethodName)) ∈ cd_Ts := cd_in (cd_t2 (List.mem_of_getElem? (i := 189) (by decide +kernel))) rfl
theorem tw_430 : (Jvm.Cond.instanceMethod ({ cls := "CaptionDesk$Screen", name := "letterAt", desc := "(II)I" } : Jvm.MethodName)) ∈ cd_Ts := cd_in (cd_t2 (List.mem_of_getElem? (i := 190) (by decide +kernel))) rfl
theorem tw_431 : (Jvm.Cond.selects "CaptionDesk$Screen" ({ cls := "CaptionDesk$Screen", name := "letterAt", desc := "(II)I" } : Jvm.MethodName) ({ cls := "CaptionDesk$Screen", name := "letterAt", desc := "(II)I" } : Jvm.MethodName)) ∈ cd_Ts := cd_in (cd_t2 (List.mem_of_getElem? (i := 191) (by decide +kernel))) rfl
set_option maxRecDepth 100000 in
theorem tw_432 : (Jvm.Cond.code ({ cls := "CaptionDesk$Screen", name := "letterAt", desc := "(II)I" } : Jvm.MethodName) prog_7_method_2_code (3 : Nat) (Option.some Jvm.ClassFile.FieldType.int)) ∈ cd_Ts := cd_in (cd_t2 (List.mem_of_getElem? (i := 192) rfl)) rfl
theorem tw_433 : (Jvm.Cond.methodLink "CaptionDesk" (101 : Nat) ({ cls := "CaptionDesk$Screen", name := "lookAt", desc := "(II)I" } : Jvm.MethodName)) ∈ cd_Ts := cd_in (cd_t2 (List.mem_of_getElem? (i := 193) (by decide +kernel))) rfl
theorem tw_434 : (Jvm.Cond.instanceMethod ({ cls := "CaptionDesk$Screen", name := "lookAt", desc := "(II)I" } : Jvm.MethodName)) ∈ cd_Ts := cd_in (cd_t2 (List.mem_of_getElem? (i := 194) (by decide +kernel))) rfl
theorem tw_435 : (Jvm.Cond.selects "CaptionDesk$Screen" ({ cls := "CaptionDesk$Screen", name := "lookAt", desc := "(II)I" } : Jvm.MethodName) ({ cls := "CaptionDesk$Screen", name := "lookAt", desc := "(II)I" } : Jvm.MethodName)) ∈ cd_Ts := cd_in (cd_t2 (List.mem_of_getElem? (i := 195) (by decide +kernel))) rfl
set_option maxRecDepth 100000 in
theorem tw_436 : (Jvm.Cond.code ({ cls := "CaptionDesk$Screen", name := "lookAt", desc := "(II)I" } : Jvm.MethodName) prog_7_method_3_code (3 : Nat) (Option.some Jvm.ClassFile.FieldType.int)) ∈ cd_Ts := cd_in (cd_t2 (List.mem_of_getElem? (i := 196) rfl)) rfl
theorem tw_437 : (Jvm.Cond.methodLink "CaptionDeskLaw" (79 : Nat) ({ cls := "CaptionDeskLaw", name := "state", desc := "(LCaptionDesk;II[J)I" } : Jvm.MethodName)) ∈ cd_Ts := cd_in (cd_t2 (List.mem_of_getElem? (i := 197) (by decide +kernel))) rfl
theorem tw_438 : (Jvm.Cond.static ({ cls := "CaptionDeskLaw", name := "state", desc := "(LCaptionDesk;II[J)I" } : Jvm.MethodName)) ∈ cd_Ts := cd_in (cd_t2 (List.mem_of_getElem? (i := 198) (by decide +kernel))) rfl
set_option maxRecDepth 100000 in
theorem tw_439 : (Jvm.Cond.codeWith ({ cls := "CaptionDeskLaw", name := "state", desc := "(LCaptionDesk;II[J)I" } : Jvm.MethodName) method_5_code (5 : Nat) (Option.some Jvm.ClassFile.FieldType.int) [((0 : Nat), (10 : Nat), (13 : Nat), (13 : Nat))]) ∈ cd_Ts := cd_in (cd_t2 (List.mem_of_getElem? (i := 199) rfl)) rfl
theorem tw_440 : (Jvm.Cond.methodLink "CaptionDeskLaw" (19 : Nat) ({ cls := "CaptionDesk", name := "state", desc := "(II)I" } : Jvm.MethodName)) ∈ cd_Ts := cd_in (cd_t2 (List.mem_of_getElem? (i := 200) (by decide +kernel))) rfl
theorem tw_441 : (Jvm.Cond.instanceMethod ({ cls := "CaptionDesk", name := "state", desc := "(II)I" } : Jvm.MethodName)) ∈ cd_Ts := cd_in (cd_t2 (List.mem_of_getElem? (i := 201) (by decide +kernel))) rfl
theorem tw_442 : (Jvm.Cond.selects "CaptionDesk" ({ cls := "CaptionDesk", name := "state", desc := "(II)I" } : Jvm.MethodName) ({ cls := "CaptionDesk", name := "state", desc := "(II)I" } : Jvm.MethodName)) ∈ cd_Ts := cd_in (cd_t2 (List.mem_of_getElem? (i := 202) (by decide +kernel))) rfl
set_option maxRecDepth 100000 in
theorem tw_443 : (Jvm.Cond.code ({ cls := "CaptionDesk", name := "state", desc := "(II)I" } : Jvm.MethodName) prog_1_method_4_code (4 : Nat) (Option.some Jvm.ClassFile.FieldType.int)) ∈ cd_Ts := cd_in (cd_t2 (List.mem_of_getElem? (i := 203) rfl)) rfl
theorem tl_444 : (Jvm.Cond.stringRef "CaptionDesk" (104 : Nat) "channel or what") ∈ lw_tbl := cd_t2 (List.mem_of_getElem? (i := 204) (by decide +kernel))
theorem tw_445 : (Jvm.Cond.methodLink "CaptionDeskLaw" (83 : Nat) ({ cls := "CaptionDeskLaw", name := "channel", desc := "(LCaptionDesk;I[J)I" } : Jvm.MethodName)) ∈ cd_Ts := cd_in (cd_t2 (List.mem_of_getElem? (i := 205) (by decide +kernel))) rfl
theorem tw_446 : (Jvm.Cond.static ({ cls := "CaptionDeskLaw", name := "channel", desc := "(LCaptionDesk;I[J)I" } : Jvm.MethodName)) ∈ cd_Ts := cd_in (cd_t2 (List.mem_of_getElem? (i := 206) (by decide +kernel))) rfl
set_option maxRecDepth 100000 in
theorem tw_447 : (Jvm.Cond.codeWith ({ cls := "CaptionDeskLaw", name := "channel", desc := "(LCaptionDesk;I[J)I" } : Jvm.MethodName) method_6_code (4 : Nat) (Option.some Jvm.ClassFile.FieldType.int) [((0 : Nat), (9 : Nat), (12 : Nat), (13 : Nat))]) ∈ cd_Ts := cd_in (cd_t2 (List.mem_of_getElem? (i := 207) rfl)) rfl
theorem tw_448 : (Jvm.Cond.methodLink "CaptionDeskLaw" (23 : Nat) ({ cls := "CaptionDesk", name := "channel", desc := "(I)I" } : Jvm.MethodName)) ∈ cd_Ts := cd_in (cd_t2 (List.mem_of_getElem? (i := 208) (by decide +kernel))) rfl
theorem tw_449 : (Jvm.Cond.instanceMethod ({ cls := "CaptionDesk", name := "channel", desc := "(I)I" } : Jvm.MethodName)) ∈ cd_Ts := cd_in (cd_t2 (List.mem_of_getElem? (i := 209) (by decide +kernel))) rfl
theorem tw_450 : (Jvm.Cond.selects "CaptionDesk" ({ cls := "CaptionDesk", name := "channel", desc := "(I)I" } : Jvm.MethodName) ({ cls := "CaptionDesk", name := "channel", desc := "(I)I" } : Jvm.MethodName)) ∈ cd_Ts := cd_in (cd_t2 (List.mem_of_getElem? (i := 210) (by decide +kernel))) rfl
set_option maxRecDepth 100000 in
theorem tw_451 : (Jvm.Cond.code ({ cls := "CaptionDesk", name := "channel", desc := "(I)I" } : Jvm.MethodName) prog_1_method_5_code (2 : Nat) (Option.some Jvm.ClassFile.FieldType.int)) ∈ cd_Ts := cd_in (cd_t2 (List.mem_of_getElem? (i := 211) rfl)) rfl
theorem tw_452 : (Jvm.Cond.methodLink "CaptionDeskLaw" (91 : Nat) ({ cls := "CaptionDeskLaw", name := "feed", desc := "(LCaptionDesk;IIIII[J)I" } : Jvm.MethodName)) ∈ cd_Ts := cd_in (cd_t2 (List.mem_of_getElem? (i := 212) (by decide +kernel))) rfl
theorem tw_453 : (Jvm.Cond.static ({ cls := "CaptionDeskLaw", name := "feed", desc := "(LCaptionDesk;IIIII[J)I" } : Jvm.MethodName)) ∈ cd_Ts := cd_in (cd_t2 (List.mem_of_getElem? (i := 213) (by decide +kernel))) rfl
set_option maxRecDepth 100000 in
theorem tw_454 : (Jvm.Cond.codeWith ({ cls := "CaptionDeskLaw", name := "feed", desc := "(LCaptionDesk;IIIII[J)I" } : Jvm.MethodName) method_7_code (8 : Nat) (Option.some Jvm.ClassFile.FieldType.int) [((0 : Nat), (16 : Nat), (19 : Nat), (30 : Nat))]) ∈ cd_Ts := cd_in (cd_t2 (List.mem_of_getElem? (i := 214) rfl)) rfl
theorem tw_455 : (Jvm.Cond.classLink "CaptionDeskLaw" (30 : Nat) "java/lang/IllegalStateException") ∈ cd_Ts := cd_in (cd_t2 (List.mem_of_getElem? (i := 215) (by decide +kernel))) rfl
theorem tw_456 : (Jvm.Cond.methodLink "CaptionDeskLaw" (27 : Nat) ({ cls := "CaptionDesk", name := "feed", desc := "(IIIII)I" } : Jvm.MethodName)) ∈ cd_Ts := cd_in (cd_t2 (List.mem_of_getElem? (i := 216) (by decide +kernel))) rfl
theorem tw_457 : (Jvm.Cond.instanceMethod ({ cls := "CaptionDesk", name := "feed", desc := "(IIIII)I" } : Jvm.MethodName)) ∈ cd_Ts := cd_in (cd_t2 (List.mem_of_getElem? (i := 217) (by decide +kernel))) rfl
theorem tw_458 : (Jvm.Cond.selects "CaptionDesk" ({ cls := "CaptionDesk", name := "feed", desc := "(IIIII)I" } : Jvm.MethodName) ({ cls := "CaptionDesk", name := "feed", desc := "(IIIII)I" } : Jvm.MethodName)) ∈ cd_Ts := cd_in (cd_t2 (List.mem_of_getElem? (i := 218) (by decide +kernel))) rfl
set_option maxRecDepth 100000 in
theorem tw_459 : (Jvm.Cond.code ({ cls := "CaptionDesk", name := "feed", desc := "(IIIII)I" } : Jvm.MethodName) prog_1_method_14_code (6 : Nat) (Option.some Jvm.ClassFile.FieldType.int)) ∈ cd_Ts := cd_in (cd_t2 (List.mem_of_getElem? (i := 219) rfl)) rfl
theorem tw_460 : (Jvm.Cond.classLink "CaptionDesk" (150 : Nat) "java/lang/IllegalStateException") ∈ cd_Ts := cd_in (cd_t2 (List.mem_of_getElem? (i := 220) (by decide +kernel))) rfl
theorem tw_461 : (Jvm.Cond.instantiable "java/lang/IllegalStateException" (6 : Nat)) ∈ cd_Ts := cd_in (cd_t2 (List.mem_of_getElem? (i := 221) (by decide +kernel))) rfl
theorem tw_463 : (Jvm.Cond.selects "java/lang/IllegalStateException" ({ cls := "java/lang/Throwable", name := "fillInStackTrace", desc := "(I)Ljava/lang/Throwable;" } : Jvm.MethodName) ({ cls := "java/lang/Throwable", name := "fillInStackTrace", desc := "(I)Ljava/lang/Throwable;" } : Jvm.MethodName)) ∈ cd_Ts := cd_in (cd_t2 (List.mem_of_getElem? (i := 223) (by decide +kernel))) rfl
theorem tw_464 : (Jvm.Cond.lays "java/lang/IllegalStateException" "java/lang/Throwable" "cause" "Ljava/lang/Throwable;") ∈ cd_Ts := cd_in (cd_t2 (List.mem_of_getElem? (i := 224) (by decide +kernel))) rfl
theorem tw_465 : (Jvm.Cond.lays "java/lang/IllegalStateException" "java/lang/Throwable" "stackTrace" "[Ljava/lang/StackTraceElement;") ∈ cd_Ts := cd_in (cd_t2 (List.mem_of_getElem? (i := 225) (by decide +kernel))) rfl
theorem tw_466 : (Jvm.Cond.lays "java/lang/IllegalStateException" "java/lang/Throwable" "suppressedExceptions" "Ljava/util/List;") ∈ cd_Ts := cd_in (cd_t2 (List.mem_of_getElem? (i := 226) (by decide +kernel))) rfl
theorem tw_467 : (Jvm.Cond.lays "java/lang/IllegalStateException" "java/lang/Throwable" "detailMessage" "Ljava/lang/String;") ∈ cd_Ts := cd_in (cd_t2 (List.mem_of_getElem? (i := 227) (by decide +kernel))) rfl
theorem tw_468 : (Jvm.Cond.lays "java/lang/IllegalStateException" "java/lang/Throwable" "backtrace" "Ljava/lang/Object;") ∈ cd_Ts := cd_in (cd_t2 (List.mem_of_getElem? (i := 228) (by decide +kernel))) rfl
theorem tl_469 : (Jvm.Cond.stringRef "CaptionDesk" (152 : Nat) "the tape is full") ∈ lw_tbl := cd_t2 (List.mem_of_getElem? (i := 229) (by decide +kernel))
theorem tw_470 : (Jvm.Cond.methodLink "CaptionDesk" (154 : Nat) ({ cls := "java/lang/IllegalStateException", name := "<init>", desc := "(Ljava/lang/String;)V" } : Jvm.MethodName)) ∈ cd_Ts := cd_in (cd_t2 (List.mem_of_getElem? (i := 230) (by decide +kernel))) rfl
theorem tw_471 : (Jvm.Cond.instanceMethod ({ cls := "java/lang/IllegalStateException", name := "<init>", desc := "(Ljava/lang/String;)V" } : Jvm.MethodName)) ∈ cd_Ts := cd_in (cd_t2 (List.mem_of_getElem? (i := 231) (by decide +kernel))) rfl
set_option maxRecDepth 100000 in
theorem tw_472 : (Jvm.Cond.code ({ cls := "java/lang/IllegalStateException", name := "<init>", desc := "(Ljava/lang/String;)V" } : Jvm.MethodName) prog_14_method_2_code (2 : Nat) (Option.none : Option Jvm.ClassFile.FieldType)) ∈ cd_Ts := cd_in (cd_t2 (List.mem_of_getElem? (i := 232) rfl)) rfl
theorem tw_473 : (Jvm.Cond.methodLink "java/lang/IllegalStateException" (7 : Nat) ({ cls := "java/lang/RuntimeException", name := "<init>", desc := "(Ljava/lang/String;)V" } : Jvm.MethodName)) ∈ cd_Ts := cd_in (cd_t2 (List.mem_of_getElem? (i := 233) (by decide +kernel))) rfl
theorem tw_474 : (Jvm.Cond.lays "java/lang/IllegalStateException" "java/lang/Throwable" "depth" "I") ∈ cd_Ts := cd_in (cd_t2 (List.mem_of_getElem? (i := 234) (by decide +kernel))) rfl
theorem tw_475 : (Jvm.Cond.superclass "java/lang/IllegalStateException" "java/lang/RuntimeException") ∈ cd_Ts := cd_in (cd_t2 (List.mem_of_getElem? (i := 235) (by decide +kernel))) rfl
theorem tw_476 : (Jvm.Cond.methodLink "CaptionDesk" (155 : Nat) ({ cls := "CaptionDesk", name := "addToTape", desc := "(I)V" } : Jvm.MethodName)) ∈ cd_Ts := cd_in (cd_t2 (List.mem_of_getElem? (i := 236) (by decide +kernel))) rfl
theorem tl_477 : (Jvm.Cond.privateMethod ({ cls := "CaptionDesk", name := "addToTape", desc := "(I)V" } : Jvm.MethodName)) ∈ lw_tbl := cd_t2 (List.mem_of_getElem? (i := 237) (by decide +kernel))
theorem tw_478 : (Jvm.Cond.instanceMethod ({ cls := "CaptionDesk", name := "addToTape", desc := "(I)V" } : Jvm.MethodName)) ∈ cd_Ts := cd_in (cd_t2 (List.mem_of_getElem? (i := 238) (by decide +kernel))) rfl
set_option maxRecDepth 100000 in
theorem tw_479 : (Jvm.Cond.code ({ cls := "CaptionDesk", name := "addToTape", desc := "(I)V" } : Jvm.MethodName) prog_1_method_27_code (3 : Nat) (Option.none : Option Jvm.ClassFile.FieldType)) ∈ cd_Ts := cd_in (cd_t2 (List.mem_of_getElem? (i := 239) rfl)) rfl
theorem tw_480 : (Jvm.Cond.methodLink "CaptionDeskLaw" (94 : Nat) ({ cls := "CaptionDeskLaw", name := "packet", desc := "(LCaptionDesk;[J)I" } : Jvm.MethodName)) ∈ cd_Ts := cd_in (cd_t3 (List.mem_of_getElem? (i := 0) (by decide +kernel))) rfl
theorem tw_481 : (Jvm.Cond.static ({ cls := "CaptionDeskLaw", name := "packet", desc := "(LCaptionDesk;[J)I" } : Jvm.MethodName)) ∈ cd_Ts := cd_in (cd_t3 (List.mem_of_getElem? (i := 1) (by decide +kernel))) rfl
set_option maxRecDepth 100000 in
theorem tw_482 : (Jvm.Cond.codeWith ({ cls := "CaptionDeskLaw", name := "packet", desc := "(LCaptionDesk;[J)I" } : Jvm.MethodName) method_8_code (3 : Nat) (Option.some Jvm.ClassFile.FieldType.int) [((0 : Nat), (8 : Nat), (11 : Nat), (30 : Nat))]) ∈ cd_Ts := cd_in (cd_t3 (List.mem_of_getElem? (i := 2) rfl)) rfl
theorem tw_483 : (Jvm.Cond.methodLink "CaptionDeskLaw" (32 : Nat) ({ cls := "CaptionDesk", name := "packet", desc := "()I" } : Jvm.MethodName)) ∈ cd_Ts := cd_in (cd_t3 (List.mem_of_getElem? (i := 3) (by decide +kernel))) rfl
theorem tw_484 : (Jvm.Cond.instanceMethod ({ cls := "CaptionDesk", name := "packet", desc := "()I" } : Jvm.MethodName)) ∈ cd_Ts := cd_in (cd_t3 (List.mem_of_getElem? (i := 4) (by decide +kernel))) rfl
theorem tw_485 : (Jvm.Cond.selects "CaptionDesk" ({ cls := "CaptionDesk", name := "packet", desc := "()I" } : Jvm.MethodName) ({ cls := "CaptionDesk", name := "packet", desc := "()I" } : Jvm.MethodName)) ∈ cd_Ts := cd_in (cd_t3 (List.mem_of_getElem? (i := 5) (by decide +kernel))) rfl
set_option maxRecDepth 100000 in
theorem tw_486 : (Jvm.Cond.code ({ cls := "CaptionDesk", name := "packet", desc := "()I" } : Jvm.MethodName) prog_1_method_15_code (4 : Nat) (Option.some Jvm.ClassFile.FieldType.int)) ∈ cd_Ts := cd_in (cd_t3 (List.mem_of_getElem? (i := 6) rfl)) rfl
theorem tl_487 : (Jvm.Cond.stringRef "CaptionDesk" (158 : Nat) "the tape is too short") ∈ lw_tbl := cd_t3 (List.mem_of_getElem? (i := 7) (by decide +kernel))
theorem tw_488 : (Jvm.Cond.methodLink "CaptionDesk" (160 : Nat) ({ cls := "CaptionDesk", name := "valueAt", desc := "(I)I" } : Jvm.MethodName)) ∈ cd_Ts := cd_in (cd_t3 (List.mem_of_getElem? (i := 8) (by decide +kernel))) rfl
theorem tl_489 : (Jvm.Cond.privateMethod ({ cls := "CaptionDesk", name := "valueAt", desc := "(I)I" } : Jvm.MethodName)) ∈ lw_tbl := cd_t3 (List.mem_of_getElem? (i := 9) (by decide +kernel))
theorem tw_490 : (Jvm.Cond.instanceMethod ({ cls := "CaptionDesk", name := "valueAt", desc := "(I)I" } : Jvm.MethodName)) ∈ cd_Ts := cd_in (cd_t3 (List.mem_of_getElem? (i := 10) (by decide +kernel))) rfl
set_option maxRecDepth 100000 in
theorem tw_491 : (Jvm.Cond.code ({ cls := "CaptionDesk", name := "valueAt", desc := "(I)I" } : Jvm.MethodName) prog_1_method_28_code (3 : Nat) (Option.some Jvm.ClassFile.FieldType.int)) ∈ cd_Ts := cd_in (cd_t3 (List.mem_of_getElem? (i := 11) rfl)) rfl
theorem tw_492 : (Jvm.Cond.methodLink "CaptionDesk" (163 : Nat) ({ cls := "CaptionDesk", name := "magazineOf", desc := "(I)I" } : Jvm.MethodName)) ∈ cd_Ts := cd_in (cd_t3 (List.mem_of_getElem? (i := 12) (by decide +kernel))) rfl
theorem tw_493 : (Jvm.Cond.static ({ cls := "CaptionDesk", name := "magazineOf", desc := "(I)I" } : Jvm.MethodName)) ∈ cd_Ts := cd_in (cd_t3 (List.mem_of_getElem? (i := 13) (by decide +kernel))) rfl
set_option maxRecDepth 100000 in
theorem tw_494 : (Jvm.Cond.code ({ cls := "CaptionDesk", name := "magazineOf", desc := "(I)I" } : Jvm.MethodName) prog_1_method_25_code (2 : Nat) (Option.some Jvm.ClassFile.FieldType.int)) ∈ cd_Ts := cd_in (cd_t3 (List.mem_of_getElem? (i := 14) rfl)) rfl
theorem tw_495 : (Jvm.Cond.methodLink "CaptionDesk" (166 : Nat) ({ cls := "CaptionDesk", name := "takeRow", desc := "(II)V" } : Jvm.MethodName)) ∈ cd_Ts := cd_in (cd_t3 (List.mem_of_getElem? (i := 15) (by decide +kernel))) rfl
theorem tl_496 : (Jvm.Cond.privateMethod ({ cls := "CaptionDesk", name := "takeRow", desc := "(II)V" } : Jvm.MethodName)) ∈ lw_tbl := cd_t3 (List.mem_of_getElem? (i := 16) (by decide +kernel))
theorem tw_497 : (Jvm.Cond.instanceMethod ({ cls := "CaptionDesk", name := "takeRow", desc := "(II)V" } : Jvm.MethodName)) ∈ cd_Ts := cd_in (cd_t3 (List.mem_of_getElem? (i := 17) (by decide +kernel))) rfl
set_option maxRecDepth 100000 in
theorem tw_498 : (Jvm.Cond.code ({ cls := "CaptionDesk", name := "takeRow", desc := "(II)V" } : Jvm.MethodName) prog_1_method_29_code (4 : Nat) (Option.none : Option Jvm.ClassFile.FieldType)) ∈ cd_Ts := cd_in (cd_t3 (List.mem_of_getElem? (i := 18) rfl)) rfl
theorem tw_499 : (Jvm.Cond.methodLink "CaptionDesk" (236 : Nat) ({ cls := "CaptionDesk", name := "takeHeader", desc := "(I)V" } : Jvm.MethodName)) ∈ cd_Ts := cd_in (cd_t3 (List.mem_of_getElem? (i := 19) (by decide +kernel))) rfl
theorem tl_500 : (Jvm.Cond.privateMethod ({ cls := "CaptionDesk", name := "takeHeader", desc := "(I)V" } : Jvm.MethodName)) ∈ lw_tbl := cd_t3 (List.mem_of_getElem? (i := 20) (by decide +kernel))
theorem tw_501 : (Jvm.Cond.instanceMethod ({ cls := "CaptionDesk", name := "takeHeader", desc := "(I)V" } : Jvm.MethodName)) ∈ cd_Ts := cd_in (cd_t3 (List.mem_of_getElem? (i := 21) (by decide +kernel))) rfl
set_option maxRecDepth 100000 in
theorem tw_502 : (Jvm.Cond.code ({ cls := "CaptionDesk", name := "takeHeader", desc := "(I)V" } : Jvm.MethodName) prog_1_method_30_code (5 : Nat) (Option.none : Option Jvm.ClassFile.FieldType)) ∈ cd_Ts := cd_in (cd_t3 (List.mem_of_getElem? (i := 22) rfl)) rfl
theorem tw_503 : (Jvm.Cond.methodLink "CaptionDesk" (247 : Nat) ({ cls := "CaptionDesk", name := "readValues", desc := "(II)Z" } : Jvm.MethodName)) ∈ cd_Ts := cd_in (cd_t3 (List.mem_of_getElem? (i := 23) (by decide +kernel))) rfl
theorem tl_504 : (Jvm.Cond.privateMethod ({ cls := "CaptionDesk", name := "readValues", desc := "(II)Z" } : Jvm.MethodName)) ∈ lw_tbl := cd_t3 (List.mem_of_getElem? (i := 24) (by decide +kernel))
theorem tw_505 : (Jvm.Cond.instanceMethod ({ cls := "CaptionDesk", name := "readValues", desc := "(II)Z" } : Jvm.MethodName)) ∈ cd_Ts := cd_in (cd_t3 (List.mem_of_getElem? (i := 25) (by decide +kernel))) rfl
set_option maxRecDepth 100000 in
theorem tw_506 : (Jvm.Cond.code ({ cls := "CaptionDesk", name := "readValues", desc := "(II)Z" } : Jvm.MethodName) prog_1_method_34_code (5 : Nat) (Option.some Jvm.ClassFile.FieldType.boolean)) ∈ cd_Ts := cd_in (cd_t3 (List.mem_of_getElem? (i := 26) rfl)) rfl
theorem tw_507 : (Jvm.Cond.methodLink "CaptionDesk" (250 : Nat) ({ cls := "CaptionDesk", name := "closePage", desc := "(I)V" } : Jvm.MethodName)) ∈ cd_Ts := cd_in (cd_t3 (List.mem_of_getElem? (i := 27) (by decide +kernel))) rfl
theorem tl_508 : (Jvm.Cond.privateMethod ({ cls := "CaptionDesk", name := "closePage", desc := "(I)V" } : Jvm.MethodName)) ∈ lw_tbl := cd_t3 (List.mem_of_getElem? (i := 28) (by decide +kernel))
theorem tw_509 : (Jvm.Cond.instanceMethod ({ cls := "CaptionDesk", name := "closePage", desc := "(I)V" } : Jvm.MethodName)) ∈ cd_Ts := cd_in (cd_t3 (List.mem_of_getElem? (i := 29) (by decide +kernel))) rfl
set_option maxRecDepth 100000 in
theorem tw_510 : (Jvm.Cond.code ({ cls := "CaptionDesk", name := "closePage", desc := "(I)V" } : Jvm.MethodName) prog_1_method_31_code (3 : Nat) (Option.none : Option Jvm.ClassFile.FieldType)) ∈ cd_Ts := cd_in (cd_t3 (List.mem_of_getElem? (i := 30) rfl)) rfl
theorem tw_511 : (Jvm.Cond.methodLink "CaptionDesk" (224 : Nat) ({ cls := "CaptionDesk$Store", name := "placeOfOpen", desc := "(I)I" } : Jvm.MethodName)) ∈ cd_Ts := cd_in (cd_t3 (List.mem_of_getElem? (i := 31) (by decide +kernel))) rfl
theorem tw_512 : (Jvm.Cond.instanceMethod ({ cls := "CaptionDesk$Store", name := "placeOfOpen", desc := "(I)I" } : Jvm.MethodName)) ∈ cd_Ts := cd_in (cd_t3 (List.mem_of_getElem? (i := 32) (by decide +kernel))) rfl
theorem tw_513 : (Jvm.Cond.selects "CaptionDesk$Store" ({ cls := "CaptionDesk$Store", name := "placeOfOpen", desc := "(I)I" } : Jvm.MethodName) ({ cls := "CaptionDesk$Store", name := "placeOfOpen", desc := "(I)I" } : Jvm.MethodName)) ∈ cd_Ts := cd_in (cd_t3 (List.mem_of_getElem? (i := 33) (by decide +kernel))) rfl
set_option maxRecDepth 100000 in
theorem tw_514 : (Jvm.Cond.code ({ cls := "CaptionDesk$Store", name := "placeOfOpen", desc := "(I)I" } : Jvm.MethodName) prog_8_method_4_code (4 : Nat) (Option.some Jvm.ClassFile.FieldType.int)) ∈ cd_Ts := cd_in (cd_t3 (List.mem_of_getElem? (i := 34) rfl)) rfl
theorem tw_515 : (Jvm.Cond.methodLink "CaptionDesk" (177 : Nat) ({ cls := "CaptionDesk$Store", name := "pageAt", desc := "(I)LCaptionDesk$Page;" } : Jvm.MethodName)) ∈ cd_Ts := cd_in (cd_t3 (List.mem_of_getElem? (i := 35) (by decide +kernel))) rfl
theorem tw_516 : (Jvm.Cond.methodLink "CaptionDesk" (265 : Nat) ({ cls := "CaptionDesk$Watched", name := "see", desc := "(LCaptionDesk$Page;)V" } : Jvm.MethodName)) ∈ cd_Ts := cd_in (cd_t3 (List.mem_of_getElem? (i := 36) (by decide +kernel))) rfl
theorem tw_517 : (Jvm.Cond.instanceMethod ({ cls := "CaptionDesk$Watched", name := "see", desc := "(LCaptionDesk$Page;)V" } : Jvm.MethodName)) ∈ cd_Ts := cd_in (cd_t3 (List.mem_of_getElem? (i := 37) (by decide +kernel))) rfl
theorem tw_518 : (Jvm.Cond.selects "CaptionDesk$Watched" ({ cls := "CaptionDesk$Watched", name := "see", desc := "(LCaptionDesk$Page;)V" } : Jvm.MethodName) ({ cls := "CaptionDesk$Watched", name := "see", desc := "(LCaptionDesk$Page;)V" } : Jvm.MethodName)) ∈ cd_Ts := cd_in (cd_t3 (List.mem_of_getElem? (i := 38) (by decide +kernel))) rfl
set_option maxRecDepth 100000 in
theorem tw_519 : (Jvm.Cond.code ({ cls := "CaptionDesk$Watched", name := "see", desc := "(LCaptionDesk$Page;)V" } : Jvm.MethodName) prog_9_method_3_code (2 : Nat) (Option.none : Option Jvm.ClassFile.FieldType)) ∈ cd_Ts := cd_in (cd_t3 (List.mem_of_getElem? (i := 39) rfl)) rfl
theorem tw_520 : (Jvm.Cond.methodLink "CaptionDesk$Watched" (29 : Nat) ({ cls := "CaptionDesk$Page", name := "hasName", desc := "(III)Z" } : Jvm.MethodName)) ∈ cd_Ts := cd_in (cd_t3 (List.mem_of_getElem? (i := 40) (by decide +kernel))) rfl
theorem tw_521 : (Jvm.Cond.methodLink "CaptionDesk$Watched" (36 : Nat) ({ cls := "CaptionDesk$PageText", name := "copyFrom", desc := "(LCaptionDesk$PageText;)V" } : Jvm.MethodName)) ∈ cd_Ts := cd_in (cd_t3 (List.mem_of_getElem? (i := 41) (by decide +kernel))) rfl
theorem tw_522 : (Jvm.Cond.instanceMethod ({ cls := "CaptionDesk$PageText", name := "copyFrom", desc := "(LCaptionDesk$PageText;)V" } : Jvm.MethodName)) ∈ cd_Ts := cd_in (cd_t3 (List.mem_of_getElem? (i := 42) (by decide +kernel))) rfl
theorem tw_523 : (Jvm.Cond.selects "CaptionDesk$PageText" ({ cls := "CaptionDesk$PageText", name := "copyFrom", desc := "(LCaptionDesk$PageText;)V" } : Jvm.MethodName) ({ cls := "CaptionDesk$PageText", name := "copyFrom", desc := "(LCaptionDesk$PageText;)V" } : Jvm.MethodName)) ∈ cd_Ts := cd_in (cd_t3 (List.mem_of_getElem? (i := 43) (by decide +kernel))) rfl
set_option maxRecDepth 100000 in
theorem tw_524 : (Jvm.Cond.code ({ cls := "CaptionDesk$PageText", name := "copyFrom", desc := "(LCaptionDesk$PageText;)V" } : Jvm.MethodName) prog_6_method_5_code (2 : Nat) (Option.none : Option Jvm.ClassFile.FieldType)) ∈ cd_Ts := cd_in (cd_t3 (List.mem_of_getElem? (i := 44) rfl)) rfl
theorem tw_525 : (Jvm.Cond.methodLink "CaptionDesk$PageText" (37 : Nat) ({ cls := "java/lang/System", name := "arraycopy", desc := "(Ljava/lang/Object;ILjava/lang/Object;II)V" } : Jvm.MethodName)) ∈ cd_Ts := cd_in (cd_t3 (List.mem_of_getElem? (i := 45) (by decide +kernel))) rfl
theorem tw_526 : (Jvm.Cond.methodLink "CaptionDesk" (253 : Nat) ({ cls := "CaptionDesk", name := "subcodeOf", desc := "(IIII)I" } : Jvm.MethodName)) ∈ cd_Ts := cd_in (cd_t3 (List.mem_of_getElem? (i := 46) (by decide +kernel))) rfl
theorem tw_527 : (Jvm.Cond.static ({ cls := "CaptionDesk", name := "subcodeOf", desc := "(IIII)I" } : Jvm.MethodName)) ∈ cd_Ts := cd_in (cd_t3 (List.mem_of_getElem? (i := 47) (by decide +kernel))) rfl
set_option maxRecDepth 100000 in
theorem tw_528 : (Jvm.Cond.code ({ cls := "CaptionDesk", name := "subcodeOf", desc := "(IIII)I" } : Jvm.MethodName) prog_1_method_26_code (4 : Nat) (Option.some Jvm.ClassFile.FieldType.int)) ∈ cd_Ts := cd_in (cd_t3 (List.mem_of_getElem? (i := 48) rfl)) rfl
theorem tw_529 : (Jvm.Cond.methodLink "CaptionDesk" (257 : Nat) ({ cls := "CaptionDesk$Store", name := "bringToEnd", desc := "(III)LCaptionDesk$Page;" } : Jvm.MethodName)) ∈ cd_Ts := cd_in (cd_t3 (List.mem_of_getElem? (i := 49) (by decide +kernel))) rfl
theorem tw_530 : (Jvm.Cond.instanceMethod ({ cls := "CaptionDesk$Store", name := "bringToEnd", desc := "(III)LCaptionDesk$Page;" } : Jvm.MethodName)) ∈ cd_Ts := cd_in (cd_t3 (List.mem_of_getElem? (i := 50) (by decide +kernel))) rfl
theorem tw_531 : (Jvm.Cond.selects "CaptionDesk$Store" ({ cls := "CaptionDesk$Store", name := "bringToEnd", desc := "(III)LCaptionDesk$Page;" } : Jvm.MethodName) ({ cls := "CaptionDesk$Store", name := "bringToEnd", desc := "(III)LCaptionDesk$Page;" } : Jvm.MethodName)) ∈ cd_Ts := cd_in (cd_t3 (List.mem_of_getElem? (i := 51) (by decide +kernel))) rfl
set_option maxRecDepth 100000 in
theorem tw_532 : (Jvm.Cond.code ({ cls := "CaptionDesk$Store", name := "bringToEnd", desc := "(III)LCaptionDesk$Page;" } : Jvm.MethodName) prog_8_method_5_code (7 : Nat) (Option.some (Jvm.ClassFile.FieldType.object "CaptionDesk$Page"))) ∈ cd_Ts := cd_in (cd_t3 (List.mem_of_getElem? (i := 52) rfl)) rfl
theorem tw_533 : (Jvm.Cond.methodLink "CaptionDesk$Store" (40 : Nat) ({ cls := "CaptionDesk$Store", name := "placeOf", desc := "(III)I" } : Jvm.MethodName)) ∈ cd_Ts := cd_in (cd_t3 (List.mem_of_getElem? (i := 53) (by decide +kernel))) rfl
theorem tw_534 : (Jvm.Cond.instantiable "CaptionDesk$Page" (9 : Nat)) ∈ cd_Ts := cd_in (cd_t3 (List.mem_of_getElem? (i := 54) (by decide +kernel))) rfl
theorem tw_536 : (Jvm.Cond.instanceMethod ({ cls := "CaptionDesk$Page", name := "<init>", desc := "()V" } : Jvm.MethodName)) ∈ cd_Ts := cd_in (cd_t3 (List.mem_of_getElem? (i := 56) (by decide +kernel))) rfl
set_option maxRecDepth 100000 in
theorem tw_537 : (Jvm.Cond.code ({ cls := "CaptionDesk$Page", name := "<init>", desc := "()V" } : Jvm.MethodName) prog_5_method_1_code (1 : Nat) (Option.none : Option Jvm.ClassFile.FieldType)) ∈ cd_Ts := cd_in (cd_t3 (List.mem_of_getElem? (i := 57) rfl)) rfl
theorem tw_538 : (Jvm.Cond.methodLink "CaptionDesk$Page" (3 : Nat) ({ cls := "java/lang/Object", name := "<init>", desc := "()V" } : Jvm.MethodName)) ∈ cd_Ts := cd_in (cd_t3 (List.mem_of_getElem? (i := 58) (by decide +kernel))) rfl
theorem tw_539 : (Jvm.Cond.classLink "CaptionDesk$Page" (9 : Nat) "CaptionDesk$PageText") ∈ cd_Ts := cd_in (cd_t3 (List.mem_of_getElem? (i := 59) (by decide +kernel))) rfl
theorem tw_541 : (Jvm.Cond.fieldLink "CaptionDesk$Page" (12 : Nat) "CaptionDesk$Page" "text" "LCaptionDesk$PageText;") ∈ cd_Ts := cd_in (cd_t3 (List.mem_of_getElem? (i := 61) (by decide +kernel))) rfl
theorem tw_544 : (Jvm.Cond.fieldLink "CaptionDesk$Page" (18 : Nat) "CaptionDesk$Page" "links" "[I") ∈ cd_Ts := cd_in (cd_t3 (List.mem_of_getElem? (i := 64) (by decide +kernel))) rfl
theorem tw_546 : (Jvm.Cond.fieldLink "CaptionDesk$Page" (22 : Nat) "CaptionDesk$Page" "magazine" "I") ∈ cd_Ts := cd_in (cd_t3 (List.mem_of_getElem? (i := 66) (by decide +kernel))) rfl
theorem tw_549 : (Jvm.Cond.fieldLink "CaptionDesk$Page" (26 : Nat) "CaptionDesk$Page" "number" "I") ∈ cd_Ts := cd_in (cd_t3 (List.mem_of_getElem? (i := 69) (by decide +kernel))) rfl
theorem tw_551 : (Jvm.Cond.fieldLink "CaptionDesk$Page" (29 : Nat) "CaptionDesk$Page" "subcode" "I") ∈ cd_Ts := cd_in (cd_t3 (List.mem_of_getElem? (i := 71) (by decide +kernel))) rfl
theorem tw_553 : (Jvm.Cond.fieldLink "CaptionDesk$Page" (32 : Nat) "CaptionDesk$Page" "flags" "I") ∈ cd_Ts := cd_in (cd_t3 (List.mem_of_getElem? (i := 73) (by decide +kernel))) rfl
theorem tw_555 : (Jvm.Cond.fieldLink "CaptionDesk$Page" (35 : Nat) "CaptionDesk$Page" "isOpen" "Z") ∈ cd_Ts := cd_in (cd_t3 (List.mem_of_getElem? (i := 75) (by decide +kernel))) rfl
theorem tw_558 : (Jvm.Cond.fieldLink "CaptionDesk$Page" (39 : Nat) "CaptionDesk$Page" "closings" "I") ∈ cd_Ts := cd_in (cd_t3 (List.mem_of_getElem? (i := 78) (by decide +kernel))) rfl
theorem tw_560 : (Jvm.Cond.fieldLink "CaptionDesk$Page" (42 : Nat) "CaptionDesk$Page" "headers" "I") ∈ cd_Ts := cd_in (cd_t3 (List.mem_of_getElem? (i := 80) (by decide +kernel))) rfl
theorem tw_562 : (Jvm.Cond.laysFinal "CaptionDesk$Page" "CaptionDesk$Page" "text" "LCaptionDesk$PageText;") ∈ cd_Ts := cd_in (cd_t3 (List.mem_of_getElem? (i := 82) (by decide +kernel))) rfl
theorem tl_563 : (Jvm.Cond.soleField "CaptionDesk$Page" "text") ∈ lw_tbl := cd_t3 (List.mem_of_getElem? (i := 83) (by decide +kernel))
theorem tw_564 : (Jvm.Cond.laysFinal "CaptionDesk$Page" "CaptionDesk$Page" "links" "[I") ∈ cd_Ts := cd_in (cd_t3 (List.mem_of_getElem? (i := 84) (by decide +kernel))) rfl
theorem tl_565 : (Jvm.Cond.soleField "CaptionDesk$Page" "links") ∈ lw_tbl := cd_t3 (List.mem_of_getElem? (i := 85) (by decide +kernel))
theorem tw_566 : (Jvm.Cond.lays "CaptionDesk$Page" "CaptionDesk$Page" "magazine" "I") ∈ cd_Ts := cd_in (cd_t3 (List.mem_of_getElem? (i := 86) (by decide +kernel))) rfl
theorem tl_567 : (Jvm.Cond.soleField "CaptionDesk$Page" "magazine") ∈ lw_tbl := cd_t3 (List.mem_of_getElem? (i := 87) (by decide +kernel))
theorem tw_568 : (Jvm.Cond.lays "CaptionDesk$Page" "CaptionDesk$Page" "number" "I") ∈ cd_Ts := cd_in (cd_t3 (List.mem_of_getElem? (i := 88) (by decide +kernel))) rfl
theorem tl_569 : (Jvm.Cond.soleField "CaptionDesk$Page" "number") ∈ lw_tbl := cd_t3 (List.mem_of_getElem? (i := 89) (by decide +kernel))
theorem tw_570 : (Jvm.Cond.lays "CaptionDesk$Page" "CaptionDesk$Page" "subcode" "I") ∈ cd_Ts := cd_in (cd_t3 (List.mem_of_getElem? (i := 90) (by decide +kernel))) rfl
theorem tl_571 : (Jvm.Cond.soleField "CaptionDesk$Page" "subcode") ∈ lw_tbl := cd_t3 (List.mem_of_getElem? (i := 91) (by decide +kernel))
theorem tw_572 : (Jvm.Cond.lays "CaptionDesk$Page" "CaptionDesk$Page" "flags" "I") ∈ cd_Ts := cd_in (cd_t3 (List.mem_of_getElem? (i := 92) (by decide +kernel))) rfl
theorem tl_573 : (Jvm.Cond.soleField "CaptionDesk$Page" "flags") ∈ lw_tbl := cd_t3 (List.mem_of_getElem? (i := 93) (by decide +kernel))
theorem tw_574 : (Jvm.Cond.lays "CaptionDesk$Page" "CaptionDesk$Page" "isOpen" "Z") ∈ cd_Ts := cd_in (cd_t3 (List.mem_of_getElem? (i := 94) (by decide +kernel))) rfl
theorem tl_575 : (Jvm.Cond.soleField "CaptionDesk$Page" "isOpen") ∈ lw_tbl := cd_t3 (List.mem_of_getElem? (i := 95) (by decide +kernel))
theorem tw_576 : (Jvm.Cond.lays "CaptionDesk$Page" "CaptionDesk$Page" "closings" "I") ∈ cd_Ts := cd_in (cd_t3 (List.mem_of_getElem? (i := 96) (by decide +kernel))) rfl
theorem tl_577 : (Jvm.Cond.soleField "CaptionDesk$Page" "closings") ∈ lw_tbl := cd_t3 (List.mem_of_getElem? (i := 97) (by decide +kernel))
theorem tw_578 : (Jvm.Cond.lays "CaptionDesk$Page" "CaptionDesk$Page" "headers" "I") ∈ cd_Ts := cd_in (cd_t3 (List.mem_of_getElem? (i := 98) (by decide +kernel))) rfl
theorem tl_579 : (Jvm.Cond.soleField "CaptionDesk$Page" "headers") ∈ lw_tbl := cd_t3 (List.mem_of_getElem? (i := 99) (by decide +kernel))
theorem tw_580 : (Jvm.Cond.superclass "CaptionDesk$Page" "java/lang/Object") ∈ cd_Ts := cd_in (cd_t3 (List.mem_of_getElem? (i := 100) (by decide +kernel))) rfl
theorem tw_581 : (Jvm.Cond.methodLink "CaptionDesk$Store" (45 : Nat) ({ cls := "CaptionDesk$Store", name := "takeOut", desc := "(I)V" } : Jvm.MethodName)) ∈ cd_Ts := cd_in (cd_t3 (List.mem_of_getElem? (i := 101) (by decide +kernel))) rfl
theorem tl_582 : (Jvm.Cond.privateMethod ({ cls := "CaptionDesk$Store", name := "takeOut", desc := "(I)V" } : Jvm.MethodName)) ∈ lw_tbl := cd_t3 (List.mem_of_getElem? (i := 102) (by decide +kernel))
theorem tw_583 : (Jvm.Cond.instanceMethod ({ cls := "CaptionDesk$Store", name := "takeOut", desc := "(I)V" } : Jvm.MethodName)) ∈ cd_Ts := cd_in (cd_t3 (List.mem_of_getElem? (i := 103) (by decide +kernel))) rfl
set_option maxRecDepth 100000 in
theorem tw_584 : (Jvm.Cond.code ({ cls := "CaptionDesk$Store", name := "takeOut", desc := "(I)V" } : Jvm.MethodName) prog_8_method_6_code (3 : Nat) (Option.none : Option Jvm.ClassFile.FieldType)) ∈ cd_Ts := cd_in (cd_t3 (List.mem_of_getElem? (i := 104) rfl)) rfl
theorem tw_585 : (Jvm.Cond.methodLink "CaptionDesk$Store" (49 : Nat) ({ cls := "CaptionDesk$Page", name := "become", desc := "(III)V" } : Jvm.MethodName)) ∈ cd_Ts := cd_in (cd_t3 (List.mem_of_getElem? (i := 105) (by decide +kernel))) rfl
theorem tw_586 : (Jvm.Cond.instanceMethod ({ cls := "CaptionDesk$Page", name := "become", desc := "(III)V" } : Jvm.MethodName)) ∈ cd_Ts := cd_in (cd_t3 (List.mem_of_getElem? (i := 106) (by decide +kernel))) rfl
theorem tw_587 : (Jvm.Cond.selects "CaptionDesk$Page" ({ cls := "CaptionDesk$Page", name := "become", desc := "(III)V" } : Jvm.MethodName) ({ cls := "CaptionDesk$Page", name := "become", desc := "(III)V" } : Jvm.MethodName)) ∈ cd_Ts := cd_in (cd_t3 (List.mem_of_getElem? (i := 107) (by decide +kernel))) rfl
set_option maxRecDepth 100000 in
theorem tw_588 : (Jvm.Cond.code ({ cls := "CaptionDesk$Page", name := "become", desc := "(III)V" } : Jvm.MethodName) prog_5_method_2_code (4 : Nat) (Option.none : Option Jvm.ClassFile.FieldType)) ∈ cd_Ts := cd_in (cd_t3 (List.mem_of_getElem? (i := 108) rfl)) rfl
theorem tw_589 : (Jvm.Cond.methodLink "CaptionDesk$Page" (45 : Nat) ({ cls := "CaptionDesk$PageText", name := "eraseRows", desc := "(I)V" } : Jvm.MethodName)) ∈ cd_Ts := cd_in (cd_t3 (List.mem_of_getElem? (i := 109) (by decide +kernel))) rfl
theorem tw_590 : (Jvm.Cond.instanceMethod ({ cls := "CaptionDesk$PageText", name := "eraseRows", desc := "(I)V" } : Jvm.MethodName)) ∈ cd_Ts := cd_in (cd_t3 (List.mem_of_getElem? (i := 110) (by decide +kernel))) rfl
theorem tw_591 : (Jvm.Cond.selects "CaptionDesk$PageText" ({ cls := "CaptionDesk$PageText", name := "eraseRows", desc := "(I)V" } : Jvm.MethodName) ({ cls := "CaptionDesk$PageText", name := "eraseRows", desc := "(I)V" } : Jvm.MethodName)) ∈ cd_Ts := cd_in (cd_t3 (List.mem_of_getElem? (i := 111) (by decide +kernel))) rfl
set_option maxRecDepth 100000 in
theorem tw_592 : (Jvm.Cond.code ({ cls := "CaptionDesk$PageText", name := "eraseRows", desc := "(I)V" } : Jvm.MethodName) prog_6_method_3_code (3 : Nat) (Option.none : Option Jvm.ClassFile.FieldType)) ∈ cd_Ts := cd_in (cd_t3 (List.mem_of_getElem? (i := 112) rfl)) rfl
theorem tw_593 : (Jvm.Cond.methodLink "CaptionDesk$PageText" (23 : Nat) ({ cls := "java/lang/Math", name := "max", desc := "(II)I" } : Jvm.MethodName)) ∈ cd_Ts := cd_in (cd_t3 (List.mem_of_getElem? (i := 113) (by decide +kernel))) rfl
theorem tw_594 : (Jvm.Cond.methodLink "CaptionDesk$PageText" (29 : Nat) ({ cls := "CaptionDesk$PageText", name := "setSigns", desc := "(III)V" } : Jvm.MethodName)) ∈ cd_Ts := cd_in (cd_t3 (List.mem_of_getElem? (i := 114) (by decide +kernel))) rfl
theorem tl_595 : (Jvm.Cond.privateMethod ({ cls := "CaptionDesk$PageText", name := "setSigns", desc := "(III)V" } : Jvm.MethodName)) ∈ lw_tbl := cd_t3 (List.mem_of_getElem? (i := 115) (by decide +kernel))
theorem tw_596 : (Jvm.Cond.instanceMethod ({ cls := "CaptionDesk$PageText", name := "setSigns", desc := "(III)V" } : Jvm.MethodName)) ∈ cd_Ts := cd_in (cd_t3 (List.mem_of_getElem? (i := 116) (by decide +kernel))) rfl
set_option maxRecDepth 100000 in
theorem tw_597 : (Jvm.Cond.code ({ cls := "CaptionDesk$PageText", name := "setSigns", desc := "(III)V" } : Jvm.MethodName) prog_6_method_7_code (5 : Nat) (Option.none : Option Jvm.ClassFile.FieldType)) ∈ cd_Ts := cd_in (cd_t3 (List.mem_of_getElem? (i := 117) rfl)) rfl
theorem tw_598 : (Jvm.Cond.methodLink "CaptionDesk$Page" (49 : Nat) ({ cls := "CaptionDesk$Page", name := "eraseLinks", desc := "()V" } : Jvm.MethodName)) ∈ cd_Ts := cd_in (cd_t3 (List.mem_of_getElem? (i := 118) (by decide +kernel))) rfl
theorem tw_599 : (Jvm.Cond.instanceMethod ({ cls := "CaptionDesk$Page", name := "eraseLinks", desc := "()V" } : Jvm.MethodName)) ∈ cd_Ts := cd_in (cd_t3 (List.mem_of_getElem? (i := 119) (by decide +kernel))) rfl
theorem tw_600 : (Jvm.Cond.selects "CaptionDesk$Page" ({ cls := "CaptionDesk$Page", name := "eraseLinks", desc := "()V" } : Jvm.MethodName) ({ cls := "CaptionDesk$Page", name := "eraseLinks", desc := "()V" } : Jvm.MethodName)) ∈ cd_Ts := cd_in (cd_t3 (List.mem_of_getElem? (i := 120) (by decide +kernel))) rfl
set_option maxRecDepth 100000 in
theorem tw_601 : (Jvm.Cond.code ({ cls := "CaptionDesk$Page", name := "eraseLinks", desc := "()V" } : Jvm.MethodName) prog_5_method_3_code (2 : Nat) (Option.none : Option Jvm.ClassFile.FieldType)) ∈ cd_Ts := cd_in (cd_t3 (List.mem_of_getElem? (i := 121) rfl)) rfl
theorem tw_602 : (Jvm.Cond.methodLink "CaptionDesk$Store" (53 : Nat) ({ cls := "CaptionDesk$Store", name := "addBehind", desc := "(LCaptionDesk$Page;)V" } : Jvm.MethodName)) ∈ cd_Ts := cd_in (cd_t3 (List.mem_of_getElem? (i := 122) (by decide +kernel))) rfl
theorem tl_603 : (Jvm.Cond.privateMethod ({ cls := "CaptionDesk$Store", name := "addBehind", desc := "(LCaptionDesk$Page;)V" } : Jvm.MethodName)) ∈ lw_tbl := cd_t3 (List.mem_of_getElem? (i := 123) (by decide +kernel))
theorem tw_604 : (Jvm.Cond.instanceMethod ({ cls := "CaptionDesk$Store", name := "addBehind", desc := "(LCaptionDesk$Page;)V" } : Jvm.MethodName)) ∈ cd_Ts := cd_in (cd_t3 (List.mem_of_getElem? (i := 124) (by decide +kernel))) rfl
set_option maxRecDepth 100000 in
theorem tw_605 : (Jvm.Cond.code ({ cls := "CaptionDesk$Store", name := "addBehind", desc := "(LCaptionDesk$Page;)V" } : Jvm.MethodName) prog_8_method_7_code (2 : Nat) (Option.none : Option Jvm.ClassFile.FieldType)) ∈ cd_Ts := cd_in (cd_t3 (List.mem_of_getElem? (i := 125) rfl)) rfl
theorem tw_606 : (Jvm.Cond.methodLink "CaptionDesk" (261 : Nat) ({ cls := "CaptionDesk", name := "openPage", desc := "(LCaptionDesk$Page;)V" } : Jvm.MethodName)) ∈ cd_Ts := cd_in (cd_t3 (List.mem_of_getElem? (i := 126) (by decide +kernel))) rfl
theorem tl_607 : (Jvm.Cond.privateMethod ({ cls := "CaptionDesk", name := "openPage", desc := "(LCaptionDesk$Page;)V" } : Jvm.MethodName)) ∈ lw_tbl := cd_t3 (List.mem_of_getElem? (i := 127) (by decide +kernel))
theorem tw_608 : (Jvm.Cond.instanceMethod ({ cls := "CaptionDesk", name := "openPage", desc := "(LCaptionDesk$Page;)V" } : Jvm.MethodName)) ∈ cd_Ts := cd_in (cd_t3 (List.mem_of_getElem? (i := 128) (by decide +kernel))) rfl
set_option maxRecDepth 100000 in
theorem tw_609 : (Jvm.Cond.code ({ cls := "CaptionDesk", name := "openPage", desc := "(LCaptionDesk$Page;)V" } : Jvm.MethodName) prog_1_method_32_code (2 : Nat) (Option.none : Option Jvm.ClassFile.FieldType)) ∈ cd_Ts := cd_in (cd_t3 (List.mem_of_getElem? (i := 129) rfl)) rfl
theorem tw_610 : (Jvm.Cond.methodLink "CaptionDesk" (268 : Nat) ({ cls := "CaptionDesk$PageText", name := "eraseRows", desc := "(I)V" } : Jvm.MethodName)) ∈ cd_Ts := cd_in (cd_t3 (List.mem_of_getElem? (i := 130) (by decide +kernel))) rfl
theorem tw_611 : (Jvm.Cond.methodLink "CaptionDesk" (271 : Nat) ({ cls := "CaptionDesk$Page", name := "eraseLinks", desc := "()V" } : Jvm.MethodName)) ∈ cd_Ts := cd_in (cd_t3 (List.mem_of_getElem? (i := 131) (by decide +kernel))) rfl
theorem tw_612 : (Jvm.Cond.methodLink "CaptionDesk" (243 : Nat) ({ cls := "CaptionDesk$PageText", name := "fill", desc := "(II[II)V" } : Jvm.MethodName)) ∈ cd_Ts := cd_in (cd_t3 (List.mem_of_getElem? (i := 132) (by decide +kernel))) rfl
theorem tw_613 : (Jvm.Cond.instanceMethod ({ cls := "CaptionDesk$PageText", name := "fill", desc := "(II[II)V" } : Jvm.MethodName)) ∈ cd_Ts := cd_in (cd_t3 (List.mem_of_getElem? (i := 133) (by decide +kernel))) rfl
theorem tw_614 : (Jvm.Cond.selects "CaptionDesk$PageText" ({ cls := "CaptionDesk$PageText", name := "fill", desc := "(II[II)V" } : Jvm.MethodName) ({ cls := "CaptionDesk$PageText", name := "fill", desc := "(II[II)V" } : Jvm.MethodName)) ∈ cd_Ts := cd_in (cd_t3 (List.mem_of_getElem? (i := 134) (by decide +kernel))) rfl
set_option maxRecDepth 100000 in
theorem tw_615 : (Jvm.Cond.code ({ cls := "CaptionDesk$PageText", name := "fill", desc := "(II[II)V" } : Jvm.MethodName) prog_6_method_4_code (7 : Nat) (Option.none : Option Jvm.ClassFile.FieldType)) ∈ cd_Ts := cd_in (cd_t3 (List.mem_of_getElem? (i := 135) rfl)) rfl
theorem tw_618 : (Jvm.Cond.methodLink "CaptionDesk" (239 : Nat) ({ cls := "CaptionDesk", name := "takeLinks", desc := "(LCaptionDesk$Page;I)V" } : Jvm.MethodName)) ∈ cd_Ts := cd_in (cd_t3 (List.mem_of_getElem? (i := 138) (by decide +kernel))) rfl
theorem tl_619 : (Jvm.Cond.privateMethod ({ cls := "CaptionDesk", name := "takeLinks", desc := "(LCaptionDesk$Page;I)V" } : Jvm.MethodName)) ∈ lw_tbl := cd_t3 (List.mem_of_getElem? (i := 139) (by decide +kernel))
theorem tw_620 : (Jvm.Cond.instanceMethod ({ cls := "CaptionDesk", name := "takeLinks", desc := "(LCaptionDesk$Page;I)V" } : Jvm.MethodName)) ∈ cd_Ts := cd_in (cd_t3 (List.mem_of_getElem? (i := 140) (by decide +kernel))) rfl
set_option maxRecDepth 100000 in
theorem tw_621 : (Jvm.Cond.code ({ cls := "CaptionDesk", name := "takeLinks", desc := "(LCaptionDesk$Page;I)V" } : Jvm.MethodName) prog_1_method_33_code (6 : Nat) (Option.none : Option Jvm.ClassFile.FieldType)) ∈ cd_Ts := cd_in (cd_t3 (List.mem_of_getElem? (i := 141) rfl)) rfl
theorem tw_622 : (Jvm.Cond.methodLink "CaptionDeskLaw" (98 : Nat) ({ cls := "CaptionDeskLaw", name := "nothing", desc := "(LCaptionDesk;I[J)I" } : Jvm.MethodName)) ∈ cd_Ts := cd_in (cd_t3 (List.mem_of_getElem? (i := 142) (by decide +kernel))) rfl
theorem tw_623 : (Jvm.Cond.static ({ cls := "CaptionDeskLaw", name := "nothing", desc := "(LCaptionDesk;I[J)I" } : Jvm.MethodName)) ∈ cd_Ts := cd_in (cd_t3 (List.mem_of_getElem? (i := 143) (by decide +kernel))) rfl
set_option maxRecDepth 100000 in
theorem tw_624 : (Jvm.Cond.codeWith ({ cls := "CaptionDeskLaw", name := "nothing", desc := "(LCaptionDesk;I[J)I" } : Jvm.MethodName) method_9_code (4 : Nat) (Option.some Jvm.ClassFile.FieldType.int) [((0 : Nat), (9 : Nat), (12 : Nat), (13 : Nat))]) ∈ cd_Ts := cd_in (cd_t3 (List.mem_of_getElem? (i := 144) rfl)) rfl
theorem tw_625 : (Jvm.Cond.methodLink "CaptionDeskLaw" (36 : Nat) ({ cls := "CaptionDesk", name := "nothing", desc := "(I)I" } : Jvm.MethodName)) ∈ cd_Ts := cd_in (cd_t3 (List.mem_of_getElem? (i := 145) (by decide +kernel))) rfl
theorem tw_626 : (Jvm.Cond.instanceMethod ({ cls := "CaptionDesk", name := "nothing", desc := "(I)I" } : Jvm.MethodName)) ∈ cd_Ts := cd_in (cd_t3 (List.mem_of_getElem? (i := 146) (by decide +kernel))) rfl
theorem tw_627 : (Jvm.Cond.selects "CaptionDesk" ({ cls := "CaptionDesk", name := "nothing", desc := "(I)I" } : Jvm.MethodName) ({ cls := "CaptionDesk", name := "nothing", desc := "(I)I" } : Jvm.MethodName)) ∈ cd_Ts := cd_in (cd_t3 (List.mem_of_getElem? (i := 147) (by decide +kernel))) rfl
set_option maxRecDepth 100000 in
theorem tw_628 : (Jvm.Cond.code ({ cls := "CaptionDesk", name := "nothing", desc := "(I)I" } : Jvm.MethodName) prog_1_method_16_code (2 : Nat) (Option.some Jvm.ClassFile.FieldType.int)) ∈ cd_Ts := cd_in (cd_t3 (List.mem_of_getElem? (i := 148) rfl)) rfl
theorem tl_629 : (Jvm.Cond.stringRef "CaptionDesk" (169 : Nat) "what") ∈ lw_tbl := cd_t3 (List.mem_of_getElem? (i := 149) (by decide +kernel))
theorem tw_630 : (Jvm.Cond.methodLink "CaptionDeskLaw" (109 : Nat) ({ cls := "CaptionDeskLaw", name := "page", desc := "(LCaptionDesk;II[J)I" } : Jvm.MethodName)) ∈ cd_Ts := cd_in (cd_t3 (List.mem_of_getElem? (i := 150) (by decide +kernel))) rfl
theorem tw_631 : (Jvm.Cond.static ({ cls := "CaptionDeskLaw", name := "page", desc := "(LCaptionDesk;II[J)I" } : Jvm.MethodName)) ∈ cd_Ts := cd_in (cd_t3 (List.mem_of_getElem? (i := 151) (by decide +kernel))) rfl
set_option maxRecDepth 100000 in
theorem tw_632 : (Jvm.Cond.codeWith ({ cls := "CaptionDeskLaw", name := "page", desc := "(LCaptionDesk;II[J)I" } : Jvm.MethodName) method_10_code (5 : Nat) (Option.some Jvm.ClassFile.FieldType.int) [((0 : Nat), (10 : Nat), (13 : Nat), (13 : Nat))]) ∈ cd_Ts := cd_in (cd_t3 (List.mem_of_getElem? (i := 152) rfl)) rfl
theorem tw_633 : (Jvm.Cond.methodLink "CaptionDeskLaw" (39 : Nat) ({ cls := "CaptionDesk", name := "page", desc := "(II)I" } : Jvm.MethodName)) ∈ cd_Ts := cd_in (cd_t3 (List.mem_of_getElem? (i := 153) (by decide +kernel))) rfl
theorem tw_634 : (Jvm.Cond.instanceMethod ({ cls := "CaptionDesk", name := "page", desc := "(II)I" } : Jvm.MethodName)) ∈ cd_Ts := cd_in (cd_t3 (List.mem_of_getElem? (i := 154) (by decide +kernel))) rfl
theorem tw_635 : (Jvm.Cond.selects "CaptionDesk" ({ cls := "CaptionDesk", name := "page", desc := "(II)I" } : Jvm.MethodName) ({ cls := "CaptionDesk", name := "page", desc := "(II)I" } : Jvm.MethodName)) ∈ cd_Ts := cd_in (cd_t3 (List.mem_of_getElem? (i := 155) (by decide +kernel))) rfl
set_option maxRecDepth 100000 in
theorem tw_636 : (Jvm.Cond.code ({ cls := "CaptionDesk", name := "page", desc := "(II)I" } : Jvm.MethodName) prog_1_method_19_code (4 : Nat) (Option.some Jvm.ClassFile.FieldType.int)) ∈ cd_Ts := cd_in (cd_t3 (List.mem_of_getElem? (i := 156) rfl)) rfl
theorem tl_637 : (Jvm.Cond.stringRef "CaptionDesk" (181 : Nat) "place or what") ∈ lw_tbl := cd_t3 (List.mem_of_getElem? (i := 157) (by decide +kernel))
theorem tw_638 : (Jvm.Cond.methodLink "CaptionDeskLaw" (112 : Nat) ({ cls := "CaptionDeskLaw", name := "sign", desc := "(LCaptionDesk;III[J)I" } : Jvm.MethodName)) ∈ cd_Ts := cd_in (cd_t3 (List.mem_of_getElem? (i := 158) (by decide +kernel))) rfl
theorem tw_639 : (Jvm.Cond.static ({ cls := "CaptionDeskLaw", name := "sign", desc := "(LCaptionDesk;III[J)I" } : Jvm.MethodName)) ∈ cd_Ts := cd_in (cd_t3 (List.mem_of_getElem? (i := 159) (by decide +kernel))) rfl
set_option maxRecDepth 100000 in
theorem tw_640 : (Jvm.Cond.codeWith ({ cls := "CaptionDeskLaw", name := "sign", desc := "(LCaptionDesk;III[J)I" } : Jvm.MethodName) method_11_code (6 : Nat) (Option.some Jvm.ClassFile.FieldType.int) [((0 : Nat), (12 : Nat), (15 : Nat), (13 : Nat))]) ∈ cd_Ts := cd_in (cd_t3 (List.mem_of_getElem? (i := 160) rfl)) rfl
theorem tw_641 : (Jvm.Cond.methodLink "CaptionDeskLaw" (42 : Nat) ({ cls := "CaptionDesk", name := "sign", desc := "(III)I" } : Jvm.MethodName)) ∈ cd_Ts := cd_in (cd_t3 (List.mem_of_getElem? (i := 161) (by decide +kernel))) rfl
theorem tw_642 : (Jvm.Cond.instanceMethod ({ cls := "CaptionDesk", name := "sign", desc := "(III)I" } : Jvm.MethodName)) ∈ cd_Ts := cd_in (cd_t3 (List.mem_of_getElem? (i := 162) (by decide +kernel))) rfl
