theorem tw_643 : (Jvm.Cond.selects "CaptionDesk" ({ cls := "CaptionDesk", name := "sign", desc := "(III)I" } : Jvm.MethodName) ({ cls := "CaptionDesk", name := "sign", desc := "(III)I" } : Jvm.MethodName)) ∈ cd_Ts := cd_in (cd_t3 (List.mem_of_getElem? (i := 163) (by decide +kernel))) rfl
set_option maxRecDepth 100000 in
theorem tw_644 : (Jvm.Cond.code ({ cls := "CaptionDesk", name := "sign", desc := "(III)I" } : Jvm.MethodName) prog_1_method_20_code (5 : Nat) (Option.some Jvm.ClassFile.FieldType.int)) ∈ cd_Ts := cd_in (cd_t3 (List.mem_of_getElem? (i := 164) rfl)) rfl
theorem tl_645 : (Jvm.Cond.stringRef "CaptionDesk" (207 : Nat) "place, row or column") ∈ lw_tbl := cd_t3 (List.mem_of_getElem? (i := 165) (by decide +kernel))
theorem tw_646 : (Jvm.Cond.methodLink "CaptionDesk" (213 : Nat) ({ cls := "CaptionDesk$PageText", name := "signAt", desc := "(II)I" } : Jvm.MethodName)) ∈ cd_Ts := cd_in (cd_t3 (List.mem_of_getElem? (i := 166) (by decide +kernel))) rfl
theorem tw_647 : (Jvm.Cond.instanceMethod ({ cls := "CaptionDesk$PageText", name := "signAt", desc := "(II)I" } : Jvm.MethodName)) ∈ cd_Ts := cd_in (cd_t3 (List.mem_of_getElem? (i := 167) (by decide +kernel))) rfl
theorem tw_648 : (Jvm.Cond.selects "CaptionDesk$PageText" ({ cls := "CaptionDesk$PageText", name := "signAt", desc := "(II)I" } : Jvm.MethodName) ({ cls := "CaptionDesk$PageText", name := "signAt", desc := "(II)I" } : Jvm.MethodName)) ∈ cd_Ts := cd_in (cd_t3 (List.mem_of_getElem? (i := 168) (by decide +kernel))) rfl
set_option maxRecDepth 100000 in
theorem tw_649 : (Jvm.Cond.code ({ cls := "CaptionDesk$PageText", name := "signAt", desc := "(II)I" } : Jvm.MethodName) prog_6_method_2_code (3 : Nat) (Option.some Jvm.ClassFile.FieldType.int)) ∈ cd_Ts := cd_in (cd_t3 (List.mem_of_getElem? (i := 169) rfl)) rfl
theorem tw_650 : (Jvm.Cond.methodLink "CaptionDeskLaw" (115 : Nat) ({ cls := "CaptionDeskLaw", name := "link", desc := "(LCaptionDesk;III[J)I" } : Jvm.MethodName)) ∈ cd_Ts := cd_in (cd_t3 (List.mem_of_getElem? (i := 170) (by decide +kernel))) rfl
theorem tw_651 : (Jvm.Cond.static ({ cls := "CaptionDeskLaw", name := "link", desc := "(LCaptionDesk;III[J)I" } : Jvm.MethodName)) ∈ cd_Ts := cd_in (cd_t3 (List.mem_of_getElem? (i := 171) (by decide +kernel))) rfl
set_option maxRecDepth 100000 in
theorem tw_652 : (Jvm.Cond.codeWith ({ cls := "CaptionDeskLaw", name := "link", desc := "(LCaptionDesk;III[J)I" } : Jvm.MethodName) method_12_code (6 : Nat) (Option.some Jvm.ClassFile.FieldType.int) [((0 : Nat), (12 : Nat), (15 : Nat), (13 : Nat))]) ∈ cd_Ts := cd_in (cd_t3 (List.mem_of_getElem? (i := 172) rfl)) rfl
theorem tw_653 : (Jvm.Cond.methodLink "CaptionDeskLaw" (45 : Nat) ({ cls := "CaptionDesk", name := "link", desc := "(III)I" } : Jvm.MethodName)) ∈ cd_Ts := cd_in (cd_t3 (List.mem_of_getElem? (i := 173) (by decide +kernel))) rfl
theorem tw_654 : (Jvm.Cond.instanceMethod ({ cls := "CaptionDesk", name := "link", desc := "(III)I" } : Jvm.MethodName)) ∈ cd_Ts := cd_in (cd_t3 (List.mem_of_getElem? (i := 174) (by decide +kernel))) rfl
theorem tw_655 : (Jvm.Cond.selects "CaptionDesk" ({ cls := "CaptionDesk", name := "link", desc := "(III)I" } : Jvm.MethodName) ({ cls := "CaptionDesk", name := "link", desc := "(III)I" } : Jvm.MethodName)) ∈ cd_Ts := cd_in (cd_t3 (List.mem_of_getElem? (i := 175) (by decide +kernel))) rfl
set_option maxRecDepth 100000 in
theorem tw_656 : (Jvm.Cond.code ({ cls := "CaptionDesk", name := "link", desc := "(III)I" } : Jvm.MethodName) prog_1_method_21_code (5 : Nat) (Option.some Jvm.ClassFile.FieldType.int)) ∈ cd_Ts := cd_in (cd_t3 (List.mem_of_getElem? (i := 176) rfl)) rfl
theorem tl_657 : (Jvm.Cond.stringRef "CaptionDesk" (218 : Nat) "place, link or what") ∈ lw_tbl := cd_t3 (List.mem_of_getElem? (i := 177) (by decide +kernel))
theorem tw_658 : (Jvm.Cond.methodLink "CaptionDeskLaw" (118 : Nat) ({ cls := "CaptionDeskLaw", name := "open", desc := "(LCaptionDesk;I[J)I" } : Jvm.MethodName)) ∈ cd_Ts := cd_in (cd_t3 (List.mem_of_getElem? (i := 178) (by decide +kernel))) rfl
theorem tw_659 : (Jvm.Cond.static ({ cls := "CaptionDeskLaw", name := "open", desc := "(LCaptionDesk;I[J)I" } : Jvm.MethodName)) ∈ cd_Ts := cd_in (cd_t3 (List.mem_of_getElem? (i := 179) (by decide +kernel))) rfl
set_option maxRecDepth 100000 in
theorem tw_660 : (Jvm.Cond.codeWith ({ cls := "CaptionDeskLaw", name := "open", desc := "(LCaptionDesk;I[J)I" } : Jvm.MethodName) method_13_code (4 : Nat) (Option.some Jvm.ClassFile.FieldType.int) [((0 : Nat), (9 : Nat), (12 : Nat), (13 : Nat))]) ∈ cd_Ts := cd_in (cd_t3 (List.mem_of_getElem? (i := 180) rfl)) rfl
theorem tw_661 : (Jvm.Cond.methodLink "CaptionDeskLaw" (48 : Nat) ({ cls := "CaptionDesk", name := "open", desc := "(I)I" } : Jvm.MethodName)) ∈ cd_Ts := cd_in (cd_t3 (List.mem_of_getElem? (i := 181) (by decide +kernel))) rfl
theorem tw_662 : (Jvm.Cond.instanceMethod ({ cls := "CaptionDesk", name := "open", desc := "(I)I" } : Jvm.MethodName)) ∈ cd_Ts := cd_in (cd_t3 (List.mem_of_getElem? (i := 182) (by decide +kernel))) rfl
theorem tw_663 : (Jvm.Cond.selects "CaptionDesk" ({ cls := "CaptionDesk", name := "open", desc := "(I)I" } : Jvm.MethodName) ({ cls := "CaptionDesk", name := "open", desc := "(I)I" } : Jvm.MethodName)) ∈ cd_Ts := cd_in (cd_t3 (List.mem_of_getElem? (i := 183) (by decide +kernel))) rfl
set_option maxRecDepth 100000 in
theorem tw_664 : (Jvm.Cond.code ({ cls := "CaptionDesk", name := "open", desc := "(I)I" } : Jvm.MethodName) prog_1_method_22_code (2 : Nat) (Option.some Jvm.ClassFile.FieldType.int)) ∈ cd_Ts := cd_in (cd_t3 (List.mem_of_getElem? (i := 184) rfl)) rfl
theorem tl_665 : (Jvm.Cond.stringRef "CaptionDesk" (223 : Nat) "magazine") ∈ lw_tbl := cd_t3 (List.mem_of_getElem? (i := 185) (by decide +kernel))
theorem tw_666 : (Jvm.Cond.methodLink "CaptionDeskLaw" (124 : Nat) ({ cls := "CaptionDeskLaw", name := "watch", desc := "(LCaptionDesk;II[J)I" } : Jvm.MethodName)) ∈ cd_Ts := cd_in (cd_t3 (List.mem_of_getElem? (i := 186) (by decide +kernel))) rfl
theorem tw_667 : (Jvm.Cond.static ({ cls := "CaptionDeskLaw", name := "watch", desc := "(LCaptionDesk;II[J)I" } : Jvm.MethodName)) ∈ cd_Ts := cd_in (cd_t3 (List.mem_of_getElem? (i := 187) (by decide +kernel))) rfl
set_option maxRecDepth 100000 in
theorem tw_668 : (Jvm.Cond.codeWith ({ cls := "CaptionDeskLaw", name := "watch", desc := "(LCaptionDesk;II[J)I" } : Jvm.MethodName) method_14_code (5 : Nat) (Option.some Jvm.ClassFile.FieldType.int) [((0 : Nat), (10 : Nat), (13 : Nat), (54 : Nat))]) ∈ cd_Ts := cd_in (cd_t3 (List.mem_of_getElem? (i := 188) rfl)) rfl
theorem tw_669 : (Jvm.Cond.classLink "CaptionDeskLaw" (54 : Nat) "java/lang/IllegalArgumentException") ∈ cd_Ts := cd_in (cd_t3 (List.mem_of_getElem? (i := 189) (by decide +kernel))) rfl
theorem tw_670 : (Jvm.Cond.methodLink "CaptionDeskLaw" (51 : Nat) ({ cls := "CaptionDesk", name := "watch", desc := "(II)I" } : Jvm.MethodName)) ∈ cd_Ts := cd_in (cd_t3 (List.mem_of_getElem? (i := 190) (by decide +kernel))) rfl
theorem tw_671 : (Jvm.Cond.instanceMethod ({ cls := "CaptionDesk", name := "watch", desc := "(II)I" } : Jvm.MethodName)) ∈ cd_Ts := cd_in (cd_t3 (List.mem_of_getElem? (i := 191) (by decide +kernel))) rfl
theorem tw_672 : (Jvm.Cond.selects "CaptionDesk" ({ cls := "CaptionDesk", name := "watch", desc := "(II)I" } : Jvm.MethodName) ({ cls := "CaptionDesk", name := "watch", desc := "(II)I" } : Jvm.MethodName)) ∈ cd_Ts := cd_in (cd_t3 (List.mem_of_getElem? (i := 192) (by decide +kernel))) rfl
set_option maxRecDepth 100000 in
theorem tw_673 : (Jvm.Cond.code ({ cls := "CaptionDesk", name := "watch", desc := "(II)I" } : Jvm.MethodName) prog_1_method_35_code (3 : Nat) (Option.some Jvm.ClassFile.FieldType.int)) ∈ cd_Ts := cd_in (cd_t3 (List.mem_of_getElem? (i := 193) rfl)) rfl
theorem tw_674 : (Jvm.Cond.classLink "CaptionDesk" (274 : Nat) "java/lang/IllegalArgumentException") ∈ cd_Ts := cd_in (cd_t3 (List.mem_of_getElem? (i := 194) (by decide +kernel))) rfl
theorem tw_675 : (Jvm.Cond.instantiable "java/lang/IllegalArgumentException" (6 : Nat)) ∈ cd_Ts := cd_in (cd_t3 (List.mem_of_getElem? (i := 195) (by decide +kernel))) rfl
theorem tw_677 : (Jvm.Cond.selects "java/lang/IllegalArgumentException" ({ cls := "java/lang/Throwable", name := "fillInStackTrace", desc := "(I)Ljava/lang/Throwable;" } : Jvm.MethodName) ({ cls := "java/lang/Throwable", name := "fillInStackTrace", desc := "(I)Ljava/lang/Throwable;" } : Jvm.MethodName)) ∈ cd_Ts := cd_in (cd_t3 (List.mem_of_getElem? (i := 197) (by decide +kernel))) rfl
theorem tw_678 : (Jvm.Cond.lays "java/lang/IllegalArgumentException" "java/lang/Throwable" "cause" "Ljava/lang/Throwable;") ∈ cd_Ts := cd_in (cd_t3 (List.mem_of_getElem? (i := 198) (by decide +kernel))) rfl
theorem tw_679 : (Jvm.Cond.lays "java/lang/IllegalArgumentException" "java/lang/Throwable" "stackTrace" "[Ljava/lang/StackTraceElement;") ∈ cd_Ts := cd_in (cd_t3 (List.mem_of_getElem? (i := 199) (by decide +kernel))) rfl
theorem tw_680 : (Jvm.Cond.lays "java/lang/IllegalArgumentException" "java/lang/Throwable" "suppressedExceptions" "Ljava/util/List;") ∈ cd_Ts := cd_in (cd_t3 (List.mem_of_getElem? (i := 200) (by decide +kernel))) rfl
theorem tw_681 : (Jvm.Cond.lays "java/lang/IllegalArgumentException" "java/lang/Throwable" "detailMessage" "Ljava/lang/String;") ∈ cd_Ts := cd_in (cd_t3 (List.mem_of_getElem? (i := 201) (by decide +kernel))) rfl
theorem tw_682 : (Jvm.Cond.lays "java/lang/IllegalArgumentException" "java/lang/Throwable" "backtrace" "Ljava/lang/Object;") ∈ cd_Ts := cd_in (cd_t3 (List.mem_of_getElem? (i := 202) (by decide +kernel))) rfl
theorem tl_683 : (Jvm.Cond.stringRef "CaptionDesk" (276 : Nat) "magazine or number") ∈ lw_tbl := cd_t3 (List.mem_of_getElem? (i := 203) (by decide +kernel))
theorem tw_684 : (Jvm.Cond.methodLink "CaptionDesk" (278 : Nat) ({ cls := "java/lang/IllegalArgumentException", name := "<init>", desc := "(Ljava/lang/String;)V" } : Jvm.MethodName)) ∈ cd_Ts := cd_in (cd_t3 (List.mem_of_getElem? (i := 204) (by decide +kernel))) rfl
theorem tw_685 : (Jvm.Cond.instanceMethod ({ cls := "java/lang/IllegalArgumentException", name := "<init>", desc := "(Ljava/lang/String;)V" } : Jvm.MethodName)) ∈ cd_Ts := cd_in (cd_t3 (List.mem_of_getElem? (i := 205) (by decide +kernel))) rfl
set_option maxRecDepth 100000 in
theorem tw_686 : (Jvm.Cond.code ({ cls := "java/lang/IllegalArgumentException", name := "<init>", desc := "(Ljava/lang/String;)V" } : Jvm.MethodName) prog_13_method_2_code (2 : Nat) (Option.none : Option Jvm.ClassFile.FieldType)) ∈ cd_Ts := cd_in (cd_t3 (List.mem_of_getElem? (i := 206) rfl)) rfl
theorem tw_687 : (Jvm.Cond.methodLink "java/lang/IllegalArgumentException" (7 : Nat) ({ cls := "java/lang/RuntimeException", name := "<init>", desc := "(Ljava/lang/String;)V" } : Jvm.MethodName)) ∈ cd_Ts := cd_in (cd_t3 (List.mem_of_getElem? (i := 207) (by decide +kernel))) rfl
theorem tw_688 : (Jvm.Cond.lays "java/lang/IllegalArgumentException" "java/lang/Throwable" "depth" "I") ∈ cd_Ts := cd_in (cd_t3 (List.mem_of_getElem? (i := 208) (by decide +kernel))) rfl
theorem tw_689 : (Jvm.Cond.superclass "java/lang/IllegalArgumentException" "java/lang/RuntimeException") ∈ cd_Ts := cd_in (cd_t3 (List.mem_of_getElem? (i := 209) (by decide +kernel))) rfl
theorem tw_690 : (Jvm.Cond.methodLink "CaptionDesk" (279 : Nat) ({ cls := "CaptionDesk$Watched", name := "begin", desc := "(II)V" } : Jvm.MethodName)) ∈ cd_Ts := cd_in (cd_t3 (List.mem_of_getElem? (i := 210) (by decide +kernel))) rfl
theorem tw_691 : (Jvm.Cond.instanceMethod ({ cls := "CaptionDesk$Watched", name := "begin", desc := "(II)V" } : Jvm.MethodName)) ∈ cd_Ts := cd_in (cd_t3 (List.mem_of_getElem? (i := 211) (by decide +kernel))) rfl
theorem tw_692 : (Jvm.Cond.selects "CaptionDesk$Watched" ({ cls := "CaptionDesk$Watched", name := "begin", desc := "(II)V" } : Jvm.MethodName) ({ cls := "CaptionDesk$Watched", name := "begin", desc := "(II)V" } : Jvm.MethodName)) ∈ cd_Ts := cd_in (cd_t3 (List.mem_of_getElem? (i := 212) (by decide +kernel))) rfl
set_option maxRecDepth 100000 in
theorem tw_693 : (Jvm.Cond.code ({ cls := "CaptionDesk$Watched", name := "begin", desc := "(II)V" } : Jvm.MethodName) prog_9_method_2_code (3 : Nat) (Option.none : Option Jvm.ClassFile.FieldType)) ∈ cd_Ts := cd_in (cd_t3 (List.mem_of_getElem? (i := 213) rfl)) rfl
theorem tw_694 : (Jvm.Cond.methodLink "CaptionDesk$Watched" (25 : Nat) ({ cls := "CaptionDesk$PageText", name := "eraseRows", desc := "(I)V" } : Jvm.MethodName)) ∈ cd_Ts := cd_in (cd_t3 (List.mem_of_getElem? (i := 214) (by decide +kernel))) rfl
theorem tw_695 : (Jvm.Cond.methodLink "CaptionDeskLaw" (127 : Nat) ({ cls := "CaptionDeskLaw", name := "tick", desc := "(LCaptionDesk;I[J)I" } : Jvm.MethodName)) ∈ cd_Ts := cd_in (cd_t3 (List.mem_of_getElem? (i := 215) (by decide +kernel))) rfl
theorem tw_696 : (Jvm.Cond.static ({ cls := "CaptionDeskLaw", name := "tick", desc := "(LCaptionDesk;I[J)I" } : Jvm.MethodName)) ∈ cd_Ts := cd_in (cd_t3 (List.mem_of_getElem? (i := 216) (by decide +kernel))) rfl
set_option maxRecDepth 100000 in
theorem tw_697 : (Jvm.Cond.codeWith ({ cls := "CaptionDeskLaw", name := "tick", desc := "(LCaptionDesk;I[J)I" } : Jvm.MethodName) method_15_code (4 : Nat) (Option.some Jvm.ClassFile.FieldType.int) [((0 : Nat), (9 : Nat), (12 : Nat), (54 : Nat))]) ∈ cd_Ts := cd_in (cd_t3 (List.mem_of_getElem? (i := 217) rfl)) rfl
theorem tw_698 : (Jvm.Cond.methodLink "CaptionDeskLaw" (56 : Nat) ({ cls := "CaptionDesk", name := "tick", desc := "(I)I" } : Jvm.MethodName)) ∈ cd_Ts := cd_in (cd_t3 (List.mem_of_getElem? (i := 218) (by decide +kernel))) rfl
theorem tw_699 : (Jvm.Cond.instanceMethod ({ cls := "CaptionDesk", name := "tick", desc := "(I)I" } : Jvm.MethodName)) ∈ cd_Ts := cd_in (cd_t3 (List.mem_of_getElem? (i := 219) (by decide +kernel))) rfl
theorem tw_700 : (Jvm.Cond.selects "CaptionDesk" ({ cls := "CaptionDesk", name := "tick", desc := "(I)I" } : Jvm.MethodName) ({ cls := "CaptionDesk", name := "tick", desc := "(I)I" } : Jvm.MethodName)) ∈ cd_Ts := cd_in (cd_t3 (List.mem_of_getElem? (i := 220) (by decide +kernel))) rfl
set_option maxRecDepth 100000 in
theorem tw_701 : (Jvm.Cond.code ({ cls := "CaptionDesk", name := "tick", desc := "(I)I" } : Jvm.MethodName) prog_1_method_36_code (3 : Nat) (Option.some Jvm.ClassFile.FieldType.int)) ∈ cd_Ts := cd_in (cd_t3 (List.mem_of_getElem? (i := 221) rfl)) rfl
theorem tw_702 : (Jvm.Cond.constant "CaptionDesk" (282 : Nat) (100000 : Int32)) ∈ cd_Ts := cd_in (cd_t3 (List.mem_of_getElem? (i := 222) (by decide +kernel))) rfl
theorem tl_703 : (Jvm.Cond.stringRef "CaptionDesk" (283 : Nat) "n") ∈ lw_tbl := cd_t3 (List.mem_of_getElem? (i := 223) (by decide +kernel))
theorem tw_704 : (Jvm.Cond.methodLink "CaptionDesk" (288 : Nat) ({ cls := "CaptionDesk", name := "readLines", desc := "(I)V" } : Jvm.MethodName)) ∈ cd_Ts := cd_in (cd_t3 (List.mem_of_getElem? (i := 224) (by decide +kernel))) rfl
theorem tl_705 : (Jvm.Cond.privateMethod ({ cls := "CaptionDesk", name := "readLines", desc := "(I)V" } : Jvm.MethodName)) ∈ lw_tbl := cd_t3 (List.mem_of_getElem? (i := 225) (by decide +kernel))
theorem tw_706 : (Jvm.Cond.instanceMethod ({ cls := "CaptionDesk", name := "readLines", desc := "(I)V" } : Jvm.MethodName)) ∈ cd_Ts := cd_in (cd_t3 (List.mem_of_getElem? (i := 226) (by decide +kernel))) rfl
set_option maxRecDepth 100000 in
theorem tw_707 : (Jvm.Cond.code ({ cls := "CaptionDesk", name := "readLines", desc := "(I)V" } : Jvm.MethodName) prog_1_method_41_code (2 : Nat) (Option.none : Option Jvm.ClassFile.FieldType)) ∈ cd_Ts := cd_in (cd_t3 (List.mem_of_getElem? (i := 227) rfl)) rfl
theorem tw_708 : (Jvm.Cond.methodLink "CaptionDesk" (322 : Nat) ({ cls := "CaptionDesk$Watched", name := "addTo", desc := "(LCaptionDesk$Lines;)V" } : Jvm.MethodName)) ∈ cd_Ts := cd_in (cd_t3 (List.mem_of_getElem? (i := 228) (by decide +kernel))) rfl
theorem tw_709 : (Jvm.Cond.instanceMethod ({ cls := "CaptionDesk$Watched", name := "addTo", desc := "(LCaptionDesk$Lines;)V" } : Jvm.MethodName)) ∈ cd_Ts := cd_in (cd_t3 (List.mem_of_getElem? (i := 229) (by decide +kernel))) rfl
theorem tw_710 : (Jvm.Cond.selects "CaptionDesk$Watched" ({ cls := "CaptionDesk$Watched", name := "addTo", desc := "(LCaptionDesk$Lines;)V" } : Jvm.MethodName) ({ cls := "CaptionDesk$Watched", name := "addTo", desc := "(LCaptionDesk$Lines;)V" } : Jvm.MethodName)) ∈ cd_Ts := cd_in (cd_t3 (List.mem_of_getElem? (i := 230) (by decide +kernel))) rfl
set_option maxRecDepth 100000 in
theorem tw_711 : (Jvm.Cond.code ({ cls := "CaptionDesk$Watched", name := "addTo", desc := "(LCaptionDesk$Lines;)V" } : Jvm.MethodName) prog_9_method_4_code (2 : Nat) (Option.none : Option Jvm.ClassFile.FieldType)) ∈ cd_Ts := cd_in (cd_t3 (List.mem_of_getElem? (i := 231) rfl)) rfl
theorem tw_712 : (Jvm.Cond.methodLink "CaptionDesk$Watched" (40 : Nat) ({ cls := "CaptionDesk$PageText", name := "addTo", desc := "(LCaptionDesk$Lines;)V" } : Jvm.MethodName)) ∈ cd_Ts := cd_in (cd_t3 (List.mem_of_getElem? (i := 232) (by decide +kernel))) rfl
theorem tw_713 : (Jvm.Cond.instanceMethod ({ cls := "CaptionDesk$PageText", name := "addTo", desc := "(LCaptionDesk$Lines;)V" } : Jvm.MethodName)) ∈ cd_Ts := cd_in (cd_t3 (List.mem_of_getElem? (i := 233) (by decide +kernel))) rfl
theorem tw_714 : (Jvm.Cond.selects "CaptionDesk$PageText" ({ cls := "CaptionDesk$PageText", name := "addTo", desc := "(LCaptionDesk$Lines;)V" } : Jvm.MethodName) ({ cls := "CaptionDesk$PageText", name := "addTo", desc := "(LCaptionDesk$Lines;)V" } : Jvm.MethodName)) ∈ cd_Ts := cd_in (cd_t3 (List.mem_of_getElem? (i := 234) (by decide +kernel))) rfl
set_option maxRecDepth 100000 in
theorem tw_715 : (Jvm.Cond.code ({ cls := "CaptionDesk$PageText", name := "addTo", desc := "(LCaptionDesk$Lines;)V" } : Jvm.MethodName) prog_6_method_6_code (3 : Nat) (Option.none : Option Jvm.ClassFile.FieldType)) ∈ cd_Ts := cd_in (cd_t3 (List.mem_of_getElem? (i := 235) rfl)) rfl
theorem tw_716 : (Jvm.Cond.methodLink "CaptionDesk$PageText" (43 : Nat) ({ cls := "CaptionDesk$Lines", name := "addRow", desc := "([III)V" } : Jvm.MethodName)) ∈ cd_Ts := cd_in (cd_t3 (List.mem_of_getElem? (i := 236) (by decide +kernel))) rfl
theorem tw_717 : (Jvm.Cond.instanceMethod ({ cls := "CaptionDesk$Lines", name := "addRow", desc := "([III)V" } : Jvm.MethodName)) ∈ cd_Ts := cd_in (cd_t3 (List.mem_of_getElem? (i := 237) (by decide +kernel))) rfl
theorem tw_718 : (Jvm.Cond.selects "CaptionDesk$Lines" ({ cls := "CaptionDesk$Lines", name := "addRow", desc := "([III)V" } : Jvm.MethodName) ({ cls := "CaptionDesk$Lines", name := "addRow", desc := "([III)V" } : Jvm.MethodName)) ∈ cd_Ts := cd_in (cd_t3 (List.mem_of_getElem? (i := 238) (by decide +kernel))) rfl
set_option maxRecDepth 100000 in
theorem tw_719 : (Jvm.Cond.code ({ cls := "CaptionDesk$Lines", name := "addRow", desc := "([III)V" } : Jvm.MethodName) prog_4_method_2_code (7 : Nat) (Option.none : Option Jvm.ClassFile.FieldType)) ∈ cd_Ts := cd_in (cd_t3 (List.mem_of_getElem? (i := 239) rfl)) rfl
theorem tw_720 : (Jvm.Cond.methodLink "CaptionDesk$Lines" (15 : Nat) ({ cls := "java/lang/Math", name := "max", desc := "(II)I" } : Jvm.MethodName)) ∈ cd_Ts := cd_in (cd_t4 (List.mem_of_getElem? (i := 0) (by decide +kernel))) rfl
theorem tw_721 : (Jvm.Cond.methodLink "CaptionDesk$Lines" (21 : Nat) ({ cls := "CaptionDesk$Lines", name := "addByte", desc := "(I)V" } : Jvm.MethodName)) ∈ cd_Ts := cd_in (cd_t4 (List.mem_of_getElem? (i := 1) (by decide +kernel))) rfl
theorem tl_722 : (Jvm.Cond.privateMethod ({ cls := "CaptionDesk$Lines", name := "addByte", desc := "(I)V" } : Jvm.MethodName)) ∈ lw_tbl := cd_t4 (List.mem_of_getElem? (i := 2) (by decide +kernel))
theorem tw_723 : (Jvm.Cond.instanceMethod ({ cls := "CaptionDesk$Lines", name := "addByte", desc := "(I)V" } : Jvm.MethodName)) ∈ cd_Ts := cd_in (cd_t4 (List.mem_of_getElem? (i := 3) (by decide +kernel))) rfl
set_option maxRecDepth 100000 in
theorem tw_724 : (Jvm.Cond.code ({ cls := "CaptionDesk$Lines", name := "addByte", desc := "(I)V" } : Jvm.MethodName) prog_4_method_5_code (2 : Nat) (Option.none : Option Jvm.ClassFile.FieldType)) ∈ cd_Ts := cd_in (cd_t4 (List.mem_of_getElem? (i := 4) rfl)) rfl
theorem tw_725 : (Jvm.Cond.methodLink "CaptionDesk" (326 : Nat) ({ cls := "CaptionDesk$Screen", name := "addTo", desc := "(LCaptionDesk$Lines;)V" } : Jvm.MethodName)) ∈ cd_Ts := cd_in (cd_t4 (List.mem_of_getElem? (i := 5) (by decide +kernel))) rfl
theorem tw_726 : (Jvm.Cond.instanceMethod ({ cls := "CaptionDesk$Screen", name := "addTo", desc := "(LCaptionDesk$Lines;)V" } : Jvm.MethodName)) ∈ cd_Ts := cd_in (cd_t4 (List.mem_of_getElem? (i := 6) (by decide +kernel))) rfl
theorem tw_727 : (Jvm.Cond.selects "CaptionDesk$Screen" ({ cls := "CaptionDesk$Screen", name := "addTo", desc := "(LCaptionDesk$Lines;)V" } : Jvm.MethodName) ({ cls := "CaptionDesk$Screen", name := "addTo", desc := "(LCaptionDesk$Lines;)V" } : Jvm.MethodName)) ∈ cd_Ts := cd_in (cd_t4 (List.mem_of_getElem? (i := 7) (by decide +kernel))) rfl
set_option maxRecDepth 100000 in
theorem tw_728 : (Jvm.Cond.code ({ cls := "CaptionDesk$Screen", name := "addTo", desc := "(LCaptionDesk$Lines;)V" } : Jvm.MethodName) prog_7_method_9_code (3 : Nat) (Option.none : Option Jvm.ClassFile.FieldType)) ∈ cd_Ts := cd_in (cd_t4 (List.mem_of_getElem? (i := 8) rfl)) rfl
theorem tw_729 : (Jvm.Cond.methodLink "CaptionDesk$Screen" (36 : Nat) ({ cls := "CaptionDesk$Lines", name := "addRow", desc := "([III)V" } : Jvm.MethodName)) ∈ cd_Ts := cd_in (cd_t4 (List.mem_of_getElem? (i := 9) (by decide +kernel))) rfl
theorem tw_730 : (Jvm.Cond.methodLink "CaptionDesk" (291 : Nat) ({ cls := "CaptionDesk", name := "endCue", desc := "(I)V" } : Jvm.MethodName)) ∈ cd_Ts := cd_in (cd_t4 (List.mem_of_getElem? (i := 10) (by decide +kernel))) rfl
theorem tl_731 : (Jvm.Cond.privateMethod ({ cls := "CaptionDesk", name := "endCue", desc := "(I)V" } : Jvm.MethodName)) ∈ lw_tbl := cd_t4 (List.mem_of_getElem? (i := 11) (by decide +kernel))
theorem tw_732 : (Jvm.Cond.instanceMethod ({ cls := "CaptionDesk", name := "endCue", desc := "(I)V" } : Jvm.MethodName)) ∈ cd_Ts := cd_in (cd_t4 (List.mem_of_getElem? (i := 12) (by decide +kernel))) rfl
set_option maxRecDepth 100000 in
theorem tw_733 : (Jvm.Cond.code ({ cls := "CaptionDesk", name := "endCue", desc := "(I)V" } : Jvm.MethodName) prog_1_method_42_code (3 : Nat) (Option.none : Option Jvm.ClassFile.FieldType)) ∈ cd_Ts := cd_in (cd_t4 (List.mem_of_getElem? (i := 13) rfl)) rfl
theorem tw_734 : (Jvm.Cond.methodLink "CaptionDesk" (300 : Nat) ({ cls := "CaptionDesk", name := "cueAt", desc := "(I)LCaptionDesk$Cue;" } : Jvm.MethodName)) ∈ cd_Ts := cd_in (cd_t4 (List.mem_of_getElem? (i := 14) (by decide +kernel))) rfl
theorem tl_735 : (Jvm.Cond.privateMethod ({ cls := "CaptionDesk", name := "cueAt", desc := "(I)LCaptionDesk$Cue;" } : Jvm.MethodName)) ∈ lw_tbl := cd_t4 (List.mem_of_getElem? (i := 15) (by decide +kernel))
theorem tw_736 : (Jvm.Cond.instanceMethod ({ cls := "CaptionDesk", name := "cueAt", desc := "(I)LCaptionDesk$Cue;" } : Jvm.MethodName)) ∈ cd_Ts := cd_in (cd_t4 (List.mem_of_getElem? (i := 16) (by decide +kernel))) rfl
set_option maxRecDepth 100000 in
theorem tw_737 : (Jvm.Cond.code ({ cls := "CaptionDesk", name := "cueAt", desc := "(I)LCaptionDesk$Cue;" } : Jvm.MethodName) prog_1_method_40_code (2 : Nat) (Option.some (Jvm.ClassFile.FieldType.object "CaptionDesk$Cue"))) ∈ cd_Ts := cd_in (cd_t4 (List.mem_of_getElem? (i := 17) rfl)) rfl
theorem tw_738 : (Jvm.Cond.methodLink "CaptionDesk" (327 : Nat) ({ cls := "CaptionDesk$Lines", name := "areThose", desc := "([I)Z" } : Jvm.MethodName)) ∈ cd_Ts := cd_in (cd_t4 (List.mem_of_getElem? (i := 18) (by decide +kernel))) rfl
theorem tw_739 : (Jvm.Cond.instanceMethod ({ cls := "CaptionDesk$Lines", name := "areThose", desc := "([I)Z" } : Jvm.MethodName)) ∈ cd_Ts := cd_in (cd_t4 (List.mem_of_getElem? (i := 19) (by decide +kernel))) rfl
theorem tw_740 : (Jvm.Cond.selects "CaptionDesk$Lines" ({ cls := "CaptionDesk$Lines", name := "areThose", desc := "([I)Z" } : Jvm.MethodName) ({ cls := "CaptionDesk$Lines", name := "areThose", desc := "([I)Z" } : Jvm.MethodName)) ∈ cd_Ts := cd_in (cd_t4 (List.mem_of_getElem? (i := 20) (by decide +kernel))) rfl
set_option maxRecDepth 100000 in
theorem tw_741 : (Jvm.Cond.code ({ cls := "CaptionDesk$Lines", name := "areThose", desc := "([I)Z" } : Jvm.MethodName) prog_4_method_3_code (3 : Nat) (Option.some Jvm.ClassFile.FieldType.boolean)) ∈ cd_Ts := cd_in (cd_t4 (List.mem_of_getElem? (i := 21) rfl)) rfl
theorem tw_742 : (Jvm.Cond.methodLink "CaptionDesk" (294 : Nat) ({ cls := "CaptionDesk", name := "beginCue", desc := "(I)V" } : Jvm.MethodName)) ∈ cd_Ts := cd_in (cd_t4 (List.mem_of_getElem? (i := 22) (by decide +kernel))) rfl
theorem tl_743 : (Jvm.Cond.privateMethod ({ cls := "CaptionDesk", name := "beginCue", desc := "(I)V" } : Jvm.MethodName)) ∈ lw_tbl := cd_t4 (List.mem_of_getElem? (i := 23) (by decide +kernel))
theorem tw_744 : (Jvm.Cond.instanceMethod ({ cls := "CaptionDesk", name := "beginCue", desc := "(I)V" } : Jvm.MethodName)) ∈ cd_Ts := cd_in (cd_t4 (List.mem_of_getElem? (i := 24) (by decide +kernel))) rfl
set_option maxRecDepth 100000 in
theorem tw_745 : (Jvm.Cond.code ({ cls := "CaptionDesk", name := "beginCue", desc := "(I)V" } : Jvm.MethodName) prog_1_method_43_code (2 : Nat) (Option.none : Option Jvm.ClassFile.FieldType)) ∈ cd_Ts := cd_in (cd_t4 (List.mem_of_getElem? (i := 25) rfl)) rfl
theorem tw_746 : (Jvm.Cond.instantiable "CaptionDesk$Cue" (4 : Nat)) ∈ cd_Ts := cd_in (cd_t4 (List.mem_of_getElem? (i := 26) (by decide +kernel))) rfl
theorem tw_747 : (Jvm.Cond.methodLink "CaptionDesk" (331 : Nat) ({ cls := "CaptionDesk$Lines", name := "copied", desc := "()[I" } : Jvm.MethodName)) ∈ cd_Ts := cd_in (cd_t4 (List.mem_of_getElem? (i := 27) (by decide +kernel))) rfl
theorem tw_748 : (Jvm.Cond.instanceMethod ({ cls := "CaptionDesk$Lines", name := "copied", desc := "()[I" } : Jvm.MethodName)) ∈ cd_Ts := cd_in (cd_t4 (List.mem_of_getElem? (i := 28) (by decide +kernel))) rfl
theorem tw_749 : (Jvm.Cond.selects "CaptionDesk$Lines" ({ cls := "CaptionDesk$Lines", name := "copied", desc := "()[I" } : Jvm.MethodName) ({ cls := "CaptionDesk$Lines", name := "copied", desc := "()[I" } : Jvm.MethodName)) ∈ cd_Ts := cd_in (cd_t4 (List.mem_of_getElem? (i := 29) (by decide +kernel))) rfl
set_option maxRecDepth 100000 in
theorem tw_750 : (Jvm.Cond.code ({ cls := "CaptionDesk$Lines", name := "copied", desc := "()[I" } : Jvm.MethodName) prog_4_method_4_code (3 : Nat) (Option.some (Jvm.ClassFile.FieldType.array Jvm.ClassFile.FieldType.int))) ∈ cd_Ts := cd_in (cd_t4 (List.mem_of_getElem? (i := 30) rfl)) rfl
theorem tw_751 : (Jvm.Cond.methodLink "CaptionDesk" (335 : Nat) ({ cls := "CaptionDesk$Cue", name := "<init>", desc := "(II[I)V" } : Jvm.MethodName)) ∈ cd_Ts := cd_in (cd_t4 (List.mem_of_getElem? (i := 31) (by decide +kernel))) rfl
theorem tw_752 : (Jvm.Cond.instanceMethod ({ cls := "CaptionDesk$Cue", name := "<init>", desc := "(II[I)V" } : Jvm.MethodName)) ∈ cd_Ts := cd_in (cd_t4 (List.mem_of_getElem? (i := 32) (by decide +kernel))) rfl
set_option maxRecDepth 100000 in
theorem tw_753 : (Jvm.Cond.code ({ cls := "CaptionDesk$Cue", name := "<init>", desc := "(II[I)V" } : Jvm.MethodName) prog_3_method_1_code (4 : Nat) (Option.none : Option Jvm.ClassFile.FieldType)) ∈ cd_Ts := cd_in (cd_t4 (List.mem_of_getElem? (i := 33) rfl)) rfl
theorem tw_754 : (Jvm.Cond.methodLink "CaptionDesk$Cue" (3 : Nat) ({ cls := "java/lang/Object", name := "<init>", desc := "()V" } : Jvm.MethodName)) ∈ cd_Ts := cd_in (cd_t4 (List.mem_of_getElem? (i := 34) (by decide +kernel))) rfl
theorem tw_755 : (Jvm.Cond.fieldLink "CaptionDesk$Cue" (15 : Nat) "CaptionDesk$Cue" "source" "I") ∈ cd_Ts := cd_in (cd_t4 (List.mem_of_getElem? (i := 35) (by decide +kernel))) rfl
theorem tw_757 : (Jvm.Cond.fieldLink "CaptionDesk$Cue" (18 : Nat) "CaptionDesk$Cue" "begin" "I") ∈ cd_Ts := cd_in (cd_t4 (List.mem_of_getElem? (i := 37) (by decide +kernel))) rfl
theorem tw_759 : (Jvm.Cond.fieldLink "CaptionDesk$Cue" (21 : Nat) "CaptionDesk$Cue" "bytes" "[I") ∈ cd_Ts := cd_in (cd_t4 (List.mem_of_getElem? (i := 39) (by decide +kernel))) rfl
theorem tw_761 : (Jvm.Cond.fieldLink "CaptionDesk$Cue" (9 : Nat) "CaptionDesk$Cue" "end" "I") ∈ cd_Ts := cd_in (cd_t4 (List.mem_of_getElem? (i := 41) (by decide +kernel))) rfl
theorem tw_763 : (Jvm.Cond.laysFinal "CaptionDesk$Cue" "CaptionDesk$Cue" "source" "I") ∈ cd_Ts := cd_in (cd_t4 (List.mem_of_getElem? (i := 43) (by decide +kernel))) rfl
theorem tl_764 : (Jvm.Cond.soleField "CaptionDesk$Cue" "source") ∈ lw_tbl := cd_t4 (List.mem_of_getElem? (i := 44) (by decide +kernel))
theorem tw_765 : (Jvm.Cond.laysFinal "CaptionDesk$Cue" "CaptionDesk$Cue" "begin" "I") ∈ cd_Ts := cd_in (cd_t4 (List.mem_of_getElem? (i := 45) (by decide +kernel))) rfl
theorem tl_766 : (Jvm.Cond.soleField "CaptionDesk$Cue" "begin") ∈ lw_tbl := cd_t4 (List.mem_of_getElem? (i := 46) (by decide +kernel))
theorem tw_767 : (Jvm.Cond.laysFinal "CaptionDesk$Cue" "CaptionDesk$Cue" "bytes" "[I") ∈ cd_Ts := cd_in (cd_t4 (List.mem_of_getElem? (i := 47) (by decide +kernel))) rfl
theorem tl_768 : (Jvm.Cond.soleField "CaptionDesk$Cue" "bytes") ∈ lw_tbl := cd_t4 (List.mem_of_getElem? (i := 48) (by decide +kernel))
theorem tw_769 : (Jvm.Cond.lays "CaptionDesk$Cue" "CaptionDesk$Cue" "end" "I") ∈ cd_Ts := cd_in (cd_t4 (List.mem_of_getElem? (i := 49) (by decide +kernel))) rfl
theorem tl_770 : (Jvm.Cond.soleField "CaptionDesk$Cue" "end") ∈ lw_tbl := cd_t4 (List.mem_of_getElem? (i := 50) (by decide +kernel))
theorem tw_771 : (Jvm.Cond.superclass "CaptionDesk$Cue" "java/lang/Object") ∈ cd_Ts := cd_in (cd_t4 (List.mem_of_getElem? (i := 51) (by decide +kernel))) rfl
theorem tw_772 : (Jvm.Cond.methodLink "CaptionDeskLaw" (134 : Nat) ({ cls := "CaptionDeskLaw", name := "cue", desc := "(LCaptionDesk;II[J)I" } : Jvm.MethodName)) ∈ cd_Ts := cd_in (cd_t4 (List.mem_of_getElem? (i := 52) (by decide +kernel))) rfl
theorem tw_773 : (Jvm.Cond.static ({ cls := "CaptionDeskLaw", name := "cue", desc := "(LCaptionDesk;II[J)I" } : Jvm.MethodName)) ∈ cd_Ts := cd_in (cd_t4 (List.mem_of_getElem? (i := 53) (by decide +kernel))) rfl
set_option maxRecDepth 100000 in
theorem tw_774 : (Jvm.Cond.codeWith ({ cls := "CaptionDeskLaw", name := "cue", desc := "(LCaptionDesk;II[J)I" } : Jvm.MethodName) method_16_code (5 : Nat) (Option.some Jvm.ClassFile.FieldType.int) [((0 : Nat), (10 : Nat), (13 : Nat), (13 : Nat))]) ∈ cd_Ts := cd_in (cd_t4 (List.mem_of_getElem? (i := 54) rfl)) rfl
theorem tw_775 : (Jvm.Cond.methodLink "CaptionDeskLaw" (59 : Nat) ({ cls := "CaptionDesk", name := "cue", desc := "(II)I" } : Jvm.MethodName)) ∈ cd_Ts := cd_in (cd_t4 (List.mem_of_getElem? (i := 55) (by decide +kernel))) rfl
theorem tw_776 : (Jvm.Cond.instanceMethod ({ cls := "CaptionDesk", name := "cue", desc := "(II)I" } : Jvm.MethodName)) ∈ cd_Ts := cd_in (cd_t4 (List.mem_of_getElem? (i := 56) (by decide +kernel))) rfl
theorem tw_777 : (Jvm.Cond.selects "CaptionDesk" ({ cls := "CaptionDesk", name := "cue", desc := "(II)I" } : Jvm.MethodName) ({ cls := "CaptionDesk", name := "cue", desc := "(II)I" } : Jvm.MethodName)) ∈ cd_Ts := cd_in (cd_t4 (List.mem_of_getElem? (i := 57) (by decide +kernel))) rfl
set_option maxRecDepth 100000 in
theorem tw_778 : (Jvm.Cond.code ({ cls := "CaptionDesk", name := "cue", desc := "(II)I" } : Jvm.MethodName) prog_1_method_38_code (4 : Nat) (Option.some Jvm.ClassFile.FieldType.int)) ∈ cd_Ts := cd_in (cd_t4 (List.mem_of_getElem? (i := 58) rfl)) rfl
theorem tl_779 : (Jvm.Cond.stringRef "CaptionDesk" (304 : Nat) "cue or what") ∈ lw_tbl := cd_t4 (List.mem_of_getElem? (i := 59) (by decide +kernel))
theorem tw_780 : (Jvm.Cond.methodLink "CaptionDeskLaw" (137 : Nat) ({ cls := "CaptionDeskLaw", name := "line", desc := "(LCaptionDesk;II[J)I" } : Jvm.MethodName)) ∈ cd_Ts := cd_in (cd_t4 (List.mem_of_getElem? (i := 60) (by decide +kernel))) rfl
theorem tw_781 : (Jvm.Cond.static ({ cls := "CaptionDeskLaw", name := "line", desc := "(LCaptionDesk;II[J)I" } : Jvm.MethodName)) ∈ cd_Ts := cd_in (cd_t4 (List.mem_of_getElem? (i := 61) (by decide +kernel))) rfl
set_option maxRecDepth 100000 in
theorem tw_782 : (Jvm.Cond.codeWith ({ cls := "CaptionDeskLaw", name := "line", desc := "(LCaptionDesk;II[J)I" } : Jvm.MethodName) method_17_code (5 : Nat) (Option.some Jvm.ClassFile.FieldType.int) [((0 : Nat), (10 : Nat), (13 : Nat), (13 : Nat))]) ∈ cd_Ts := cd_in (cd_t4 (List.mem_of_getElem? (i := 62) rfl)) rfl
theorem tw_783 : (Jvm.Cond.methodLink "CaptionDeskLaw" (62 : Nat) ({ cls := "CaptionDesk", name := "line", desc := "(II)I" } : Jvm.MethodName)) ∈ cd_Ts := cd_in (cd_t4 (List.mem_of_getElem? (i := 63) (by decide +kernel))) rfl
theorem tw_784 : (Jvm.Cond.instanceMethod ({ cls := "CaptionDesk", name := "line", desc := "(II)I" } : Jvm.MethodName)) ∈ cd_Ts := cd_in (cd_t4 (List.mem_of_getElem? (i := 64) (by decide +kernel))) rfl
theorem tw_785 : (Jvm.Cond.selects "CaptionDesk" ({ cls := "CaptionDesk", name := "line", desc := "(II)I" } : Jvm.MethodName) ({ cls := "CaptionDesk", name := "line", desc := "(II)I" } : Jvm.MethodName)) ∈ cd_Ts := cd_in (cd_t4 (List.mem_of_getElem? (i := 65) (by decide +kernel))) rfl
set_option maxRecDepth 100000 in
theorem tw_786 : (Jvm.Cond.code ({ cls := "CaptionDesk", name := "line", desc := "(II)I" } : Jvm.MethodName) prog_1_method_39_code (4 : Nat) (Option.some Jvm.ClassFile.FieldType.int)) ∈ cd_Ts := cd_in (cd_t4 (List.mem_of_getElem? (i := 66) rfl)) rfl
theorem tl_787 : (Jvm.Cond.stringRef "CaptionDesk" (317 : Nat) "cue or byte") ∈ lw_tbl := cd_t4 (List.mem_of_getElem? (i := 67) (by decide +kernel))
theorem tw_788 : (Jvm.Cond.classLink "CaptionDeskLaw" (66 : Nat) "CaptionDeskModel") ∈ cd_Ts := cd_in (cd_t4 (List.mem_of_getElem? (i := 68) (by decide +kernel))) rfl
theorem tw_789 : (Jvm.Cond.instantiable "CaptionDeskModel" (46 : Nat)) ∈ cd_Ts := cd_in (cd_t4 (List.mem_of_getElem? (i := 69) (by decide +kernel))) rfl
theorem tw_790 : (Jvm.Cond.methodLink "CaptionDeskLaw" (68 : Nat) ({ cls := "CaptionDeskModel", name := "<init>", desc := "()V" } : Jvm.MethodName)) ∈ cd_Ts := cd_in (cd_t4 (List.mem_of_getElem? (i := 70) (by decide +kernel))) rfl
theorem tw_791 : (Jvm.Cond.instanceMethod ({ cls := "CaptionDeskModel", name := "<init>", desc := "()V" } : Jvm.MethodName)) ∈ cd_Ts := cd_in (cd_t4 (List.mem_of_getElem? (i := 71) (by decide +kernel))) rfl
set_option maxRecDepth 100000 in
theorem tw_792 : (Jvm.Cond.code ({ cls := "CaptionDeskModel", name := "<init>", desc := "()V" } : Jvm.MethodName) prog_11_method_1_code (2 : Nat) (Option.none : Option Jvm.ClassFile.FieldType)) ∈ cd_Ts := cd_in (cd_t4 (List.mem_of_getElem? (i := 72) rfl)) rfl
theorem tw_793 : (Jvm.Cond.methodLink "CaptionDeskModel" (1 : Nat) ({ cls := "java/lang/Object", name := "<init>", desc := "()V" } : Jvm.MethodName)) ∈ cd_Ts := cd_in (cd_t4 (List.mem_of_getElem? (i := 73) (by decide +kernel))) rfl
theorem tw_794 : (Jvm.Cond.fieldLink "CaptionDeskModel" (120 : Nat) "CaptionDeskModel" "thrown" "I") ∈ cd_Ts := cd_in (cd_t4 (List.mem_of_getElem? (i := 74) (by decide +kernel))) rfl
theorem tw_795 : (Jvm.Cond.fieldLink "CaptionDeskModel" (7 : Nat) "CaptionDeskModel" "letters" "[I") ∈ cd_Ts := cd_in (cd_t4 (List.mem_of_getElem? (i := 75) (by decide +kernel))) rfl
theorem tw_796 : (Jvm.Cond.fieldLink "CaptionDeskModel" (13 : Nat) "CaptionDeskModel" "looks" "[I") ∈ cd_Ts := cd_in (cd_t4 (List.mem_of_getElem? (i := 76) (by decide +kernel))) rfl
theorem tw_797 : (Jvm.Cond.fieldLink "CaptionDeskModel" (16 : Nat) "CaptionDeskModel" "shown" "[I") ∈ cd_Ts := cd_in (cd_t4 (List.mem_of_getElem? (i := 77) (by decide +kernel))) rfl
theorem tw_798 : (Jvm.Cond.fieldLink "CaptionDeskModel" (19 : Nat) "CaptionDeskModel" "mode" "[I") ∈ cd_Ts := cd_in (cd_t4 (List.mem_of_getElem? (i := 78) (by decide +kernel))) rfl
theorem tw_799 : (Jvm.Cond.fieldLink "CaptionDeskModel" (22 : Nat) "CaptionDeskModel" "row" "[I") ∈ cd_Ts := cd_in (cd_t4 (List.mem_of_getElem? (i := 79) (by decide +kernel))) rfl
theorem tw_800 : (Jvm.Cond.fieldLink "CaptionDeskModel" (25 : Nat) "CaptionDeskModel" "column" "[I") ∈ cd_Ts := cd_in (cd_t4 (List.mem_of_getElem? (i := 80) (by decide +kernel))) rfl
theorem tw_801 : (Jvm.Cond.fieldLink "CaptionDeskModel" (28 : Nat) "CaptionDeskModel" "look" "[I") ∈ cd_Ts := cd_in (cd_t4 (List.mem_of_getElem? (i := 81) (by decide +kernel))) rfl
theorem tw_802 : (Jvm.Cond.fieldLink "CaptionDeskModel" (31 : Nat) "CaptionDeskModel" "depth" "[I") ∈ cd_Ts := cd_in (cd_t4 (List.mem_of_getElem? (i := 82) (by decide +kernel))) rfl
theorem tw_803 : (Jvm.Cond.fieldLink "CaptionDeskModel" (34 : Nat) "CaptionDeskModel" "channelOf" "[I") ∈ cd_Ts := cd_in (cd_t4 (List.mem_of_getElem? (i := 83) (by decide +kernel))) rfl
theorem tw_804 : (Jvm.Cond.fieldLink "CaptionDeskModel" (37 : Nat) "CaptionDeskModel" "before" "[I") ∈ cd_Ts := cd_in (cd_t4 (List.mem_of_getElem? (i := 84) (by decide +kernel))) rfl
theorem tw_805 : (Jvm.Cond.fieldLink "CaptionDeskModel" (40 : Nat) "CaptionDeskModel" "tape" "[B") ∈ cd_Ts := cd_in (cd_t4 (List.mem_of_getElem? (i := 85) (by decide +kernel))) rfl
theorem tw_806 : (Jvm.Cond.fieldLink "CaptionDeskModel" (190 : Nat) "CaptionDeskModel" "taped" "I") ∈ cd_Ts := cd_in (cd_t4 (List.mem_of_getElem? (i := 86) (by decide +kernel))) rfl
theorem tw_807 : (Jvm.Cond.fieldLink "CaptionDeskModel" (44 : Nat) "CaptionDeskModel" "nothing" "[I") ∈ cd_Ts := cd_in (cd_t4 (List.mem_of_getElem? (i := 87) (by decide +kernel))) rfl
theorem tw_808 : (Jvm.Cond.fieldLink "CaptionDeskModel" (206 : Nat) "CaptionDeskModel" "pages" "I") ∈ cd_Ts := cd_in (cd_t4 (List.mem_of_getElem? (i := 88) (by decide +kernel))) rfl
theorem tw_809 : (Jvm.Cond.fieldLink "CaptionDeskModel" (47 : Nat) "CaptionDeskModel" "order" "[I") ∈ cd_Ts := cd_in (cd_t4 (List.mem_of_getElem? (i := 89) (by decide +kernel))) rfl
theorem tw_810 : (Jvm.Cond.fieldLink "CaptionDeskModel" (50 : Nat) "CaptionDeskModel" "used" "[Z") ∈ cd_Ts := cd_in (cd_t4 (List.mem_of_getElem? (i := 90) (by decide +kernel))) rfl
theorem tw_811 : (Jvm.Cond.fieldLink "CaptionDeskModel" (54 : Nat) "CaptionDeskModel" "magazine" "[I") ∈ cd_Ts := cd_in (cd_t4 (List.mem_of_getElem? (i := 91) (by decide +kernel))) rfl
theorem tw_812 : (Jvm.Cond.fieldLink "CaptionDeskModel" (57 : Nat) "CaptionDeskModel" "number" "[I") ∈ cd_Ts := cd_in (cd_t4 (List.mem_of_getElem? (i := 92) (by decide +kernel))) rfl
theorem tw_813 : (Jvm.Cond.fieldLink "CaptionDeskModel" (60 : Nat) "CaptionDeskModel" "subcode" "[I") ∈ cd_Ts := cd_in (cd_t4 (List.mem_of_getElem? (i := 93) (by decide +kernel))) rfl
theorem tw_814 : (Jvm.Cond.fieldLink "CaptionDeskModel" (63 : Nat) "CaptionDeskModel" "flags" "[I") ∈ cd_Ts := cd_in (cd_t4 (List.mem_of_getElem? (i := 94) (by decide +kernel))) rfl
theorem tw_815 : (Jvm.Cond.fieldLink "CaptionDeskModel" (66 : Nat) "CaptionDeskModel" "closed" "[I") ∈ cd_Ts := cd_in (cd_t4 (List.mem_of_getElem? (i := 95) (by decide +kernel))) rfl
theorem tw_816 : (Jvm.Cond.fieldLink "CaptionDeskModel" (69 : Nat) "CaptionDeskModel" "headers" "[I") ∈ cd_Ts := cd_in (cd_t4 (List.mem_of_getElem? (i := 96) (by decide +kernel))) rfl
theorem tw_817 : (Jvm.Cond.fieldLink "CaptionDeskModel" (72 : Nat) "CaptionDeskModel" "signs" "[B") ∈ cd_Ts := cd_in (cd_t4 (List.mem_of_getElem? (i := 97) (by decide +kernel))) rfl
theorem tw_818 : (Jvm.Cond.fieldLink "CaptionDeskModel" (75 : Nat) "CaptionDeskModel" "hasRow" "[Z") ∈ cd_Ts := cd_in (cd_t4 (List.mem_of_getElem? (i := 98) (by decide +kernel))) rfl
theorem tw_819 : (Jvm.Cond.fieldLink "CaptionDeskModel" (78 : Nat) "CaptionDeskModel" "links" "[I") ∈ cd_Ts := cd_in (cd_t4 (List.mem_of_getElem? (i := 99) (by decide +kernel))) rfl
theorem tw_820 : (Jvm.Cond.fieldLink "CaptionDeskModel" (81 : Nat) "CaptionDeskModel" "hasLink" "[Z") ∈ cd_Ts := cd_in (cd_t4 (List.mem_of_getElem? (i := 100) (by decide +kernel))) rfl
theorem tw_821 : (Jvm.Cond.fieldLink "CaptionDeskModel" (84 : Nat) "CaptionDeskModel" "open" "[I") ∈ cd_Ts := cd_in (cd_t4 (List.mem_of_getElem? (i := 101) (by decide +kernel))) rfl
theorem tw_822 : (Jvm.Cond.fieldLink "CaptionDeskModel" (193 : Nat) "CaptionDeskModel" "isWatching" "Z") ∈ cd_Ts := cd_in (cd_t4 (List.mem_of_getElem? (i := 102) (by decide +kernel))) rfl
theorem tw_823 : (Jvm.Cond.fieldLink "CaptionDeskModel" (197 : Nat) "CaptionDeskModel" "watchedMagazine" "I") ∈ cd_Ts := cd_in (cd_t4 (List.mem_of_getElem? (i := 103) (by decide +kernel))) rfl
theorem tw_824 : (Jvm.Cond.fieldLink "CaptionDeskModel" (200 : Nat) "CaptionDeskModel" "watchedNumber" "I") ∈ cd_Ts := cd_in (cd_t4 (List.mem_of_getElem? (i := 104) (by decide +kernel))) rfl
theorem tw_825 : (Jvm.Cond.fieldLink "CaptionDeskModel" (203 : Nat) "CaptionDeskModel" "hasWatched" "Z") ∈ cd_Ts := cd_in (cd_t4 (List.mem_of_getElem? (i := 105) (by decide +kernel))) rfl
theorem tw_826 : (Jvm.Cond.fieldLink "CaptionDeskModel" (87 : Nat) "CaptionDeskModel" "watched" "[B") ∈ cd_Ts := cd_in (cd_t4 (List.mem_of_getElem? (i := 106) (by decide +kernel))) rfl
theorem tw_827 : (Jvm.Cond.fieldLink "CaptionDeskModel" (90 : Nat) "CaptionDeskModel" "watchedRow" "[Z") ∈ cd_Ts := cd_in (cd_t4 (List.mem_of_getElem? (i := 107) (by decide +kernel))) rfl
theorem tw_828 : (Jvm.Cond.fieldLink "CaptionDeskModel" (251 : Nat) "CaptionDeskModel" "time" "I") ∈ cd_Ts := cd_in (cd_t4 (List.mem_of_getElem? (i := 108) (by decide +kernel))) rfl
theorem tw_829 : (Jvm.Cond.fieldLink "CaptionDeskModel" (260 : Nat) "CaptionDeskModel" "cues" "I") ∈ cd_Ts := cd_in (cd_t4 (List.mem_of_getElem? (i := 109) (by decide +kernel))) rfl
theorem tw_830 : (Jvm.Cond.fieldLink "CaptionDeskModel" (93 : Nat) "CaptionDeskModel" "source" "[I") ∈ cd_Ts := cd_in (cd_t4 (List.mem_of_getElem? (i := 110) (by decide +kernel))) rfl
theorem tw_831 : (Jvm.Cond.fieldLink "CaptionDeskModel" (96 : Nat) "CaptionDeskModel" "began" "[I") ∈ cd_Ts := cd_in (cd_t4 (List.mem_of_getElem? (i := 111) (by decide +kernel))) rfl
theorem tw_832 : (Jvm.Cond.fieldLink "CaptionDeskModel" (99 : Nat) "CaptionDeskModel" "ended" "[I") ∈ cd_Ts := cd_in (cd_t4 (List.mem_of_getElem? (i := 112) (by decide +kernel))) rfl
theorem tw_833 : (Jvm.Cond.fieldLink "CaptionDeskModel" (102 : Nat) "CaptionDeskModel" "cueSize" "[I") ∈ cd_Ts := cd_in (cd_t4 (List.mem_of_getElem? (i := 113) (by decide +kernel))) rfl
theorem tw_834 : (Jvm.Cond.fieldLink "CaptionDeskModel" (105 : Nat) "CaptionDeskModel" "cueBytes" "[B") ∈ cd_Ts := cd_in (cd_t4 (List.mem_of_getElem? (i := 114) (by decide +kernel))) rfl
theorem tw_835 : (Jvm.Cond.fieldLink "CaptionDeskModel" (108 : Nat) "CaptionDeskModel" "going" "[I") ∈ cd_Ts := cd_in (cd_t4 (List.mem_of_getElem? (i := 115) (by decide +kernel))) rfl
theorem tw_836 : (Jvm.Cond.fieldLink "CaptionDeskModel" (111 : Nat) "CaptionDeskModel" "keptLetters" "[I") ∈ cd_Ts := cd_in (cd_t4 (List.mem_of_getElem? (i := 116) (by decide +kernel))) rfl
theorem tw_837 : (Jvm.Cond.fieldLink "CaptionDeskModel" (114 : Nat) "CaptionDeskModel" "keptLooks" "[I") ∈ cd_Ts := cd_in (cd_t4 (List.mem_of_getElem? (i := 117) (by decide +kernel))) rfl
theorem tw_838 : (Jvm.Cond.fieldLink "CaptionDeskModel" (244 : Nat) "CaptionDeskModel" "lineSize" "I") ∈ cd_Ts := cd_in (cd_t4 (List.mem_of_getElem? (i := 118) (by decide +kernel))) rfl
theorem tw_839 : (Jvm.Cond.fieldLink "CaptionDeskModel" (117 : Nat) "CaptionDeskModel" "lines" "[B") ∈ cd_Ts := cd_in (cd_t4 (List.mem_of_getElem? (i := 119) (by decide +kernel))) rfl
theorem tw_840 : (Jvm.Cond.lays "CaptionDeskModel" "CaptionDeskModel" "thrown" "I") ∈ cd_Ts := cd_in (cd_t4 (List.mem_of_getElem? (i := 120) (by decide +kernel))) rfl
theorem tl_841 : (Jvm.Cond.soleField "CaptionDeskModel" "thrown") ∈ lw_tbl := cd_t4 (List.mem_of_getElem? (i := 121) (by decide +kernel))
theorem tw_842 : (Jvm.Cond.laysFinal "CaptionDeskModel" "CaptionDeskModel" "letters" "[I") ∈ cd_Ts := cd_in (cd_t4 (List.mem_of_getElem? (i := 122) (by decide +kernel))) rfl
theorem tl_843 : (Jvm.Cond.soleField "CaptionDeskModel" "letters") ∈ lw_tbl := cd_t4 (List.mem_of_getElem? (i := 123) (by decide +kernel))
theorem tw_844 : (Jvm.Cond.laysFinal "CaptionDeskModel" "CaptionDeskModel" "looks" "[I") ∈ cd_Ts := cd_in (cd_t4 (List.mem_of_getElem? (i := 124) (by decide +kernel))) rfl
theorem tl_845 : (Jvm.Cond.soleField "CaptionDeskModel" "looks") ∈ lw_tbl := cd_t4 (List.mem_of_getElem? (i := 125) (by decide +kernel))
theorem tw_846 : (Jvm.Cond.laysFinal "CaptionDeskModel" "CaptionDeskModel" "shown" "[I") ∈ cd_Ts := cd_in (cd_t4 (List.mem_of_getElem? (i := 126) (by decide +kernel))) rfl
theorem tl_847 : (Jvm.Cond.soleField "CaptionDeskModel" "shown") ∈ lw_tbl := cd_t4 (List.mem_of_getElem? (i := 127) (by decide +kernel))
theorem tw_848 : (Jvm.Cond.laysFinal "CaptionDeskModel" "CaptionDeskModel" "mode" "[I") ∈ cd_Ts := cd_in (cd_t4 (List.mem_of_getElem? (i := 128) (by decide +kernel))) rfl
theorem tl_849 : (Jvm.Cond.soleField "CaptionDeskModel" "mode") ∈ lw_tbl := cd_t4 (List.mem_of_getElem? (i := 129) (by decide +kernel))
theorem tw_850 : (Jvm.Cond.laysFinal "CaptionDeskModel" "CaptionDeskModel" "row" "[I") ∈ cd_Ts := cd_in (cd_t4 (List.mem_of_getElem? (i := 130) (by decide +kernel))) rfl
theorem tl_851 : (Jvm.Cond.soleField "CaptionDeskModel" "row") ∈ lw_tbl := cd_t4 (List.mem_of_getElem? (i := 131) (by decide +kernel))
theorem tw_852 : (Jvm.Cond.laysFinal "CaptionDeskModel" "CaptionDeskModel" "column" "[I") ∈ cd_Ts := cd_in (cd_t4 (List.mem_of_getElem? (i := 132) (by decide +kernel))) rfl
theorem tl_853 : (Jvm.Cond.soleField "CaptionDeskModel" "column") ∈ lw_tbl := cd_t4 (List.mem_of_getElem? (i := 133) (by decide +kernel))
theorem tw_854 : (Jvm.Cond.laysFinal "CaptionDeskModel" "CaptionDeskModel" "look" "[I") ∈ cd_Ts := cd_in (cd_t4 (List.mem_of_getElem? (i := 134) (by decide +kernel))) rfl
theorem tl_855 : (Jvm.Cond.soleField "CaptionDeskModel" "look") ∈ lw_tbl := cd_t4 (List.mem_of_getElem? (i := 135) (by decide +kernel))
theorem tw_856 : (Jvm.Cond.laysFinal "CaptionDeskModel" "CaptionDeskModel" "depth" "[I") ∈ cd_Ts := cd_in (cd_t4 (List.mem_of_getElem? (i := 136) (by decide +kernel))) rfl
theorem tl_857 : (Jvm.Cond.soleField "CaptionDeskModel" "depth") ∈ lw_tbl := cd_t4 (List.mem_of_getElem? (i := 137) (by decide +kernel))
theorem tw_858 : (Jvm.Cond.laysFinal "CaptionDeskModel" "CaptionDeskModel" "channelOf" "[I") ∈ cd_Ts := cd_in (cd_t4 (List.mem_of_getElem? (i := 138) (by decide +kernel))) rfl
theorem tl_859 : (Jvm.Cond.soleField "CaptionDeskModel" "channelOf") ∈ lw_tbl := cd_t4 (List.mem_of_getElem? (i := 139) (by decide +kernel))
theorem tw_860 : (Jvm.Cond.laysFinal "CaptionDeskModel" "CaptionDeskModel" "before" "[I") ∈ cd_Ts := cd_in (cd_t4 (List.mem_of_getElem? (i := 140) (by decide +kernel))) rfl
theorem tl_861 : (Jvm.Cond.soleField "CaptionDeskModel" "before") ∈ lw_tbl := cd_t4 (List.mem_of_getElem? (i := 141) (by decide +kernel))
theorem tw_862 : (Jvm.Cond.laysFinal "CaptionDeskModel" "CaptionDeskModel" "tape" "[B") ∈ cd_Ts := cd_in (cd_t4 (List.mem_of_getElem? (i := 142) (by decide +kernel))) rfl
theorem tl_863 : (Jvm.Cond.soleField "CaptionDeskModel" "tape") ∈ lw_tbl := cd_t4 (List.mem_of_getElem? (i := 143) (by decide +kernel))
theorem tw_864 : (Jvm.Cond.lays "CaptionDeskModel" "CaptionDeskModel" "taped" "I") ∈ cd_Ts := cd_in (cd_t4 (List.mem_of_getElem? (i := 144) (by decide +kernel))) rfl
theorem tl_865 : (Jvm.Cond.soleField "CaptionDeskModel" "taped") ∈ lw_tbl := cd_t4 (List.mem_of_getElem? (i := 145) (by decide +kernel))
theorem tw_866 : (Jvm.Cond.laysFinal "CaptionDeskModel" "CaptionDeskModel" "nothing" "[I") ∈ cd_Ts := cd_in (cd_t4 (List.mem_of_getElem? (i := 146) (by decide +kernel))) rfl
theorem tl_867 : (Jvm.Cond.soleField "CaptionDeskModel" "nothing") ∈ lw_tbl := cd_t4 (List.mem_of_getElem? (i := 147) (by decide +kernel))
theorem tw_868 : (Jvm.Cond.lays "CaptionDeskModel" "CaptionDeskModel" "pages" "I") ∈ cd_Ts := cd_in (cd_t4 (List.mem_of_getElem? (i := 148) (by decide +kernel))) rfl
theorem tl_869 : (Jvm.Cond.soleField "CaptionDeskModel" "pages") ∈ lw_tbl := cd_t4 (List.mem_of_getElem? (i := 149) (by decide +kernel))
theorem tw_870 : (Jvm.Cond.laysFinal "CaptionDeskModel" "CaptionDeskModel" "order" "[I") ∈ cd_Ts := cd_in (cd_t4 (List.mem_of_getElem? (i := 150) (by decide +kernel))) rfl
theorem tl_871 : (Jvm.Cond.soleField "CaptionDeskModel" "order") ∈ lw_tbl := cd_t4 (List.mem_of_getElem? (i := 151) (by decide +kernel))
theorem tw_872 : (Jvm.Cond.laysFinal "CaptionDeskModel" "CaptionDeskModel" "used" "[Z") ∈ cd_Ts := cd_in (cd_t4 (List.mem_of_getElem? (i := 152) (by decide +kernel))) rfl
theorem tl_873 : (Jvm.Cond.soleField "CaptionDeskModel" "used") ∈ lw_tbl := cd_t4 (List.mem_of_getElem? (i := 153) (by decide +kernel))
theorem tw_874 : (Jvm.Cond.laysFinal "CaptionDeskModel" "CaptionDeskModel" "magazine" "[I") ∈ cd_Ts := cd_in (cd_t4 (List.mem_of_getElem? (i := 154) (by decide +kernel))) rfl
theorem tl_875 : (Jvm.Cond.soleField "CaptionDeskModel" "magazine") ∈ lw_tbl := cd_t4 (List.mem_of_getElem? (i := 155) (by decide +kernel))
theorem tw_876 : (Jvm.Cond.laysFinal "CaptionDeskModel" "CaptionDeskModel" "number" "[I") ∈ cd_Ts := cd_in (cd_t4 (List.mem_of_getElem? (i := 156) (by decide +kernel))) rfl
theorem tl_877 : (Jvm.Cond.soleField "CaptionDeskModel" "number") ∈ lw_tbl := cd_t4 (List.mem_of_getElem? (i := 157) (by decide +kernel))
theorem tw_878 : (Jvm.Cond.laysFinal "CaptionDeskModel" "CaptionDeskModel" "subcode" "[I") ∈ cd_Ts := cd_in (cd_t4 (List.mem_of_getElem? (i := 158) (by decide +kernel))) rfl
theorem tl_879 : (Jvm.Cond.soleField "CaptionDeskModel" "subcode") ∈ lw_tbl := cd_t4 (List.mem_of_getElem? (i := 159) (by decide +kernel))
theorem tw_880 : (Jvm.Cond.laysFinal "CaptionDeskModel" "CaptionDeskModel" "flags" "[I") ∈ cd_Ts := cd_in (cd_t4 (List.mem_of_getElem? (i := 160) (by decide +kernel))) rfl
theorem tl_881 : (Jvm.Cond.soleField "CaptionDeskModel" "flags") ∈ lw_tbl := cd_t4 (List.mem_of_getElem? (i := 161) (by decide +kernel))
theorem tw_882 : (Jvm.Cond.laysFinal "CaptionDeskModel" "CaptionDeskModel" "closed" "[I") ∈ cd_Ts := cd_in (cd_t4 (List.mem_of_getElem? (i := 162) (by decide +kernel))) rfl
theorem tl_883 : (Jvm.Cond.soleField "CaptionDeskModel" "closed") ∈ lw_tbl := cd_t4 (List.mem_of_getElem? (i := 163) (by decide +kernel))
theorem tw_884 : (Jvm.Cond.laysFinal "CaptionDeskModel" "CaptionDeskModel" "headers" "[I") ∈ cd_Ts := cd_in (cd_t4 (List.mem_of_getElem? (i := 164) (by decide +kernel))) rfl
theorem tl_885 : (Jvm.Cond.soleField "CaptionDeskModel" "headers") ∈ lw_tbl := cd_t4 (List.mem_of_getElem? (i := 165) (by decide +kernel))
theorem tw_886 : (Jvm.Cond.laysFinal "CaptionDeskModel" "CaptionDeskModel" "signs" "[B") ∈ cd_Ts := cd_in (cd_t4 (List.mem_of_getElem? (i := 166) (by decide +kernel))) rfl
theorem tl_887 : (Jvm.Cond.soleField "CaptionDeskModel" "signs") ∈ lw_tbl := cd_t4 (List.mem_of_getElem? (i := 167) (by decide +kernel))
theorem tw_888 : (Jvm.Cond.laysFinal "CaptionDeskModel" "CaptionDeskModel" "hasRow" "[Z") ∈ cd_Ts := cd_in (cd_t4 (List.mem_of_getElem? (i := 168) (by decide +kernel))) rfl
theorem tl_889 : (Jvm.Cond.soleField "CaptionDeskModel" "hasRow") ∈ lw_tbl := cd_t4 (List.mem_of_getElem? (i := 169) (by decide +kernel))
theorem tw_890 : (Jvm.Cond.laysFinal "CaptionDeskModel" "CaptionDeskModel" "links" "[I") ∈ cd_Ts := cd_in (cd_t4 (List.mem_of_getElem? (i := 170) (by decide +kernel))) rfl
theorem tl_891 : (Jvm.Cond.soleField "CaptionDeskModel" "links") ∈ lw_tbl := cd_t4 (List.mem_of_getElem? (i := 171) (by decide +kernel))
theorem tw_892 : (Jvm.Cond.laysFinal "CaptionDeskModel" "CaptionDeskModel" "hasLink" "[Z") ∈ cd_Ts := cd_in (cd_t4 (List.mem_of_getElem? (i := 172) (by decide +kernel))) rfl
theorem tl_893 : (Jvm.Cond.soleField "CaptionDeskModel" "hasLink") ∈ lw_tbl := cd_t4 (List.mem_of_getElem? (i := 173) (by decide +kernel))
theorem tw_894 : (Jvm.Cond.laysFinal "CaptionDeskModel" "CaptionDeskModel" "open" "[I") ∈ cd_Ts := cd_in (cd_t4 (List.mem_of_getElem? (i := 174) (by decide +kernel))) rfl
theorem tl_895 : (Jvm.Cond.soleField "CaptionDeskModel" "open") ∈ lw_tbl := cd_t4 (List.mem_of_getElem? (i := 175) (by decide +kernel))
theorem tw_896 : (Jvm.Cond.lays "CaptionDeskModel" "CaptionDeskModel" "isWatching" "Z") ∈ cd_Ts := cd_in (cd_t4 (List.mem_of_getElem? (i := 176) (by decide +kernel))) rfl
theorem tl_897 : (Jvm.Cond.soleField "CaptionDeskModel" "isWatching") ∈ lw_tbl := cd_t4 (List.mem_of_getElem? (i := 177) (by decide +kernel))
theorem tw_898 : (Jvm.Cond.lays "CaptionDeskModel" "CaptionDeskModel" "watchedMagazine" "I") ∈ cd_Ts := cd_in (cd_t4 (List.mem_of_getElem? (i := 178) (by decide +kernel))) rfl
theorem tl_899 : (Jvm.Cond.soleField "CaptionDeskModel" "watchedMagazine") ∈ lw_tbl := cd_t4 (List.mem_of_getElem? (i := 179) (by decide +kernel))
theorem tw_900 : (Jvm.Cond.lays "CaptionDeskModel" "CaptionDeskModel" "watchedNumber" "I") ∈ cd_Ts := cd_in (cd_t4 (List.mem_of_getElem? (i := 180) (by decide +kernel))) rfl
theorem tl_901 : (Jvm.Cond.soleField "CaptionDeskModel" "watchedNumber") ∈ lw_tbl := cd_t4 (List.mem_of_getElem? (i := 181) (by decide +kernel))
theorem tw_902 : (Jvm.Cond.lays "CaptionDeskModel" "CaptionDeskModel" "hasWatched" "Z") ∈ cd_Ts := cd_in (cd_t4 (List.mem_of_getElem? (i := 182) (by decide +kernel))) rfl
theorem tl_903 : (Jvm.Cond.soleField "CaptionDeskModel" "hasWatched") ∈ lw_tbl := cd_t4 (List.mem_of_getElem? (i := 183) (by decide +kernel))
theorem tw_904 : (Jvm.Cond.laysFinal "CaptionDeskModel" "CaptionDeskModel" "watched" "[B") ∈ cd_Ts := cd_in (cd_t4 (List.mem_of_getElem? (i := 184) (by decide +kernel))) rfl
theorem tl_905 : (Jvm.Cond.soleField "CaptionDeskModel" "watched") ∈ lw_tbl := cd_t4 (List.mem_of_getElem? (i := 185) (by decide +kernel))
theorem tw_906 : (Jvm.Cond.laysFinal "CaptionDeskModel" "CaptionDeskModel" "watchedRow" "[Z") ∈ cd_Ts := cd_in (cd_t4 (List.mem_of_getElem? (i := 186) (by decide +kernel))) rfl
theorem tl_907 : (Jvm.Cond.soleField "CaptionDeskModel" "watchedRow") ∈ lw_tbl := cd_t4 (List.mem_of_getElem? (i := 187) (by decide +kernel))
theorem tw_908 : (Jvm.Cond.lays "CaptionDeskModel" "CaptionDeskModel" "time" "I") ∈ cd_Ts := cd_in (cd_t4 (List.mem_of_getElem? (i := 188) (by decide +kernel))) rfl
theorem tl_909 : (Jvm.Cond.soleField "CaptionDeskModel" "time") ∈ lw_tbl := cd_t4 (List.mem_of_getElem? (i := 189) (by decide +kernel))
theorem tw_910 : (Jvm.Cond.lays "CaptionDeskModel" "CaptionDeskModel" "cues" "I") ∈ cd_Ts := cd_in (cd_t4 (List.mem_of_getElem? (i := 190) (by decide +kernel))) rfl
theorem tl_911 : (Jvm.Cond.soleField "CaptionDeskModel" "cues") ∈ lw_tbl := cd_t4 (List.mem_of_getElem? (i := 191) (by decide +kernel))
theorem tw_912 : (Jvm.Cond.laysFinal "CaptionDeskModel" "CaptionDeskModel" "source" "[I") ∈ cd_Ts := cd_in (cd_t4 (List.mem_of_getElem? (i := 192) (by decide +kernel))) rfl
theorem tl_913 : (Jvm.Cond.soleField "CaptionDeskModel" "source") ∈ lw_tbl := cd_t4 (List.mem_of_getElem? (i := 193) (by decide +kernel))
theorem tw_914 : (Jvm.Cond.laysFinal "CaptionDeskModel" "CaptionDeskModel" "began" "[I") ∈ cd_Ts := cd_in (cd_t4 (List.mem_of_getElem? (i := 194) (by decide +kernel))) rfl
theorem tl_915 : (Jvm.Cond.soleField "CaptionDeskModel" "began") ∈ lw_tbl := cd_t4 (List.mem_of_getElem? (i := 195) (by decide +kernel))
theorem tw_916 : (Jvm.Cond.laysFinal "CaptionDeskModel" "CaptionDeskModel" "ended" "[I") ∈ cd_Ts := cd_in (cd_t4 (List.mem_of_getElem? (i := 196) (by decide +kernel))) rfl
theorem tl_917 : (Jvm.Cond.soleField "CaptionDeskModel" "ended") ∈ lw_tbl := cd_t4 (List.mem_of_getElem? (i := 197) (by decide +kernel))
theorem tw_918 : (Jvm.Cond.laysFinal "CaptionDeskModel" "CaptionDeskModel" "cueSize" "[I") ∈ cd_Ts := cd_in (cd_t4 (List.mem_of_getElem? (i := 198) (by decide +kernel))) rfl
theorem tl_919 : (Jvm.Cond.soleField "CaptionDeskModel" "cueSize") ∈ lw_tbl := cd_t4 (List.mem_of_getElem? (i := 199) (by decide +kernel))
theorem tw_920 : (Jvm.Cond.laysFinal "CaptionDeskModel" "CaptionDeskModel" "cueBytes" "[B") ∈ cd_Ts := cd_in (cd_t4 (List.mem_of_getElem? (i := 200) (by decide +kernel))) rfl
theorem tl_921 : (Jvm.Cond.soleField "CaptionDeskModel" "cueBytes") ∈ lw_tbl := cd_t4 (List.mem_of_getElem? (i := 201) (by decide +kernel))
theorem tw_922 : (Jvm.Cond.laysFinal "CaptionDeskModel" "CaptionDeskModel" "going" "[I") ∈ cd_Ts := cd_in (cd_t4 (List.mem_of_getElem? (i := 202) (by decide +kernel))) rfl
theorem tl_923 : (Jvm.Cond.soleField "CaptionDeskModel" "going") ∈ lw_tbl := cd_t4 (List.mem_of_getElem? (i := 203) (by decide +kernel))
theorem tw_924 : (Jvm.Cond.laysFinal "CaptionDeskModel" "CaptionDeskModel" "keptLetters" "[I") ∈ cd_Ts := cd_in (cd_t4 (List.mem_of_getElem? (i := 204) (by decide +kernel))) rfl
theorem tl_925 : (Jvm.Cond.soleField "CaptionDeskModel" "keptLetters") ∈ lw_tbl := cd_t4 (List.mem_of_getElem? (i := 205) (by decide +kernel))
theorem tw_926 : (Jvm.Cond.laysFinal "CaptionDeskModel" "CaptionDeskModel" "keptLooks" "[I") ∈ cd_Ts := cd_in (cd_t4 (List.mem_of_getElem? (i := 206) (by decide +kernel))) rfl
theorem tl_927 : (Jvm.Cond.soleField "CaptionDeskModel" "keptLooks") ∈ lw_tbl := cd_t4 (List.mem_of_getElem? (i := 207) (by decide +kernel))
theorem tw_928 : (Jvm.Cond.lays "CaptionDeskModel" "CaptionDeskModel" "lineSize" "I") ∈ cd_Ts := cd_in (cd_t4 (List.mem_of_getElem? (i := 208) (by decide +kernel))) rfl
theorem tl_929 : (Jvm.Cond.soleField "CaptionDeskModel" "lineSize") ∈ lw_tbl := cd_t4 (List.mem_of_getElem? (i := 209) (by decide +kernel))
theorem tw_930 : (Jvm.Cond.laysFinal "CaptionDeskModel" "CaptionDeskModel" "lines" "[B") ∈ cd_Ts := cd_in (cd_t4 (List.mem_of_getElem? (i := 210) (by decide +kernel))) rfl
theorem tl_931 : (Jvm.Cond.soleField "CaptionDeskModel" "lines") ∈ lw_tbl := cd_t4 (List.mem_of_getElem? (i := 211) (by decide +kernel))
theorem tw_932 : (Jvm.Cond.superclass "CaptionDeskModel" "java/lang/Object") ∈ cd_Ts := cd_in (cd_t4 (List.mem_of_getElem? (i := 212) (by decide +kernel))) rfl
theorem tw_933 : (Jvm.Cond.methodLink "CaptionDeskLaw" (121 : Nat) ({ cls := "CaptionDeskModel", name := "thrown", desc := "()I" } : Jvm.MethodName)) ∈ cd_Ts := cd_in (cd_t4 (List.mem_of_getElem? (i := 213) (by decide +kernel))) rfl
theorem tw_934 : (Jvm.Cond.instanceMethod ({ cls := "CaptionDeskModel", name := "thrown", desc := "()I" } : Jvm.MethodName)) ∈ cd_Ts := cd_in (cd_t4 (List.mem_of_getElem? (i := 214) (by decide +kernel))) rfl
theorem tw_935 : (Jvm.Cond.selects "CaptionDeskModel" ({ cls := "CaptionDeskModel", name := "thrown", desc := "()I" } : Jvm.MethodName) ({ cls := "CaptionDeskModel", name := "thrown", desc := "()I" } : Jvm.MethodName)) ∈ cd_Ts := cd_in (cd_t4 (List.mem_of_getElem? (i := 215) (by decide +kernel))) rfl
set_option maxRecDepth 100000 in
theorem tw_936 : (Jvm.Cond.code ({ cls := "CaptionDeskModel", name := "thrown", desc := "()I" } : Jvm.MethodName) prog_11_method_2_code (1 : Nat) (Option.some Jvm.ClassFile.FieldType.int)) ∈ cd_Ts := cd_in (cd_t4 (List.mem_of_getElem? (i := 216) rfl)) rfl
theorem tw_937 : (Jvm.Cond.methodLink "CaptionDeskLaw" (74 : Nat) ({ cls := "CaptionDeskModel", name := "pair", desc := "(III)I" } : Jvm.MethodName)) ∈ cd_Ts := cd_in (cd_t4 (List.mem_of_getElem? (i := 217) (by decide +kernel))) rfl
theorem tw_938 : (Jvm.Cond.instanceMethod ({ cls := "CaptionDeskModel", name := "pair", desc := "(III)I" } : Jvm.MethodName)) ∈ cd_Ts := cd_in (cd_t4 (List.mem_of_getElem? (i := 218) (by decide +kernel))) rfl
theorem tw_939 : (Jvm.Cond.selects "CaptionDeskModel" ({ cls := "CaptionDeskModel", name := "pair", desc := "(III)I" } : Jvm.MethodName) ({ cls := "CaptionDeskModel", name := "pair", desc := "(III)I" } : Jvm.MethodName)) ∈ cd_Ts := cd_in (cd_t4 (List.mem_of_getElem? (i := 219) (by decide +kernel))) rfl
set_option maxRecDepth 100000 in
theorem tw_940 : (Jvm.Cond.code ({ cls := "CaptionDeskModel", name := "pair", desc := "(III)I" } : Jvm.MethodName) prog_11_method_19_code (11 : Nat) (Option.some Jvm.ClassFile.FieldType.int)) ∈ cd_Ts := cd_in (cd_t4 (List.mem_of_getElem? (i := 220) rfl)) rfl
theorem tw_941 : (Jvm.Cond.methodLink "CaptionDeskModel" (153 : Nat) ({ cls := "CaptionDeskModel", name := "in", desc := "(III)Z" } : Jvm.MethodName)) ∈ cd_Ts := cd_in (cd_t4 (List.mem_of_getElem? (i := 221) (by decide +kernel))) rfl
theorem tw_942 : (Jvm.Cond.static ({ cls := "CaptionDeskModel", name := "in", desc := "(III)Z" } : Jvm.MethodName)) ∈ cd_Ts := cd_in (cd_t4 (List.mem_of_getElem? (i := 222) (by decide +kernel))) rfl
set_option maxRecDepth 100000 in
theorem tw_943 : (Jvm.Cond.code ({ cls := "CaptionDeskModel", name := "in", desc := "(III)Z" } : Jvm.MethodName) prog_11_method_3_code (3 : Nat) (Option.some Jvm.ClassFile.FieldType.boolean)) ∈ cd_Ts := cd_in (cd_t4 (List.mem_of_getElem? (i := 223) rfl)) rfl
theorem tw_944 : (Jvm.Cond.methodLink "CaptionDeskModel" (169 : Nat) ({ cls := "CaptionDeskModel", name := "goes", desc := "(Z)Z" } : Jvm.MethodName)) ∈ cd_Ts := cd_in (cd_t4 (List.mem_of_getElem? (i := 224) (by decide +kernel))) rfl
theorem tl_945 : (Jvm.Cond.privateMethod ({ cls := "CaptionDeskModel", name := "goes", desc := "(Z)Z" } : Jvm.MethodName)) ∈ lw_tbl := cd_t4 (List.mem_of_getElem? (i := 225) (by decide +kernel))
theorem tw_946 : (Jvm.Cond.instanceMethod ({ cls := "CaptionDeskModel", name := "goes", desc := "(Z)Z" } : Jvm.MethodName)) ∈ cd_Ts := cd_in (cd_t4 (List.mem_of_getElem? (i := 226) (by decide +kernel))) rfl
set_option maxRecDepth 100000 in
theorem tw_947 : (Jvm.Cond.code ({ cls := "CaptionDeskModel", name := "goes", desc := "(Z)Z" } : Jvm.MethodName) prog_11_method_4_code (2 : Nat) (Option.some Jvm.ClassFile.FieldType.boolean)) ∈ cd_Ts := cd_in (cd_t4 (List.mem_of_getElem? (i := 227) rfl)) rfl
