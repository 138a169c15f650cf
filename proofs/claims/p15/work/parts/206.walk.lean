theorem dX8_pair_0 : decode cX8_pair 0 = .ok (.iload_n 1, 1) := by decide +kernel
theorem dX8_pair_1 : decode cX8_pair 1 = .ok (.iconst 2, 1) := by decide +kernel
theorem dX8_pair_2 : decode cX8_pair 2 = .ok (.invokestatic 62, 3) := by decide +kernel
theorem dX8_pair_5 : decode cX8_pair 5 = .ok (.ifCond .eq 13, 3) := by decide +kernel
theorem dX8_pair_8 : decode cX8_pair 8 = .ok (.new 66, 3) := by decide +kernel
theorem dX8_pair_11 : decode cX8_pair 11 = .ok (.dup, 1) := by decide +kernel
theorem dX8_pair_12 : decode cX8_pair 12 = .ok (.ldc 68, 2) := by decide +kernel
theorem dX8_pair_14 : decode cX8_pair 14 = .ok (.invokespecial 70, 3) := by decide +kernel
theorem dX8_pair_17 : decode cX8_pair 17 = .ok (.athrow, 1) := by decide +kernel
theorem dX8_pair_18 : decode cX8_pair 18 = .ok (.iload_n 2, 1) := by decide +kernel
theorem dX8_pair_19 : decode cX8_pair 19 = .ok (.sipush 255, 3) := by decide +kernel
theorem dX8_pair_22 : decode cX8_pair 22 = .ok (.iand, 1) := by decide +kernel
theorem dX8_pair_23 : decode cX8_pair 23 = .ok (.istore 4, 2) := by decide +kernel
theorem dX8_pair_25 : decode cX8_pair 25 = .ok (.iload_n 3, 1) := by decide +kernel
theorem dX8_pair_26 : decode cX8_pair 26 = .ok (.sipush 255, 3) := by decide +kernel
theorem dX8_pair_29 : decode cX8_pair 29 = .ok (.iand, 1) := by decide +kernel
theorem dX8_pair_30 : decode cX8_pair 30 = .ok (.istore 5, 2) := by decide +kernel
theorem dX8_pair_32 : decode cX8_pair 32 = .ok (.iload 4, 2) := by decide +kernel
theorem dX8_pair_34 : decode cX8_pair 34 = .ok (.iload 5, 2) := by decide +kernel
theorem dX8_pair_36 : decode cX8_pair 36 = .ok (.invokestatic 73, 3) := by decide +kernel
theorem dX8_pair_39 : decode cX8_pair 39 = .ok (.ifCond .ne 29, 3) := by decide +kernel
theorem dX8_pair_42 : decode cX8_pair 42 = .ok (.aload_n 0, 1) := by decide +kernel
theorem dX8_pair_43 : decode cX8_pair 43 = .ok (.getfield 19, 3) := by decide +kernel
theorem dX8_pair_46 : decode cX8_pair 46 = .ok (.iload_n 1, 1) := by decide +kernel
theorem dX8_pair_47 : decode cX8_pair 47 = .ok (.iconst (-1), 1) := by decide +kernel
theorem dX8_pair_48 : decode cX8_pair 48 = .ok (.iastore, 1) := by decide +kernel
theorem dX8_pair_49 : decode cX8_pair 49 = .ok (.aload_n 0, 1) := by decide +kernel
theorem dX8_pair_50 : decode cX8_pair 50 = .ok (.iload_n 1, 1) := by decide +kernel
theorem dX8_pair_51 : decode cX8_pair 51 = .ok (.iload 4, 2) := by decide +kernel
theorem dX8_pair_53 : decode cX8_pair 53 = .ok (.iload 5, 2) := by decide +kernel
theorem dX8_pair_55 : decode cX8_pair 55 = .ok (.invokevirtual 76, 3) := by decide +kernel
theorem dX8_pair_58 : decode cX8_pair 58 = .ok (.ifCond .eq 8, 3) := by decide +kernel
theorem dX8_pair_61 : decode cX8_pair 61 = .ok (.bipush 9, 2) := by decide +kernel
theorem dX8_pair_63 : decode cX8_pair 63 = .ok (.goto 4, 3) := by decide +kernel
theorem dX8_pair_66 : decode cX8_pair 66 = .ok (.iconst (-1), 1) := by decide +kernel
theorem dX8_pair_67 : decode cX8_pair 67 = .ok (.ireturn, 1) := by decide +kernel
theorem dX8_pair_68 : decode cX8_pair 68 = .ok (.iload 4, 2) := by decide +kernel
theorem dX8_pair_70 : decode cX8_pair 70 = .ok (.bipush 127, 2) := by decide +kernel
theorem dX8_pair_72 : decode cX8_pair 72 = .ok (.iand, 1) := by decide +kernel
theorem dX8_pair_73 : decode cX8_pair 73 = .ok (.sipush 128, 3) := by decide +kernel
theorem dX8_pair_76 : decode cX8_pair 76 = .ok (.imul, 1) := by decide +kernel
theorem dX8_pair_77 : decode cX8_pair 77 = .ok (.iload 5, 2) := by decide +kernel
theorem dX8_pair_79 : decode cX8_pair 79 = .ok (.bipush 127, 2) := by decide +kernel
theorem dX8_pair_81 : decode cX8_pair 81 = .ok (.iand, 1) := by decide +kernel
theorem dX8_pair_82 : decode cX8_pair 82 = .ok (.iadd, 1) := by decide +kernel
theorem dX8_pair_83 : decode cX8_pair 83 = .ok (.istore 6, 2) := by decide +kernel
theorem dX8_pair_85 : decode cX8_pair 85 = .ok (.iload 6, 2) := by decide +kernel
theorem dX8_pair_87 : decode cX8_pair 87 = .ok (.aload_n 0, 1) := by decide +kernel
theorem dX8_pair_88 : decode cX8_pair 88 = .ok (.getfield 19, 3) := by decide +kernel
theorem dX8_pair_91 : decode cX8_pair 91 = .ok (.iload_n 1, 1) := by decide +kernel
theorem dX8_pair_92 : decode cX8_pair 92 = .ok (.iaload, 1) := by decide +kernel
theorem dX8_pair_93 : decode cX8_pair 93 = .ok (.if_icmp .ne 13, 3) := by decide +kernel
theorem dX8_pair_96 : decode cX8_pair 96 = .ok (.aload_n 0, 1) := by decide +kernel
theorem dX8_pair_97 : decode cX8_pair 97 = .ok (.getfield 19, 3) := by decide +kernel
theorem dX8_pair_100 : decode cX8_pair 100 = .ok (.iload_n 1, 1) := by decide +kernel
theorem dX8_pair_101 : decode cX8_pair 101 = .ok (.iconst (-1), 1) := by decide +kernel
theorem dX8_pair_102 : decode cX8_pair 102 = .ok (.iastore, 1) := by decide +kernel
theorem dX8_pair_103 : decode cX8_pair 103 = .ok (.bipush 8, 2) := by decide +kernel
theorem dX8_pair_105 : decode cX8_pair 105 = .ok (.ireturn, 1) := by decide +kernel
theorem dX8_pair_106 : decode cX8_pair 106 = .ok (.aload_n 0, 1) := by decide +kernel
theorem dX8_pair_107 : decode cX8_pair 107 = .ok (.getfield 19, 3) := by decide +kernel
theorem dX8_pair_110 : decode cX8_pair 110 = .ok (.iload_n 1, 1) := by decide +kernel
theorem dX8_pair_111 : decode cX8_pair 111 = .ok (.iload 6, 2) := by decide +kernel
theorem dX8_pair_113 : decode cX8_pair 113 = .ok (.iastore, 1) := by decide +kernel
theorem dX8_pair_114 : decode cX8_pair 114 = .ok (.aload_n 0, 1) := by decide +kernel
theorem dX8_pair_115 : decode cX8_pair 115 = .ok (.iload_n 1, 1) := by decide +kernel
theorem dX8_pair_116 : decode cX8_pair 116 = .ok (.iload 4, 2) := by decide +kernel
theorem dX8_pair_118 : decode cX8_pair 118 = .ok (.bipush 127, 2) := by decide +kernel
theorem dX8_pair_120 : decode cX8_pair 120 = .ok (.iand, 1) := by decide +kernel
theorem dX8_pair_121 : decode cX8_pair 121 = .ok (.iload 5, 2) := by decide +kernel
theorem dX8_pair_123 : decode cX8_pair 123 = .ok (.bipush 127, 2) := by decide +kernel
theorem dX8_pair_125 : decode cX8_pair 125 = .ok (.iand, 1) := by decide +kernel
theorem dX8_pair_126 : decode cX8_pair 126 = .ok (.invokevirtual 80, 3) := by decide +kernel
theorem dX8_pair_129 : decode cX8_pair 129 = .ok (.ireturn, 1) := by decide +kernel
theorem nmX8_pair : mm_nm yX8_pair 3 := ⟨by decide, by decide, by decide +kernel⟩
theorem cdX8_pair : mm_cd cd_Y yX8_pair cX8_pair 7 (some .int) := ⟨tw_238, tw_1⟩
abbrev rmX8_pair : Room := { frames := 6, cells := 1, slots := 6, locals := 139 }
def fX8_pair (p0 : Nat) (p1 : Int32) (p2 : Int32) (p3 : Int32) (σ : mm_M) : Option (Option Int32 × mm_M) :=
  (if (fX8_isOutside p1 2) = 0 then (if (fX8_isCode (p2 &&& 255) (p3 &&& 255)) = 0 then mm_sh σ p0 (.inl 8) (mm_on (mm_R σ p0 2) fun q18 => mm_ar σ q18 0 fun n19 => mm_ib p1 n19 (mm_let (mm_wI σ q18 (p1.toNatClampNeg) (-1)) fun s21 => mm_on (fX8_takeLetters p0 p1 (p2 &&& 255) (p3 &&& 255) s21) fun q22 => (if q22.1 = 0 then some (some ((-1)), q22.2) else some (some (9), q22.2)))) else mm_sh σ p0 (.inl 8) (mm_on (mm_R σ p0 2) fun q4 => mm_ar σ q4 0 fun n5 => mm_ib p1 n5 ((if ((((p2 &&& 255) &&& 127) * 128) + ((p3 &&& 255) &&& 127)) = (mm_I σ q4 p1.toNatClampNeg) then mm_on (mm_R σ p0 2) fun q13 => mm_ar σ q13 0 fun n14 => mm_ib p1 n14 (mm_let (mm_wI σ q13 (p1.toNatClampNeg) (-1)) fun s16 => some (some (8), s16)) else mm_on (mm_R σ p0 2) fun q8 => mm_ar σ q8 0 fun n9 => mm_ib p1 n9 (mm_let (mm_wI σ q8 (p1.toNatClampNeg) ((((p2 &&& 255) &&& 127) * 128) + ((p3 &&& 255) &&& 127))) fun s11 => mm_on (fX8_takeCode p0 p1 ((p2 &&& 255) &&& 127) ((p3 &&& 255) &&& 127) s11) fun q12 => some (some (q12.1), q12.2)))))) else some (none, σ))
set_option maxHeartbeats 4000000 in
set_option maxRecDepth 100000 in
theorem kX8_pair {G : mm_G} {A : Nat → Prop} (p0 : Nat) (p1 : Int32) (p2 : Int32) (p3 : Int32) {σ : mm_M} {R : (Option Int32 × mm_M)} (hf : fX8_pair p0 p1 p2 p3 σ = some R) : mm_CX cd_Y G yX8_pair cX8_pair 7 (some .int) rmX8_pair A [.ref p0, .int p1, .int p2, .int p3] σ (mm_PX R) R.2 "java/lang/IndexOutOfBoundsException" (R.1 = none) := by
  refine mm_CX.of (by decide) (Nat.le_of_ble_eq_true rfl) ?_
  unfold fX8_pair at hf
  have e0 : lv_args 0 [.ref p0, .int p1, .int p2, .int p3] = [(0, .ref p0), (1, .int p1), (2, .int p2), (3, .int p3)] := rfl
  rw [e0]
  clear e0
  refine mm_iload_n (j := 1) dX8_pair_0 rfl rfl ?_
  refine mm_iconst (v := 2) dX8_pair_1 (by decide) ?_
  refine mm_callSi cd_ok (kX8_isOutside p1 2 _ rfl) (Or.inl tw_239) cdX8_isOutside tw_221 nmX8_isOutside rfl rfl (by simp only [List.map_cons, List.map_nil, mm_rf_cat]; exact Nat.le_of_ble_eq_true rfl) dX8_pair_2 ⟨Nat.le_of_ble_eq_true rfl, Nat.le_of_ble_eq_true rfl⟩ ⟨Nat.le_of_ble_eq_true rfl, Nat.le_of_ble_eq_true rfl⟩ ?_
  refine mm_if_eq (tgt := 18) dX8_pair_5 (by decide) (fun c1 => ?_) (fun c1 => ?_)
  · rw [if_pos c1] at hf
    refine mm_iload_n (j := 2) dX8_pair_18 rfl rfl ?_
    refine mm_sipush (v := 255) dX8_pair_19 (by decide) ?_
    refine mm_iand dX8_pair_22 ?_
    refine mm_istore (L' := [(4, .int (p2 &&& 255)), (0, .ref p0), (1, .int p1), (2, .int p2), (3, .int p3)]) dX8_pair_23 (by decide) rfl ?_
    refine mm_iload_n (j := 4) dX8_pair_25 rfl rfl ?_
    refine mm_sipush (v := 255) dX8_pair_26 (by decide) ?_
    refine mm_iand dX8_pair_29 ?_
    refine mm_istore (L' := [(5, .int (p3 &&& 255)), (4, .int (p2 &&& 255)), (0, .ref p0), (1, .int p1), (2, .int p2), (3, .int p3)]) dX8_pair_30 (by decide) rfl ?_
    refine mm_iload (j := 1) dX8_pair_32 rfl ?_
    refine mm_iload (j := 0) dX8_pair_34 rfl ?_
    refine mm_callSi cd_ok (kX8_isCode (p2 &&& 255) (p3 &&& 255) _ rfl) (Or.inl tw_308) cdX8_isCode tw_309 nmX8_isCode rfl rfl (by simp only [List.map_cons, List.map_nil, mm_rf_cat]; exact Nat.le_of_ble_eq_true rfl) dX8_pair_36 ⟨Nat.le_of_ble_eq_true rfl, Nat.le_of_ble_eq_true rfl⟩ ⟨Nat.le_of_ble_eq_true rfl, Nat.le_of_ble_eq_true rfl⟩ ?_
    refine mm_if_ne (tgt := 68) dX8_pair_39 (by decide) (fun c2 => ?_) (fun c2 => ?_)
    · rw [if_neg c2] at hf
      refine mm_iload (j := 1) dX8_pair_68 rfl ?_
      refine mm_bipush (v := 127) dX8_pair_70 (by decide) ?_
      refine mm_iand dX8_pair_72 ?_
      refine mm_sipush (v := 128) dX8_pair_73 (by decide) ?_
      refine mm_imul dX8_pair_76 ?_
      refine mm_iload (j := 0) dX8_pair_77 rfl ?_
      refine mm_bipush (v := 127) dX8_pair_79 (by decide) ?_
      refine mm_iand dX8_pair_81 ?_
      refine mm_iadd dX8_pair_82 ?_
      refine mm_istore (L' := [(6, .int ((((p2 &&& 255) &&& 127) * 128) + ((p3 &&& 255) &&& 127))), (5, .int (p3 &&& 255)), (4, .int (p2 &&& 255)), (0, .ref p0), (1, .int p1), (2, .int p2), (3, .int p3)]) dX8_pair_83 (by decide) rfl ?_
      refine mm_iload (j := 0) dX8_pair_85 rfl ?_
      refine mm_aload_n (j := 3) dX8_pair_87 rfl rfl ?_
      obtain ⟨hs3, hf⟩ := mm_sh_s hf
      refine mm_get (c := 8) (k := 2) (v := va_rf (mm_R σ p0 2)) cd_ok ⟨_, _, _, rfl, by decide, Or.inl tw_142⟩ hs3 rfl dX8_pair_88 ?_
      refine mm_iload_n (j := 4) dX8_pair_91 rfl rfl ?_
      obtain ⟨q4, hq4, hf⟩ := mm_on_s hf
      rw [hq4, mm_rf_some]
      obtain ⟨n5, hn5, hf⟩ := mm_ar_s hf
      obtain ⟨hi6, hf⟩ := mm_ib_s hf
      refine mm_iald hn5 rfl hi6 dX8_pair_92 ?_
      refine mm_icmp_ne (tgt := 106) dX8_pair_93 (by decide) (fun c7 => ?_) (fun c7 => ?_)
      · rw [if_neg c7] at hf
        refine mm_aload_n (j := 3) dX8_pair_106 rfl rfl ?_
        refine mm_get (c := 8) (k := 2) (v := va_rf (mm_R σ p0 2)) cd_ok ⟨_, _, _, rfl, by decide, Or.inl tw_142⟩ hs3 rfl dX8_pair_107 ?_
        refine mm_iload_n (j := 4) dX8_pair_110 rfl rfl ?_
        refine mm_iload (j := 0) dX8_pair_111 rfl ?_
        obtain ⟨q8, hq8, hf⟩ := mm_on_s hf
        rw [hq8, mm_rf_some]
        obtain ⟨n9, hn9, hf⟩ := mm_ar_s hf
        obtain ⟨hi10, hf⟩ := mm_ib_s hf
        refine mm_iast hn9 rfl hi10 dX8_pair_113 ?_
        obtain ⟨s11, hs11, hf⟩ := mm_let_s hf
        rw [hs11]
        refine mm_aload_n (j := 3) dX8_pair_114 rfl rfl ?_
        refine mm_iload_n (j := 4) dX8_pair_115 rfl rfl ?_
        refine mm_iload (j := 2) dX8_pair_116 rfl ?_
        refine mm_bipush (v := 127) dX8_pair_118 (by decide) ?_
        refine mm_iand dX8_pair_120 ?_
        refine mm_iload (j := 1) dX8_pair_121 rfl ?_
        refine mm_bipush (v := 127) dX8_pair_123 (by decide) ?_
        refine mm_iand dX8_pair_125 ?_
        obtain ⟨q12, hq12, hf⟩ := mm_on_s hf
        refine mm_callVi cd_ok (kX8_takeCode p0 p1 ((p2 &&& 255) &&& 127) ((p3 &&& 255) &&& 127) hq12) (mm_ke hs11 hs3) rfl (Or.inl tw_342) cdX8_takeCode tw_344 ts_3 nmX8_takeCode rfl rfl (by simp only [List.map_cons, List.map_nil, mm_rf_cat]; exact Nat.le_of_ble_eq_true rfl) dX8_pair_126 ⟨Nat.le_of_ble_eq_true rfl, Nat.le_of_ble_eq_true rfl⟩ ⟨Nat.le_of_ble_eq_true rfl, Nat.le_of_ble_eq_true rfl⟩ ?_
        cases hf
        refine mm_widen (ck' := rmX8_pair.cells) (sk' := rmX8_pair.slots) (Nat.le_of_ble_eq_true rfl) (Nat.le_of_ble_eq_true rfl) ?_
        exact mm_x (mm_iret rfl rfl dX8_pair_129 ⟨_, rfl, rfl, rfl⟩)
      · rw [if_pos c7] at hf
        refine mm_aload_n (j := 3) dX8_pair_96 rfl rfl ?_
        refine mm_get (c := 8) (k := 2) (v := va_rf (mm_R σ p0 2)) cd_ok ⟨_, _, _, rfl, by decide, Or.inl tw_142⟩ hs3 rfl dX8_pair_97 ?_
        refine mm_iload_n (j := 4) dX8_pair_100 rfl rfl ?_
        refine mm_iconst (v := (-1)) dX8_pair_101 (by decide) ?_
        obtain ⟨q13, hq13, hf⟩ := mm_on_s hf
        rw [hq13, mm_rf_some]
        obtain ⟨n14, hn14, hf⟩ := mm_ar_s hf
        obtain ⟨hi15, hf⟩ := mm_ib_s hf
        refine mm_iast hn14 rfl hi15 dX8_pair_102 ?_
        obtain ⟨s16, hs16, hf⟩ := mm_let_s hf
        rw [hs16]
        refine mm_bipush (v := 8) dX8_pair_103 (by decide) ?_
        cases hf
        refine mm_widen (ck' := rmX8_pair.cells) (sk' := rmX8_pair.slots) (Nat.le_of_ble_eq_true rfl) (Nat.le_of_ble_eq_true rfl) ?_
        exact mm_x (mm_iret rfl rfl dX8_pair_105 ⟨_, rfl, rfl, rfl⟩)
    · rw [if_pos c2] at hf
      refine mm_aload_n (j := 2) dX8_pair_42 rfl rfl ?_
      obtain ⟨hs17, hf⟩ := mm_sh_s hf
      refine mm_get (c := 8) (k := 2) (v := va_rf (mm_R σ p0 2)) cd_ok ⟨_, _, _, rfl, by decide, Or.inl tw_142⟩ hs17 rfl dX8_pair_43 ?_
      refine mm_iload_n (j := 3) dX8_pair_46 rfl rfl ?_
      refine mm_iconst (v := (-1)) dX8_pair_47 (by decide) ?_
      obtain ⟨q18, hq18, hf⟩ := mm_on_s hf
      rw [hq18, mm_rf_some]
      obtain ⟨n19, hn19, hf⟩ := mm_ar_s hf
      obtain ⟨hi20, hf⟩ := mm_ib_s hf
      refine mm_iast hn19 rfl hi20 dX8_pair_48 ?_
      obtain ⟨s21, hs21, hf⟩ := mm_let_s hf
      rw [hs21]
      refine mm_aload_n (j := 2) dX8_pair_49 rfl rfl ?_
      refine mm_iload_n (j := 3) dX8_pair_50 rfl rfl ?_
      refine mm_iload (j := 1) dX8_pair_51 rfl ?_
      refine mm_iload (j := 0) dX8_pair_53 rfl ?_
      obtain ⟨q22, hq22, hf⟩ := mm_on_s hf
      refine mm_callVi cd_ok (kX8_takeLetters p0 p1 (p2 &&& 255) (p3 &&& 255) hq22) (mm_ke hs21 hs17) rfl (Or.inl tw_314) cdX8_takeLetters tw_316 ts_1 nmX8_takeLetters rfl rfl (by simp only [List.map_cons, List.map_nil, mm_rf_cat]; exact Nat.le_of_ble_eq_true rfl) dX8_pair_55 ⟨Nat.le_of_ble_eq_true rfl, Nat.le_of_ble_eq_true rfl⟩ ⟨Nat.le_of_ble_eq_true rfl, Nat.le_of_ble_eq_true rfl⟩ ?_
      refine mm_if_eq (tgt := 66) dX8_pair_58 (by decide) (fun c23 => ?_) (fun c23 => ?_)
      · rw [if_pos c23] at hf
        refine mm_iconst (v := (-1)) dX8_pair_66 (by decide) ?_
        cases hf
        refine mm_widen (ck' := rmX8_pair.cells) (sk' := rmX8_pair.slots) (Nat.le_of_ble_eq_true rfl) (Nat.le_of_ble_eq_true rfl) ?_
        exact mm_x (mm_iret rfl rfl dX8_pair_67 ⟨_, rfl, rfl, rfl⟩)
      · rw [if_neg c23] at hf
        refine mm_bipush (v := 9) dX8_pair_61 (by decide) ?_
        refine mm_goto (tgt := 67) dX8_pair_63 (by decide) ?_
        cases hf
        refine mm_widen (ck' := rmX8_pair.cells) (sk' := rmX8_pair.slots) (Nat.le_of_ble_eq_true rfl) (Nat.le_of_ble_eq_true rfl) ?_
        exact mm_x (mm_iret rfl rfl dX8_pair_67 ⟨_, rfl, rfl, rfl⟩)
  · rw [if_neg c1] at hf
    cases hf
    exact mm_throw cd_ok rfl rfl th_X8_66_70 (List.mem_of_getElem? (i := 0) rfl) dX8_pair_8 dX8_pair_11 dX8_pair_12 dX8_pair_14 dX8_pair_17 (Nat.le_of_ble_eq_true rfl) (by simp only [List.map_cons, List.map_nil, mm_rf_cat]; exact Nat.le_of_ble_eq_true rfl) (Nat.le_of_ble_eq_true rfl) (Nat.le_of_ble_eq_true rfl) (Nat.le_of_ble_eq_true rfl) (Nat.le_of_ble_eq_true rfl)
theorem dX8_packet_0 : decode cX8_packet 0 = .ok (.aload_n 0, 1) := by decide +kernel
theorem dX8_packet_1 : decode cX8_packet 1 = .ok (.getfield 147, 3) := by decide +kernel
theorem dX8_packet_4 : decode cX8_packet 4 = .ok (.bipush 42, 2) := by decide +kernel
theorem dX8_packet_6 : decode cX8_packet 6 = .ok (.if_icmp .ge 13, 3) := by decide +kernel
theorem dX8_packet_9 : decode cX8_packet 9 = .ok (.new 150, 3) := by decide +kernel
theorem dX8_packet_12 : decode cX8_packet 12 = .ok (.dup, 1) := by decide +kernel
theorem dX8_packet_13 : decode cX8_packet 13 = .ok (.ldc 158, 2) := by decide +kernel
theorem dX8_packet_15 : decode cX8_packet 15 = .ok (.invokespecial 154, 3) := by decide +kernel
theorem dX8_packet_18 : decode cX8_packet 18 = .ok (.athrow, 1) := by decide +kernel
theorem dX8_packet_19 : decode cX8_packet 19 = .ok (.aload_n 0, 1) := by decide +kernel
theorem dX8_packet_20 : decode cX8_packet 20 = .ok (.iconst 0, 1) := by decide +kernel
theorem dX8_packet_21 : decode cX8_packet 21 = .ok (.putfield 147, 3) := by decide +kernel
theorem dX8_packet_24 : decode cX8_packet 24 = .ok (.aload_n 0, 1) := by decide +kernel
theorem dX8_packet_25 : decode cX8_packet 25 = .ok (.iconst 0, 1) := by decide +kernel
theorem dX8_packet_26 : decode cX8_packet 26 = .ok (.invokevirtual 160, 3) := by decide +kernel
theorem dX8_packet_29 : decode cX8_packet 29 = .ok (.istore_n 1, 1) := by decide +kernel
theorem dX8_packet_30 : decode cX8_packet 30 = .ok (.aload_n 0, 1) := by decide +kernel
theorem dX8_packet_31 : decode cX8_packet 31 = .ok (.iconst 1, 1) := by decide +kernel
theorem dX8_packet_32 : decode cX8_packet 32 = .ok (.invokevirtual 160, 3) := by decide +kernel
theorem dX8_packet_35 : decode cX8_packet 35 = .ok (.istore_n 2, 1) := by decide +kernel
theorem dX8_packet_36 : decode cX8_packet 36 = .ok (.iload_n 1, 1) := by decide +kernel
theorem dX8_packet_37 : decode cX8_packet 37 = .ok (.iconst (-1), 1) := by decide +kernel
theorem dX8_packet_38 : decode cX8_packet 38 = .ok (.if_icmp .eq 8, 3) := by decide +kernel
theorem dX8_packet_41 : decode cX8_packet 41 = .ok (.iload_n 2, 1) := by decide +kernel
theorem dX8_packet_42 : decode cX8_packet 42 = .ok (.iconst (-1), 1) := by decide +kernel
theorem dX8_packet_43 : decode cX8_packet 43 = .ok (.if_icmp .ne 15, 3) := by decide +kernel
theorem dX8_packet_46 : decode cX8_packet 46 = .ok (.aload_n 0, 1) := by decide +kernel
theorem dX8_packet_47 : decode cX8_packet 47 = .ok (.getfield 28, 3) := by decide +kernel
theorem dX8_packet_50 : decode cX8_packet 50 = .ok (.iconst 0, 1) := by decide +kernel
theorem dX8_packet_51 : decode cX8_packet 51 = .ok (.dup2, 1) := by decide +kernel
theorem dX8_packet_52 : decode cX8_packet 52 = .ok (.iaload, 1) := by decide +kernel
theorem dX8_packet_53 : decode cX8_packet 53 = .ok (.iconst 1, 1) := by decide +kernel
theorem dX8_packet_54 : decode cX8_packet 54 = .ok (.iadd, 1) := by decide +kernel
theorem dX8_packet_55 : decode cX8_packet 55 = .ok (.iastore, 1) := by decide +kernel
theorem dX8_packet_56 : decode cX8_packet 56 = .ok (.iconst (-1), 1) := by decide +kernel
theorem dX8_packet_57 : decode cX8_packet 57 = .ok (.ireturn, 1) := by decide +kernel
theorem dX8_packet_58 : decode cX8_packet 58 = .ok (.iload_n 1, 1) := by decide +kernel
theorem dX8_packet_59 : decode cX8_packet 59 = .ok (.bipush 8, 2) := by decide +kernel
theorem dX8_packet_61 : decode cX8_packet 61 = .ok (.idiv, 1) := by decide +kernel
theorem dX8_packet_62 : decode cX8_packet 62 = .ok (.iconst 2, 1) := by decide +kernel
theorem dX8_packet_63 : decode cX8_packet 63 = .ok (.iload_n 2, 1) := by decide +kernel
theorem dX8_packet_64 : decode cX8_packet 64 = .ok (.imul, 1) := by decide +kernel
theorem dX8_packet_65 : decode cX8_packet 65 = .ok (.iadd, 1) := by decide +kernel
theorem dX8_packet_66 : decode cX8_packet 66 = .ok (.istore_n 3, 1) := by decide +kernel
theorem dX8_packet_67 : decode cX8_packet 67 = .ok (.aload_n 0, 1) := by decide +kernel
theorem dX8_packet_68 : decode cX8_packet 68 = .ok (.iload_n 1, 1) := by decide +kernel
theorem dX8_packet_69 : decode cX8_packet 69 = .ok (.invokestatic 163, 3) := by decide +kernel
theorem dX8_packet_72 : decode cX8_packet 72 = .ok (.iload_n 3, 1) := by decide +kernel
theorem dX8_packet_73 : decode cX8_packet 73 = .ok (.invokevirtual 166, 3) := by decide +kernel
theorem dX8_packet_76 : decode cX8_packet 76 = .ok (.iload_n 3, 1) := by decide +kernel
theorem dX8_packet_77 : decode cX8_packet 77 = .ok (.ireturn, 1) := by decide +kernel
theorem nmX8_packet : mm_nm yX8_packet 0 := ⟨by decide, by decide, by decide +kernel⟩
theorem cdX8_packet : mm_cd cd_Y yX8_packet cX8_packet 4 (some .int) := ⟨tw_486, tw_1⟩
abbrev rmX8_packet : Room := { frames := 7, cells := 5, slots := 1054, locals := 156 }
def fX8_packet_46  (a0 : Nat) (x1 : Int32) (x2 : Int32) (σ : mm_M) : Option (Option Int32 × mm_M) :=
  mm_sh σ a0 (.inl 8) (mm_on (mm_R σ a0 6) fun q9 => mm_ar σ q9 0 fun n10 => mm_ib 0 n10 (mm_ib 0 n10 (mm_let (mm_wI σ q9 ((0 : Int32).toNatClampNeg) ((mm_I σ q9 (0 : Int32).toNatClampNeg) + 1)) fun s13 => some (some ((-1)), s13))))
def fX8_packet (p0 : Nat) (σ : mm_M) : Option (Option Int32 × mm_M) :=
  mm_sh σ p0 (.inl 8) ((if 42 ≤ (mm_I σ p0 4) then mm_let (mm_wI σ p0 4 0) fun s3 => mm_on (fX8_valueAt p0 0 s3) fun q4 => mm_sh q4.2 p0 (.inl 8) (mm_on (fX8_valueAt p0 1 q4.2) fun q6 => (if q4.1 = (-1) then (fX8_packet_46  p0 q4.1 q6.1 q6.2) else (if q6.1 = (-1) then (fX8_packet_46  p0 q4.1 q6.1 q6.2) else mm_sh q6.2 p0 (.inl 8) (mm_on (fX8_takeRow p0 (fX8_magazineOf q4.1) ((q4.1 / 8) + (2 * q6.1)) q6.2) fun q16 => some (some ((q4.1 / 8) + (2 * q6.1)), q16))))) else some (none, σ)))
set_option maxHeartbeats 4000000 in
set_option maxRecDepth 100000 in
theorem kX8_packet_46 {G : mm_G} {A : Nat → Prop}  {R : (Option Int32 × mm_M)}  (a0 : Nat) (x1 : Int32) (x2 : Int32) (σ : mm_M) (hf : fX8_packet_46  a0 x1 x2 σ = some R) : mm_J cd_Y G RX8 cX8_packet 4 (some .int) (false, some []) rmX8_packet A (mm_XF cd_Y G A (mm_PX R) R.2 "java/lang/IllegalStateException" (R.1 = none) rmX8_packet.cells rmX8_packet.slots) 46 [(0, .ref a0), (1, .int x1), (2, .int x2)] [] σ 0 0 := by
  unfold fX8_packet_46 at hf
  refine mm_aload_n (j := 0) dX8_packet_46 rfl rfl ?_
  obtain ⟨hs8, hf⟩ := mm_sh_s hf
  refine mm_get (c := 8) (k := 6) (v := va_rf (mm_R σ a0 6)) cd_ok ⟨_, _, _, rfl, by decide, Or.inl tw_146⟩ hs8 rfl dX8_packet_47 ?_
  refine mm_iconst (v := 0) dX8_packet_50 (by decide) ?_
  refine mm_dup2 dX8_packet_51 rfl (mm_rf_cat _) ?_
  obtain ⟨q9, hq9, hf⟩ := mm_on_s hf
  rw [hq9, mm_rf_some]
  obtain ⟨n10, hn10, hf⟩ := mm_ar_s hf
  obtain ⟨hi11, hf⟩ := mm_ib_s hf
  refine mm_iald hn10 rfl hi11 dX8_packet_52 ?_
  refine mm_iconst (v := 1) dX8_packet_53 (by decide) ?_
  refine mm_iadd dX8_packet_54 ?_
  obtain ⟨hi12, hf⟩ := mm_ib_s hf
  refine mm_iast hn10 rfl hi12 dX8_packet_55 ?_
  obtain ⟨s13, hs13, hf⟩ := mm_let_s hf
  rw [hs13]
  refine mm_iconst (v := (-1)) dX8_packet_56 (by decide) ?_
  cases hf
  refine mm_widen (ck' := rmX8_packet.cells) (sk' := rmX8_packet.slots) (Nat.le_of_ble_eq_true rfl) (Nat.le_of_ble_eq_true rfl) ?_
  exact mm_x (mm_iret rfl rfl dX8_packet_57 ⟨_, rfl, rfl, rfl⟩)
set_option maxHeartbeats 4000000 in
set_option maxRecDepth 100000 in
theorem kX8_packet {G : mm_G} {A : Nat → Prop} (p0 : Nat) {σ : mm_M} {R : (Option Int32 × mm_M)} (hf : fX8_packet p0 σ = some R) : mm_CX cd_Y G yX8_packet cX8_packet 4 (some .int) rmX8_packet A [.ref p0] σ (mm_PX R) R.2 "java/lang/IllegalStateException" (R.1 = none) := by
  refine mm_CX.of (by decide) (Nat.le_of_ble_eq_true rfl) ?_
  unfold fX8_packet at hf
  have e0 : lv_args 0 [.ref p0] = [(0, .ref p0)] := rfl
  rw [e0]
  clear e0
  refine mm_aload_n (j := 0) dX8_packet_0 rfl rfl ?_
  obtain ⟨hs1, hf⟩ := mm_sh_s hf
  refine mm_get (c := 8) (k := 4) (v := .int (mm_I σ p0 4)) cd_ok ⟨_, _, _, rfl, by decide, Or.inl tw_144⟩ hs1 rfl dX8_packet_1 ?_
  refine mm_bipush (v := 42) dX8_packet_4 (by decide) ?_
  refine mm_icmp_ge (tgt := 19) dX8_packet_6 (by decide) (fun c2 => ?_) (fun c2 => ?_)
  · rw [if_pos c2] at hf
    refine mm_aload_n (j := 0) dX8_packet_19 rfl rfl ?_
    refine mm_iconst (v := 0) dX8_packet_20 (by decide) ?_
    refine mm_putI (c := 8) (k := 4) cd_ok ⟨_, _, _, rfl, by decide, rfl, Or.inl tw_144⟩ hs1 rfl rfl rfl dX8_packet_21 ?_
    obtain ⟨s3, hs3, hf⟩ := mm_let_s hf
    rw [hs3]
    refine mm_aload_n (j := 0) dX8_packet_24 rfl rfl ?_
    refine mm_iconst (v := 0) dX8_packet_25 (by decide) ?_
    obtain ⟨q4, hq4, hf⟩ := mm_on_s hf
    refine mm_callVi cd_ok (kX8_valueAt p0 0 hq4) (mm_ke hs3 hs1) rfl (Or.inl tw_488) cdX8_valueAt tw_490 ts_16 nmX8_valueAt rfl rfl (by simp only [List.map_cons, List.map_nil, mm_rf_cat]; exact Nat.le_of_ble_eq_true rfl) dX8_packet_26 ⟨Nat.le_of_ble_eq_true rfl, Nat.le_of_ble_eq_true rfl⟩ ⟨Nat.le_of_ble_eq_true rfl, Nat.le_of_ble_eq_true rfl⟩ ?_
    refine mm_istore_n (L' := [(1, .int q4.1), (0, .ref p0)]) dX8_packet_29 rfl (by decide) rfl ?_
    refine mm_aload_n (j := 1) dX8_packet_30 rfl rfl ?_
    refine mm_iconst (v := 1) dX8_packet_31 (by decide) ?_
    obtain ⟨hs5, hf⟩ := mm_sh_s hf
    obtain ⟨q6, hq6, hf⟩ := mm_on_s hf
    refine mm_callVi cd_ok (kX8_valueAt p0 1 hq6) hs5 rfl (Or.inl tw_488) cdX8_valueAt tw_490 ts_16 nmX8_valueAt rfl rfl (by simp only [List.map_cons, List.map_nil, mm_rf_cat]; exact Nat.le_of_ble_eq_true rfl) dX8_packet_32 ⟨Nat.le_of_ble_eq_true rfl, Nat.le_of_ble_eq_true rfl⟩ ⟨Nat.le_of_ble_eq_true rfl, Nat.le_of_ble_eq_true rfl⟩ ?_
    refine mm_istore_n (L' := [(2, .int q6.1), (1, .int q4.1), (0, .ref p0)]) dX8_packet_35 rfl (by decide) rfl ?_
    refine mm_iload_n (j := 1) dX8_packet_36 rfl rfl ?_
    refine mm_iconst (v := (-1)) dX8_packet_37 (by decide) ?_
    refine mm_icmp_eq (tgt := 46) dX8_packet_38 (by decide) (fun c7 => ?_) (fun c7 => ?_)
    · rw [if_pos c7] at hf
      refine mm_sub [2, 1, 0] rfl ?_
      exact kX8_packet_46  p0 q4.1 q6.1 q6.2 hf
    · rw [if_neg c7] at hf
      refine mm_iload_n (j := 0) dX8_packet_41 rfl rfl ?_
      refine mm_iconst (v := (-1)) dX8_packet_42 (by decide) ?_
      refine mm_icmp_ne (tgt := 58) dX8_packet_43 (by decide) (fun c14 => ?_) (fun c14 => ?_)
      · rw [if_neg c14] at hf
        refine mm_iload_n (j := 1) dX8_packet_58 rfl rfl ?_
        refine mm_bipush (v := 8) dX8_packet_59 (by decide) ?_
        refine mm_idiv dX8_packet_61 (by decide) ?_
        refine mm_iconst (v := 2) dX8_packet_62 (by decide) ?_
        refine mm_iload_n (j := 0) dX8_packet_63 rfl rfl ?_
        refine mm_imul dX8_packet_64 ?_
        refine mm_iadd dX8_packet_65 ?_
        refine mm_istore_n (L' := [(3, .int ((q4.1 / 8) + (2 * q6.1))), (2, .int q6.1), (1, .int q4.1), (0, .ref p0)]) dX8_packet_66 rfl (by decide) rfl ?_
        refine mm_aload_n (j := 3) dX8_packet_67 rfl rfl ?_
        refine mm_iload_n (j := 2) dX8_packet_68 rfl rfl ?_
        refine mm_callSi cd_ok (kX8_magazineOf q4.1 _ rfl) (Or.inl tw_492) cdX8_magazineOf tw_493 nmX8_magazineOf rfl rfl (by simp only [List.map_cons, List.map_nil, mm_rf_cat]; exact Nat.le_of_ble_eq_true rfl) dX8_packet_69 ⟨Nat.le_of_ble_eq_true rfl, Nat.le_of_ble_eq_true rfl⟩ ⟨Nat.le_of_ble_eq_true rfl, Nat.le_of_ble_eq_true rfl⟩ ?_
        refine mm_iload_n (j := 0) dX8_packet_72 rfl rfl ?_
        obtain ⟨hs15, hf⟩ := mm_sh_s hf
        obtain ⟨q16, hq16, hf⟩ := mm_on_s hf
        refine mm_callVv cd_ok (kX8_takeRow p0 (fX8_magazineOf q4.1) ((q4.1 / 8) + (2 * q6.1)) hq16) hs15 rfl (Or.inl tw_495) cdX8_takeRow tw_497 ts_17 nmX8_takeRow rfl rfl (by simp only [List.map_cons, List.map_nil, mm_rf_cat]; exact Nat.le_of_ble_eq_true rfl) dX8_packet_73 ⟨Nat.le_of_ble_eq_true rfl, Nat.le_of_ble_eq_true rfl⟩ ⟨Nat.le_of_ble_eq_true rfl, Nat.le_of_ble_eq_true rfl⟩ ?_
        refine mm_iload_n (j := 0) dX8_packet_76 rfl rfl ?_
        cases hf
        refine mm_widen (ck' := rmX8_packet.cells) (sk' := rmX8_packet.slots) (Nat.le_of_ble_eq_true rfl) (Nat.le_of_ble_eq_true rfl) ?_
        exact mm_x (mm_iret rfl rfl dX8_packet_77 ⟨_, rfl, rfl, rfl⟩)
      · rw [if_pos c14] at hf
        refine mm_sub [2, 1, 0] rfl ?_
        refine mm_widen (ck' := 0) (sk' := 0) (Nat.le_of_ble_eq_true rfl) (Nat.le_of_ble_eq_true rfl) ?_
        exact kX8_packet_46  p0 q4.1 q6.1 q6.2 hf
  · rw [if_neg c2] at hf
    cases hf
    exact mm_throw cd_ok rfl rfl th_X8_150_154 (List.mem_of_getElem? (i := 5) rfl) dX8_packet_9 dX8_packet_12 dX8_packet_13 dX8_packet_15 dX8_packet_18 (Nat.le_of_ble_eq_true rfl) (by simp only [List.map_cons, List.map_nil, mm_rf_cat]; exact Nat.le_of_ble_eq_true rfl) (Nat.le_of_ble_eq_true rfl) (Nat.le_of_ble_eq_true rfl) (Nat.le_of_ble_eq_true rfl) (Nat.le_of_ble_eq_true rfl)
