theorem dX9_channel_0 : decode cX9_channel 0 = .ok (.aload_n 0, 1) := by decide +kernel
theorem dX9_channel_1 : decode cX9_channel 1 = .ok (.iload_n 1, 1) := by decide +kernel
theorem dX9_channel_2 : decode cX9_channel 2 = .ok (.iconst 0, 1) := by decide +kernel
theorem dX9_channel_3 : decode cX9_channel 3 = .ok (.iconst 1, 1) := by decide +kernel
theorem dX9_channel_4 : decode cX9_channel 4 = .ok (.invokestatic 153, 3) := by decide +kernel
theorem dX9_channel_7 : decode cX9_channel 7 = .ok (.invokevirtual 169, 3) := by decide +kernel
theorem dX9_channel_10 : decode cX9_channel 10 = .ok (.ifCond .eq 12, 3) := by decide +kernel
theorem dX9_channel_13 : decode cX9_channel 13 = .ok (.aload_n 0, 1) := by decide +kernel
theorem dX9_channel_14 : decode cX9_channel 14 = .ok (.getfield 34, 3) := by decide +kernel
theorem dX9_channel_17 : decode cX9_channel 17 = .ok (.iload_n 1, 1) := by decide +kernel
theorem dX9_channel_18 : decode cX9_channel 18 = .ok (.iaload, 1) := by decide +kernel
theorem dX9_channel_19 : decode cX9_channel 19 = .ok (.goto 4, 3) := by decide +kernel
theorem dX9_channel_22 : decode cX9_channel 22 = .ok (.iconst 0, 1) := by decide +kernel
theorem dX9_channel_23 : decode cX9_channel 23 = .ok (.ireturn, 1) := by decide +kernel
theorem nmX9_channel : mm_nm yX9_channel 1 := ⟨by decide, by decide, by decide +kernel⟩
theorem cdX9_channel : mm_cd cd_Y yX9_channel cX9_channel 2 (some .int) := ⟨tw_1013, tw_8⟩
abbrev rmX9_channel : Room := { frames := 1, cells := 0, slots := 0, locals := 22 }
def fX9_channel (p0 : Nat) (p1 : Int32) (σ : mm_M) : Option (Int32 × mm_M) :=
  mm_sh σ p0 (.inl 9) (mm_on (fX9_goes p0 (fX9_in p1 0 1) σ) fun q2 => (if q2.1 = 0 then some (0, q2.2) else mm_sh q2.2 p0 (.inl 9) (mm_on (mm_R q2.2 p0 9) fun q5 => mm_ar q2.2 q5 0 fun n6 => mm_ib p1 n6 (some (mm_I q2.2 q5 p1.toNatClampNeg, q2.2)))))
set_option maxHeartbeats 4000000 in
set_option maxRecDepth 100000 in
theorem kX9_channel {G : mm_G} {A : Nat → Prop} (p0 : Nat) (p1 : Int32) {σ : mm_M} {R : (Int32 × mm_M)} (hf : fX9_channel p0 p1 σ = some R) : mm_C cd_Y G yX9_channel cX9_channel 2 (some .int) rmX9_channel A [.ref p0, .int p1] σ (mm_Pi R.1 R.2) := by
  refine mm_C.of (by decide) (Nat.le_of_ble_eq_true rfl) ?_
  unfold fX9_channel at hf
  have e0 : lv_args 0 [.ref p0, .int p1] = [(0, .ref p0), (1, .int p1)] := rfl
  rw [e0]
  generalize hini : ((yX9_channel.name == "<init>"), none) = ini
  clear e0
  clear hini
  refine mm_aload_n (j := 0) dX9_channel_0 rfl rfl ?_
  refine mm_iload_n (j := 1) dX9_channel_1 rfl rfl ?_
  refine mm_iconst (v := 0) dX9_channel_2 (by decide) ?_
  refine mm_iconst (v := 1) dX9_channel_3 (by decide) ?_
  refine mm_callSi cd_ok (kX9_in p1 0 1 _ rfl) (Or.inl tw_941) cdX9_in tw_942 nmX9_in rfl rfl (by simp only [List.map_cons, List.map_nil, mm_rf_cat]; exact Nat.le_of_ble_eq_true rfl) dX9_channel_4 ⟨Nat.le_of_ble_eq_true rfl, Nat.le_of_ble_eq_true rfl⟩ ⟨Nat.le_of_ble_eq_true rfl, Nat.le_of_ble_eq_true rfl⟩ ?_
  obtain ⟨hs1, hf⟩ := mm_sh_s hf
  obtain ⟨q2, hq2, hf⟩ := mm_on_s hf
  refine mm_callVi cd_ok (kX9_goes p0 (fX9_in p1 0 1) hq2) hs1 rfl (Or.inl tw_944) cdX9_goes tw_946 ts_31 nmX9_goes rfl rfl (by simp only [List.map_cons, List.map_nil, mm_rf_cat]; exact Nat.le_of_ble_eq_true rfl) dX9_channel_7 ⟨Nat.le_of_ble_eq_true rfl, Nat.le_of_ble_eq_true rfl⟩ ⟨Nat.le_of_ble_eq_true rfl, Nat.le_of_ble_eq_true rfl⟩ ?_
  refine mm_if_eq (tgt := 22) dX9_channel_10 (by decide) (fun c3 => ?_) (fun c3 => ?_)
  · rw [if_pos c3] at hf
    refine mm_iconst (v := 0) dX9_channel_22 (by decide) ?_
    cases hf
    refine mm_widen (ck' := rmX9_channel.cells) (sk' := rmX9_channel.slots) (Nat.le_of_ble_eq_true rfl) (Nat.le_of_ble_eq_true rfl) ?_
    exact mm_iret rfl rfl dX9_channel_23 ⟨rfl, rfl⟩
  · rw [if_neg c3] at hf
    refine mm_aload_n (j := 0) dX9_channel_13 rfl rfl ?_
    obtain ⟨hs4, hf⟩ := mm_sh_s hf
    refine mm_get (c := 9) (k := 9) (v := va_rf (mm_R q2.2 p0 9)) cd_ok ⟨_, _, _, rfl, by decide, Or.inl tw_803⟩ hs4 rfl dX9_channel_14 ?_
    refine mm_iload_n (j := 1) dX9_channel_17 rfl rfl ?_
    obtain ⟨q5, hq5, hf⟩ := mm_on_s hf
    rw [hq5, mm_rf_some]
    obtain ⟨n6, hn6, hf⟩ := mm_ar_s hf
    obtain ⟨hi7, hf⟩ := mm_ib_s hf
    refine mm_iald hn6 rfl hi7 dX9_channel_18 ?_
    refine mm_goto (tgt := 23) dX9_channel_19 (by decide) ?_
    cases hf
    refine mm_widen (ck' := rmX9_channel.cells) (sk' := rmX9_channel.slots) (Nat.le_of_ble_eq_true rfl) (Nat.le_of_ble_eq_true rfl) ?_
    exact mm_iret rfl rfl dX9_channel_23 ⟨rfl, rfl⟩
theorem dX9_bit_0 : decode cX9_bit 0 = .ok (.iload_n 0, 1) := by decide +kernel
theorem dX9_bit_1 : decode cX9_bit 1 = .ok (.iload_n 1, 1) := by decide +kernel
theorem dX9_bit_2 : decode cX9_bit 2 = .ok (.iconst 1, 1) := by decide +kernel
theorem dX9_bit_3 : decode cX9_bit 3 = .ok (.isub, 1) := by decide +kernel
theorem dX9_bit_4 : decode cX9_bit 4 = .ok (.ishr, 1) := by decide +kernel
theorem dX9_bit_5 : decode cX9_bit 5 = .ok (.iconst 1, 1) := by decide +kernel
theorem dX9_bit_6 : decode cX9_bit 6 = .ok (.iand, 1) := by decide +kernel
theorem dX9_bit_7 : decode cX9_bit 7 = .ok (.ireturn, 1) := by decide +kernel
theorem nmX9_bit : mm_nm yX9_bit 2 := ⟨by decide, by decide, by decide +kernel⟩
theorem cdX9_bit : mm_cd cd_Y yX9_bit cX9_bit 2 (some .int) := ⟨tw_1023, tw_8⟩
abbrev rmX9_bit : Room := { frames := 0, cells := 0, slots := 0, locals := 0 }
def fX9_bit (p0 : Int32) (p1 : Int32) : Int32 :=
  (p0 >>> (((p1 - 1) : Int32) &&& 31)) &&& 1
set_option maxHeartbeats 4000000 in
set_option maxRecDepth 100000 in
theorem kX9_bit {G : mm_G} {A : Nat → Prop} (p0 : Int32) (p1 : Int32) (σ0 : mm_M) {R : Int32} (hf : fX9_bit p0 p1 = R) : mm_C cd_Y G yX9_bit cX9_bit 2 (some .int) rmX9_bit A [.int p0, .int p1] σ0 (mm_Pi R σ0) := by
  refine mm_C.of (by decide) (Nat.le_of_ble_eq_true rfl) ?_
  unfold fX9_bit at hf
  have e0 : lv_args 0 [.int p0, .int p1] = [(0, .int p0), (1, .int p1)] := rfl
  rw [e0]
  generalize hini : ((yX9_bit.name == "<init>"), none) = ini
  clear e0
  clear hini
  refine mm_iload_n (j := 0) dX9_bit_0 rfl rfl ?_
  refine mm_iload_n (j := 1) dX9_bit_1 rfl rfl ?_
  refine mm_iconst (v := 1) dX9_bit_2 (by decide) ?_
  refine mm_isub dX9_bit_3 ?_
  refine mm_ishr dX9_bit_4 ?_
  refine mm_iconst (v := 1) dX9_bit_5 (by decide) ?_
  refine mm_iand dX9_bit_6 ?_
  subst hf
  refine mm_widen (ck' := rmX9_bit.cells) (sk' := rmX9_bit.slots) (Nat.le_of_ble_eq_true rfl) (Nat.le_of_ble_eq_true rfl) ?_
  exact mm_iret rfl rfl dX9_bit_7 ⟨rfl, rfl⟩
theorem dX9_valueOf_0 : decode cX9_valueOf 0 = .ok (.iload_n 0, 1) := by decide +kernel
theorem dX9_valueOf_1 : decode cX9_valueOf 1 = .ok (.iconst 2, 1) := by decide +kernel
theorem dX9_valueOf_2 : decode cX9_valueOf 2 = .ok (.invokestatic 180, 3) := by decide +kernel
theorem dX9_valueOf_5 : decode cX9_valueOf 5 = .ok (.iconst 2, 1) := by decide +kernel
theorem dX9_valueOf_6 : decode cX9_valueOf 6 = .ok (.iload_n 0, 1) := by decide +kernel
theorem dX9_valueOf_7 : decode cX9_valueOf 7 = .ok (.iconst 4, 1) := by decide +kernel
theorem dX9_valueOf_8 : decode cX9_valueOf 8 = .ok (.invokestatic 180, 3) := by decide +kernel
theorem dX9_valueOf_11 : decode cX9_valueOf 11 = .ok (.imul, 1) := by decide +kernel
theorem dX9_valueOf_12 : decode cX9_valueOf 12 = .ok (.iadd, 1) := by decide +kernel
theorem dX9_valueOf_13 : decode cX9_valueOf 13 = .ok (.iconst 4, 1) := by decide +kernel
theorem dX9_valueOf_14 : decode cX9_valueOf 14 = .ok (.iload_n 0, 1) := by decide +kernel
theorem dX9_valueOf_15 : decode cX9_valueOf 15 = .ok (.bipush 6, 2) := by decide +kernel
theorem dX9_valueOf_17 : decode cX9_valueOf 17 = .ok (.invokestatic 180, 3) := by decide +kernel
theorem dX9_valueOf_20 : decode cX9_valueOf 20 = .ok (.imul, 1) := by decide +kernel
theorem dX9_valueOf_21 : decode cX9_valueOf 21 = .ok (.iadd, 1) := by decide +kernel
theorem dX9_valueOf_22 : decode cX9_valueOf 22 = .ok (.bipush 8, 2) := by decide +kernel
theorem dX9_valueOf_24 : decode cX9_valueOf 24 = .ok (.iload_n 0, 1) := by decide +kernel
theorem dX9_valueOf_25 : decode cX9_valueOf 25 = .ok (.bipush 8, 2) := by decide +kernel
theorem dX9_valueOf_27 : decode cX9_valueOf 27 = .ok (.invokestatic 180, 3) := by decide +kernel
theorem dX9_valueOf_30 : decode cX9_valueOf 30 = .ok (.imul, 1) := by decide +kernel
theorem dX9_valueOf_31 : decode cX9_valueOf 31 = .ok (.iadd, 1) := by decide +kernel
theorem dX9_valueOf_32 : decode cX9_valueOf 32 = .ok (.ireturn, 1) := by decide +kernel
theorem nmX9_valueOf : mm_nm yX9_valueOf 1 := ⟨by decide, by decide, by decide +kernel⟩
theorem cdX9_valueOf : mm_cd cd_Y yX9_valueOf cX9_valueOf 1 (some .int) := ⟨tw_1026, tw_8⟩
abbrev rmX9_valueOf : Room := { frames := 1, cells := 0, slots := 0, locals := 21 }
def fX9_valueOf (p0 : Int32) : Int32 :=
  (((fX9_bit p0 2) + (2 * (fX9_bit p0 4))) + (4 * (fX9_bit p0 6))) + (8 * (fX9_bit p0 8))
set_option maxHeartbeats 4000000 in
set_option maxRecDepth 100000 in
theorem kX9_valueOf {G : mm_G} {A : Nat → Prop} (p0 : Int32) (σ0 : mm_M) {R : Int32} (hf : fX9_valueOf p0 = R) : mm_C cd_Y G yX9_valueOf cX9_valueOf 1 (some .int) rmX9_valueOf A [.int p0] σ0 (mm_Pi R σ0) := by
  refine mm_C.of (by decide) (Nat.le_of_ble_eq_true rfl) ?_
  unfold fX9_valueOf at hf
  have e0 : lv_args 0 [.int p0] = [(0, .int p0)] := rfl
  rw [e0]
  generalize hini : ((yX9_valueOf.name == "<init>"), none) = ini
  clear e0
  clear hini
  refine mm_iload_n (j := 0) dX9_valueOf_0 rfl rfl ?_
  refine mm_iconst (v := 2) dX9_valueOf_1 (by decide) ?_
  refine mm_callSi cd_ok (kX9_bit p0 2 _ rfl) (Or.inl tw_1021) cdX9_bit tw_1022 nmX9_bit rfl rfl (by simp only [List.map_cons, List.map_nil, mm_rf_cat]; exact Nat.le_of_ble_eq_true rfl) dX9_valueOf_2 ⟨Nat.le_of_ble_eq_true rfl, Nat.le_of_ble_eq_true rfl⟩ ⟨Nat.le_of_ble_eq_true rfl, Nat.le_of_ble_eq_true rfl⟩ ?_
  refine mm_iconst (v := 2) dX9_valueOf_5 (by decide) ?_
  refine mm_iload_n (j := 0) dX9_valueOf_6 rfl rfl ?_
  refine mm_iconst (v := 4) dX9_valueOf_7 (by decide) ?_
  refine mm_callSi cd_ok (kX9_bit p0 4 _ rfl) (Or.inl tw_1021) cdX9_bit tw_1022 nmX9_bit rfl rfl (by simp only [List.map_cons, List.map_nil, mm_rf_cat]; exact Nat.le_of_ble_eq_true rfl) dX9_valueOf_8 ⟨Nat.le_of_ble_eq_true rfl, Nat.le_of_ble_eq_true rfl⟩ ⟨Nat.le_of_ble_eq_true rfl, Nat.le_of_ble_eq_true rfl⟩ ?_
  refine mm_imul dX9_valueOf_11 ?_
  refine mm_iadd dX9_valueOf_12 ?_
  refine mm_iconst (v := 4) dX9_valueOf_13 (by decide) ?_
  refine mm_iload_n (j := 0) dX9_valueOf_14 rfl rfl ?_
  refine mm_bipush (v := 6) dX9_valueOf_15 (by decide) ?_
  refine mm_callSi cd_ok (kX9_bit p0 6 _ rfl) (Or.inl tw_1021) cdX9_bit tw_1022 nmX9_bit rfl rfl (by simp only [List.map_cons, List.map_nil, mm_rf_cat]; exact Nat.le_of_ble_eq_true rfl) dX9_valueOf_17 ⟨Nat.le_of_ble_eq_true rfl, Nat.le_of_ble_eq_true rfl⟩ ⟨Nat.le_of_ble_eq_true rfl, Nat.le_of_ble_eq_true rfl⟩ ?_
  refine mm_imul dX9_valueOf_20 ?_
  refine mm_iadd dX9_valueOf_21 ?_
  refine mm_bipush (v := 8) dX9_valueOf_22 (by decide) ?_
  refine mm_iload_n (j := 0) dX9_valueOf_24 rfl rfl ?_
  refine mm_bipush (v := 8) dX9_valueOf_25 (by decide) ?_
  refine mm_callSi cd_ok (kX9_bit p0 8 _ rfl) (Or.inl tw_1021) cdX9_bit tw_1022 nmX9_bit rfl rfl (by simp only [List.map_cons, List.map_nil, mm_rf_cat]; exact Nat.le_of_ble_eq_true rfl) dX9_valueOf_27 ⟨Nat.le_of_ble_eq_true rfl, Nat.le_of_ble_eq_true rfl⟩ ⟨Nat.le_of_ble_eq_true rfl, Nat.le_of_ble_eq_true rfl⟩ ?_
  refine mm_imul dX9_valueOf_30 ?_
  refine mm_iadd dX9_valueOf_31 ?_
  subst hf
  refine mm_widen (ck' := rmX9_valueOf.cells) (sk' := rmX9_valueOf.slots) (Nat.le_of_ble_eq_true rfl) (Nat.le_of_ble_eq_true rfl) ?_
  exact mm_iret rfl rfl dX9_valueOf_32 ⟨rfl, rfl⟩
theorem dX9_guard_0 : decode cX9_guard 0 = .ok (.iload_n 0, 1) := by decide +kernel
theorem dX9_guard_1 : decode cX9_guard 1 = .ok (.sipush 255, 3) := by decide +kernel
theorem dX9_guard_4 : decode cX9_guard 4 = .ok (.iand, 1) := by decide +kernel
theorem dX9_guard_5 : decode cX9_guard 5 = .ok (.istore_n 1, 1) := by decide +kernel
theorem dX9_guard_6 : decode cX9_guard 6 = .ok (.iconst 1, 1) := by decide +kernel
theorem dX9_guard_7 : decode cX9_guard 7 = .ok (.iload_n 1, 1) := by decide +kernel
theorem dX9_guard_8 : decode cX9_guard 8 = .ok (.bipush 8, 2) := by decide +kernel
theorem dX9_guard_10 : decode cX9_guard 10 = .ok (.invokestatic 180, 3) := by decide +kernel
theorem dX9_guard_13 : decode cX9_guard 13 = .ok (.iload_n 1, 1) := by decide +kernel
theorem dX9_guard_14 : decode cX9_guard 14 = .ok (.bipush 6, 2) := by decide +kernel
theorem dX9_guard_16 : decode cX9_guard 16 = .ok (.invokestatic 180, 3) := by decide +kernel
theorem dX9_guard_19 : decode cX9_guard 19 = .ok (.iadd, 1) := by decide +kernel
theorem dX9_guard_20 : decode cX9_guard 20 = .ok (.iload_n 1, 1) := by decide +kernel
theorem dX9_guard_21 : decode cX9_guard 21 = .ok (.iconst 2, 1) := by decide +kernel
theorem dX9_guard_22 : decode cX9_guard 22 = .ok (.invokestatic 180, 3) := by decide +kernel
theorem dX9_guard_25 : decode cX9_guard 25 = .ok (.iadd, 1) := by decide +kernel
theorem dX9_guard_26 : decode cX9_guard 26 = .ok (.iload_n 1, 1) := by decide +kernel
theorem dX9_guard_27 : decode cX9_guard 27 = .ok (.iconst 1, 1) := by decide +kernel
theorem dX9_guard_28 : decode cX9_guard 28 = .ok (.invokestatic 180, 3) := by decide +kernel
theorem dX9_guard_31 : decode cX9_guard 31 = .ok (.iadd, 1) := by decide +kernel
theorem dX9_guard_32 : decode cX9_guard 32 = .ok (.iconst 2, 1) := by decide +kernel
theorem dX9_guard_33 : decode cX9_guard 33 = .ok (.irem, 1) := by decide +kernel
theorem dX9_guard_34 : decode cX9_guard 34 = .ok (.isub, 1) := by decide +kernel
theorem dX9_guard_35 : decode cX9_guard 35 = .ok (.istore_n 2, 1) := by decide +kernel
theorem dX9_guard_36 : decode cX9_guard 36 = .ok (.iconst 1, 1) := by decide +kernel
theorem dX9_guard_37 : decode cX9_guard 37 = .ok (.iload_n 1, 1) := by decide +kernel
theorem dX9_guard_38 : decode cX9_guard 38 = .ok (.bipush 8, 2) := by decide +kernel
theorem dX9_guard_40 : decode cX9_guard 40 = .ok (.invokestatic 180, 3) := by decide +kernel
theorem dX9_guard_43 : decode cX9_guard 43 = .ok (.iload_n 1, 1) := by decide +kernel
theorem dX9_guard_44 : decode cX9_guard 44 = .ok (.iconst 4, 1) := by decide +kernel
theorem dX9_guard_45 : decode cX9_guard 45 = .ok (.invokestatic 180, 3) := by decide +kernel
theorem dX9_guard_48 : decode cX9_guard 48 = .ok (.iadd, 1) := by decide +kernel
theorem dX9_guard_49 : decode cX9_guard 49 = .ok (.iload_n 1, 1) := by decide +kernel
theorem dX9_guard_50 : decode cX9_guard 50 = .ok (.iconst 3, 1) := by decide +kernel
theorem dX9_guard_51 : decode cX9_guard 51 = .ok (.invokestatic 180, 3) := by decide +kernel
theorem dX9_guard_54 : decode cX9_guard 54 = .ok (.iadd, 1) := by decide +kernel
theorem dX9_guard_55 : decode cX9_guard 55 = .ok (.iload_n 1, 1) := by decide +kernel
theorem dX9_guard_56 : decode cX9_guard 56 = .ok (.iconst 2, 1) := by decide +kernel
theorem dX9_guard_57 : decode cX9_guard 57 = .ok (.invokestatic 180, 3) := by decide +kernel
theorem dX9_guard_60 : decode cX9_guard 60 = .ok (.iadd, 1) := by decide +kernel
theorem dX9_guard_61 : decode cX9_guard 61 = .ok (.iconst 2, 1) := by decide +kernel
theorem dX9_guard_62 : decode cX9_guard 62 = .ok (.irem, 1) := by decide +kernel
theorem dX9_guard_63 : decode cX9_guard 63 = .ok (.isub, 1) := by decide +kernel
theorem dX9_guard_64 : decode cX9_guard 64 = .ok (.istore_n 3, 1) := by decide +kernel
theorem dX9_guard_65 : decode cX9_guard 65 = .ok (.iconst 1, 1) := by decide +kernel
theorem dX9_guard_66 : decode cX9_guard 66 = .ok (.iload_n 1, 1) := by decide +kernel
theorem dX9_guard_67 : decode cX9_guard 67 = .ok (.bipush 6, 2) := by decide +kernel
theorem dX9_guard_69 : decode cX9_guard 69 = .ok (.invokestatic 180, 3) := by decide +kernel
theorem dX9_guard_72 : decode cX9_guard 72 = .ok (.iload_n 1, 1) := by decide +kernel
theorem dX9_guard_73 : decode cX9_guard 73 = .ok (.iconst 5, 1) := by decide +kernel
theorem dX9_guard_74 : decode cX9_guard 74 = .ok (.invokestatic 180, 3) := by decide +kernel
theorem dX9_guard_77 : decode cX9_guard 77 = .ok (.iadd, 1) := by decide +kernel
theorem dX9_guard_78 : decode cX9_guard 78 = .ok (.iload_n 1, 1) := by decide +kernel
theorem dX9_guard_79 : decode cX9_guard 79 = .ok (.iconst 4, 1) := by decide +kernel
theorem dX9_guard_80 : decode cX9_guard 80 = .ok (.invokestatic 180, 3) := by decide +kernel
theorem dX9_guard_83 : decode cX9_guard 83 = .ok (.iadd, 1) := by decide +kernel
theorem dX9_guard_84 : decode cX9_guard 84 = .ok (.iload_n 1, 1) := by decide +kernel
theorem dX9_guard_85 : decode cX9_guard 85 = .ok (.iconst 2, 1) := by decide +kernel
theorem dX9_guard_86 : decode cX9_guard 86 = .ok (.invokestatic 180, 3) := by decide +kernel
theorem dX9_guard_89 : decode cX9_guard 89 = .ok (.iadd, 1) := by decide +kernel
theorem dX9_guard_90 : decode cX9_guard 90 = .ok (.iconst 2, 1) := by decide +kernel
theorem dX9_guard_91 : decode cX9_guard 91 = .ok (.irem, 1) := by decide +kernel
theorem dX9_guard_92 : decode cX9_guard 92 = .ok (.isub, 1) := by decide +kernel
theorem dX9_guard_93 : decode cX9_guard 93 = .ok (.istore 4, 2) := by decide +kernel
theorem dX9_guard_95 : decode cX9_guard 95 = .ok (.iconst 4, 1) := by decide +kernel
theorem dX9_guard_96 : decode cX9_guard 96 = .ok (.iload_n 2, 1) := by decide +kernel
theorem dX9_guard_97 : decode cX9_guard 97 = .ok (.imul, 1) := by decide +kernel
theorem dX9_guard_98 : decode cX9_guard 98 = .ok (.iconst 2, 1) := by decide +kernel
theorem dX9_guard_99 : decode cX9_guard 99 = .ok (.iload_n 3, 1) := by decide +kernel
theorem dX9_guard_100 : decode cX9_guard 100 = .ok (.imul, 1) := by decide +kernel
theorem dX9_guard_101 : decode cX9_guard 101 = .ok (.iadd, 1) := by decide +kernel
theorem dX9_guard_102 : decode cX9_guard 102 = .ok (.iload 4, 2) := by decide +kernel
theorem dX9_guard_104 : decode cX9_guard 104 = .ok (.iadd, 1) := by decide +kernel
theorem dX9_guard_105 : decode cX9_guard 105 = .ok (.istore 5, 2) := by decide +kernel
theorem dX9_guard_107 : decode cX9_guard 107 = .ok (.iload_n 1, 1) := by decide +kernel
theorem dX9_guard_108 : decode cX9_guard 108 = .ok (.invokestatic 173, 3) := by decide +kernel
theorem dX9_guard_111 : decode cX9_guard 111 = .ok (.ifCond .eq 17, 3) := by decide +kernel
theorem dX9_guard_114 : decode cX9_guard 114 = .ok (.iload 5, 2) := by decide +kernel
theorem dX9_guard_116 : decode cX9_guard 116 = .ok (.ifCond .ne 10, 3) := by decide +kernel
theorem dX9_guard_119 : decode cX9_guard 119 = .ok (.iload_n 1, 1) := by decide +kernel
theorem dX9_guard_120 : decode cX9_guard 120 = .ok (.invokestatic 184, 3) := by decide +kernel
theorem dX9_guard_123 : decode cX9_guard 123 = .ok (.goto 4, 3) := by decide +kernel
theorem dX9_guard_126 : decode cX9_guard 126 = .ok (.iconst (-1), 1) := by decide +kernel
theorem dX9_guard_127 : decode cX9_guard 127 = .ok (.ireturn, 1) := by decide +kernel
theorem dX9_guard_128 : decode cX9_guard 128 = .ok (.iload 5, 2) := by decide +kernel
theorem dX9_guard_130 : decode cX9_guard 130 = .ok (.ifCond .ne 8, 3) := by decide +kernel
theorem dX9_guard_133 : decode cX9_guard 133 = .ok (.bipush 7, 2) := by decide +kernel
theorem dX9_guard_135 : decode cX9_guard 135 = .ok (.goto 67, 3) := by decide +kernel
theorem dX9_guard_138 : decode cX9_guard 138 = .ok (.iload 5, 2) := by decide +kernel
theorem dX9_guard_140 : decode cX9_guard 140 = .ok (.iconst 1, 1) := by decide +kernel
theorem dX9_guard_141 : decode cX9_guard 141 = .ok (.if_icmp .ne 7, 3) := by decide +kernel
theorem dX9_guard_144 : decode cX9_guard 144 = .ok (.iconst 5, 1) := by decide +kernel
theorem dX9_guard_145 : decode cX9_guard 145 = .ok (.goto 57, 3) := by decide +kernel
theorem dX9_guard_148 : decode cX9_guard 148 = .ok (.iload 5, 2) := by decide +kernel
theorem dX9_guard_150 : decode cX9_guard 150 = .ok (.iconst 2, 1) := by decide +kernel
theorem dX9_guard_151 : decode cX9_guard 151 = .ok (.if_icmp .ne 7, 3) := by decide +kernel
theorem dX9_guard_154 : decode cX9_guard 154 = .ok (.iconst 3, 1) := by decide +kernel
theorem dX9_guard_155 : decode cX9_guard 155 = .ok (.goto 47, 3) := by decide +kernel
theorem dX9_guard_158 : decode cX9_guard 158 = .ok (.iload 5, 2) := by decide +kernel
theorem dX9_guard_160 : decode cX9_guard 160 = .ok (.iconst 3, 1) := by decide +kernel
theorem dX9_guard_161 : decode cX9_guard 161 = .ok (.if_icmp .ne 7, 3) := by decide +kernel
theorem dX9_guard_164 : decode cX9_guard 164 = .ok (.iconst 4, 1) := by decide +kernel
theorem dX9_guard_165 : decode cX9_guard 165 = .ok (.goto 37, 3) := by decide +kernel
theorem dX9_guard_168 : decode cX9_guard 168 = .ok (.iload 5, 2) := by decide +kernel
theorem dX9_guard_170 : decode cX9_guard 170 = .ok (.iconst 4, 1) := by decide +kernel
theorem dX9_guard_171 : decode cX9_guard 171 = .ok (.if_icmp .ne 7, 3) := by decide +kernel
theorem dX9_guard_174 : decode cX9_guard 174 = .ok (.iconst 1, 1) := by decide +kernel
theorem dX9_guard_175 : decode cX9_guard 175 = .ok (.goto 27, 3) := by decide +kernel
theorem dX9_guard_178 : decode cX9_guard 178 = .ok (.iload 5, 2) := by decide +kernel
theorem dX9_guard_180 : decode cX9_guard 180 = .ok (.iconst 5, 1) := by decide +kernel
theorem dX9_guard_181 : decode cX9_guard 181 = .ok (.if_icmp .ne 8, 3) := by decide +kernel
theorem dX9_guard_184 : decode cX9_guard 184 = .ok (.bipush 6, 2) := by decide +kernel
theorem dX9_guard_186 : decode cX9_guard 186 = .ok (.goto 16, 3) := by decide +kernel
theorem dX9_guard_189 : decode cX9_guard 189 = .ok (.iload 5, 2) := by decide +kernel
theorem dX9_guard_191 : decode cX9_guard 191 = .ok (.bipush 6, 2) := by decide +kernel
theorem dX9_guard_193 : decode cX9_guard 193 = .ok (.if_icmp .ne 8, 3) := by decide +kernel
theorem dX9_guard_196 : decode cX9_guard 196 = .ok (.bipush 8, 2) := by decide +kernel
theorem dX9_guard_198 : decode cX9_guard 198 = .ok (.goto 4, 3) := by decide +kernel
theorem dX9_guard_201 : decode cX9_guard 201 = .ok (.iconst 2, 1) := by decide +kernel
theorem dX9_guard_202 : decode cX9_guard 202 = .ok (.istore 6, 2) := by decide +kernel
theorem dX9_guard_204 : decode cX9_guard 204 = .ok (.bipush 16, 2) := by decide +kernel
theorem dX9_guard_206 : decode cX9_guard 206 = .ok (.iload_n 1, 1) := by decide +kernel
theorem dX9_guard_207 : decode cX9_guard 207 = .ok (.iconst 1, 1) := by decide +kernel
theorem dX9_guard_208 : decode cX9_guard 208 = .ok (.iload 6, 2) := by decide +kernel
theorem dX9_guard_210 : decode cX9_guard 210 = .ok (.iconst 1, 1) := by decide +kernel
theorem dX9_guard_211 : decode cX9_guard 211 = .ok (.isub, 1) := by decide +kernel
theorem dX9_guard_212 : decode cX9_guard 212 = .ok (.ishl, 1) := by decide +kernel
theorem dX9_guard_213 : decode cX9_guard 213 = .ok (.ixor, 1) := by decide +kernel
theorem dX9_guard_214 : decode cX9_guard 214 = .ok (.invokestatic 184, 3) := by decide +kernel
theorem dX9_guard_217 : decode cX9_guard 217 = .ok (.iadd, 1) := by decide +kernel
theorem dX9_guard_218 : decode cX9_guard 218 = .ok (.ireturn, 1) := by decide +kernel
theorem nmX9_guard : mm_nm yX9_guard 1 := ⟨by decide, by decide, by decide +kernel⟩
theorem cdX9_guard : mm_cd cd_Y yX9_guard cX9_guard 7 (some .int) := ⟨tw_1020, tw_8⟩
abbrev rmX9_guard : Room := { frames := 2, cells := 0, slots := 0, locals := 41 }
def fX9_guard_202  (x0 : Int32) (x1 : Int32) (x2 : Int32) (x3 : Int32) (x4 : Int32) (x5 : Int32) (y0 : Int32) (σ : mm_M) : Option (Int32 × mm_M) :=
  some (16 + (fX9_valueOf (x1 ^^^ ((1 : Int32) <<< (((y0 - 1) : Int32) &&& 31)))), σ)
def fX9_guard (p0 : Int32) (σ : mm_M) : Option (Int32 × mm_M) :=
  mm_on (fX9_isOdd (p0 &&& 255) σ) fun q1 => (if q1.1 = 0 then (if (((4 * (1 - (((((fX9_bit (p0 &&& 255) 8) + (fX9_bit (p0 &&& 255) 6)) + (fX9_bit (p0 &&& 255) 2)) + (fX9_bit (p0 &&& 255) 1)) - ((((fX9_bit (p0 &&& 255) 8) + (fX9_bit (p0 &&& 255) 6)) + (fX9_bit (p0 &&& 255) 2)) + (fX9_bit (p0 &&& 255) 1)) / 2 * 2))) + (2 * (1 - (((((fX9_bit (p0 &&& 255) 8) + (fX9_bit (p0 &&& 255) 4)) + (fX9_bit (p0 &&& 255) 3)) + (fX9_bit (p0 &&& 255) 2)) - ((((fX9_bit (p0 &&& 255) 8) + (fX9_bit (p0 &&& 255) 4)) + (fX9_bit (p0 &&& 255) 3)) + (fX9_bit (p0 &&& 255) 2)) / 2 * 2)))) + (1 - (((((fX9_bit (p0 &&& 255) 6) + (fX9_bit (p0 &&& 255) 5)) + (fX9_bit (p0 &&& 255) 4)) + (fX9_bit (p0 &&& 255) 2)) - ((((fX9_bit (p0 &&& 255) 6) + (fX9_bit (p0 &&& 255) 5)) + (fX9_bit (p0 &&& 255) 4)) + (fX9_bit (p0 &&& 255) 2)) / 2 * 2))) = 0 then (fX9_guard_202  p0 (p0 &&& 255) (1 - (((((fX9_bit (p0 &&& 255) 8) + (fX9_bit (p0 &&& 255) 6)) + (fX9_bit (p0 &&& 255) 2)) + (fX9_bit (p0 &&& 255) 1)) - ((((fX9_bit (p0 &&& 255) 8) + (fX9_bit (p0 &&& 255) 6)) + (fX9_bit (p0 &&& 255) 2)) + (fX9_bit (p0 &&& 255) 1)) / 2 * 2)) (1 - (((((fX9_bit (p0 &&& 255) 8) + (fX9_bit (p0 &&& 255) 4)) + (fX9_bit (p0 &&& 255) 3)) + (fX9_bit (p0 &&& 255) 2)) - ((((fX9_bit (p0 &&& 255) 8) + (fX9_bit (p0 &&& 255) 4)) + (fX9_bit (p0 &&& 255) 3)) + (fX9_bit (p0 &&& 255) 2)) / 2 * 2)) (1 - (((((fX9_bit (p0 &&& 255) 6) + (fX9_bit (p0 &&& 255) 5)) + (fX9_bit (p0 &&& 255) 4)) + (fX9_bit (p0 &&& 255) 2)) - ((((fX9_bit (p0 &&& 255) 6) + (fX9_bit (p0 &&& 255) 5)) + (fX9_bit (p0 &&& 255) 4)) + (fX9_bit (p0 &&& 255) 2)) / 2 * 2)) (((4 * (1 - (((((fX9_bit (p0 &&& 255) 8) + (fX9_bit (p0 &&& 255) 6)) + (fX9_bit (p0 &&& 255) 2)) + (fX9_bit (p0 &&& 255) 1)) - ((((fX9_bit (p0 &&& 255) 8) + (fX9_bit (p0 &&& 255) 6)) + (fX9_bit (p0 &&& 255) 2)) + (fX9_bit (p0 &&& 255) 1)) / 2 * 2))) + (2 * (1 - (((((fX9_bit (p0 &&& 255) 8) + (fX9_bit (p0 &&& 255) 4)) + (fX9_bit (p0 &&& 255) 3)) + (fX9_bit (p0 &&& 255) 2)) - ((((fX9_bit (p0 &&& 255) 8) + (fX9_bit (p0 &&& 255) 4)) + (fX9_bit (p0 &&& 255) 3)) + (fX9_bit (p0 &&& 255) 2)) / 2 * 2)))) + (1 - (((((fX9_bit (p0 &&& 255) 6) + (fX9_bit (p0 &&& 255) 5)) + (fX9_bit (p0 &&& 255) 4)) + (fX9_bit (p0 &&& 255) 2)) - ((((fX9_bit (p0 &&& 255) 6) + (fX9_bit (p0 &&& 255) 5)) + (fX9_bit (p0 &&& 255) 4)) + (fX9_bit (p0 &&& 255) 2)) / 2 * 2))) 7 q1.2) else (if (((4 * (1 - (((((fX9_bit (p0 &&& 255) 8) + (fX9_bit (p0 &&& 255) 6)) + (fX9_bit (p0 &&& 255) 2)) + (fX9_bit (p0 &&& 255) 1)) - ((((fX9_bit (p0 &&& 255) 8) + (fX9_bit (p0 &&& 255) 6)) + (fX9_bit (p0 &&& 255) 2)) + (fX9_bit (p0 &&& 255) 1)) / 2 * 2))) + (2 * (1 - (((((fX9_bit (p0 &&& 255) 8) + (fX9_bit (p0 &&& 255) 4)) + (fX9_bit (p0 &&& 255) 3)) + (fX9_bit (p0 &&& 255) 2)) - ((((fX9_bit (p0 &&& 255) 8) + (fX9_bit (p0 &&& 255) 4)) + (fX9_bit (p0 &&& 255) 3)) + (fX9_bit (p0 &&& 255) 2)) / 2 * 2)))) + (1 - (((((fX9_bit (p0 &&& 255) 6) + (fX9_bit (p0 &&& 255) 5)) + (fX9_bit (p0 &&& 255) 4)) + (fX9_bit (p0 &&& 255) 2)) - ((((fX9_bit (p0 &&& 255) 6) + (fX9_bit (p0 &&& 255) 5)) + (fX9_bit (p0 &&& 255) 4)) + (fX9_bit (p0 &&& 255) 2)) / 2 * 2))) = 1 then (fX9_guard_202  p0 (p0 &&& 255) (1 - (((((fX9_bit (p0 &&& 255) 8) + (fX9_bit (p0 &&& 255) 6)) + (fX9_bit (p0 &&& 255) 2)) + (fX9_bit (p0 &&& 255) 1)) - ((((fX9_bit (p0 &&& 255) 8) + (fX9_bit (p0 &&& 255) 6)) + (fX9_bit (p0 &&& 255) 2)) + (fX9_bit (p0 &&& 255) 1)) / 2 * 2)) (1 - (((((fX9_bit (p0 &&& 255) 8) + (fX9_bit (p0 &&& 255) 4)) + (fX9_bit (p0 &&& 255) 3)) + (fX9_bit (p0 &&& 255) 2)) - ((((fX9_bit (p0 &&& 255) 8) + (fX9_bit (p0 &&& 255) 4)) + (fX9_bit (p0 &&& 255) 3)) + (fX9_bit (p0 &&& 255) 2)) / 2 * 2)) (1 - (((((fX9_bit (p0 &&& 255) 6) + (fX9_bit (p0 &&& 255) 5)) + (fX9_bit (p0 &&& 255) 4)) + (fX9_bit (p0 &&& 255) 2)) - ((((fX9_bit (p0 &&& 255) 6) + (fX9_bit (p0 &&& 255) 5)) + (fX9_bit (p0 &&& 255) 4)) + (fX9_bit (p0 &&& 255) 2)) / 2 * 2)) (((4 * (1 - (((((fX9_bit (p0 &&& 255) 8) + (fX9_bit (p0 &&& 255) 6)) + (fX9_bit (p0 &&& 255) 2)) + (fX9_bit (p0 &&& 255) 1)) - ((((fX9_bit (p0 &&& 255) 8) + (fX9_bit (p0 &&& 255) 6)) + (fX9_bit (p0 &&& 255) 2)) + (fX9_bit (p0 &&& 255) 1)) / 2 * 2))) + (2 * (1 - (((((fX9_bit (p0 &&& 255) 8) + (fX9_bit (p0 &&& 255) 4)) + (fX9_bit (p0 &&& 255) 3)) + (fX9_bit (p0 &&& 255) 2)) - ((((fX9_bit (p0 &&& 255) 8) + (fX9_bit (p0 &&& 255) 4)) + (fX9_bit (p0 &&& 255) 3)) + (fX9_bit (p0 &&& 255) 2)) / 2 * 2)))) + (1 - (((((fX9_bit (p0 &&& 255) 6) + (fX9_bit (p0 &&& 255) 5)) + (fX9_bit (p0 &&& 255) 4)) + (fX9_bit (p0 &&& 255) 2)) - ((((fX9_bit (p0 &&& 255) 6) + (fX9_bit (p0 &&& 255) 5)) + (fX9_bit (p0 &&& 255) 4)) + (fX9_bit (p0 &&& 255) 2)) / 2 * 2))) 5 q1.2) else (if (((4 * (1 - (((((fX9_bit (p0 &&& 255) 8) + (fX9_bit (p0 &&& 255) 6)) + (fX9_bit (p0 &&& 255) 2)) + (fX9_bit (p0 &&& 255) 1)) - ((((fX9_bit (p0 &&& 255) 8) + (fX9_bit (p0 &&& 255) 6)) + (fX9_bit (p0 &&& 255) 2)) + (fX9_bit (p0 &&& 255) 1)) / 2 * 2))) + (2 * (1 - (((((fX9_bit (p0 &&& 255) 8) + (fX9_bit (p0 &&& 255) 4)) + (fX9_bit (p0 &&& 255) 3)) + (fX9_bit (p0 &&& 255) 2)) - ((((fX9_bit (p0 &&& 255) 8) + (fX9_bit (p0 &&& 255) 4)) + (fX9_bit (p0 &&& 255) 3)) + (fX9_bit (p0 &&& 255) 2)) / 2 * 2)))) + (1 - (((((fX9_bit (p0 &&& 255) 6) + (fX9_bit (p0 &&& 255) 5)) + (fX9_bit (p0 &&& 255) 4)) + (fX9_bit (p0 &&& 255) 2)) - ((((fX9_bit (p0 &&& 255) 6) + (fX9_bit (p0 &&& 255) 5)) + (fX9_bit (p0 &&& 255) 4)) + (fX9_bit (p0 &&& 255) 2)) / 2 * 2))) = 2 then (fX9_guard_202  p0 (p0 &&& 255) (1 - (((((fX9_bit (p0 &&& 255) 8) + (fX9_bit (p0 &&& 255) 6)) + (fX9_bit (p0 &&& 255) 2)) + (fX9_bit (p0 &&& 255) 1)) - ((((fX9_bit (p0 &&& 255) 8) + (fX9_bit (p0 &&& 255) 6)) + (fX9_bit (p0 &&& 255) 2)) + (fX9_bit (p0 &&& 255) 1)) / 2 * 2)) (1 - (((((fX9_bit (p0 &&& 255) 8) + (fX9_bit (p0 &&& 255) 4)) + (fX9_bit (p0 &&& 255) 3)) + (fX9_bit (p0 &&& 255) 2)) - ((((fX9_bit (p0 &&& 255) 8) + (fX9_bit (p0 &&& 255) 4)) + (fX9_bit (p0 &&& 255) 3)) + (fX9_bit (p0 &&& 255) 2)) / 2 * 2)) (1 - (((((fX9_bit (p0 &&& 255) 6) + (fX9_bit (p0 &&& 255) 5)) + (fX9_bit (p0 &&& 255) 4)) + (fX9_bit (p0 &&& 255) 2)) - ((((fX9_bit (p0 &&& 255) 6) + (fX9_bit (p0 &&& 255) 5)) + (fX9_bit (p0 &&& 255) 4)) + (fX9_bit (p0 &&& 255) 2)) / 2 * 2)) (((4 * (1 - (((((fX9_bit (p0 &&& 255) 8) + (fX9_bit (p0 &&& 255) 6)) + (fX9_bit (p0 &&& 255) 2)) + (fX9_bit (p0 &&& 255) 1)) - ((((fX9_bit (p0 &&& 255) 8) + (fX9_bit (p0 &&& 255) 6)) + (fX9_bit (p0 &&& 255) 2)) + (fX9_bit (p0 &&& 255) 1)) / 2 * 2))) + (2 * (1 - (((((fX9_bit (p0 &&& 255) 8) + (fX9_bit (p0 &&& 255) 4)) + (fX9_bit (p0 &&& 255) 3)) + (fX9_bit (p0 &&& 255) 2)) - ((((fX9_bit (p0 &&& 255) 8) + (fX9_bit (p0 &&& 255) 4)) + (fX9_bit (p0 &&& 255) 3)) + (fX9_bit (p0 &&& 255) 2)) / 2 * 2)))) + (1 - (((((fX9_bit (p0 &&& 255) 6) + (fX9_bit (p0 &&& 255) 5)) + (fX9_bit (p0 &&& 255) 4)) + (fX9_bit (p0 &&& 255) 2)) - ((((fX9_bit (p0 &&& 255) 6) + (fX9_bit (p0 &&& 255) 5)) + (fX9_bit (p0 &&& 255) 4)) + (fX9_bit (p0 &&& 255) 2)) / 2 * 2))) 3 q1.2) else (if (((4 * (1 - (((((fX9_bit (p0 &&& 255) 8) + (fX9_bit (p0 &&& 255) 6)) + (fX9_bit (p0 &&& 255) 2)) + (fX9_bit (p0 &&& 255) 1)) - ((((fX9_bit (p0 &&& 255) 8) + (fX9_bit (p0 &&& 255) 6)) + (fX9_bit (p0 &&& 255) 2)) + (fX9_bit (p0 &&& 255) 1)) / 2 * 2))) + (2 * (1 - (((((fX9_bit (p0 &&& 255) 8) + (fX9_bit (p0 &&& 255) 4)) + (fX9_bit (p0 &&& 255) 3)) + (fX9_bit (p0 &&& 255) 2)) - ((((fX9_bit (p0 &&& 255) 8) + (fX9_bit (p0 &&& 255) 4)) + (fX9_bit (p0 &&& 255) 3)) + (fX9_bit (p0 &&& 255) 2)) / 2 * 2)))) + (1 - (((((fX9_bit (p0 &&& 255) 6) + (fX9_bit (p0 &&& 255) 5)) + (fX9_bit (p0 &&& 255) 4)) + (fX9_bit (p0 &&& 255) 2)) - ((((fX9_bit (p0 &&& 255) 6) + (fX9_bit (p0 &&& 255) 5)) + (fX9_bit (p0 &&& 255) 4)) + (fX9_bit (p0 &&& 255) 2)) / 2 * 2))) = 3 then (fX9_guard_202  p0 (p0 &&& 255) (1 - (((((fX9_bit (p0 &&& 255) 8) + (fX9_bit (p0 &&& 255) 6)) + (fX9_bit (p0 &&& 255) 2)) + (fX9_bit (p0 &&& 255) 1)) - ((((fX9_bit (p0 &&& 255) 8) + (fX9_bit (p0 &&& 255) 6)) + (fX9_bit (p0 &&& 255) 2)) + (fX9_bit (p0 &&& 255) 1)) / 2 * 2)) (1 - (((((fX9_bit (p0 &&& 255) 8) + (fX9_bit (p0 &&& 255) 4)) + (fX9_bit (p0 &&& 255) 3)) + (fX9_bit (p0 &&& 255) 2)) - ((((fX9_bit (p0 &&& 255) 8) + (fX9_bit (p0 &&& 255) 4)) + (fX9_bit (p0 &&& 255) 3)) + (fX9_bit (p0 &&& 255) 2)) / 2 * 2)) (1 - (((((fX9_bit (p0 &&& 255) 6) + (fX9_bit (p0 &&& 255) 5)) + (fX9_bit (p0 &&& 255) 4)) + (fX9_bit (p0 &&& 255) 2)) - ((((fX9_bit (p0 &&& 255) 6) + (fX9_bit (p0 &&& 255) 5)) + (fX9_bit (p0 &&& 255) 4)) + (fX9_bit (p0 &&& 255) 2)) / 2 * 2)) (((4 * (1 - (((((fX9_bit (p0 &&& 255) 8) + (fX9_bit (p0 &&& 255) 6)) + (fX9_bit (p0 &&& 255) 2)) + (fX9_bit (p0 &&& 255) 1)) - ((((fX9_bit (p0 &&& 255) 8) + (fX9_bit (p0 &&& 255) 6)) + (fX9_bit (p0 &&& 255) 2)) + (fX9_bit (p0 &&& 255) 1)) / 2 * 2))) + (2 * (1 - (((((fX9_bit (p0 &&& 255) 8) + (fX9_bit (p0 &&& 255) 4)) + (fX9_bit (p0 &&& 255) 3)) + (fX9_bit (p0 &&& 255) 2)) - ((((fX9_bit (p0 &&& 255) 8) + (fX9_bit (p0 &&& 255) 4)) + (fX9_bit (p0 &&& 255) 3)) + (fX9_bit (p0 &&& 255) 2)) / 2 * 2)))) + (1 - (((((fX9_bit (p0 &&& 255) 6) + (fX9_bit (p0 &&& 255) 5)) + (fX9_bit (p0 &&& 255) 4)) + (fX9_bit (p0 &&& 255) 2)) - ((((fX9_bit (p0 &&& 255) 6) + (fX9_bit (p0 &&& 255) 5)) + (fX9_bit (p0 &&& 255) 4)) + (fX9_bit (p0 &&& 255) 2)) / 2 * 2))) 4 q1.2) else (if (((4 * (1 - (((((fX9_bit (p0 &&& 255) 8) + (fX9_bit (p0 &&& 255) 6)) + (fX9_bit (p0 &&& 255) 2)) + (fX9_bit (p0 &&& 255) 1)) - ((((fX9_bit (p0 &&& 255) 8) + (fX9_bit (p0 &&& 255) 6)) + (fX9_bit (p0 &&& 255) 2)) + (fX9_bit (p0 &&& 255) 1)) / 2 * 2))) + (2 * (1 - (((((fX9_bit (p0 &&& 255) 8) + (fX9_bit (p0 &&& 255) 4)) + (fX9_bit (p0 &&& 255) 3)) + (fX9_bit (p0 &&& 255) 2)) - ((((fX9_bit (p0 &&& 255) 8) + (fX9_bit (p0 &&& 255) 4)) + (fX9_bit (p0 &&& 255) 3)) + (fX9_bit (p0 &&& 255) 2)) / 2 * 2)))) + (1 - (((((fX9_bit (p0 &&& 255) 6) + (fX9_bit (p0 &&& 255) 5)) + (fX9_bit (p0 &&& 255) 4)) + (fX9_bit (p0 &&& 255) 2)) - ((((fX9_bit (p0 &&& 255) 6) + (fX9_bit (p0 &&& 255) 5)) + (fX9_bit (p0 &&& 255) 4)) + (fX9_bit (p0 &&& 255) 2)) / 2 * 2))) = 4 then (fX9_guard_202  p0 (p0 &&& 255) (1 - (((((fX9_bit (p0 &&& 255) 8) + (fX9_bit (p0 &&& 255) 6)) + (fX9_bit (p0 &&& 255) 2)) + (fX9_bit (p0 &&& 255) 1)) - ((((fX9_bit (p0 &&& 255) 8) + (fX9_bit (p0 &&& 255) 6)) + (fX9_bit (p0 &&& 255) 2)) + (fX9_bit (p0 &&& 255) 1)) / 2 * 2)) (1 - (((((fX9_bit (p0 &&& 255) 8) + (fX9_bit (p0 &&& 255) 4)) + (fX9_bit (p0 &&& 255) 3)) + (fX9_bit (p0 &&& 255) 2)) - ((((fX9_bit (p0 &&& 255) 8) + (fX9_bit (p0 &&& 255) 4)) + (fX9_bit (p0 &&& 255) 3)) + (fX9_bit (p0 &&& 255) 2)) / 2 * 2)) (1 - (((((fX9_bit (p0 &&& 255) 6) + (fX9_bit (p0 &&& 255) 5)) + (fX9_bit (p0 &&& 255) 4)) + (fX9_bit (p0 &&& 255) 2)) - ((((fX9_bit (p0 &&& 255) 6) + (fX9_bit (p0 &&& 255) 5)) + (fX9_bit (p0 &&& 255) 4)) + (fX9_bit (p0 &&& 255) 2)) / 2 * 2)) (((4 * (1 - (((((fX9_bit (p0 &&& 255) 8) + (fX9_bit (p0 &&& 255) 6)) + (fX9_bit (p0 &&& 255) 2)) + (fX9_bit (p0 &&& 255) 1)) - ((((fX9_bit (p0 &&& 255) 8) + (fX9_bit (p0 &&& 255) 6)) + (fX9_bit (p0 &&& 255) 2)) + (fX9_bit (p0 &&& 255) 1)) / 2 * 2))) + (2 * (1 - (((((fX9_bit (p0 &&& 255) 8) + (fX9_bit (p0 &&& 255) 4)) + (fX9_bit (p0 &&& 255) 3)) + (fX9_bit (p0 &&& 255) 2)) - ((((fX9_bit (p0 &&& 255) 8) + (fX9_bit (p0 &&& 255) 4)) + (fX9_bit (p0 &&& 255) 3)) + (fX9_bit (p0 &&& 255) 2)) / 2 * 2)))) + (1 - (((((fX9_bit (p0 &&& 255) 6) + (fX9_bit (p0 &&& 255) 5)) + (fX9_bit (p0 &&& 255) 4)) + (fX9_bit (p0 &&& 255) 2)) - ((((fX9_bit (p0 &&& 255) 6) + (fX9_bit (p0 &&& 255) 5)) + (fX9_bit (p0 &&& 255) 4)) + (fX9_bit (p0 &&& 255) 2)) / 2 * 2))) 1 q1.2) else (if (((4 * (1 - (((((fX9_bit (p0 &&& 255) 8) + (fX9_bit (p0 &&& 255) 6)) + (fX9_bit (p0 &&& 255) 2)) + (fX9_bit (p0 &&& 255) 1)) - ((((fX9_bit (p0 &&& 255) 8) + (fX9_bit (p0 &&& 255) 6)) + (fX9_bit (p0 &&& 255) 2)) + (fX9_bit (p0 &&& 255) 1)) / 2 * 2))) + (2 * (1 - (((((fX9_bit (p0 &&& 255) 8) + (fX9_bit (p0 &&& 255) 4)) + (fX9_bit (p0 &&& 255) 3)) + (fX9_bit (p0 &&& 255) 2)) - ((((fX9_bit (p0 &&& 255) 8) + (fX9_bit (p0 &&& 255) 4)) + (fX9_bit (p0 &&& 255) 3)) + (fX9_bit (p0 &&& 255) 2)) / 2 * 2)))) + (1 - (((((fX9_bit (p0 &&& 255) 6) + (fX9_bit (p0 &&& 255) 5)) + (fX9_bit (p0 &&& 255) 4)) + (fX9_bit (p0 &&& 255) 2)) - ((((fX9_bit (p0 &&& 255) 6) + (fX9_bit (p0 &&& 255) 5)) + (fX9_bit (p0 &&& 255) 4)) + (fX9_bit (p0 &&& 255) 2)) / 2 * 2))) = 5 then (fX9_guard_202  p0 (p0 &&& 255) (1 - (((((fX9_bit (p0 &&& 255) 8) + (fX9_bit (p0 &&& 255) 6)) + (fX9_bit (p0 &&& 255) 2)) + (fX9_bit (p0 &&& 255) 1)) - ((((fX9_bit (p0 &&& 255) 8) + (fX9_bit (p0 &&& 255) 6)) + (fX9_bit (p0 &&& 255) 2)) + (fX9_bit (p0 &&& 255) 1)) / 2 * 2)) (1 - (((((fX9_bit (p0 &&& 255) 8) + (fX9_bit (p0 &&& 255) 4)) + (fX9_bit (p0 &&& 255) 3)) + (fX9_bit (p0 &&& 255) 2)) - ((((fX9_bit (p0 &&& 255) 8) + (fX9_bit (p0 &&& 255) 4)) + (fX9_bit (p0 &&& 255) 3)) + (fX9_bit (p0 &&& 255) 2)) / 2 * 2)) (1 - (((((fX9_bit (p0 &&& 255) 6) + (fX9_bit (p0 &&& 255) 5)) + (fX9_bit (p0 &&& 255) 4)) + (fX9_bit (p0 &&& 255) 2)) - ((((fX9_bit (p0 &&& 255) 6) + (fX9_bit (p0 &&& 255) 5)) + (fX9_bit (p0 &&& 255) 4)) + (fX9_bit (p0 &&& 255) 2)) / 2 * 2)) (((4 * (1 - (((((fX9_bit (p0 &&& 255) 8) + (fX9_bit (p0 &&& 255) 6)) + (fX9_bit (p0 &&& 255) 2)) + (fX9_bit (p0 &&& 255) 1)) - ((((fX9_bit (p0 &&& 255) 8) + (fX9_bit (p0 &&& 255) 6)) + (fX9_bit (p0 &&& 255) 2)) + (fX9_bit (p0 &&& 255) 1)) / 2 * 2))) + (2 * (1 - (((((fX9_bit (p0 &&& 255) 8) + (fX9_bit (p0 &&& 255) 4)) + (fX9_bit (p0 &&& 255) 3)) + (fX9_bit (p0 &&& 255) 2)) - ((((fX9_bit (p0 &&& 255) 8) + (fX9_bit (p0 &&& 255) 4)) + (fX9_bit (p0 &&& 255) 3)) + (fX9_bit (p0 &&& 255) 2)) / 2 * 2)))) + (1 - (((((fX9_bit (p0 &&& 255) 6) + (fX9_bit (p0 &&& 255) 5)) + (fX9_bit (p0 &&& 255) 4)) + (fX9_bit (p0 &&& 255) 2)) - ((((fX9_bit (p0 &&& 255) 6) + (fX9_bit (p0 &&& 255) 5)) + (fX9_bit (p0 &&& 255) 4)) + (fX9_bit (p0 &&& 255) 2)) / 2 * 2))) 6 q1.2) else (if (((4 * (1 - (((((fX9_bit (p0 &&& 255) 8) + (fX9_bit (p0 &&& 255) 6)) + (fX9_bit (p0 &&& 255) 2)) + (fX9_bit (p0 &&& 255) 1)) - ((((fX9_bit (p0 &&& 255) 8) + (fX9_bit (p0 &&& 255) 6)) + (fX9_bit (p0 &&& 255) 2)) + (fX9_bit (p0 &&& 255) 1)) / 2 * 2))) + (2 * (1 - (((((fX9_bit (p0 &&& 255) 8) + (fX9_bit (p0 &&& 255) 4)) + (fX9_bit (p0 &&& 255) 3)) + (fX9_bit (p0 &&& 255) 2)) - ((((fX9_bit (p0 &&& 255) 8) + (fX9_bit (p0 &&& 255) 4)) + (fX9_bit (p0 &&& 255) 3)) + (fX9_bit (p0 &&& 255) 2)) / 2 * 2)))) + (1 - (((((fX9_bit (p0 &&& 255) 6) + (fX9_bit (p0 &&& 255) 5)) + (fX9_bit (p0 &&& 255) 4)) + (fX9_bit (p0 &&& 255) 2)) - ((((fX9_bit (p0 &&& 255) 6) + (fX9_bit (p0 &&& 255) 5)) + (fX9_bit (p0 &&& 255) 4)) + (fX9_bit (p0 &&& 255) 2)) / 2 * 2))) = 6 then (fX9_guard_202  p0 (p0 &&& 255) (1 - (((((fX9_bit (p0 &&& 255) 8) + (fX9_bit (p0 &&& 255) 6)) + (fX9_bit (p0 &&& 255) 2)) + (fX9_bit (p0 &&& 255) 1)) - ((((fX9_bit (p0 &&& 255) 8) + (fX9_bit (p0 &&& 255) 6)) + (fX9_bit (p0 &&& 255) 2)) + (fX9_bit (p0 &&& 255) 1)) / 2 * 2)) (1 - (((((fX9_bit (p0 &&& 255) 8) + (fX9_bit (p0 &&& 255) 4)) + (fX9_bit (p0 &&& 255) 3)) + (fX9_bit (p0 &&& 255) 2)) - ((((fX9_bit (p0 &&& 255) 8) + (fX9_bit (p0 &&& 255) 4)) + (fX9_bit (p0 &&& 255) 3)) + (fX9_bit (p0 &&& 255) 2)) / 2 * 2)) (1 - (((((fX9_bit (p0 &&& 255) 6) + (fX9_bit (p0 &&& 255) 5)) + (fX9_bit (p0 &&& 255) 4)) + (fX9_bit (p0 &&& 255) 2)) - ((((fX9_bit (p0 &&& 255) 6) + (fX9_bit (p0 &&& 255) 5)) + (fX9_bit (p0 &&& 255) 4)) + (fX9_bit (p0 &&& 255) 2)) / 2 * 2)) (((4 * (1 - (((((fX9_bit (p0 &&& 255) 8) + (fX9_bit (p0 &&& 255) 6)) + (fX9_bit (p0 &&& 255) 2)) + (fX9_bit (p0 &&& 255) 1)) - ((((fX9_bit (p0 &&& 255) 8) + (fX9_bit (p0 &&& 255) 6)) + (fX9_bit (p0 &&& 255) 2)) + (fX9_bit (p0 &&& 255) 1)) / 2 * 2))) + (2 * (1 - (((((fX9_bit (p0 &&& 255) 8) + (fX9_bit (p0 &&& 255) 4)) + (fX9_bit (p0 &&& 255) 3)) + (fX9_bit (p0 &&& 255) 2)) - ((((fX9_bit (p0 &&& 255) 8) + (fX9_bit (p0 &&& 255) 4)) + (fX9_bit (p0 &&& 255) 3)) + (fX9_bit (p0 &&& 255) 2)) / 2 * 2)))) + (1 - (((((fX9_bit (p0 &&& 255) 6) + (fX9_bit (p0 &&& 255) 5)) + (fX9_bit (p0 &&& 255) 4)) + (fX9_bit (p0 &&& 255) 2)) - ((((fX9_bit (p0 &&& 255) 6) + (fX9_bit (p0 &&& 255) 5)) + (fX9_bit (p0 &&& 255) 4)) + (fX9_bit (p0 &&& 255) 2)) / 2 * 2))) 8 q1.2) else (fX9_guard_202  p0 (p0 &&& 255) (1 - (((((fX9_bit (p0 &&& 255) 8) + (fX9_bit (p0 &&& 255) 6)) + (fX9_bit (p0 &&& 255) 2)) + (fX9_bit (p0 &&& 255) 1)) - ((((fX9_bit (p0 &&& 255) 8) + (fX9_bit (p0 &&& 255) 6)) + (fX9_bit (p0 &&& 255) 2)) + (fX9_bit (p0 &&& 255) 1)) / 2 * 2)) (1 - (((((fX9_bit (p0 &&& 255) 8) + (fX9_bit (p0 &&& 255) 4)) + (fX9_bit (p0 &&& 255) 3)) + (fX9_bit (p0 &&& 255) 2)) - ((((fX9_bit (p0 &&& 255) 8) + (fX9_bit (p0 &&& 255) 4)) + (fX9_bit (p0 &&& 255) 3)) + (fX9_bit (p0 &&& 255) 2)) / 2 * 2)) (1 - (((((fX9_bit (p0 &&& 255) 6) + (fX9_bit (p0 &&& 255) 5)) + (fX9_bit (p0 &&& 255) 4)) + (fX9_bit (p0 &&& 255) 2)) - ((((fX9_bit (p0 &&& 255) 6) + (fX9_bit (p0 &&& 255) 5)) + (fX9_bit (p0 &&& 255) 4)) + (fX9_bit (p0 &&& 255) 2)) / 2 * 2)) (((4 * (1 - (((((fX9_bit (p0 &&& 255) 8) + (fX9_bit (p0 &&& 255) 6)) + (fX9_bit (p0 &&& 255) 2)) + (fX9_bit (p0 &&& 255) 1)) - ((((fX9_bit (p0 &&& 255) 8) + (fX9_bit (p0 &&& 255) 6)) + (fX9_bit (p0 &&& 255) 2)) + (fX9_bit (p0 &&& 255) 1)) / 2 * 2))) + (2 * (1 - (((((fX9_bit (p0 &&& 255) 8) + (fX9_bit (p0 &&& 255) 4)) + (fX9_bit (p0 &&& 255) 3)) + (fX9_bit (p0 &&& 255) 2)) - ((((fX9_bit (p0 &&& 255) 8) + (fX9_bit (p0 &&& 255) 4)) + (fX9_bit (p0 &&& 255) 3)) + (fX9_bit (p0 &&& 255) 2)) / 2 * 2)))) + (1 - (((((fX9_bit (p0 &&& 255) 6) + (fX9_bit (p0 &&& 255) 5)) + (fX9_bit (p0 &&& 255) 4)) + (fX9_bit (p0 &&& 255) 2)) - ((((fX9_bit (p0 &&& 255) 6) + (fX9_bit (p0 &&& 255) 5)) + (fX9_bit (p0 &&& 255) 4)) + (fX9_bit (p0 &&& 255) 2)) / 2 * 2))) 2 q1.2)))))))) else (if (((4 * (1 - (((((fX9_bit (p0 &&& 255) 8) + (fX9_bit (p0 &&& 255) 6)) + (fX9_bit (p0 &&& 255) 2)) + (fX9_bit (p0 &&& 255) 1)) - ((((fX9_bit (p0 &&& 255) 8) + (fX9_bit (p0 &&& 255) 6)) + (fX9_bit (p0 &&& 255) 2)) + (fX9_bit (p0 &&& 255) 1)) / 2 * 2))) + (2 * (1 - (((((fX9_bit (p0 &&& 255) 8) + (fX9_bit (p0 &&& 255) 4)) + (fX9_bit (p0 &&& 255) 3)) + (fX9_bit (p0 &&& 255) 2)) - ((((fX9_bit (p0 &&& 255) 8) + (fX9_bit (p0 &&& 255) 4)) + (fX9_bit (p0 &&& 255) 3)) + (fX9_bit (p0 &&& 255) 2)) / 2 * 2)))) + (1 - (((((fX9_bit (p0 &&& 255) 6) + (fX9_bit (p0 &&& 255) 5)) + (fX9_bit (p0 &&& 255) 4)) + (fX9_bit (p0 &&& 255) 2)) - ((((fX9_bit (p0 &&& 255) 6) + (fX9_bit (p0 &&& 255) 5)) + (fX9_bit (p0 &&& 255) 4)) + (fX9_bit (p0 &&& 255) 2)) / 2 * 2))) = 0 then some (fX9_valueOf (p0 &&& 255), q1.2) else some ((-1), q1.2)))
set_option maxHeartbeats 4000000 in
set_option maxRecDepth 100000 in
theorem kX9_guard_202 {G : mm_G} {A : Nat → Prop} {ini : Bool × Option (List (Nat × Nat × Nat × Nat))}  {R : (Int32 × mm_M)}  (x0 : Int32) (x1 : Int32) (x2 : Int32) (x3 : Int32) (x4 : Int32) (x5 : Int32) (y0 : Int32) (σ : mm_M) (hf : fX9_guard_202  x0 x1 x2 x3 x4 x5 y0 σ = some R) : mm_J cd_Y G RX9 cX9_guard 7 (some .int) ini rmX9_guard A (mm_QF cd_Y G A (mm_Pi R.1 R.2) rmX9_guard.cells rmX9_guard.slots) 202 [(0, .int x0), (1, .int x1), (2, .int x2), (3, .int x3), (4, .int x4), (5, .int x5)] [.int y0] σ 0 0 := by
  unfold fX9_guard_202 at hf
  refine mm_istore (L' := [(6, .int y0), (0, .int x0), (1, .int x1), (2, .int x2), (3, .int x3), (4, .int x4), (5, .int x5)]) dX9_guard_202 (by decide) rfl ?_
  refine mm_bipush (v := 16) dX9_guard_204 (by decide) ?_
  refine mm_iload_n (j := 2) dX9_guard_206 rfl rfl ?_
  refine mm_iconst (v := 1) dX9_guard_207 (by decide) ?_
  refine mm_iload (j := 0) dX9_guard_208 rfl ?_
  refine mm_iconst (v := 1) dX9_guard_210 (by decide) ?_
  refine mm_isub dX9_guard_211 ?_
  refine mm_ishl dX9_guard_212 ?_
  refine mm_ixor dX9_guard_213 ?_
  refine mm_callSi cd_ok (kX9_valueOf (x1 ^^^ ((1 : Int32) <<< (((y0 - 1) : Int32) &&& 31))) _ rfl) (Or.inl tw_1024) cdX9_valueOf tw_1025 nmX9_valueOf rfl rfl (by simp only [List.map_cons, List.map_nil, mm_rf_cat]; exact Nat.le_of_ble_eq_true rfl) dX9_guard_214 ⟨Nat.le_of_ble_eq_true rfl, Nat.le_of_ble_eq_true rfl⟩ ⟨Nat.le_of_ble_eq_true rfl, Nat.le_of_ble_eq_true rfl⟩ ?_
  refine mm_iadd dX9_guard_217 ?_
  cases hf
  refine mm_widen (ck' := rmX9_guard.cells) (sk' := rmX9_guard.slots) (Nat.le_of_ble_eq_true rfl) (Nat.le_of_ble_eq_true rfl) ?_
  exact mm_iret rfl rfl dX9_guard_218 ⟨rfl, rfl⟩
set_option maxHeartbeats 4000000 in
set_option maxRecDepth 100000 in
theorem kX9_guard {G : mm_G} {A : Nat → Prop} (p0 : Int32) {σ : mm_M} {R : (Int32 × mm_M)} (hf : fX9_guard p0 σ = some R) : mm_C cd_Y G yX9_guard cX9_guard 7 (some .int) rmX9_guard A [.int p0] σ (mm_Pi R.1 R.2) := by
  refine mm_C.of (by decide) (Nat.le_of_ble_eq_true rfl) ?_
  unfold fX9_guard at hf
  have e0 : lv_args 0 [.int p0] = [(0, .int p0)] := rfl
  rw [e0]
  generalize hini : ((yX9_guard.name == "<init>"), none) = ini
  clear e0
  clear hini
  refine mm_iload_n (j := 0) dX9_guard_0 rfl rfl ?_
  refine mm_sipush (v := 255) dX9_guard_1 (by decide) ?_
  refine mm_iand dX9_guard_4 ?_
  refine mm_istore_n (L' := [(1, .int (p0 &&& 255)), (0, .int p0)]) dX9_guard_5 rfl (by decide) rfl ?_
  refine mm_iconst (v := 1) dX9_guard_6 (by decide) ?_
  refine mm_iload_n (j := 0) dX9_guard_7 rfl rfl ?_
  refine mm_bipush (v := 8) dX9_guard_8 (by decide) ?_
  refine mm_callSi cd_ok (kX9_bit (p0 &&& 255) 8 _ rfl) (Or.inl tw_1021) cdX9_bit tw_1022 nmX9_bit rfl rfl (by simp only [List.map_cons, List.map_nil, mm_rf_cat]; exact Nat.le_of_ble_eq_true rfl) dX9_guard_10 ⟨Nat.le_of_ble_eq_true rfl, Nat.le_of_ble_eq_true rfl⟩ ⟨Nat.le_of_ble_eq_true rfl, Nat.le_of_ble_eq_true rfl⟩ ?_
  refine mm_iload_n (j := 0) dX9_guard_13 rfl rfl ?_
  refine mm_bipush (v := 6) dX9_guard_14 (by decide) ?_
  refine mm_callSi cd_ok (kX9_bit (p0 &&& 255) 6 _ rfl) (Or.inl tw_1021) cdX9_bit tw_1022 nmX9_bit rfl rfl (by simp only [List.map_cons, List.map_nil, mm_rf_cat]; exact Nat.le_of_ble_eq_true rfl) dX9_guard_16 ⟨Nat.le_of_ble_eq_true rfl, Nat.le_of_ble_eq_true rfl⟩ ⟨Nat.le_of_ble_eq_true rfl, Nat.le_of_ble_eq_true rfl⟩ ?_
  refine mm_iadd dX9_guard_19 ?_
  refine mm_iload_n (j := 0) dX9_guard_20 rfl rfl ?_
  refine mm_iconst (v := 2) dX9_guard_21 (by decide) ?_
  refine mm_callSi cd_ok (kX9_bit (p0 &&& 255) 2 _ rfl) (Or.inl tw_1021) cdX9_bit tw_1022 nmX9_bit rfl rfl (by simp only [List.map_cons, List.map_nil, mm_rf_cat]; exact Nat.le_of_ble_eq_true rfl) dX9_guard_22 ⟨Nat.le_of_ble_eq_true rfl, Nat.le_of_ble_eq_true rfl⟩ ⟨Nat.le_of_ble_eq_true rfl, Nat.le_of_ble_eq_true rfl⟩ ?_
  refine mm_iadd dX9_guard_25 ?_
  refine mm_iload_n (j := 0) dX9_guard_26 rfl rfl ?_
  refine mm_iconst (v := 1) dX9_guard_27 (by decide) ?_
  refine mm_callSi cd_ok (kX9_bit (p0 &&& 255) 1 _ rfl) (Or.inl tw_1021) cdX9_bit tw_1022 nmX9_bit rfl rfl (by simp only [List.map_cons, List.map_nil, mm_rf_cat]; exact Nat.le_of_ble_eq_true rfl) dX9_guard_28 ⟨Nat.le_of_ble_eq_true rfl, Nat.le_of_ble_eq_true rfl⟩ ⟨Nat.le_of_ble_eq_true rfl, Nat.le_of_ble_eq_true rfl⟩ ?_
  refine mm_iadd dX9_guard_31 ?_
  refine mm_iconst (v := 2) dX9_guard_32 (by decide) ?_
  refine mm_irem dX9_guard_33 (by decide) ?_
  refine mm_isub dX9_guard_34 ?_
  refine mm_istore_n (L' := [(2, .int (1 - (((((fX9_bit (p0 &&& 255) 8) + (fX9_bit (p0 &&& 255) 6)) + (fX9_bit (p0 &&& 255) 2)) + (fX9_bit (p0 &&& 255) 1)) - ((((fX9_bit (p0 &&& 255) 8) + (fX9_bit (p0 &&& 255) 6)) + (fX9_bit (p0 &&& 255) 2)) + (fX9_bit (p0 &&& 255) 1)) / 2 * 2))), (1, .int (p0 &&& 255)), (0, .int p0)]) dX9_guard_35 rfl (by decide) rfl ?_
  refine mm_iconst (v := 1) dX9_guard_36 (by decide) ?_
  refine mm_iload_n (j := 1) dX9_guard_37 rfl rfl ?_
  refine mm_bipush (v := 8) dX9_guard_38 (by decide) ?_
  refine mm_callSi cd_ok (kX9_bit (p0 &&& 255) 8 _ rfl) (Or.inl tw_1021) cdX9_bit tw_1022 nmX9_bit rfl rfl (by simp only [List.map_cons, List.map_nil, mm_rf_cat]; exact Nat.le_of_ble_eq_true rfl) dX9_guard_40 ⟨Nat.le_of_ble_eq_true rfl, Nat.le_of_ble_eq_true rfl⟩ ⟨Nat.le_of_ble_eq_true rfl, Nat.le_of_ble_eq_true rfl⟩ ?_
  refine mm_iload_n (j := 1) dX9_guard_43 rfl rfl ?_
  refine mm_iconst (v := 4) dX9_guard_44 (by decide) ?_
  refine mm_callSi cd_ok (kX9_bit (p0 &&& 255) 4 _ rfl) (Or.inl tw_1021) cdX9_bit tw_1022 nmX9_bit rfl rfl (by simp only [List.map_cons, List.map_nil, mm_rf_cat]; exact Nat.le_of_ble_eq_true rfl) dX9_guard_45 ⟨Nat.le_of_ble_eq_true rfl, Nat.le_of_ble_eq_true rfl⟩ ⟨Nat.le_of_ble_eq_true rfl, Nat.le_of_ble_eq_true rfl⟩ ?_
  refine mm_iadd dX9_guard_48 ?_
  refine mm_iload_n (j := 1) dX9_guard_49 rfl rfl ?_
  refine mm_iconst (v := 3) dX9_guard_50 (by decide) ?_
  refine mm_callSi cd_ok (kX9_bit (p0 &&& 255) 3 _ rfl) (Or.inl tw_1021) cdX9_bit tw_1022 nmX9_bit rfl rfl (by simp only [List.map_cons, List.map_nil, mm_rf_cat]; exact Nat.le_of_ble_eq_true rfl) dX9_guard_51 ⟨Nat.le_of_ble_eq_true rfl, Nat.le_of_ble_eq_true rfl⟩ ⟨Nat.le_of_ble_eq_true rfl, Nat.le_of_ble_eq_true rfl⟩ ?_
  refine mm_iadd dX9_guard_54 ?_
  refine mm_iload_n (j := 1) dX9_guard_55 rfl rfl ?_
  refine mm_iconst (v := 2) dX9_guard_56 (by decide) ?_
  refine mm_callSi cd_ok (kX9_bit (p0 &&& 255) 2 _ rfl) (Or.inl tw_1021) cdX9_bit tw_1022 nmX9_bit rfl rfl (by simp only [List.map_cons, List.map_nil, mm_rf_cat]; exact Nat.le_of_ble_eq_true rfl) dX9_guard_57 ⟨Nat.le_of_ble_eq_true rfl, Nat.le_of_ble_eq_true rfl⟩ ⟨Nat.le_of_ble_eq_true rfl, Nat.le_of_ble_eq_true rfl⟩ ?_
  refine mm_iadd dX9_guard_60 ?_
  refine mm_iconst (v := 2) dX9_guard_61 (by decide) ?_
  refine mm_irem dX9_guard_62 (by decide) ?_
  refine mm_isub dX9_guard_63 ?_
  refine mm_istore_n (L' := [(3, .int (1 - (((((fX9_bit (p0 &&& 255) 8) + (fX9_bit (p0 &&& 255) 4)) + (fX9_bit (p0 &&& 255) 3)) + (fX9_bit (p0 &&& 255) 2)) - ((((fX9_bit (p0 &&& 255) 8) + (fX9_bit (p0 &&& 255) 4)) + (fX9_bit (p0 &&& 255) 3)) + (fX9_bit (p0 &&& 255) 2)) / 2 * 2))), (2, .int (1 - (((((fX9_bit (p0 &&& 255) 8) + (fX9_bit (p0 &&& 255) 6)) + (fX9_bit (p0 &&& 255) 2)) + (fX9_bit (p0 &&& 255) 1)) - ((((fX9_bit (p0 &&& 255) 8) + (fX9_bit (p0 &&& 255) 6)) + (fX9_bit (p0 &&& 255) 2)) + (fX9_bit (p0 &&& 255) 1)) / 2 * 2))), (1, .int (p0 &&& 255)), (0, .int p0)]) dX9_guard_64 rfl (by decide) rfl ?_
  refine mm_iconst (v := 1) dX9_guard_65 (by decide) ?_
  refine mm_iload_n (j := 2) dX9_guard_66 rfl rfl ?_
  refine mm_bipush (v := 6) dX9_guard_67 (by decide) ?_
  refine mm_callSi cd_ok (kX9_bit (p0 &&& 255) 6 _ rfl) (Or.inl tw_1021) cdX9_bit tw_1022 nmX9_bit rfl rfl (by simp only [List.map_cons, List.map_nil, mm_rf_cat]; exact Nat.le_of_ble_eq_true rfl) dX9_guard_69 ⟨Nat.le_of_ble_eq_true rfl, Nat.le_of_ble_eq_true rfl⟩ ⟨Nat.le_of_ble_eq_true rfl, Nat.le_of_ble_eq_true rfl⟩ ?_
  refine mm_iload_n (j := 2) dX9_guard_72 rfl rfl ?_
  refine mm_iconst (v := 5) dX9_guard_73 (by decide) ?_
  refine mm_callSi cd_ok (kX9_bit (p0 &&& 255) 5 _ rfl) (Or.inl tw_1021) cdX9_bit tw_1022 nmX9_bit rfl rfl (by simp only [List.map_cons, List.map_nil, mm_rf_cat]; exact Nat.le_of_ble_eq_true rfl) dX9_guard_74 ⟨Nat.le_of_ble_eq_true rfl, Nat.le_of_ble_eq_true rfl⟩ ⟨Nat.le_of_ble_eq_true rfl, Nat.le_of_ble_eq_true rfl⟩ ?_
  refine mm_iadd dX9_guard_77 ?_
  refine mm_iload_n (j := 2) dX9_guard_78 rfl rfl ?_
  refine mm_iconst (v := 4) dX9_guard_79 (by decide) ?_
  refine mm_callSi cd_ok (kX9_bit (p0 &&& 255) 4 _ rfl) (Or.inl tw_1021) cdX9_bit tw_1022 nmX9_bit rfl rfl (by simp only [List.map_cons, List.map_nil, mm_rf_cat]; exact Nat.le_of_ble_eq_true rfl) dX9_guard_80 ⟨Nat.le_of_ble_eq_true rfl, Nat.le_of_ble_eq_true rfl⟩ ⟨Nat.le_of_ble_eq_true rfl, Nat.le_of_ble_eq_true rfl⟩ ?_
  refine mm_iadd dX9_guard_83 ?_
  refine mm_iload_n (j := 2) dX9_guard_84 rfl rfl ?_
  refine mm_iconst (v := 2) dX9_guard_85 (by decide) ?_
  refine mm_callSi cd_ok (kX9_bit (p0 &&& 255) 2 _ rfl) (Or.inl tw_1021) cdX9_bit tw_1022 nmX9_bit rfl rfl (by simp only [List.map_cons, List.map_nil, mm_rf_cat]; exact Nat.le_of_ble_eq_true rfl) dX9_guard_86 ⟨Nat.le_of_ble_eq_true rfl, Nat.le_of_ble_eq_true rfl⟩ ⟨Nat.le_of_ble_eq_true rfl, Nat.le_of_ble_eq_true rfl⟩ ?_
  refine mm_iadd dX9_guard_89 ?_
  refine mm_iconst (v := 2) dX9_guard_90 (by decide) ?_
  refine mm_irem dX9_guard_91 (by decide) ?_
  refine mm_isub dX9_guard_92 ?_
  refine mm_istore (L' := [(4, .int (1 - (((((fX9_bit (p0 &&& 255) 6) + (fX9_bit (p0 &&& 255) 5)) + (fX9_bit (p0 &&& 255) 4)) + (fX9_bit (p0 &&& 255) 2)) - ((((fX9_bit (p0 &&& 255) 6) + (fX9_bit (p0 &&& 255) 5)) + (fX9_bit (p0 &&& 255) 4)) + (fX9_bit (p0 &&& 255) 2)) / 2 * 2))), (3, .int (1 - (((((fX9_bit (p0 &&& 255) 8) + (fX9_bit (p0 &&& 255) 4)) + (fX9_bit (p0 &&& 255) 3)) + (fX9_bit (p0 &&& 255) 2)) - ((((fX9_bit (p0 &&& 255) 8) + (fX9_bit (p0 &&& 255) 4)) + (fX9_bit (p0 &&& 255) 3)) + (fX9_bit (p0 &&& 255) 2)) / 2 * 2))), (2, .int (1 - (((((fX9_bit (p0 &&& 255) 8) + (fX9_bit (p0 &&& 255) 6)) + (fX9_bit (p0 &&& 255) 2)) + (fX9_bit (p0 &&& 255) 1)) - ((((fX9_bit (p0 &&& 255) 8) + (fX9_bit (p0 &&& 255) 6)) + (fX9_bit (p0 &&& 255) 2)) + (fX9_bit (p0 &&& 255) 1)) / 2 * 2))), (1, .int (p0 &&& 255)), (0, .int p0)]) dX9_guard_93 (by decide) rfl ?_
  refine mm_iconst (v := 4) dX9_guard_95 (by decide) ?_
  refine mm_iload_n (j := 2) dX9_guard_96 rfl rfl ?_
  refine mm_imul dX9_guard_97 ?_
  refine mm_iconst (v := 2) dX9_guard_98 (by decide) ?_
  refine mm_iload_n (j := 1) dX9_guard_99 rfl rfl ?_
  refine mm_imul dX9_guard_100 ?_
  refine mm_iadd dX9_guard_101 ?_
  refine mm_iload (j := 0) dX9_guard_102 rfl ?_
  refine mm_iadd dX9_guard_104 ?_
  refine mm_istore (L' := [(5, .int (((4 * (1 - (((((fX9_bit (p0 &&& 255) 8) + (fX9_bit (p0 &&& 255) 6)) + (fX9_bit (p0 &&& 255) 2)) + (fX9_bit (p0 &&& 255) 1)) - ((((fX9_bit (p0 &&& 255) 8) + (fX9_bit (p0 &&& 255) 6)) + (fX9_bit (p0 &&& 255) 2)) + (fX9_bit (p0 &&& 255) 1)) / 2 * 2))) + (2 * (1 - (((((fX9_bit (p0 &&& 255) 8) + (fX9_bit (p0 &&& 255) 4)) + (fX9_bit (p0 &&& 255) 3)) + (fX9_bit (p0 &&& 255) 2)) - ((((fX9_bit (p0 &&& 255) 8) + (fX9_bit (p0 &&& 255) 4)) + (fX9_bit (p0 &&& 255) 3)) + (fX9_bit (p0 &&& 255) 2)) / 2 * 2)))) + (1 - (((((fX9_bit (p0 &&& 255) 6) + (fX9_bit (p0 &&& 255) 5)) + (fX9_bit (p0 &&& 255) 4)) + (fX9_bit (p0 &&& 255) 2)) - ((((fX9_bit (p0 &&& 255) 6) + (fX9_bit (p0 &&& 255) 5)) + (fX9_bit (p0 &&& 255) 4)) + (fX9_bit (p0 &&& 255) 2)) / 2 * 2)))), (4, .int (1 - (((((fX9_bit (p0 &&& 255) 6) + (fX9_bit (p0 &&& 255) 5)) + (fX9_bit (p0 &&& 255) 4)) + (fX9_bit (p0 &&& 255) 2)) - ((((fX9_bit (p0 &&& 255) 6) + (fX9_bit (p0 &&& 255) 5)) + (fX9_bit (p0 &&& 255) 4)) + (fX9_bit (p0 &&& 255) 2)) / 2 * 2))), (3, .int (1 - (((((fX9_bit (p0 &&& 255) 8) + (fX9_bit (p0 &&& 255) 4)) + (fX9_bit (p0 &&& 255) 3)) + (fX9_bit (p0 &&& 255) 2)) - ((((fX9_bit (p0 &&& 255) 8) + (fX9_bit (p0 &&& 255) 4)) + (fX9_bit (p0 &&& 255) 3)) + (fX9_bit (p0 &&& 255) 2)) / 2 * 2))), (2, .int (1 - (((((fX9_bit (p0 &&& 255) 8) + (fX9_bit (p0 &&& 255) 6)) + (fX9_bit (p0 &&& 255) 2)) + (fX9_bit (p0 &&& 255) 1)) - ((((fX9_bit (p0 &&& 255) 8) + (fX9_bit (p0 &&& 255) 6)) + (fX9_bit (p0 &&& 255) 2)) + (fX9_bit (p0 &&& 255) 1)) / 2 * 2))), (1, .int (p0 &&& 255)), (0, .int p0)]) dX9_guard_105 (by decide) rfl ?_
  refine mm_iload_n (j := 4) dX9_guard_107 rfl rfl ?_
  obtain ⟨q1, hq1, hf⟩ := mm_on_s hf
  refine mm_callSi cd_ok (kX9_isOdd (p0 &&& 255) hq1) (Or.inl tw_948) cdX9_isOdd tw_949 nmX9_isOdd rfl rfl (by simp only [List.map_cons, List.map_nil, mm_rf_cat]; exact Nat.le_of_ble_eq_true rfl) dX9_guard_108 ⟨Nat.le_of_ble_eq_true rfl, Nat.le_of_ble_eq_true rfl⟩ ⟨Nat.le_of_ble_eq_true rfl, Nat.le_of_ble_eq_true rfl⟩ ?_
  refine mm_if_eq (tgt := 128) dX9_guard_111 (by decide) (fun c2 => ?_) (fun c2 => ?_)
  · rw [if_pos c2] at hf
    refine mm_iload (j := 0) dX9_guard_128 rfl ?_
    refine mm_if_ne (tgt := 138) dX9_guard_130 (by decide) (fun c3 => ?_) (fun c3 => ?_)
    · rw [if_neg c3] at hf
      refine mm_iload (j := 0) dX9_guard_138 rfl ?_
      refine mm_iconst (v := 1) dX9_guard_140 (by decide) ?_
      refine mm_icmp_ne (tgt := 148) dX9_guard_141 (by decide) (fun c4 => ?_) (fun c4 => ?_)
      · rw [if_neg c4] at hf
        refine mm_iload (j := 0) dX9_guard_148 rfl ?_
        refine mm_iconst (v := 2) dX9_guard_150 (by decide) ?_
        refine mm_icmp_ne (tgt := 158) dX9_guard_151 (by decide) (fun c5 => ?_) (fun c5 => ?_)
        · rw [if_neg c5] at hf
          refine mm_iload (j := 0) dX9_guard_158 rfl ?_
          refine mm_iconst (v := 3) dX9_guard_160 (by decide) ?_
          refine mm_icmp_ne (tgt := 168) dX9_guard_161 (by decide) (fun c6 => ?_) (fun c6 => ?_)
          · rw [if_neg c6] at hf
            refine mm_iload (j := 0) dX9_guard_168 rfl ?_
            refine mm_iconst (v := 4) dX9_guard_170 (by decide) ?_
            refine mm_icmp_ne (tgt := 178) dX9_guard_171 (by decide) (fun c7 => ?_) (fun c7 => ?_)
            · rw [if_neg c7] at hf
              refine mm_iload (j := 0) dX9_guard_178 rfl ?_
              refine mm_iconst (v := 5) dX9_guard_180 (by decide) ?_
              refine mm_icmp_ne (tgt := 189) dX9_guard_181 (by decide) (fun c8 => ?_) (fun c8 => ?_)
              · rw [if_neg c8] at hf
                refine mm_iload (j := 0) dX9_guard_189 rfl ?_
                refine mm_bipush (v := 6) dX9_guard_191 (by decide) ?_
                refine mm_icmp_ne (tgt := 201) dX9_guard_193 (by decide) (fun c9 => ?_) (fun c9 => ?_)
                · rw [if_neg c9] at hf
                  refine mm_iconst (v := 2) dX9_guard_201 (by decide) ?_
                  refine mm_sub [5, 4, 3, 2, 1, 0] rfl ?_
                  exact kX9_guard_202  p0 (p0 &&& 255) (1 - (((((fX9_bit (p0 &&& 255) 8) + (fX9_bit (p0 &&& 255) 6)) + (fX9_bit (p0 &&& 255) 2)) + (fX9_bit (p0 &&& 255) 1)) - ((((fX9_bit (p0 &&& 255) 8) + (fX9_bit (p0 &&& 255) 6)) + (fX9_bit (p0 &&& 255) 2)) + (fX9_bit (p0 &&& 255) 1)) / 2 * 2)) (1 - (((((fX9_bit (p0 &&& 255) 8) + (fX9_bit (p0 &&& 255) 4)) + (fX9_bit (p0 &&& 255) 3)) + (fX9_bit (p0 &&& 255) 2)) - ((((fX9_bit (p0 &&& 255) 8) + (fX9_bit (p0 &&& 255) 4)) + (fX9_bit (p0 &&& 255) 3)) + (fX9_bit (p0 &&& 255) 2)) / 2 * 2)) (1 - (((((fX9_bit (p0 &&& 255) 6) + (fX9_bit (p0 &&& 255) 5)) + (fX9_bit (p0 &&& 255) 4)) + (fX9_bit (p0 &&& 255) 2)) - ((((fX9_bit (p0 &&& 255) 6) + (fX9_bit (p0 &&& 255) 5)) + (fX9_bit (p0 &&& 255) 4)) + (fX9_bit (p0 &&& 255) 2)) / 2 * 2)) (((4 * (1 - (((((fX9_bit (p0 &&& 255) 8) + (fX9_bit (p0 &&& 255) 6)) + (fX9_bit (p0 &&& 255) 2)) + (fX9_bit (p0 &&& 255) 1)) - ((((fX9_bit (p0 &&& 255) 8) + (fX9_bit (p0 &&& 255) 6)) + (fX9_bit (p0 &&& 255) 2)) + (fX9_bit (p0 &&& 255) 1)) / 2 * 2))) + (2 * (1 - (((((fX9_bit (p0 &&& 255) 8) + (fX9_bit (p0 &&& 255) 4)) + (fX9_bit (p0 &&& 255) 3)) + (fX9_bit (p0 &&& 255) 2)) - ((((fX9_bit (p0 &&& 255) 8) + (fX9_bit (p0 &&& 255) 4)) + (fX9_bit (p0 &&& 255) 3)) + (fX9_bit (p0 &&& 255) 2)) / 2 * 2)))) + (1 - (((((fX9_bit (p0 &&& 255) 6) + (fX9_bit (p0 &&& 255) 5)) + (fX9_bit (p0 &&& 255) 4)) + (fX9_bit (p0 &&& 255) 2)) - ((((fX9_bit (p0 &&& 255) 6) + (fX9_bit (p0 &&& 255) 5)) + (fX9_bit (p0 &&& 255) 4)) + (fX9_bit (p0 &&& 255) 2)) / 2 * 2))) 2 q1.2 hf
                · rw [if_pos c9] at hf
                  refine mm_bipush (v := 8) dX9_guard_196 (by decide) ?_
                  refine mm_goto (tgt := 202) dX9_guard_198 (by decide) ?_
                  refine mm_sub [5, 4, 3, 2, 1, 0] rfl ?_
                  exact kX9_guard_202  p0 (p0 &&& 255) (1 - (((((fX9_bit (p0 &&& 255) 8) + (fX9_bit (p0 &&& 255) 6)) + (fX9_bit (p0 &&& 255) 2)) + (fX9_bit (p0 &&& 255) 1)) - ((((fX9_bit (p0 &&& 255) 8) + (fX9_bit (p0 &&& 255) 6)) + (fX9_bit (p0 &&& 255) 2)) + (fX9_bit (p0 &&& 255) 1)) / 2 * 2)) (1 - (((((fX9_bit (p0 &&& 255) 8) + (fX9_bit (p0 &&& 255) 4)) + (fX9_bit (p0 &&& 255) 3)) + (fX9_bit (p0 &&& 255) 2)) - ((((fX9_bit (p0 &&& 255) 8) + (fX9_bit (p0 &&& 255) 4)) + (fX9_bit (p0 &&& 255) 3)) + (fX9_bit (p0 &&& 255) 2)) / 2 * 2)) (1 - (((((fX9_bit (p0 &&& 255) 6) + (fX9_bit (p0 &&& 255) 5)) + (fX9_bit (p0 &&& 255) 4)) + (fX9_bit (p0 &&& 255) 2)) - ((((fX9_bit (p0 &&& 255) 6) + (fX9_bit (p0 &&& 255) 5)) + (fX9_bit (p0 &&& 255) 4)) + (fX9_bit (p0 &&& 255) 2)) / 2 * 2)) (((4 * (1 - (((((fX9_bit (p0 &&& 255) 8) + (fX9_bit (p0 &&& 255) 6)) + (fX9_bit (p0 &&& 255) 2)) + (fX9_bit (p0 &&& 255) 1)) - ((((fX9_bit (p0 &&& 255) 8) + (fX9_bit (p0 &&& 255) 6)) + (fX9_bit (p0 &&& 255) 2)) + (fX9_bit (p0 &&& 255) 1)) / 2 * 2))) + (2 * (1 - (((((fX9_bit (p0 &&& 255) 8) + (fX9_bit (p0 &&& 255) 4)) + (fX9_bit (p0 &&& 255) 3)) + (fX9_bit (p0 &&& 255) 2)) - ((((fX9_bit (p0 &&& 255) 8) + (fX9_bit (p0 &&& 255) 4)) + (fX9_bit (p0 &&& 255) 3)) + (fX9_bit (p0 &&& 255) 2)) / 2 * 2)))) + (1 - (((((fX9_bit (p0 &&& 255) 6) + (fX9_bit (p0 &&& 255) 5)) + (fX9_bit (p0 &&& 255) 4)) + (fX9_bit (p0 &&& 255) 2)) - ((((fX9_bit (p0 &&& 255) 6) + (fX9_bit (p0 &&& 255) 5)) + (fX9_bit (p0 &&& 255) 4)) + (fX9_bit (p0 &&& 255) 2)) / 2 * 2))) 8 q1.2 hf
              · rw [if_pos c8] at hf
                refine mm_bipush (v := 6) dX9_guard_184 (by decide) ?_
                refine mm_goto (tgt := 202) dX9_guard_186 (by decide) ?_
                refine mm_sub [5, 4, 3, 2, 1, 0] rfl ?_
                exact kX9_guard_202  p0 (p0 &&& 255) (1 - (((((fX9_bit (p0 &&& 255) 8) + (fX9_bit (p0 &&& 255) 6)) + (fX9_bit (p0 &&& 255) 2)) + (fX9_bit (p0 &&& 255) 1)) - ((((fX9_bit (p0 &&& 255) 8) + (fX9_bit (p0 &&& 255) 6)) + (fX9_bit (p0 &&& 255) 2)) + (fX9_bit (p0 &&& 255) 1)) / 2 * 2)) (1 - (((((fX9_bit (p0 &&& 255) 8) + (fX9_bit (p0 &&& 255) 4)) + (fX9_bit (p0 &&& 255) 3)) + (fX9_bit (p0 &&& 255) 2)) - ((((fX9_bit (p0 &&& 255) 8) + (fX9_bit (p0 &&& 255) 4)) + (fX9_bit (p0 &&& 255) 3)) + (fX9_bit (p0 &&& 255) 2)) / 2 * 2)) (1 - (((((fX9_bit (p0 &&& 255) 6) + (fX9_bit (p0 &&& 255) 5)) + (fX9_bit (p0 &&& 255) 4)) + (fX9_bit (p0 &&& 255) 2)) - ((((fX9_bit (p0 &&& 255) 6) + (fX9_bit (p0 &&& 255) 5)) + (fX9_bit (p0 &&& 255) 4)) + (fX9_bit (p0 &&& 255) 2)) / 2 * 2)) (((4 * (1 - (((((fX9_bit (p0 &&& 255) 8) + (fX9_bit (p0 &&& 255) 6)) + (fX9_bit (p0 &&& 255) 2)) + (fX9_bit (p0 &&& 255) 1)) - ((((fX9_bit (p0 &&& 255) 8) + (fX9_bit (p0 &&& 255) 6)) + (fX9_bit (p0 &&& 255) 2)) + (fX9_bit (p0 &&& 255) 1)) / 2 * 2))) + (2 * (1 - (((((fX9_bit (p0 &&& 255) 8) + (fX9_bit (p0 &&& 255) 4)) + (fX9_bit (p0 &&& 255) 3)) + (fX9_bit (p0 &&& 255) 2)) - ((((fX9_bit (p0 &&& 255) 8) + (fX9_bit (p0 &&& 255) 4)) + (fX9_bit (p0 &&& 255) 3)) + (fX9_bit (p0 &&& 255) 2)) / 2 * 2)))) + (1 - (((((fX9_bit (p0 &&& 255) 6) + (fX9_bit (p0 &&& 255) 5)) + (fX9_bit (p0 &&& 255) 4)) + (fX9_bit (p0 &&& 255) 2)) - ((((fX9_bit (p0 &&& 255) 6) + (fX9_bit (p0 &&& 255) 5)) + (fX9_bit (p0 &&& 255) 4)) + (fX9_bit (p0 &&& 255) 2)) / 2 * 2))) 6 q1.2 hf
            · rw [if_pos c7] at hf
              refine mm_iconst (v := 1) dX9_guard_174 (by decide) ?_
              refine mm_goto (tgt := 202) dX9_guard_175 (by decide) ?_
              refine mm_sub [5, 4, 3, 2, 1, 0] rfl ?_
              exact kX9_guard_202  p0 (p0 &&& 255) (1 - (((((fX9_bit (p0 &&& 255) 8) + (fX9_bit (p0 &&& 255) 6)) + (fX9_bit (p0 &&& 255) 2)) + (fX9_bit (p0 &&& 255) 1)) - ((((fX9_bit (p0 &&& 255) 8) + (fX9_bit (p0 &&& 255) 6)) + (fX9_bit (p0 &&& 255) 2)) + (fX9_bit (p0 &&& 255) 1)) / 2 * 2)) (1 - (((((fX9_bit (p0 &&& 255) 8) + (fX9_bit (p0 &&& 255) 4)) + (fX9_bit (p0 &&& 255) 3)) + (fX9_bit (p0 &&& 255) 2)) - ((((fX9_bit (p0 &&& 255) 8) + (fX9_bit (p0 &&& 255) 4)) + (fX9_bit (p0 &&& 255) 3)) + (fX9_bit (p0 &&& 255) 2)) / 2 * 2)) (1 - (((((fX9_bit (p0 &&& 255) 6) + (fX9_bit (p0 &&& 255) 5)) + (fX9_bit (p0 &&& 255) 4)) + (fX9_bit (p0 &&& 255) 2)) - ((((fX9_bit (p0 &&& 255) 6) + (fX9_bit (p0 &&& 255) 5)) + (fX9_bit (p0 &&& 255) 4)) + (fX9_bit (p0 &&& 255) 2)) / 2 * 2)) (((4 * (1 - (((((fX9_bit (p0 &&& 255) 8) + (fX9_bit (p0 &&& 255) 6)) + (fX9_bit (p0 &&& 255) 2)) + (fX9_bit (p0 &&& 255) 1)) - ((((fX9_bit (p0 &&& 255) 8) + (fX9_bit (p0 &&& 255) 6)) + (fX9_bit (p0 &&& 255) 2)) + (fX9_bit (p0 &&& 255) 1)) / 2 * 2))) + (2 * (1 - (((((fX9_bit (p0 &&& 255) 8) + (fX9_bit (p0 &&& 255) 4)) + (fX9_bit (p0 &&& 255) 3)) + (fX9_bit (p0 &&& 255) 2)) - ((((fX9_bit (p0 &&& 255) 8) + (fX9_bit (p0 &&& 255) 4)) + (fX9_bit (p0 &&& 255) 3)) + (fX9_bit (p0 &&& 255) 2)) / 2 * 2)))) + (1 - (((((fX9_bit (p0 &&& 255) 6) + (fX9_bit (p0 &&& 255) 5)) + (fX9_bit (p0 &&& 255) 4)) + (fX9_bit (p0 &&& 255) 2)) - ((((fX9_bit (p0 &&& 255) 6) + (fX9_bit (p0 &&& 255) 5)) + (fX9_bit (p0 &&& 255) 4)) + (fX9_bit (p0 &&& 255) 2)) / 2 * 2))) 1 q1.2 hf
          · rw [if_pos c6] at hf
            refine mm_iconst (v := 4) dX9_guard_164 (by decide) ?_
            refine mm_goto (tgt := 202) dX9_guard_165 (by decide) ?_
            refine mm_sub [5, 4, 3, 2, 1, 0] rfl ?_
            exact kX9_guard_202  p0 (p0 &&& 255) (1 - (((((fX9_bit (p0 &&& 255) 8) + (fX9_bit (p0 &&& 255) 6)) + (fX9_bit (p0 &&& 255) 2)) + (fX9_bit (p0 &&& 255) 1)) - ((((fX9_bit (p0 &&& 255) 8) + (fX9_bit (p0 &&& 255) 6)) + (fX9_bit (p0 &&& 255) 2)) + (fX9_bit (p0 &&& 255) 1)) / 2 * 2)) (1 - (((((fX9_bit (p0 &&& 255) 8) + (fX9_bit (p0 &&& 255) 4)) + (fX9_bit (p0 &&& 255) 3)) + (fX9_bit (p0 &&& 255) 2)) - ((((fX9_bit (p0 &&& 255) 8) + (fX9_bit (p0 &&& 255) 4)) + (fX9_bit (p0 &&& 255) 3)) + (fX9_bit (p0 &&& 255) 2)) / 2 * 2)) (1 - (((((fX9_bit (p0 &&& 255) 6) + (fX9_bit (p0 &&& 255) 5)) + (fX9_bit (p0 &&& 255) 4)) + (fX9_bit (p0 &&& 255) 2)) - ((((fX9_bit (p0 &&& 255) 6) + (fX9_bit (p0 &&& 255) 5)) + (fX9_bit (p0 &&& 255) 4)) + (fX9_bit (p0 &&& 255) 2)) / 2 * 2)) (((4 * (1 - (((((fX9_bit (p0 &&& 255) 8) + (fX9_bit (p0 &&& 255) 6)) + (fX9_bit (p0 &&& 255) 2)) + (fX9_bit (p0 &&& 255) 1)) - ((((fX9_bit (p0 &&& 255) 8) + (fX9_bit (p0 &&& 255) 6)) + (fX9_bit (p0 &&& 255) 2)) + (fX9_bit (p0 &&& 255) 1)) / 2 * 2))) + (2 * (1 - (((((fX9_bit (p0 &&& 255) 8) + (fX9_bit (p0 &&& 255) 4)) + (fX9_bit (p0 &&& 255) 3)) + (fX9_bit (p0 &&& 255) 2)) - ((((fX9_bit (p0 &&& 255) 8) + (fX9_bit (p0 &&& 255) 4)) + (fX9_bit (p0 &&& 255) 3)) + (fX9_bit (p0 &&& 255) 2)) / 2 * 2)))) + (1 - (((((fX9_bit (p0 &&& 255) 6) + (fX9_bit (p0 &&& 255) 5)) + (fX9_bit (p0 &&& 255) 4)) + (fX9_bit (p0 &&& 255) 2)) - ((((fX9_bit (p0 &&& 255) 6) + (fX9_bit (p0 &&& 255) 5)) + (fX9_bit (p0 &&& 255) 4)) + (fX9_bit (p0 &&& 255) 2)) / 2 * 2))) 4 q1.2 hf
        · rw [if_pos c5] at hf
          refine mm_iconst (v := 3) dX9_guard_154 (by decide) ?_
          refine mm_goto (tgt := 202) dX9_guard_155 (by decide) ?_
          refine mm_sub [5, 4, 3, 2, 1, 0] rfl ?_
          exact kX9_guard_202  p0 (p0 &&& 255) (1 - (((((fX9_bit (p0 &&& 255) 8) + (fX9_bit (p0 &&& 255) 6)) + (fX9_bit (p0 &&& 255) 2)) + (fX9_bit (p0 &&& 255) 1)) - ((((fX9_bit (p0 &&& 255) 8) + (fX9_bit (p0 &&& 255) 6)) + (fX9_bit (p0 &&& 255) 2)) + (fX9_bit (p0 &&& 255) 1)) / 2 * 2)) (1 - (((((fX9_bit (p0 &&& 255) 8) + (fX9_bit (p0 &&& 255) 4)) + (fX9_bit (p0 &&& 255) 3)) + (fX9_bit (p0 &&& 255) 2)) - ((((fX9_bit (p0 &&& 255) 8) + (fX9_bit (p0 &&& 255) 4)) + (fX9_bit (p0 &&& 255) 3)) + (fX9_bit (p0 &&& 255) 2)) / 2 * 2)) (1 - (((((fX9_bit (p0 &&& 255) 6) + (fX9_bit (p0 &&& 255) 5)) + (fX9_bit (p0 &&& 255) 4)) + (fX9_bit (p0 &&& 255) 2)) - ((((fX9_bit (p0 &&& 255) 6) + (fX9_bit (p0 &&& 255) 5)) + (fX9_bit (p0 &&& 255) 4)) + (fX9_bit (p0 &&& 255) 2)) / 2 * 2)) (((4 * (1 - (((((fX9_bit (p0 &&& 255) 8) + (fX9_bit (p0 &&& 255) 6)) + (fX9_bit (p0 &&& 255) 2)) + (fX9_bit (p0 &&& 255) 1)) - ((((fX9_bit (p0 &&& 255) 8) + (fX9_bit (p0 &&& 255) 6)) + (fX9_bit (p0 &&& 255) 2)) + (fX9_bit (p0 &&& 255) 1)) / 2 * 2))) + (2 * (1 - (((((fX9_bit (p0 &&& 255) 8) + (fX9_bit (p0 &&& 255) 4)) + (fX9_bit (p0 &&& 255) 3)) + (fX9_bit (p0 &&& 255) 2)) - ((((fX9_bit (p0 &&& 255) 8) + (fX9_bit (p0 &&& 255) 4)) + (fX9_bit (p0 &&& 255) 3)) + (fX9_bit (p0 &&& 255) 2)) / 2 * 2)))) + (1 - (((((fX9_bit (p0 &&& 255) 6) + (fX9_bit (p0 &&& 255) 5)) + (fX9_bit (p0 &&& 255) 4)) + (fX9_bit (p0 &&& 255) 2)) - ((((fX9_bit (p0 &&& 255) 6) + (fX9_bit (p0 &&& 255) 5)) + (fX9_bit (p0 &&& 255) 4)) + (fX9_bit (p0 &&& 255) 2)) / 2 * 2))) 3 q1.2 hf
      · rw [if_pos c4] at hf
        refine mm_iconst (v := 5) dX9_guard_144 (by decide) ?_
        refine mm_goto (tgt := 202) dX9_guard_145 (by decide) ?_
        refine mm_sub [5, 4, 3, 2, 1, 0] rfl ?_
        exact kX9_guard_202  p0 (p0 &&& 255) (1 - (((((fX9_bit (p0 &&& 255) 8) + (fX9_bit (p0 &&& 255) 6)) + (fX9_bit (p0 &&& 255) 2)) + (fX9_bit (p0 &&& 255) 1)) - ((((fX9_bit (p0 &&& 255) 8) + (fX9_bit (p0 &&& 255) 6)) + (fX9_bit (p0 &&& 255) 2)) + (fX9_bit (p0 &&& 255) 1)) / 2 * 2)) (1 - (((((fX9_bit (p0 &&& 255) 8) + (fX9_bit (p0 &&& 255) 4)) + (fX9_bit (p0 &&& 255) 3)) + (fX9_bit (p0 &&& 255) 2)) - ((((fX9_bit (p0 &&& 255) 8) + (fX9_bit (p0 &&& 255) 4)) + (fX9_bit (p0 &&& 255) 3)) + (fX9_bit (p0 &&& 255) 2)) / 2 * 2)) (1 - (((((fX9_bit (p0 &&& 255) 6) + (fX9_bit (p0 &&& 255) 5)) + (fX9_bit (p0 &&& 255) 4)) + (fX9_bit (p0 &&& 255) 2)) - ((((fX9_bit (p0 &&& 255) 6) + (fX9_bit (p0 &&& 255) 5)) + (fX9_bit (p0 &&& 255) 4)) + (fX9_bit (p0 &&& 255) 2)) / 2 * 2)) (((4 * (1 - (((((fX9_bit (p0 &&& 255) 8) + (fX9_bit (p0 &&& 255) 6)) + (fX9_bit (p0 &&& 255) 2)) + (fX9_bit (p0 &&& 255) 1)) - ((((fX9_bit (p0 &&& 255) 8) + (fX9_bit (p0 &&& 255) 6)) + (fX9_bit (p0 &&& 255) 2)) + (fX9_bit (p0 &&& 255) 1)) / 2 * 2))) + (2 * (1 - (((((fX9_bit (p0 &&& 255) 8) + (fX9_bit (p0 &&& 255) 4)) + (fX9_bit (p0 &&& 255) 3)) + (fX9_bit (p0 &&& 255) 2)) - ((((fX9_bit (p0 &&& 255) 8) + (fX9_bit (p0 &&& 255) 4)) + (fX9_bit (p0 &&& 255) 3)) + (fX9_bit (p0 &&& 255) 2)) / 2 * 2)))) + (1 - (((((fX9_bit (p0 &&& 255) 6) + (fX9_bit (p0 &&& 255) 5)) + (fX9_bit (p0 &&& 255) 4)) + (fX9_bit (p0 &&& 255) 2)) - ((((fX9_bit (p0 &&& 255) 6) + (fX9_bit (p0 &&& 255) 5)) + (fX9_bit (p0 &&& 255) 4)) + (fX9_bit (p0 &&& 255) 2)) / 2 * 2))) 5 q1.2 hf
    · rw [if_pos c3] at hf
      refine mm_bipush (v := 7) dX9_guard_133 (by decide) ?_
      refine mm_goto (tgt := 202) dX9_guard_135 (by decide) ?_
      refine mm_sub [5, 4, 3, 2, 1, 0] rfl ?_
      exact kX9_guard_202  p0 (p0 &&& 255) (1 - (((((fX9_bit (p0 &&& 255) 8) + (fX9_bit (p0 &&& 255) 6)) + (fX9_bit (p0 &&& 255) 2)) + (fX9_bit (p0 &&& 255) 1)) - ((((fX9_bit (p0 &&& 255) 8) + (fX9_bit (p0 &&& 255) 6)) + (fX9_bit (p0 &&& 255) 2)) + (fX9_bit (p0 &&& 255) 1)) / 2 * 2)) (1 - (((((fX9_bit (p0 &&& 255) 8) + (fX9_bit (p0 &&& 255) 4)) + (fX9_bit (p0 &&& 255) 3)) + (fX9_bit (p0 &&& 255) 2)) - ((((fX9_bit (p0 &&& 255) 8) + (fX9_bit (p0 &&& 255) 4)) + (fX9_bit (p0 &&& 255) 3)) + (fX9_bit (p0 &&& 255) 2)) / 2 * 2)) (1 - (((((fX9_bit (p0 &&& 255) 6) + (fX9_bit (p0 &&& 255) 5)) + (fX9_bit (p0 &&& 255) 4)) + (fX9_bit (p0 &&& 255) 2)) - ((((fX9_bit (p0 &&& 255) 6) + (fX9_bit (p0 &&& 255) 5)) + (fX9_bit (p0 &&& 255) 4)) + (fX9_bit (p0 &&& 255) 2)) / 2 * 2)) (((4 * (1 - (((((fX9_bit (p0 &&& 255) 8) + (fX9_bit (p0 &&& 255) 6)) + (fX9_bit (p0 &&& 255) 2)) + (fX9_bit (p0 &&& 255) 1)) - ((((fX9_bit (p0 &&& 255) 8) + (fX9_bit (p0 &&& 255) 6)) + (fX9_bit (p0 &&& 255) 2)) + (fX9_bit (p0 &&& 255) 1)) / 2 * 2))) + (2 * (1 - (((((fX9_bit (p0 &&& 255) 8) + (fX9_bit (p0 &&& 255) 4)) + (fX9_bit (p0 &&& 255) 3)) + (fX9_bit (p0 &&& 255) 2)) - ((((fX9_bit (p0 &&& 255) 8) + (fX9_bit (p0 &&& 255) 4)) + (fX9_bit (p0 &&& 255) 3)) + (fX9_bit (p0 &&& 255) 2)) / 2 * 2)))) + (1 - (((((fX9_bit (p0 &&& 255) 6) + (fX9_bit (p0 &&& 255) 5)) + (fX9_bit (p0 &&& 255) 4)) + (fX9_bit (p0 &&& 255) 2)) - ((((fX9_bit (p0 &&& 255) 6) + (fX9_bit (p0 &&& 255) 5)) + (fX9_bit (p0 &&& 255) 4)) + (fX9_bit (p0 &&& 255) 2)) / 2 * 2))) 7 q1.2 hf
  · rw [if_neg c2] at hf
    refine mm_iload (j := 0) dX9_guard_114 rfl ?_
    refine mm_if_ne (tgt := 126) dX9_guard_116 (by decide) (fun c10 => ?_) (fun c10 => ?_)
    · rw [if_neg c10] at hf
      refine mm_iconst (v := (-1)) dX9_guard_126 (by decide) ?_
      cases hf
      refine mm_widen (ck' := rmX9_guard.cells) (sk' := rmX9_guard.slots) (Nat.le_of_ble_eq_true rfl) (Nat.le_of_ble_eq_true rfl) ?_
      exact mm_iret rfl rfl dX9_guard_127 ⟨rfl, rfl⟩
    · rw [if_pos c10] at hf
      refine mm_iload_n (j := 4) dX9_guard_119 rfl rfl ?_
      refine mm_callSi cd_ok (kX9_valueOf (p0 &&& 255) _ rfl) (Or.inl tw_1024) cdX9_valueOf tw_1025 nmX9_valueOf rfl rfl (by simp only [List.map_cons, List.map_nil, mm_rf_cat]; exact Nat.le_of_ble_eq_true rfl) dX9_guard_120 ⟨Nat.le_of_ble_eq_true rfl, Nat.le_of_ble_eq_true rfl⟩ ⟨Nat.le_of_ble_eq_true rfl, Nat.le_of_ble_eq_true rfl⟩ ?_
      refine mm_goto (tgt := 127) dX9_guard_123 (by decide) ?_
      cases hf
      refine mm_widen (ck' := rmX9_guard.cells) (sk' := rmX9_guard.slots) (Nat.le_of_ble_eq_true rfl) (Nat.le_of_ble_eq_true rfl) ?_
      exact mm_iret rfl rfl dX9_guard_127 ⟨rfl, rfl⟩
theorem dX9_guarded_0 : decode cX9_guarded 0 = .ok (.aload_n 0, 1) := by decide +kernel
theorem dX9_guarded_1 : decode cX9_guarded 1 = .ok (.iconst 0, 1) := by decide +kernel
theorem dX9_guarded_2 : decode cX9_guarded 2 = .ok (.putfield 120, 3) := by decide +kernel
theorem dX9_guarded_5 : decode cX9_guarded 5 = .ok (.iload_n 1, 1) := by decide +kernel
theorem dX9_guarded_6 : decode cX9_guarded 6 = .ok (.invokestatic 187, 3) := by decide +kernel
theorem dX9_guarded_9 : decode cX9_guarded 9 = .ok (.ireturn, 1) := by decide +kernel
theorem nmX9_guarded : mm_nm yX9_guarded 1 := ⟨by decide, by decide, by decide +kernel⟩
theorem cdX9_guarded : mm_cd cd_Y yX9_guarded cX9_guarded 2 (some .int) := ⟨tw_1017, tw_8⟩
abbrev rmX9_guarded : Room := { frames := 3, cells := 0, slots := 0, locals := 67 }
def fX9_guarded (p0 : Nat) (p1 : Int32) (σ : mm_M) : Option (Int32 × mm_M) :=
  mm_sh σ p0 (.inl 9) (mm_let (mm_wI σ p0 0 0) fun s2 => mm_on (fX9_guard p1 s2) fun q3 => some (q3.1, q3.2))
set_option maxHeartbeats 4000000 in
set_option maxRecDepth 100000 in
theorem kX9_guarded {G : mm_G} {A : Nat → Prop} (p0 : Nat) (p1 : Int32) {σ : mm_M} {R : (Int32 × mm_M)} (hf : fX9_guarded p0 p1 σ = some R) : mm_C cd_Y G yX9_guarded cX9_guarded 2 (some .int) rmX9_guarded A [.ref p0, .int p1] σ (mm_Pi R.1 R.2) := by
  refine mm_C.of (by decide) (Nat.le_of_ble_eq_true rfl) ?_
  unfold fX9_guarded at hf
  have e0 : lv_args 0 [.ref p0, .int p1] = [(0, .ref p0), (1, .int p1)] := rfl
  rw [e0]
  generalize hini : ((yX9_guarded.name == "<init>"), none) = ini
  clear e0
  clear hini
  refine mm_aload_n (j := 0) dX9_guarded_0 rfl rfl ?_
  refine mm_iconst (v := 0) dX9_guarded_1 (by decide) ?_
  obtain ⟨hs1, hf⟩ := mm_sh_s hf
  refine mm_putI (c := 9) (k := 0) cd_ok ⟨_, _, _, rfl, by decide, rfl, Or.inl tw_794⟩ hs1 rfl rfl rfl dX9_guarded_2 ?_
  obtain ⟨s2, hs2, hf⟩ := mm_let_s hf
  rw [hs2]
  refine mm_iload_n (j := 1) dX9_guarded_5 rfl rfl ?_
  obtain ⟨q3, hq3, hf⟩ := mm_on_s hf
  refine mm_callSi cd_ok (kX9_guard p1 hq3) (Or.inl tw_1018) cdX9_guard tw_1019 nmX9_guard rfl rfl (by simp only [List.map_cons, List.map_nil, mm_rf_cat]; exact Nat.le_of_ble_eq_true rfl) dX9_guarded_6 ⟨Nat.le_of_ble_eq_true rfl, Nat.le_of_ble_eq_true rfl⟩ ⟨Nat.le_of_ble_eq_true rfl, Nat.le_of_ble_eq_true rfl⟩ ?_
  cases hf
  refine mm_widen (ck' := rmX9_guarded.cells) (sk' := rmX9_guarded.slots) (Nat.le_of_ble_eq_true rfl) (Nat.le_of_ble_eq_true rfl) ?_
  exact mm_iret rfl rfl dX9_guarded_9 ⟨rfl, rfl⟩
theorem dX9_feed_0 : decode cX9_feed 0 = .ok (.aload_n 0, 1) := by decide +kernel
theorem dX9_feed_1 : decode cX9_feed 1 = .ok (.aload_n 0, 1) := by decide +kernel
theorem dX9_feed_2 : decode cX9_feed 2 = .ok (.getfield 190, 3) := by decide +kernel
theorem dX9_feed_5 : decode cX9_feed 5 = .ok (.bipush 20, 2) := by decide +kernel
theorem dX9_feed_7 : decode cX9_feed 7 = .ok (.iadd, 1) := by decide +kernel
theorem dX9_feed_8 : decode cX9_feed 8 = .ok (.bipush 60, 2) := by decide +kernel
theorem dX9_feed_10 : decode cX9_feed 10 = .ok (.if_icmp .gt 7, 3) := by decide +kernel
theorem dX9_feed_13 : decode cX9_feed 13 = .ok (.iconst 1, 1) := by decide +kernel
theorem dX9_feed_14 : decode cX9_feed 14 = .ok (.goto 4, 3) := by decide +kernel
theorem dX9_feed_17 : decode cX9_feed 17 = .ok (.iconst 0, 1) := by decide +kernel
theorem dX9_feed_18 : decode cX9_feed 18 = .ok (.invokevirtual 169, 3) := by decide +kernel
theorem dX9_feed_21 : decode cX9_feed 21 = .ok (.ifCond .ne 5, 3) := by decide +kernel
theorem dX9_feed_24 : decode cX9_feed 24 = .ok (.iconst 0, 1) := by decide +kernel
theorem dX9_feed_25 : decode cX9_feed 25 = .ok (.ireturn, 1) := by decide +kernel
theorem dX9_feed_26 : decode cX9_feed 26 = .ok (.iconst 0, 1) := by decide +kernel
theorem dX9_feed_27 : decode cX9_feed 27 = .ok (.istore 6, 2) := by decide +kernel
theorem dX9_feed_29 : decode cX9_feed 29 = .ok (.iload 6, 2) := by decide +kernel
theorem dX9_feed_31 : decode cX9_feed 31 = .ok (.bipush 20, 2) := by decide +kernel
theorem dX9_feed_33 : decode cX9_feed 33 = .ok (.if_icmp .ge 90, 3) := by decide +kernel
theorem dX9_feed_36 : decode cX9_feed 36 = .ok (.iload 6, 2) := by decide +kernel
theorem dX9_feed_38 : decode cX9_feed 38 = .ok (.iconst 4, 1) := by decide +kernel
theorem dX9_feed_39 : decode cX9_feed 39 = .ok (.if_icmp .ge 7, 3) := by decide +kernel
theorem dX9_feed_42 : decode cX9_feed 42 = .ok (.iload_n 1, 1) := by decide +kernel
theorem dX9_feed_43 : decode cX9_feed 43 = .ok (.goto 39, 3) := by decide +kernel
theorem dX9_feed_46 : decode cX9_feed 46 = .ok (.iload 6, 2) := by decide +kernel
theorem dX9_feed_48 : decode cX9_feed 48 = .ok (.bipush 8, 2) := by decide +kernel
theorem dX9_feed_50 : decode cX9_feed 50 = .ok (.if_icmp .ge 7, 3) := by decide +kernel
theorem dX9_feed_53 : decode cX9_feed 53 = .ok (.iload_n 2, 1) := by decide +kernel
theorem dX9_feed_54 : decode cX9_feed 54 = .ok (.goto 28, 3) := by decide +kernel
theorem dX9_feed_57 : decode cX9_feed 57 = .ok (.iload 6, 2) := by decide +kernel
theorem dX9_feed_59 : decode cX9_feed 59 = .ok (.bipush 12, 2) := by decide +kernel
theorem dX9_feed_61 : decode cX9_feed 61 = .ok (.if_icmp .ge 7, 3) := by decide +kernel
theorem dX9_feed_64 : decode cX9_feed 64 = .ok (.iload_n 3, 1) := by decide +kernel
theorem dX9_feed_65 : decode cX9_feed 65 = .ok (.goto 17, 3) := by decide +kernel
theorem dX9_feed_68 : decode cX9_feed 68 = .ok (.iload 6, 2) := by decide +kernel
theorem dX9_feed_70 : decode cX9_feed 70 = .ok (.bipush 16, 2) := by decide +kernel
theorem dX9_feed_72 : decode cX9_feed 72 = .ok (.if_icmp .ge 8, 3) := by decide +kernel
theorem dX9_feed_75 : decode cX9_feed 75 = .ok (.iload 4, 2) := by decide +kernel
theorem dX9_feed_77 : decode cX9_feed 77 = .ok (.goto 5, 3) := by decide +kernel
theorem dX9_feed_80 : decode cX9_feed 80 = .ok (.iload 5, 2) := by decide +kernel
theorem dX9_feed_82 : decode cX9_feed 82 = .ok (.istore 7, 2) := by decide +kernel
theorem dX9_feed_84 : decode cX9_feed 84 = .ok (.aload_n 0, 1) := by decide +kernel
theorem dX9_feed_85 : decode cX9_feed 85 = .ok (.getfield 40, 3) := by decide +kernel
theorem dX9_feed_88 : decode cX9_feed 88 = .ok (.aload_n 0, 1) := by decide +kernel
theorem dX9_feed_89 : decode cX9_feed 89 = .ok (.getfield 190, 3) := by decide +kernel
theorem dX9_feed_92 : decode cX9_feed 92 = .ok (.iload 7, 2) := by decide +kernel
theorem dX9_feed_94 : decode cX9_feed 94 = .ok (.bipush 24, 2) := by decide +kernel
theorem dX9_feed_96 : decode cX9_feed 96 = .ok (.bipush 8, 2) := by decide +kernel
theorem dX9_feed_98 : decode cX9_feed 98 = .ok (.iload 6, 2) := by decide +kernel
theorem dX9_feed_100 : decode cX9_feed 100 = .ok (.iconst 4, 1) := by decide +kernel
theorem dX9_feed_101 : decode cX9_feed 101 = .ok (.irem, 1) := by decide +kernel
theorem dX9_feed_102 : decode cX9_feed 102 = .ok (.imul, 1) := by decide +kernel
theorem dX9_feed_103 : decode cX9_feed 103 = .ok (.isub, 1) := by decide +kernel
theorem dX9_feed_104 : decode cX9_feed 104 = .ok (.ishr, 1) := by decide +kernel
theorem dX9_feed_105 : decode cX9_feed 105 = .ok (.i2b, 1) := by decide +kernel
theorem dX9_feed_106 : decode cX9_feed 106 = .ok (.bastore, 1) := by decide +kernel
theorem dX9_feed_107 : decode cX9_feed 107 = .ok (.aload_n 0, 1) := by decide +kernel
theorem dX9_feed_108 : decode cX9_feed 108 = .ok (.dup, 1) := by decide +kernel
theorem dX9_feed_109 : decode cX9_feed 109 = .ok (.getfield 190, 3) := by decide +kernel
theorem dX9_feed_112 : decode cX9_feed 112 = .ok (.iconst 1, 1) := by decide +kernel
theorem dX9_feed_113 : decode cX9_feed 113 = .ok (.iadd, 1) := by decide +kernel
theorem dX9_feed_114 : decode cX9_feed 114 = .ok (.putfield 190, 3) := by decide +kernel
theorem dX9_feed_117 : decode cX9_feed 117 = .ok (.iinc 6 1, 3) := by decide +kernel
theorem dX9_feed_120 : decode cX9_feed 120 = .ok (.goto (-91), 3) := by decide +kernel
theorem dX9_feed_123 : decode cX9_feed 123 = .ok (.aload_n 0, 1) := by decide +kernel
theorem dX9_feed_124 : decode cX9_feed 124 = .ok (.getfield 190, 3) := by decide +kernel
theorem dX9_feed_127 : decode cX9_feed 127 = .ok (.ireturn, 1) := by decide +kernel
theorem nmX9_feed : mm_nm yX9_feed 5 := ⟨by decide, by decide, by decide +kernel⟩
theorem cdX9_feed : mm_cd cd_Y yX9_feed cX9_feed 8 (some .int) := ⟨tw_1030, tw_8⟩
abbrev rmX9_feed : Room := { frames := 1, cells := 0, slots := 0, locals := 21 }
def fX9_feed_82 (k29 : Nat → Int32 → Int32 → Int32 → Int32 → Int32 → Int32 → mm_M → Option (Int32 × mm_M)) (a0 : Nat) (x1 : Int32) (x2 : Int32) (x3 : Int32) (x4 : Int32) (x5 : Int32) (x6 : Int32) (y0 : Int32) (σ : mm_M) : Option (Int32 × mm_M) :=
  mm_sh σ a0 (.inl 9) (mm_on (mm_R σ a0 11) fun q13 => mm_ar σ q13 2 fun n14 => mm_ib (mm_I σ a0 12) n14 (mm_let (mm_wI σ q13 ((mm_I σ a0 12).toNatClampNeg) (((y0 >>> (((24 - (8 * (x6 - x6 / 4 * 4))) : Int32) &&& 31)).toInt8.toInt32).toInt8.toInt32)) fun s16 => mm_let (mm_wI s16 a0 12 ((mm_I s16 a0 12) + 1)) fun s17 => (k29 a0 x1 x2 x3 x4 x5 (x6 + 1) s17)))
def fX9_feed_29  : Nat → Nat → Int32 → Int32 → Int32 → Int32 → Int32 → Int32 → mm_M → Option (Int32 × mm_M)
  | 0 => fun _ _ _ _ _ _ _ _ => none
  | n + 1 => fun a0 x1 x2 x3 x4 x5 x6 σ =>
  (if 20 ≤ x6 then mm_sh σ a0 (.inl 9) (some (mm_I σ a0 12, σ)) else (if 4 ≤ x6 then (if 8 ≤ x6 then (if 12 ≤ x6 then (if 16 ≤ x6 then (fX9_feed_82 (fX9_feed_29  n) a0 x1 x2 x3 x4 x5 x6 x5 σ) else (fX9_feed_82 (fX9_feed_29  n) a0 x1 x2 x3 x4 x5 x6 x4 σ)) else (fX9_feed_82 (fX9_feed_29  n) a0 x1 x2 x3 x4 x5 x6 x3 σ)) else (fX9_feed_82 (fX9_feed_29  n) a0 x1 x2 x3 x4 x5 x6 x2 σ)) else (fX9_feed_82 (fX9_feed_29  n) a0 x1 x2 x3 x4 x5 x6 x1 σ)))
def fX9_feed_18  (a0 : Nat) (x1 : Int32) (x2 : Int32) (x3 : Int32) (x4 : Int32) (x5 : Int32) (y0 : Int32) (y1 : Nat) (σ : mm_M) : Option (Int32 × mm_M) :=
  mm_sh σ y1 (.inl 9) (mm_on (fX9_goes y1 y0 σ) fun q4 => (if q4.1 = 0 then some (0, q4.2) else (fX9_feed_29  mm_fuel a0 x1 x2 x3 x4 x5 0 q4.2)))
def fX9_feed (p0 : Nat) (p1 : Int32) (p2 : Int32) (p3 : Int32) (p4 : Int32) (p5 : Int32) (σ : mm_M) : Option (Int32 × mm_M) :=
  mm_sh σ p0 (.inl 9) ((if 60 < ((mm_I σ p0 12) + 20) then (fX9_feed_18  p0 p1 p2 p3 p4 p5 0 p0 σ) else (fX9_feed_18  p0 p1 p2 p3 p4 p5 1 p0 σ)))
set_option maxHeartbeats 4000000 in
set_option maxRecDepth 100000 in
theorem kX9_feed_82 {G : mm_G} {A : Nat → Prop} {ini : Bool × Option (List (Nat × Nat × Nat × Nat))} {k29 : Nat → Int32 → Int32 → Int32 → Int32 → Int32 → Int32 → mm_M → Option (Int32 × mm_M)} {R : (Int32 × mm_M)} (hk29 : ∀ a0 x1 x2 x3 x4 x5 x6 σ, k29 a0 x1 x2 x3 x4 x5 x6 σ = some R → mm_J cd_Y G RX9 cX9_feed 8 (some .int) ini rmX9_feed A (mm_QF cd_Y G A (mm_Pi R.1 R.2) rmX9_feed.cells rmX9_feed.slots) 29 [(0, .ref a0), (1, .int x1), (2, .int x2), (3, .int x3), (4, .int x4), (5, .int x5), (6, .int x6)] [] σ 0 0) (a0 : Nat) (x1 : Int32) (x2 : Int32) (x3 : Int32) (x4 : Int32) (x5 : Int32) (x6 : Int32) (y0 : Int32) (σ : mm_M) (hf : fX9_feed_82 k29 a0 x1 x2 x3 x4 x5 x6 y0 σ = some R) : mm_J cd_Y G RX9 cX9_feed 8 (some .int) ini rmX9_feed A (mm_QF cd_Y G A (mm_Pi R.1 R.2) rmX9_feed.cells rmX9_feed.slots) 82 [(0, .ref a0), (1, .int x1), (2, .int x2), (3, .int x3), (4, .int x4), (5, .int x5), (6, .int x6)] [.int y0] σ 0 0 := by
  unfold fX9_feed_82 at hf
  refine mm_istore (L' := [(7, .int y0), (0, .ref a0), (1, .int x1), (2, .int x2), (3, .int x3), (4, .int x4), (5, .int x5), (6, .int x6)]) dX9_feed_82 (by decide) rfl ?_
  refine mm_aload_n (j := 1) dX9_feed_84 rfl rfl ?_
  obtain ⟨hs12, hf⟩ := mm_sh_s hf
  refine mm_get (c := 9) (k := 11) (v := va_rf (mm_R σ a0 11)) cd_ok ⟨_, _, _, rfl, by decide, Or.inl tw_805⟩ hs12 rfl dX9_feed_85 ?_
  refine mm_aload_n (j := 1) dX9_feed_88 rfl rfl ?_
  refine mm_get (c := 9) (k := 12) (v := .int (mm_I σ a0 12)) cd_ok ⟨_, _, _, rfl, by decide, Or.inl tw_806⟩ hs12 rfl dX9_feed_89 ?_
  refine mm_iload (j := 0) dX9_feed_92 rfl ?_
  refine mm_bipush (v := 24) dX9_feed_94 (by decide) ?_
  refine mm_bipush (v := 8) dX9_feed_96 (by decide) ?_
  refine mm_iload (j := 7) dX9_feed_98 rfl ?_
  refine mm_iconst (v := 4) dX9_feed_100 (by decide) ?_
  refine mm_irem dX9_feed_101 (by decide) ?_
  refine mm_imul dX9_feed_102 ?_
  refine mm_isub dX9_feed_103 ?_
  refine mm_ishr dX9_feed_104 ?_
  refine mm_i2b dX9_feed_105 ?_
  obtain ⟨q13, hq13, hf⟩ := mm_on_s hf
  rw [hq13, mm_rf_some]
  obtain ⟨n14, hn14, hf⟩ := mm_ar_s hf
  obtain ⟨hi15, hf⟩ := mm_ib_s hf
  refine mm_bast hn14 rfl hi15 dX9_feed_106 ?_
  obtain ⟨s16, hs16, hf⟩ := mm_let_s hf
  rw [hs16]
  refine mm_aload_n (j := 1) dX9_feed_107 rfl rfl ?_
  refine mm_dup dX9_feed_108 rfl ?_
  refine mm_get (c := 9) (k := 12) (v := .int (mm_I s16 a0 12)) cd_ok ⟨_, _, _, rfl, by decide, Or.inl tw_806⟩ (mm_ke hs16 hs12) rfl dX9_feed_109 ?_
  refine mm_iconst (v := 1) dX9_feed_112 (by decide) ?_
  refine mm_iadd dX9_feed_113 ?_
  refine mm_putI (c := 9) (k := 12) cd_ok ⟨_, _, _, rfl, by decide, rfl, Or.inl tw_806⟩ (mm_ke hs16 hs12) rfl rfl rfl dX9_feed_114 ?_
  obtain ⟨s17, hs17, hf⟩ := mm_let_s hf
  rw [hs17]
  refine mm_iinc (j := 7) (L' := [(6, .int (x6 + 1)), (7, .int y0), (0, .ref a0), (1, .int x1), (2, .int x2), (3, .int x3), (4, .int x4), (5, .int x5)]) dX9_feed_117 rfl rfl (by decide) rfl ?_
  refine mm_goto (tgt := 29) dX9_feed_120 (by decide) ?_
  refine mm_sub [2, 3, 4, 5, 6, 7, 0] rfl ?_
  exact hk29 a0 x1 x2 x3 x4 x5 (x6 + 1) s17 hf
set_option maxHeartbeats 4000000 in
set_option maxRecDepth 100000 in
theorem kX9_feed_29 {G : mm_G} {A : Nat → Prop} {ini : Bool × Option (List (Nat × Nat × Nat × Nat))}  {R : (Int32 × mm_M)}  : ∀ (a0 : Nat) (x1 : Int32) (x2 : Int32) (x3 : Int32) (x4 : Int32) (x5 : Int32) (x6 : Int32) (σ : mm_M), fX9_feed_29  mm_fuel a0 x1 x2 x3 x4 x5 x6 σ = some R → mm_J cd_Y G RX9 cX9_feed 8 (some .int) ini rmX9_feed A (mm_QF cd_Y G A (mm_Pi R.1 R.2) rmX9_feed.cells rmX9_feed.slots) 29 [(0, .ref a0), (1, .int x1), (2, .int x2), (3, .int x3), (4, .int x4), (5, .int x5), (6, .int x6)] [] σ 0 0 := by
  generalize mm_fuel = n
  induction n with
  | zero => intro a0 x1 x2 x3 x4 x5 x6 σ hf; cases hf
  | succ n ih =>
    intro a0 x1 x2 x3 x4 x5 x6 σ hf
    unfold fX9_feed_29 at hf
    refine mm_iload (j := 6) dX9_feed_29 rfl ?_
    refine mm_bipush (v := 20) dX9_feed_31 (by decide) ?_
    refine mm_icmp_ge (tgt := 123) dX9_feed_33 (by decide) (fun c6 => ?_) (fun c6 => ?_)
    · rw [if_pos c6] at hf
      refine mm_aload_n (j := 0) dX9_feed_123 rfl rfl ?_
      obtain ⟨hs7, hf⟩ := mm_sh_s hf
      refine mm_get (c := 9) (k := 12) (v := .int (mm_I σ a0 12)) cd_ok ⟨_, _, _, rfl, by decide, Or.inl tw_806⟩ hs7 rfl dX9_feed_124 ?_
      cases hf
      refine mm_widen (ck' := rmX9_feed.cells) (sk' := rmX9_feed.slots) (Nat.le_of_ble_eq_true rfl) (Nat.le_of_ble_eq_true rfl) ?_
      exact mm_iret rfl rfl dX9_feed_127 ⟨rfl, rfl⟩
    · rw [if_neg c6] at hf
      refine mm_iload (j := 6) dX9_feed_36 rfl ?_
      refine mm_iconst (v := 4) dX9_feed_38 (by decide) ?_
      refine mm_icmp_ge (tgt := 46) dX9_feed_39 (by decide) (fun c8 => ?_) (fun c8 => ?_)
      · rw [if_pos c8] at hf
        refine mm_iload (j := 6) dX9_feed_46 rfl ?_
        refine mm_bipush (v := 8) dX9_feed_48 (by decide) ?_
        refine mm_icmp_ge (tgt := 57) dX9_feed_50 (by decide) (fun c9 => ?_) (fun c9 => ?_)
        · rw [if_pos c9] at hf
          refine mm_iload (j := 6) dX9_feed_57 rfl ?_
          refine mm_bipush (v := 12) dX9_feed_59 (by decide) ?_
          refine mm_icmp_ge (tgt := 68) dX9_feed_61 (by decide) (fun c10 => ?_) (fun c10 => ?_)
          · rw [if_pos c10] at hf
            refine mm_iload (j := 6) dX9_feed_68 rfl ?_
            refine mm_bipush (v := 16) dX9_feed_70 (by decide) ?_
            refine mm_icmp_ge (tgt := 80) dX9_feed_72 (by decide) (fun c11 => ?_) (fun c11 => ?_)
            · rw [if_pos c11] at hf
              refine mm_iload (j := 5) dX9_feed_80 rfl ?_
              refine mm_sub [0, 1, 2, 3, 4, 5, 6] rfl ?_
              exact kX9_feed_82 ih a0 x1 x2 x3 x4 x5 x6 x5 σ hf
            · rw [if_neg c11] at hf
              refine mm_iload (j := 4) dX9_feed_75 rfl ?_
              refine mm_goto (tgt := 82) dX9_feed_77 (by decide) ?_
              refine mm_sub [0, 1, 2, 3, 4, 5, 6] rfl ?_
              exact kX9_feed_82 ih a0 x1 x2 x3 x4 x5 x6 x4 σ hf
          · rw [if_neg c10] at hf
            refine mm_iload_n (j := 3) dX9_feed_64 rfl rfl ?_
            refine mm_goto (tgt := 82) dX9_feed_65 (by decide) ?_
            refine mm_sub [0, 1, 2, 3, 4, 5, 6] rfl ?_
            exact kX9_feed_82 ih a0 x1 x2 x3 x4 x5 x6 x3 σ hf
        · rw [if_neg c9] at hf
          refine mm_iload_n (j := 2) dX9_feed_53 rfl rfl ?_
          refine mm_goto (tgt := 82) dX9_feed_54 (by decide) ?_
          refine mm_sub [0, 1, 2, 3, 4, 5, 6] rfl ?_
          exact kX9_feed_82 ih a0 x1 x2 x3 x4 x5 x6 x2 σ hf
      · rw [if_neg c8] at hf
        refine mm_iload_n (j := 1) dX9_feed_42 rfl rfl ?_
        refine mm_goto (tgt := 82) dX9_feed_43 (by decide) ?_
        refine mm_sub [0, 1, 2, 3, 4, 5, 6] rfl ?_
        exact kX9_feed_82 ih a0 x1 x2 x3 x4 x5 x6 x1 σ hf
set_option maxHeartbeats 4000000 in
set_option maxRecDepth 100000 in
theorem kX9_feed_18 {G : mm_G} {A : Nat → Prop} {ini : Bool × Option (List (Nat × Nat × Nat × Nat))}  {R : (Int32 × mm_M)}  (a0 : Nat) (x1 : Int32) (x2 : Int32) (x3 : Int32) (x4 : Int32) (x5 : Int32) (y0 : Int32) (y1 : Nat) (σ : mm_M) (hf : fX9_feed_18  a0 x1 x2 x3 x4 x5 y0 y1 σ = some R) : mm_J cd_Y G RX9 cX9_feed 8 (some .int) ini rmX9_feed A (mm_QF cd_Y G A (mm_Pi R.1 R.2) rmX9_feed.cells rmX9_feed.slots) 18 [(0, .ref a0), (1, .int x1), (2, .int x2), (3, .int x3), (4, .int x4), (5, .int x5)] [.int y0, .ref y1] σ 0 0 := by
  unfold fX9_feed_18 at hf
  obtain ⟨hs3, hf⟩ := mm_sh_s hf
  obtain ⟨q4, hq4, hf⟩ := mm_on_s hf
  refine mm_callVi cd_ok (kX9_goes y1 y0 hq4) hs3 rfl (Or.inl tw_944) cdX9_goes tw_946 ts_31 nmX9_goes rfl rfl (by simp only [List.map_cons, List.map_nil, mm_rf_cat]; exact Nat.le_of_ble_eq_true rfl) dX9_feed_18 ⟨Nat.le_of_ble_eq_true rfl, Nat.le_of_ble_eq_true rfl⟩ ⟨Nat.le_of_ble_eq_true rfl, Nat.le_of_ble_eq_true rfl⟩ ?_
  refine mm_if_ne (tgt := 26) dX9_feed_21 (by decide) (fun c5 => ?_) (fun c5 => ?_)
  · rw [if_neg c5] at hf
    refine mm_iconst (v := 0) dX9_feed_26 (by decide) ?_
    refine mm_istore (L' := [(6, .int 0), (0, .ref a0), (1, .int x1), (2, .int x2), (3, .int x3), (4, .int x4), (5, .int x5)]) dX9_feed_27 (by decide) rfl ?_
    refine mm_sub [1, 2, 3, 4, 5, 6, 0] rfl ?_
    exact kX9_feed_29  a0 x1 x2 x3 x4 x5 0 q4.2 hf
  · rw [if_pos c5] at hf
    refine mm_iconst (v := 0) dX9_feed_24 (by decide) ?_
    cases hf
    refine mm_widen (ck' := rmX9_feed.cells) (sk' := rmX9_feed.slots) (Nat.le_of_ble_eq_true rfl) (Nat.le_of_ble_eq_true rfl) ?_
    exact mm_iret rfl rfl dX9_feed_25 ⟨rfl, rfl⟩
set_option maxHeartbeats 4000000 in
set_option maxRecDepth 100000 in
theorem kX9_feed {G : mm_G} {A : Nat → Prop} (p0 : Nat) (p1 : Int32) (p2 : Int32) (p3 : Int32) (p4 : Int32) (p5 : Int32) {σ : mm_M} {R : (Int32 × mm_M)} (hf : fX9_feed p0 p1 p2 p3 p4 p5 σ = some R) : mm_C cd_Y G yX9_feed cX9_feed 8 (some .int) rmX9_feed A [.ref p0, .int p1, .int p2, .int p3, .int p4, .int p5] σ (mm_Pi R.1 R.2) := by
  refine mm_C.of (by decide) (Nat.le_of_ble_eq_true rfl) ?_
  unfold fX9_feed at hf
  have e0 : lv_args 0 [.ref p0, .int p1, .int p2, .int p3, .int p4, .int p5] = [(0, .ref p0), (1, .int p1), (2, .int p2), (3, .int p3), (4, .int p4), (5, .int p5)] := rfl
  rw [e0]
  generalize hini : ((yX9_feed.name == "<init>"), none) = ini
  clear e0
  clear hini
  refine mm_aload_n (j := 0) dX9_feed_0 rfl rfl ?_
  refine mm_aload_n (j := 0) dX9_feed_1 rfl rfl ?_
  obtain ⟨hs1, hf⟩ := mm_sh_s hf
  refine mm_get (c := 9) (k := 12) (v := .int (mm_I σ p0 12)) cd_ok ⟨_, _, _, rfl, by decide, Or.inl tw_806⟩ hs1 rfl dX9_feed_2 ?_
  refine mm_bipush (v := 20) dX9_feed_5 (by decide) ?_
  refine mm_iadd dX9_feed_7 ?_
  refine mm_bipush (v := 60) dX9_feed_8 (by decide) ?_
  refine mm_icmp_gt (tgt := 17) dX9_feed_10 (by decide) (fun c2 => ?_) (fun c2 => ?_)
  · rw [if_pos c2] at hf
    refine mm_iconst (v := 0) dX9_feed_17 (by decide) ?_
    refine mm_sub [0, 1, 2, 3, 4, 5] rfl ?_
    exact kX9_feed_18  p0 p1 p2 p3 p4 p5 0 p0 σ hf
  · rw [if_neg c2] at hf
    refine mm_iconst (v := 1) dX9_feed_13 (by decide) ?_
    refine mm_goto (tgt := 18) dX9_feed_14 (by decide) ?_
    refine mm_sub [0, 1, 2, 3, 4, 5] rfl ?_
    exact kX9_feed_18  p0 p1 p2 p3 p4 p5 1 p0 σ hf
theorem dX9_value_0 : decode cX9_value 0 = .ok (.aload_n 0, 1) := by decide +kernel
theorem dX9_value_1 : decode cX9_value 1 = .ok (.getfield 40, 3) := by decide +kernel
theorem dX9_value_4 : decode cX9_value 4 = .ok (.iload_n 1, 1) := by decide +kernel
theorem dX9_value_5 : decode cX9_value 5 = .ok (.baload, 1) := by decide +kernel
theorem dX9_value_6 : decode cX9_value 6 = .ok (.invokestatic 187, 3) := by decide +kernel
theorem dX9_value_9 : decode cX9_value 9 = .ok (.istore_n 2, 1) := by decide +kernel
theorem dX9_value_10 : decode cX9_value 10 = .ok (.iload_n 2, 1) := by decide +kernel
theorem dX9_value_11 : decode cX9_value 11 = .ok (.iconst (-1), 1) := by decide +kernel
theorem dX9_value_12 : decode cX9_value 12 = .ok (.if_icmp .ne 7, 3) := by decide +kernel
theorem dX9_value_15 : decode cX9_value 15 = .ok (.iconst (-1), 1) := by decide +kernel
theorem dX9_value_16 : decode cX9_value 16 = .ok (.goto 7, 3) := by decide +kernel
theorem dX9_value_19 : decode cX9_value 19 = .ok (.iload_n 2, 1) := by decide +kernel
theorem dX9_value_20 : decode cX9_value 20 = .ok (.bipush 15, 2) := by decide +kernel
theorem dX9_value_22 : decode cX9_value 22 = .ok (.iand, 1) := by decide +kernel
theorem dX9_value_23 : decode cX9_value 23 = .ok (.ireturn, 1) := by decide +kernel
theorem nmX9_value : mm_nm yX9_value 1 := ⟨by decide, by decide, by decide +kernel⟩
theorem cdX9_value : mm_cd cd_Y yX9_value cX9_value 3 (some .int) := ⟨tw_1038, tw_8⟩
abbrev rmX9_value : Room := { frames := 3, cells := 0, slots := 0, locals := 67 }
def fX9_value (p0 : Nat) (p1 : Int32) (σ : mm_M) : Option (Int32 × mm_M) :=
  mm_sh σ p0 (.inl 9) (mm_on (mm_R σ p0 11) fun q2 => mm_ar σ q2 2 fun n3 => mm_ib p1 n3 (mm_on (fX9_guard (mm_I σ q2 p1.toNatClampNeg) σ) fun q5 => (if q5.1 = (-1) then some ((-1), q5.2) else some (q5.1 &&& 15, q5.2))))
set_option maxHeartbeats 4000000 in
set_option maxRecDepth 100000 in
theorem kX9_value {G : mm_G} {A : Nat → Prop} (p0 : Nat) (p1 : Int32) {σ : mm_M} {R : (Int32 × mm_M)} (hf : fX9_value p0 p1 σ = some R) : mm_C cd_Y G yX9_value cX9_value 3 (some .int) rmX9_value A [.ref p0, .int p1] σ (mm_Pi R.1 R.2) := by
  refine mm_C.of (by decide) (Nat.le_of_ble_eq_true rfl) ?_
  unfold fX9_value at hf
  have e0 : lv_args 0 [.ref p0, .int p1] = [(0, .ref p0), (1, .int p1)] := rfl
  rw [e0]
  generalize hini : ((yX9_value.name == "<init>"), none) = ini
  clear e0
  clear hini
  refine mm_aload_n (j := 0) dX9_value_0 rfl rfl ?_
  obtain ⟨hs1, hf⟩ := mm_sh_s hf
  refine mm_get (c := 9) (k := 11) (v := va_rf (mm_R σ p0 11)) cd_ok ⟨_, _, _, rfl, by decide, Or.inl tw_805⟩ hs1 rfl dX9_value_1 ?_
  refine mm_iload_n (j := 1) dX9_value_4 rfl rfl ?_
  obtain ⟨q2, hq2, hf⟩ := mm_on_s hf
  rw [hq2, mm_rf_some]
  obtain ⟨n3, hn3, hf⟩ := mm_ar_s hf
  obtain ⟨hi4, hf⟩ := mm_ib_s hf
  refine mm_bald hn3 rfl hi4 dX9_value_5 ?_
  obtain ⟨q5, hq5, hf⟩ := mm_on_s hf
  refine mm_callSi cd_ok (kX9_guard (mm_I σ q2 p1.toNatClampNeg) hq5) (Or.inl tw_1018) cdX9_guard tw_1019 nmX9_guard rfl rfl (by simp only [List.map_cons, List.map_nil, mm_rf_cat]; exact Nat.le_of_ble_eq_true rfl) dX9_value_6 ⟨Nat.le_of_ble_eq_true rfl, Nat.le_of_ble_eq_true rfl⟩ ⟨Nat.le_of_ble_eq_true rfl, Nat.le_of_ble_eq_true rfl⟩ ?_
  refine mm_istore_n (L' := [(2, .int q5.1), (0, .ref p0), (1, .int p1)]) dX9_value_9 rfl (by decide) rfl ?_
  refine mm_iload_n (j := 0) dX9_value_10 rfl rfl ?_
  refine mm_iconst (v := (-1)) dX9_value_11 (by decide) ?_
  refine mm_icmp_ne (tgt := 19) dX9_value_12 (by decide) (fun c6 => ?_) (fun c6 => ?_)
  · rw [if_neg c6] at hf
    refine mm_iload_n (j := 0) dX9_value_19 rfl rfl ?_
    refine mm_bipush (v := 15) dX9_value_20 (by decide) ?_
    refine mm_iand dX9_value_22 ?_
    cases hf
    refine mm_widen (ck' := rmX9_value.cells) (sk' := rmX9_value.slots) (Nat.le_of_ble_eq_true rfl) (Nat.le_of_ble_eq_true rfl) ?_
    exact mm_iret rfl rfl dX9_value_23 ⟨rfl, rfl⟩
  · rw [if_pos c6] at hf
    refine mm_iconst (v := (-1)) dX9_value_15 (by decide) ?_
    refine mm_goto (tgt := 23) dX9_value_16 (by decide) ?_
    cases hf
    refine mm_widen (ck' := rmX9_value.cells) (sk' := rmX9_value.slots) (Nat.le_of_ble_eq_true rfl) (Nat.le_of_ble_eq_true rfl) ?_
    exact mm_iret rfl rfl dX9_value_23 ⟨rfl, rfl⟩
theorem dX9_mag_0 : decode cX9_mag 0 = .ok (.iload_n 0, 1) := by decide +kernel
theorem dX9_mag_1 : decode cX9_mag 1 = .ok (.bipush 8, 2) := by decide +kernel
theorem dX9_mag_3 : decode cX9_mag 3 = .ok (.irem, 1) := by decide +kernel
theorem dX9_mag_4 : decode cX9_mag 4 = .ok (.ifCond .ne 8, 3) := by decide +kernel
theorem dX9_mag_7 : decode cX9_mag 7 = .ok (.bipush 8, 2) := by decide +kernel
theorem dX9_mag_9 : decode cX9_mag 9 = .ok (.goto 7, 3) := by decide +kernel
theorem dX9_mag_12 : decode cX9_mag 12 = .ok (.iload_n 0, 1) := by decide +kernel
theorem dX9_mag_13 : decode cX9_mag 13 = .ok (.bipush 8, 2) := by decide +kernel
theorem dX9_mag_15 : decode cX9_mag 15 = .ok (.irem, 1) := by decide +kernel
theorem dX9_mag_16 : decode cX9_mag 16 = .ok (.ireturn, 1) := by decide +kernel
theorem nmX9_mag : mm_nm yX9_mag 1 := ⟨by decide, by decide, by decide +kernel⟩
theorem cdX9_mag : mm_cd cd_Y yX9_mag cX9_mag 1 (some .int) := ⟨tw_1041, tw_8⟩
abbrev rmX9_mag : Room := { frames := 0, cells := 0, slots := 0, locals := 0 }
def fX9_mag (p0 : Int32) : Int32 :=
  (if (p0 - p0 / 8 * 8) = 0 then 8 else p0 - p0 / 8 * 8)
set_option maxHeartbeats 4000000 in
set_option maxRecDepth 100000 in
theorem kX9_mag {G : mm_G} {A : Nat → Prop} (p0 : Int32) (σ0 : mm_M) {R : Int32} (hf : fX9_mag p0 = R) : mm_C cd_Y G yX9_mag cX9_mag 1 (some .int) rmX9_mag A [.int p0] σ0 (mm_Pi R σ0) := by
  refine mm_C.of (by decide) (Nat.le_of_ble_eq_true rfl) ?_
  unfold fX9_mag at hf
  have e0 : lv_args 0 [.int p0] = [(0, .int p0)] := rfl
  rw [e0]
  generalize hini : ((yX9_mag.name == "<init>"), none) = ini
  clear e0
  clear hini
  refine mm_iload_n (j := 0) dX9_mag_0 rfl rfl ?_
  refine mm_bipush (v := 8) dX9_mag_1 (by decide) ?_
  refine mm_irem dX9_mag_3 (by decide) ?_
  refine mm_if_ne (tgt := 12) dX9_mag_4 (by decide) (fun c1 => ?_) (fun c1 => ?_)
  · rw [if_neg c1] at hf
    refine mm_iload_n (j := 0) dX9_mag_12 rfl rfl ?_
    refine mm_bipush (v := 8) dX9_mag_13 (by decide) ?_
    refine mm_irem dX9_mag_15 (by decide) ?_
    subst hf
    refine mm_widen (ck' := rmX9_mag.cells) (sk' := rmX9_mag.slots) (Nat.le_of_ble_eq_true rfl) (Nat.le_of_ble_eq_true rfl) ?_
    exact mm_iret rfl rfl dX9_mag_16 ⟨rfl, rfl⟩
  · rw [if_pos c1] at hf
    refine mm_bipush (v := 8) dX9_mag_7 (by decide) ?_
    refine mm_goto (tgt := 16) dX9_mag_9 (by decide) ?_
    subst hf
    refine mm_widen (ck' := rmX9_mag.cells) (sk' := rmX9_mag.slots) (Nat.le_of_ble_eq_true rfl) (Nat.le_of_ble_eq_true rfl) ?_
    exact mm_iret rfl rfl dX9_mag_16 ⟨rfl, rfl⟩
theorem dX9_text_0 : decode cX9_text 0 = .ok (.sipush 1000, 3) := by decide +kernel
theorem dX9_text_3 : decode cX9_text 3 = .ok (.iload_n 1, 1) := by decide +kernel
theorem dX9_text_4 : decode cX9_text 4 = .ok (.imul, 1) := by decide +kernel
theorem dX9_text_5 : decode cX9_text 5 = .ok (.bipush 40, 2) := by decide +kernel
theorem dX9_text_7 : decode cX9_text 7 = .ok (.iload_n 2, 1) := by decide +kernel
theorem dX9_text_8 : decode cX9_text 8 = .ok (.imul, 1) := by decide +kernel
theorem dX9_text_9 : decode cX9_text 9 = .ok (.iadd, 1) := by decide +kernel
theorem dX9_text_10 : decode cX9_text 10 = .ok (.istore 6, 2) := by decide +kernel
theorem dX9_text_12 : decode cX9_text 12 = .ok (.aload_n 0, 1) := by decide +kernel
theorem dX9_text_13 : decode cX9_text 13 = .ok (.getfield 75, 3) := by decide +kernel
theorem dX9_text_16 : decode cX9_text 16 = .ok (.bipush 25, 2) := by decide +kernel
theorem dX9_text_18 : decode cX9_text 18 = .ok (.iload_n 1, 1) := by decide +kernel
theorem dX9_text_19 : decode cX9_text 19 = .ok (.imul, 1) := by decide +kernel
theorem dX9_text_20 : decode cX9_text 20 = .ok (.iload_n 2, 1) := by decide +kernel
theorem dX9_text_21 : decode cX9_text 21 = .ok (.iadd, 1) := by decide +kernel
theorem dX9_text_22 : decode cX9_text 22 = .ok (.baload, 1) := by decide +kernel
theorem dX9_text_23 : decode cX9_text 23 = .ok (.istore 7, 2) := by decide +kernel
theorem dX9_text_25 : decode cX9_text 25 = .ok (.iconst 0, 1) := by decide +kernel
theorem dX9_text_26 : decode cX9_text 26 = .ok (.istore 8, 2) := by decide +kernel
theorem dX9_text_28 : decode cX9_text 28 = .ok (.iload 8, 2) := by decide +kernel
theorem dX9_text_30 : decode cX9_text 30 = .ok (.iload 5, 2) := by decide +kernel
theorem dX9_text_32 : decode cX9_text 32 = .ok (.if_icmp .ge 74, 3) := by decide +kernel
theorem dX9_text_35 : decode cX9_text 35 = .ok (.aload_n 0, 1) := by decide +kernel
theorem dX9_text_36 : decode cX9_text 36 = .ok (.getfield 40, 3) := by decide +kernel
theorem dX9_text_39 : decode cX9_text 39 = .ok (.iload_n 3, 1) := by decide +kernel
theorem dX9_text_40 : decode cX9_text 40 = .ok (.iload 8, 2) := by decide +kernel
theorem dX9_text_42 : decode cX9_text 42 = .ok (.iadd, 1) := by decide +kernel
theorem dX9_text_43 : decode cX9_text 43 = .ok (.baload, 1) := by decide +kernel
theorem dX9_text_44 : decode cX9_text 44 = .ok (.sipush 255, 3) := by decide +kernel
theorem dX9_text_47 : decode cX9_text 47 = .ok (.iand, 1) := by decide +kernel
theorem dX9_text_48 : decode cX9_text 48 = .ok (.istore 9, 2) := by decide +kernel
theorem dX9_text_50 : decode cX9_text 50 = .ok (.iload 9, 2) := by decide +kernel
theorem dX9_text_52 : decode cX9_text 52 = .ok (.invokestatic 173, 3) := by decide +kernel
theorem dX9_text_55 : decode cX9_text 55 = .ok (.ifCond .eq 25, 3) := by decide +kernel
theorem dX9_text_58 : decode cX9_text 58 = .ok (.aload_n 0, 1) := by decide +kernel
theorem dX9_text_59 : decode cX9_text 59 = .ok (.getfield 72, 3) := by decide +kernel
theorem dX9_text_62 : decode cX9_text 62 = .ok (.iload 6, 2) := by decide +kernel
theorem dX9_text_64 : decode cX9_text 64 = .ok (.iload 4, 2) := by decide +kernel
theorem dX9_text_66 : decode cX9_text 66 = .ok (.iadd, 1) := by decide +kernel
theorem dX9_text_67 : decode cX9_text 67 = .ok (.iload 8, 2) := by decide +kernel
theorem dX9_text_69 : decode cX9_text 69 = .ok (.iadd, 1) := by decide +kernel
theorem dX9_text_70 : decode cX9_text 70 = .ok (.iload 9, 2) := by decide +kernel
theorem dX9_text_72 : decode cX9_text 72 = .ok (.bipush 127, 2) := by decide +kernel
theorem dX9_text_74 : decode cX9_text 74 = .ok (.iand, 1) := by decide +kernel
theorem dX9_text_75 : decode cX9_text 75 = .ok (.i2b, 1) := by decide +kernel
theorem dX9_text_76 : decode cX9_text 76 = .ok (.bastore, 1) := by decide +kernel
theorem dX9_text_77 : decode cX9_text 77 = .ok (.goto 23, 3) := by decide +kernel
theorem dX9_text_80 : decode cX9_text 80 = .ok (.iload 7, 2) := by decide +kernel
theorem dX9_text_82 : decode cX9_text 82 = .ok (.ifCond .ne 18, 3) := by decide +kernel
theorem dX9_text_85 : decode cX9_text 85 = .ok (.aload_n 0, 1) := by decide +kernel
theorem dX9_text_86 : decode cX9_text 86 = .ok (.getfield 72, 3) := by decide +kernel
theorem dX9_text_89 : decode cX9_text 89 = .ok (.iload 6, 2) := by decide +kernel
theorem dX9_text_91 : decode cX9_text 91 = .ok (.iload 4, 2) := by decide +kernel
theorem dX9_text_93 : decode cX9_text 93 = .ok (.iadd, 1) := by decide +kernel
theorem dX9_text_94 : decode cX9_text 94 = .ok (.iload 8, 2) := by decide +kernel
theorem dX9_text_96 : decode cX9_text 96 = .ok (.iadd, 1) := by decide +kernel
theorem dX9_text_97 : decode cX9_text 97 = .ok (.bipush 32, 2) := by decide +kernel
theorem dX9_text_99 : decode cX9_text 99 = .ok (.bastore, 1) := by decide +kernel
theorem dX9_text_100 : decode cX9_text 100 = .ok (.iinc 8 1, 3) := by decide +kernel
theorem dX9_text_103 : decode cX9_text 103 = .ok (.goto (-75), 3) := by decide +kernel
theorem dX9_text_106 : decode cX9_text 106 = .ok (.aload_n 0, 1) := by decide +kernel
theorem dX9_text_107 : decode cX9_text 107 = .ok (.getfield 75, 3) := by decide +kernel
theorem dX9_text_110 : decode cX9_text 110 = .ok (.bipush 25, 2) := by decide +kernel
theorem dX9_text_112 : decode cX9_text 112 = .ok (.iload_n 1, 1) := by decide +kernel
theorem dX9_text_113 : decode cX9_text 113 = .ok (.imul, 1) := by decide +kernel
theorem dX9_text_114 : decode cX9_text 114 = .ok (.iload_n 2, 1) := by decide +kernel
theorem dX9_text_115 : decode cX9_text 115 = .ok (.iadd, 1) := by decide +kernel
theorem dX9_text_116 : decode cX9_text 116 = .ok (.iconst 1, 1) := by decide +kernel
theorem dX9_text_117 : decode cX9_text 117 = .ok (.bastore, 1) := by decide +kernel
theorem dX9_text_118 : decode cX9_text 118 = .ok (.return_, 1) := by decide +kernel
theorem nmX9_text : mm_nm yX9_text 5 := ⟨by decide, by decide, by decide +kernel⟩
theorem cdX9_text : mm_cd cd_Y yX9_text cX9_text 10 none := ⟨tw_1068, tw_8⟩
abbrev rmX9_text : Room := { frames := 1, cells := 0, slots := 0, locals := 22 }
def fX9_text_28  : Nat → Nat → Int32 → Int32 → Int32 → Int32 → Int32 → Int32 → Int32 → Int32 → mm_M → Option mm_M
  | 0 => fun _ _ _ _ _ _ _ _ _ _ => none
  | n + 1 => fun a0 x1 x2 x3 x4 x5 x6 x7 x8 σ =>
  (if x5 ≤ x8 then mm_sh σ a0 (.inl 9) (mm_on (mm_R σ a0 24) fun q7 => mm_ar σ q7 1 fun n8 => mm_ib ((25 * x1) + x2) n8 (mm_let (mm_wI σ q7 (((25 * x1) + x2).toNatClampNeg) (vp_nar .boolean 1)) fun s10 => some (s10))) else mm_sh σ a0 (.inl 9) (mm_on (mm_R σ a0 11) fun q12 => mm_ar σ q12 2 fun n13 => mm_ib (x3 + x8) n13 (mm_on (fX9_isOdd ((mm_I σ q12 (x3 + x8).toNatClampNeg) &&& 255) σ) fun q15 => (if q15.1 = 0 then (if x7 = 0 then mm_sh q15.2 a0 (.inl 9) (mm_on (mm_R q15.2 a0 23) fun q19 => mm_ar q15.2 q19 2 fun n20 => mm_ib ((x6 + x4) + x8) n20 (mm_let (mm_wI q15.2 q19 (((x6 + x4) + x8).toNatClampNeg) ((32 : Int32).toInt8.toInt32)) fun s22 => (fX9_text_28  n a0 x1 x2 x3 x4 x5 x6 x7 (x8 + 1) s22))) else (fX9_text_28  n a0 x1 x2 x3 x4 x5 x6 x7 (x8 + 1) q15.2)) else mm_sh q15.2 a0 (.inl 9) (mm_on (mm_R q15.2 a0 23) fun q24 => mm_ar q15.2 q24 2 fun n25 => mm_ib ((x6 + x4) + x8) n25 (mm_let (mm_wI q15.2 q24 (((x6 + x4) + x8).toNatClampNeg) (((((mm_I σ q12 (x3 + x8).toNatClampNeg) &&& 255) &&& 127).toInt8.toInt32).toInt8.toInt32)) fun s27 => (fX9_text_28  n a0 x1 x2 x3 x4 x5 x6 x7 (x8 + 1) s27)))))))
def fX9_text (p0 : Nat) (p1 : Int32) (p2 : Int32) (p3 : Int32) (p4 : Int32) (p5 : Int32) (σ : mm_M) : Option mm_M :=
  mm_sh σ p0 (.inl 9) (mm_on (mm_R σ p0 24) fun q2 => mm_ar σ q2 1 fun n3 => mm_ib ((25 * p1) + p2) n3 ((fX9_text_28  mm_fuel p0 p1 p2 p3 p4 p5 ((1000 * p1) + (40 * p2)) (mm_I σ q2 ((25 * p1) + p2).toNatClampNeg) 0 σ)))
set_option maxHeartbeats 4000000 in
set_option maxRecDepth 100000 in
theorem kX9_text_28 {G : mm_G} {A : Nat → Prop} {ini : Bool × Option (List (Nat × Nat × Nat × Nat))}  {R : mm_M}  : ∀ (a0 : Nat) (x1 : Int32) (x2 : Int32) (x3 : Int32) (x4 : Int32) (x5 : Int32) (x6 : Int32) (x7 : Int32) (x8 : Int32) (σ : mm_M), fX9_text_28  mm_fuel a0 x1 x2 x3 x4 x5 x6 x7 x8 σ = some R → mm_J cd_Y G RX9 cX9_text 10 none ini rmX9_text A (mm_QF cd_Y G A (mm_Pv R) rmX9_text.cells rmX9_text.slots) 28 [(0, .ref a0), (1, .int x1), (2, .int x2), (3, .int x3), (4, .int x4), (5, .int x5), (6, .int x6), (7, .int x7), (8, .int x8)] [] σ 0 0 := by
  generalize mm_fuel = n
  induction n with
  | zero => intro a0 x1 x2 x3 x4 x5 x6 x7 x8 σ hf; cases hf
  | succ n ih =>
    intro a0 x1 x2 x3 x4 x5 x6 x7 x8 σ hf
    unfold fX9_text_28 at hf
    refine mm_iload (j := 8) dX9_text_28 rfl ?_
    refine mm_iload (j := 5) dX9_text_30 rfl ?_
    refine mm_icmp_ge (tgt := 106) dX9_text_32 (by decide) (fun c5 => ?_) (fun c5 => ?_)
    · rw [if_pos c5] at hf
      refine mm_aload_n (j := 0) dX9_text_106 rfl rfl ?_
      obtain ⟨hs6, hf⟩ := mm_sh_s hf
      refine mm_get (c := 9) (k := 24) (v := va_rf (mm_R σ a0 24)) cd_ok ⟨_, _, _, rfl, by decide, Or.inl tw_818⟩ hs6 rfl dX9_text_107 ?_
      refine mm_bipush (v := 25) dX9_text_110 (by decide) ?_
      refine mm_iload_n (j := 1) dX9_text_112 rfl rfl ?_
      refine mm_imul dX9_text_113 ?_
      refine mm_iload_n (j := 2) dX9_text_114 rfl rfl ?_
      refine mm_iadd dX9_text_115 ?_
      refine mm_iconst (v := 1) dX9_text_116 (by decide) ?_
      obtain ⟨q7, hq7, hf⟩ := mm_on_s hf
      rw [hq7, mm_rf_some]
      obtain ⟨n8, hn8, hf⟩ := mm_ar_s hf
      obtain ⟨hi9, hf⟩ := mm_ib_s hf
      refine mm_zast hn8 rfl hi9 dX9_text_117 ?_
      obtain ⟨s10, hs10, hf⟩ := mm_let_s hf
      rw [hs10]
      cases hf
      refine mm_widen (ck' := rmX9_text.cells) (sk' := rmX9_text.slots) (Nat.le_of_ble_eq_true rfl) (Nat.le_of_ble_eq_true rfl) ?_
      exact mm_vret rfl dX9_text_118 ⟨rfl, rfl⟩
    · rw [if_neg c5] at hf
      refine mm_aload_n (j := 0) dX9_text_35 rfl rfl ?_
      obtain ⟨hs11, hf⟩ := mm_sh_s hf
      refine mm_get (c := 9) (k := 11) (v := va_rf (mm_R σ a0 11)) cd_ok ⟨_, _, _, rfl, by decide, Or.inl tw_805⟩ hs11 rfl dX9_text_36 ?_
      refine mm_iload_n (j := 3) dX9_text_39 rfl rfl ?_
      refine mm_iload (j := 8) dX9_text_40 rfl ?_
      refine mm_iadd dX9_text_42 ?_
      obtain ⟨q12, hq12, hf⟩ := mm_on_s hf
      rw [hq12, mm_rf_some]
      obtain ⟨n13, hn13, hf⟩ := mm_ar_s hf
      obtain ⟨hi14, hf⟩ := mm_ib_s hf
      refine mm_bald hn13 rfl hi14 dX9_text_43 ?_
      refine mm_sipush (v := 255) dX9_text_44 (by decide) ?_
      refine mm_iand dX9_text_47 ?_
      refine mm_istore (L' := [(9, .int ((mm_I σ q12 (x3 + x8).toNatClampNeg) &&& 255)), (0, .ref a0), (1, .int x1), (2, .int x2), (3, .int x3), (4, .int x4), (5, .int x5), (6, .int x6), (7, .int x7), (8, .int x8)]) dX9_text_48 (by decide) rfl ?_
      refine mm_iload (j := 0) dX9_text_50 rfl ?_
      obtain ⟨q15, hq15, hf⟩ := mm_on_s hf
      refine mm_callSi cd_ok (kX9_isOdd ((mm_I σ q12 (x3 + x8).toNatClampNeg) &&& 255) hq15) (Or.inl tw_948) cdX9_isOdd tw_949 nmX9_isOdd rfl rfl (by simp only [List.map_cons, List.map_nil, mm_rf_cat]; exact Nat.le_of_ble_eq_true rfl) dX9_text_52 ⟨Nat.le_of_ble_eq_true rfl, Nat.le_of_ble_eq_true rfl⟩ ⟨Nat.le_of_ble_eq_true rfl, Nat.le_of_ble_eq_true rfl⟩ ?_
      refine mm_if_eq (tgt := 80) dX9_text_55 (by decide) (fun c16 => ?_) (fun c16 => ?_)
      · rw [if_pos c16] at hf
        refine mm_iload (j := 8) dX9_text_80 rfl ?_
        refine mm_if_ne (tgt := 100) dX9_text_82 (by decide) (fun c17 => ?_) (fun c17 => ?_)
        · rw [if_neg c17] at hf
          refine mm_iinc (j := 9) (L' := [(8, .int (x8 + 1)), (9, .int ((mm_I σ q12 (x3 + x8).toNatClampNeg) &&& 255)), (0, .ref a0), (1, .int x1), (2, .int x2), (3, .int x3), (4, .int x4), (5, .int x5), (6, .int x6), (7, .int x7)]) dX9_text_100 rfl rfl (by decide) rfl ?_
          refine mm_goto (tgt := 28) dX9_text_103 (by decide) ?_
          refine mm_sub [2, 3, 4, 5, 6, 7, 8, 9, 0] rfl ?_
          exact ih a0 x1 x2 x3 x4 x5 x6 x7 (x8 + 1) q15.2 hf
        · rw [if_pos c17] at hf
          refine mm_aload_n (j := 1) dX9_text_85 rfl rfl ?_
          obtain ⟨hs18, hf⟩ := mm_sh_s hf
          refine mm_get (c := 9) (k := 23) (v := va_rf (mm_R q15.2 a0 23)) cd_ok ⟨_, _, _, rfl, by decide, Or.inl tw_817⟩ hs18 rfl dX9_text_86 ?_
          refine mm_iload (j := 7) dX9_text_89 rfl ?_
          refine mm_iload (j := 5) dX9_text_91 rfl ?_
          refine mm_iadd dX9_text_93 ?_
          refine mm_iload (j := 9) dX9_text_94 rfl ?_
          refine mm_iadd dX9_text_96 ?_
          refine mm_bipush (v := 32) dX9_text_97 (by decide) ?_
          obtain ⟨q19, hq19, hf⟩ := mm_on_s hf
          rw [hq19, mm_rf_some]
          obtain ⟨n20, hn20, hf⟩ := mm_ar_s hf
          obtain ⟨hi21, hf⟩ := mm_ib_s hf
          refine mm_bast hn20 rfl hi21 dX9_text_99 ?_
          obtain ⟨s22, hs22, hf⟩ := mm_let_s hf
          rw [hs22]
          refine mm_iinc (j := 9) (L' := [(8, .int (x8 + 1)), (9, .int ((mm_I σ q12 (x3 + x8).toNatClampNeg) &&& 255)), (0, .ref a0), (1, .int x1), (2, .int x2), (3, .int x3), (4, .int x4), (5, .int x5), (6, .int x6), (7, .int x7)]) dX9_text_100 rfl rfl (by decide) rfl ?_
          refine mm_goto (tgt := 28) dX9_text_103 (by decide) ?_
          refine mm_sub [2, 3, 4, 5, 6, 7, 8, 9, 0] rfl ?_
          exact ih a0 x1 x2 x3 x4 x5 x6 x7 (x8 + 1) s22 hf
      · rw [if_neg c16] at hf
        refine mm_aload_n (j := 1) dX9_text_58 rfl rfl ?_
        obtain ⟨hs23, hf⟩ := mm_sh_s hf
        refine mm_get (c := 9) (k := 23) (v := va_rf (mm_R q15.2 a0 23)) cd_ok ⟨_, _, _, rfl, by decide, Or.inl tw_817⟩ hs23 rfl dX9_text_59 ?_
        refine mm_iload (j := 7) dX9_text_62 rfl ?_
        refine mm_iload (j := 5) dX9_text_64 rfl ?_
        refine mm_iadd dX9_text_66 ?_
        refine mm_iload (j := 9) dX9_text_67 rfl ?_
        refine mm_iadd dX9_text_69 ?_
        refine mm_iload (j := 0) dX9_text_70 rfl ?_
        refine mm_bipush (v := 127) dX9_text_72 (by decide) ?_
        refine mm_iand dX9_text_74 ?_
        refine mm_i2b dX9_text_75 ?_
        obtain ⟨q24, hq24, hf⟩ := mm_on_s hf
        rw [hq24, mm_rf_some]
        obtain ⟨n25, hn25, hf⟩ := mm_ar_s hf
        obtain ⟨hi26, hf⟩ := mm_ib_s hf
        refine mm_bast hn25 rfl hi26 dX9_text_76 ?_
        obtain ⟨s27, hs27, hf⟩ := mm_let_s hf
        rw [hs27]
        refine mm_goto (tgt := 100) dX9_text_77 (by decide) ?_
        refine mm_iinc (j := 9) (L' := [(8, .int (x8 + 1)), (9, .int ((mm_I σ q12 (x3 + x8).toNatClampNeg) &&& 255)), (0, .ref a0), (1, .int x1), (2, .int x2), (3, .int x3), (4, .int x4), (5, .int x5), (6, .int x6), (7, .int x7)]) dX9_text_100 rfl rfl (by decide) rfl ?_
        refine mm_goto (tgt := 28) dX9_text_103 (by decide) ?_
        refine mm_sub [2, 3, 4, 5, 6, 7, 8, 9, 0] rfl ?_
        exact ih a0 x1 x2 x3 x4 x5 x6 x7 (x8 + 1) s27 hf
set_option maxHeartbeats 4000000 in
set_option maxRecDepth 100000 in
theorem kX9_text {G : mm_G} {A : Nat → Prop} (p0 : Nat) (p1 : Int32) (p2 : Int32) (p3 : Int32) (p4 : Int32) (p5 : Int32) {σ : mm_M} {R : mm_M} (hf : fX9_text p0 p1 p2 p3 p4 p5 σ = some R) : mm_C cd_Y G yX9_text cX9_text 10 none rmX9_text A [.ref p0, .int p1, .int p2, .int p3, .int p4, .int p5] σ (mm_Pv R) := by
  refine mm_C.of (by decide) (Nat.le_of_ble_eq_true rfl) ?_
  unfold fX9_text at hf
  have e0 : lv_args 0 [.ref p0, .int p1, .int p2, .int p3, .int p4, .int p5] = [(0, .ref p0), (1, .int p1), (2, .int p2), (3, .int p3), (4, .int p4), (5, .int p5)] := rfl
  rw [e0]
  generalize hini : ((yX9_text.name == "<init>"), none) = ini
  clear e0
  clear hini
  refine mm_sipush (v := 1000) dX9_text_0 (by decide) ?_
  refine mm_iload_n (j := 1) dX9_text_3 rfl rfl ?_
  refine mm_imul dX9_text_4 ?_
  refine mm_bipush (v := 40) dX9_text_5 (by decide) ?_
  refine mm_iload_n (j := 2) dX9_text_7 rfl rfl ?_
  refine mm_imul dX9_text_8 ?_
  refine mm_iadd dX9_text_9 ?_
  refine mm_istore (L' := [(6, .int ((1000 * p1) + (40 * p2))), (0, .ref p0), (1, .int p1), (2, .int p2), (3, .int p3), (4, .int p4), (5, .int p5)]) dX9_text_10 (by decide) rfl ?_
  refine mm_aload_n (j := 1) dX9_text_12 rfl rfl ?_
  obtain ⟨hs1, hf⟩ := mm_sh_s hf
  refine mm_get (c := 9) (k := 24) (v := va_rf (mm_R σ p0 24)) cd_ok ⟨_, _, _, rfl, by decide, Or.inl tw_818⟩ hs1 rfl dX9_text_13 ?_
  refine mm_bipush (v := 25) dX9_text_16 (by decide) ?_
  refine mm_iload_n (j := 2) dX9_text_18 rfl rfl ?_
  refine mm_imul dX9_text_19 ?_
  refine mm_iload_n (j := 3) dX9_text_20 rfl rfl ?_
  refine mm_iadd dX9_text_21 ?_
  obtain ⟨q2, hq2, hf⟩ := mm_on_s hf
  rw [hq2, mm_rf_some]
  obtain ⟨n3, hn3, hf⟩ := mm_ar_s hf
  obtain ⟨hi4, hf⟩ := mm_ib_s hf
  refine mm_zald hn3 rfl hi4 dX9_text_22 ?_
  refine mm_istore (L' := [(7, .int (mm_I σ q2 ((25 * p1) + p2).toNatClampNeg)), (6, .int ((1000 * p1) + (40 * p2))), (0, .ref p0), (1, .int p1), (2, .int p2), (3, .int p3), (4, .int p4), (5, .int p5)]) dX9_text_23 (by decide) rfl ?_
  refine mm_iconst (v := 0) dX9_text_25 (by decide) ?_
  refine mm_istore (L' := [(8, .int 0), (7, .int (mm_I σ q2 ((25 * p1) + p2).toNatClampNeg)), (6, .int ((1000 * p1) + (40 * p2))), (0, .ref p0), (1, .int p1), (2, .int p2), (3, .int p3), (4, .int p4), (5, .int p5)]) dX9_text_26 (by decide) rfl ?_
  refine mm_sub [3, 4, 5, 6, 7, 8, 2, 1, 0] rfl ?_
  exact kX9_text_28  p0 p1 p2 p3 p4 p5 ((1000 * p1) + (40 * p2)) (mm_I σ q2 ((25 * p1) + p2).toNatClampNeg) 0 σ hf
theorem dX9_close_0 : decode cX9_close 0 = .ok (.aload_n 0, 1) := by decide +kernel
theorem dX9_close_1 : decode cX9_close 1 = .ok (.getfield 84, 3) := by decide +kernel
theorem dX9_close_4 : decode cX9_close 4 = .ok (.iload_n 1, 1) := by decide +kernel
theorem dX9_close_5 : decode cX9_close 5 = .ok (.iaload, 1) := by decide +kernel
theorem dX9_close_6 : decode cX9_close 6 = .ok (.istore_n 2, 1) := by decide +kernel
theorem dX9_close_7 : decode cX9_close 7 = .ok (.iload_n 2, 1) := by decide +kernel
theorem dX9_close_8 : decode cX9_close 8 = .ok (.iconst (-1), 1) := by decide +kernel
theorem dX9_close_9 : decode cX9_close 9 = .ok (.if_icmp .ne 4, 3) := by decide +kernel
theorem dX9_close_12 : decode cX9_close 12 = .ok (.return_, 1) := by decide +kernel
theorem dX9_close_13 : decode cX9_close 13 = .ok (.aload_n 0, 1) := by decide +kernel
theorem dX9_close_14 : decode cX9_close 14 = .ok (.getfield 84, 3) := by decide +kernel
theorem dX9_close_17 : decode cX9_close 17 = .ok (.iload_n 1, 1) := by decide +kernel
theorem dX9_close_18 : decode cX9_close 18 = .ok (.iconst (-1), 1) := by decide +kernel
theorem dX9_close_19 : decode cX9_close 19 = .ok (.iastore, 1) := by decide +kernel
theorem dX9_close_20 : decode cX9_close 20 = .ok (.aload_n 0, 1) := by decide +kernel
theorem dX9_close_21 : decode cX9_close 21 = .ok (.getfield 66, 3) := by decide +kernel
theorem dX9_close_24 : decode cX9_close 24 = .ok (.iload_n 2, 1) := by decide +kernel
theorem dX9_close_25 : decode cX9_close 25 = .ok (.dup2, 1) := by decide +kernel
theorem dX9_close_26 : decode cX9_close 26 = .ok (.iaload, 1) := by decide +kernel
theorem dX9_close_27 : decode cX9_close 27 = .ok (.iconst 1, 1) := by decide +kernel
theorem dX9_close_28 : decode cX9_close 28 = .ok (.iadd, 1) := by decide +kernel
theorem dX9_close_29 : decode cX9_close 29 = .ok (.iastore, 1) := by decide +kernel
theorem dX9_close_30 : decode cX9_close 30 = .ok (.aload_n 0, 1) := by decide +kernel
theorem dX9_close_31 : decode cX9_close 31 = .ok (.getfield 193, 3) := by decide +kernel
theorem dX9_close_34 : decode cX9_close 34 = .ok (.ifCond .eq 98, 3) := by decide +kernel
theorem dX9_close_37 : decode cX9_close 37 = .ok (.aload_n 0, 1) := by decide +kernel
theorem dX9_close_38 : decode cX9_close 38 = .ok (.getfield 54, 3) := by decide +kernel
theorem dX9_close_41 : decode cX9_close 41 = .ok (.iload_n 2, 1) := by decide +kernel
theorem dX9_close_42 : decode cX9_close 42 = .ok (.iaload, 1) := by decide +kernel
theorem dX9_close_43 : decode cX9_close 43 = .ok (.aload_n 0, 1) := by decide +kernel
theorem dX9_close_44 : decode cX9_close 44 = .ok (.getfield 197, 3) := by decide +kernel
theorem dX9_close_47 : decode cX9_close 47 = .ok (.if_icmp .ne 85, 3) := by decide +kernel
theorem dX9_close_50 : decode cX9_close 50 = .ok (.aload_n 0, 1) := by decide +kernel
theorem dX9_close_51 : decode cX9_close 51 = .ok (.getfield 57, 3) := by decide +kernel
theorem dX9_close_54 : decode cX9_close 54 = .ok (.iload_n 2, 1) := by decide +kernel
theorem dX9_close_55 : decode cX9_close 55 = .ok (.iaload, 1) := by decide +kernel
theorem dX9_close_56 : decode cX9_close 56 = .ok (.aload_n 0, 1) := by decide +kernel
theorem dX9_close_57 : decode cX9_close 57 = .ok (.getfield 200, 3) := by decide +kernel
theorem dX9_close_60 : decode cX9_close 60 = .ok (.if_icmp .ne 72, 3) := by decide +kernel
theorem dX9_close_63 : decode cX9_close 63 = .ok (.aload_n 0, 1) := by decide +kernel
theorem dX9_close_64 : decode cX9_close 64 = .ok (.iconst 1, 1) := by decide +kernel
theorem dX9_close_65 : decode cX9_close 65 = .ok (.putfield 203, 3) := by decide +kernel
theorem dX9_close_68 : decode cX9_close 68 = .ok (.iconst 0, 1) := by decide +kernel
theorem dX9_close_69 : decode cX9_close 69 = .ok (.istore_n 3, 1) := by decide +kernel
theorem dX9_close_70 : decode cX9_close 70 = .ok (.iload_n 3, 1) := by decide +kernel
theorem dX9_close_71 : decode cX9_close 71 = .ok (.sipush 1000, 3) := by decide +kernel
theorem dX9_close_74 : decode cX9_close 74 = .ok (.if_icmp .ge 27, 3) := by decide +kernel
theorem dX9_close_77 : decode cX9_close 77 = .ok (.aload_n 0, 1) := by decide +kernel
theorem dX9_close_78 : decode cX9_close 78 = .ok (.getfield 87, 3) := by decide +kernel
theorem dX9_close_81 : decode cX9_close 81 = .ok (.iload_n 3, 1) := by decide +kernel
theorem dX9_close_82 : decode cX9_close 82 = .ok (.aload_n 0, 1) := by decide +kernel
theorem dX9_close_83 : decode cX9_close 83 = .ok (.getfield 72, 3) := by decide +kernel
theorem dX9_close_86 : decode cX9_close 86 = .ok (.sipush 1000, 3) := by decide +kernel
theorem dX9_close_89 : decode cX9_close 89 = .ok (.iload_n 2, 1) := by decide +kernel
theorem dX9_close_90 : decode cX9_close 90 = .ok (.imul, 1) := by decide +kernel
theorem dX9_close_91 : decode cX9_close 91 = .ok (.iload_n 3, 1) := by decide +kernel
theorem dX9_close_92 : decode cX9_close 92 = .ok (.iadd, 1) := by decide +kernel
theorem dX9_close_93 : decode cX9_close 93 = .ok (.baload, 1) := by decide +kernel
theorem dX9_close_94 : decode cX9_close 94 = .ok (.bastore, 1) := by decide +kernel
theorem dX9_close_95 : decode cX9_close 95 = .ok (.iinc 3 1, 3) := by decide +kernel
theorem dX9_close_98 : decode cX9_close 98 = .ok (.goto (-28), 3) := by decide +kernel
theorem dX9_close_101 : decode cX9_close 101 = .ok (.iconst 0, 1) := by decide +kernel
theorem dX9_close_102 : decode cX9_close 102 = .ok (.istore_n 3, 1) := by decide +kernel
theorem dX9_close_103 : decode cX9_close 103 = .ok (.iload_n 3, 1) := by decide +kernel
theorem dX9_close_104 : decode cX9_close 104 = .ok (.bipush 25, 2) := by decide +kernel
theorem dX9_close_106 : decode cX9_close 106 = .ok (.if_icmp .ge 26, 3) := by decide +kernel
theorem dX9_close_109 : decode cX9_close 109 = .ok (.aload_n 0, 1) := by decide +kernel
theorem dX9_close_110 : decode cX9_close 110 = .ok (.getfield 90, 3) := by decide +kernel
theorem dX9_close_113 : decode cX9_close 113 = .ok (.iload_n 3, 1) := by decide +kernel
theorem dX9_close_114 : decode cX9_close 114 = .ok (.aload_n 0, 1) := by decide +kernel
theorem dX9_close_115 : decode cX9_close 115 = .ok (.getfield 75, 3) := by decide +kernel
theorem dX9_close_118 : decode cX9_close 118 = .ok (.bipush 25, 2) := by decide +kernel
theorem dX9_close_120 : decode cX9_close 120 = .ok (.iload_n 2, 1) := by decide +kernel
theorem dX9_close_121 : decode cX9_close 121 = .ok (.imul, 1) := by decide +kernel
theorem dX9_close_122 : decode cX9_close 122 = .ok (.iload_n 3, 1) := by decide +kernel
theorem dX9_close_123 : decode cX9_close 123 = .ok (.iadd, 1) := by decide +kernel
theorem dX9_close_124 : decode cX9_close 124 = .ok (.baload, 1) := by decide +kernel
theorem dX9_close_125 : decode cX9_close 125 = .ok (.bastore, 1) := by decide +kernel
theorem dX9_close_126 : decode cX9_close 126 = .ok (.iinc 3 1, 3) := by decide +kernel
theorem dX9_close_129 : decode cX9_close 129 = .ok (.goto (-26), 3) := by decide +kernel
theorem dX9_close_132 : decode cX9_close 132 = .ok (.return_, 1) := by decide +kernel
theorem nmX9_close : mm_nm yX9_close 1 := ⟨by decide, by decide, by decide +kernel⟩
theorem cdX9_close : mm_cd cd_Y yX9_close cX9_close 4 none := ⟨tw_1049, tw_8⟩
abbrev rmX9_close : Room := { frames := 0, cells := 0, slots := 0, locals := 0 }
def fX9_close_103  : Nat → Nat → Int32 → Int32 → Int32 → mm_M → Option mm_M
  | 0 => fun _ _ _ _ _ => none
  | n + 1 => fun a0 x1 x2 x3 σ =>
  (if 25 ≤ x3 then some (σ) else mm_sh σ a0 (.inl 9) (mm_on (mm_R σ a0 24) fun q28 => mm_ar σ q28 1 fun n29 => mm_ib ((25 * x2) + x3) n29 (mm_on (mm_R σ a0 33) fun q31 => mm_ar σ q31 1 fun n32 => mm_ib x3 n32 (mm_let (mm_wI σ q31 (x3.toNatClampNeg) (vp_nar .boolean (mm_I σ q28 ((25 * x2) + x3).toNatClampNeg))) fun s34 => (fX9_close_103  n a0 x1 x2 (x3 + 1) s34)))))
def fX9_close_70  : Nat → Nat → Int32 → Int32 → Int32 → mm_M → Option mm_M
  | 0 => fun _ _ _ _ _ => none
  | n + 1 => fun a0 x1 x2 x3 σ =>
  (if 1000 ≤ x3 then (fX9_close_103  mm_fuel a0 x1 x2 0 σ) else mm_sh σ a0 (.inl 9) (mm_on (mm_R σ a0 23) fun q36 => mm_ar σ q36 2 fun n37 => mm_ib ((1000 * x2) + x3) n37 (mm_on (mm_R σ a0 32) fun q39 => mm_ar σ q39 2 fun n40 => mm_ib x3 n40 (mm_let (mm_wI σ q39 (x3.toNatClampNeg) ((mm_I σ q36 ((1000 * x2) + x3).toNatClampNeg).toInt8.toInt32)) fun s42 => (fX9_close_70  n a0 x1 x2 (x3 + 1) s42)))))
def fX9_close (p0 : Nat) (p1 : Int32) (σ : mm_M) : Option mm_M :=
  mm_sh σ p0 (.inl 9) (mm_on (mm_R σ p0 27) fun q2 => mm_ar σ q2 0 fun n3 => mm_ib p1 n3 ((if (mm_I σ q2 p1.toNatClampNeg) = (-1) then some (σ) else mm_on (mm_R σ p0 27) fun q6 => mm_ar σ q6 0 fun n7 => mm_ib p1 n7 (mm_let (mm_wI σ q6 (p1.toNatClampNeg) (-1)) fun s9 => mm_on (mm_R s9 p0 21) fun q10 => mm_ar s9 q10 0 fun n11 => mm_ib (mm_I σ q2 p1.toNatClampNeg) n11 (mm_ib (mm_I σ q2 p1.toNatClampNeg) n11 (mm_let (mm_wI s9 q10 ((mm_I σ q2 p1.toNatClampNeg).toNatClampNeg) ((mm_I s9 q10 (mm_I σ q2 p1.toNatClampNeg).toNatClampNeg) + 1)) fun s14 => (if (mm_I s14 p0 28) = 0 then some (s14) else mm_on (mm_R s14 p0 17) fun q16 => mm_ar s14 q16 0 fun n17 => mm_ib (mm_I σ q2 p1.toNatClampNeg) n17 ((if (mm_I s14 q16 (mm_I σ q2 p1.toNatClampNeg).toNatClampNeg) = (mm_I s14 p0 29) then mm_on (mm_R s14 p0 18) fun q20 => mm_ar s14 q20 0 fun n21 => mm_ib (mm_I σ q2 p1.toNatClampNeg) n21 ((if (mm_I s14 q20 (mm_I σ q2 p1.toNatClampNeg).toNatClampNeg) = (mm_I s14 p0 30) then mm_let (mm_wI s14 p0 31 1) fun s24 => (fX9_close_70  mm_fuel p0 p1 (mm_I σ q2 p1.toNatClampNeg) 0 s24) else some (s14))) else some (s14))))))))))
set_option maxHeartbeats 4000000 in
set_option maxRecDepth 100000 in
theorem kX9_close_103 {G : mm_G} {A : Nat → Prop} {ini : Bool × Option (List (Nat × Nat × Nat × Nat))}  {R : mm_M}  : ∀ (a0 : Nat) (x1 : Int32) (x2 : Int32) (x3 : Int32) (σ : mm_M), fX9_close_103  mm_fuel a0 x1 x2 x3 σ = some R → mm_J cd_Y G RX9 cX9_close 4 none ini rmX9_close A (mm_QF cd_Y G A (mm_Pv R) rmX9_close.cells rmX9_close.slots) 103 [(0, .ref a0), (1, .int x1), (2, .int x2), (3, .int x3)] [] σ 0 0 := by
  generalize mm_fuel = n
  induction n with
  | zero => intro a0 x1 x2 x3 σ hf; cases hf
  | succ n ih =>
    intro a0 x1 x2 x3 σ hf
    unfold fX9_close_103 at hf
    refine mm_iload_n (j := 3) dX9_close_103 rfl rfl ?_
    refine mm_bipush (v := 25) dX9_close_104 (by decide) ?_
    refine mm_icmp_ge (tgt := 132) dX9_close_106 (by decide) (fun c26 => ?_) (fun c26 => ?_)
    · rw [if_pos c26] at hf
      cases hf
      refine mm_widen (ck' := rmX9_close.cells) (sk' := rmX9_close.slots) (Nat.le_of_ble_eq_true rfl) (Nat.le_of_ble_eq_true rfl) ?_
      exact mm_vret rfl dX9_close_132 ⟨rfl, rfl⟩
    · rw [if_neg c26] at hf
      refine mm_aload_n (j := 0) dX9_close_109 rfl rfl ?_
      obtain ⟨hs27, hf⟩ := mm_sh_s hf
      refine mm_get (c := 9) (k := 33) (v := va_rf (mm_R σ a0 33)) cd_ok ⟨_, _, _, rfl, by decide, Or.inl tw_827⟩ hs27 rfl dX9_close_110 ?_
      refine mm_iload_n (j := 3) dX9_close_113 rfl rfl ?_
      refine mm_aload_n (j := 0) dX9_close_114 rfl rfl ?_
      refine mm_get (c := 9) (k := 24) (v := va_rf (mm_R σ a0 24)) cd_ok ⟨_, _, _, rfl, by decide, Or.inl tw_818⟩ hs27 rfl dX9_close_115 ?_
      refine mm_bipush (v := 25) dX9_close_118 (by decide) ?_
      refine mm_iload_n (j := 2) dX9_close_120 rfl rfl ?_
      refine mm_imul dX9_close_121 ?_
      refine mm_iload_n (j := 3) dX9_close_122 rfl rfl ?_
      refine mm_iadd dX9_close_123 ?_
      obtain ⟨q28, hq28, hf⟩ := mm_on_s hf
      rw [hq28, mm_rf_some]
      obtain ⟨n29, hn29, hf⟩ := mm_ar_s hf
      obtain ⟨hi30, hf⟩ := mm_ib_s hf
      refine mm_zald hn29 rfl hi30 dX9_close_124 ?_
      obtain ⟨q31, hq31, hf⟩ := mm_on_s hf
      rw [hq31, mm_rf_some]
      obtain ⟨n32, hn32, hf⟩ := mm_ar_s hf
      obtain ⟨hi33, hf⟩ := mm_ib_s hf
      refine mm_zast hn32 rfl hi33 dX9_close_125 ?_
      obtain ⟨s34, hs34, hf⟩ := mm_let_s hf
      rw [hs34]
      refine mm_iinc (j := 3) (L' := [(3, .int (x3 + 1)), (0, .ref a0), (1, .int x1), (2, .int x2)]) dX9_close_126 rfl rfl (by decide) rfl ?_
      refine mm_goto (tgt := 103) dX9_close_129 (by decide) ?_
      refine mm_sub [1, 2, 3, 0] rfl ?_
      exact ih a0 x1 x2 (x3 + 1) s34 hf
set_option maxHeartbeats 4000000 in
set_option maxRecDepth 100000 in
theorem kX9_close_70 {G : mm_G} {A : Nat → Prop} {ini : Bool × Option (List (Nat × Nat × Nat × Nat))}  {R : mm_M}  : ∀ (a0 : Nat) (x1 : Int32) (x2 : Int32) (x3 : Int32) (σ : mm_M), fX9_close_70  mm_fuel a0 x1 x2 x3 σ = some R → mm_J cd_Y G RX9 cX9_close 4 none ini rmX9_close A (mm_QF cd_Y G A (mm_Pv R) rmX9_close.cells rmX9_close.slots) 70 [(0, .ref a0), (1, .int x1), (2, .int x2), (3, .int x3)] [] σ 0 0 := by
  generalize mm_fuel = n
  induction n with
  | zero => intro a0 x1 x2 x3 σ hf; cases hf
  | succ n ih =>
    intro a0 x1 x2 x3 σ hf
    unfold fX9_close_70 at hf
    refine mm_iload_n (j := 3) dX9_close_70 rfl rfl ?_
    refine mm_sipush (v := 1000) dX9_close_71 (by decide) ?_
    refine mm_icmp_ge (tgt := 101) dX9_close_74 (by decide) (fun c25 => ?_) (fun c25 => ?_)
    · rw [if_pos c25] at hf
      refine mm_iconst (v := 0) dX9_close_101 (by decide) ?_
      refine mm_istore_n (L' := [(3, .int 0), (0, .ref a0), (1, .int x1), (2, .int x2)]) dX9_close_102 rfl (by decide) rfl ?_
      refine mm_sub [1, 2, 3, 0] rfl ?_
      exact kX9_close_103  a0 x1 x2 0 σ hf
    · rw [if_neg c25] at hf
      refine mm_aload_n (j := 0) dX9_close_77 rfl rfl ?_
      obtain ⟨hs35, hf⟩ := mm_sh_s hf
      refine mm_get (c := 9) (k := 32) (v := va_rf (mm_R σ a0 32)) cd_ok ⟨_, _, _, rfl, by decide, Or.inl tw_826⟩ hs35 rfl dX9_close_78 ?_
      refine mm_iload_n (j := 3) dX9_close_81 rfl rfl ?_
      refine mm_aload_n (j := 0) dX9_close_82 rfl rfl ?_
      refine mm_get (c := 9) (k := 23) (v := va_rf (mm_R σ a0 23)) cd_ok ⟨_, _, _, rfl, by decide, Or.inl tw_817⟩ hs35 rfl dX9_close_83 ?_
      refine mm_sipush (v := 1000) dX9_close_86 (by decide) ?_
      refine mm_iload_n (j := 2) dX9_close_89 rfl rfl ?_
      refine mm_imul dX9_close_90 ?_
      refine mm_iload_n (j := 3) dX9_close_91 rfl rfl ?_
      refine mm_iadd dX9_close_92 ?_
      obtain ⟨q36, hq36, hf⟩ := mm_on_s hf
      rw [hq36, mm_rf_some]
      obtain ⟨n37, hn37, hf⟩ := mm_ar_s hf
      obtain ⟨hi38, hf⟩ := mm_ib_s hf
      refine mm_bald hn37 rfl hi38 dX9_close_93 ?_
      obtain ⟨q39, hq39, hf⟩ := mm_on_s hf
      rw [hq39, mm_rf_some]
      obtain ⟨n40, hn40, hf⟩ := mm_ar_s hf
      obtain ⟨hi41, hf⟩ := mm_ib_s hf
      refine mm_bast hn40 rfl hi41 dX9_close_94 ?_
      obtain ⟨s42, hs42, hf⟩ := mm_let_s hf
      rw [hs42]
      refine mm_iinc (j := 3) (L' := [(3, .int (x3 + 1)), (0, .ref a0), (1, .int x1), (2, .int x2)]) dX9_close_95 rfl rfl (by decide) rfl ?_
      refine mm_goto (tgt := 70) dX9_close_98 (by decide) ?_
      refine mm_sub [1, 2, 3, 0] rfl ?_
      exact ih a0 x1 x2 (x3 + 1) s42 hf
set_option maxHeartbeats 4000000 in
set_option maxRecDepth 100000 in
theorem kX9_close {G : mm_G} {A : Nat → Prop} (p0 : Nat) (p1 : Int32) {σ : mm_M} {R : mm_M} (hf : fX9_close p0 p1 σ = some R) : mm_C cd_Y G yX9_close cX9_close 4 none rmX9_close A [.ref p0, .int p1] σ (mm_Pv R) := by
  refine mm_C.of (by decide) (Nat.le_of_ble_eq_true rfl) ?_
  unfold fX9_close at hf
  have e0 : lv_args 0 [.ref p0, .int p1] = [(0, .ref p0), (1, .int p1)] := rfl
  rw [e0]
  generalize hini : ((yX9_close.name == "<init>"), none) = ini
  clear e0
  clear hini
  refine mm_aload_n (j := 0) dX9_close_0 rfl rfl ?_
  obtain ⟨hs1, hf⟩ := mm_sh_s hf
  refine mm_get (c := 9) (k := 27) (v := va_rf (mm_R σ p0 27)) cd_ok ⟨_, _, _, rfl, by decide, Or.inl tw_821⟩ hs1 rfl dX9_close_1 ?_
  refine mm_iload_n (j := 1) dX9_close_4 rfl rfl ?_
  obtain ⟨q2, hq2, hf⟩ := mm_on_s hf
  rw [hq2, mm_rf_some]
  obtain ⟨n3, hn3, hf⟩ := mm_ar_s hf
  obtain ⟨hi4, hf⟩ := mm_ib_s hf
  refine mm_iald hn3 rfl hi4 dX9_close_5 ?_
  refine mm_istore_n (L' := [(2, .int (mm_I σ q2 p1.toNatClampNeg)), (0, .ref p0), (1, .int p1)]) dX9_close_6 rfl (by decide) rfl ?_
  refine mm_iload_n (j := 0) dX9_close_7 rfl rfl ?_
  refine mm_iconst (v := (-1)) dX9_close_8 (by decide) ?_
  refine mm_icmp_ne (tgt := 13) dX9_close_9 (by decide) (fun c5 => ?_) (fun c5 => ?_)
  · rw [if_neg c5] at hf
    refine mm_aload_n (j := 1) dX9_close_13 rfl rfl ?_
    refine mm_get (c := 9) (k := 27) (v := va_rf (mm_R σ p0 27)) cd_ok ⟨_, _, _, rfl, by decide, Or.inl tw_821⟩ hs1 rfl dX9_close_14 ?_
    refine mm_iload_n (j := 2) dX9_close_17 rfl rfl ?_
    refine mm_iconst (v := (-1)) dX9_close_18 (by decide) ?_
    obtain ⟨q6, hq6, hf⟩ := mm_on_s hf
    rw [hq6, mm_rf_some]
    obtain ⟨n7, hn7, hf⟩ := mm_ar_s hf
    obtain ⟨hi8, hf⟩ := mm_ib_s hf
    refine mm_iast hn7 rfl hi8 dX9_close_19 ?_
    obtain ⟨s9, hs9, hf⟩ := mm_let_s hf
    rw [hs9]
    refine mm_aload_n (j := 1) dX9_close_20 rfl rfl ?_
    refine mm_get (c := 9) (k := 21) (v := va_rf (mm_R s9 p0 21)) cd_ok ⟨_, _, _, rfl, by decide, Or.inl tw_815⟩ (mm_ke hs9 hs1) rfl dX9_close_21 ?_
    refine mm_iload_n (j := 0) dX9_close_24 rfl rfl ?_
    refine mm_dup2 dX9_close_25 rfl (mm_rf_cat _) ?_
    obtain ⟨q10, hq10, hf⟩ := mm_on_s hf
    rw [hq10, mm_rf_some]
    obtain ⟨n11, hn11, hf⟩ := mm_ar_s hf
    obtain ⟨hi12, hf⟩ := mm_ib_s hf
    refine mm_iald hn11 rfl hi12 dX9_close_26 ?_
    refine mm_iconst (v := 1) dX9_close_27 (by decide) ?_
    refine mm_iadd dX9_close_28 ?_
    obtain ⟨hi13, hf⟩ := mm_ib_s hf
    refine mm_iast hn11 rfl hi13 dX9_close_29 ?_
    obtain ⟨s14, hs14, hf⟩ := mm_let_s hf
    rw [hs14]
    refine mm_aload_n (j := 1) dX9_close_30 rfl rfl ?_
    refine mm_get (c := 9) (k := 28) (v := .int (mm_I s14 p0 28)) cd_ok ⟨_, _, _, rfl, by decide, Or.inl tw_822⟩ (mm_ke hs14 (mm_ke hs9 hs1)) rfl dX9_close_31 ?_
    refine mm_if_eq (tgt := 132) dX9_close_34 (by decide) (fun c15 => ?_) (fun c15 => ?_)
    · rw [if_pos c15] at hf
      cases hf
      refine mm_widen (ck' := rmX9_close.cells) (sk' := rmX9_close.slots) (Nat.le_of_ble_eq_true rfl) (Nat.le_of_ble_eq_true rfl) ?_
      exact mm_vret rfl dX9_close_132 ⟨rfl, rfl⟩
    · rw [if_neg c15] at hf
      refine mm_aload_n (j := 1) dX9_close_37 rfl rfl ?_
      refine mm_get (c := 9) (k := 17) (v := va_rf (mm_R s14 p0 17)) cd_ok ⟨_, _, _, rfl, by decide, Or.inl tw_811⟩ (mm_ke hs14 (mm_ke hs9 hs1)) rfl dX9_close_38 ?_
      refine mm_iload_n (j := 0) dX9_close_41 rfl rfl ?_
      obtain ⟨q16, hq16, hf⟩ := mm_on_s hf
      rw [hq16, mm_rf_some]
      obtain ⟨n17, hn17, hf⟩ := mm_ar_s hf
      obtain ⟨hi18, hf⟩ := mm_ib_s hf
      refine mm_iald hn17 rfl hi18 dX9_close_42 ?_
      refine mm_aload_n (j := 1) dX9_close_43 rfl rfl ?_
      refine mm_get (c := 9) (k := 29) (v := .int (mm_I s14 p0 29)) cd_ok ⟨_, _, _, rfl, by decide, Or.inl tw_823⟩ (mm_ke hs14 (mm_ke hs9 hs1)) rfl dX9_close_44 ?_
      refine mm_icmp_ne (tgt := 132) dX9_close_47 (by decide) (fun c19 => ?_) (fun c19 => ?_)
      · rw [if_neg c19] at hf
        cases hf
        refine mm_widen (ck' := rmX9_close.cells) (sk' := rmX9_close.slots) (Nat.le_of_ble_eq_true rfl) (Nat.le_of_ble_eq_true rfl) ?_
        exact mm_vret rfl dX9_close_132 ⟨rfl, rfl⟩
      · rw [if_pos c19] at hf
        refine mm_aload_n (j := 1) dX9_close_50 rfl rfl ?_
        refine mm_get (c := 9) (k := 18) (v := va_rf (mm_R s14 p0 18)) cd_ok ⟨_, _, _, rfl, by decide, Or.inl tw_812⟩ (mm_ke hs14 (mm_ke hs9 hs1)) rfl dX9_close_51 ?_
        refine mm_iload_n (j := 0) dX9_close_54 rfl rfl ?_
        obtain ⟨q20, hq20, hf⟩ := mm_on_s hf
        rw [hq20, mm_rf_some]
        obtain ⟨n21, hn21, hf⟩ := mm_ar_s hf
        obtain ⟨hi22, hf⟩ := mm_ib_s hf
        refine mm_iald hn21 rfl hi22 dX9_close_55 ?_
        refine mm_aload_n (j := 1) dX9_close_56 rfl rfl ?_
        refine mm_get (c := 9) (k := 30) (v := .int (mm_I s14 p0 30)) cd_ok ⟨_, _, _, rfl, by decide, Or.inl tw_824⟩ (mm_ke hs14 (mm_ke hs9 hs1)) rfl dX9_close_57 ?_
        refine mm_icmp_ne (tgt := 132) dX9_close_60 (by decide) (fun c23 => ?_) (fun c23 => ?_)
        · rw [if_neg c23] at hf
          cases hf
          refine mm_widen (ck' := rmX9_close.cells) (sk' := rmX9_close.slots) (Nat.le_of_ble_eq_true rfl) (Nat.le_of_ble_eq_true rfl) ?_
          exact mm_vret rfl dX9_close_132 ⟨rfl, rfl⟩
        · rw [if_pos c23] at hf
          refine mm_aload_n (j := 1) dX9_close_63 rfl rfl ?_
          refine mm_iconst (v := 1) dX9_close_64 (by decide) ?_
          refine mm_putI (c := 9) (k := 31) cd_ok ⟨_, _, _, rfl, by decide, rfl, Or.inl tw_825⟩ (mm_ke hs14 (mm_ke hs9 hs1)) rfl rfl rfl dX9_close_65 ?_
          obtain ⟨s24, hs24, hf⟩ := mm_let_s hf
          rw [hs24]
          refine mm_iconst (v := 0) dX9_close_68 (by decide) ?_
          refine mm_istore_n (L' := [(3, .int 0), (2, .int (mm_I σ q2 p1.toNatClampNeg)), (0, .ref p0), (1, .int p1)]) dX9_close_69 rfl (by decide) rfl ?_
          refine mm_sub [2, 3, 1, 0] rfl ?_
          exact kX9_close_70  p0 p1 (mm_I σ q2 p1.toNatClampNeg) 0 s24 hf
  · rw [if_pos c5] at hf
    cases hf
    refine mm_widen (ck' := rmX9_close.cells) (sk' := rmX9_close.slots) (Nat.le_of_ble_eq_true rfl) (Nat.le_of_ble_eq_true rfl) ?_
    exact mm_vret rfl dX9_close_12 ⟨rfl, rfl⟩
theorem dX9_emptyRows_0 : decode cX9_emptyRows 0 = .ok (.iload_n 2, 1) := by decide +kernel
theorem dX9_emptyRows_1 : decode cX9_emptyRows 1 = .ok (.istore_n 3, 1) := by decide +kernel
theorem dX9_emptyRows_2 : decode cX9_emptyRows 2 = .ok (.iload_n 3, 1) := by decide +kernel
theorem dX9_emptyRows_3 : decode cX9_emptyRows 3 = .ok (.bipush 25, 2) := by decide +kernel
theorem dX9_emptyRows_5 : decode cX9_emptyRows 5 = .ok (.if_icmp .ge 21, 3) := by decide +kernel
theorem dX9_emptyRows_8 : decode cX9_emptyRows 8 = .ok (.aload_n 0, 1) := by decide +kernel
theorem dX9_emptyRows_9 : decode cX9_emptyRows 9 = .ok (.getfield 75, 3) := by decide +kernel
theorem dX9_emptyRows_12 : decode cX9_emptyRows 12 = .ok (.bipush 25, 2) := by decide +kernel
theorem dX9_emptyRows_14 : decode cX9_emptyRows 14 = .ok (.iload_n 1, 1) := by decide +kernel
theorem dX9_emptyRows_15 : decode cX9_emptyRows 15 = .ok (.imul, 1) := by decide +kernel
theorem dX9_emptyRows_16 : decode cX9_emptyRows 16 = .ok (.iload_n 3, 1) := by decide +kernel
theorem dX9_emptyRows_17 : decode cX9_emptyRows 17 = .ok (.iadd, 1) := by decide +kernel
theorem dX9_emptyRows_18 : decode cX9_emptyRows 18 = .ok (.iconst 0, 1) := by decide +kernel
theorem dX9_emptyRows_19 : decode cX9_emptyRows 19 = .ok (.bastore, 1) := by decide +kernel
theorem dX9_emptyRows_20 : decode cX9_emptyRows 20 = .ok (.iinc 3 1, 3) := by decide +kernel
theorem dX9_emptyRows_23 : decode cX9_emptyRows 23 = .ok (.goto (-21), 3) := by decide +kernel
theorem dX9_emptyRows_26 : decode cX9_emptyRows 26 = .ok (.iconst 0, 1) := by decide +kernel
theorem dX9_emptyRows_27 : decode cX9_emptyRows 27 = .ok (.istore_n 3, 1) := by decide +kernel
theorem dX9_emptyRows_28 : decode cX9_emptyRows 28 = .ok (.iload_n 3, 1) := by decide +kernel
theorem dX9_emptyRows_29 : decode cX9_emptyRows 29 = .ok (.bipush 6, 2) := by decide +kernel
theorem dX9_emptyRows_31 : decode cX9_emptyRows 31 = .ok (.if_icmp .ge 21, 3) := by decide +kernel
theorem dX9_emptyRows_34 : decode cX9_emptyRows 34 = .ok (.aload_n 0, 1) := by decide +kernel
theorem dX9_emptyRows_35 : decode cX9_emptyRows 35 = .ok (.getfield 81, 3) := by decide +kernel
theorem dX9_emptyRows_38 : decode cX9_emptyRows 38 = .ok (.bipush 6, 2) := by decide +kernel
theorem dX9_emptyRows_40 : decode cX9_emptyRows 40 = .ok (.iload_n 1, 1) := by decide +kernel
theorem dX9_emptyRows_41 : decode cX9_emptyRows 41 = .ok (.imul, 1) := by decide +kernel
theorem dX9_emptyRows_42 : decode cX9_emptyRows 42 = .ok (.iload_n 3, 1) := by decide +kernel
theorem dX9_emptyRows_43 : decode cX9_emptyRows 43 = .ok (.iadd, 1) := by decide +kernel
theorem dX9_emptyRows_44 : decode cX9_emptyRows 44 = .ok (.iconst 0, 1) := by decide +kernel
theorem dX9_emptyRows_45 : decode cX9_emptyRows 45 = .ok (.bastore, 1) := by decide +kernel
theorem dX9_emptyRows_46 : decode cX9_emptyRows 46 = .ok (.iinc 3 1, 3) := by decide +kernel
theorem dX9_emptyRows_49 : decode cX9_emptyRows 49 = .ok (.goto (-21), 3) := by decide +kernel
theorem dX9_emptyRows_52 : decode cX9_emptyRows 52 = .ok (.return_, 1) := by decide +kernel
theorem nmX9_emptyRows : mm_nm yX9_emptyRows 2 := ⟨by decide, by decide, by decide +kernel⟩
theorem cdX9_emptyRows : mm_cd cd_Y yX9_emptyRows cX9_emptyRows 4 none := ⟨tw_1064, tw_8⟩
abbrev rmX9_emptyRows : Room := { frames := 0, cells := 0, slots := 0, locals := 0 }
def fX9_emptyRows_28  : Nat → Nat → Int32 → Int32 → Int32 → mm_M → Option mm_M
  | 0 => fun _ _ _ _ _ => none
  | n + 1 => fun a0 x1 x2 x3 σ =>
  (if 6 ≤ x3 then some (σ) else mm_sh σ a0 (.inl 9) (mm_on (mm_R σ a0 26) fun q4 => mm_ar σ q4 1 fun n5 => mm_ib ((6 * x1) + x3) n5 (mm_let (mm_wI σ q4 (((6 * x1) + x3).toNatClampNeg) (vp_nar .boolean 0)) fun s7 => (fX9_emptyRows_28  n a0 x1 x2 (x3 + 1) s7))))
def fX9_emptyRows_2  : Nat → Nat → Int32 → Int32 → Int32 → mm_M → Option mm_M
  | 0 => fun _ _ _ _ _ => none
  | n + 1 => fun a0 x1 x2 x3 σ =>
  (if 25 ≤ x3 then (fX9_emptyRows_28  mm_fuel a0 x1 x2 0 σ) else mm_sh σ a0 (.inl 9) (mm_on (mm_R σ a0 24) fun q9 => mm_ar σ q9 1 fun n10 => mm_ib ((25 * x1) + x3) n10 (mm_let (mm_wI σ q9 (((25 * x1) + x3).toNatClampNeg) (vp_nar .boolean 0)) fun s12 => (fX9_emptyRows_2  n a0 x1 x2 (x3 + 1) s12))))
def fX9_emptyRows (p0 : Nat) (p1 : Int32) (p2 : Int32) (σ : mm_M) : Option mm_M :=
  (fX9_emptyRows_2  mm_fuel p0 p1 p2 p2 σ)
set_option maxHeartbeats 4000000 in
set_option maxRecDepth 100000 in
theorem kX9_emptyRows_28 {G : mm_G} {A : Nat → Prop} {ini : Bool × Option (List (Nat × Nat × Nat × Nat))}  {R : mm_M}  : ∀ (a0 : Nat) (x1 : Int32) (x2 : Int32) (x3 : Int32) (σ : mm_M), fX9_emptyRows_28  mm_fuel a0 x1 x2 x3 σ = some R → mm_J cd_Y G RX9 cX9_emptyRows 4 none ini rmX9_emptyRows A (mm_QF cd_Y G A (mm_Pv R) rmX9_emptyRows.cells rmX9_emptyRows.slots) 28 [(0, .ref a0), (1, .int x1), (2, .int x2), (3, .int x3)] [] σ 0 0 := by
  generalize mm_fuel = n
  induction n with
  | zero => intro a0 x1 x2 x3 σ hf; cases hf
  | succ n ih =>
    intro a0 x1 x2 x3 σ hf
    unfold fX9_emptyRows_28 at hf
    refine mm_iload_n (j := 3) dX9_emptyRows_28 rfl rfl ?_
    refine mm_bipush (v := 6) dX9_emptyRows_29 (by decide) ?_
    refine mm_icmp_ge (tgt := 52) dX9_emptyRows_31 (by decide) (fun c2 => ?_) (fun c2 => ?_)
    · rw [if_pos c2] at hf
      cases hf
      refine mm_widen (ck' := rmX9_emptyRows.cells) (sk' := rmX9_emptyRows.slots) (Nat.le_of_ble_eq_true rfl) (Nat.le_of_ble_eq_true rfl) ?_
      exact mm_vret rfl dX9_emptyRows_52 ⟨rfl, rfl⟩
    · rw [if_neg c2] at hf
      refine mm_aload_n (j := 0) dX9_emptyRows_34 rfl rfl ?_
      obtain ⟨hs3, hf⟩ := mm_sh_s hf
      refine mm_get (c := 9) (k := 26) (v := va_rf (mm_R σ a0 26)) cd_ok ⟨_, _, _, rfl, by decide, Or.inl tw_820⟩ hs3 rfl dX9_emptyRows_35 ?_
      refine mm_bipush (v := 6) dX9_emptyRows_38 (by decide) ?_
      refine mm_iload_n (j := 1) dX9_emptyRows_40 rfl rfl ?_
      refine mm_imul dX9_emptyRows_41 ?_
      refine mm_iload_n (j := 3) dX9_emptyRows_42 rfl rfl ?_
      refine mm_iadd dX9_emptyRows_43 ?_
      refine mm_iconst (v := 0) dX9_emptyRows_44 (by decide) ?_
      obtain ⟨q4, hq4, hf⟩ := mm_on_s hf
      rw [hq4, mm_rf_some]
      obtain ⟨n5, hn5, hf⟩ := mm_ar_s hf
      obtain ⟨hi6, hf⟩ := mm_ib_s hf
      refine mm_zast hn5 rfl hi6 dX9_emptyRows_45 ?_
      obtain ⟨s7, hs7, hf⟩ := mm_let_s hf
      rw [hs7]
      refine mm_iinc (j := 3) (L' := [(3, .int (x3 + 1)), (0, .ref a0), (1, .int x1), (2, .int x2)]) dX9_emptyRows_46 rfl rfl (by decide) rfl ?_
      refine mm_goto (tgt := 28) dX9_emptyRows_49 (by decide) ?_
      refine mm_sub [1, 2, 3, 0] rfl ?_
      exact ih a0 x1 x2 (x3 + 1) s7 hf
set_option maxHeartbeats 4000000 in
set_option maxRecDepth 100000 in
theorem kX9_emptyRows_2 {G : mm_G} {A : Nat → Prop} {ini : Bool × Option (List (Nat × Nat × Nat × Nat))}  {R : mm_M}  : ∀ (a0 : Nat) (x1 : Int32) (x2 : Int32) (x3 : Int32) (σ : mm_M), fX9_emptyRows_2  mm_fuel a0 x1 x2 x3 σ = some R → mm_J cd_Y G RX9 cX9_emptyRows 4 none ini rmX9_emptyRows A (mm_QF cd_Y G A (mm_Pv R) rmX9_emptyRows.cells rmX9_emptyRows.slots) 2 [(0, .ref a0), (1, .int x1), (2, .int x2), (3, .int x3)] [] σ 0 0 := by
  generalize mm_fuel = n
  induction n with
  | zero => intro a0 x1 x2 x3 σ hf; cases hf
  | succ n ih =>
    intro a0 x1 x2 x3 σ hf
    unfold fX9_emptyRows_2 at hf
    refine mm_iload_n (j := 3) dX9_emptyRows_2 rfl rfl ?_
    refine mm_bipush (v := 25) dX9_emptyRows_3 (by decide) ?_
    refine mm_icmp_ge (tgt := 26) dX9_emptyRows_5 (by decide) (fun c1 => ?_) (fun c1 => ?_)
    · rw [if_pos c1] at hf
      refine mm_iconst (v := 0) dX9_emptyRows_26 (by decide) ?_
      refine mm_istore_n (L' := [(3, .int 0), (0, .ref a0), (1, .int x1), (2, .int x2)]) dX9_emptyRows_27 rfl (by decide) rfl ?_
      refine mm_sub [1, 2, 3, 0] rfl ?_
      exact kX9_emptyRows_28  a0 x1 x2 0 σ hf
    · rw [if_neg c1] at hf
      refine mm_aload_n (j := 0) dX9_emptyRows_8 rfl rfl ?_
      obtain ⟨hs8, hf⟩ := mm_sh_s hf
      refine mm_get (c := 9) (k := 24) (v := va_rf (mm_R σ a0 24)) cd_ok ⟨_, _, _, rfl, by decide, Or.inl tw_818⟩ hs8 rfl dX9_emptyRows_9 ?_
      refine mm_bipush (v := 25) dX9_emptyRows_12 (by decide) ?_
      refine mm_iload_n (j := 1) dX9_emptyRows_14 rfl rfl ?_
      refine mm_imul dX9_emptyRows_15 ?_
      refine mm_iload_n (j := 3) dX9_emptyRows_16 rfl rfl ?_
      refine mm_iadd dX9_emptyRows_17 ?_
      refine mm_iconst (v := 0) dX9_emptyRows_18 (by decide) ?_
      obtain ⟨q9, hq9, hf⟩ := mm_on_s hf
      rw [hq9, mm_rf_some]
      obtain ⟨n10, hn10, hf⟩ := mm_ar_s hf
      obtain ⟨hi11, hf⟩ := mm_ib_s hf
      refine mm_zast hn10 rfl hi11 dX9_emptyRows_19 ?_
      obtain ⟨s12, hs12, hf⟩ := mm_let_s hf
      rw [hs12]
      refine mm_iinc (j := 3) (L' := [(3, .int (x3 + 1)), (0, .ref a0), (1, .int x1), (2, .int x2)]) dX9_emptyRows_20 rfl rfl (by decide) rfl ?_
      refine mm_goto (tgt := 2) dX9_emptyRows_23 (by decide) ?_
      refine mm_sub [1, 2, 3, 0] rfl ?_
      exact ih a0 x1 x2 (x3 + 1) s12 hf
set_option maxHeartbeats 4000000 in
set_option maxRecDepth 100000 in
theorem kX9_emptyRows {G : mm_G} {A : Nat → Prop} (p0 : Nat) (p1 : Int32) (p2 : Int32) {σ : mm_M} {R : mm_M} (hf : fX9_emptyRows p0 p1 p2 σ = some R) : mm_C cd_Y G yX9_emptyRows cX9_emptyRows 4 none rmX9_emptyRows A [.ref p0, .int p1, .int p2] σ (mm_Pv R) := by
  refine mm_C.of (by decide) (Nat.le_of_ble_eq_true rfl) ?_
  unfold fX9_emptyRows at hf
  have e0 : lv_args 0 [.ref p0, .int p1, .int p2] = [(0, .ref p0), (1, .int p1), (2, .int p2)] := rfl
  rw [e0]
  generalize hini : ((yX9_emptyRows.name == "<init>"), none) = ini
  clear e0
  clear hini
  refine mm_iload_n (j := 2) dX9_emptyRows_0 rfl rfl ?_
  refine mm_istore_n (L' := [(3, .int p2), (0, .ref p0), (1, .int p1), (2, .int p2)]) dX9_emptyRows_1 rfl (by decide) rfl ?_
  refine mm_sub [1, 2, 3, 0] rfl ?_
  exact kX9_emptyRows_2  p0 p1 p2 p2 σ hf
theorem dX9_placeOf_0 : decode cX9_placeOf 0 = .ok (.iconst 0, 1) := by decide +kernel
theorem dX9_placeOf_1 : decode cX9_placeOf 1 = .ok (.istore_n 2, 1) := by decide +kernel
theorem dX9_placeOf_2 : decode cX9_placeOf 2 = .ok (.iload_n 2, 1) := by decide +kernel
theorem dX9_placeOf_3 : decode cX9_placeOf 3 = .ok (.aload_n 0, 1) := by decide +kernel
theorem dX9_placeOf_4 : decode cX9_placeOf 4 = .ok (.getfield 206, 3) := by decide +kernel
theorem dX9_placeOf_7 : decode cX9_placeOf 7 = .ok (.if_icmp .ge 21, 3) := by decide +kernel
theorem dX9_placeOf_10 : decode cX9_placeOf 10 = .ok (.aload_n 0, 1) := by decide +kernel
theorem dX9_placeOf_11 : decode cX9_placeOf 11 = .ok (.getfield 47, 3) := by decide +kernel
theorem dX9_placeOf_14 : decode cX9_placeOf 14 = .ok (.iload_n 2, 1) := by decide +kernel
theorem dX9_placeOf_15 : decode cX9_placeOf 15 = .ok (.iaload, 1) := by decide +kernel
theorem dX9_placeOf_16 : decode cX9_placeOf 16 = .ok (.iload_n 1, 1) := by decide +kernel
theorem dX9_placeOf_17 : decode cX9_placeOf 17 = .ok (.if_icmp .ne 5, 3) := by decide +kernel
theorem dX9_placeOf_20 : decode cX9_placeOf 20 = .ok (.iload_n 2, 1) := by decide +kernel
theorem dX9_placeOf_21 : decode cX9_placeOf 21 = .ok (.ireturn, 1) := by decide +kernel
theorem dX9_placeOf_22 : decode cX9_placeOf 22 = .ok (.iinc 2 1, 3) := by decide +kernel
theorem dX9_placeOf_25 : decode cX9_placeOf 25 = .ok (.goto (-23), 3) := by decide +kernel
theorem dX9_placeOf_28 : decode cX9_placeOf 28 = .ok (.iconst (-1), 1) := by decide +kernel
theorem dX9_placeOf_29 : decode cX9_placeOf 29 = .ok (.ireturn, 1) := by decide +kernel
theorem nmX9_placeOf : mm_nm yX9_placeOf 1 := ⟨by decide, by decide, by decide +kernel⟩
theorem cdX9_placeOf : mm_cd cd_Y yX9_placeOf cX9_placeOf 3 (some .int) := ⟨tw_1104, tw_8⟩
abbrev rmX9_placeOf : Room := { frames := 0, cells := 0, slots := 0, locals := 0 }
def fX9_placeOf_2  : Nat → Nat → Int32 → Int32 → mm_M → Option (Int32 × mm_M)
  | 0 => fun _ _ _ _ => none
  | n + 1 => fun a0 x1 x2 σ =>
  mm_sh σ a0 (.inl 9) ((if (mm_I σ a0 14) ≤ x2 then some ((-1), σ) else mm_on (mm_R σ a0 15) fun q3 => mm_ar σ q3 0 fun n4 => mm_ib x2 n4 ((if (mm_I σ q3 x2.toNatClampNeg) = x1 then some (x2, σ) else (fX9_placeOf_2  n a0 x1 (x2 + 1) σ)))))
def fX9_placeOf (p0 : Nat) (p1 : Int32) (σ : mm_M) : Option (Int32 × mm_M) :=
  (fX9_placeOf_2  mm_fuel p0 p1 0 σ)
set_option maxHeartbeats 4000000 in
set_option maxRecDepth 100000 in
theorem kX9_placeOf_2 {G : mm_G} {A : Nat → Prop} {ini : Bool × Option (List (Nat × Nat × Nat × Nat))}  {R : (Int32 × mm_M)}  : ∀ (a0 : Nat) (x1 : Int32) (x2 : Int32) (σ : mm_M), fX9_placeOf_2  mm_fuel a0 x1 x2 σ = some R → mm_J cd_Y G RX9 cX9_placeOf 3 (some .int) ini rmX9_placeOf A (mm_QF cd_Y G A (mm_Pi R.1 R.2) rmX9_placeOf.cells rmX9_placeOf.slots) 2 [(0, .ref a0), (1, .int x1), (2, .int x2)] [] σ 0 0 := by
  generalize mm_fuel = n
  induction n with
  | zero => intro a0 x1 x2 σ hf; cases hf
  | succ n ih =>
    intro a0 x1 x2 σ hf
    unfold fX9_placeOf_2 at hf
    refine mm_iload_n (j := 2) dX9_placeOf_2 rfl rfl ?_
    refine mm_aload_n (j := 0) dX9_placeOf_3 rfl rfl ?_
    obtain ⟨hs1, hf⟩ := mm_sh_s hf
    refine mm_get (c := 9) (k := 14) (v := .int (mm_I σ a0 14)) cd_ok ⟨_, _, _, rfl, by decide, Or.inl tw_808⟩ hs1 rfl dX9_placeOf_4 ?_
    refine mm_icmp_ge (tgt := 28) dX9_placeOf_7 (by decide) (fun c2 => ?_) (fun c2 => ?_)
    · rw [if_pos c2] at hf
      refine mm_iconst (v := (-1)) dX9_placeOf_28 (by decide) ?_
      cases hf
      refine mm_widen (ck' := rmX9_placeOf.cells) (sk' := rmX9_placeOf.slots) (Nat.le_of_ble_eq_true rfl) (Nat.le_of_ble_eq_true rfl) ?_
      exact mm_iret rfl rfl dX9_placeOf_29 ⟨rfl, rfl⟩
    · rw [if_neg c2] at hf
      refine mm_aload_n (j := 0) dX9_placeOf_10 rfl rfl ?_
      refine mm_get (c := 9) (k := 15) (v := va_rf (mm_R σ a0 15)) cd_ok ⟨_, _, _, rfl, by decide, Or.inl tw_809⟩ hs1 rfl dX9_placeOf_11 ?_
      refine mm_iload_n (j := 2) dX9_placeOf_14 rfl rfl ?_
      obtain ⟨q3, hq3, hf⟩ := mm_on_s hf
      rw [hq3, mm_rf_some]
      obtain ⟨n4, hn4, hf⟩ := mm_ar_s hf
      obtain ⟨hi5, hf⟩ := mm_ib_s hf
      refine mm_iald hn4 rfl hi5 dX9_placeOf_15 ?_
      refine mm_iload_n (j := 1) dX9_placeOf_16 rfl rfl ?_
      refine mm_icmp_ne (tgt := 22) dX9_placeOf_17 (by decide) (fun c6 => ?_) (fun c6 => ?_)
      · rw [if_neg c6] at hf
        refine mm_iinc (j := 2) (L' := [(2, .int (x2 + 1)), (0, .ref a0), (1, .int x1)]) dX9_placeOf_22 rfl rfl (by decide) rfl ?_
        refine mm_goto (tgt := 2) dX9_placeOf_25 (by decide) ?_
        refine mm_sub [1, 2, 0] rfl ?_
        exact ih a0 x1 (x2 + 1) σ hf
      · rw [if_pos c6] at hf
        refine mm_iload_n (j := 2) dX9_placeOf_20 rfl rfl ?_
        cases hf
        refine mm_widen (ck' := rmX9_placeOf.cells) (sk' := rmX9_placeOf.slots) (Nat.le_of_ble_eq_true rfl) (Nat.le_of_ble_eq_true rfl) ?_
        exact mm_iret rfl rfl dX9_placeOf_21 ⟨rfl, rfl⟩
set_option maxHeartbeats 4000000 in
set_option maxRecDepth 100000 in
theorem kX9_placeOf {G : mm_G} {A : Nat → Prop} (p0 : Nat) (p1 : Int32) {σ : mm_M} {R : (Int32 × mm_M)} (hf : fX9_placeOf p0 p1 σ = some R) : mm_C cd_Y G yX9_placeOf cX9_placeOf 3 (some .int) rmX9_placeOf A [.ref p0, .int p1] σ (mm_Pi R.1 R.2) := by
  refine mm_C.of (by decide) (Nat.le_of_ble_eq_true rfl) ?_
  unfold fX9_placeOf at hf
  have e0 : lv_args 0 [.ref p0, .int p1] = [(0, .ref p0), (1, .int p1)] := rfl
  rw [e0]
  generalize hini : ((yX9_placeOf.name == "<init>"), none) = ini
  clear e0
  clear hini
  refine mm_iconst (v := 0) dX9_placeOf_0 (by decide) ?_
  refine mm_istore_n (L' := [(2, .int 0), (0, .ref p0), (1, .int p1)]) dX9_placeOf_1 rfl (by decide) rfl ?_
  refine mm_sub [1, 2, 0] rfl ?_
  exact kX9_placeOf_2  p0 p1 0 σ hf
theorem dX9_takeOut_0 : decode cX9_takeOut 0 = .ok (.aload_n 0, 1) := by decide +kernel
theorem dX9_takeOut_1 : decode cX9_takeOut 1 = .ok (.dup, 1) := by decide +kernel
theorem dX9_takeOut_2 : decode cX9_takeOut 2 = .ok (.getfield 206, 3) := by decide +kernel
theorem dX9_takeOut_5 : decode cX9_takeOut 5 = .ok (.iconst 1, 1) := by decide +kernel
theorem dX9_takeOut_6 : decode cX9_takeOut 6 = .ok (.isub, 1) := by decide +kernel
theorem dX9_takeOut_7 : decode cX9_takeOut 7 = .ok (.putfield 206, 3) := by decide +kernel
theorem dX9_takeOut_10 : decode cX9_takeOut 10 = .ok (.iload_n 1, 1) := by decide +kernel
theorem dX9_takeOut_11 : decode cX9_takeOut 11 = .ok (.istore_n 2, 1) := by decide +kernel
theorem dX9_takeOut_12 : decode cX9_takeOut 12 = .ok (.iload_n 2, 1) := by decide +kernel
theorem dX9_takeOut_13 : decode cX9_takeOut 13 = .ok (.aload_n 0, 1) := by decide +kernel
theorem dX9_takeOut_14 : decode cX9_takeOut 14 = .ok (.getfield 206, 3) := by decide +kernel
theorem dX9_takeOut_17 : decode cX9_takeOut 17 = .ok (.if_icmp .ge 23, 3) := by decide +kernel
theorem dX9_takeOut_20 : decode cX9_takeOut 20 = .ok (.aload_n 0, 1) := by decide +kernel
theorem dX9_takeOut_21 : decode cX9_takeOut 21 = .ok (.getfield 47, 3) := by decide +kernel
theorem dX9_takeOut_24 : decode cX9_takeOut 24 = .ok (.iload_n 2, 1) := by decide +kernel
theorem dX9_takeOut_25 : decode cX9_takeOut 25 = .ok (.aload_n 0, 1) := by decide +kernel
theorem dX9_takeOut_26 : decode cX9_takeOut 26 = .ok (.getfield 47, 3) := by decide +kernel
theorem dX9_takeOut_29 : decode cX9_takeOut 29 = .ok (.iload_n 2, 1) := by decide +kernel
theorem dX9_takeOut_30 : decode cX9_takeOut 30 = .ok (.iconst 1, 1) := by decide +kernel
theorem dX9_takeOut_31 : decode cX9_takeOut 31 = .ok (.iadd, 1) := by decide +kernel
theorem dX9_takeOut_32 : decode cX9_takeOut 32 = .ok (.iaload, 1) := by decide +kernel
theorem dX9_takeOut_33 : decode cX9_takeOut 33 = .ok (.iastore, 1) := by decide +kernel
theorem dX9_takeOut_34 : decode cX9_takeOut 34 = .ok (.iinc 2 1, 3) := by decide +kernel
theorem dX9_takeOut_37 : decode cX9_takeOut 37 = .ok (.goto (-25), 3) := by decide +kernel
theorem dX9_takeOut_40 : decode cX9_takeOut 40 = .ok (.return_, 1) := by decide +kernel
theorem nmX9_takeOut : mm_nm yX9_takeOut 1 := ⟨by decide, by decide, by decide +kernel⟩
theorem cdX9_takeOut : mm_cd cd_Y yX9_takeOut cX9_takeOut 3 none := ⟨tw_1060, tw_8⟩
abbrev rmX9_takeOut : Room := { frames := 0, cells := 0, slots := 0, locals := 0 }
def fX9_takeOut_12  : Nat → Nat → Int32 → Int32 → mm_M → Option mm_M
  | 0 => fun _ _ _ _ => none
  | n + 1 => fun a0 x1 x2 σ =>
  mm_sh σ a0 (.inl 9) ((if (mm_I σ a0 14) ≤ x2 then some (σ) else mm_on (mm_R σ a0 15) fun q5 => mm_ar σ q5 0 fun n6 => mm_ib (x2 + 1) n6 (mm_ib x2 n6 (mm_let (mm_wI σ q5 (x2.toNatClampNeg) (mm_I σ q5 (x2 + 1).toNatClampNeg)) fun s9 => (fX9_takeOut_12  n a0 x1 (x2 + 1) s9)))))
def fX9_takeOut (p0 : Nat) (p1 : Int32) (σ : mm_M) : Option mm_M :=
  mm_sh σ p0 (.inl 9) (mm_let (mm_wI σ p0 14 ((mm_I σ p0 14) - 1)) fun s2 => (fX9_takeOut_12  mm_fuel p0 p1 p1 s2))
set_option maxHeartbeats 4000000 in
set_option maxRecDepth 100000 in
theorem kX9_takeOut_12 {G : mm_G} {A : Nat → Prop} {ini : Bool × Option (List (Nat × Nat × Nat × Nat))}  {R : mm_M}  : ∀ (a0 : Nat) (x1 : Int32) (x2 : Int32) (σ : mm_M), fX9_takeOut_12  mm_fuel a0 x1 x2 σ = some R → mm_J cd_Y G RX9 cX9_takeOut 3 none ini rmX9_takeOut A (mm_QF cd_Y G A (mm_Pv R) rmX9_takeOut.cells rmX9_takeOut.slots) 12 [(0, .ref a0), (1, .int x1), (2, .int x2)] [] σ 0 0 := by
  generalize mm_fuel = n
  induction n with
  | zero => intro a0 x1 x2 σ hf; cases hf
  | succ n ih =>
    intro a0 x1 x2 σ hf
    unfold fX9_takeOut_12 at hf
    refine mm_iload_n (j := 2) dX9_takeOut_12 rfl rfl ?_
    refine mm_aload_n (j := 0) dX9_takeOut_13 rfl rfl ?_
    obtain ⟨hs3, hf⟩ := mm_sh_s hf
    refine mm_get (c := 9) (k := 14) (v := .int (mm_I σ a0 14)) cd_ok ⟨_, _, _, rfl, by decide, Or.inl tw_808⟩ hs3 rfl dX9_takeOut_14 ?_
    refine mm_icmp_ge (tgt := 40) dX9_takeOut_17 (by decide) (fun c4 => ?_) (fun c4 => ?_)
    · rw [if_pos c4] at hf
      cases hf
      refine mm_widen (ck' := rmX9_takeOut.cells) (sk' := rmX9_takeOut.slots) (Nat.le_of_ble_eq_true rfl) (Nat.le_of_ble_eq_true rfl) ?_
      exact mm_vret rfl dX9_takeOut_40 ⟨rfl, rfl⟩
    · rw [if_neg c4] at hf
      refine mm_aload_n (j := 0) dX9_takeOut_20 rfl rfl ?_
      refine mm_get (c := 9) (k := 15) (v := va_rf (mm_R σ a0 15)) cd_ok ⟨_, _, _, rfl, by decide, Or.inl tw_809⟩ hs3 rfl dX9_takeOut_21 ?_
      refine mm_iload_n (j := 2) dX9_takeOut_24 rfl rfl ?_
      refine mm_aload_n (j := 0) dX9_takeOut_25 rfl rfl ?_
      refine mm_get (c := 9) (k := 15) (v := va_rf (mm_R σ a0 15)) cd_ok ⟨_, _, _, rfl, by decide, Or.inl tw_809⟩ hs3 rfl dX9_takeOut_26 ?_
      refine mm_iload_n (j := 2) dX9_takeOut_29 rfl rfl ?_
      refine mm_iconst (v := 1) dX9_takeOut_30 (by decide) ?_
      refine mm_iadd dX9_takeOut_31 ?_
      obtain ⟨q5, hq5, hf⟩ := mm_on_s hf
      rw [hq5, mm_rf_some]
      obtain ⟨n6, hn6, hf⟩ := mm_ar_s hf
      obtain ⟨hi7, hf⟩ := mm_ib_s hf
      refine mm_iald hn6 rfl hi7 dX9_takeOut_32 ?_
      obtain ⟨hi8, hf⟩ := mm_ib_s hf
      refine mm_iast hn6 rfl hi8 dX9_takeOut_33 ?_
      obtain ⟨s9, hs9, hf⟩ := mm_let_s hf
      rw [hs9]
      refine mm_iinc (j := 2) (L' := [(2, .int (x2 + 1)), (0, .ref a0), (1, .int x1)]) dX9_takeOut_34 rfl rfl (by decide) rfl ?_
      refine mm_goto (tgt := 12) dX9_takeOut_37 (by decide) ?_
      refine mm_sub [1, 2, 0] rfl ?_
      exact ih a0 x1 (x2 + 1) s9 hf
set_option maxHeartbeats 4000000 in
set_option maxRecDepth 100000 in
theorem kX9_takeOut {G : mm_G} {A : Nat → Prop} (p0 : Nat) (p1 : Int32) {σ : mm_M} {R : mm_M} (hf : fX9_takeOut p0 p1 σ = some R) : mm_C cd_Y G yX9_takeOut cX9_takeOut 3 none rmX9_takeOut A [.ref p0, .int p1] σ (mm_Pv R) := by
  refine mm_C.of (by decide) (Nat.le_of_ble_eq_true rfl) ?_
  unfold fX9_takeOut at hf
  have e0 : lv_args 0 [.ref p0, .int p1] = [(0, .ref p0), (1, .int p1)] := rfl
  rw [e0]
  generalize hini : ((yX9_takeOut.name == "<init>"), none) = ini
  clear e0
  clear hini
  refine mm_aload_n (j := 0) dX9_takeOut_0 rfl rfl ?_
  refine mm_dup dX9_takeOut_1 rfl ?_
  obtain ⟨hs1, hf⟩ := mm_sh_s hf
  refine mm_get (c := 9) (k := 14) (v := .int (mm_I σ p0 14)) cd_ok ⟨_, _, _, rfl, by decide, Or.inl tw_808⟩ hs1 rfl dX9_takeOut_2 ?_
  refine mm_iconst (v := 1) dX9_takeOut_5 (by decide) ?_
  refine mm_isub dX9_takeOut_6 ?_
  refine mm_putI (c := 9) (k := 14) cd_ok ⟨_, _, _, rfl, by decide, rfl, Or.inl tw_808⟩ hs1 rfl rfl rfl dX9_takeOut_7 ?_
  obtain ⟨s2, hs2, hf⟩ := mm_let_s hf
  rw [hs2]
  refine mm_iload_n (j := 1) dX9_takeOut_10 rfl rfl ?_
  refine mm_istore_n (L' := [(2, .int p1), (0, .ref p0), (1, .int p1)]) dX9_takeOut_11 rfl (by decide) rfl ?_
  refine mm_sub [1, 2, 0] rfl ?_
  exact kX9_takeOut_12  p0 p1 p1 s2 hf
theorem dX9_pageFor_0 : decode cX9_pageFor 0 = .ok (.iconst 0, 1) := by decide +kernel
theorem dX9_pageFor_1 : decode cX9_pageFor 1 = .ok (.istore 4, 2) := by decide +kernel
theorem dX9_pageFor_3 : decode cX9_pageFor 3 = .ok (.iload 4, 2) := by decide +kernel
theorem dX9_pageFor_5 : decode cX9_pageFor 5 = .ok (.aload_n 0, 1) := by decide +kernel
theorem dX9_pageFor_6 : decode cX9_pageFor 6 = .ok (.getfield 206, 3) := by decide +kernel
theorem dX9_pageFor_9 : decode cX9_pageFor 9 = .ok (.if_icmp .ge 60, 3) := by decide +kernel
theorem dX9_pageFor_12 : decode cX9_pageFor 12 = .ok (.aload_n 0, 1) := by decide +kernel
theorem dX9_pageFor_13 : decode cX9_pageFor 13 = .ok (.getfield 47, 3) := by decide +kernel
theorem dX9_pageFor_16 : decode cX9_pageFor 16 = .ok (.iload 4, 2) := by decide +kernel
theorem dX9_pageFor_18 : decode cX9_pageFor 18 = .ok (.iaload, 1) := by decide +kernel
theorem dX9_pageFor_19 : decode cX9_pageFor 19 = .ok (.istore 5, 2) := by decide +kernel
theorem dX9_pageFor_21 : decode cX9_pageFor 21 = .ok (.aload_n 0, 1) := by decide +kernel
theorem dX9_pageFor_22 : decode cX9_pageFor 22 = .ok (.getfield 54, 3) := by decide +kernel
theorem dX9_pageFor_25 : decode cX9_pageFor 25 = .ok (.iload 5, 2) := by decide +kernel
theorem dX9_pageFor_27 : decode cX9_pageFor 27 = .ok (.iaload, 1) := by decide +kernel
theorem dX9_pageFor_28 : decode cX9_pageFor 28 = .ok (.iload_n 1, 1) := by decide +kernel
theorem dX9_pageFor_29 : decode cX9_pageFor 29 = .ok (.if_icmp .ne 34, 3) := by decide +kernel
theorem dX9_pageFor_32 : decode cX9_pageFor 32 = .ok (.aload_n 0, 1) := by decide +kernel
theorem dX9_pageFor_33 : decode cX9_pageFor 33 = .ok (.getfield 57, 3) := by decide +kernel
theorem dX9_pageFor_36 : decode cX9_pageFor 36 = .ok (.iload 5, 2) := by decide +kernel
theorem dX9_pageFor_38 : decode cX9_pageFor 38 = .ok (.iaload, 1) := by decide +kernel
theorem dX9_pageFor_39 : decode cX9_pageFor 39 = .ok (.iload_n 2, 1) := by decide +kernel
theorem dX9_pageFor_40 : decode cX9_pageFor 40 = .ok (.if_icmp .ne 23, 3) := by decide +kernel
theorem dX9_pageFor_43 : decode cX9_pageFor 43 = .ok (.aload_n 0, 1) := by decide +kernel
theorem dX9_pageFor_44 : decode cX9_pageFor 44 = .ok (.getfield 60, 3) := by decide +kernel
theorem dX9_pageFor_47 : decode cX9_pageFor 47 = .ok (.iload 5, 2) := by decide +kernel
theorem dX9_pageFor_49 : decode cX9_pageFor 49 = .ok (.iaload, 1) := by decide +kernel
theorem dX9_pageFor_50 : decode cX9_pageFor 50 = .ok (.iload_n 3, 1) := by decide +kernel
theorem dX9_pageFor_51 : decode cX9_pageFor 51 = .ok (.if_icmp .ne 12, 3) := by decide +kernel
theorem dX9_pageFor_54 : decode cX9_pageFor 54 = .ok (.aload_n 0, 1) := by decide +kernel
theorem dX9_pageFor_55 : decode cX9_pageFor 55 = .ok (.iload 4, 2) := by decide +kernel
theorem dX9_pageFor_57 : decode cX9_pageFor 57 = .ok (.invokevirtual 209, 3) := by decide +kernel
theorem dX9_pageFor_60 : decode cX9_pageFor 60 = .ok (.iload 5, 2) := by decide +kernel
theorem dX9_pageFor_62 : decode cX9_pageFor 62 = .ok (.ireturn, 1) := by decide +kernel
theorem dX9_pageFor_63 : decode cX9_pageFor 63 = .ok (.iinc 4 1, 3) := by decide +kernel
theorem dX9_pageFor_66 : decode cX9_pageFor 66 = .ok (.goto (-63), 3) := by decide +kernel
theorem dX9_pageFor_69 : decode cX9_pageFor 69 = .ok (.aload_n 0, 1) := by decide +kernel
theorem dX9_pageFor_70 : decode cX9_pageFor 70 = .ok (.getfield 206, 3) := by decide +kernel
theorem dX9_pageFor_73 : decode cX9_pageFor 73 = .ok (.bipush 20, 2) := by decide +kernel
theorem dX9_pageFor_75 : decode cX9_pageFor 75 = .ok (.if_icmp .ne 70, 3) := by decide +kernel
theorem dX9_pageFor_78 : decode cX9_pageFor 78 = .ok (.aload_n 0, 1) := by decide +kernel
theorem dX9_pageFor_79 : decode cX9_pageFor 79 = .ok (.getfield 47, 3) := by decide +kernel
theorem dX9_pageFor_82 : decode cX9_pageFor 82 = .ok (.iconst 0, 1) := by decide +kernel
theorem dX9_pageFor_83 : decode cX9_pageFor 83 = .ok (.iaload, 1) := by decide +kernel
theorem dX9_pageFor_84 : decode cX9_pageFor 84 = .ok (.istore 4, 2) := by decide +kernel
theorem dX9_pageFor_86 : decode cX9_pageFor 86 = .ok (.aload_n 0, 1) := by decide +kernel
theorem dX9_pageFor_87 : decode cX9_pageFor 87 = .ok (.iconst 0, 1) := by decide +kernel
theorem dX9_pageFor_88 : decode cX9_pageFor 88 = .ok (.invokevirtual 209, 3) := by decide +kernel
theorem dX9_pageFor_91 : decode cX9_pageFor 91 = .ok (.aload_n 0, 1) := by decide +kernel
theorem dX9_pageFor_92 : decode cX9_pageFor 92 = .ok (.getfield 50, 3) := by decide +kernel
theorem dX9_pageFor_95 : decode cX9_pageFor 95 = .ok (.iload 4, 2) := by decide +kernel
theorem dX9_pageFor_97 : decode cX9_pageFor 97 = .ok (.iconst 0, 1) := by decide +kernel
theorem dX9_pageFor_98 : decode cX9_pageFor 98 = .ok (.bastore, 1) := by decide +kernel
theorem dX9_pageFor_99 : decode cX9_pageFor 99 = .ok (.iconst 1, 1) := by decide +kernel
theorem dX9_pageFor_100 : decode cX9_pageFor 100 = .ok (.istore 5, 2) := by decide +kernel
theorem dX9_pageFor_102 : decode cX9_pageFor 102 = .ok (.iload 5, 2) := by decide +kernel
theorem dX9_pageFor_104 : decode cX9_pageFor 104 = .ok (.bipush 9, 2) := by decide +kernel
theorem dX9_pageFor_106 : decode cX9_pageFor 106 = .ok (.if_icmp .ge 39, 3) := by decide +kernel
theorem dX9_pageFor_109 : decode cX9_pageFor 109 = .ok (.aload_n 0, 1) := by decide +kernel
theorem dX9_pageFor_110 : decode cX9_pageFor 110 = .ok (.getfield 84, 3) := by decide +kernel
theorem dX9_pageFor_113 : decode cX9_pageFor 113 = .ok (.iload 5, 2) := by decide +kernel
theorem dX9_pageFor_115 : decode cX9_pageFor 115 = .ok (.aload_n 0, 1) := by decide +kernel
theorem dX9_pageFor_116 : decode cX9_pageFor 116 = .ok (.getfield 84, 3) := by decide +kernel
theorem dX9_pageFor_119 : decode cX9_pageFor 119 = .ok (.iload 5, 2) := by decide +kernel
theorem dX9_pageFor_121 : decode cX9_pageFor 121 = .ok (.iaload, 1) := by decide +kernel
theorem dX9_pageFor_122 : decode cX9_pageFor 122 = .ok (.iload 4, 2) := by decide +kernel
theorem dX9_pageFor_124 : decode cX9_pageFor 124 = .ok (.if_icmp .ne 7, 3) := by decide +kernel
theorem dX9_pageFor_127 : decode cX9_pageFor 127 = .ok (.iconst (-1), 1) := by decide +kernel
theorem dX9_pageFor_128 : decode cX9_pageFor 128 = .ok (.goto 10, 3) := by decide +kernel
theorem dX9_pageFor_131 : decode cX9_pageFor 131 = .ok (.aload_n 0, 1) := by decide +kernel
theorem dX9_pageFor_132 : decode cX9_pageFor 132 = .ok (.getfield 84, 3) := by decide +kernel
theorem dX9_pageFor_135 : decode cX9_pageFor 135 = .ok (.iload 5, 2) := by decide +kernel
theorem dX9_pageFor_137 : decode cX9_pageFor 137 = .ok (.iaload, 1) := by decide +kernel
theorem dX9_pageFor_138 : decode cX9_pageFor 138 = .ok (.iastore, 1) := by decide +kernel
theorem dX9_pageFor_139 : decode cX9_pageFor 139 = .ok (.iinc 5 1, 3) := by decide +kernel
theorem dX9_pageFor_142 : decode cX9_pageFor 142 = .ok (.goto (-40), 3) := by decide +kernel
theorem dX9_pageFor_145 : decode cX9_pageFor 145 = .ok (.iconst 0, 1) := by decide +kernel
theorem dX9_pageFor_146 : decode cX9_pageFor 146 = .ok (.istore 4, 2) := by decide +kernel
theorem dX9_pageFor_148 : decode cX9_pageFor 148 = .ok (.aload_n 0, 1) := by decide +kernel
theorem dX9_pageFor_149 : decode cX9_pageFor 149 = .ok (.getfield 50, 3) := by decide +kernel
theorem dX9_pageFor_152 : decode cX9_pageFor 152 = .ok (.iload 4, 2) := by decide +kernel
theorem dX9_pageFor_154 : decode cX9_pageFor 154 = .ok (.baload, 1) := by decide +kernel
theorem dX9_pageFor_155 : decode cX9_pageFor 155 = .ok (.ifCond .eq 9, 3) := by decide +kernel
theorem dX9_pageFor_158 : decode cX9_pageFor 158 = .ok (.iinc 4 1, 3) := by decide +kernel
theorem dX9_pageFor_161 : decode cX9_pageFor 161 = .ok (.goto (-13), 3) := by decide +kernel
theorem dX9_pageFor_164 : decode cX9_pageFor 164 = .ok (.aload_n 0, 1) := by decide +kernel
theorem dX9_pageFor_165 : decode cX9_pageFor 165 = .ok (.getfield 50, 3) := by decide +kernel
theorem dX9_pageFor_168 : decode cX9_pageFor 168 = .ok (.iload 4, 2) := by decide +kernel
theorem dX9_pageFor_170 : decode cX9_pageFor 170 = .ok (.iconst 1, 1) := by decide +kernel
theorem dX9_pageFor_171 : decode cX9_pageFor 171 = .ok (.bastore, 1) := by decide +kernel
theorem dX9_pageFor_172 : decode cX9_pageFor 172 = .ok (.aload_n 0, 1) := by decide +kernel
theorem dX9_pageFor_173 : decode cX9_pageFor 173 = .ok (.getfield 54, 3) := by decide +kernel
theorem dX9_pageFor_176 : decode cX9_pageFor 176 = .ok (.iload 4, 2) := by decide +kernel
theorem dX9_pageFor_178 : decode cX9_pageFor 178 = .ok (.iload_n 1, 1) := by decide +kernel
theorem dX9_pageFor_179 : decode cX9_pageFor 179 = .ok (.iastore, 1) := by decide +kernel
theorem dX9_pageFor_180 : decode cX9_pageFor 180 = .ok (.aload_n 0, 1) := by decide +kernel
theorem dX9_pageFor_181 : decode cX9_pageFor 181 = .ok (.getfield 57, 3) := by decide +kernel
theorem dX9_pageFor_184 : decode cX9_pageFor 184 = .ok (.iload 4, 2) := by decide +kernel
theorem dX9_pageFor_186 : decode cX9_pageFor 186 = .ok (.iload_n 2, 1) := by decide +kernel
theorem dX9_pageFor_187 : decode cX9_pageFor 187 = .ok (.iastore, 1) := by decide +kernel
theorem dX9_pageFor_188 : decode cX9_pageFor 188 = .ok (.aload_n 0, 1) := by decide +kernel
theorem dX9_pageFor_189 : decode cX9_pageFor 189 = .ok (.getfield 60, 3) := by decide +kernel
theorem dX9_pageFor_192 : decode cX9_pageFor 192 = .ok (.iload 4, 2) := by decide +kernel
theorem dX9_pageFor_194 : decode cX9_pageFor 194 = .ok (.iload_n 3, 1) := by decide +kernel
theorem dX9_pageFor_195 : decode cX9_pageFor 195 = .ok (.iastore, 1) := by decide +kernel
theorem dX9_pageFor_196 : decode cX9_pageFor 196 = .ok (.aload_n 0, 1) := by decide +kernel
theorem dX9_pageFor_197 : decode cX9_pageFor 197 = .ok (.getfield 66, 3) := by decide +kernel
theorem dX9_pageFor_200 : decode cX9_pageFor 200 = .ok (.iload 4, 2) := by decide +kernel
theorem dX9_pageFor_202 : decode cX9_pageFor 202 = .ok (.iconst 0, 1) := by decide +kernel
theorem dX9_pageFor_203 : decode cX9_pageFor 203 = .ok (.iastore, 1) := by decide +kernel
theorem dX9_pageFor_204 : decode cX9_pageFor 204 = .ok (.aload_n 0, 1) := by decide +kernel
theorem dX9_pageFor_205 : decode cX9_pageFor 205 = .ok (.getfield 69, 3) := by decide +kernel
theorem dX9_pageFor_208 : decode cX9_pageFor 208 = .ok (.iload 4, 2) := by decide +kernel
theorem dX9_pageFor_210 : decode cX9_pageFor 210 = .ok (.iconst 0, 1) := by decide +kernel
theorem dX9_pageFor_211 : decode cX9_pageFor 211 = .ok (.iastore, 1) := by decide +kernel
theorem dX9_pageFor_212 : decode cX9_pageFor 212 = .ok (.aload_n 0, 1) := by decide +kernel
theorem dX9_pageFor_213 : decode cX9_pageFor 213 = .ok (.iload 4, 2) := by decide +kernel
theorem dX9_pageFor_215 : decode cX9_pageFor 215 = .ok (.iconst 0, 1) := by decide +kernel
theorem dX9_pageFor_216 : decode cX9_pageFor 216 = .ok (.invokevirtual 212, 3) := by decide +kernel
theorem dX9_pageFor_219 : decode cX9_pageFor 219 = .ok (.iload 4, 2) := by decide +kernel
theorem dX9_pageFor_221 : decode cX9_pageFor 221 = .ok (.ireturn, 1) := by decide +kernel
theorem nmX9_pageFor : mm_nm yX9_pageFor 3 := ⟨by decide, by decide, by decide +kernel⟩
theorem cdX9_pageFor : mm_cd cd_Y yX9_pageFor cX9_pageFor 6 (some .int) := ⟨tw_1056, tw_8⟩
abbrev rmX9_pageFor : Room := { frames := 1, cells := 0, slots := 0, locals := 23 }
def fX9_pageFor_148  : Nat → Nat → Int32 → Int32 → Int32 → Int32 → mm_M → Option (Int32 × mm_M)
  | 0 => fun _ _ _ _ _ _ => none
  | n + 1 => fun a0 x1 x2 x3 x4 σ =>
  mm_sh σ a0 (.inl 9) (mm_on (mm_R σ a0 16) fun q5 => mm_ar σ q5 1 fun n6 => mm_ib x4 n6 ((if (mm_I σ q5 x4.toNatClampNeg) = 0 then mm_on (mm_R σ a0 16) fun q9 => mm_ar σ q9 1 fun n10 => mm_ib x4 n10 (mm_let (mm_wI σ q9 (x4.toNatClampNeg) (vp_nar .boolean 1)) fun s12 => mm_on (mm_R s12 a0 17) fun q13 => mm_ar s12 q13 0 fun n14 => mm_ib x4 n14 (mm_let (mm_wI s12 q13 (x4.toNatClampNeg) x1) fun s16 => mm_on (mm_R s16 a0 18) fun q17 => mm_ar s16 q17 0 fun n18 => mm_ib x4 n18 (mm_let (mm_wI s16 q17 (x4.toNatClampNeg) x2) fun s20 => mm_on (mm_R s20 a0 19) fun q21 => mm_ar s20 q21 0 fun n22 => mm_ib x4 n22 (mm_let (mm_wI s20 q21 (x4.toNatClampNeg) x3) fun s24 => mm_on (mm_R s24 a0 21) fun q25 => mm_ar s24 q25 0 fun n26 => mm_ib x4 n26 (mm_let (mm_wI s24 q25 (x4.toNatClampNeg) 0) fun s28 => mm_on (mm_R s28 a0 22) fun q29 => mm_ar s28 q29 0 fun n30 => mm_ib x4 n30 (mm_let (mm_wI s28 q29 (x4.toNatClampNeg) 0) fun s32 => mm_on (fX9_emptyRows a0 x4 0 s32) fun q33 => some (x4, q33))))))) else (fX9_pageFor_148  n a0 x1 x2 x3 (x4 + 1) σ))))
def fX9_pageFor_102  : Nat → Nat → Int32 → Int32 → Int32 → Int32 → Int32 → mm_M → Option (Int32 × mm_M)
  | 0 => fun _ _ _ _ _ _ _ => none
  | n + 1 => fun a0 x1 x2 x3 x4 x5 σ =>
  (if 9 ≤ x5 then (fX9_pageFor_148  mm_fuel a0 x1 x2 x3 0 σ) else mm_sh σ a0 (.inl 9) (mm_on (mm_R σ a0 27) fun q45 => mm_ar σ q45 0 fun n46 => mm_ib x5 n46 ((if (mm_I σ q45 x5.toNatClampNeg) = x4 then mm_ib x5 n46 (mm_let (mm_wI σ q45 (x5.toNatClampNeg) (-1)) fun s55 => (fX9_pageFor_102  n a0 x1 x2 x3 x4 (x5 + 1) s55)) else mm_on (mm_R σ a0 27) fun q49 => mm_ar σ q49 0 fun n50 => mm_ib x5 n50 (mm_ib x5 n46 (mm_let (mm_wI σ q45 (x5.toNatClampNeg) (mm_I σ q49 x5.toNatClampNeg)) fun s53 => (fX9_pageFor_102  n a0 x1 x2 x3 x4 (x5 + 1) s53)))))))
def fX9_pageFor_3  : Nat → Nat → Int32 → Int32 → Int32 → Int32 → mm_M → Option (Int32 × mm_M)
  | 0 => fun _ _ _ _ _ _ => none
  | n + 1 => fun a0 x1 x2 x3 x4 σ =>
  mm_sh σ a0 (.inl 9) ((if (mm_I σ a0 14) ≤ x4 then (if (mm_I σ a0 14) = 20 then mm_on (mm_R σ a0 15) fun q34 => mm_ar σ q34 0 fun n35 => mm_ib 0 n35 (mm_on (fX9_takeOut a0 0 σ) fun q37 => mm_sh q37 a0 (.inl 9) (mm_on (mm_R q37 a0 16) fun q39 => mm_ar q37 q39 1 fun n40 => mm_ib (mm_I σ q34 (0 : Int32).toNatClampNeg) n40 (mm_let (mm_wI q37 q39 ((mm_I σ q34 (0 : Int32).toNatClampNeg).toNatClampNeg) (vp_nar .boolean 0)) fun s42 => (fX9_pageFor_102  mm_fuel a0 x1 x2 x3 (mm_I σ q34 (0 : Int32).toNatClampNeg) 1 s42)))) else (fX9_pageFor_148  mm_fuel a0 x1 x2 x3 0 σ)) else mm_on (mm_R σ a0 15) fun q56 => mm_ar σ q56 0 fun n57 => mm_ib x4 n57 (mm_on (mm_R σ a0 17) fun q59 => mm_ar σ q59 0 fun n60 => mm_ib (mm_I σ q56 x4.toNatClampNeg) n60 ((if (mm_I σ q59 (mm_I σ q56 x4.toNatClampNeg).toNatClampNeg) = x1 then mm_on (mm_R σ a0 18) fun q63 => mm_ar σ q63 0 fun n64 => mm_ib (mm_I σ q56 x4.toNatClampNeg) n64 ((if (mm_I σ q63 (mm_I σ q56 x4.toNatClampNeg).toNatClampNeg) = x2 then mm_on (mm_R σ a0 19) fun q67 => mm_ar σ q67 0 fun n68 => mm_ib (mm_I σ q56 x4.toNatClampNeg) n68 ((if (mm_I σ q67 (mm_I σ q56 x4.toNatClampNeg).toNatClampNeg) = x3 then mm_on (fX9_takeOut a0 x4 σ) fun q71 => some (mm_I σ q56 x4.toNatClampNeg, q71) else (fX9_pageFor_3  n a0 x1 x2 x3 (x4 + 1) σ))) else (fX9_pageFor_3  n a0 x1 x2 x3 (x4 + 1) σ))) else (fX9_pageFor_3  n a0 x1 x2 x3 (x4 + 1) σ))))))
def fX9_pageFor (p0 : Nat) (p1 : Int32) (p2 : Int32) (p3 : Int32) (σ : mm_M) : Option (Int32 × mm_M) :=
  (fX9_pageFor_3  mm_fuel p0 p1 p2 p3 0 σ)
set_option maxHeartbeats 4000000 in
set_option maxRecDepth 100000 in
theorem kX9_pageFor_148 {G : mm_G} {A : Nat → Prop} {ini : Bool × Option (List (Nat × Nat × Nat × Nat))}  {R : (Int32 × mm_M)}  : ∀ (a0 : Nat) (x1 : Int32) (x2 : Int32) (x3 : Int32) (x4 : Int32) (σ : mm_M), fX9_pageFor_148  mm_fuel a0 x1 x2 x3 x4 σ = some R → mm_J cd_Y G RX9 cX9_pageFor 6 (some .int) ini rmX9_pageFor A (mm_QF cd_Y G A (mm_Pi R.1 R.2) rmX9_pageFor.cells rmX9_pageFor.slots) 148 [(0, .ref a0), (1, .int x1), (2, .int x2), (3, .int x3), (4, .int x4)] [] σ 0 0 := by
  generalize mm_fuel = n
  induction n with
  | zero => intro a0 x1 x2 x3 x4 σ hf; cases hf
  | succ n ih =>
    intro a0 x1 x2 x3 x4 σ hf
    unfold fX9_pageFor_148 at hf
    refine mm_aload_n (j := 0) dX9_pageFor_148 rfl rfl ?_
    obtain ⟨hs4, hf⟩ := mm_sh_s hf
    refine mm_get (c := 9) (k := 16) (v := va_rf (mm_R σ a0 16)) cd_ok ⟨_, _, _, rfl, by decide, Or.inl tw_810⟩ hs4 rfl dX9_pageFor_149 ?_
    refine mm_iload (j := 4) dX9_pageFor_152 rfl ?_
    obtain ⟨q5, hq5, hf⟩ := mm_on_s hf
    rw [hq5, mm_rf_some]
    obtain ⟨n6, hn6, hf⟩ := mm_ar_s hf
    obtain ⟨hi7, hf⟩ := mm_ib_s hf
    refine mm_zald hn6 rfl hi7 dX9_pageFor_154 ?_
    refine mm_if_eq (tgt := 164) dX9_pageFor_155 (by decide) (fun c8 => ?_) (fun c8 => ?_)
    · rw [if_pos c8] at hf
      refine mm_aload_n (j := 0) dX9_pageFor_164 rfl rfl ?_
      refine mm_get (c := 9) (k := 16) (v := va_rf (mm_R σ a0 16)) cd_ok ⟨_, _, _, rfl, by decide, Or.inl tw_810⟩ hs4 rfl dX9_pageFor_165 ?_
      refine mm_iload (j := 4) dX9_pageFor_168 rfl ?_
      refine mm_iconst (v := 1) dX9_pageFor_170 (by decide) ?_
      obtain ⟨q9, hq9, hf⟩ := mm_on_s hf
      rw [hq9, mm_rf_some]
      obtain ⟨n10, hn10, hf⟩ := mm_ar_s hf
      obtain ⟨hi11, hf⟩ := mm_ib_s hf
      refine mm_zast hn10 rfl hi11 dX9_pageFor_171 ?_
      obtain ⟨s12, hs12, hf⟩ := mm_let_s hf
      rw [hs12]
      refine mm_aload_n (j := 0) dX9_pageFor_172 rfl rfl ?_
      refine mm_get (c := 9) (k := 17) (v := va_rf (mm_R s12 a0 17)) cd_ok ⟨_, _, _, rfl, by decide, Or.inl tw_811⟩ (mm_ke hs12 hs4) rfl dX9_pageFor_173 ?_
      refine mm_iload (j := 4) dX9_pageFor_176 rfl ?_
      refine mm_iload_n (j := 1) dX9_pageFor_178 rfl rfl ?_
      obtain ⟨q13, hq13, hf⟩ := mm_on_s hf
      rw [hq13, mm_rf_some]
      obtain ⟨n14, hn14, hf⟩ := mm_ar_s hf
      obtain ⟨hi15, hf⟩ := mm_ib_s hf
      refine mm_iast hn14 rfl hi15 dX9_pageFor_179 ?_
      obtain ⟨s16, hs16, hf⟩ := mm_let_s hf
      rw [hs16]
      refine mm_aload_n (j := 0) dX9_pageFor_180 rfl rfl ?_
      refine mm_get (c := 9) (k := 18) (v := va_rf (mm_R s16 a0 18)) cd_ok ⟨_, _, _, rfl, by decide, Or.inl tw_812⟩ (mm_ke hs16 (mm_ke hs12 hs4)) rfl dX9_pageFor_181 ?_
      refine mm_iload (j := 4) dX9_pageFor_184 rfl ?_
      refine mm_iload_n (j := 2) dX9_pageFor_186 rfl rfl ?_
      obtain ⟨q17, hq17, hf⟩ := mm_on_s hf
      rw [hq17, mm_rf_some]
      obtain ⟨n18, hn18, hf⟩ := mm_ar_s hf
      obtain ⟨hi19, hf⟩ := mm_ib_s hf
      refine mm_iast hn18 rfl hi19 dX9_pageFor_187 ?_
      obtain ⟨s20, hs20, hf⟩ := mm_let_s hf
      rw [hs20]
      refine mm_aload_n (j := 0) dX9_pageFor_188 rfl rfl ?_
      refine mm_get (c := 9) (k := 19) (v := va_rf (mm_R s20 a0 19)) cd_ok ⟨_, _, _, rfl, by decide, Or.inl tw_813⟩ (mm_ke hs20 (mm_ke hs16 (mm_ke hs12 hs4))) rfl dX9_pageFor_189 ?_
      refine mm_iload (j := 4) dX9_pageFor_192 rfl ?_
      refine mm_iload_n (j := 3) dX9_pageFor_194 rfl rfl ?_
      obtain ⟨q21, hq21, hf⟩ := mm_on_s hf
      rw [hq21, mm_rf_some]
      obtain ⟨n22, hn22, hf⟩ := mm_ar_s hf
      obtain ⟨hi23, hf⟩ := mm_ib_s hf
      refine mm_iast hn22 rfl hi23 dX9_pageFor_195 ?_
      obtain ⟨s24, hs24, hf⟩ := mm_let_s hf
      rw [hs24]
      refine mm_aload_n (j := 0) dX9_pageFor_196 rfl rfl ?_
      refine mm_get (c := 9) (k := 21) (v := va_rf (mm_R s24 a0 21)) cd_ok ⟨_, _, _, rfl, by decide, Or.inl tw_815⟩ (mm_ke hs24 (mm_ke hs20 (mm_ke hs16 (mm_ke hs12 hs4)))) rfl dX9_pageFor_197 ?_
      refine mm_iload (j := 4) dX9_pageFor_200 rfl ?_
      refine mm_iconst (v := 0) dX9_pageFor_202 (by decide) ?_
      obtain ⟨q25, hq25, hf⟩ := mm_on_s hf
      rw [hq25, mm_rf_some]
      obtain ⟨n26, hn26, hf⟩ := mm_ar_s hf
      obtain ⟨hi27, hf⟩ := mm_ib_s hf
      refine mm_iast hn26 rfl hi27 dX9_pageFor_203 ?_
      obtain ⟨s28, hs28, hf⟩ := mm_let_s hf
      rw [hs28]
      refine mm_aload_n (j := 0) dX9_pageFor_204 rfl rfl ?_
      refine mm_get (c := 9) (k := 22) (v := va_rf (mm_R s28 a0 22)) cd_ok ⟨_, _, _, rfl, by decide, Or.inl tw_816⟩ (mm_ke hs28 (mm_ke hs24 (mm_ke hs20 (mm_ke hs16 (mm_ke hs12 hs4))))) rfl dX9_pageFor_205 ?_
      refine mm_iload (j := 4) dX9_pageFor_208 rfl ?_
      refine mm_iconst (v := 0) dX9_pageFor_210 (by decide) ?_
      obtain ⟨q29, hq29, hf⟩ := mm_on_s hf
      rw [hq29, mm_rf_some]
      obtain ⟨n30, hn30, hf⟩ := mm_ar_s hf
      obtain ⟨hi31, hf⟩ := mm_ib_s hf
      refine mm_iast hn30 rfl hi31 dX9_pageFor_211 ?_
      obtain ⟨s32, hs32, hf⟩ := mm_let_s hf
      rw [hs32]
      refine mm_aload_n (j := 0) dX9_pageFor_212 rfl rfl ?_
      refine mm_iload (j := 4) dX9_pageFor_213 rfl ?_
      refine mm_iconst (v := 0) dX9_pageFor_215 (by decide) ?_
      obtain ⟨q33, hq33, hf⟩ := mm_on_s hf
      refine mm_callVv cd_ok (kX9_emptyRows a0 x4 0 hq33) (mm_ke hs32 (mm_ke hs28 (mm_ke hs24 (mm_ke hs20 (mm_ke hs16 (mm_ke hs12 hs4)))))) rfl (Or.inl tw_1061) cdX9_emptyRows tw_1063 ts_49 nmX9_emptyRows rfl rfl (by simp only [List.map_cons, List.map_nil, mm_rf_cat]; exact Nat.le_of_ble_eq_true rfl) dX9_pageFor_216 ⟨Nat.le_of_ble_eq_true rfl, Nat.le_of_ble_eq_true rfl⟩ ⟨Nat.le_of_ble_eq_true rfl, Nat.le_of_ble_eq_true rfl⟩ ?_
      refine mm_iload (j := 4) dX9_pageFor_219 rfl ?_
      cases hf
      refine mm_widen (ck' := rmX9_pageFor.cells) (sk' := rmX9_pageFor.slots) (Nat.le_of_ble_eq_true rfl) (Nat.le_of_ble_eq_true rfl) ?_
      exact mm_iret rfl rfl dX9_pageFor_221 ⟨rfl, rfl⟩
    · rw [if_neg c8] at hf
      refine mm_iinc (j := 4) (L' := [(4, .int (x4 + 1)), (0, .ref a0), (1, .int x1), (2, .int x2), (3, .int x3)]) dX9_pageFor_158 rfl rfl (by decide) rfl ?_
      refine mm_goto (tgt := 148) dX9_pageFor_161 (by decide) ?_
      refine mm_sub [1, 2, 3, 4, 0] rfl ?_
      exact ih a0 x1 x2 x3 (x4 + 1) σ hf
set_option maxHeartbeats 4000000 in
set_option maxRecDepth 100000 in
theorem kX9_pageFor_102 {G : mm_G} {A : Nat → Prop} {ini : Bool × Option (List (Nat × Nat × Nat × Nat))}  {R : (Int32 × mm_M)}  : ∀ (a0 : Nat) (x1 : Int32) (x2 : Int32) (x3 : Int32) (x4 : Int32) (x5 : Int32) (σ : mm_M), fX9_pageFor_102  mm_fuel a0 x1 x2 x3 x4 x5 σ = some R → mm_J cd_Y G RX9 cX9_pageFor 6 (some .int) ini rmX9_pageFor A (mm_QF cd_Y G A (mm_Pi R.1 R.2) rmX9_pageFor.cells rmX9_pageFor.slots) 102 [(0, .ref a0), (1, .int x1), (2, .int x2), (3, .int x3), (4, .int x4), (5, .int x5)] [] σ 0 0 := by
  generalize mm_fuel = n
  induction n with
  | zero => intro a0 x1 x2 x3 x4 x5 σ hf; cases hf
  | succ n ih =>
    intro a0 x1 x2 x3 x4 x5 σ hf
    unfold fX9_pageFor_102 at hf
    refine mm_iload (j := 5) dX9_pageFor_102 rfl ?_
    refine mm_bipush (v := 9) dX9_pageFor_104 (by decide) ?_
    refine mm_icmp_ge (tgt := 145) dX9_pageFor_106 (by decide) (fun c43 => ?_) (fun c43 => ?_)
    · rw [if_pos c43] at hf
      refine mm_iconst (v := 0) dX9_pageFor_145 (by decide) ?_
      refine mm_istore (L' := [(4, .int 0), (0, .ref a0), (1, .int x1), (2, .int x2), (3, .int x3), (5, .int x5)]) dX9_pageFor_146 (by decide) rfl ?_
      refine mm_sub [1, 2, 3, 4, 0] rfl ?_
      exact kX9_pageFor_148  a0 x1 x2 x3 0 σ hf
    · rw [if_neg c43] at hf
      refine mm_aload_n (j := 0) dX9_pageFor_109 rfl rfl ?_
      obtain ⟨hs44, hf⟩ := mm_sh_s hf
      refine mm_get (c := 9) (k := 27) (v := va_rf (mm_R σ a0 27)) cd_ok ⟨_, _, _, rfl, by decide, Or.inl tw_821⟩ hs44 rfl dX9_pageFor_110 ?_
      refine mm_iload (j := 5) dX9_pageFor_113 rfl ?_
      refine mm_aload_n (j := 0) dX9_pageFor_115 rfl rfl ?_
      refine mm_get (c := 9) (k := 27) (v := va_rf (mm_R σ a0 27)) cd_ok ⟨_, _, _, rfl, by decide, Or.inl tw_821⟩ hs44 rfl dX9_pageFor_116 ?_
      refine mm_iload (j := 5) dX9_pageFor_119 rfl ?_
      obtain ⟨q45, hq45, hf⟩ := mm_on_s hf
      rw [hq45, mm_rf_some]
      obtain ⟨n46, hn46, hf⟩ := mm_ar_s hf
      obtain ⟨hi47, hf⟩ := mm_ib_s hf
      refine mm_iald hn46 rfl hi47 dX9_pageFor_121 ?_
      refine mm_iload (j := 4) dX9_pageFor_122 rfl ?_
      refine mm_icmp_ne (tgt := 131) dX9_pageFor_124 (by decide) (fun c48 => ?_) (fun c48 => ?_)
      · rw [if_neg c48] at hf
        refine mm_aload_n (j := 0) dX9_pageFor_131 rfl rfl ?_
        refine mm_get (c := 9) (k := 27) (v := va_rf (mm_R σ a0 27)) cd_ok ⟨_, _, _, rfl, by decide, Or.inl tw_821⟩ hs44 rfl dX9_pageFor_132 ?_
        refine mm_iload (j := 5) dX9_pageFor_135 rfl ?_
        obtain ⟨q49, hq49, hf⟩ := mm_on_s hf
        rw [hq49, mm_rf_some]
        obtain ⟨n50, hn50, hf⟩ := mm_ar_s hf
        obtain ⟨hi51, hf⟩ := mm_ib_s hf
        refine mm_iald hn50 rfl hi51 dX9_pageFor_137 ?_
        obtain ⟨hi52, hf⟩ := mm_ib_s hf
        refine mm_iast hn46 rfl hi52 dX9_pageFor_138 ?_
        obtain ⟨s53, hs53, hf⟩ := mm_let_s hf
        rw [hs53]
        refine mm_iinc (j := 5) (L' := [(5, .int (x5 + 1)), (0, .ref a0), (1, .int x1), (2, .int x2), (3, .int x3), (4, .int x4)]) dX9_pageFor_139 rfl rfl (by decide) rfl ?_
        refine mm_goto (tgt := 102) dX9_pageFor_142 (by decide) ?_
        refine mm_sub [1, 2, 3, 4, 5, 0] rfl ?_
        exact ih a0 x1 x2 x3 x4 (x5 + 1) s53 hf
      · rw [if_pos c48] at hf
        refine mm_iconst (v := (-1)) dX9_pageFor_127 (by decide) ?_
        refine mm_goto (tgt := 138) dX9_pageFor_128 (by decide) ?_
        obtain ⟨hi54, hf⟩ := mm_ib_s hf
        refine mm_iast hn46 rfl hi54 dX9_pageFor_138 ?_
        obtain ⟨s55, hs55, hf⟩ := mm_let_s hf
        rw [hs55]
        refine mm_iinc (j := 5) (L' := [(5, .int (x5 + 1)), (0, .ref a0), (1, .int x1), (2, .int x2), (3, .int x3), (4, .int x4)]) dX9_pageFor_139 rfl rfl (by decide) rfl ?_
        refine mm_goto (tgt := 102) dX9_pageFor_142 (by decide) ?_
        refine mm_sub [1, 2, 3, 4, 5, 0] rfl ?_
        exact ih a0 x1 x2 x3 x4 (x5 + 1) s55 hf
set_option maxHeartbeats 4000000 in
set_option maxRecDepth 100000 in
theorem kX9_pageFor_3 {G : mm_G} {A : Nat → Prop} {ini : Bool × Option (List (Nat × Nat × Nat × Nat))}  {R : (Int32 × mm_M)}  : ∀ (a0 : Nat) (x1 : Int32) (x2 : Int32) (x3 : Int32) (x4 : Int32) (σ : mm_M), fX9_pageFor_3  mm_fuel a0 x1 x2 x3 x4 σ = some R → mm_J cd_Y G RX9 cX9_pageFor 6 (some .int) ini rmX9_pageFor A (mm_QF cd_Y G A (mm_Pi R.1 R.2) rmX9_pageFor.cells rmX9_pageFor.slots) 3 [(0, .ref a0), (1, .int x1), (2, .int x2), (3, .int x3), (4, .int x4)] [] σ 0 0 := by
  generalize mm_fuel = n
  induction n with
  | zero => intro a0 x1 x2 x3 x4 σ hf; cases hf
  | succ n ih =>
    intro a0 x1 x2 x3 x4 σ hf
    unfold fX9_pageFor_3 at hf
    refine mm_iload (j := 4) dX9_pageFor_3 rfl ?_
    refine mm_aload_n (j := 0) dX9_pageFor_5 rfl rfl ?_
    obtain ⟨hs1, hf⟩ := mm_sh_s hf
    refine mm_get (c := 9) (k := 14) (v := .int (mm_I σ a0 14)) cd_ok ⟨_, _, _, rfl, by decide, Or.inl tw_808⟩ hs1 rfl dX9_pageFor_6 ?_
    refine mm_icmp_ge (tgt := 69) dX9_pageFor_9 (by decide) (fun c2 => ?_) (fun c2 => ?_)
    · rw [if_pos c2] at hf
      refine mm_aload_n (j := 0) dX9_pageFor_69 rfl rfl ?_
      refine mm_get (c := 9) (k := 14) (v := .int (mm_I σ a0 14)) cd_ok ⟨_, _, _, rfl, by decide, Or.inl tw_808⟩ hs1 rfl dX9_pageFor_70 ?_
      refine mm_bipush (v := 20) dX9_pageFor_73 (by decide) ?_
      refine mm_icmp_ne (tgt := 145) dX9_pageFor_75 (by decide) (fun c3 => ?_) (fun c3 => ?_)
      · rw [if_neg c3] at hf
        refine mm_iconst (v := 0) dX9_pageFor_145 (by decide) ?_
        refine mm_istore (L' := [(4, .int 0), (0, .ref a0), (1, .int x1), (2, .int x2), (3, .int x3)]) dX9_pageFor_146 (by decide) rfl ?_
        refine mm_sub [1, 2, 3, 4, 0] rfl ?_
        exact kX9_pageFor_148  a0 x1 x2 x3 0 σ hf
      · rw [if_pos c3] at hf
        refine mm_aload_n (j := 0) dX9_pageFor_78 rfl rfl ?_
        refine mm_get (c := 9) (k := 15) (v := va_rf (mm_R σ a0 15)) cd_ok ⟨_, _, _, rfl, by decide, Or.inl tw_809⟩ hs1 rfl dX9_pageFor_79 ?_
        refine mm_iconst (v := 0) dX9_pageFor_82 (by decide) ?_
        obtain ⟨q34, hq34, hf⟩ := mm_on_s hf
        rw [hq34, mm_rf_some]
        obtain ⟨n35, hn35, hf⟩ := mm_ar_s hf
        obtain ⟨hi36, hf⟩ := mm_ib_s hf
        refine mm_iald hn35 rfl hi36 dX9_pageFor_83 ?_
        refine mm_istore (L' := [(4, .int (mm_I σ q34 (0 : Int32).toNatClampNeg)), (0, .ref a0), (1, .int x1), (2, .int x2), (3, .int x3)]) dX9_pageFor_84 (by decide) rfl ?_
        refine mm_aload_n (j := 1) dX9_pageFor_86 rfl rfl ?_
        refine mm_iconst (v := 0) dX9_pageFor_87 (by decide) ?_
        obtain ⟨q37, hq37, hf⟩ := mm_on_s hf
        refine mm_callVv cd_ok (kX9_takeOut a0 0 hq37) hs1 rfl (Or.inl tw_1057) cdX9_takeOut tw_1059 ts_48 nmX9_takeOut rfl rfl (by simp only [List.map_cons, List.map_nil, mm_rf_cat]; exact Nat.le_of_ble_eq_true rfl) dX9_pageFor_88 ⟨Nat.le_of_ble_eq_true rfl, Nat.le_of_ble_eq_true rfl⟩ ⟨Nat.le_of_ble_eq_true rfl, Nat.le_of_ble_eq_true rfl⟩ ?_
        refine mm_aload_n (j := 1) dX9_pageFor_91 rfl rfl ?_
        obtain ⟨hs38, hf⟩ := mm_sh_s hf
        refine mm_get (c := 9) (k := 16) (v := va_rf (mm_R q37 a0 16)) cd_ok ⟨_, _, _, rfl, by decide, Or.inl tw_810⟩ hs38 rfl dX9_pageFor_92 ?_
        refine mm_iload (j := 0) dX9_pageFor_95 rfl ?_
        refine mm_iconst (v := 0) dX9_pageFor_97 (by decide) ?_
        obtain ⟨q39, hq39, hf⟩ := mm_on_s hf
        rw [hq39, mm_rf_some]
        obtain ⟨n40, hn40, hf⟩ := mm_ar_s hf
        obtain ⟨hi41, hf⟩ := mm_ib_s hf
        refine mm_zast hn40 rfl hi41 dX9_pageFor_98 ?_
        obtain ⟨s42, hs42, hf⟩ := mm_let_s hf
        rw [hs42]
        refine mm_iconst (v := 1) dX9_pageFor_99 (by decide) ?_
        refine mm_istore (L' := [(5, .int 1), (4, .int (mm_I σ q34 (0 : Int32).toNatClampNeg)), (0, .ref a0), (1, .int x1), (2, .int x2), (3, .int x3)]) dX9_pageFor_100 (by decide) rfl ?_
        refine mm_sub [2, 3, 4, 5, 1, 0] rfl ?_
        exact kX9_pageFor_102  a0 x1 x2 x3 (mm_I σ q34 (0 : Int32).toNatClampNeg) 1 s42 hf
    · rw [if_neg c2] at hf
      refine mm_aload_n (j := 0) dX9_pageFor_12 rfl rfl ?_
      refine mm_get (c := 9) (k := 15) (v := va_rf (mm_R σ a0 15)) cd_ok ⟨_, _, _, rfl, by decide, Or.inl tw_809⟩ hs1 rfl dX9_pageFor_13 ?_
      refine mm_iload (j := 4) dX9_pageFor_16 rfl ?_
      obtain ⟨q56, hq56, hf⟩ := mm_on_s hf
      rw [hq56, mm_rf_some]
      obtain ⟨n57, hn57, hf⟩ := mm_ar_s hf
      obtain ⟨hi58, hf⟩ := mm_ib_s hf
      refine mm_iald hn57 rfl hi58 dX9_pageFor_18 ?_
      refine mm_istore (L' := [(5, .int (mm_I σ q56 x4.toNatClampNeg)), (0, .ref a0), (1, .int x1), (2, .int x2), (3, .int x3), (4, .int x4)]) dX9_pageFor_19 (by decide) rfl ?_
      refine mm_aload_n (j := 1) dX9_pageFor_21 rfl rfl ?_
      refine mm_get (c := 9) (k := 17) (v := va_rf (mm_R σ a0 17)) cd_ok ⟨_, _, _, rfl, by decide, Or.inl tw_811⟩ hs1 rfl dX9_pageFor_22 ?_
      refine mm_iload (j := 0) dX9_pageFor_25 rfl ?_
      obtain ⟨q59, hq59, hf⟩ := mm_on_s hf
      rw [hq59, mm_rf_some]
      obtain ⟨n60, hn60, hf⟩ := mm_ar_s hf
      obtain ⟨hi61, hf⟩ := mm_ib_s hf
      refine mm_iald hn60 rfl hi61 dX9_pageFor_27 ?_
      refine mm_iload_n (j := 2) dX9_pageFor_28 rfl rfl ?_
      refine mm_icmp_ne (tgt := 63) dX9_pageFor_29 (by decide) (fun c62 => ?_) (fun c62 => ?_)
      · rw [if_neg c62] at hf
        refine mm_iinc (j := 5) (L' := [(4, .int (x4 + 1)), (5, .int (mm_I σ q56 x4.toNatClampNeg)), (0, .ref a0), (1, .int x1), (2, .int x2), (3, .int x3)]) dX9_pageFor_63 rfl rfl (by decide) rfl ?_
        refine mm_goto (tgt := 3) dX9_pageFor_66 (by decide) ?_
        refine mm_sub [2, 3, 4, 5, 0] rfl ?_
        exact ih a0 x1 x2 x3 (x4 + 1) σ hf
      · rw [if_pos c62] at hf
        refine mm_aload_n (j := 1) dX9_pageFor_32 rfl rfl ?_
        refine mm_get (c := 9) (k := 18) (v := va_rf (mm_R σ a0 18)) cd_ok ⟨_, _, _, rfl, by decide, Or.inl tw_812⟩ hs1 rfl dX9_pageFor_33 ?_
        refine mm_iload (j := 0) dX9_pageFor_36 rfl ?_
        obtain ⟨q63, hq63, hf⟩ := mm_on_s hf
        rw [hq63, mm_rf_some]
        obtain ⟨n64, hn64, hf⟩ := mm_ar_s hf
        obtain ⟨hi65, hf⟩ := mm_ib_s hf
        refine mm_iald hn64 rfl hi65 dX9_pageFor_38 ?_
        refine mm_iload_n (j := 3) dX9_pageFor_39 rfl rfl ?_
        refine mm_icmp_ne (tgt := 63) dX9_pageFor_40 (by decide) (fun c66 => ?_) (fun c66 => ?_)
        · rw [if_neg c66] at hf
          refine mm_iinc (j := 5) (L' := [(4, .int (x4 + 1)), (5, .int (mm_I σ q56 x4.toNatClampNeg)), (0, .ref a0), (1, .int x1), (2, .int x2), (3, .int x3)]) dX9_pageFor_63 rfl rfl (by decide) rfl ?_
          refine mm_goto (tgt := 3) dX9_pageFor_66 (by decide) ?_
          refine mm_sub [2, 3, 4, 5, 0] rfl ?_
          exact ih a0 x1 x2 x3 (x4 + 1) σ hf
        · rw [if_pos c66] at hf
          refine mm_aload_n (j := 1) dX9_pageFor_43 rfl rfl ?_
          refine mm_get (c := 9) (k := 19) (v := va_rf (mm_R σ a0 19)) cd_ok ⟨_, _, _, rfl, by decide, Or.inl tw_813⟩ hs1 rfl dX9_pageFor_44 ?_
          refine mm_iload (j := 0) dX9_pageFor_47 rfl ?_
          obtain ⟨q67, hq67, hf⟩ := mm_on_s hf
          rw [hq67, mm_rf_some]
          obtain ⟨n68, hn68, hf⟩ := mm_ar_s hf
          obtain ⟨hi69, hf⟩ := mm_ib_s hf
          refine mm_iald hn68 rfl hi69 dX9_pageFor_49 ?_
          refine mm_iload_n (j := 4) dX9_pageFor_50 rfl rfl ?_
          refine mm_icmp_ne (tgt := 63) dX9_pageFor_51 (by decide) (fun c70 => ?_) (fun c70 => ?_)
          · rw [if_neg c70] at hf
            refine mm_iinc (j := 5) (L' := [(4, .int (x4 + 1)), (5, .int (mm_I σ q56 x4.toNatClampNeg)), (0, .ref a0), (1, .int x1), (2, .int x2), (3, .int x3)]) dX9_pageFor_63 rfl rfl (by decide) rfl ?_
            refine mm_goto (tgt := 3) dX9_pageFor_66 (by decide) ?_
            refine mm_sub [2, 3, 4, 5, 0] rfl ?_
            exact ih a0 x1 x2 x3 (x4 + 1) σ hf
          · rw [if_pos c70] at hf
            refine mm_aload_n (j := 1) dX9_pageFor_54 rfl rfl ?_
            refine mm_iload (j := 5) dX9_pageFor_55 rfl ?_
            obtain ⟨q71, hq71, hf⟩ := mm_on_s hf
            refine mm_callVv cd_ok (kX9_takeOut a0 x4 hq71) hs1 rfl (Or.inl tw_1057) cdX9_takeOut tw_1059 ts_48 nmX9_takeOut rfl rfl (by simp only [List.map_cons, List.map_nil, mm_rf_cat]; exact Nat.le_of_ble_eq_true rfl) dX9_pageFor_57 ⟨Nat.le_of_ble_eq_true rfl, Nat.le_of_ble_eq_true rfl⟩ ⟨Nat.le_of_ble_eq_true rfl, Nat.le_of_ble_eq_true rfl⟩ ?_
            refine mm_iload (j := 0) dX9_pageFor_60 rfl ?_
            cases hf
            refine mm_widen (ck' := rmX9_pageFor.cells) (sk' := rmX9_pageFor.slots) (Nat.le_of_ble_eq_true rfl) (Nat.le_of_ble_eq_true rfl) ?_
            exact mm_iret rfl rfl dX9_pageFor_62 ⟨rfl, rfl⟩
set_option maxHeartbeats 4000000 in
set_option maxRecDepth 100000 in
theorem kX9_pageFor {G : mm_G} {A : Nat → Prop} (p0 : Nat) (p1 : Int32) (p2 : Int32) (p3 : Int32) {σ : mm_M} {R : (Int32 × mm_M)} (hf : fX9_pageFor p0 p1 p2 p3 σ = some R) : mm_C cd_Y G yX9_pageFor cX9_pageFor 6 (some .int) rmX9_pageFor A [.ref p0, .int p1, .int p2, .int p3] σ (mm_Pi R.1 R.2) := by
  refine mm_C.of (by decide) (Nat.le_of_ble_eq_true rfl) ?_
  unfold fX9_pageFor at hf
  have e0 : lv_args 0 [.ref p0, .int p1, .int p2, .int p3] = [(0, .ref p0), (1, .int p1), (2, .int p2), (3, .int p3)] := rfl
  rw [e0]
  generalize hini : ((yX9_pageFor.name == "<init>"), none) = ini
  clear e0
  clear hini
  refine mm_iconst (v := 0) dX9_pageFor_0 (by decide) ?_
  refine mm_istore (L' := [(4, .int 0), (0, .ref p0), (1, .int p1), (2, .int p2), (3, .int p3)]) dX9_pageFor_1 (by decide) rfl ?_
  refine mm_sub [1, 2, 3, 4, 0] rfl ?_
  exact kX9_pageFor_3  p0 p1 p2 p3 0 σ hf
theorem dX9_subcodeOf_0 : decode cX9_subcodeOf 0 = .ok (.iload_n 0, 1) := by decide +kernel
theorem dX9_subcodeOf_1 : decode cX9_subcodeOf 1 = .ok (.bipush 16, 2) := by decide +kernel
theorem dX9_subcodeOf_3 : decode cX9_subcodeOf 3 = .ok (.iload_n 1, 1) := by decide +kernel
theorem dX9_subcodeOf_4 : decode cX9_subcodeOf 4 = .ok (.bipush 8, 2) := by decide +kernel
theorem dX9_subcodeOf_6 : decode cX9_subcodeOf 6 = .ok (.irem, 1) := by decide +kernel
theorem dX9_subcodeOf_7 : decode cX9_subcodeOf 7 = .ok (.imul, 1) := by decide +kernel
theorem dX9_subcodeOf_8 : decode cX9_subcodeOf 8 = .ok (.iadd, 1) := by decide +kernel
theorem dX9_subcodeOf_9 : decode cX9_subcodeOf 9 = .ok (.sipush 128, 3) := by decide +kernel
theorem dX9_subcodeOf_12 : decode cX9_subcodeOf 12 = .ok (.iload_n 2, 1) := by decide +kernel
theorem dX9_subcodeOf_13 : decode cX9_subcodeOf 13 = .ok (.imul, 1) := by decide +kernel
theorem dX9_subcodeOf_14 : decode cX9_subcodeOf 14 = .ok (.iadd, 1) := by decide +kernel
theorem dX9_subcodeOf_15 : decode cX9_subcodeOf 15 = .ok (.sipush 2048, 3) := by decide +kernel
theorem dX9_subcodeOf_18 : decode cX9_subcodeOf 18 = .ok (.iload_n 3, 1) := by decide +kernel
theorem dX9_subcodeOf_19 : decode cX9_subcodeOf 19 = .ok (.iconst 4, 1) := by decide +kernel
theorem dX9_subcodeOf_20 : decode cX9_subcodeOf 20 = .ok (.irem, 1) := by decide +kernel
theorem dX9_subcodeOf_21 : decode cX9_subcodeOf 21 = .ok (.imul, 1) := by decide +kernel
theorem dX9_subcodeOf_22 : decode cX9_subcodeOf 22 = .ok (.iadd, 1) := by decide +kernel
theorem dX9_subcodeOf_23 : decode cX9_subcodeOf 23 = .ok (.ireturn, 1) := by decide +kernel
theorem nmX9_subcodeOf : mm_nm yX9_subcodeOf 4 := ⟨by decide, by decide, by decide +kernel⟩
theorem cdX9_subcodeOf : mm_cd cd_Y yX9_subcodeOf cX9_subcodeOf 4 (some .int) := ⟨tw_1052, tw_8⟩
abbrev rmX9_subcodeOf : Room := { frames := 0, cells := 0, slots := 0, locals := 0 }
def fX9_subcodeOf (p0 : Int32) (p1 : Int32) (p2 : Int32) (p3 : Int32) : Int32 :=
  ((p0 + (16 * (p1 - p1 / 8 * 8))) + (128 * p2)) + (2048 * (p3 - p3 / 4 * 4))
set_option maxHeartbeats 4000000 in
set_option maxRecDepth 100000 in
theorem kX9_subcodeOf {G : mm_G} {A : Nat → Prop} (p0 : Int32) (p1 : Int32) (p2 : Int32) (p3 : Int32) (σ0 : mm_M) {R : Int32} (hf : fX9_subcodeOf p0 p1 p2 p3 = R) : mm_C cd_Y G yX9_subcodeOf cX9_subcodeOf 4 (some .int) rmX9_subcodeOf A [.int p0, .int p1, .int p2, .int p3] σ0 (mm_Pi R σ0) := by
  refine mm_C.of (by decide) (Nat.le_of_ble_eq_true rfl) ?_
  unfold fX9_subcodeOf at hf
  have e0 : lv_args 0 [.int p0, .int p1, .int p2, .int p3] = [(0, .int p0), (1, .int p1), (2, .int p2), (3, .int p3)] := rfl
  rw [e0]
  generalize hini : ((yX9_subcodeOf.name == "<init>"), none) = ini
  clear e0
  clear hini
  refine mm_iload_n (j := 0) dX9_subcodeOf_0 rfl rfl ?_
  refine mm_bipush (v := 16) dX9_subcodeOf_1 (by decide) ?_
  refine mm_iload_n (j := 1) dX9_subcodeOf_3 rfl rfl ?_
  refine mm_bipush (v := 8) dX9_subcodeOf_4 (by decide) ?_
  refine mm_irem dX9_subcodeOf_6 (by decide) ?_
  refine mm_imul dX9_subcodeOf_7 ?_
  refine mm_iadd dX9_subcodeOf_8 ?_
  refine mm_sipush (v := 128) dX9_subcodeOf_9 (by decide) ?_
  refine mm_iload_n (j := 2) dX9_subcodeOf_12 rfl rfl ?_
  refine mm_imul dX9_subcodeOf_13 ?_
  refine mm_iadd dX9_subcodeOf_14 ?_
  refine mm_sipush (v := 2048) dX9_subcodeOf_15 (by decide) ?_
  refine mm_iload_n (j := 3) dX9_subcodeOf_18 rfl rfl ?_
  refine mm_iconst (v := 4) dX9_subcodeOf_19 (by decide) ?_
  refine mm_irem dX9_subcodeOf_20 (by decide) ?_
  refine mm_imul dX9_subcodeOf_21 ?_
  refine mm_iadd dX9_subcodeOf_22 ?_
  subst hf
  refine mm_widen (ck' := rmX9_subcodeOf.cells) (sk' := rmX9_subcodeOf.slots) (Nat.le_of_ble_eq_true rfl) (Nat.le_of_ble_eq_true rfl) ?_
  exact mm_iret rfl rfl dX9_subcodeOf_23 ⟨rfl, rfl⟩
theorem dX9_header_0 : decode cX9_header 0 = .ok (.iconst 2, 1) := by decide +kernel
theorem dX9_header_1 : decode cX9_header 1 = .ok (.istore_n 2, 1) := by decide +kernel
theorem dX9_header_2 : decode cX9_header 2 = .ok (.iload_n 2, 1) := by decide +kernel
theorem dX9_header_3 : decode cX9_header 3 = .ok (.bipush 10, 2) := by decide +kernel
theorem dX9_header_5 : decode cX9_header 5 = .ok (.if_icmp .ge 29, 3) := by decide +kernel
theorem dX9_header_8 : decode cX9_header 8 = .ok (.aload_n 0, 1) := by decide +kernel
theorem dX9_header_9 : decode cX9_header 9 = .ok (.iload_n 2, 1) := by decide +kernel
theorem dX9_header_10 : decode cX9_header 10 = .ok (.invokevirtual 215, 3) := by decide +kernel
theorem dX9_header_13 : decode cX9_header 13 = .ok (.iconst (-1), 1) := by decide +kernel
theorem dX9_header_14 : decode cX9_header 14 = .ok (.if_icmp .ne 14, 3) := by decide +kernel
theorem dX9_header_17 : decode cX9_header 17 = .ok (.aload_n 0, 1) := by decide +kernel
theorem dX9_header_18 : decode cX9_header 18 = .ok (.getfield 44, 3) := by decide +kernel
theorem dX9_header_21 : decode cX9_header 21 = .ok (.iconst 1, 1) := by decide +kernel
theorem dX9_header_22 : decode cX9_header 22 = .ok (.dup2, 1) := by decide +kernel
theorem dX9_header_23 : decode cX9_header 23 = .ok (.iaload, 1) := by decide +kernel
theorem dX9_header_24 : decode cX9_header 24 = .ok (.iconst 1, 1) := by decide +kernel
theorem dX9_header_25 : decode cX9_header 25 = .ok (.iadd, 1) := by decide +kernel
theorem dX9_header_26 : decode cX9_header 26 = .ok (.iastore, 1) := by decide +kernel
theorem dX9_header_27 : decode cX9_header 27 = .ok (.return_, 1) := by decide +kernel
theorem dX9_header_28 : decode cX9_header 28 = .ok (.iinc 2 1, 3) := by decide +kernel
theorem dX9_header_31 : decode cX9_header 31 = .ok (.goto (-29), 3) := by decide +kernel
theorem dX9_header_34 : decode cX9_header 34 = .ok (.aload_n 0, 1) := by decide +kernel
theorem dX9_header_35 : decode cX9_header 35 = .ok (.iconst 5, 1) := by decide +kernel
theorem dX9_header_36 : decode cX9_header 36 = .ok (.invokevirtual 215, 3) := by decide +kernel
theorem dX9_header_39 : decode cX9_header 39 = .ok (.istore_n 2, 1) := by decide +kernel
theorem dX9_header_40 : decode cX9_header 40 = .ok (.aload_n 0, 1) := by decide +kernel
theorem dX9_header_41 : decode cX9_header 41 = .ok (.bipush 7, 2) := by decide +kernel
theorem dX9_header_43 : decode cX9_header 43 = .ok (.invokevirtual 215, 3) := by decide +kernel
theorem dX9_header_46 : decode cX9_header 46 = .ok (.istore_n 3, 1) := by decide +kernel
theorem dX9_header_47 : decode cX9_header 47 = .ok (.aload_n 0, 1) := by decide +kernel
theorem dX9_header_48 : decode cX9_header 48 = .ok (.bipush 9, 2) := by decide +kernel
theorem dX9_header_50 : decode cX9_header 50 = .ok (.invokevirtual 215, 3) := by decide +kernel
theorem dX9_header_53 : decode cX9_header 53 = .ok (.iconst 2, 1) := by decide +kernel
theorem dX9_header_54 : decode cX9_header 54 = .ok (.irem, 1) := by decide +kernel
theorem dX9_header_55 : decode cX9_header 55 = .ok (.iconst 1, 1) := by decide +kernel
theorem dX9_header_56 : decode cX9_header 56 = .ok (.if_icmp .ne 7, 3) := by decide +kernel
theorem dX9_header_59 : decode cX9_header 59 = .ok (.iconst 1, 1) := by decide +kernel
theorem dX9_header_60 : decode cX9_header 60 = .ok (.goto 4, 3) := by decide +kernel
theorem dX9_header_63 : decode cX9_header 63 = .ok (.iconst 0, 1) := by decide +kernel
theorem dX9_header_64 : decode cX9_header 64 = .ok (.istore 4, 2) := by decide +kernel
theorem dX9_header_66 : decode cX9_header 66 = .ok (.iconst 1, 1) := by decide +kernel
theorem dX9_header_67 : decode cX9_header 67 = .ok (.istore 5, 2) := by decide +kernel
theorem dX9_header_69 : decode cX9_header 69 = .ok (.iload 5, 2) := by decide +kernel
theorem dX9_header_71 : decode cX9_header 71 = .ok (.bipush 9, 2) := by decide +kernel
theorem dX9_header_73 : decode cX9_header 73 = .ok (.if_icmp .ge 26, 3) := by decide +kernel
theorem dX9_header_76 : decode cX9_header 76 = .ok (.iload 4, 2) := by decide +kernel
theorem dX9_header_78 : decode cX9_header 78 = .ok (.ifCond .ne 9, 3) := by decide +kernel
theorem dX9_header_81 : decode cX9_header 81 = .ok (.iload 5, 2) := by decide +kernel
theorem dX9_header_83 : decode cX9_header 83 = .ok (.iload_n 1, 1) := by decide +kernel
theorem dX9_header_84 : decode cX9_header 84 = .ok (.if_icmp .ne 9, 3) := by decide +kernel
theorem dX9_header_87 : decode cX9_header 87 = .ok (.aload_n 0, 1) := by decide +kernel
theorem dX9_header_88 : decode cX9_header 88 = .ok (.iload 5, 2) := by decide +kernel
theorem dX9_header_90 : decode cX9_header 90 = .ok (.invokevirtual 218, 3) := by decide +kernel
theorem dX9_header_93 : decode cX9_header 93 = .ok (.iinc 5 1, 3) := by decide +kernel
theorem dX9_header_96 : decode cX9_header 96 = .ok (.goto (-27), 3) := by decide +kernel
theorem dX9_header_99 : decode cX9_header 99 = .ok (.bipush 16, 2) := by decide +kernel
theorem dX9_header_101 : decode cX9_header 101 = .ok (.aload_n 0, 1) := by decide +kernel
theorem dX9_header_102 : decode cX9_header 102 = .ok (.iconst 3, 1) := by decide +kernel
theorem dX9_header_103 : decode cX9_header 103 = .ok (.invokevirtual 215, 3) := by decide +kernel
theorem dX9_header_106 : decode cX9_header 106 = .ok (.imul, 1) := by decide +kernel
theorem dX9_header_107 : decode cX9_header 107 = .ok (.aload_n 0, 1) := by decide +kernel
theorem dX9_header_108 : decode cX9_header 108 = .ok (.iconst 2, 1) := by decide +kernel
theorem dX9_header_109 : decode cX9_header 109 = .ok (.invokevirtual 215, 3) := by decide +kernel
theorem dX9_header_112 : decode cX9_header 112 = .ok (.iadd, 1) := by decide +kernel
theorem dX9_header_113 : decode cX9_header 113 = .ok (.istore 5, 2) := by decide +kernel
theorem dX9_header_115 : decode cX9_header 115 = .ok (.iload 5, 2) := by decide +kernel
theorem dX9_header_117 : decode cX9_header 117 = .ok (.sipush 255, 3) := by decide +kernel
theorem dX9_header_120 : decode cX9_header 120 = .ok (.if_icmp .ne 4, 3) := by decide +kernel
theorem dX9_header_123 : decode cX9_header 123 = .ok (.return_, 1) := by decide +kernel
theorem dX9_header_124 : decode cX9_header 124 = .ok (.aload_n 0, 1) := by decide +kernel
theorem dX9_header_125 : decode cX9_header 125 = .ok (.iload_n 1, 1) := by decide +kernel
theorem dX9_header_126 : decode cX9_header 126 = .ok (.iload 5, 2) := by decide +kernel
theorem dX9_header_128 : decode cX9_header 128 = .ok (.aload_n 0, 1) := by decide +kernel
theorem dX9_header_129 : decode cX9_header 129 = .ok (.iconst 4, 1) := by decide +kernel
theorem dX9_header_130 : decode cX9_header 130 = .ok (.invokevirtual 215, 3) := by decide +kernel
theorem dX9_header_133 : decode cX9_header 133 = .ok (.iload_n 2, 1) := by decide +kernel
theorem dX9_header_134 : decode cX9_header 134 = .ok (.aload_n 0, 1) := by decide +kernel
theorem dX9_header_135 : decode cX9_header 135 = .ok (.bipush 6, 2) := by decide +kernel
theorem dX9_header_137 : decode cX9_header 137 = .ok (.invokevirtual 215, 3) := by decide +kernel
theorem dX9_header_140 : decode cX9_header 140 = .ok (.iload_n 3, 1) := by decide +kernel
theorem dX9_header_141 : decode cX9_header 141 = .ok (.invokestatic 221, 3) := by decide +kernel
theorem dX9_header_144 : decode cX9_header 144 = .ok (.invokevirtual 224, 3) := by decide +kernel
theorem dX9_header_147 : decode cX9_header 147 = .ok (.istore 6, 2) := by decide +kernel
theorem dX9_header_149 : decode cX9_header 149 = .ok (.aload_n 0, 1) := by decide +kernel
theorem dX9_header_150 : decode cX9_header 150 = .ok (.getfield 47, 3) := by decide +kernel
theorem dX9_header_153 : decode cX9_header 153 = .ok (.aload_n 0, 1) := by decide +kernel
theorem dX9_header_154 : decode cX9_header 154 = .ok (.getfield 206, 3) := by decide +kernel
theorem dX9_header_157 : decode cX9_header 157 = .ok (.iload 6, 2) := by decide +kernel
theorem dX9_header_159 : decode cX9_header 159 = .ok (.iastore, 1) := by decide +kernel
theorem dX9_header_160 : decode cX9_header 160 = .ok (.aload_n 0, 1) := by decide +kernel
theorem dX9_header_161 : decode cX9_header 161 = .ok (.dup, 1) := by decide +kernel
theorem dX9_header_162 : decode cX9_header 162 = .ok (.getfield 206, 3) := by decide +kernel
theorem dX9_header_165 : decode cX9_header 165 = .ok (.iconst 1, 1) := by decide +kernel
theorem dX9_header_166 : decode cX9_header 166 = .ok (.iadd, 1) := by decide +kernel
theorem dX9_header_167 : decode cX9_header 167 = .ok (.putfield 206, 3) := by decide +kernel
theorem dX9_header_170 : decode cX9_header 170 = .ok (.aload_n 0, 1) := by decide +kernel
theorem dX9_header_171 : decode cX9_header 171 = .ok (.getfield 84, 3) := by decide +kernel
theorem dX9_header_174 : decode cX9_header 174 = .ok (.iload_n 1, 1) := by decide +kernel
theorem dX9_header_175 : decode cX9_header 175 = .ok (.iload 6, 2) := by decide +kernel
theorem dX9_header_177 : decode cX9_header 177 = .ok (.iastore, 1) := by decide +kernel
theorem dX9_header_178 : decode cX9_header 178 = .ok (.aload_n 0, 1) := by decide +kernel
theorem dX9_header_179 : decode cX9_header 179 = .ok (.getfield 69, 3) := by decide +kernel
theorem dX9_header_182 : decode cX9_header 182 = .ok (.iload 6, 2) := by decide +kernel
theorem dX9_header_184 : decode cX9_header 184 = .ok (.dup2, 1) := by decide +kernel
theorem dX9_header_185 : decode cX9_header 185 = .ok (.iaload, 1) := by decide +kernel
theorem dX9_header_186 : decode cX9_header 186 = .ok (.iconst 1, 1) := by decide +kernel
theorem dX9_header_187 : decode cX9_header 187 = .ok (.iadd, 1) := by decide +kernel
theorem dX9_header_188 : decode cX9_header 188 = .ok (.iastore, 1) := by decide +kernel
theorem dX9_header_189 : decode cX9_header 189 = .ok (.aload_n 0, 1) := by decide +kernel
theorem dX9_header_190 : decode cX9_header 190 = .ok (.getfield 63, 3) := by decide +kernel
theorem dX9_header_193 : decode cX9_header 193 = .ok (.iload 6, 2) := by decide +kernel
theorem dX9_header_195 : decode cX9_header 195 = .ok (.iload_n 2, 1) := by decide +kernel
theorem dX9_header_196 : decode cX9_header 196 = .ok (.bipush 8, 2) := by decide +kernel
theorem dX9_header_198 : decode cX9_header 198 = .ok (.if_icmp .lt 7, 3) := by decide +kernel
theorem dX9_header_201 : decode cX9_header 201 = .ok (.iconst 1, 1) := by decide +kernel
theorem dX9_header_202 : decode cX9_header 202 = .ok (.goto 4, 3) := by decide +kernel
theorem dX9_header_205 : decode cX9_header 205 = .ok (.iconst 0, 1) := by decide +kernel
theorem dX9_header_206 : decode cX9_header 206 = .ok (.iload_n 3, 1) := by decide +kernel
theorem dX9_header_207 : decode cX9_header 207 = .ok (.iconst 4, 1) := by decide +kernel
theorem dX9_header_208 : decode cX9_header 208 = .ok (.idiv, 1) := by decide +kernel
theorem dX9_header_209 : decode cX9_header 209 = .ok (.iconst 2, 1) := by decide +kernel
theorem dX9_header_210 : decode cX9_header 210 = .ok (.irem, 1) := by decide +kernel
theorem dX9_header_211 : decode cX9_header 211 = .ok (.iconst 1, 1) := by decide +kernel
theorem dX9_header_212 : decode cX9_header 212 = .ok (.if_icmp .ne 7, 3) := by decide +kernel
theorem dX9_header_215 : decode cX9_header 215 = .ok (.iconst 2, 1) := by decide +kernel
theorem dX9_header_216 : decode cX9_header 216 = .ok (.goto 4, 3) := by decide +kernel
theorem dX9_header_219 : decode cX9_header 219 = .ok (.iconst 0, 1) := by decide +kernel
theorem dX9_header_220 : decode cX9_header 220 = .ok (.iadd, 1) := by decide +kernel
theorem dX9_header_221 : decode cX9_header 221 = .ok (.iload_n 3, 1) := by decide +kernel
theorem dX9_header_222 : decode cX9_header 222 = .ok (.bipush 8, 2) := by decide +kernel
theorem dX9_header_224 : decode cX9_header 224 = .ok (.if_icmp .lt 7, 3) := by decide +kernel
theorem dX9_header_227 : decode cX9_header 227 = .ok (.iconst 4, 1) := by decide +kernel
theorem dX9_header_228 : decode cX9_header 228 = .ok (.goto 4, 3) := by decide +kernel
theorem dX9_header_231 : decode cX9_header 231 = .ok (.iconst 0, 1) := by decide +kernel
theorem dX9_header_232 : decode cX9_header 232 = .ok (.iadd, 1) := by decide +kernel
theorem dX9_header_233 : decode cX9_header 233 = .ok (.iload 4, 2) := by decide +kernel
theorem dX9_header_235 : decode cX9_header 235 = .ok (.ifCond .eq 8, 3) := by decide +kernel
theorem dX9_header_238 : decode cX9_header 238 = .ok (.bipush 8, 2) := by decide +kernel
theorem dX9_header_240 : decode cX9_header 240 = .ok (.goto 4, 3) := by decide +kernel
theorem dX9_header_243 : decode cX9_header 243 = .ok (.iconst 0, 1) := by decide +kernel
theorem dX9_header_244 : decode cX9_header 244 = .ok (.iadd, 1) := by decide +kernel
theorem dX9_header_245 : decode cX9_header 245 = .ok (.iastore, 1) := by decide +kernel
theorem dX9_header_246 : decode cX9_header 246 = .ok (.iload_n 2, 1) := by decide +kernel
theorem dX9_header_247 : decode cX9_header 247 = .ok (.bipush 8, 2) := by decide +kernel
theorem dX9_header_249 : decode cX9_header 249 = .ok (.if_icmp .lt 10, 3) := by decide +kernel
theorem dX9_header_252 : decode cX9_header 252 = .ok (.aload_n 0, 1) := by decide +kernel
theorem dX9_header_253 : decode cX9_header 253 = .ok (.iload 6, 2) := by decide +kernel
theorem dX9_header_255 : decode cX9_header 255 = .ok (.iconst 1, 1) := by decide +kernel
theorem dX9_header_256 : decode cX9_header 256 = .ok (.invokevirtual 212, 3) := by decide +kernel
theorem dX9_header_259 : decode cX9_header 259 = .ok (.aload_n 0, 1) := by decide +kernel
theorem dX9_header_260 : decode cX9_header 260 = .ok (.iload 6, 2) := by decide +kernel
theorem dX9_header_262 : decode cX9_header 262 = .ok (.iconst 0, 1) := by decide +kernel
theorem dX9_header_263 : decode cX9_header 263 = .ok (.bipush 10, 2) := by decide +kernel
theorem dX9_header_265 : decode cX9_header 265 = .ok (.bipush 8, 2) := by decide +kernel
theorem dX9_header_267 : decode cX9_header 267 = .ok (.bipush 32, 2) := by decide +kernel
theorem dX9_header_269 : decode cX9_header 269 = .ok (.invokevirtual 228, 3) := by decide +kernel
theorem dX9_header_272 : decode cX9_header 272 = .ok (.iconst 0, 1) := by decide +kernel
theorem dX9_header_273 : decode cX9_header 273 = .ok (.istore 7, 2) := by decide +kernel
theorem dX9_header_275 : decode cX9_header 275 = .ok (.iload 7, 2) := by decide +kernel
theorem dX9_header_277 : decode cX9_header 277 = .ok (.bipush 8, 2) := by decide +kernel
theorem dX9_header_279 : decode cX9_header 279 = .ok (.if_icmp .ge 25, 3) := by decide +kernel
theorem dX9_header_282 : decode cX9_header 282 = .ok (.aload_n 0, 1) := by decide +kernel
theorem dX9_header_283 : decode cX9_header 283 = .ok (.getfield 72, 3) := by decide +kernel
theorem dX9_header_286 : decode cX9_header 286 = .ok (.sipush 1000, 3) := by decide +kernel
theorem dX9_header_289 : decode cX9_header 289 = .ok (.iload 6, 2) := by decide +kernel
theorem dX9_header_291 : decode cX9_header 291 = .ok (.imul, 1) := by decide +kernel
theorem dX9_header_292 : decode cX9_header 292 = .ok (.iload 7, 2) := by decide +kernel
theorem dX9_header_294 : decode cX9_header 294 = .ok (.iadd, 1) := by decide +kernel
theorem dX9_header_295 : decode cX9_header 295 = .ok (.bipush 32, 2) := by decide +kernel
theorem dX9_header_297 : decode cX9_header 297 = .ok (.bastore, 1) := by decide +kernel
theorem dX9_header_298 : decode cX9_header 298 = .ok (.iinc 7 1, 3) := by decide +kernel
theorem dX9_header_301 : decode cX9_header 301 = .ok (.goto (-26), 3) := by decide +kernel
theorem dX9_header_304 : decode cX9_header 304 = .ok (.return_, 1) := by decide +kernel
theorem nmX9_header : mm_nm yX9_header 1 := ⟨by decide, by decide, by decide +kernel⟩
theorem cdX9_header : mm_cd cd_Y yX9_header cX9_header 8 none := ⟨tw_1045, tw_8⟩
abbrev rmX9_header : Room := { frames := 4, cells := 0, slots := 0, locals := 89 }
def fX9_header_275  : Nat → Nat → Int32 → Int32 → Int32 → Int32 → Int32 → Int32 → Int32 → mm_M → Option mm_M
  | 0 => fun _ _ _ _ _ _ _ _ _ => none
  | n + 1 => fun a0 x1 x2 x3 x4 x5 x6 x7 σ =>
  (if 8 ≤ x7 then some (σ) else mm_sh σ a0 (.inl 9) (mm_on (mm_R σ a0 23) fun q49 => mm_ar σ q49 2 fun n50 => mm_ib ((1000 * x6) + x7) n50 (mm_let (mm_wI σ q49 (((1000 * x6) + x7).toNatClampNeg) ((32 : Int32).toInt8.toInt32)) fun s52 => (fX9_header_275  n a0 x1 x2 x3 x4 x5 x6 (x7 + 1) s52))))
def fX9_header_259  (a0 : Nat) (x1 : Int32) (x2 : Int32) (x3 : Int32) (x4 : Int32) (x5 : Int32) (x6 : Int32) (σ : mm_M) : Option mm_M :=
  mm_sh σ a0 (.inl 9) (mm_on (fX9_text a0 x6 0 10 8 32 σ) fun q46 => (fX9_header_275  mm_fuel a0 x1 x2 x3 x4 x5 x6 0 q46))
def fX9_header_244  (a0 : Nat) (x1 : Int32) (x2 : Int32) (x3 : Int32) (x4 : Int32) (x5 : Int32) (x6 : Int32) (y0 : Int32) (y1 : Int32) (y2 : Int32) (y3 : Option Nat) (σ : mm_M) : Option mm_M :=
  mm_on (y3) fun q40 => mm_ar σ q40 0 fun n41 => mm_ib y2 n41 (mm_let (mm_wI σ q40 (y2.toNatClampNeg) (y1 + y0)) fun s43 => (if x2 < 8 then (fX9_header_259  a0 x1 x2 x3 x4 x5 x6 s43) else mm_sh s43 a0 (.inl 9) (mm_on (fX9_emptyRows a0 x6 1 s43) fun q54 => (fX9_header_259  a0 x1 x2 x3 x4 x5 x6 q54))))
def fX9_header_232  (a0 : Nat) (x1 : Int32) (x2 : Int32) (x3 : Int32) (x4 : Int32) (x5 : Int32) (x6 : Int32) (y0 : Int32) (y1 : Int32) (y2 : Int32) (y3 : Option Nat) (σ : mm_M) : Option mm_M :=
  (if x4 = 0 then (fX9_header_244  a0 x1 x2 x3 x4 x5 x6 0 (y1 + y0) y2 y3 σ) else (fX9_header_244  a0 x1 x2 x3 x4 x5 x6 8 (y1 + y0) y2 y3 σ))
def fX9_header_220  (a0 : Nat) (x1 : Int32) (x2 : Int32) (x3 : Int32) (x4 : Int32) (x5 : Int32) (x6 : Int32) (y0 : Int32) (y1 : Int32) (y2 : Int32) (y3 : Option Nat) (σ : mm_M) : Option mm_M :=
  (if x3 < 8 then (fX9_header_232  a0 x1 x2 x3 x4 x5 x6 0 (y1 + y0) y2 y3 σ) else (fX9_header_232  a0 x1 x2 x3 x4 x5 x6 4 (y1 + y0) y2 y3 σ))
def fX9_header_206  (a0 : Nat) (x1 : Int32) (x2 : Int32) (x3 : Int32) (x4 : Int32) (x5 : Int32) (x6 : Int32) (y0 : Int32) (y1 : Int32) (y2 : Option Nat) (σ : mm_M) : Option mm_M :=
  (if ((x3 / 4) - (x3 / 4) / 2 * 2) = 1 then (fX9_header_220  a0 x1 x2 x3 x4 x5 x6 2 y0 y1 y2 σ) else (fX9_header_220  a0 x1 x2 x3 x4 x5 x6 0 y0 y1 y2 σ))
def fX9_header_87 (k69 : Nat → Int32 → Int32 → Int32 → Int32 → Int32 → mm_M → Option mm_M) (a0 : Nat) (x1 : Int32) (x2 : Int32) (x3 : Int32) (x4 : Int32) (x5 : Int32) (σ : mm_M) : Option mm_M :=
  mm_sh σ a0 (.inl 9) (mm_on (fX9_close a0 x5 σ) fun q57 => (k69 a0 x1 x2 x3 x4 (x5 + 1) q57))
def fX9_header_69  : Nat → Nat → Int32 → Int32 → Int32 → Int32 → Int32 → mm_M → Option mm_M
  | 0 => fun _ _ _ _ _ _ _ => none
  | n + 1 => fun a0 x1 x2 x3 x4 x5 σ =>
  (if 9 ≤ x5 then mm_sh σ a0 (.inl 9) (mm_on (fX9_value a0 3 σ) fun q11 => mm_sh q11.2 a0 (.inl 9) (mm_on (fX9_value a0 2 q11.2) fun q13 => (if ((16 * q11.1) + q13.1) = 255 then some (q13.2) else mm_sh q13.2 a0 (.inl 9) (mm_on (fX9_value a0 4 q13.2) fun q16 => mm_sh q16.2 a0 (.inl 9) (mm_on (fX9_value a0 6 q16.2) fun q18 => mm_sh q18.2 a0 (.inl 9) (mm_on (fX9_pageFor a0 x1 ((16 * q11.1) + q13.1) (fX9_subcodeOf q16.1 x2 q18.1 x3) q18.2) fun q20 => mm_sh q20.2 a0 (.inl 9) (mm_on (mm_R q20.2 a0 15) fun q22 => mm_ar q20.2 q22 0 fun n23 => mm_ib (mm_I q20.2 a0 14) n23 (mm_let (mm_wI q20.2 q22 ((mm_I q20.2 a0 14).toNatClampNeg) q20.1) fun s25 => mm_let (mm_wI s25 a0 14 ((mm_I s25 a0 14) + 1)) fun s26 => mm_on (mm_R s26 a0 27) fun q27 => mm_ar s26 q27 0 fun n28 => mm_ib x1 n28 (mm_let (mm_wI s26 q27 (x1.toNatClampNeg) q20.1) fun s30 => mm_on (mm_R s30 a0 22) fun q31 => mm_ar s30 q31 0 fun n32 => mm_ib q20.1 n32 (mm_ib q20.1 n32 (mm_let (mm_wI s30 q31 (q20.1.toNatClampNeg) ((mm_I s30 q31 q20.1.toNatClampNeg) + 1)) fun s35 => (if x2 < 8 then (fX9_header_206  a0 x1 x2 x3 x4 ((16 * q11.1) + q13.1) q20.1 0 q20.1 (mm_R s35 a0 20) s35) else (fX9_header_206  a0 x1 x2 x3 x4 ((16 * q11.1) + q13.1) q20.1 1 q20.1 (mm_R s35 a0 20) s35))))))))))))) else (if x4 = 0 then (if x5 = x1 then (fX9_header_87 (fX9_header_69  n) a0 x1 x2 x3 x4 x5 σ) else (fX9_header_69  n a0 x1 x2 x3 x4 (x5 + 1) σ)) else (fX9_header_87 (fX9_header_69  n) a0 x1 x2 x3 x4 x5 σ)))
def fX9_header_2  : Nat → Nat → Int32 → Int32 → mm_M → Option mm_M
  | 0 => fun _ _ _ _ => none
  | n + 1 => fun a0 x1 x2 σ =>
  (if 10 ≤ x2 then mm_sh σ a0 (.inl 9) (mm_on (fX9_value a0 5 σ) fun q3 => mm_sh q3.2 a0 (.inl 9) (mm_on (fX9_value a0 7 q3.2) fun q5 => mm_sh q5.2 a0 (.inl 9) (mm_on (fX9_value a0 9 q5.2) fun q7 => (if (q7.1 - q7.1 / 2 * 2) = 1 then (fX9_header_69  mm_fuel a0 x1 q3.1 q5.1 1 1 q7.2) else (fX9_header_69  mm_fuel a0 x1 q3.1 q5.1 0 1 q7.2))))) else mm_sh σ a0 (.inl 9) (mm_on (fX9_value a0 x2 σ) fun q60 => (if q60.1 = (-1) then mm_sh q60.2 a0 (.inl 9) (mm_on (mm_R q60.2 a0 13) fun q63 => mm_ar q60.2 q63 0 fun n64 => mm_ib 1 n64 (mm_ib 1 n64 (mm_let (mm_wI q60.2 q63 ((1 : Int32).toNatClampNeg) ((mm_I q60.2 q63 (1 : Int32).toNatClampNeg) + 1)) fun s67 => some (s67)))) else (fX9_header_2  n a0 x1 (x2 + 1) q60.2))))
def fX9_header (p0 : Nat) (p1 : Int32) (σ : mm_M) : Option mm_M :=
  (fX9_header_2  mm_fuel p0 p1 2 σ)
set_option maxHeartbeats 4000000 in
set_option maxRecDepth 100000 in
theorem kX9_header_275 {G : mm_G} {A : Nat → Prop} {ini : Bool × Option (List (Nat × Nat × Nat × Nat))}  {R : mm_M}  : ∀ (a0 : Nat) (x1 : Int32) (x2 : Int32) (x3 : Int32) (x4 : Int32) (x5 : Int32) (x6 : Int32) (x7 : Int32) (σ : mm_M), fX9_header_275  mm_fuel a0 x1 x2 x3 x4 x5 x6 x7 σ = some R → mm_J cd_Y G RX9 cX9_header 8 none ini rmX9_header A (mm_QF cd_Y G A (mm_Pv R) rmX9_header.cells rmX9_header.slots) 275 [(0, .ref a0), (1, .int x1), (2, .int x2), (3, .int x3), (4, .int x4), (5, .int x5), (6, .int x6), (7, .int x7)] [] σ 0 0 := by
  generalize mm_fuel = n
  induction n with
  | zero => intro a0 x1 x2 x3 x4 x5 x6 x7 σ hf; cases hf
  | succ n ih =>
    intro a0 x1 x2 x3 x4 x5 x6 x7 σ hf
    unfold fX9_header_275 at hf
    refine mm_iload (j := 7) dX9_header_275 rfl ?_
    refine mm_bipush (v := 8) dX9_header_277 (by decide) ?_
    refine mm_icmp_ge (tgt := 304) dX9_header_279 (by decide) (fun c47 => ?_) (fun c47 => ?_)
    · rw [if_pos c47] at hf
      cases hf
      refine mm_widen (ck' := rmX9_header.cells) (sk' := rmX9_header.slots) (Nat.le_of_ble_eq_true rfl) (Nat.le_of_ble_eq_true rfl) ?_
      exact mm_vret rfl dX9_header_304 ⟨rfl, rfl⟩
    · rw [if_neg c47] at hf
      refine mm_aload_n (j := 0) dX9_header_282 rfl rfl ?_
      obtain ⟨hs48, hf⟩ := mm_sh_s hf
      refine mm_get (c := 9) (k := 23) (v := va_rf (mm_R σ a0 23)) cd_ok ⟨_, _, _, rfl, by decide, Or.inl tw_817⟩ hs48 rfl dX9_header_283 ?_
      refine mm_sipush (v := 1000) dX9_header_286 (by decide) ?_
      refine mm_iload (j := 6) dX9_header_289 rfl ?_
      refine mm_imul dX9_header_291 ?_
      refine mm_iload (j := 7) dX9_header_292 rfl ?_
      refine mm_iadd dX9_header_294 ?_
      refine mm_bipush (v := 32) dX9_header_295 (by decide) ?_
      obtain ⟨q49, hq49, hf⟩ := mm_on_s hf
      rw [hq49, mm_rf_some]
      obtain ⟨n50, hn50, hf⟩ := mm_ar_s hf
      obtain ⟨hi51, hf⟩ := mm_ib_s hf
      refine mm_bast hn50 rfl hi51 dX9_header_297 ?_
      obtain ⟨s52, hs52, hf⟩ := mm_let_s hf
      rw [hs52]
      refine mm_iinc (j := 7) (L' := [(7, .int (x7 + 1)), (0, .ref a0), (1, .int x1), (2, .int x2), (3, .int x3), (4, .int x4), (5, .int x5), (6, .int x6)]) dX9_header_298 rfl rfl (by decide) rfl ?_
      refine mm_goto (tgt := 275) dX9_header_301 (by decide) ?_
      refine mm_sub [1, 2, 3, 4, 5, 6, 7, 0] rfl ?_
      exact ih a0 x1 x2 x3 x4 x5 x6 (x7 + 1) s52 hf
set_option maxHeartbeats 4000000 in
set_option maxRecDepth 100000 in
theorem kX9_header_259 {G : mm_G} {A : Nat → Prop} {ini : Bool × Option (List (Nat × Nat × Nat × Nat))}  {R : mm_M}  (a0 : Nat) (x1 : Int32) (x2 : Int32) (x3 : Int32) (x4 : Int32) (x5 : Int32) (x6 : Int32) (σ : mm_M) (hf : fX9_header_259  a0 x1 x2 x3 x4 x5 x6 σ = some R) : mm_J cd_Y G RX9 cX9_header 8 none ini rmX9_header A (mm_QF cd_Y G A (mm_Pv R) rmX9_header.cells rmX9_header.slots) 259 [(0, .ref a0), (1, .int x1), (2, .int x2), (3, .int x3), (4, .int x4), (5, .int x5), (6, .int x6)] [] σ 0 0 := by
  unfold fX9_header_259 at hf
  refine mm_aload_n (j := 0) dX9_header_259 rfl rfl ?_
  refine mm_iload (j := 6) dX9_header_260 rfl ?_
  refine mm_iconst (v := 0) dX9_header_262 (by decide) ?_
  refine mm_bipush (v := 10) dX9_header_263 (by decide) ?_
  refine mm_bipush (v := 8) dX9_header_265 (by decide) ?_
  refine mm_bipush (v := 32) dX9_header_267 (by decide) ?_
  obtain ⟨hs45, hf⟩ := mm_sh_s hf
  obtain ⟨q46, hq46, hf⟩ := mm_on_s hf
  refine mm_callVv cd_ok (kX9_text a0 x6 0 10 8 32 hq46) hs45 rfl (Or.inl tw_1065) cdX9_text tw_1067 ts_50 nmX9_text rfl rfl (by simp only [List.map_cons, List.map_nil, mm_rf_cat]; exact Nat.le_of_ble_eq_true rfl) dX9_header_269 ⟨Nat.le_of_ble_eq_true rfl, Nat.le_of_ble_eq_true rfl⟩ ⟨Nat.le_of_ble_eq_true rfl, Nat.le_of_ble_eq_true rfl⟩ ?_
  refine mm_iconst (v := 0) dX9_header_272 (by decide) ?_
  refine mm_istore (L' := [(7, .int 0), (0, .ref a0), (1, .int x1), (2, .int x2), (3, .int x3), (4, .int x4), (5, .int x5), (6, .int x6)]) dX9_header_273 (by decide) rfl ?_
  refine mm_sub [1, 2, 3, 4, 5, 6, 7, 0] rfl ?_
  exact kX9_header_275  a0 x1 x2 x3 x4 x5 x6 0 q46 hf
set_option maxHeartbeats 4000000 in
set_option maxRecDepth 100000 in
theorem kX9_header_244 {G : mm_G} {A : Nat → Prop} {ini : Bool × Option (List (Nat × Nat × Nat × Nat))}  {R : mm_M}  (a0 : Nat) (x1 : Int32) (x2 : Int32) (x3 : Int32) (x4 : Int32) (x5 : Int32) (x6 : Int32) (y0 : Int32) (y1 : Int32) (y2 : Int32) (y3 : Option Nat) (σ : mm_M) (hf : fX9_header_244  a0 x1 x2 x3 x4 x5 x6 y0 y1 y2 y3 σ = some R) : mm_J cd_Y G RX9 cX9_header 8 none ini rmX9_header A (mm_QF cd_Y G A (mm_Pv R) rmX9_header.cells rmX9_header.slots) 244 [(0, .ref a0), (1, .int x1), (2, .int x2), (3, .int x3), (4, .int x4), (5, .int x5), (6, .int x6)] [.int y0, .int y1, .int y2, va_rf (y3)] σ 0 0 := by
  unfold fX9_header_244 at hf
  refine mm_iadd dX9_header_244 ?_
  obtain ⟨q40, hq40, hf⟩ := mm_on_s hf
  rw [hq40, mm_rf_some]
  obtain ⟨n41, hn41, hf⟩ := mm_ar_s hf
  obtain ⟨hi42, hf⟩ := mm_ib_s hf
  refine mm_iast hn41 rfl hi42 dX9_header_245 ?_
  obtain ⟨s43, hs43, hf⟩ := mm_let_s hf
  rw [hs43]
  refine mm_iload_n (j := 2) dX9_header_246 rfl rfl ?_
  refine mm_bipush (v := 8) dX9_header_247 (by decide) ?_
  refine mm_icmp_lt (tgt := 259) dX9_header_249 (by decide) (fun c44 => ?_) (fun c44 => ?_)
  · rw [if_pos c44] at hf
    refine mm_sub [0, 1, 2, 3, 4, 5, 6] rfl ?_
    exact kX9_header_259  a0 x1 x2 x3 x4 x5 x6 s43 hf
  · rw [if_neg c44] at hf
    refine mm_aload_n (j := 0) dX9_header_252 rfl rfl ?_
    refine mm_iload (j := 6) dX9_header_253 rfl ?_
    refine mm_iconst (v := 1) dX9_header_255 (by decide) ?_
    obtain ⟨hs53, hf⟩ := mm_sh_s hf
    obtain ⟨q54, hq54, hf⟩ := mm_on_s hf
    refine mm_callVv cd_ok (kX9_emptyRows a0 x6 1 hq54) hs53 rfl (Or.inl tw_1061) cdX9_emptyRows tw_1063 ts_49 nmX9_emptyRows rfl rfl (by simp only [List.map_cons, List.map_nil, mm_rf_cat]; exact Nat.le_of_ble_eq_true rfl) dX9_header_256 ⟨Nat.le_of_ble_eq_true rfl, Nat.le_of_ble_eq_true rfl⟩ ⟨Nat.le_of_ble_eq_true rfl, Nat.le_of_ble_eq_true rfl⟩ ?_
    refine mm_sub [0, 1, 2, 3, 4, 5, 6] rfl ?_
    exact kX9_header_259  a0 x1 x2 x3 x4 x5 x6 q54 hf
set_option maxHeartbeats 4000000 in
set_option maxRecDepth 100000 in
theorem kX9_header_232 {G : mm_G} {A : Nat → Prop} {ini : Bool × Option (List (Nat × Nat × Nat × Nat))}  {R : mm_M}  (a0 : Nat) (x1 : Int32) (x2 : Int32) (x3 : Int32) (x4 : Int32) (x5 : Int32) (x6 : Int32) (y0 : Int32) (y1 : Int32) (y2 : Int32) (y3 : Option Nat) (σ : mm_M) (hf : fX9_header_232  a0 x1 x2 x3 x4 x5 x6 y0 y1 y2 y3 σ = some R) : mm_J cd_Y G RX9 cX9_header 8 none ini rmX9_header A (mm_QF cd_Y G A (mm_Pv R) rmX9_header.cells rmX9_header.slots) 232 [(0, .ref a0), (1, .int x1), (2, .int x2), (3, .int x3), (4, .int x4), (5, .int x5), (6, .int x6)] [.int y0, .int y1, .int y2, va_rf (y3)] σ 0 0 := by
  unfold fX9_header_232 at hf
  refine mm_iadd dX9_header_232 ?_
  refine mm_iload (j := 4) dX9_header_233 rfl ?_
  refine mm_if_eq (tgt := 243) dX9_header_235 (by decide) (fun c39 => ?_) (fun c39 => ?_)
  · rw [if_pos c39] at hf
    refine mm_iconst (v := 0) dX9_header_243 (by decide) ?_
    refine mm_sub [0, 1, 2, 3, 4, 5, 6] rfl ?_
    exact kX9_header_244  a0 x1 x2 x3 x4 x5 x6 0 (y1 + y0) y2 y3 σ hf
  · rw [if_neg c39] at hf
    refine mm_bipush (v := 8) dX9_header_238 (by decide) ?_
    refine mm_goto (tgt := 244) dX9_header_240 (by decide) ?_
    refine mm_sub [0, 1, 2, 3, 4, 5, 6] rfl ?_
    exact kX9_header_244  a0 x1 x2 x3 x4 x5 x6 8 (y1 + y0) y2 y3 σ hf
set_option maxHeartbeats 4000000 in
set_option maxRecDepth 100000 in
theorem kX9_header_220 {G : mm_G} {A : Nat → Prop} {ini : Bool × Option (List (Nat × Nat × Nat × Nat))}  {R : mm_M}  (a0 : Nat) (x1 : Int32) (x2 : Int32) (x3 : Int32) (x4 : Int32) (x5 : Int32) (x6 : Int32) (y0 : Int32) (y1 : Int32) (y2 : Int32) (y3 : Option Nat) (σ : mm_M) (hf : fX9_header_220  a0 x1 x2 x3 x4 x5 x6 y0 y1 y2 y3 σ = some R) : mm_J cd_Y G RX9 cX9_header 8 none ini rmX9_header A (mm_QF cd_Y G A (mm_Pv R) rmX9_header.cells rmX9_header.slots) 220 [(0, .ref a0), (1, .int x1), (2, .int x2), (3, .int x3), (4, .int x4), (5, .int x5), (6, .int x6)] [.int y0, .int y1, .int y2, va_rf (y3)] σ 0 0 := by
  unfold fX9_header_220 at hf
  refine mm_iadd dX9_header_220 ?_
  refine mm_iload_n (j := 3) dX9_header_221 rfl rfl ?_
  refine mm_bipush (v := 8) dX9_header_222 (by decide) ?_
  refine mm_icmp_lt (tgt := 231) dX9_header_224 (by decide) (fun c38 => ?_) (fun c38 => ?_)
  · rw [if_pos c38] at hf
    refine mm_iconst (v := 0) dX9_header_231 (by decide) ?_
    refine mm_sub [0, 1, 2, 3, 4, 5, 6] rfl ?_
    exact kX9_header_232  a0 x1 x2 x3 x4 x5 x6 0 (y1 + y0) y2 y3 σ hf
  · rw [if_neg c38] at hf
    refine mm_iconst (v := 4) dX9_header_227 (by decide) ?_
    refine mm_goto (tgt := 232) dX9_header_228 (by decide) ?_
    refine mm_sub [0, 1, 2, 3, 4, 5, 6] rfl ?_
    exact kX9_header_232  a0 x1 x2 x3 x4 x5 x6 4 (y1 + y0) y2 y3 σ hf
set_option maxHeartbeats 4000000 in
set_option maxRecDepth 100000 in
theorem kX9_header_206 {G : mm_G} {A : Nat → Prop} {ini : Bool × Option (List (Nat × Nat × Nat × Nat))}  {R : mm_M}  (a0 : Nat) (x1 : Int32) (x2 : Int32) (x3 : Int32) (x4 : Int32) (x5 : Int32) (x6 : Int32) (y0 : Int32) (y1 : Int32) (y2 : Option Nat) (σ : mm_M) (hf : fX9_header_206  a0 x1 x2 x3 x4 x5 x6 y0 y1 y2 σ = some R) : mm_J cd_Y G RX9 cX9_header 8 none ini rmX9_header A (mm_QF cd_Y G A (mm_Pv R) rmX9_header.cells rmX9_header.slots) 206 [(0, .ref a0), (1, .int x1), (2, .int x2), (3, .int x3), (4, .int x4), (5, .int x5), (6, .int x6)] [.int y0, .int y1, va_rf (y2)] σ 0 0 := by
  unfold fX9_header_206 at hf
  refine mm_iload_n (j := 3) dX9_header_206 rfl rfl ?_
  refine mm_iconst (v := 4) dX9_header_207 (by decide) ?_
  refine mm_idiv dX9_header_208 (by decide) ?_
  refine mm_iconst (v := 2) dX9_header_209 (by decide) ?_
  refine mm_irem dX9_header_210 (by decide) ?_
  refine mm_iconst (v := 1) dX9_header_211 (by decide) ?_
  refine mm_icmp_ne (tgt := 219) dX9_header_212 (by decide) (fun c37 => ?_) (fun c37 => ?_)
  · rw [if_neg c37] at hf
    refine mm_iconst (v := 0) dX9_header_219 (by decide) ?_
    refine mm_sub [0, 1, 2, 3, 4, 5, 6] rfl ?_
    exact kX9_header_220  a0 x1 x2 x3 x4 x5 x6 0 y0 y1 y2 σ hf
  · rw [if_pos c37] at hf
    refine mm_iconst (v := 2) dX9_header_215 (by decide) ?_
    refine mm_goto (tgt := 220) dX9_header_216 (by decide) ?_
    refine mm_sub [0, 1, 2, 3, 4, 5, 6] rfl ?_
    exact kX9_header_220  a0 x1 x2 x3 x4 x5 x6 2 y0 y1 y2 σ hf
set_option maxHeartbeats 4000000 in
set_option maxRecDepth 100000 in
theorem kX9_header_87 {G : mm_G} {A : Nat → Prop} {ini : Bool × Option (List (Nat × Nat × Nat × Nat))} {k69 : Nat → Int32 → Int32 → Int32 → Int32 → Int32 → mm_M → Option mm_M} {R : mm_M} (hk69 : ∀ a0 x1 x2 x3 x4 x5 σ, k69 a0 x1 x2 x3 x4 x5 σ = some R → mm_J cd_Y G RX9 cX9_header 8 none ini rmX9_header A (mm_QF cd_Y G A (mm_Pv R) rmX9_header.cells rmX9_header.slots) 69 [(0, .ref a0), (1, .int x1), (2, .int x2), (3, .int x3), (4, .int x4), (5, .int x5)] [] σ 0 0) (a0 : Nat) (x1 : Int32) (x2 : Int32) (x3 : Int32) (x4 : Int32) (x5 : Int32) (σ : mm_M) (hf : fX9_header_87 k69 a0 x1 x2 x3 x4 x5 σ = some R) : mm_J cd_Y G RX9 cX9_header 8 none ini rmX9_header A (mm_QF cd_Y G A (mm_Pv R) rmX9_header.cells rmX9_header.slots) 87 [(0, .ref a0), (1, .int x1), (2, .int x2), (3, .int x3), (4, .int x4), (5, .int x5)] [] σ 0 0 := by
  unfold fX9_header_87 at hf
  refine mm_aload_n (j := 0) dX9_header_87 rfl rfl ?_
  refine mm_iload (j := 5) dX9_header_88 rfl ?_
  obtain ⟨hs56, hf⟩ := mm_sh_s hf
  obtain ⟨q57, hq57, hf⟩ := mm_on_s hf
  refine mm_callVv cd_ok (kX9_close a0 x5 hq57) hs56 rfl (Or.inl tw_1046) cdX9_close tw_1048 ts_46 nmX9_close rfl rfl (by simp only [List.map_cons, List.map_nil, mm_rf_cat]; exact Nat.le_of_ble_eq_true rfl) dX9_header_90 ⟨Nat.le_of_ble_eq_true rfl, Nat.le_of_ble_eq_true rfl⟩ ⟨Nat.le_of_ble_eq_true rfl, Nat.le_of_ble_eq_true rfl⟩ ?_
  refine mm_iinc (j := 5) (L' := [(5, .int (x5 + 1)), (0, .ref a0), (1, .int x1), (2, .int x2), (3, .int x3), (4, .int x4)]) dX9_header_93 rfl rfl (by decide) rfl ?_
  refine mm_goto (tgt := 69) dX9_header_96 (by decide) ?_
  refine mm_sub [1, 2, 3, 4, 5, 0] rfl ?_
  exact hk69 a0 x1 x2 x3 x4 (x5 + 1) q57 hf
set_option maxHeartbeats 4000000 in
set_option maxRecDepth 100000 in
theorem kX9_header_69 {G : mm_G} {A : Nat → Prop} {ini : Bool × Option (List (Nat × Nat × Nat × Nat))}  {R : mm_M}  : ∀ (a0 : Nat) (x1 : Int32) (x2 : Int32) (x3 : Int32) (x4 : Int32) (x5 : Int32) (σ : mm_M), fX9_header_69  mm_fuel a0 x1 x2 x3 x4 x5 σ = some R → mm_J cd_Y G RX9 cX9_header 8 none ini rmX9_header A (mm_QF cd_Y G A (mm_Pv R) rmX9_header.cells rmX9_header.slots) 69 [(0, .ref a0), (1, .int x1), (2, .int x2), (3, .int x3), (4, .int x4), (5, .int x5)] [] σ 0 0 := by
  generalize mm_fuel = n
  induction n with
  | zero => intro a0 x1 x2 x3 x4 x5 σ hf; cases hf
  | succ n ih =>
    intro a0 x1 x2 x3 x4 x5 σ hf
    unfold fX9_header_69 at hf
    refine mm_iload (j := 5) dX9_header_69 rfl ?_
    refine mm_bipush (v := 9) dX9_header_71 (by decide) ?_
    refine mm_icmp_ge (tgt := 99) dX9_header_73 (by decide) (fun c9 => ?_) (fun c9 => ?_)
    · rw [if_pos c9] at hf
      refine mm_bipush (v := 16) dX9_header_99 (by decide) ?_
      refine mm_aload_n (j := 0) dX9_header_101 rfl rfl ?_
      refine mm_iconst (v := 3) dX9_header_102 (by decide) ?_
      obtain ⟨hs10, hf⟩ := mm_sh_s hf
      obtain ⟨q11, hq11, hf⟩ := mm_on_s hf
      refine mm_callVi cd_ok (kX9_value a0 3 hq11) hs10 rfl (Or.inl tw_1035) cdX9_value tw_1037 ts_44 nmX9_value rfl rfl (by simp only [List.map_cons, List.map_nil, mm_rf_cat]; exact Nat.le_of_ble_eq_true rfl) dX9_header_103 ⟨Nat.le_of_ble_eq_true rfl, Nat.le_of_ble_eq_true rfl⟩ ⟨Nat.le_of_ble_eq_true rfl, Nat.le_of_ble_eq_true rfl⟩ ?_
      refine mm_imul dX9_header_106 ?_
      refine mm_aload_n (j := 0) dX9_header_107 rfl rfl ?_
      refine mm_iconst (v := 2) dX9_header_108 (by decide) ?_
      obtain ⟨hs12, hf⟩ := mm_sh_s hf
      obtain ⟨q13, hq13, hf⟩ := mm_on_s hf
      refine mm_callVi cd_ok (kX9_value a0 2 hq13) hs12 rfl (Or.inl tw_1035) cdX9_value tw_1037 ts_44 nmX9_value rfl rfl (by simp only [List.map_cons, List.map_nil, mm_rf_cat]; exact Nat.le_of_ble_eq_true rfl) dX9_header_109 ⟨Nat.le_of_ble_eq_true rfl, Nat.le_of_ble_eq_true rfl⟩ ⟨Nat.le_of_ble_eq_true rfl, Nat.le_of_ble_eq_true rfl⟩ ?_
      refine mm_iadd dX9_header_112 ?_
      refine mm_istore (L' := [(5, .int ((16 * q11.1) + q13.1)), (0, .ref a0), (1, .int x1), (2, .int x2), (3, .int x3), (4, .int x4)]) dX9_header_113 (by decide) rfl ?_
      refine mm_iload (j := 0) dX9_header_115 rfl ?_
      refine mm_sipush (v := 255) dX9_header_117 (by decide) ?_
      refine mm_icmp_ne (tgt := 124) dX9_header_120 (by decide) (fun c14 => ?_) (fun c14 => ?_)
      · rw [if_neg c14] at hf
        refine mm_aload_n (j := 1) dX9_header_124 rfl rfl ?_
        refine mm_iload_n (j := 2) dX9_header_125 rfl rfl ?_
        refine mm_iload (j := 0) dX9_header_126 rfl ?_
        refine mm_aload_n (j := 1) dX9_header_128 rfl rfl ?_
        refine mm_iconst (v := 4) dX9_header_129 (by decide) ?_
        obtain ⟨hs15, hf⟩ := mm_sh_s hf
        obtain ⟨q16, hq16, hf⟩ := mm_on_s hf
        refine mm_callVi cd_ok (kX9_value a0 4 hq16) hs15 rfl (Or.inl tw_1035) cdX9_value tw_1037 ts_44 nmX9_value rfl rfl (by simp only [List.map_cons, List.map_nil, mm_rf_cat]; exact Nat.le_of_ble_eq_true rfl) dX9_header_130 ⟨Nat.le_of_ble_eq_true rfl, Nat.le_of_ble_eq_true rfl⟩ ⟨Nat.le_of_ble_eq_true rfl, Nat.le_of_ble_eq_true rfl⟩ ?_
        refine mm_iload_n (j := 3) dX9_header_133 rfl rfl ?_
        refine mm_aload_n (j := 1) dX9_header_134 rfl rfl ?_
        refine mm_bipush (v := 6) dX9_header_135 (by decide) ?_
        obtain ⟨hs17, hf⟩ := mm_sh_s hf
        obtain ⟨q18, hq18, hf⟩ := mm_on_s hf
        refine mm_callVi cd_ok (kX9_value a0 6 hq18) hs17 rfl (Or.inl tw_1035) cdX9_value tw_1037 ts_44 nmX9_value rfl rfl (by simp only [List.map_cons, List.map_nil, mm_rf_cat]; exact Nat.le_of_ble_eq_true rfl) dX9_header_137 ⟨Nat.le_of_ble_eq_true rfl, Nat.le_of_ble_eq_true rfl⟩ ⟨Nat.le_of_ble_eq_true rfl, Nat.le_of_ble_eq_true rfl⟩ ?_
        refine mm_iload_n (j := 4) dX9_header_140 rfl rfl ?_
        refine mm_callSi cd_ok (kX9_subcodeOf q16.1 x2 q18.1 x3 _ rfl) (Or.inl tw_1050) cdX9_subcodeOf tw_1051 nmX9_subcodeOf rfl rfl (by simp only [List.map_cons, List.map_nil, mm_rf_cat]; exact Nat.le_of_ble_eq_true rfl) dX9_header_141 ⟨Nat.le_of_ble_eq_true rfl, Nat.le_of_ble_eq_true rfl⟩ ⟨Nat.le_of_ble_eq_true rfl, Nat.le_of_ble_eq_true rfl⟩ ?_
        obtain ⟨hs19, hf⟩ := mm_sh_s hf
        obtain ⟨q20, hq20, hf⟩ := mm_on_s hf
        refine mm_callVi cd_ok (kX9_pageFor a0 x1 ((16 * q11.1) + q13.1) (fX9_subcodeOf q16.1 x2 q18.1 x3) hq20) hs19 rfl (Or.inl tw_1053) cdX9_pageFor tw_1055 ts_47 nmX9_pageFor rfl rfl (by simp only [List.map_cons, List.map_nil, mm_rf_cat]; exact Nat.le_of_ble_eq_true rfl) dX9_header_144 ⟨Nat.le_of_ble_eq_true rfl, Nat.le_of_ble_eq_true rfl⟩ ⟨Nat.le_of_ble_eq_true rfl, Nat.le_of_ble_eq_true rfl⟩ ?_
        refine mm_istore (L' := [(6, .int q20.1), (5, .int ((16 * q11.1) + q13.1)), (0, .ref a0), (1, .int x1), (2, .int x2), (3, .int x3), (4, .int x4)]) dX9_header_147 (by decide) rfl ?_
        refine mm_aload_n (j := 2) dX9_header_149 rfl rfl ?_
        obtain ⟨hs21, hf⟩ := mm_sh_s hf
        refine mm_get (c := 9) (k := 15) (v := va_rf (mm_R q20.2 a0 15)) cd_ok ⟨_, _, _, rfl, by decide, Or.inl tw_809⟩ hs21 rfl dX9_header_150 ?_
        refine mm_aload_n (j := 2) dX9_header_153 rfl rfl ?_
        refine mm_get (c := 9) (k := 14) (v := .int (mm_I q20.2 a0 14)) cd_ok ⟨_, _, _, rfl, by decide, Or.inl tw_808⟩ hs21 rfl dX9_header_154 ?_
        refine mm_iload (j := 0) dX9_header_157 rfl ?_
        obtain ⟨q22, hq22, hf⟩ := mm_on_s hf
        rw [hq22, mm_rf_some]
        obtain ⟨n23, hn23, hf⟩ := mm_ar_s hf
        obtain ⟨hi24, hf⟩ := mm_ib_s hf
        refine mm_iast hn23 rfl hi24 dX9_header_159 ?_
        obtain ⟨s25, hs25, hf⟩ := mm_let_s hf
        rw [hs25]
        refine mm_aload_n (j := 2) dX9_header_160 rfl rfl ?_
        refine mm_dup dX9_header_161 rfl ?_
        refine mm_get (c := 9) (k := 14) (v := .int (mm_I s25 a0 14)) cd_ok ⟨_, _, _, rfl, by decide, Or.inl tw_808⟩ (mm_ke hs25 hs21) rfl dX9_header_162 ?_
        refine mm_iconst (v := 1) dX9_header_165 (by decide) ?_
        refine mm_iadd dX9_header_166 ?_
        refine mm_putI (c := 9) (k := 14) cd_ok ⟨_, _, _, rfl, by decide, rfl, Or.inl tw_808⟩ (mm_ke hs25 hs21) rfl rfl rfl dX9_header_167 ?_
        obtain ⟨s26, hs26, hf⟩ := mm_let_s hf
        rw [hs26]
        refine mm_aload_n (j := 2) dX9_header_170 rfl rfl ?_
        refine mm_get (c := 9) (k := 27) (v := va_rf (mm_R s26 a0 27)) cd_ok ⟨_, _, _, rfl, by decide, Or.inl tw_821⟩ (mm_ke hs26 (mm_ke hs25 hs21)) rfl dX9_header_171 ?_
        refine mm_iload_n (j := 3) dX9_header_174 rfl rfl ?_
        refine mm_iload (j := 0) dX9_header_175 rfl ?_
        obtain ⟨q27, hq27, hf⟩ := mm_on_s hf
        rw [hq27, mm_rf_some]
        obtain ⟨n28, hn28, hf⟩ := mm_ar_s hf
        obtain ⟨hi29, hf⟩ := mm_ib_s hf
        refine mm_iast hn28 rfl hi29 dX9_header_177 ?_
        obtain ⟨s30, hs30, hf⟩ := mm_let_s hf
        rw [hs30]
        refine mm_aload_n (j := 2) dX9_header_178 rfl rfl ?_
        refine mm_get (c := 9) (k := 22) (v := va_rf (mm_R s30 a0 22)) cd_ok ⟨_, _, _, rfl, by decide, Or.inl tw_816⟩ (mm_ke hs30 (mm_ke hs26 (mm_ke hs25 hs21))) rfl dX9_header_179 ?_
        refine mm_iload (j := 0) dX9_header_182 rfl ?_
        refine mm_dup2 dX9_header_184 rfl (mm_rf_cat _) ?_
        obtain ⟨q31, hq31, hf⟩ := mm_on_s hf
        rw [hq31, mm_rf_some]
        obtain ⟨n32, hn32, hf⟩ := mm_ar_s hf
        obtain ⟨hi33, hf⟩ := mm_ib_s hf
        refine mm_iald hn32 rfl hi33 dX9_header_185 ?_
        refine mm_iconst (v := 1) dX9_header_186 (by decide) ?_
        refine mm_iadd dX9_header_187 ?_
        obtain ⟨hi34, hf⟩ := mm_ib_s hf
        refine mm_iast hn32 rfl hi34 dX9_header_188 ?_
        obtain ⟨s35, hs35, hf⟩ := mm_let_s hf
        rw [hs35]
        refine mm_aload_n (j := 2) dX9_header_189 rfl rfl ?_
        refine mm_get (c := 9) (k := 20) (v := va_rf (mm_R s35 a0 20)) cd_ok ⟨_, _, _, rfl, by decide, Or.inl tw_814⟩ (mm_ke hs35 (mm_ke hs30 (mm_ke hs26 (mm_ke hs25 hs21)))) rfl dX9_header_190 ?_
        refine mm_iload (j := 0) dX9_header_193 rfl ?_
        refine mm_iload_n (j := 4) dX9_header_195 rfl rfl ?_
        refine mm_bipush (v := 8) dX9_header_196 (by decide) ?_
        refine mm_icmp_lt (tgt := 205) dX9_header_198 (by decide) (fun c36 => ?_) (fun c36 => ?_)
        · rw [if_pos c36] at hf
          refine mm_iconst (v := 0) dX9_header_205 (by decide) ?_
          refine mm_sub [2, 3, 4, 5, 6, 1, 0] rfl ?_
          exact kX9_header_206  a0 x1 x2 x3 x4 ((16 * q11.1) + q13.1) q20.1 0 q20.1 (mm_R s35 a0 20) s35 hf
        · rw [if_neg c36] at hf
          refine mm_iconst (v := 1) dX9_header_201 (by decide) ?_
          refine mm_goto (tgt := 206) dX9_header_202 (by decide) ?_
          refine mm_sub [2, 3, 4, 5, 6, 1, 0] rfl ?_
          exact kX9_header_206  a0 x1 x2 x3 x4 ((16 * q11.1) + q13.1) q20.1 1 q20.1 (mm_R s35 a0 20) s35 hf
      · rw [if_pos c14] at hf
        cases hf
        refine mm_widen (ck' := rmX9_header.cells) (sk' := rmX9_header.slots) (Nat.le_of_ble_eq_true rfl) (Nat.le_of_ble_eq_true rfl) ?_
        exact mm_vret rfl dX9_header_123 ⟨rfl, rfl⟩
    · rw [if_neg c9] at hf
      refine mm_iload (j := 4) dX9_header_76 rfl ?_
      refine mm_if_ne (tgt := 87) dX9_header_78 (by decide) (fun c55 => ?_) (fun c55 => ?_)
      · rw [if_neg c55] at hf
        refine mm_sub [0, 1, 2, 3, 4, 5] rfl ?_
        exact kX9_header_87 ih a0 x1 x2 x3 x4 x5 σ hf
      · rw [if_pos c55] at hf
        refine mm_iload (j := 5) dX9_header_81 rfl ?_
        refine mm_iload_n (j := 1) dX9_header_83 rfl rfl ?_
        refine mm_icmp_ne (tgt := 93) dX9_header_84 (by decide) (fun c58 => ?_) (fun c58 => ?_)
        · rw [if_neg c58] at hf
          refine mm_iinc (j := 5) (L' := [(5, .int (x5 + 1)), (0, .ref a0), (1, .int x1), (2, .int x2), (3, .int x3), (4, .int x4)]) dX9_header_93 rfl rfl (by decide) rfl ?_
          refine mm_goto (tgt := 69) dX9_header_96 (by decide) ?_
          refine mm_sub [1, 2, 3, 4, 5, 0] rfl ?_
          exact ih a0 x1 x2 x3 x4 (x5 + 1) σ hf
        · rw [if_pos c58] at hf
          refine mm_sub [0, 1, 2, 3, 4, 5] rfl ?_
          exact kX9_header_87 ih a0 x1 x2 x3 x4 x5 σ hf
set_option maxHeartbeats 4000000 in
set_option maxRecDepth 100000 in
theorem kX9_header_2 {G : mm_G} {A : Nat → Prop} {ini : Bool × Option (List (Nat × Nat × Nat × Nat))}  {R : mm_M}  : ∀ (a0 : Nat) (x1 : Int32) (x2 : Int32) (σ : mm_M), fX9_header_2  mm_fuel a0 x1 x2 σ = some R → mm_J cd_Y G RX9 cX9_header 8 none ini rmX9_header A (mm_QF cd_Y G A (mm_Pv R) rmX9_header.cells rmX9_header.slots) 2 [(0, .ref a0), (1, .int x1), (2, .int x2)] [] σ 0 0 := by
  generalize mm_fuel = n
  induction n with
  | zero => intro a0 x1 x2 σ hf; cases hf
  | succ n ih =>
    intro a0 x1 x2 σ hf
    unfold fX9_header_2 at hf
    refine mm_iload_n (j := 2) dX9_header_2 rfl rfl ?_
    refine mm_bipush (v := 10) dX9_header_3 (by decide) ?_
    refine mm_icmp_ge (tgt := 34) dX9_header_5 (by decide) (fun c1 => ?_) (fun c1 => ?_)
    · rw [if_pos c1] at hf
      refine mm_aload_n (j := 0) dX9_header_34 rfl rfl ?_
      refine mm_iconst (v := 5) dX9_header_35 (by decide) ?_
      obtain ⟨hs2, hf⟩ := mm_sh_s hf
      obtain ⟨q3, hq3, hf⟩ := mm_on_s hf
      refine mm_callVi cd_ok (kX9_value a0 5 hq3) hs2 rfl (Or.inl tw_1035) cdX9_value tw_1037 ts_44 nmX9_value rfl rfl (by simp only [List.map_cons, List.map_nil, mm_rf_cat]; exact Nat.le_of_ble_eq_true rfl) dX9_header_36 ⟨Nat.le_of_ble_eq_true rfl, Nat.le_of_ble_eq_true rfl⟩ ⟨Nat.le_of_ble_eq_true rfl, Nat.le_of_ble_eq_true rfl⟩ ?_
      refine mm_istore_n (L' := [(2, .int q3.1), (0, .ref a0), (1, .int x1)]) dX9_header_39 rfl (by decide) rfl ?_
      refine mm_aload_n (j := 1) dX9_header_40 rfl rfl ?_
      refine mm_bipush (v := 7) dX9_header_41 (by decide) ?_
      obtain ⟨hs4, hf⟩ := mm_sh_s hf
      obtain ⟨q5, hq5, hf⟩ := mm_on_s hf
      refine mm_callVi cd_ok (kX9_value a0 7 hq5) hs4 rfl (Or.inl tw_1035) cdX9_value tw_1037 ts_44 nmX9_value rfl rfl (by simp only [List.map_cons, List.map_nil, mm_rf_cat]; exact Nat.le_of_ble_eq_true rfl) dX9_header_43 ⟨Nat.le_of_ble_eq_true rfl, Nat.le_of_ble_eq_true rfl⟩ ⟨Nat.le_of_ble_eq_true rfl, Nat.le_of_ble_eq_true rfl⟩ ?_
      refine mm_istore_n (L' := [(3, .int q5.1), (2, .int q3.1), (0, .ref a0), (1, .int x1)]) dX9_header_46 rfl (by decide) rfl ?_
      refine mm_aload_n (j := 2) dX9_header_47 rfl rfl ?_
      refine mm_bipush (v := 9) dX9_header_48 (by decide) ?_
      obtain ⟨hs6, hf⟩ := mm_sh_s hf
      obtain ⟨q7, hq7, hf⟩ := mm_on_s hf
      refine mm_callVi cd_ok (kX9_value a0 9 hq7) hs6 rfl (Or.inl tw_1035) cdX9_value tw_1037 ts_44 nmX9_value rfl rfl (by simp only [List.map_cons, List.map_nil, mm_rf_cat]; exact Nat.le_of_ble_eq_true rfl) dX9_header_50 ⟨Nat.le_of_ble_eq_true rfl, Nat.le_of_ble_eq_true rfl⟩ ⟨Nat.le_of_ble_eq_true rfl, Nat.le_of_ble_eq_true rfl⟩ ?_
      refine mm_iconst (v := 2) dX9_header_53 (by decide) ?_
      refine mm_irem dX9_header_54 (by decide) ?_
      refine mm_iconst (v := 1) dX9_header_55 (by decide) ?_
      refine mm_icmp_ne (tgt := 63) dX9_header_56 (by decide) (fun c8 => ?_) (fun c8 => ?_)
      · rw [if_neg c8] at hf
        refine mm_iconst (v := 0) dX9_header_63 (by decide) ?_
        refine mm_istore (L' := [(4, .int 0), (3, .int q5.1), (2, .int q3.1), (0, .ref a0), (1, .int x1)]) dX9_header_64 (by decide) rfl ?_
        refine mm_iconst (v := 1) dX9_header_66 (by decide) ?_
        refine mm_istore (L' := [(5, .int 1), (4, .int 0), (3, .int q5.1), (2, .int q3.1), (0, .ref a0), (1, .int x1)]) dX9_header_67 (by decide) rfl ?_
        refine mm_sub [4, 5, 3, 2, 1, 0] rfl ?_
        exact kX9_header_69  a0 x1 q3.1 q5.1 0 1 q7.2 hf
      · rw [if_pos c8] at hf
        refine mm_iconst (v := 1) dX9_header_59 (by decide) ?_
        refine mm_goto (tgt := 64) dX9_header_60 (by decide) ?_
        refine mm_istore (L' := [(4, .int 1), (3, .int q5.1), (2, .int q3.1), (0, .ref a0), (1, .int x1)]) dX9_header_64 (by decide) rfl ?_
        refine mm_iconst (v := 1) dX9_header_66 (by decide) ?_
        refine mm_istore (L' := [(5, .int 1), (4, .int 1), (3, .int q5.1), (2, .int q3.1), (0, .ref a0), (1, .int x1)]) dX9_header_67 (by decide) rfl ?_
        refine mm_sub [4, 5, 3, 2, 1, 0] rfl ?_
        exact kX9_header_69  a0 x1 q3.1 q5.1 1 1 q7.2 hf
    · rw [if_neg c1] at hf
      refine mm_aload_n (j := 0) dX9_header_8 rfl rfl ?_
      refine mm_iload_n (j := 2) dX9_header_9 rfl rfl ?_
      obtain ⟨hs59, hf⟩ := mm_sh_s hf
      obtain ⟨q60, hq60, hf⟩ := mm_on_s hf
      refine mm_callVi cd_ok (kX9_value a0 x2 hq60) hs59 rfl (Or.inl tw_1035) cdX9_value tw_1037 ts_44 nmX9_value rfl rfl (by simp only [List.map_cons, List.map_nil, mm_rf_cat]; exact Nat.le_of_ble_eq_true rfl) dX9_header_10 ⟨Nat.le_of_ble_eq_true rfl, Nat.le_of_ble_eq_true rfl⟩ ⟨Nat.le_of_ble_eq_true rfl, Nat.le_of_ble_eq_true rfl⟩ ?_
      refine mm_iconst (v := (-1)) dX9_header_13 (by decide) ?_
      refine mm_icmp_ne (tgt := 28) dX9_header_14 (by decide) (fun c61 => ?_) (fun c61 => ?_)
      · rw [if_neg c61] at hf
        refine mm_iinc (j := 2) (L' := [(2, .int (x2 + 1)), (0, .ref a0), (1, .int x1)]) dX9_header_28 rfl rfl (by decide) rfl ?_
        refine mm_goto (tgt := 2) dX9_header_31 (by decide) ?_
        refine mm_sub [1, 2, 0] rfl ?_
        exact ih a0 x1 (x2 + 1) q60.2 hf
      · rw [if_pos c61] at hf
        refine mm_aload_n (j := 0) dX9_header_17 rfl rfl ?_
        obtain ⟨hs62, hf⟩ := mm_sh_s hf
        refine mm_get (c := 9) (k := 13) (v := va_rf (mm_R q60.2 a0 13)) cd_ok ⟨_, _, _, rfl, by decide, Or.inl tw_807⟩ hs62 rfl dX9_header_18 ?_
        refine mm_iconst (v := 1) dX9_header_21 (by decide) ?_
        refine mm_dup2 dX9_header_22 rfl (mm_rf_cat _) ?_
        obtain ⟨q63, hq63, hf⟩ := mm_on_s hf
        rw [hq63, mm_rf_some]
        obtain ⟨n64, hn64, hf⟩ := mm_ar_s hf
        obtain ⟨hi65, hf⟩ := mm_ib_s hf
        refine mm_iald hn64 rfl hi65 dX9_header_23 ?_
        refine mm_iconst (v := 1) dX9_header_24 (by decide) ?_
        refine mm_iadd dX9_header_25 ?_
        obtain ⟨hi66, hf⟩ := mm_ib_s hf
        refine mm_iast hn64 rfl hi66 dX9_header_26 ?_
        obtain ⟨s67, hs67, hf⟩ := mm_let_s hf
        rw [hs67]
        cases hf
        refine mm_widen (ck' := rmX9_header.cells) (sk' := rmX9_header.slots) (Nat.le_of_ble_eq_true rfl) (Nat.le_of_ble_eq_true rfl) ?_
        exact mm_vret rfl dX9_header_27 ⟨rfl, rfl⟩
set_option maxHeartbeats 4000000 in
set_option maxRecDepth 100000 in
theorem kX9_header {G : mm_G} {A : Nat → Prop} (p0 : Nat) (p1 : Int32) {σ : mm_M} {R : mm_M} (hf : fX9_header p0 p1 σ = some R) : mm_C cd_Y G yX9_header cX9_header 8 none rmX9_header A [.ref p0, .int p1] σ (mm_Pv R) := by
  refine mm_C.of (by decide) (Nat.le_of_ble_eq_true rfl) ?_
  unfold fX9_header at hf
  have e0 : lv_args 0 [.ref p0, .int p1] = [(0, .ref p0), (1, .int p1)] := rfl
  rw [e0]
  generalize hini : ((yX9_header.name == "<init>"), none) = ini
  clear e0
  clear hini
  refine mm_iconst (v := 2) dX9_header_0 (by decide) ?_
  refine mm_istore_n (L' := [(2, .int 2), (0, .ref p0), (1, .int p1)]) dX9_header_1 rfl (by decide) rfl ?_
  refine mm_sub [1, 2, 0] rfl ?_
  exact kX9_header_2  p0 p1 2 σ hf
theorem dX9_linkPacket_0 : decode cX9_linkPacket 0 = .ok (.aload_n 0, 1) := by decide +kernel
theorem dX9_linkPacket_1 : decode cX9_linkPacket 1 = .ok (.iconst 2, 1) := by decide +kernel
theorem dX9_linkPacket_2 : decode cX9_linkPacket 2 = .ok (.invokevirtual 215, 3) := by decide +kernel
theorem dX9_linkPacket_5 : decode cX9_linkPacket 5 = .ok (.ifCond .eq 4, 3) := by decide +kernel
theorem dX9_linkPacket_8 : decode cX9_linkPacket 8 = .ok (.return_, 1) := by decide +kernel
theorem dX9_linkPacket_9 : decode cX9_linkPacket 9 = .ok (.iconst 0, 1) := by decide +kernel
theorem dX9_linkPacket_10 : decode cX9_linkPacket 10 = .ok (.istore_n 3, 1) := by decide +kernel
theorem dX9_linkPacket_11 : decode cX9_linkPacket 11 = .ok (.iload_n 3, 1) := by decide +kernel
theorem dX9_linkPacket_12 : decode cX9_linkPacket 12 = .ok (.bipush 6, 2) := by decide +kernel
theorem dX9_linkPacket_14 : decode cX9_linkPacket 14 = .ok (.if_icmp .ge 198, 3) := by decide +kernel
theorem dX9_linkPacket_17 : decode cX9_linkPacket 17 = .ok (.iconst 1, 1) := by decide +kernel
theorem dX9_linkPacket_18 : decode cX9_linkPacket 18 = .ok (.istore 4, 2) := by decide +kernel
theorem dX9_linkPacket_20 : decode cX9_linkPacket 20 = .ok (.iconst 0, 1) := by decide +kernel
theorem dX9_linkPacket_21 : decode cX9_linkPacket 21 = .ok (.istore 5, 2) := by decide +kernel
theorem dX9_linkPacket_23 : decode cX9_linkPacket 23 = .ok (.iload 5, 2) := by decide +kernel
theorem dX9_linkPacket_25 : decode cX9_linkPacket 25 = .ok (.bipush 6, 2) := by decide +kernel
theorem dX9_linkPacket_27 : decode cX9_linkPacket 27 = .ok (.if_icmp .ge 38, 3) := by decide +kernel
theorem dX9_linkPacket_30 : decode cX9_linkPacket 30 = .ok (.iload 4, 2) := by decide +kernel
theorem dX9_linkPacket_32 : decode cX9_linkPacket 32 = .ok (.ifCond .eq 24, 3) := by decide +kernel
theorem dX9_linkPacket_35 : decode cX9_linkPacket 35 = .ok (.aload_n 0, 1) := by decide +kernel
theorem dX9_linkPacket_36 : decode cX9_linkPacket 36 = .ok (.iconst 3, 1) := by decide +kernel
theorem dX9_linkPacket_37 : decode cX9_linkPacket 37 = .ok (.bipush 6, 2) := by decide +kernel
theorem dX9_linkPacket_39 : decode cX9_linkPacket 39 = .ok (.iload_n 3, 1) := by decide +kernel
theorem dX9_linkPacket_40 : decode cX9_linkPacket 40 = .ok (.imul, 1) := by decide +kernel
theorem dX9_linkPacket_41 : decode cX9_linkPacket 41 = .ok (.iadd, 1) := by decide +kernel
theorem dX9_linkPacket_42 : decode cX9_linkPacket 42 = .ok (.iload 5, 2) := by decide +kernel
theorem dX9_linkPacket_44 : decode cX9_linkPacket 44 = .ok (.iadd, 1) := by decide +kernel
theorem dX9_linkPacket_45 : decode cX9_linkPacket 45 = .ok (.invokevirtual 215, 3) := by decide +kernel
theorem dX9_linkPacket_48 : decode cX9_linkPacket 48 = .ok (.iconst (-1), 1) := by decide +kernel
theorem dX9_linkPacket_49 : decode cX9_linkPacket 49 = .ok (.if_icmp .eq 7, 3) := by decide +kernel
theorem dX9_linkPacket_52 : decode cX9_linkPacket 52 = .ok (.iconst 1, 1) := by decide +kernel
theorem dX9_linkPacket_53 : decode cX9_linkPacket 53 = .ok (.goto 4, 3) := by decide +kernel
theorem dX9_linkPacket_56 : decode cX9_linkPacket 56 = .ok (.iconst 0, 1) := by decide +kernel
theorem dX9_linkPacket_57 : decode cX9_linkPacket 57 = .ok (.istore 4, 2) := by decide +kernel
theorem dX9_linkPacket_59 : decode cX9_linkPacket 59 = .ok (.iinc 5 1, 3) := by decide +kernel
theorem dX9_linkPacket_62 : decode cX9_linkPacket 62 = .ok (.goto (-39), 3) := by decide +kernel
theorem dX9_linkPacket_65 : decode cX9_linkPacket 65 = .ok (.iload 4, 2) := by decide +kernel
theorem dX9_linkPacket_67 : decode cX9_linkPacket 67 = .ok (.ifCond .eq 139, 3) := by decide +kernel
theorem dX9_linkPacket_70 : decode cX9_linkPacket 70 = .ok (.iconst 3, 1) := by decide +kernel
theorem dX9_linkPacket_71 : decode cX9_linkPacket 71 = .ok (.bipush 6, 2) := by decide +kernel
theorem dX9_linkPacket_73 : decode cX9_linkPacket 73 = .ok (.iload_n 3, 1) := by decide +kernel
theorem dX9_linkPacket_74 : decode cX9_linkPacket 74 = .ok (.imul, 1) := by decide +kernel
theorem dX9_linkPacket_75 : decode cX9_linkPacket 75 = .ok (.iadd, 1) := by decide +kernel
theorem dX9_linkPacket_76 : decode cX9_linkPacket 76 = .ok (.istore 5, 2) := by decide +kernel
theorem dX9_linkPacket_78 : decode cX9_linkPacket 78 = .ok (.aload_n 0, 1) := by decide +kernel
theorem dX9_linkPacket_79 : decode cX9_linkPacket 79 = .ok (.iload 5, 2) := by decide +kernel
theorem dX9_linkPacket_81 : decode cX9_linkPacket 81 = .ok (.iconst 3, 1) := by decide +kernel
theorem dX9_linkPacket_82 : decode cX9_linkPacket 82 = .ok (.iadd, 1) := by decide +kernel
theorem dX9_linkPacket_83 : decode cX9_linkPacket 83 = .ok (.invokevirtual 215, 3) := by decide +kernel
theorem dX9_linkPacket_86 : decode cX9_linkPacket 86 = .ok (.istore 6, 2) := by decide +kernel
theorem dX9_linkPacket_88 : decode cX9_linkPacket 88 = .ok (.aload_n 0, 1) := by decide +kernel
theorem dX9_linkPacket_89 : decode cX9_linkPacket 89 = .ok (.iload 5, 2) := by decide +kernel
theorem dX9_linkPacket_91 : decode cX9_linkPacket 91 = .ok (.iconst 5, 1) := by decide +kernel
theorem dX9_linkPacket_92 : decode cX9_linkPacket 92 = .ok (.iadd, 1) := by decide +kernel
theorem dX9_linkPacket_93 : decode cX9_linkPacket 93 = .ok (.invokevirtual 215, 3) := by decide +kernel
theorem dX9_linkPacket_96 : decode cX9_linkPacket 96 = .ok (.istore 7, 2) := by decide +kernel
theorem dX9_linkPacket_98 : decode cX9_linkPacket 98 = .ok (.bipush 6, 2) := by decide +kernel
theorem dX9_linkPacket_100 : decode cX9_linkPacket 100 = .ok (.iload_n 2, 1) := by decide +kernel
theorem dX9_linkPacket_101 : decode cX9_linkPacket 101 = .ok (.imul, 1) := by decide +kernel
theorem dX9_linkPacket_102 : decode cX9_linkPacket 102 = .ok (.iload_n 3, 1) := by decide +kernel
theorem dX9_linkPacket_103 : decode cX9_linkPacket 103 = .ok (.iadd, 1) := by decide +kernel
theorem dX9_linkPacket_104 : decode cX9_linkPacket 104 = .ok (.istore 8, 2) := by decide +kernel
theorem dX9_linkPacket_106 : decode cX9_linkPacket 106 = .ok (.aload_n 0, 1) := by decide +kernel
theorem dX9_linkPacket_107 : decode cX9_linkPacket 107 = .ok (.getfield 81, 3) := by decide +kernel
theorem dX9_linkPacket_110 : decode cX9_linkPacket 110 = .ok (.iload 8, 2) := by decide +kernel
theorem dX9_linkPacket_112 : decode cX9_linkPacket 112 = .ok (.iconst 1, 1) := by decide +kernel
theorem dX9_linkPacket_113 : decode cX9_linkPacket 113 = .ok (.bastore, 1) := by decide +kernel
theorem dX9_linkPacket_114 : decode cX9_linkPacket 114 = .ok (.aload_n 0, 1) := by decide +kernel
theorem dX9_linkPacket_115 : decode cX9_linkPacket 115 = .ok (.getfield 78, 3) := by decide +kernel
theorem dX9_linkPacket_118 : decode cX9_linkPacket 118 = .ok (.iconst 3, 1) := by decide +kernel
theorem dX9_linkPacket_119 : decode cX9_linkPacket 119 = .ok (.iload 8, 2) := by decide +kernel
theorem dX9_linkPacket_121 : decode cX9_linkPacket 121 = .ok (.imul, 1) := by decide +kernel
theorem dX9_linkPacket_122 : decode cX9_linkPacket 122 = .ok (.iload_n 1, 1) := by decide +kernel
theorem dX9_linkPacket_123 : decode cX9_linkPacket 123 = .ok (.bipush 8, 2) := by decide +kernel
theorem dX9_linkPacket_125 : decode cX9_linkPacket 125 = .ok (.irem, 1) := by decide +kernel
theorem dX9_linkPacket_126 : decode cX9_linkPacket 126 = .ok (.iload 6, 2) := by decide +kernel
theorem dX9_linkPacket_128 : decode cX9_linkPacket 128 = .ok (.bipush 8, 2) := by decide +kernel
theorem dX9_linkPacket_130 : decode cX9_linkPacket 130 = .ok (.idiv, 1) := by decide +kernel
theorem dX9_linkPacket_131 : decode cX9_linkPacket 131 = .ok (.iconst 2, 1) := by decide +kernel
theorem dX9_linkPacket_132 : decode cX9_linkPacket 132 = .ok (.iload 7, 2) := by decide +kernel
theorem dX9_linkPacket_134 : decode cX9_linkPacket 134 = .ok (.iconst 4, 1) := by decide +kernel
theorem dX9_linkPacket_135 : decode cX9_linkPacket 135 = .ok (.idiv, 1) := by decide +kernel
theorem dX9_linkPacket_136 : decode cX9_linkPacket 136 = .ok (.imul, 1) := by decide +kernel
theorem dX9_linkPacket_137 : decode cX9_linkPacket 137 = .ok (.iadd, 1) := by decide +kernel
theorem dX9_linkPacket_138 : decode cX9_linkPacket 138 = .ok (.ixor, 1) := by decide +kernel
theorem dX9_linkPacket_139 : decode cX9_linkPacket 139 = .ok (.invokestatic 232, 3) := by decide +kernel
theorem dX9_linkPacket_142 : decode cX9_linkPacket 142 = .ok (.iastore, 1) := by decide +kernel
theorem dX9_linkPacket_143 : decode cX9_linkPacket 143 = .ok (.aload_n 0, 1) := by decide +kernel
theorem dX9_linkPacket_144 : decode cX9_linkPacket 144 = .ok (.getfield 78, 3) := by decide +kernel
theorem dX9_linkPacket_147 : decode cX9_linkPacket 147 = .ok (.iconst 3, 1) := by decide +kernel
theorem dX9_linkPacket_148 : decode cX9_linkPacket 148 = .ok (.iload 8, 2) := by decide +kernel
theorem dX9_linkPacket_150 : decode cX9_linkPacket 150 = .ok (.imul, 1) := by decide +kernel
theorem dX9_linkPacket_151 : decode cX9_linkPacket 151 = .ok (.iconst 1, 1) := by decide +kernel
theorem dX9_linkPacket_152 : decode cX9_linkPacket 152 = .ok (.iadd, 1) := by decide +kernel
theorem dX9_linkPacket_153 : decode cX9_linkPacket 153 = .ok (.bipush 16, 2) := by decide +kernel
theorem dX9_linkPacket_155 : decode cX9_linkPacket 155 = .ok (.aload_n 0, 1) := by decide +kernel
theorem dX9_linkPacket_156 : decode cX9_linkPacket 156 = .ok (.iload 5, 2) := by decide +kernel
theorem dX9_linkPacket_158 : decode cX9_linkPacket 158 = .ok (.iconst 1, 1) := by decide +kernel
theorem dX9_linkPacket_159 : decode cX9_linkPacket 159 = .ok (.iadd, 1) := by decide +kernel
theorem dX9_linkPacket_160 : decode cX9_linkPacket 160 = .ok (.invokevirtual 215, 3) := by decide +kernel
theorem dX9_linkPacket_163 : decode cX9_linkPacket 163 = .ok (.imul, 1) := by decide +kernel
theorem dX9_linkPacket_164 : decode cX9_linkPacket 164 = .ok (.aload_n 0, 1) := by decide +kernel
theorem dX9_linkPacket_165 : decode cX9_linkPacket 165 = .ok (.iload 5, 2) := by decide +kernel
theorem dX9_linkPacket_167 : decode cX9_linkPacket 167 = .ok (.invokevirtual 215, 3) := by decide +kernel
theorem dX9_linkPacket_170 : decode cX9_linkPacket 170 = .ok (.iadd, 1) := by decide +kernel
theorem dX9_linkPacket_171 : decode cX9_linkPacket 171 = .ok (.iastore, 1) := by decide +kernel
theorem dX9_linkPacket_172 : decode cX9_linkPacket 172 = .ok (.aload_n 0, 1) := by decide +kernel
theorem dX9_linkPacket_173 : decode cX9_linkPacket 173 = .ok (.getfield 78, 3) := by decide +kernel
theorem dX9_linkPacket_176 : decode cX9_linkPacket 176 = .ok (.iconst 3, 1) := by decide +kernel
theorem dX9_linkPacket_177 : decode cX9_linkPacket 177 = .ok (.iload 8, 2) := by decide +kernel
theorem dX9_linkPacket_179 : decode cX9_linkPacket 179 = .ok (.imul, 1) := by decide +kernel
theorem dX9_linkPacket_180 : decode cX9_linkPacket 180 = .ok (.iconst 2, 1) := by decide +kernel
theorem dX9_linkPacket_181 : decode cX9_linkPacket 181 = .ok (.iadd, 1) := by decide +kernel
theorem dX9_linkPacket_182 : decode cX9_linkPacket 182 = .ok (.aload_n 0, 1) := by decide +kernel
theorem dX9_linkPacket_183 : decode cX9_linkPacket 183 = .ok (.iload 5, 2) := by decide +kernel
theorem dX9_linkPacket_185 : decode cX9_linkPacket 185 = .ok (.iconst 2, 1) := by decide +kernel
theorem dX9_linkPacket_186 : decode cX9_linkPacket 186 = .ok (.iadd, 1) := by decide +kernel
theorem dX9_linkPacket_187 : decode cX9_linkPacket 187 = .ok (.invokevirtual 215, 3) := by decide +kernel
theorem dX9_linkPacket_190 : decode cX9_linkPacket 190 = .ok (.iload 6, 2) := by decide +kernel
theorem dX9_linkPacket_192 : decode cX9_linkPacket 192 = .ok (.aload_n 0, 1) := by decide +kernel
theorem dX9_linkPacket_193 : decode cX9_linkPacket 193 = .ok (.iload 5, 2) := by decide +kernel
theorem dX9_linkPacket_195 : decode cX9_linkPacket 195 = .ok (.iconst 4, 1) := by decide +kernel
theorem dX9_linkPacket_196 : decode cX9_linkPacket 196 = .ok (.iadd, 1) := by decide +kernel
theorem dX9_linkPacket_197 : decode cX9_linkPacket 197 = .ok (.invokevirtual 215, 3) := by decide +kernel
theorem dX9_linkPacket_200 : decode cX9_linkPacket 200 = .ok (.iload 7, 2) := by decide +kernel
theorem dX9_linkPacket_202 : decode cX9_linkPacket 202 = .ok (.invokestatic 221, 3) := by decide +kernel
theorem dX9_linkPacket_205 : decode cX9_linkPacket 205 = .ok (.iastore, 1) := by decide +kernel
theorem dX9_linkPacket_206 : decode cX9_linkPacket 206 = .ok (.iinc 3 1, 3) := by decide +kernel
theorem dX9_linkPacket_209 : decode cX9_linkPacket 209 = .ok (.goto (-198), 3) := by decide +kernel
theorem dX9_linkPacket_212 : decode cX9_linkPacket 212 = .ok (.return_, 1) := by decide +kernel
theorem nmX9_linkPacket : mm_nm yX9_linkPacket 2 := ⟨by decide, by decide, by decide +kernel⟩
theorem cdX9_linkPacket : mm_cd cd_Y yX9_linkPacket cX9_linkPacket 9 none := ⟨tw_1072, tw_8⟩
abbrev rmX9_linkPacket : Room := { frames := 4, cells := 0, slots := 0, locals := 89 }
def fX9_linkPacket_23 (k11 : Nat → Int32 → Int32 → Int32 → mm_M → Option mm_M) : Nat → Nat → Int32 → Int32 → Int32 → Int32 → Int32 → mm_M → Option mm_M
  | 0 => fun _ _ _ _ _ _ _ => none
  | n + 1 => fun a0 x1 x2 x3 x4 x5 σ =>
  (if 6 ≤ x5 then (if x4 = 0 then (k11 a0 x1 x2 (x3 + 1) σ) else mm_sh σ a0 (.inl 9) (mm_on (fX9_value a0 ((3 + (6 * x3)) + 3) σ) fun q8 => mm_sh q8.2 a0 (.inl 9) (mm_on (fX9_value a0 ((3 + (6 * x3)) + 5) q8.2) fun q10 => mm_sh q10.2 a0 (.inl 9) (mm_on (mm_R q10.2 a0 26) fun q12 => mm_ar q10.2 q12 1 fun n13 => mm_ib ((6 * x2) + x3) n13 (mm_let (mm_wI q10.2 q12 (((6 * x2) + x3).toNatClampNeg) (vp_nar .boolean 1)) fun s15 => mm_on (mm_R s15 a0 25) fun q16 => mm_ar s15 q16 0 fun n17 => mm_ib (3 * ((6 * x2) + x3)) n17 (mm_let (mm_wI s15 q16 ((3 * ((6 * x2) + x3)).toNatClampNeg) (fX9_mag ((x1 - x1 / 8 * 8) ^^^ ((q8.1 / 8) + (2 * (q10.1 / 4)))))) fun s19 => mm_on (fX9_value a0 ((3 + (6 * x3)) + 1) s19) fun q20 => mm_sh q20.2 a0 (.inl 9) (mm_on (fX9_value a0 (3 + (6 * x3)) q20.2) fun q22 => mm_on (mm_R s19 a0 25) fun q23 => mm_ar q22.2 q23 0 fun n24 => mm_ib ((3 * ((6 * x2) + x3)) + 1) n24 (mm_let (mm_wI q22.2 q23 (((3 * ((6 * x2) + x3)) + 1).toNatClampNeg) ((16 * q20.1) + q22.1)) fun s26 => mm_sh s26 a0 (.inl 9) (mm_on (fX9_value a0 ((3 + (6 * x3)) + 2) s26) fun q28 => mm_sh q28.2 a0 (.inl 9) (mm_on (fX9_value a0 ((3 + (6 * x3)) + 4) q28.2) fun q30 => mm_on (mm_R s26 a0 25) fun q31 => mm_ar q30.2 q31 0 fun n32 => mm_ib ((3 * ((6 * x2) + x3)) + 2) n32 (mm_let (mm_wI q30.2 q31 (((3 * ((6 * x2) + x3)) + 2).toNatClampNeg) (fX9_subcodeOf q28.1 q8.1 q30.1 q10.1)) fun s34 => (k11 a0 x1 x2 (x3 + 1) s34)))))))))))) else (if x4 = 0 then (fX9_linkPacket_23 k11 n a0 x1 x2 x3 0 (x5 + 1) σ) else mm_sh σ a0 (.inl 9) (mm_on (fX9_value a0 ((3 + (6 * x3)) + x5) σ) fun q37 => (if q37.1 = (-1) then (fX9_linkPacket_23 k11 n a0 x1 x2 x3 0 (x5 + 1) q37.2) else (fX9_linkPacket_23 k11 n a0 x1 x2 x3 1 (x5 + 1) q37.2)))))
def fX9_linkPacket_11  : Nat → Nat → Int32 → Int32 → Int32 → mm_M → Option mm_M
  | 0 => fun _ _ _ _ _ => none
  | n + 1 => fun a0 x1 x2 x3 σ =>
  (if 6 ≤ x3 then some (σ) else (fX9_linkPacket_23 (fX9_linkPacket_11  n) mm_fuel a0 x1 x2 x3 1 0 σ))
def fX9_linkPacket (p0 : Nat) (p1 : Int32) (p2 : Int32) (σ : mm_M) : Option mm_M :=
  mm_sh σ p0 (.inl 9) (mm_on (fX9_value p0 2 σ) fun q2 => (if q2.1 = 0 then (fX9_linkPacket_11  mm_fuel p0 p1 p2 0 q2.2) else some (q2.2)))
set_option maxHeartbeats 4000000 in
set_option maxRecDepth 100000 in
theorem kX9_linkPacket_23 {G : mm_G} {A : Nat → Prop} {ini : Bool × Option (List (Nat × Nat × Nat × Nat))} {k11 : Nat → Int32 → Int32 → Int32 → mm_M → Option mm_M} {R : mm_M} (hk11 : ∀ a0 x1 x2 x3 σ, k11 a0 x1 x2 x3 σ = some R → mm_J cd_Y G RX9 cX9_linkPacket 9 none ini rmX9_linkPacket A (mm_QF cd_Y G A (mm_Pv R) rmX9_linkPacket.cells rmX9_linkPacket.slots) 11 [(0, .ref a0), (1, .int x1), (2, .int x2), (3, .int x3)] [] σ 0 0) : ∀ (a0 : Nat) (x1 : Int32) (x2 : Int32) (x3 : Int32) (x4 : Int32) (x5 : Int32) (σ : mm_M), fX9_linkPacket_23 k11 mm_fuel a0 x1 x2 x3 x4 x5 σ = some R → mm_J cd_Y G RX9 cX9_linkPacket 9 none ini rmX9_linkPacket A (mm_QF cd_Y G A (mm_Pv R) rmX9_linkPacket.cells rmX9_linkPacket.slots) 23 [(0, .ref a0), (1, .int x1), (2, .int x2), (3, .int x3), (4, .int x4), (5, .int x5)] [] σ 0 0 := by
  generalize mm_fuel = n
  induction n with
  | zero => intro a0 x1 x2 x3 x4 x5 σ hf; cases hf
  | succ n ih =>
    intro a0 x1 x2 x3 x4 x5 σ hf
    unfold fX9_linkPacket_23 at hf
    refine mm_iload (j := 5) dX9_linkPacket_23 rfl ?_
    refine mm_bipush (v := 6) dX9_linkPacket_25 (by decide) ?_
    refine mm_icmp_ge (tgt := 65) dX9_linkPacket_27 (by decide) (fun c5 => ?_) (fun c5 => ?_)
    · rw [if_pos c5] at hf
      refine mm_iload (j := 4) dX9_linkPacket_65 rfl ?_
      refine mm_if_eq (tgt := 206) dX9_linkPacket_67 (by decide) (fun c6 => ?_) (fun c6 => ?_)
      · rw [if_pos c6] at hf
        refine mm_iinc (j := 3) (L' := [(3, .int (x3 + 1)), (0, .ref a0), (1, .int x1), (2, .int x2), (4, .int x4), (5, .int x5)]) dX9_linkPacket_206 rfl rfl (by decide) rfl ?_
        refine mm_goto (tgt := 11) dX9_linkPacket_209 (by decide) ?_
        refine mm_sub [1, 2, 3, 0] rfl ?_
        exact hk11 a0 x1 x2 (x3 + 1) σ hf
      · rw [if_neg c6] at hf
        refine mm_iconst (v := 3) dX9_linkPacket_70 (by decide) ?_
        refine mm_bipush (v := 6) dX9_linkPacket_71 (by decide) ?_
        refine mm_iload_n (j := 3) dX9_linkPacket_73 rfl rfl ?_
        refine mm_imul dX9_linkPacket_74 ?_
        refine mm_iadd dX9_linkPacket_75 ?_
        refine mm_istore (L' := [(5, .int (3 + (6 * x3))), (0, .ref a0), (1, .int x1), (2, .int x2), (3, .int x3), (4, .int x4)]) dX9_linkPacket_76 (by decide) rfl ?_
        refine mm_aload_n (j := 1) dX9_linkPacket_78 rfl rfl ?_
        refine mm_iload (j := 0) dX9_linkPacket_79 rfl ?_
        refine mm_iconst (v := 3) dX9_linkPacket_81 (by decide) ?_
        refine mm_iadd dX9_linkPacket_82 ?_
        obtain ⟨hs7, hf⟩ := mm_sh_s hf
        obtain ⟨q8, hq8, hf⟩ := mm_on_s hf
        refine mm_callVi cd_ok (kX9_value a0 ((3 + (6 * x3)) + 3) hq8) hs7 rfl (Or.inl tw_1035) cdX9_value tw_1037 ts_44 nmX9_value rfl rfl (by simp only [List.map_cons, List.map_nil, mm_rf_cat]; exact Nat.le_of_ble_eq_true rfl) dX9_linkPacket_83 ⟨Nat.le_of_ble_eq_true rfl, Nat.le_of_ble_eq_true rfl⟩ ⟨Nat.le_of_ble_eq_true rfl, Nat.le_of_ble_eq_true rfl⟩ ?_
        refine mm_istore (L' := [(6, .int q8.1), (5, .int (3 + (6 * x3))), (0, .ref a0), (1, .int x1), (2, .int x2), (3, .int x3), (4, .int x4)]) dX9_linkPacket_86 (by decide) rfl ?_
        refine mm_aload_n (j := 2) dX9_linkPacket_88 rfl rfl ?_
        refine mm_iload (j := 1) dX9_linkPacket_89 rfl ?_
        refine mm_iconst (v := 5) dX9_linkPacket_91 (by decide) ?_
        refine mm_iadd dX9_linkPacket_92 ?_
        obtain ⟨hs9, hf⟩ := mm_sh_s hf
        obtain ⟨q10, hq10, hf⟩ := mm_on_s hf
        refine mm_callVi cd_ok (kX9_value a0 ((3 + (6 * x3)) + 5) hq10) hs9 rfl (Or.inl tw_1035) cdX9_value tw_1037 ts_44 nmX9_value rfl rfl (by simp only [List.map_cons, List.map_nil, mm_rf_cat]; exact Nat.le_of_ble_eq_true rfl) dX9_linkPacket_93 ⟨Nat.le_of_ble_eq_true rfl, Nat.le_of_ble_eq_true rfl⟩ ⟨Nat.le_of_ble_eq_true rfl, Nat.le_of_ble_eq_true rfl⟩ ?_
        refine mm_istore (L' := [(7, .int q10.1), (6, .int q8.1), (5, .int (3 + (6 * x3))), (0, .ref a0), (1, .int x1), (2, .int x2), (3, .int x3), (4, .int x4)]) dX9_linkPacket_96 (by decide) rfl ?_
        refine mm_bipush (v := 6) dX9_linkPacket_98 (by decide) ?_
        refine mm_iload_n (j := 5) dX9_linkPacket_100 rfl rfl ?_
        refine mm_imul dX9_linkPacket_101 ?_
        refine mm_iload_n (j := 6) dX9_linkPacket_102 rfl rfl ?_
        refine mm_iadd dX9_linkPacket_103 ?_
        refine mm_istore (L' := [(8, .int ((6 * x2) + x3)), (7, .int q10.1), (6, .int q8.1), (5, .int (3 + (6 * x3))), (0, .ref a0), (1, .int x1), (2, .int x2), (3, .int x3), (4, .int x4)]) dX9_linkPacket_104 (by decide) rfl ?_
        refine mm_aload_n (j := 4) dX9_linkPacket_106 rfl rfl ?_
        obtain ⟨hs11, hf⟩ := mm_sh_s hf
        refine mm_get (c := 9) (k := 26) (v := va_rf (mm_R q10.2 a0 26)) cd_ok ⟨_, _, _, rfl, by decide, Or.inl tw_820⟩ hs11 rfl dX9_linkPacket_107 ?_
        refine mm_iload (j := 0) dX9_linkPacket_110 rfl ?_
        refine mm_iconst (v := 1) dX9_linkPacket_112 (by decide) ?_
        obtain ⟨q12, hq12, hf⟩ := mm_on_s hf
        rw [hq12, mm_rf_some]
        obtain ⟨n13, hn13, hf⟩ := mm_ar_s hf
        obtain ⟨hi14, hf⟩ := mm_ib_s hf
        refine mm_zast hn13 rfl hi14 dX9_linkPacket_113 ?_
        obtain ⟨s15, hs15, hf⟩ := mm_let_s hf
        rw [hs15]
        refine mm_aload_n (j := 4) dX9_linkPacket_114 rfl rfl ?_
        refine mm_get (c := 9) (k := 25) (v := va_rf (mm_R s15 a0 25)) cd_ok ⟨_, _, _, rfl, by decide, Or.inl tw_819⟩ (mm_ke hs15 hs11) rfl dX9_linkPacket_115 ?_
        refine mm_iconst (v := 3) dX9_linkPacket_118 (by decide) ?_
        refine mm_iload (j := 0) dX9_linkPacket_119 rfl ?_
        refine mm_imul dX9_linkPacket_121 ?_
        refine mm_iload_n (j := 5) dX9_linkPacket_122 rfl rfl ?_
        refine mm_bipush (v := 8) dX9_linkPacket_123 (by decide) ?_
        refine mm_irem dX9_linkPacket_125 (by decide) ?_
        refine mm_iload (j := 2) dX9_linkPacket_126 rfl ?_
        refine mm_bipush (v := 8) dX9_linkPacket_128 (by decide) ?_
        refine mm_idiv dX9_linkPacket_130 (by decide) ?_
        refine mm_iconst (v := 2) dX9_linkPacket_131 (by decide) ?_
        refine mm_iload (j := 1) dX9_linkPacket_132 rfl ?_
        refine mm_iconst (v := 4) dX9_linkPacket_134 (by decide) ?_
        refine mm_idiv dX9_linkPacket_135 (by decide) ?_
        refine mm_imul dX9_linkPacket_136 ?_
        refine mm_iadd dX9_linkPacket_137 ?_
        refine mm_ixor dX9_linkPacket_138 ?_
        refine mm_callSi cd_ok (kX9_mag ((x1 - x1 / 8 * 8) ^^^ ((q8.1 / 8) + (2 * (q10.1 / 4)))) _ rfl) (Or.inl tw_1039) cdX9_mag tw_1040 nmX9_mag rfl rfl (by simp only [List.map_cons, List.map_nil, mm_rf_cat]; exact Nat.le_of_ble_eq_true rfl) dX9_linkPacket_139 ⟨Nat.le_of_ble_eq_true rfl, Nat.le_of_ble_eq_true rfl⟩ ⟨Nat.le_of_ble_eq_true rfl, Nat.le_of_ble_eq_true rfl⟩ ?_
        obtain ⟨q16, hq16, hf⟩ := mm_on_s hf
        rw [hq16, mm_rf_some]
        obtain ⟨n17, hn17, hf⟩ := mm_ar_s hf
        obtain ⟨hi18, hf⟩ := mm_ib_s hf
        refine mm_iast hn17 rfl hi18 dX9_linkPacket_142 ?_
        obtain ⟨s19, hs19, hf⟩ := mm_let_s hf
        rw [hs19]
        refine mm_aload_n (j := 4) dX9_linkPacket_143 rfl rfl ?_
        refine mm_get (c := 9) (k := 25) (v := va_rf (mm_R s19 a0 25)) cd_ok ⟨_, _, _, rfl, by decide, Or.inl tw_819⟩ (mm_ke hs19 (mm_ke hs15 hs11)) rfl dX9_linkPacket_144 ?_
        refine mm_iconst (v := 3) dX9_linkPacket_147 (by decide) ?_
        refine mm_iload (j := 0) dX9_linkPacket_148 rfl ?_
        refine mm_imul dX9_linkPacket_150 ?_
        refine mm_iconst (v := 1) dX9_linkPacket_151 (by decide) ?_
        refine mm_iadd dX9_linkPacket_152 ?_
        refine mm_bipush (v := 16) dX9_linkPacket_153 (by decide) ?_
        refine mm_aload_n (j := 4) dX9_linkPacket_155 rfl rfl ?_
        refine mm_iload (j := 3) dX9_linkPacket_156 rfl ?_
        refine mm_iconst (v := 1) dX9_linkPacket_158 (by decide) ?_
        refine mm_iadd dX9_linkPacket_159 ?_
        obtain ⟨q20, hq20, hf⟩ := mm_on_s hf
        refine mm_callVi cd_ok (kX9_value a0 ((3 + (6 * x3)) + 1) hq20) (mm_ke hs19 (mm_ke hs15 hs11)) rfl (Or.inl tw_1035) cdX9_value tw_1037 ts_44 nmX9_value rfl rfl (by simp only [List.map_cons, List.map_nil, mm_rf_cat]; exact Nat.le_of_ble_eq_true rfl) dX9_linkPacket_160 ⟨Nat.le_of_ble_eq_true rfl, Nat.le_of_ble_eq_true rfl⟩ ⟨Nat.le_of_ble_eq_true rfl, Nat.le_of_ble_eq_true rfl⟩ ?_
        refine mm_imul dX9_linkPacket_163 ?_
        refine mm_aload_n (j := 4) dX9_linkPacket_164 rfl rfl ?_
        refine mm_iload (j := 3) dX9_linkPacket_165 rfl ?_
        obtain ⟨hs21, hf⟩ := mm_sh_s hf
        obtain ⟨q22, hq22, hf⟩ := mm_on_s hf
        refine mm_callVi cd_ok (kX9_value a0 (3 + (6 * x3)) hq22) hs21 rfl (Or.inl tw_1035) cdX9_value tw_1037 ts_44 nmX9_value rfl rfl (by simp only [List.map_cons, List.map_nil, mm_rf_cat]; exact Nat.le_of_ble_eq_true rfl) dX9_linkPacket_167 ⟨Nat.le_of_ble_eq_true rfl, Nat.le_of_ble_eq_true rfl⟩ ⟨Nat.le_of_ble_eq_true rfl, Nat.le_of_ble_eq_true rfl⟩ ?_
        refine mm_iadd dX9_linkPacket_170 ?_
        obtain ⟨q23, hq23, hf⟩ := mm_on_s hf
        rw [hq23, mm_rf_some]
        obtain ⟨n24, hn24, hf⟩ := mm_ar_s hf
        obtain ⟨hi25, hf⟩ := mm_ib_s hf
        refine mm_iast hn24 rfl hi25 dX9_linkPacket_171 ?_
        obtain ⟨s26, hs26, hf⟩ := mm_let_s hf
        rw [hs26]
        refine mm_aload_n (j := 4) dX9_linkPacket_172 rfl rfl ?_
        obtain ⟨hs27, hf⟩ := mm_sh_s hf
        refine mm_get (c := 9) (k := 25) (v := va_rf (mm_R s26 a0 25)) cd_ok ⟨_, _, _, rfl, by decide, Or.inl tw_819⟩ hs27 rfl dX9_linkPacket_173 ?_
        refine mm_iconst (v := 3) dX9_linkPacket_176 (by decide) ?_
        refine mm_iload (j := 0) dX9_linkPacket_177 rfl ?_
        refine mm_imul dX9_linkPacket_179 ?_
        refine mm_iconst (v := 2) dX9_linkPacket_180 (by decide) ?_
        refine mm_iadd dX9_linkPacket_181 ?_
        refine mm_aload_n (j := 4) dX9_linkPacket_182 rfl rfl ?_
        refine mm_iload (j := 3) dX9_linkPacket_183 rfl ?_
        refine mm_iconst (v := 2) dX9_linkPacket_185 (by decide) ?_
        refine mm_iadd dX9_linkPacket_186 ?_
        obtain ⟨q28, hq28, hf⟩ := mm_on_s hf
        refine mm_callVi cd_ok (kX9_value a0 ((3 + (6 * x3)) + 2) hq28) hs27 rfl (Or.inl tw_1035) cdX9_value tw_1037 ts_44 nmX9_value rfl rfl (by simp only [List.map_cons, List.map_nil, mm_rf_cat]; exact Nat.le_of_ble_eq_true rfl) dX9_linkPacket_187 ⟨Nat.le_of_ble_eq_true rfl, Nat.le_of_ble_eq_true rfl⟩ ⟨Nat.le_of_ble_eq_true rfl, Nat.le_of_ble_eq_true rfl⟩ ?_
        refine mm_iload (j := 2) dX9_linkPacket_190 rfl ?_
        refine mm_aload_n (j := 4) dX9_linkPacket_192 rfl rfl ?_
        refine mm_iload (j := 3) dX9_linkPacket_193 rfl ?_
        refine mm_iconst (v := 4) dX9_linkPacket_195 (by decide) ?_
        refine mm_iadd dX9_linkPacket_196 ?_
        obtain ⟨hs29, hf⟩ := mm_sh_s hf
        obtain ⟨q30, hq30, hf⟩ := mm_on_s hf
        refine mm_callVi cd_ok (kX9_value a0 ((3 + (6 * x3)) + 4) hq30) hs29 rfl (Or.inl tw_1035) cdX9_value tw_1037 ts_44 nmX9_value rfl rfl (by simp only [List.map_cons, List.map_nil, mm_rf_cat]; exact Nat.le_of_ble_eq_true rfl) dX9_linkPacket_197 ⟨Nat.le_of_ble_eq_true rfl, Nat.le_of_ble_eq_true rfl⟩ ⟨Nat.le_of_ble_eq_true rfl, Nat.le_of_ble_eq_true rfl⟩ ?_
        refine mm_iload (j := 1) dX9_linkPacket_200 rfl ?_
        refine mm_callSi cd_ok (kX9_subcodeOf q28.1 q8.1 q30.1 q10.1 _ rfl) (Or.inl tw_1050) cdX9_subcodeOf tw_1051 nmX9_subcodeOf rfl rfl (by simp only [List.map_cons, List.map_nil, mm_rf_cat]; exact Nat.le_of_ble_eq_true rfl) dX9_linkPacket_202 ⟨Nat.le_of_ble_eq_true rfl, Nat.le_of_ble_eq_true rfl⟩ ⟨Nat.le_of_ble_eq_true rfl, Nat.le_of_ble_eq_true rfl⟩ ?_
        obtain ⟨q31, hq31, hf⟩ := mm_on_s hf
        rw [hq31, mm_rf_some]
        obtain ⟨n32, hn32, hf⟩ := mm_ar_s hf
        obtain ⟨hi33, hf⟩ := mm_ib_s hf
        refine mm_iast hn32 rfl hi33 dX9_linkPacket_205 ?_
        obtain ⟨s34, hs34, hf⟩ := mm_let_s hf
        rw [hs34]
        refine mm_iinc (j := 7) (L' := [(3, .int (x3 + 1)), (8, .int ((6 * x2) + x3)), (7, .int q10.1), (6, .int q8.1), (5, .int (3 + (6 * x3))), (0, .ref a0), (1, .int x1), (2, .int x2), (4, .int x4)]) dX9_linkPacket_206 rfl rfl (by decide) rfl ?_
        refine mm_goto (tgt := 11) dX9_linkPacket_209 (by decide) ?_
        refine mm_sub [5, 6, 7, 0] rfl ?_
        exact hk11 a0 x1 x2 (x3 + 1) s34 hf
    · rw [if_neg c5] at hf
      refine mm_iload (j := 4) dX9_linkPacket_30 rfl ?_
      refine mm_if_eq (tgt := 56) dX9_linkPacket_32 (by decide) (fun c35 => ?_) (fun c35 => ?_)
      · rw [if_pos c35] at hf
        refine mm_iconst (v := 0) dX9_linkPacket_56 (by decide) ?_
        refine mm_istore (L' := [(4, .int 0), (0, .ref a0), (1, .int x1), (2, .int x2), (3, .int x3), (5, .int x5)]) dX9_linkPacket_57 (by decide) rfl ?_
        refine mm_iinc (j := 5) (L' := [(5, .int (x5 + 1)), (4, .int 0), (0, .ref a0), (1, .int x1), (2, .int x2), (3, .int x3)]) dX9_linkPacket_59 rfl rfl (by decide) rfl ?_
        refine mm_goto (tgt := 23) dX9_linkPacket_62 (by decide) ?_
        refine mm_sub [2, 3, 4, 5, 1, 0] rfl ?_
        exact ih a0 x1 x2 x3 0 (x5 + 1) σ hf
      · rw [if_neg c35] at hf
        refine mm_aload_n (j := 0) dX9_linkPacket_35 rfl rfl ?_
        refine mm_iconst (v := 3) dX9_linkPacket_36 (by decide) ?_
        refine mm_bipush (v := 6) dX9_linkPacket_37 (by decide) ?_
        refine mm_iload_n (j := 3) dX9_linkPacket_39 rfl rfl ?_
        refine mm_imul dX9_linkPacket_40 ?_
        refine mm_iadd dX9_linkPacket_41 ?_
        refine mm_iload (j := 5) dX9_linkPacket_42 rfl ?_
        refine mm_iadd dX9_linkPacket_44 ?_
        obtain ⟨hs36, hf⟩ := mm_sh_s hf
        obtain ⟨q37, hq37, hf⟩ := mm_on_s hf
        refine mm_callVi cd_ok (kX9_value a0 ((3 + (6 * x3)) + x5) hq37) hs36 rfl (Or.inl tw_1035) cdX9_value tw_1037 ts_44 nmX9_value rfl rfl (by simp only [List.map_cons, List.map_nil, mm_rf_cat]; exact Nat.le_of_ble_eq_true rfl) dX9_linkPacket_45 ⟨Nat.le_of_ble_eq_true rfl, Nat.le_of_ble_eq_true rfl⟩ ⟨Nat.le_of_ble_eq_true rfl, Nat.le_of_ble_eq_true rfl⟩ ?_
        refine mm_iconst (v := (-1)) dX9_linkPacket_48 (by decide) ?_
        refine mm_icmp_eq (tgt := 56) dX9_linkPacket_49 (by decide) (fun c38 => ?_) (fun c38 => ?_)
        · rw [if_pos c38] at hf
          refine mm_iconst (v := 0) dX9_linkPacket_56 (by decide) ?_
          refine mm_istore (L' := [(4, .int 0), (0, .ref a0), (1, .int x1), (2, .int x2), (3, .int x3), (5, .int x5)]) dX9_linkPacket_57 (by decide) rfl ?_
          refine mm_iinc (j := 5) (L' := [(5, .int (x5 + 1)), (4, .int 0), (0, .ref a0), (1, .int x1), (2, .int x2), (3, .int x3)]) dX9_linkPacket_59 rfl rfl (by decide) rfl ?_
          refine mm_goto (tgt := 23) dX9_linkPacket_62 (by decide) ?_
          refine mm_sub [2, 3, 4, 5, 1, 0] rfl ?_
          exact ih a0 x1 x2 x3 0 (x5 + 1) q37.2 hf
        · rw [if_neg c38] at hf
          refine mm_iconst (v := 1) dX9_linkPacket_52 (by decide) ?_
          refine mm_goto (tgt := 57) dX9_linkPacket_53 (by decide) ?_
          refine mm_istore (L' := [(4, .int 1), (0, .ref a0), (1, .int x1), (2, .int x2), (3, .int x3), (5, .int x5)]) dX9_linkPacket_57 (by decide) rfl ?_
          refine mm_iinc (j := 5) (L' := [(5, .int (x5 + 1)), (4, .int 1), (0, .ref a0), (1, .int x1), (2, .int x2), (3, .int x3)]) dX9_linkPacket_59 rfl rfl (by decide) rfl ?_
          refine mm_goto (tgt := 23) dX9_linkPacket_62 (by decide) ?_
          refine mm_sub [2, 3, 4, 5, 1, 0] rfl ?_
          exact ih a0 x1 x2 x3 1 (x5 + 1) q37.2 hf
set_option maxHeartbeats 4000000 in
set_option maxRecDepth 100000 in
theorem kX9_linkPacket_11 {G : mm_G} {A : Nat → Prop} {ini : Bool × Option (List (Nat × Nat × Nat × Nat))}  {R : mm_M}  : ∀ (a0 : Nat) (x1 : Int32) (x2 : Int32) (x3 : Int32) (σ : mm_M), fX9_linkPacket_11  mm_fuel a0 x1 x2 x3 σ = some R → mm_J cd_Y G RX9 cX9_linkPacket 9 none ini rmX9_linkPacket A (mm_QF cd_Y G A (mm_Pv R) rmX9_linkPacket.cells rmX9_linkPacket.slots) 11 [(0, .ref a0), (1, .int x1), (2, .int x2), (3, .int x3)] [] σ 0 0 := by
  generalize mm_fuel = n
  induction n with
  | zero => intro a0 x1 x2 x3 σ hf; cases hf
  | succ n ih =>
    intro a0 x1 x2 x3 σ hf
    unfold fX9_linkPacket_11 at hf
    refine mm_iload_n (j := 3) dX9_linkPacket_11 rfl rfl ?_
    refine mm_bipush (v := 6) dX9_linkPacket_12 (by decide) ?_
    refine mm_icmp_ge (tgt := 212) dX9_linkPacket_14 (by decide) (fun c4 => ?_) (fun c4 => ?_)
    · rw [if_pos c4] at hf
      cases hf
      refine mm_widen (ck' := rmX9_linkPacket.cells) (sk' := rmX9_linkPacket.slots) (Nat.le_of_ble_eq_true rfl) (Nat.le_of_ble_eq_true rfl) ?_
      exact mm_vret rfl dX9_linkPacket_212 ⟨rfl, rfl⟩
    · rw [if_neg c4] at hf
      refine mm_iconst (v := 1) dX9_linkPacket_17 (by decide) ?_
      refine mm_istore (L' := [(4, .int 1), (0, .ref a0), (1, .int x1), (2, .int x2), (3, .int x3)]) dX9_linkPacket_18 (by decide) rfl ?_
      refine mm_iconst (v := 0) dX9_linkPacket_20 (by decide) ?_
      refine mm_istore (L' := [(5, .int 0), (4, .int 1), (0, .ref a0), (1, .int x1), (2, .int x2), (3, .int x3)]) dX9_linkPacket_21 (by decide) rfl ?_
      refine mm_sub [2, 3, 4, 5, 1, 0] rfl ?_
      exact kX9_linkPacket_23 ih a0 x1 x2 x3 1 0 σ hf
set_option maxHeartbeats 4000000 in
set_option maxRecDepth 100000 in
theorem kX9_linkPacket {G : mm_G} {A : Nat → Prop} (p0 : Nat) (p1 : Int32) (p2 : Int32) {σ : mm_M} {R : mm_M} (hf : fX9_linkPacket p0 p1 p2 σ = some R) : mm_C cd_Y G yX9_linkPacket cX9_linkPacket 9 none rmX9_linkPacket A [.ref p0, .int p1, .int p2] σ (mm_Pv R) := by
  refine mm_C.of (by decide) (Nat.le_of_ble_eq_true rfl) ?_
  unfold fX9_linkPacket at hf
  have e0 : lv_args 0 [.ref p0, .int p1, .int p2] = [(0, .ref p0), (1, .int p1), (2, .int p2)] := rfl
  rw [e0]
  generalize hini : ((yX9_linkPacket.name == "<init>"), none) = ini
  clear e0
  clear hini
  refine mm_aload_n (j := 0) dX9_linkPacket_0 rfl rfl ?_
  refine mm_iconst (v := 2) dX9_linkPacket_1 (by decide) ?_
  obtain ⟨hs1, hf⟩ := mm_sh_s hf
  obtain ⟨q2, hq2, hf⟩ := mm_on_s hf
  refine mm_callVi cd_ok (kX9_value p0 2 hq2) hs1 rfl (Or.inl tw_1035) cdX9_value tw_1037 ts_44 nmX9_value rfl rfl (by simp only [List.map_cons, List.map_nil, mm_rf_cat]; exact Nat.le_of_ble_eq_true rfl) dX9_linkPacket_2 ⟨Nat.le_of_ble_eq_true rfl, Nat.le_of_ble_eq_true rfl⟩ ⟨Nat.le_of_ble_eq_true rfl, Nat.le_of_ble_eq_true rfl⟩ ?_
  refine mm_if_eq (tgt := 9) dX9_linkPacket_5 (by decide) (fun c3 => ?_) (fun c3 => ?_)
  · rw [if_pos c3] at hf
    refine mm_iconst (v := 0) dX9_linkPacket_9 (by decide) ?_
    refine mm_istore_n (L' := [(3, .int 0), (0, .ref p0), (1, .int p1), (2, .int p2)]) dX9_linkPacket_10 rfl (by decide) rfl ?_
    refine mm_sub [1, 2, 3, 0] rfl ?_
    exact kX9_linkPacket_11  p0 p1 p2 0 q2.2 hf
  · rw [if_neg c3] at hf
    cases hf
    refine mm_widen (ck' := rmX9_linkPacket.cells) (sk' := rmX9_linkPacket.slots) (Nat.le_of_ble_eq_true rfl) (Nat.le_of_ble_eq_true rfl) ?_
    exact mm_vret rfl dX9_linkPacket_8 ⟨rfl, rfl⟩
theorem dX9_packet_0 : decode cX9_packet 0 = .ok (.aload_n 0, 1) := by decide +kernel
theorem dX9_packet_1 : decode cX9_packet 1 = .ok (.aload_n 0, 1) := by decide +kernel
theorem dX9_packet_2 : decode cX9_packet 2 = .ok (.getfield 190, 3) := by decide +kernel
theorem dX9_packet_5 : decode cX9_packet 5 = .ok (.bipush 42, 2) := by decide +kernel
theorem dX9_packet_7 : decode cX9_packet 7 = .ok (.if_icmp .lt 7, 3) := by decide +kernel
theorem dX9_packet_10 : decode cX9_packet 10 = .ok (.iconst 1, 1) := by decide +kernel
theorem dX9_packet_11 : decode cX9_packet 11 = .ok (.goto 4, 3) := by decide +kernel
theorem dX9_packet_14 : decode cX9_packet 14 = .ok (.iconst 0, 1) := by decide +kernel
theorem dX9_packet_15 : decode cX9_packet 15 = .ok (.invokevirtual 169, 3) := by decide +kernel
theorem dX9_packet_18 : decode cX9_packet 18 = .ok (.ifCond .ne 5, 3) := by decide +kernel
theorem dX9_packet_21 : decode cX9_packet 21 = .ok (.iconst 0, 1) := by decide +kernel
theorem dX9_packet_22 : decode cX9_packet 22 = .ok (.ireturn, 1) := by decide +kernel
theorem dX9_packet_23 : decode cX9_packet 23 = .ok (.aload_n 0, 1) := by decide +kernel
theorem dX9_packet_24 : decode cX9_packet 24 = .ok (.iconst 0, 1) := by decide +kernel
theorem dX9_packet_25 : decode cX9_packet 25 = .ok (.putfield 190, 3) := by decide +kernel
theorem dX9_packet_28 : decode cX9_packet 28 = .ok (.aload_n 0, 1) := by decide +kernel
theorem dX9_packet_29 : decode cX9_packet 29 = .ok (.iconst 0, 1) := by decide +kernel
theorem dX9_packet_30 : decode cX9_packet 30 = .ok (.invokevirtual 215, 3) := by decide +kernel
theorem dX9_packet_33 : decode cX9_packet 33 = .ok (.istore_n 1, 1) := by decide +kernel
theorem dX9_packet_34 : decode cX9_packet 34 = .ok (.aload_n 0, 1) := by decide +kernel
theorem dX9_packet_35 : decode cX9_packet 35 = .ok (.iconst 1, 1) := by decide +kernel
theorem dX9_packet_36 : decode cX9_packet 36 = .ok (.invokevirtual 215, 3) := by decide +kernel
theorem dX9_packet_39 : decode cX9_packet 39 = .ok (.istore_n 2, 1) := by decide +kernel
theorem dX9_packet_40 : decode cX9_packet 40 = .ok (.iload_n 1, 1) := by decide +kernel
theorem dX9_packet_41 : decode cX9_packet 41 = .ok (.iconst (-1), 1) := by decide +kernel
theorem dX9_packet_42 : decode cX9_packet 42 = .ok (.if_icmp .eq 8, 3) := by decide +kernel
theorem dX9_packet_45 : decode cX9_packet 45 = .ok (.iload_n 2, 1) := by decide +kernel
theorem dX9_packet_46 : decode cX9_packet 46 = .ok (.iconst (-1), 1) := by decide +kernel
theorem dX9_packet_47 : decode cX9_packet 47 = .ok (.if_icmp .ne 15, 3) := by decide +kernel
theorem dX9_packet_50 : decode cX9_packet 50 = .ok (.aload_n 0, 1) := by decide +kernel
theorem dX9_packet_51 : decode cX9_packet 51 = .ok (.getfield 44, 3) := by decide +kernel
theorem dX9_packet_54 : decode cX9_packet 54 = .ok (.iconst 0, 1) := by decide +kernel
theorem dX9_packet_55 : decode cX9_packet 55 = .ok (.dup2, 1) := by decide +kernel
theorem dX9_packet_56 : decode cX9_packet 56 = .ok (.iaload, 1) := by decide +kernel
theorem dX9_packet_57 : decode cX9_packet 57 = .ok (.iconst 1, 1) := by decide +kernel
theorem dX9_packet_58 : decode cX9_packet 58 = .ok (.iadd, 1) := by decide +kernel
theorem dX9_packet_59 : decode cX9_packet 59 = .ok (.iastore, 1) := by decide +kernel
theorem dX9_packet_60 : decode cX9_packet 60 = .ok (.iconst (-1), 1) := by decide +kernel
theorem dX9_packet_61 : decode cX9_packet 61 = .ok (.ireturn, 1) := by decide +kernel
theorem dX9_packet_62 : decode cX9_packet 62 = .ok (.iload_n 1, 1) := by decide +kernel
theorem dX9_packet_63 : decode cX9_packet 63 = .ok (.invokestatic 232, 3) := by decide +kernel
theorem dX9_packet_66 : decode cX9_packet 66 = .ok (.istore_n 3, 1) := by decide +kernel
theorem dX9_packet_67 : decode cX9_packet 67 = .ok (.iload_n 1, 1) := by decide +kernel
theorem dX9_packet_68 : decode cX9_packet 68 = .ok (.bipush 8, 2) := by decide +kernel
theorem dX9_packet_70 : decode cX9_packet 70 = .ok (.idiv, 1) := by decide +kernel
theorem dX9_packet_71 : decode cX9_packet 71 = .ok (.iconst 2, 1) := by decide +kernel
theorem dX9_packet_72 : decode cX9_packet 72 = .ok (.iload_n 2, 1) := by decide +kernel
theorem dX9_packet_73 : decode cX9_packet 73 = .ok (.imul, 1) := by decide +kernel
theorem dX9_packet_74 : decode cX9_packet 74 = .ok (.iadd, 1) := by decide +kernel
theorem dX9_packet_75 : decode cX9_packet 75 = .ok (.istore 4, 2) := by decide +kernel
theorem dX9_packet_77 : decode cX9_packet 77 = .ok (.iload 4, 2) := by decide +kernel
theorem dX9_packet_79 : decode cX9_packet 79 = .ok (.ifCond .ne 11, 3) := by decide +kernel
theorem dX9_packet_82 : decode cX9_packet 82 = .ok (.aload_n 0, 1) := by decide +kernel
theorem dX9_packet_83 : decode cX9_packet 83 = .ok (.iload_n 3, 1) := by decide +kernel
theorem dX9_packet_84 : decode cX9_packet 84 = .ok (.invokevirtual 235, 3) := by decide +kernel
theorem dX9_packet_87 : decode cX9_packet 87 = .ok (.goto 73, 3) := by decide +kernel
theorem dX9_packet_90 : decode cX9_packet 90 = .ok (.iload 4, 2) := by decide +kernel
theorem dX9_packet_92 : decode cX9_packet 92 = .ok (.bipush 24, 2) := by decide +kernel
theorem dX9_packet_94 : decode cX9_packet 94 = .ok (.if_icmp .le 10, 3) := by decide +kernel
theorem dX9_packet_97 : decode cX9_packet 97 = .ok (.iload 4, 2) := by decide +kernel
theorem dX9_packet_99 : decode cX9_packet 99 = .ok (.bipush 27, 2) := by decide +kernel
theorem dX9_packet_101 : decode cX9_packet 101 = .ok (.if_icmp .ne 59, 3) := by decide +kernel
theorem dX9_packet_104 : decode cX9_packet 104 = .ok (.aload_n 0, 1) := by decide +kernel
theorem dX9_packet_105 : decode cX9_packet 105 = .ok (.getfield 84, 3) := by decide +kernel
theorem dX9_packet_108 : decode cX9_packet 108 = .ok (.iload_n 3, 1) := by decide +kernel
theorem dX9_packet_109 : decode cX9_packet 109 = .ok (.iaload, 1) := by decide +kernel
theorem dX9_packet_110 : decode cX9_packet 110 = .ok (.istore 5, 2) := by decide +kernel
theorem dX9_packet_112 : decode cX9_packet 112 = .ok (.iload 5, 2) := by decide +kernel
theorem dX9_packet_114 : decode cX9_packet 114 = .ok (.iconst (-1), 1) := by decide +kernel
theorem dX9_packet_115 : decode cX9_packet 115 = .ok (.if_icmp .ne 16, 3) := by decide +kernel
theorem dX9_packet_118 : decode cX9_packet 118 = .ok (.aload_n 0, 1) := by decide +kernel
theorem dX9_packet_119 : decode cX9_packet 119 = .ok (.getfield 44, 3) := by decide +kernel
theorem dX9_packet_122 : decode cX9_packet 122 = .ok (.iconst 2, 1) := by decide +kernel
theorem dX9_packet_123 : decode cX9_packet 123 = .ok (.dup2, 1) := by decide +kernel
theorem dX9_packet_124 : decode cX9_packet 124 = .ok (.iaload, 1) := by decide +kernel
theorem dX9_packet_125 : decode cX9_packet 125 = .ok (.iconst 1, 1) := by decide +kernel
theorem dX9_packet_126 : decode cX9_packet 126 = .ok (.iadd, 1) := by decide +kernel
theorem dX9_packet_127 : decode cX9_packet 127 = .ok (.iastore, 1) := by decide +kernel
theorem dX9_packet_128 : decode cX9_packet 128 = .ok (.goto 32, 3) := by decide +kernel
theorem dX9_packet_131 : decode cX9_packet 131 = .ok (.iload 4, 2) := by decide +kernel
theorem dX9_packet_133 : decode cX9_packet 133 = .ok (.bipush 27, 2) := by decide +kernel
theorem dX9_packet_135 : decode cX9_packet 135 = .ok (.if_icmp .ne 13, 3) := by decide +kernel
theorem dX9_packet_138 : decode cX9_packet 138 = .ok (.aload_n 0, 1) := by decide +kernel
theorem dX9_packet_139 : decode cX9_packet 139 = .ok (.iload_n 3, 1) := by decide +kernel
theorem dX9_packet_140 : decode cX9_packet 140 = .ok (.iload 5, 2) := by decide +kernel
theorem dX9_packet_142 : decode cX9_packet 142 = .ok (.invokevirtual 238, 3) := by decide +kernel
theorem dX9_packet_145 : decode cX9_packet 145 = .ok (.goto 15, 3) := by decide +kernel
theorem dX9_packet_148 : decode cX9_packet 148 = .ok (.aload_n 0, 1) := by decide +kernel
theorem dX9_packet_149 : decode cX9_packet 149 = .ok (.iload 5, 2) := by decide +kernel
theorem dX9_packet_151 : decode cX9_packet 151 = .ok (.iload 4, 2) := by decide +kernel
theorem dX9_packet_153 : decode cX9_packet 153 = .ok (.iconst 2, 1) := by decide +kernel
theorem dX9_packet_154 : decode cX9_packet 154 = .ok (.iconst 0, 1) := by decide +kernel
theorem dX9_packet_155 : decode cX9_packet 155 = .ok (.bipush 40, 2) := by decide +kernel
theorem dX9_packet_157 : decode cX9_packet 157 = .ok (.invokevirtual 228, 3) := by decide +kernel
theorem dX9_packet_160 : decode cX9_packet 160 = .ok (.iload 4, 2) := by decide +kernel
theorem dX9_packet_162 : decode cX9_packet 162 = .ok (.ireturn, 1) := by decide +kernel
theorem nmX9_packet : mm_nm yX9_packet 0 := ⟨by decide, by decide, by decide +kernel⟩
theorem cdX9_packet : mm_cd cd_Y yX9_packet cX9_packet 6 (some .int) := ⟨tw_1034, tw_8⟩
abbrev rmX9_packet : Room := { frames := 5, cells := 0, slots := 0, locals := 117 }
def fX9_packet_50  (a0 : Nat) (x1 : Int32) (x2 : Int32) (σ : mm_M) : Option (Int32 × mm_M) :=
  mm_sh σ a0 (.inl 9) (mm_on (mm_R σ a0 13) fun q13 => mm_ar σ q13 0 fun n14 => mm_ib 0 n14 (mm_ib 0 n14 (mm_let (mm_wI σ q13 ((0 : Int32).toNatClampNeg) ((mm_I σ q13 (0 : Int32).toNatClampNeg) + 1)) fun s17 => some ((-1), s17))))
def fX9_packet_104  (a0 : Nat) (x1 : Int32) (x2 : Int32) (x3 : Int32) (x4 : Int32) (σ : mm_M) : Option (Int32 × mm_M) :=
  mm_sh σ a0 (.inl 9) (mm_on (mm_R σ a0 27) fun q22 => mm_ar σ q22 0 fun n23 => mm_ib x3 n23 ((if (mm_I σ q22 x3.toNatClampNeg) = (-1) then mm_on (mm_R σ a0 13) fun q29 => mm_ar σ q29 0 fun n30 => mm_ib 2 n30 (mm_ib 2 n30 (mm_let (mm_wI σ q29 ((2 : Int32).toNatClampNeg) ((mm_I σ q29 (2 : Int32).toNatClampNeg) + 1)) fun s33 => some (x4, s33))) else (if x4 = 27 then mm_on (fX9_linkPacket a0 x3 (mm_I σ q22 x3.toNatClampNeg) σ) fun q28 => some (x4, q28) else mm_on (fX9_text a0 (mm_I σ q22 x3.toNatClampNeg) x4 2 0 40 σ) fun q27 => some (x4, q27)))))
def fX9_packet_15  (a0 : Nat) (y0 : Int32) (y1 : Nat) (σ : mm_M) : Option (Int32 × mm_M) :=
  mm_sh σ y1 (.inl 9) (mm_on (fX9_goes y1 y0 σ) fun q4 => (if q4.1 = 0 then some (0, q4.2) else mm_sh q4.2 a0 (.inl 9) (mm_let (mm_wI q4.2 a0 12 0) fun s7 => mm_on (fX9_value a0 0 s7) fun q8 => mm_sh q8.2 a0 (.inl 9) (mm_on (fX9_value a0 1 q8.2) fun q10 => (if q8.1 = (-1) then (fX9_packet_50  a0 q8.1 q10.1 q10.2) else (if q10.1 = (-1) then (fX9_packet_50  a0 q8.1 q10.1 q10.2) else (if ((q8.1 / 8) + (2 * q10.1)) = 0 then mm_sh q10.2 a0 (.inl 9) (mm_on (fX9_header a0 (fX9_mag q8.1) q10.2) fun q36 => some ((q8.1 / 8) + (2 * q10.1), q36)) else (if ((q8.1 / 8) + (2 * q10.1)) ≤ 24 then (fX9_packet_104  a0 q8.1 q10.1 (fX9_mag q8.1) ((q8.1 / 8) + (2 * q10.1)) q10.2) else (if ((q8.1 / 8) + (2 * q10.1)) = 27 then (fX9_packet_104  a0 q8.1 q10.1 (fX9_mag q8.1) ((q8.1 / 8) + (2 * q10.1)) q10.2) else some ((q8.1 / 8) + (2 * q10.1), q10.2))))))))))
def fX9_packet (p0 : Nat) (σ : mm_M) : Option (Int32 × mm_M) :=
  mm_sh σ p0 (.inl 9) ((if (mm_I σ p0 12) < 42 then (fX9_packet_15  p0 0 p0 σ) else (fX9_packet_15  p0 1 p0 σ)))
set_option maxHeartbeats 4000000 in
set_option maxRecDepth 100000 in
theorem kX9_packet_50 {G : mm_G} {A : Nat → Prop} {ini : Bool × Option (List (Nat × Nat × Nat × Nat))}  {R : (Int32 × mm_M)}  (a0 : Nat) (x1 : Int32) (x2 : Int32) (σ : mm_M) (hf : fX9_packet_50  a0 x1 x2 σ = some R) : mm_J cd_Y G RX9 cX9_packet 6 (some .int) ini rmX9_packet A (mm_QF cd_Y G A (mm_Pi R.1 R.2) rmX9_packet.cells rmX9_packet.slots) 50 [(0, .ref a0), (1, .int x1), (2, .int x2)] [] σ 0 0 := by
  unfold fX9_packet_50 at hf
  refine mm_aload_n (j := 0) dX9_packet_50 rfl rfl ?_
  obtain ⟨hs12, hf⟩ := mm_sh_s hf
  refine mm_get (c := 9) (k := 13) (v := va_rf (mm_R σ a0 13)) cd_ok ⟨_, _, _, rfl, by decide, Or.inl tw_807⟩ hs12 rfl dX9_packet_51 ?_
  refine mm_iconst (v := 0) dX9_packet_54 (by decide) ?_
  refine mm_dup2 dX9_packet_55 rfl (mm_rf_cat _) ?_
  obtain ⟨q13, hq13, hf⟩ := mm_on_s hf
  rw [hq13, mm_rf_some]
  obtain ⟨n14, hn14, hf⟩ := mm_ar_s hf
  obtain ⟨hi15, hf⟩ := mm_ib_s hf
  refine mm_iald hn14 rfl hi15 dX9_packet_56 ?_
  refine mm_iconst (v := 1) dX9_packet_57 (by decide) ?_
  refine mm_iadd dX9_packet_58 ?_
  obtain ⟨hi16, hf⟩ := mm_ib_s hf
  refine mm_iast hn14 rfl hi16 dX9_packet_59 ?_
  obtain ⟨s17, hs17, hf⟩ := mm_let_s hf
  rw [hs17]
  refine mm_iconst (v := (-1)) dX9_packet_60 (by decide) ?_
  cases hf
  refine mm_widen (ck' := rmX9_packet.cells) (sk' := rmX9_packet.slots) (Nat.le_of_ble_eq_true rfl) (Nat.le_of_ble_eq_true rfl) ?_
  exact mm_iret rfl rfl dX9_packet_61 ⟨rfl, rfl⟩
set_option maxHeartbeats 4000000 in
set_option maxRecDepth 100000 in
theorem kX9_packet_104 {G : mm_G} {A : Nat → Prop} {ini : Bool × Option (List (Nat × Nat × Nat × Nat))}  {R : (Int32 × mm_M)}  (a0 : Nat) (x1 : Int32) (x2 : Int32) (x3 : Int32) (x4 : Int32) (σ : mm_M) (hf : fX9_packet_104  a0 x1 x2 x3 x4 σ = some R) : mm_J cd_Y G RX9 cX9_packet 6 (some .int) ini rmX9_packet A (mm_QF cd_Y G A (mm_Pi R.1 R.2) rmX9_packet.cells rmX9_packet.slots) 104 [(0, .ref a0), (1, .int x1), (2, .int x2), (3, .int x3), (4, .int x4)] [] σ 0 0 := by
  unfold fX9_packet_104 at hf
  refine mm_aload_n (j := 0) dX9_packet_104 rfl rfl ?_
  obtain ⟨hs21, hf⟩ := mm_sh_s hf
  refine mm_get (c := 9) (k := 27) (v := va_rf (mm_R σ a0 27)) cd_ok ⟨_, _, _, rfl, by decide, Or.inl tw_821⟩ hs21 rfl dX9_packet_105 ?_
  refine mm_iload_n (j := 3) dX9_packet_108 rfl rfl ?_
  obtain ⟨q22, hq22, hf⟩ := mm_on_s hf
  rw [hq22, mm_rf_some]
  obtain ⟨n23, hn23, hf⟩ := mm_ar_s hf
  obtain ⟨hi24, hf⟩ := mm_ib_s hf
  refine mm_iald hn23 rfl hi24 dX9_packet_109 ?_
  refine mm_istore (L' := [(5, .int (mm_I σ q22 x3.toNatClampNeg)), (0, .ref a0), (1, .int x1), (2, .int x2), (3, .int x3), (4, .int x4)]) dX9_packet_110 (by decide) rfl ?_
  refine mm_iload (j := 0) dX9_packet_112 rfl ?_
  refine mm_iconst (v := (-1)) dX9_packet_114 (by decide) ?_
  refine mm_icmp_ne (tgt := 131) dX9_packet_115 (by decide) (fun c25 => ?_) (fun c25 => ?_)
  · rw [if_neg c25] at hf
    refine mm_iload (j := 5) dX9_packet_131 rfl ?_
    refine mm_bipush (v := 27) dX9_packet_133 (by decide) ?_
    refine mm_icmp_ne (tgt := 148) dX9_packet_135 (by decide) (fun c26 => ?_) (fun c26 => ?_)
    · rw [if_neg c26] at hf
      refine mm_aload_n (j := 1) dX9_packet_148 rfl rfl ?_
      refine mm_iload (j := 0) dX9_packet_149 rfl ?_
      refine mm_iload (j := 5) dX9_packet_151 rfl ?_
      refine mm_iconst (v := 2) dX9_packet_153 (by decide) ?_
      refine mm_iconst (v := 0) dX9_packet_154 (by decide) ?_
      refine mm_bipush (v := 40) dX9_packet_155 (by decide) ?_
      obtain ⟨q27, hq27, hf⟩ := mm_on_s hf
      refine mm_callVv cd_ok (kX9_text a0 (mm_I σ q22 x3.toNatClampNeg) x4 2 0 40 hq27) hs21 rfl (Or.inl tw_1065) cdX9_text tw_1067 ts_50 nmX9_text rfl rfl (by simp only [List.map_cons, List.map_nil, mm_rf_cat]; exact Nat.le_of_ble_eq_true rfl) dX9_packet_157 ⟨Nat.le_of_ble_eq_true rfl, Nat.le_of_ble_eq_true rfl⟩ ⟨Nat.le_of_ble_eq_true rfl, Nat.le_of_ble_eq_true rfl⟩ ?_
      refine mm_iload (j := 5) dX9_packet_160 rfl ?_
      cases hf
      refine mm_widen (ck' := rmX9_packet.cells) (sk' := rmX9_packet.slots) (Nat.le_of_ble_eq_true rfl) (Nat.le_of_ble_eq_true rfl) ?_
      exact mm_iret rfl rfl dX9_packet_162 ⟨rfl, rfl⟩
    · rw [if_pos c26] at hf
      refine mm_aload_n (j := 1) dX9_packet_138 rfl rfl ?_
      refine mm_iload_n (j := 4) dX9_packet_139 rfl rfl ?_
      refine mm_iload (j := 0) dX9_packet_140 rfl ?_
      obtain ⟨q28, hq28, hf⟩ := mm_on_s hf
      refine mm_callVv cd_ok (kX9_linkPacket a0 x3 (mm_I σ q22 x3.toNatClampNeg) hq28) hs21 rfl (Or.inl tw_1069) cdX9_linkPacket tw_1071 ts_51 nmX9_linkPacket rfl rfl (by simp only [List.map_cons, List.map_nil, mm_rf_cat]; exact Nat.le_of_ble_eq_true rfl) dX9_packet_142 ⟨Nat.le_of_ble_eq_true rfl, Nat.le_of_ble_eq_true rfl⟩ ⟨Nat.le_of_ble_eq_true rfl, Nat.le_of_ble_eq_true rfl⟩ ?_
      refine mm_goto (tgt := 160) dX9_packet_145 (by decide) ?_
      refine mm_iload (j := 5) dX9_packet_160 rfl ?_
      cases hf
      refine mm_widen (ck' := rmX9_packet.cells) (sk' := rmX9_packet.slots) (Nat.le_of_ble_eq_true rfl) (Nat.le_of_ble_eq_true rfl) ?_
      exact mm_iret rfl rfl dX9_packet_162 ⟨rfl, rfl⟩
  · rw [if_pos c25] at hf
    refine mm_aload_n (j := 1) dX9_packet_118 rfl rfl ?_
    refine mm_get (c := 9) (k := 13) (v := va_rf (mm_R σ a0 13)) cd_ok ⟨_, _, _, rfl, by decide, Or.inl tw_807⟩ hs21 rfl dX9_packet_119 ?_
    refine mm_iconst (v := 2) dX9_packet_122 (by decide) ?_
    refine mm_dup2 dX9_packet_123 rfl (mm_rf_cat _) ?_
    obtain ⟨q29, hq29, hf⟩ := mm_on_s hf
    rw [hq29, mm_rf_some]
    obtain ⟨n30, hn30, hf⟩ := mm_ar_s hf
    obtain ⟨hi31, hf⟩ := mm_ib_s hf
    refine mm_iald hn30 rfl hi31 dX9_packet_124 ?_
    refine mm_iconst (v := 1) dX9_packet_125 (by decide) ?_
    refine mm_iadd dX9_packet_126 ?_
    obtain ⟨hi32, hf⟩ := mm_ib_s hf
    refine mm_iast hn30 rfl hi32 dX9_packet_127 ?_
    obtain ⟨s33, hs33, hf⟩ := mm_let_s hf
    rw [hs33]
    refine mm_goto (tgt := 160) dX9_packet_128 (by decide) ?_
    refine mm_iload (j := 5) dX9_packet_160 rfl ?_
    cases hf
    refine mm_widen (ck' := rmX9_packet.cells) (sk' := rmX9_packet.slots) (Nat.le_of_ble_eq_true rfl) (Nat.le_of_ble_eq_true rfl) ?_
    exact mm_iret rfl rfl dX9_packet_162 ⟨rfl, rfl⟩
set_option maxHeartbeats 4000000 in
set_option maxRecDepth 100000 in
theorem kX9_packet_15 {G : mm_G} {A : Nat → Prop} {ini : Bool × Option (List (Nat × Nat × Nat × Nat))}  {R : (Int32 × mm_M)}  (a0 : Nat) (y0 : Int32) (y1 : Nat) (σ : mm_M) (hf : fX9_packet_15  a0 y0 y1 σ = some R) : mm_J cd_Y G RX9 cX9_packet 6 (some .int) ini rmX9_packet A (mm_QF cd_Y G A (mm_Pi R.1 R.2) rmX9_packet.cells rmX9_packet.slots) 15 [(0, .ref a0)] [.int y0, .ref y1] σ 0 0 := by
  unfold fX9_packet_15 at hf
  obtain ⟨hs3, hf⟩ := mm_sh_s hf
  obtain ⟨q4, hq4, hf⟩ := mm_on_s hf
  refine mm_callVi cd_ok (kX9_goes y1 y0 hq4) hs3 rfl (Or.inl tw_944) cdX9_goes tw_946 ts_31 nmX9_goes rfl rfl (by simp only [List.map_cons, List.map_nil, mm_rf_cat]; exact Nat.le_of_ble_eq_true rfl) dX9_packet_15 ⟨Nat.le_of_ble_eq_true rfl, Nat.le_of_ble_eq_true rfl⟩ ⟨Nat.le_of_ble_eq_true rfl, Nat.le_of_ble_eq_true rfl⟩ ?_
  refine mm_if_ne (tgt := 23) dX9_packet_18 (by decide) (fun c5 => ?_) (fun c5 => ?_)
  · rw [if_neg c5] at hf
    refine mm_aload_n (j := 0) dX9_packet_23 rfl rfl ?_
    refine mm_iconst (v := 0) dX9_packet_24 (by decide) ?_
    obtain ⟨hs6, hf⟩ := mm_sh_s hf
    refine mm_putI (c := 9) (k := 12) cd_ok ⟨_, _, _, rfl, by decide, rfl, Or.inl tw_806⟩ hs6 rfl rfl rfl dX9_packet_25 ?_
    obtain ⟨s7, hs7, hf⟩ := mm_let_s hf
    rw [hs7]
    refine mm_aload_n (j := 0) dX9_packet_28 rfl rfl ?_
    refine mm_iconst (v := 0) dX9_packet_29 (by decide) ?_
    obtain ⟨q8, hq8, hf⟩ := mm_on_s hf
    refine mm_callVi cd_ok (kX9_value a0 0 hq8) (mm_ke hs7 hs6) rfl (Or.inl tw_1035) cdX9_value tw_1037 ts_44 nmX9_value rfl rfl (by simp only [List.map_cons, List.map_nil, mm_rf_cat]; exact Nat.le_of_ble_eq_true rfl) dX9_packet_30 ⟨Nat.le_of_ble_eq_true rfl, Nat.le_of_ble_eq_true rfl⟩ ⟨Nat.le_of_ble_eq_true rfl, Nat.le_of_ble_eq_true rfl⟩ ?_
    refine mm_istore_n (L' := [(1, .int q8.1), (0, .ref a0)]) dX9_packet_33 rfl (by decide) rfl ?_
    refine mm_aload_n (j := 1) dX9_packet_34 rfl rfl ?_
    refine mm_iconst (v := 1) dX9_packet_35 (by decide) ?_
    obtain ⟨hs9, hf⟩ := mm_sh_s hf
    obtain ⟨q10, hq10, hf⟩ := mm_on_s hf
    refine mm_callVi cd_ok (kX9_value a0 1 hq10) hs9 rfl (Or.inl tw_1035) cdX9_value tw_1037 ts_44 nmX9_value rfl rfl (by simp only [List.map_cons, List.map_nil, mm_rf_cat]; exact Nat.le_of_ble_eq_true rfl) dX9_packet_36 ⟨Nat.le_of_ble_eq_true rfl, Nat.le_of_ble_eq_true rfl⟩ ⟨Nat.le_of_ble_eq_true rfl, Nat.le_of_ble_eq_true rfl⟩ ?_
    refine mm_istore_n (L' := [(2, .int q10.1), (1, .int q8.1), (0, .ref a0)]) dX9_packet_39 rfl (by decide) rfl ?_
    refine mm_iload_n (j := 1) dX9_packet_40 rfl rfl ?_
    refine mm_iconst (v := (-1)) dX9_packet_41 (by decide) ?_
    refine mm_icmp_eq (tgt := 50) dX9_packet_42 (by decide) (fun c11 => ?_) (fun c11 => ?_)
    · rw [if_pos c11] at hf
      refine mm_sub [2, 1, 0] rfl ?_
      exact kX9_packet_50  a0 q8.1 q10.1 q10.2 hf
    · rw [if_neg c11] at hf
      refine mm_iload_n (j := 0) dX9_packet_45 rfl rfl ?_
      refine mm_iconst (v := (-1)) dX9_packet_46 (by decide) ?_
      refine mm_icmp_ne (tgt := 62) dX9_packet_47 (by decide) (fun c18 => ?_) (fun c18 => ?_)
      · rw [if_neg c18] at hf
        refine mm_iload_n (j := 1) dX9_packet_62 rfl rfl ?_
        refine mm_callSi cd_ok (kX9_mag q8.1 _ rfl) (Or.inl tw_1039) cdX9_mag tw_1040 nmX9_mag rfl rfl (by simp only [List.map_cons, List.map_nil, mm_rf_cat]; exact Nat.le_of_ble_eq_true rfl) dX9_packet_63 ⟨Nat.le_of_ble_eq_true rfl, Nat.le_of_ble_eq_true rfl⟩ ⟨Nat.le_of_ble_eq_true rfl, Nat.le_of_ble_eq_true rfl⟩ ?_
        refine mm_istore_n (L' := [(3, .int (fX9_mag q8.1)), (2, .int q10.1), (1, .int q8.1), (0, .ref a0)]) dX9_packet_66 rfl (by decide) rfl ?_
        refine mm_iload_n (j := 2) dX9_packet_67 rfl rfl ?_
        refine mm_bipush (v := 8) dX9_packet_68 (by decide) ?_
        refine mm_idiv dX9_packet_70 (by decide) ?_
        refine mm_iconst (v := 2) dX9_packet_71 (by decide) ?_
        refine mm_iload_n (j := 1) dX9_packet_72 rfl rfl ?_
        refine mm_imul dX9_packet_73 ?_
        refine mm_iadd dX9_packet_74 ?_
        refine mm_istore (L' := [(4, .int ((q8.1 / 8) + (2 * q10.1))), (3, .int (fX9_mag q8.1)), (2, .int q10.1), (1, .int q8.1), (0, .ref a0)]) dX9_packet_75 (by decide) rfl ?_
        refine mm_iload (j := 0) dX9_packet_77 rfl ?_
        refine mm_if_ne (tgt := 90) dX9_packet_79 (by decide) (fun c19 => ?_) (fun c19 => ?_)
        · rw [if_neg c19] at hf
          refine mm_iload (j := 0) dX9_packet_90 rfl ?_
          refine mm_bipush (v := 24) dX9_packet_92 (by decide) ?_
          refine mm_icmp_le (tgt := 104) dX9_packet_94 (by decide) (fun c20 => ?_) (fun c20 => ?_)
          · rw [if_pos c20] at hf
            refine mm_sub [4, 3, 2, 1, 0] rfl ?_
            exact kX9_packet_104  a0 q8.1 q10.1 (fX9_mag q8.1) ((q8.1 / 8) + (2 * q10.1)) q10.2 hf
          · rw [if_neg c20] at hf
            refine mm_iload (j := 0) dX9_packet_97 rfl ?_
            refine mm_bipush (v := 27) dX9_packet_99 (by decide) ?_
            refine mm_icmp_ne (tgt := 160) dX9_packet_101 (by decide) (fun c34 => ?_) (fun c34 => ?_)
            · rw [if_neg c34] at hf
              refine mm_iload (j := 0) dX9_packet_160 rfl ?_
              cases hf
              refine mm_widen (ck' := rmX9_packet.cells) (sk' := rmX9_packet.slots) (Nat.le_of_ble_eq_true rfl) (Nat.le_of_ble_eq_true rfl) ?_
              exact mm_iret rfl rfl dX9_packet_162 ⟨rfl, rfl⟩
            · rw [if_pos c34] at hf
              refine mm_sub [4, 3, 2, 1, 0] rfl ?_
              exact kX9_packet_104  a0 q8.1 q10.1 (fX9_mag q8.1) ((q8.1 / 8) + (2 * q10.1)) q10.2 hf
        · rw [if_pos c19] at hf
          refine mm_aload_n (j := 4) dX9_packet_82 rfl rfl ?_
          refine mm_iload_n (j := 1) dX9_packet_83 rfl rfl ?_
          obtain ⟨hs35, hf⟩ := mm_sh_s hf
          obtain ⟨q36, hq36, hf⟩ := mm_on_s hf
          refine mm_callVv cd_ok (kX9_header a0 (fX9_mag q8.1) hq36) hs35 rfl (Or.inl tw_1042) cdX9_header tw_1044 ts_45 nmX9_header rfl rfl (by simp only [List.map_cons, List.map_nil, mm_rf_cat]; exact Nat.le_of_ble_eq_true rfl) dX9_packet_84 ⟨Nat.le_of_ble_eq_true rfl, Nat.le_of_ble_eq_true rfl⟩ ⟨Nat.le_of_ble_eq_true rfl, Nat.le_of_ble_eq_true rfl⟩ ?_
          refine mm_goto (tgt := 160) dX9_packet_87 (by decide) ?_
          refine mm_iload (j := 0) dX9_packet_160 rfl ?_
          cases hf
          refine mm_widen (ck' := rmX9_packet.cells) (sk' := rmX9_packet.slots) (Nat.le_of_ble_eq_true rfl) (Nat.le_of_ble_eq_true rfl) ?_
          exact mm_iret rfl rfl dX9_packet_162 ⟨rfl, rfl⟩
      · rw [if_pos c18] at hf
        refine mm_sub [2, 1, 0] rfl ?_
        exact kX9_packet_50  a0 q8.1 q10.1 q10.2 hf
  · rw [if_pos c5] at hf
    refine mm_iconst (v := 0) dX9_packet_21 (by decide) ?_
    cases hf
    refine mm_widen (ck' := rmX9_packet.cells) (sk' := rmX9_packet.slots) (Nat.le_of_ble_eq_true rfl) (Nat.le_of_ble_eq_true rfl) ?_
    exact mm_iret rfl rfl dX9_packet_22 ⟨rfl, rfl⟩
set_option maxHeartbeats 4000000 in
set_option maxRecDepth 100000 in
theorem kX9_packet {G : mm_G} {A : Nat → Prop} (p0 : Nat) {σ : mm_M} {R : (Int32 × mm_M)} (hf : fX9_packet p0 σ = some R) : mm_C cd_Y G yX9_packet cX9_packet 6 (some .int) rmX9_packet A [.ref p0] σ (mm_Pi R.1 R.2) := by
  refine mm_C.of (by decide) (Nat.le_of_ble_eq_true rfl) ?_
  unfold fX9_packet at hf
  have e0 : lv_args 0 [.ref p0] = [(0, .ref p0)] := rfl
  rw [e0]
  generalize hini : ((yX9_packet.name == "<init>"), none) = ini
  clear e0
  clear hini
  refine mm_aload_n (j := 0) dX9_packet_0 rfl rfl ?_
  refine mm_aload_n (j := 0) dX9_packet_1 rfl rfl ?_
  obtain ⟨hs1, hf⟩ := mm_sh_s hf
  refine mm_get (c := 9) (k := 12) (v := .int (mm_I σ p0 12)) cd_ok ⟨_, _, _, rfl, by decide, Or.inl tw_806⟩ hs1 rfl dX9_packet_2 ?_
  refine mm_bipush (v := 42) dX9_packet_5 (by decide) ?_
  refine mm_icmp_lt (tgt := 14) dX9_packet_7 (by decide) (fun c2 => ?_) (fun c2 => ?_)
  · rw [if_pos c2] at hf
    refine mm_iconst (v := 0) dX9_packet_14 (by decide) ?_
    refine mm_sub [0] rfl ?_
    exact kX9_packet_15  p0 0 p0 σ hf
  · rw [if_neg c2] at hf
    refine mm_iconst (v := 1) dX9_packet_10 (by decide) ?_
    refine mm_goto (tgt := 15) dX9_packet_11 (by decide) ?_
    refine mm_sub [0] rfl ?_
    exact kX9_packet_15  p0 1 p0 σ hf
theorem dX9_nothing_0 : decode cX9_nothing 0 = .ok (.aload_n 0, 1) := by decide +kernel
theorem dX9_nothing_1 : decode cX9_nothing 1 = .ok (.iload_n 1, 1) := by decide +kernel
theorem dX9_nothing_2 : decode cX9_nothing 2 = .ok (.iconst 0, 1) := by decide +kernel
theorem dX9_nothing_3 : decode cX9_nothing 3 = .ok (.iconst 2, 1) := by decide +kernel
theorem dX9_nothing_4 : decode cX9_nothing 4 = .ok (.invokestatic 153, 3) := by decide +kernel
theorem dX9_nothing_7 : decode cX9_nothing 7 = .ok (.invokevirtual 169, 3) := by decide +kernel
theorem dX9_nothing_10 : decode cX9_nothing 10 = .ok (.ifCond .eq 12, 3) := by decide +kernel
theorem dX9_nothing_13 : decode cX9_nothing 13 = .ok (.aload_n 0, 1) := by decide +kernel
theorem dX9_nothing_14 : decode cX9_nothing 14 = .ok (.getfield 44, 3) := by decide +kernel
theorem dX9_nothing_17 : decode cX9_nothing 17 = .ok (.iload_n 1, 1) := by decide +kernel
theorem dX9_nothing_18 : decode cX9_nothing 18 = .ok (.iaload, 1) := by decide +kernel
theorem dX9_nothing_19 : decode cX9_nothing 19 = .ok (.goto 4, 3) := by decide +kernel
theorem dX9_nothing_22 : decode cX9_nothing 22 = .ok (.iconst 0, 1) := by decide +kernel
theorem dX9_nothing_23 : decode cX9_nothing 23 = .ok (.ireturn, 1) := by decide +kernel
theorem nmX9_nothing : mm_nm yX9_nothing 1 := ⟨by decide, by decide, by decide +kernel⟩
theorem cdX9_nothing : mm_cd cd_Y yX9_nothing cX9_nothing 2 (some .int) := ⟨tw_1076, tw_8⟩
abbrev rmX9_nothing : Room := { frames := 1, cells := 0, slots := 0, locals := 22 }
def fX9_nothing (p0 : Nat) (p1 : Int32) (σ : mm_M) : Option (Int32 × mm_M) :=
  mm_sh σ p0 (.inl 9) (mm_on (fX9_goes p0 (fX9_in p1 0 2) σ) fun q2 => (if q2.1 = 0 then some (0, q2.2) else mm_sh q2.2 p0 (.inl 9) (mm_on (mm_R q2.2 p0 13) fun q5 => mm_ar q2.2 q5 0 fun n6 => mm_ib p1 n6 (some (mm_I q2.2 q5 p1.toNatClampNeg, q2.2)))))
set_option maxHeartbeats 4000000 in
set_option maxRecDepth 100000 in
theorem kX9_nothing {G : mm_G} {A : Nat → Prop} (p0 : Nat) (p1 : Int32) {σ : mm_M} {R : (Int32 × mm_M)} (hf : fX9_nothing p0 p1 σ = some R) : mm_C cd_Y G yX9_nothing cX9_nothing 2 (some .int) rmX9_nothing A [.ref p0, .int p1] σ (mm_Pi R.1 R.2) := by
  refine mm_C.of (by decide) (Nat.le_of_ble_eq_true rfl) ?_
  unfold fX9_nothing at hf
  have e0 : lv_args 0 [.ref p0, .int p1] = [(0, .ref p0), (1, .int p1)] := rfl
  rw [e0]
  generalize hini : ((yX9_nothing.name == "<init>"), none) = ini
  clear e0
  clear hini
  refine mm_aload_n (j := 0) dX9_nothing_0 rfl rfl ?_
  refine mm_iload_n (j := 1) dX9_nothing_1 rfl rfl ?_
  refine mm_iconst (v := 0) dX9_nothing_2 (by decide) ?_
  refine mm_iconst (v := 2) dX9_nothing_3 (by decide) ?_
  refine mm_callSi cd_ok (kX9_in p1 0 2 _ rfl) (Or.inl tw_941) cdX9_in tw_942 nmX9_in rfl rfl (by simp only [List.map_cons, List.map_nil, mm_rf_cat]; exact Nat.le_of_ble_eq_true rfl) dX9_nothing_4 ⟨Nat.le_of_ble_eq_true rfl, Nat.le_of_ble_eq_true rfl⟩ ⟨Nat.le_of_ble_eq_true rfl, Nat.le_of_ble_eq_true rfl⟩ ?_
  obtain ⟨hs1, hf⟩ := mm_sh_s hf
  obtain ⟨q2, hq2, hf⟩ := mm_on_s hf
  refine mm_callVi cd_ok (kX9_goes p0 (fX9_in p1 0 2) hq2) hs1 rfl (Or.inl tw_944) cdX9_goes tw_946 ts_31 nmX9_goes rfl rfl (by simp only [List.map_cons, List.map_nil, mm_rf_cat]; exact Nat.le_of_ble_eq_true rfl) dX9_nothing_7 ⟨Nat.le_of_ble_eq_true rfl, Nat.le_of_ble_eq_true rfl⟩ ⟨Nat.le_of_ble_eq_true rfl, Nat.le_of_ble_eq_true rfl⟩ ?_
  refine mm_if_eq (tgt := 22) dX9_nothing_10 (by decide) (fun c3 => ?_) (fun c3 => ?_)
  · rw [if_pos c3] at hf
    refine mm_iconst (v := 0) dX9_nothing_22 (by decide) ?_
    cases hf
    refine mm_widen (ck' := rmX9_nothing.cells) (sk' := rmX9_nothing.slots) (Nat.le_of_ble_eq_true rfl) (Nat.le_of_ble_eq_true rfl) ?_
    exact mm_iret rfl rfl dX9_nothing_23 ⟨rfl, rfl⟩
  · rw [if_neg c3] at hf
    refine mm_aload_n (j := 0) dX9_nothing_13 rfl rfl ?_
    obtain ⟨hs4, hf⟩ := mm_sh_s hf
    refine mm_get (c := 9) (k := 13) (v := va_rf (mm_R q2.2 p0 13)) cd_ok ⟨_, _, _, rfl, by decide, Or.inl tw_807⟩ hs4 rfl dX9_nothing_14 ?_
    refine mm_iload_n (j := 1) dX9_nothing_17 rfl rfl ?_
    obtain ⟨q5, hq5, hf⟩ := mm_on_s hf
    rw [hq5, mm_rf_some]
    obtain ⟨n6, hn6, hf⟩ := mm_ar_s hf
    obtain ⟨hi7, hf⟩ := mm_ib_s hf
    refine mm_iald hn6 rfl hi7 dX9_nothing_18 ?_
    refine mm_goto (tgt := 23) dX9_nothing_19 (by decide) ?_
    cases hf
    refine mm_widen (ck' := rmX9_nothing.cells) (sk' := rmX9_nothing.slots) (Nat.le_of_ble_eq_true rfl) (Nat.le_of_ble_eq_true rfl) ?_
    exact mm_iret rfl rfl dX9_nothing_23 ⟨rfl, rfl⟩
theorem dX9_pages_0 : decode cX9_pages 0 = .ok (.aload_n 0, 1) := by decide +kernel
theorem dX9_pages_1 : decode cX9_pages 1 = .ok (.iconst 0, 1) := by decide +kernel
theorem dX9_pages_2 : decode cX9_pages 2 = .ok (.putfield 120, 3) := by decide +kernel
theorem dX9_pages_5 : decode cX9_pages 5 = .ok (.aload_n 0, 1) := by decide +kernel
theorem dX9_pages_6 : decode cX9_pages 6 = .ok (.getfield 206, 3) := by decide +kernel
theorem dX9_pages_9 : decode cX9_pages 9 = .ok (.ireturn, 1) := by decide +kernel
theorem nmX9_pages : mm_nm yX9_pages 0 := ⟨by decide, by decide, by decide +kernel⟩
theorem cdX9_pages : mm_cd cd_Y yX9_pages cX9_pages 1 (some .int) := ⟨tw_1080, tw_8⟩
abbrev rmX9_pages : Room := { frames := 0, cells := 0, slots := 0, locals := 0 }
def fX9_pages (p0 : Nat) (σ : mm_M) : Option (Int32 × mm_M) :=
  mm_sh σ p0 (.inl 9) (mm_let (mm_wI σ p0 0 0) fun s2 => some (mm_I s2 p0 14, s2))
set_option maxHeartbeats 4000000 in
set_option maxRecDepth 100000 in
theorem kX9_pages {G : mm_G} {A : Nat → Prop} (p0 : Nat) {σ : mm_M} {R : (Int32 × mm_M)} (hf : fX9_pages p0 σ = some R) : mm_C cd_Y G yX9_pages cX9_pages 1 (some .int) rmX9_pages A [.ref p0] σ (mm_Pi R.1 R.2) := by
  refine mm_C.of (by decide) (Nat.le_of_ble_eq_true rfl) ?_
  unfold fX9_pages at hf
  have e0 : lv_args 0 [.ref p0] = [(0, .ref p0)] := rfl
  rw [e0]
  generalize hini : ((yX9_pages.name == "<init>"), none) = ini
  clear e0
  clear hini
  refine mm_aload_n (j := 0) dX9_pages_0 rfl rfl ?_
  refine mm_iconst (v := 0) dX9_pages_1 (by decide) ?_
  obtain ⟨hs1, hf⟩ := mm_sh_s hf
  refine mm_putI (c := 9) (k := 0) cd_ok ⟨_, _, _, rfl, by decide, rfl, Or.inl tw_794⟩ hs1 rfl rfl rfl dX9_pages_2 ?_
  obtain ⟨s2, hs2, hf⟩ := mm_let_s hf
  rw [hs2]
  refine mm_aload_n (j := 0) dX9_pages_5 rfl rfl ?_
  refine mm_get (c := 9) (k := 14) (v := .int (mm_I s2 p0 14)) cd_ok ⟨_, _, _, rfl, by decide, Or.inl tw_808⟩ (mm_ke hs2 hs1) rfl dX9_pages_6 ?_
  cases hf
  refine mm_widen (ck' := rmX9_pages.cells) (sk' := rmX9_pages.slots) (Nat.le_of_ble_eq_true rfl) (Nat.le_of_ble_eq_true rfl) ?_
  exact mm_iret rfl rfl dX9_pages_9 ⟨rfl, rfl⟩
theorem dX9_find_0 : decode cX9_find 0 = .ok (.aload_n 0, 1) := by decide +kernel
theorem dX9_find_1 : decode cX9_find 1 = .ok (.iconst 0, 1) := by decide +kernel
theorem dX9_find_2 : decode cX9_find 2 = .ok (.putfield 120, 3) := by decide +kernel
theorem dX9_find_5 : decode cX9_find 5 = .ok (.iconst (-1), 1) := by decide +kernel
theorem dX9_find_6 : decode cX9_find 6 = .ok (.istore 4, 2) := by decide +kernel
theorem dX9_find_8 : decode cX9_find 8 = .ok (.iconst 0, 1) := by decide +kernel
theorem dX9_find_9 : decode cX9_find 9 = .ok (.istore 5, 2) := by decide +kernel
theorem dX9_find_11 : decode cX9_find 11 = .ok (.iload 5, 2) := by decide +kernel
theorem dX9_find_13 : decode cX9_find 13 = .ok (.aload_n 0, 1) := by decide +kernel
theorem dX9_find_14 : decode cX9_find 14 = .ok (.getfield 206, 3) := by decide +kernel
theorem dX9_find_17 : decode cX9_find 17 = .ok (.if_icmp .ge 65, 3) := by decide +kernel
theorem dX9_find_20 : decode cX9_find 20 = .ok (.aload_n 0, 1) := by decide +kernel
theorem dX9_find_21 : decode cX9_find 21 = .ok (.getfield 47, 3) := by decide +kernel
theorem dX9_find_24 : decode cX9_find 24 = .ok (.iload 5, 2) := by decide +kernel
theorem dX9_find_26 : decode cX9_find 26 = .ok (.iaload, 1) := by decide +kernel
theorem dX9_find_27 : decode cX9_find 27 = .ok (.istore 6, 2) := by decide +kernel
theorem dX9_find_29 : decode cX9_find 29 = .ok (.aload_n 0, 1) := by decide +kernel
theorem dX9_find_30 : decode cX9_find 30 = .ok (.getfield 54, 3) := by decide +kernel
theorem dX9_find_33 : decode cX9_find 33 = .ok (.iload 6, 2) := by decide +kernel
theorem dX9_find_35 : decode cX9_find 35 = .ok (.iaload, 1) := by decide +kernel
theorem dX9_find_36 : decode cX9_find 36 = .ok (.iload_n 1, 1) := by decide +kernel
theorem dX9_find_37 : decode cX9_find 37 = .ok (.if_icmp .ne 35, 3) := by decide +kernel
theorem dX9_find_40 : decode cX9_find 40 = .ok (.aload_n 0, 1) := by decide +kernel
theorem dX9_find_41 : decode cX9_find 41 = .ok (.getfield 57, 3) := by decide +kernel
theorem dX9_find_44 : decode cX9_find 44 = .ok (.iload 6, 2) := by decide +kernel
theorem dX9_find_46 : decode cX9_find 46 = .ok (.iaload, 1) := by decide +kernel
theorem dX9_find_47 : decode cX9_find 47 = .ok (.iload_n 2, 1) := by decide +kernel
theorem dX9_find_48 : decode cX9_find 48 = .ok (.if_icmp .ne 24, 3) := by decide +kernel
theorem dX9_find_51 : decode cX9_find 51 = .ok (.iload_n 3, 1) := by decide +kernel
theorem dX9_find_52 : decode cX9_find 52 = .ok (.iconst (-1), 1) := by decide +kernel
theorem dX9_find_53 : decode cX9_find 53 = .ok (.if_icmp .eq 14, 3) := by decide +kernel
theorem dX9_find_56 : decode cX9_find 56 = .ok (.aload_n 0, 1) := by decide +kernel
theorem dX9_find_57 : decode cX9_find 57 = .ok (.getfield 60, 3) := by decide +kernel
theorem dX9_find_60 : decode cX9_find 60 = .ok (.iload 6, 2) := by decide +kernel
theorem dX9_find_62 : decode cX9_find 62 = .ok (.iaload, 1) := by decide +kernel
theorem dX9_find_63 : decode cX9_find 63 = .ok (.iload_n 3, 1) := by decide +kernel
theorem dX9_find_64 : decode cX9_find 64 = .ok (.if_icmp .ne 8, 3) := by decide +kernel
theorem dX9_find_67 : decode cX9_find 67 = .ok (.iload 5, 2) := by decide +kernel
theorem dX9_find_69 : decode cX9_find 69 = .ok (.goto 5, 3) := by decide +kernel
theorem dX9_find_72 : decode cX9_find 72 = .ok (.iload 4, 2) := by decide +kernel
theorem dX9_find_74 : decode cX9_find 74 = .ok (.istore 4, 2) := by decide +kernel
theorem dX9_find_76 : decode cX9_find 76 = .ok (.iinc 5 1, 3) := by decide +kernel
theorem dX9_find_79 : decode cX9_find 79 = .ok (.goto (-68), 3) := by decide +kernel
theorem dX9_find_82 : decode cX9_find 82 = .ok (.iload 4, 2) := by decide +kernel
theorem dX9_find_84 : decode cX9_find 84 = .ok (.ireturn, 1) := by decide +kernel
theorem nmX9_find : mm_nm yX9_find 3 := ⟨by decide, by decide, by decide +kernel⟩
theorem cdX9_find : mm_cd cd_Y yX9_find cX9_find 7 (some .int) := ⟨tw_1084, tw_8⟩
abbrev rmX9_find : Room := { frames := 0, cells := 0, slots := 0, locals := 0 }
def fX9_find_67 (k11 : Nat → Int32 → Int32 → Int32 → Int32 → Int32 → mm_M → Option (Int32 × mm_M)) (a0 : Nat) (x1 : Int32) (x2 : Int32) (x3 : Int32) (x4 : Int32) (x5 : Int32) (x6 : Int32) (σ : mm_M) : Option (Int32 × mm_M) :=
  (k11 a0 x1 x2 x3 x5 (x5 + 1) σ)
def fX9_find_11  : Nat → Nat → Int32 → Int32 → Int32 → Int32 → Int32 → mm_M → Option (Int32 × mm_M)
  | 0 => fun _ _ _ _ _ _ _ => none
  | n + 1 => fun a0 x1 x2 x3 x4 x5 σ =>
  mm_sh σ a0 (.inl 9) ((if (mm_I σ a0 14) ≤ x5 then some (x4, σ) else mm_on (mm_R σ a0 15) fun q5 => mm_ar σ q5 0 fun n6 => mm_ib x5 n6 (mm_on (mm_R σ a0 17) fun q8 => mm_ar σ q8 0 fun n9 => mm_ib (mm_I σ q5 x5.toNatClampNeg) n9 ((if (mm_I σ q8 (mm_I σ q5 x5.toNatClampNeg).toNatClampNeg) = x1 then mm_on (mm_R σ a0 18) fun q12 => mm_ar σ q12 0 fun n13 => mm_ib (mm_I σ q5 x5.toNatClampNeg) n13 ((if (mm_I σ q12 (mm_I σ q5 x5.toNatClampNeg).toNatClampNeg) = x2 then (if x3 = (-1) then (fX9_find_67 (fX9_find_11  n) a0 x1 x2 x3 x4 x5 (mm_I σ q5 x5.toNatClampNeg) σ) else mm_on (mm_R σ a0 19) fun q17 => mm_ar σ q17 0 fun n18 => mm_ib (mm_I σ q5 x5.toNatClampNeg) n18 ((if (mm_I σ q17 (mm_I σ q5 x5.toNatClampNeg).toNatClampNeg) = x3 then (fX9_find_67 (fX9_find_11  n) a0 x1 x2 x3 x4 x5 (mm_I σ q5 x5.toNatClampNeg) σ) else (fX9_find_11  n a0 x1 x2 x3 x4 (x5 + 1) σ)))) else (fX9_find_11  n a0 x1 x2 x3 x4 (x5 + 1) σ))) else (fX9_find_11  n a0 x1 x2 x3 x4 (x5 + 1) σ))))))
def fX9_find (p0 : Nat) (p1 : Int32) (p2 : Int32) (p3 : Int32) (σ : mm_M) : Option (Int32 × mm_M) :=
  mm_sh σ p0 (.inl 9) (mm_let (mm_wI σ p0 0 0) fun s2 => (fX9_find_11  mm_fuel p0 p1 p2 p3 (-1) 0 s2))
set_option maxHeartbeats 4000000 in
set_option maxRecDepth 100000 in
theorem kX9_find_67 {G : mm_G} {A : Nat → Prop} {ini : Bool × Option (List (Nat × Nat × Nat × Nat))} {k11 : Nat → Int32 → Int32 → Int32 → Int32 → Int32 → mm_M → Option (Int32 × mm_M)} {R : (Int32 × mm_M)} (hk11 : ∀ a0 x1 x2 x3 x4 x5 σ, k11 a0 x1 x2 x3 x4 x5 σ = some R → mm_J cd_Y G RX9 cX9_find 7 (some .int) ini rmX9_find A (mm_QF cd_Y G A (mm_Pi R.1 R.2) rmX9_find.cells rmX9_find.slots) 11 [(0, .ref a0), (1, .int x1), (2, .int x2), (3, .int x3), (4, .int x4), (5, .int x5)] [] σ 0 0) (a0 : Nat) (x1 : Int32) (x2 : Int32) (x3 : Int32) (x4 : Int32) (x5 : Int32) (x6 : Int32) (σ : mm_M) (hf : fX9_find_67 k11 a0 x1 x2 x3 x4 x5 x6 σ = some R) : mm_J cd_Y G RX9 cX9_find 7 (some .int) ini rmX9_find A (mm_QF cd_Y G A (mm_Pi R.1 R.2) rmX9_find.cells rmX9_find.slots) 67 [(0, .ref a0), (1, .int x1), (2, .int x2), (3, .int x3), (4, .int x4), (5, .int x5), (6, .int x6)] [] σ 0 0 := by
  unfold fX9_find_67 at hf
  refine mm_iload (j := 5) dX9_find_67 rfl ?_
  refine mm_goto (tgt := 74) dX9_find_69 (by decide) ?_
  refine mm_istore (L' := [(4, .int x5), (0, .ref a0), (1, .int x1), (2, .int x2), (3, .int x3), (5, .int x5), (6, .int x6)]) dX9_find_74 (by decide) rfl ?_
  refine mm_iinc (j := 5) (L' := [(5, .int (x5 + 1)), (4, .int x5), (0, .ref a0), (1, .int x1), (2, .int x2), (3, .int x3), (6, .int x6)]) dX9_find_76 rfl rfl (by decide) rfl ?_
  refine mm_goto (tgt := 11) dX9_find_79 (by decide) ?_
  refine mm_sub [2, 3, 4, 5, 1, 0] rfl ?_
  exact hk11 a0 x1 x2 x3 x5 (x5 + 1) σ hf
set_option maxHeartbeats 4000000 in
set_option maxRecDepth 100000 in
theorem kX9_find_11 {G : mm_G} {A : Nat → Prop} {ini : Bool × Option (List (Nat × Nat × Nat × Nat))}  {R : (Int32 × mm_M)}  : ∀ (a0 : Nat) (x1 : Int32) (x2 : Int32) (x3 : Int32) (x4 : Int32) (x5 : Int32) (σ : mm_M), fX9_find_11  mm_fuel a0 x1 x2 x3 x4 x5 σ = some R → mm_J cd_Y G RX9 cX9_find 7 (some .int) ini rmX9_find A (mm_QF cd_Y G A (mm_Pi R.1 R.2) rmX9_find.cells rmX9_find.slots) 11 [(0, .ref a0), (1, .int x1), (2, .int x2), (3, .int x3), (4, .int x4), (5, .int x5)] [] σ 0 0 := by
  generalize mm_fuel = n
  induction n with
  | zero => intro a0 x1 x2 x3 x4 x5 σ hf; cases hf
  | succ n ih =>
    intro a0 x1 x2 x3 x4 x5 σ hf
    unfold fX9_find_11 at hf
    refine mm_iload (j := 5) dX9_find_11 rfl ?_
    refine mm_aload_n (j := 0) dX9_find_13 rfl rfl ?_
    obtain ⟨hs3, hf⟩ := mm_sh_s hf
    refine mm_get (c := 9) (k := 14) (v := .int (mm_I σ a0 14)) cd_ok ⟨_, _, _, rfl, by decide, Or.inl tw_808⟩ hs3 rfl dX9_find_14 ?_
    refine mm_icmp_ge (tgt := 82) dX9_find_17 (by decide) (fun c4 => ?_) (fun c4 => ?_)
    · rw [if_pos c4] at hf
      refine mm_iload (j := 4) dX9_find_82 rfl ?_
      cases hf
      refine mm_widen (ck' := rmX9_find.cells) (sk' := rmX9_find.slots) (Nat.le_of_ble_eq_true rfl) (Nat.le_of_ble_eq_true rfl) ?_
      exact mm_iret rfl rfl dX9_find_84 ⟨rfl, rfl⟩
    · rw [if_neg c4] at hf
      refine mm_aload_n (j := 0) dX9_find_20 rfl rfl ?_
      refine mm_get (c := 9) (k := 15) (v := va_rf (mm_R σ a0 15)) cd_ok ⟨_, _, _, rfl, by decide, Or.inl tw_809⟩ hs3 rfl dX9_find_21 ?_
      refine mm_iload (j := 5) dX9_find_24 rfl ?_
      obtain ⟨q5, hq5, hf⟩ := mm_on_s hf
      rw [hq5, mm_rf_some]
      obtain ⟨n6, hn6, hf⟩ := mm_ar_s hf
      obtain ⟨hi7, hf⟩ := mm_ib_s hf
      refine mm_iald hn6 rfl hi7 dX9_find_26 ?_
      refine mm_istore (L' := [(6, .int (mm_I σ q5 x5.toNatClampNeg)), (0, .ref a0), (1, .int x1), (2, .int x2), (3, .int x3), (4, .int x4), (5, .int x5)]) dX9_find_27 (by decide) rfl ?_
      refine mm_aload_n (j := 1) dX9_find_29 rfl rfl ?_
      refine mm_get (c := 9) (k := 17) (v := va_rf (mm_R σ a0 17)) cd_ok ⟨_, _, _, rfl, by decide, Or.inl tw_811⟩ hs3 rfl dX9_find_30 ?_
      refine mm_iload (j := 0) dX9_find_33 rfl ?_
      obtain ⟨q8, hq8, hf⟩ := mm_on_s hf
      rw [hq8, mm_rf_some]
      obtain ⟨n9, hn9, hf⟩ := mm_ar_s hf
      obtain ⟨hi10, hf⟩ := mm_ib_s hf
      refine mm_iald hn9 rfl hi10 dX9_find_35 ?_
      refine mm_iload_n (j := 2) dX9_find_36 rfl rfl ?_
      refine mm_icmp_ne (tgt := 72) dX9_find_37 (by decide) (fun c11 => ?_) (fun c11 => ?_)
      · rw [if_neg c11] at hf
        refine mm_iload (j := 5) dX9_find_72 rfl ?_
        refine mm_istore (L' := [(4, .int x4), (6, .int (mm_I σ q5 x5.toNatClampNeg)), (0, .ref a0), (1, .int x1), (2, .int x2), (3, .int x3), (5, .int x5)]) dX9_find_74 (by decide) rfl ?_
        refine mm_iinc (j := 6) (L' := [(5, .int (x5 + 1)), (4, .int x4), (6, .int (mm_I σ q5 x5.toNatClampNeg)), (0, .ref a0), (1, .int x1), (2, .int x2), (3, .int x3)]) dX9_find_76 rfl rfl (by decide) rfl ?_
        refine mm_goto (tgt := 11) dX9_find_79 (by decide) ?_
        refine mm_sub [3, 4, 5, 6, 1, 0] rfl ?_
        exact ih a0 x1 x2 x3 x4 (x5 + 1) σ hf
      · rw [if_pos c11] at hf
        refine mm_aload_n (j := 1) dX9_find_40 rfl rfl ?_
        refine mm_get (c := 9) (k := 18) (v := va_rf (mm_R σ a0 18)) cd_ok ⟨_, _, _, rfl, by decide, Or.inl tw_812⟩ hs3 rfl dX9_find_41 ?_
        refine mm_iload (j := 0) dX9_find_44 rfl ?_
        obtain ⟨q12, hq12, hf⟩ := mm_on_s hf
        rw [hq12, mm_rf_some]
        obtain ⟨n13, hn13, hf⟩ := mm_ar_s hf
        obtain ⟨hi14, hf⟩ := mm_ib_s hf
        refine mm_iald hn13 rfl hi14 dX9_find_46 ?_
        refine mm_iload_n (j := 3) dX9_find_47 rfl rfl ?_
        refine mm_icmp_ne (tgt := 72) dX9_find_48 (by decide) (fun c15 => ?_) (fun c15 => ?_)
        · rw [if_neg c15] at hf
          refine mm_iload (j := 5) dX9_find_72 rfl ?_
          refine mm_istore (L' := [(4, .int x4), (6, .int (mm_I σ q5 x5.toNatClampNeg)), (0, .ref a0), (1, .int x1), (2, .int x2), (3, .int x3), (5, .int x5)]) dX9_find_74 (by decide) rfl ?_
          refine mm_iinc (j := 6) (L' := [(5, .int (x5 + 1)), (4, .int x4), (6, .int (mm_I σ q5 x5.toNatClampNeg)), (0, .ref a0), (1, .int x1), (2, .int x2), (3, .int x3)]) dX9_find_76 rfl rfl (by decide) rfl ?_
          refine mm_goto (tgt := 11) dX9_find_79 (by decide) ?_
          refine mm_sub [3, 4, 5, 6, 1, 0] rfl ?_
          exact ih a0 x1 x2 x3 x4 (x5 + 1) σ hf
        · rw [if_pos c15] at hf
          refine mm_iload_n (j := 4) dX9_find_51 rfl rfl ?_
          refine mm_iconst (v := (-1)) dX9_find_52 (by decide) ?_
          refine mm_icmp_eq (tgt := 67) dX9_find_53 (by decide) (fun c16 => ?_) (fun c16 => ?_)
          · rw [if_pos c16] at hf
            refine mm_sub [1, 2, 3, 4, 5, 6, 0] rfl ?_
            exact kX9_find_67 ih a0 x1 x2 x3 x4 x5 (mm_I σ q5 x5.toNatClampNeg) σ hf
          · rw [if_neg c16] at hf
            refine mm_aload_n (j := 1) dX9_find_56 rfl rfl ?_
            refine mm_get (c := 9) (k := 19) (v := va_rf (mm_R σ a0 19)) cd_ok ⟨_, _, _, rfl, by decide, Or.inl tw_813⟩ hs3 rfl dX9_find_57 ?_
            refine mm_iload (j := 0) dX9_find_60 rfl ?_
            obtain ⟨q17, hq17, hf⟩ := mm_on_s hf
            rw [hq17, mm_rf_some]
            obtain ⟨n18, hn18, hf⟩ := mm_ar_s hf
            obtain ⟨hi19, hf⟩ := mm_ib_s hf
            refine mm_iald hn18 rfl hi19 dX9_find_62 ?_
            refine mm_iload_n (j := 4) dX9_find_63 rfl rfl ?_
            refine mm_icmp_ne (tgt := 72) dX9_find_64 (by decide) (fun c20 => ?_) (fun c20 => ?_)
            · rw [if_neg c20] at hf
              refine mm_iload (j := 5) dX9_find_72 rfl ?_
              refine mm_istore (L' := [(4, .int x4), (6, .int (mm_I σ q5 x5.toNatClampNeg)), (0, .ref a0), (1, .int x1), (2, .int x2), (3, .int x3), (5, .int x5)]) dX9_find_74 (by decide) rfl ?_
              refine mm_iinc (j := 6) (L' := [(5, .int (x5 + 1)), (4, .int x4), (6, .int (mm_I σ q5 x5.toNatClampNeg)), (0, .ref a0), (1, .int x1), (2, .int x2), (3, .int x3)]) dX9_find_76 rfl rfl (by decide) rfl ?_
              refine mm_goto (tgt := 11) dX9_find_79 (by decide) ?_
              refine mm_sub [3, 4, 5, 6, 1, 0] rfl ?_
              exact ih a0 x1 x2 x3 x4 (x5 + 1) σ hf
            · rw [if_pos c20] at hf
              refine mm_sub [1, 2, 3, 4, 5, 6, 0] rfl ?_
              exact kX9_find_67 ih a0 x1 x2 x3 x4 x5 (mm_I σ q5 x5.toNatClampNeg) σ hf
set_option maxHeartbeats 4000000 in
set_option maxRecDepth 100000 in
theorem kX9_find {G : mm_G} {A : Nat → Prop} (p0 : Nat) (p1 : Int32) (p2 : Int32) (p3 : Int32) {σ : mm_M} {R : (Int32 × mm_M)} (hf : fX9_find p0 p1 p2 p3 σ = some R) : mm_C cd_Y G yX9_find cX9_find 7 (some .int) rmX9_find A [.ref p0, .int p1, .int p2, .int p3] σ (mm_Pi R.1 R.2) := by
  refine mm_C.of (by decide) (Nat.le_of_ble_eq_true rfl) ?_
  unfold fX9_find at hf
  have e0 : lv_args 0 [.ref p0, .int p1, .int p2, .int p3] = [(0, .ref p0), (1, .int p1), (2, .int p2), (3, .int p3)] := rfl
  rw [e0]
  generalize hini : ((yX9_find.name == "<init>"), none) = ini
  clear e0
  clear hini
  refine mm_aload_n (j := 0) dX9_find_0 rfl rfl ?_
  refine mm_iconst (v := 0) dX9_find_1 (by decide) ?_
  obtain ⟨hs1, hf⟩ := mm_sh_s hf
  refine mm_putI (c := 9) (k := 0) cd_ok ⟨_, _, _, rfl, by decide, rfl, Or.inl tw_794⟩ hs1 rfl rfl rfl dX9_find_2 ?_
  obtain ⟨s2, hs2, hf⟩ := mm_let_s hf
  rw [hs2]
  refine mm_iconst (v := (-1)) dX9_find_5 (by decide) ?_
  refine mm_istore (L' := [(4, .int (-1)), (0, .ref p0), (1, .int p1), (2, .int p2), (3, .int p3)]) dX9_find_6 (by decide) rfl ?_
  refine mm_iconst (v := 0) dX9_find_8 (by decide) ?_
  refine mm_istore (L' := [(5, .int 0), (4, .int (-1)), (0, .ref p0), (1, .int p1), (2, .int p2), (3, .int p3)]) dX9_find_9 (by decide) rfl ?_
  refine mm_sub [2, 3, 4, 5, 1, 0] rfl ?_
  exact kX9_find_11  p0 p1 p2 p3 (-1) 0 s2 hf
theorem dX9_page_0 : decode cX9_page 0 = .ok (.aload_n 0, 1) := by decide +kernel
theorem dX9_page_1 : decode cX9_page 1 = .ok (.iload_n 1, 1) := by decide +kernel
theorem dX9_page_2 : decode cX9_page 2 = .ok (.iconst 0, 1) := by decide +kernel
theorem dX9_page_3 : decode cX9_page 3 = .ok (.aload_n 0, 1) := by decide +kernel
theorem dX9_page_4 : decode cX9_page 4 = .ok (.getfield 206, 3) := by decide +kernel
theorem dX9_page_7 : decode cX9_page 7 = .ok (.iconst 1, 1) := by decide +kernel
theorem dX9_page_8 : decode cX9_page 8 = .ok (.isub, 1) := by decide +kernel
theorem dX9_page_9 : decode cX9_page 9 = .ok (.invokestatic 153, 3) := by decide +kernel
theorem dX9_page_12 : decode cX9_page 12 = .ok (.ifCond .eq 17, 3) := by decide +kernel
theorem dX9_page_15 : decode cX9_page 15 = .ok (.iload_n 2, 1) := by decide +kernel
theorem dX9_page_16 : decode cX9_page 16 = .ok (.iconst 0, 1) := by decide +kernel
theorem dX9_page_17 : decode cX9_page 17 = .ok (.bipush 6, 2) := by decide +kernel
theorem dX9_page_19 : decode cX9_page 19 = .ok (.invokestatic 153, 3) := by decide +kernel
theorem dX9_page_22 : decode cX9_page 22 = .ok (.ifCond .eq 7, 3) := by decide +kernel
theorem dX9_page_25 : decode cX9_page 25 = .ok (.iconst 1, 1) := by decide +kernel
theorem dX9_page_26 : decode cX9_page 26 = .ok (.goto 4, 3) := by decide +kernel
theorem dX9_page_29 : decode cX9_page 29 = .ok (.iconst 0, 1) := by decide +kernel
theorem dX9_page_30 : decode cX9_page 30 = .ok (.invokevirtual 169, 3) := by decide +kernel
theorem dX9_page_33 : decode cX9_page 33 = .ok (.ifCond .ne 5, 3) := by decide +kernel
theorem dX9_page_36 : decode cX9_page 36 = .ok (.iconst 0, 1) := by decide +kernel
theorem dX9_page_37 : decode cX9_page 37 = .ok (.ireturn, 1) := by decide +kernel
theorem dX9_page_38 : decode cX9_page 38 = .ok (.aload_n 0, 1) := by decide +kernel
theorem dX9_page_39 : decode cX9_page 39 = .ok (.getfield 47, 3) := by decide +kernel
theorem dX9_page_42 : decode cX9_page 42 = .ok (.iload_n 1, 1) := by decide +kernel
theorem dX9_page_43 : decode cX9_page 43 = .ok (.iaload, 1) := by decide +kernel
theorem dX9_page_44 : decode cX9_page 44 = .ok (.istore_n 3, 1) := by decide +kernel
theorem dX9_page_45 : decode cX9_page 45 = .ok (.iload_n 2, 1) := by decide +kernel
theorem dX9_page_46 : decode cX9_page 46 = .ok (.tableswitch 94 0 5 #[38, 45, 52, 59, 66, 87], 38) := by decide +kernel
theorem dX9_page_84 : decode cX9_page 84 = .ok (.aload_n 0, 1) := by decide +kernel
theorem dX9_page_85 : decode cX9_page 85 = .ok (.getfield 54, 3) := by decide +kernel
theorem dX9_page_88 : decode cX9_page 88 = .ok (.iload_n 3, 1) := by decide +kernel
theorem dX9_page_89 : decode cX9_page 89 = .ok (.iaload, 1) := by decide +kernel
theorem dX9_page_90 : decode cX9_page 90 = .ok (.ireturn, 1) := by decide +kernel
theorem dX9_page_91 : decode cX9_page 91 = .ok (.aload_n 0, 1) := by decide +kernel
theorem dX9_page_92 : decode cX9_page 92 = .ok (.getfield 57, 3) := by decide +kernel
theorem dX9_page_95 : decode cX9_page 95 = .ok (.iload_n 3, 1) := by decide +kernel
theorem dX9_page_96 : decode cX9_page 96 = .ok (.iaload, 1) := by decide +kernel
theorem dX9_page_97 : decode cX9_page 97 = .ok (.ireturn, 1) := by decide +kernel
theorem dX9_page_98 : decode cX9_page 98 = .ok (.aload_n 0, 1) := by decide +kernel
theorem dX9_page_99 : decode cX9_page 99 = .ok (.getfield 60, 3) := by decide +kernel
theorem dX9_page_102 : decode cX9_page 102 = .ok (.iload_n 3, 1) := by decide +kernel
theorem dX9_page_103 : decode cX9_page 103 = .ok (.iaload, 1) := by decide +kernel
theorem dX9_page_104 : decode cX9_page 104 = .ok (.ireturn, 1) := by decide +kernel
theorem dX9_page_105 : decode cX9_page 105 = .ok (.aload_n 0, 1) := by decide +kernel
theorem dX9_page_106 : decode cX9_page 106 = .ok (.getfield 63, 3) := by decide +kernel
theorem dX9_page_109 : decode cX9_page 109 = .ok (.iload_n 3, 1) := by decide +kernel
theorem dX9_page_110 : decode cX9_page 110 = .ok (.iaload, 1) := by decide +kernel
theorem dX9_page_111 : decode cX9_page 111 = .ok (.ireturn, 1) := by decide +kernel
theorem dX9_page_112 : decode cX9_page 112 = .ok (.aload_n 0, 1) := by decide +kernel
theorem dX9_page_113 : decode cX9_page 113 = .ok (.getfield 84, 3) := by decide +kernel
theorem dX9_page_116 : decode cX9_page 116 = .ok (.aload_n 0, 1) := by decide +kernel
theorem dX9_page_117 : decode cX9_page 117 = .ok (.getfield 54, 3) := by decide +kernel
theorem dX9_page_120 : decode cX9_page 120 = .ok (.iload_n 3, 1) := by decide +kernel
theorem dX9_page_121 : decode cX9_page 121 = .ok (.iaload, 1) := by decide +kernel
theorem dX9_page_122 : decode cX9_page 122 = .ok (.iaload, 1) := by decide +kernel
theorem dX9_page_123 : decode cX9_page 123 = .ok (.iload_n 3, 1) := by decide +kernel
theorem dX9_page_124 : decode cX9_page 124 = .ok (.if_icmp .ne 7, 3) := by decide +kernel
theorem dX9_page_127 : decode cX9_page 127 = .ok (.iconst 1, 1) := by decide +kernel
theorem dX9_page_128 : decode cX9_page 128 = .ok (.goto 4, 3) := by decide +kernel
theorem dX9_page_131 : decode cX9_page 131 = .ok (.iconst 0, 1) := by decide +kernel
theorem dX9_page_132 : decode cX9_page 132 = .ok (.ireturn, 1) := by decide +kernel
theorem dX9_page_133 : decode cX9_page 133 = .ok (.aload_n 0, 1) := by decide +kernel
theorem dX9_page_134 : decode cX9_page 134 = .ok (.getfield 66, 3) := by decide +kernel
theorem dX9_page_137 : decode cX9_page 137 = .ok (.iload_n 3, 1) := by decide +kernel
theorem dX9_page_138 : decode cX9_page 138 = .ok (.iaload, 1) := by decide +kernel
theorem dX9_page_139 : decode cX9_page 139 = .ok (.ireturn, 1) := by decide +kernel
theorem dX9_page_140 : decode cX9_page 140 = .ok (.aload_n 0, 1) := by decide +kernel
theorem dX9_page_141 : decode cX9_page 141 = .ok (.getfield 69, 3) := by decide +kernel
theorem dX9_page_144 : decode cX9_page 144 = .ok (.iload_n 3, 1) := by decide +kernel
theorem dX9_page_145 : decode cX9_page 145 = .ok (.iaload, 1) := by decide +kernel
theorem dX9_page_146 : decode cX9_page 146 = .ok (.ireturn, 1) := by decide +kernel
theorem nmX9_page : mm_nm yX9_page 2 := ⟨by decide, by decide, by decide +kernel⟩
theorem cdX9_page : mm_cd cd_Y yX9_page cX9_page 4 (some .int) := ⟨tw_1088, tw_8⟩
abbrev rmX9_page : Room := { frames := 1, cells := 0, slots := 0, locals := 22 }
def fX9_page_30  (a0 : Nat) (x1 : Int32) (x2 : Int32) (y0 : Int32) (y1 : Nat) (σ : mm_M) : Option (Int32 × mm_M) :=
  mm_sh σ y1 (.inl 9) (mm_on (fX9_goes y1 y0 σ) fun q4 => (if q4.1 = 0 then some (0, q4.2) else mm_sh q4.2 a0 (.inl 9) (mm_on (mm_R q4.2 a0 15) fun q7 => mm_ar q4.2 q7 0 fun n8 => mm_ib x1 n8 ((if x2 = 0 then mm_on (mm_R q4.2 a0 17) fun q11 => mm_ar q4.2 q11 0 fun n12 => mm_ib (mm_I q4.2 q7 x1.toNatClampNeg) n12 (some (mm_I q4.2 q11 (mm_I q4.2 q7 x1.toNatClampNeg).toNatClampNeg, q4.2)) else (if x2 = 1 then mm_on (mm_R q4.2 a0 18) fun q15 => mm_ar q4.2 q15 0 fun n16 => mm_ib (mm_I q4.2 q7 x1.toNatClampNeg) n16 (some (mm_I q4.2 q15 (mm_I q4.2 q7 x1.toNatClampNeg).toNatClampNeg, q4.2)) else (if x2 = 2 then mm_on (mm_R q4.2 a0 19) fun q19 => mm_ar q4.2 q19 0 fun n20 => mm_ib (mm_I q4.2 q7 x1.toNatClampNeg) n20 (some (mm_I q4.2 q19 (mm_I q4.2 q7 x1.toNatClampNeg).toNatClampNeg, q4.2)) else (if x2 = 3 then mm_on (mm_R q4.2 a0 20) fun q23 => mm_ar q4.2 q23 0 fun n24 => mm_ib (mm_I q4.2 q7 x1.toNatClampNeg) n24 (some (mm_I q4.2 q23 (mm_I q4.2 q7 x1.toNatClampNeg).toNatClampNeg, q4.2)) else (if x2 = 4 then mm_on (mm_R q4.2 a0 17) fun q27 => mm_ar q4.2 q27 0 fun n28 => mm_ib (mm_I q4.2 q7 x1.toNatClampNeg) n28 (mm_on (mm_R q4.2 a0 27) fun q30 => mm_ar q4.2 q30 0 fun n31 => mm_ib (mm_I q4.2 q27 (mm_I q4.2 q7 x1.toNatClampNeg).toNatClampNeg) n31 ((if (mm_I q4.2 q30 (mm_I q4.2 q27 (mm_I q4.2 q7 x1.toNatClampNeg).toNatClampNeg).toNatClampNeg) = (mm_I q4.2 q7 x1.toNatClampNeg) then some (1, q4.2) else some (0, q4.2)))) else (if x2 = 5 then mm_on (mm_R q4.2 a0 21) fun q35 => mm_ar q4.2 q35 0 fun n36 => mm_ib (mm_I q4.2 q7 x1.toNatClampNeg) n36 (some (mm_I q4.2 q35 (mm_I q4.2 q7 x1.toNatClampNeg).toNatClampNeg, q4.2)) else mm_on (mm_R q4.2 a0 22) fun q38 => mm_ar q4.2 q38 0 fun n39 => mm_ib (mm_I q4.2 q7 x1.toNatClampNeg) n39 (some (mm_I q4.2 q38 (mm_I q4.2 q7 x1.toNatClampNeg).toNatClampNeg, q4.2))))))))))))
def fX9_page_29  (a0 : Nat) (x1 : Int32) (x2 : Int32) (y0 : Nat) (σ : mm_M) : Option (Int32 × mm_M) :=
  (fX9_page_30  a0 x1 x2 0 y0 σ)
def fX9_page (p0 : Nat) (p1 : Int32) (p2 : Int32) (σ : mm_M) : Option (Int32 × mm_M) :=
  mm_sh σ p0 (.inl 9) ((if (fX9_in p1 0 ((mm_I σ p0 14) - 1)) = 0 then (fX9_page_29  p0 p1 p2 p0 σ) else (if (fX9_in p2 0 6) = 0 then (fX9_page_29  p0 p1 p2 p0 σ) else (fX9_page_30  p0 p1 p2 1 p0 σ))))
set_option maxHeartbeats 4000000 in
set_option maxRecDepth 100000 in
theorem kX9_page_30 {G : mm_G} {A : Nat → Prop} {ini : Bool × Option (List (Nat × Nat × Nat × Nat))}  {R : (Int32 × mm_M)}  (a0 : Nat) (x1 : Int32) (x2 : Int32) (y0 : Int32) (y1 : Nat) (σ : mm_M) (hf : fX9_page_30  a0 x1 x2 y0 y1 σ = some R) : mm_J cd_Y G RX9 cX9_page 4 (some .int) ini rmX9_page A (mm_QF cd_Y G A (mm_Pi R.1 R.2) rmX9_page.cells rmX9_page.slots) 30 [(0, .ref a0), (1, .int x1), (2, .int x2)] [.int y0, .ref y1] σ 0 0 := by
  unfold fX9_page_30 at hf
  obtain ⟨hs3, hf⟩ := mm_sh_s hf
  obtain ⟨q4, hq4, hf⟩ := mm_on_s hf
  refine mm_callVi cd_ok (kX9_goes y1 y0 hq4) hs3 rfl (Or.inl tw_944) cdX9_goes tw_946 ts_31 nmX9_goes rfl rfl (by simp only [List.map_cons, List.map_nil, mm_rf_cat]; exact Nat.le_of_ble_eq_true rfl) dX9_page_30 ⟨Nat.le_of_ble_eq_true rfl, Nat.le_of_ble_eq_true rfl⟩ ⟨Nat.le_of_ble_eq_true rfl, Nat.le_of_ble_eq_true rfl⟩ ?_
  refine mm_if_ne (tgt := 38) dX9_page_33 (by decide) (fun c5 => ?_) (fun c5 => ?_)
  · rw [if_neg c5] at hf
    refine mm_aload_n (j := 0) dX9_page_38 rfl rfl ?_
    obtain ⟨hs6, hf⟩ := mm_sh_s hf
    refine mm_get (c := 9) (k := 15) (v := va_rf (mm_R q4.2 a0 15)) cd_ok ⟨_, _, _, rfl, by decide, Or.inl tw_809⟩ hs6 rfl dX9_page_39 ?_
    refine mm_iload_n (j := 1) dX9_page_42 rfl rfl ?_
    obtain ⟨q7, hq7, hf⟩ := mm_on_s hf
    rw [hq7, mm_rf_some]
    obtain ⟨n8, hn8, hf⟩ := mm_ar_s hf
    obtain ⟨hi9, hf⟩ := mm_ib_s hf
    refine mm_iald hn8 rfl hi9 dX9_page_43 ?_
    refine mm_istore_n (L' := [(3, .int (mm_I q4.2 q7 x1.toNatClampNeg)), (0, .ref a0), (1, .int x1), (2, .int x2)]) dX9_page_44 rfl (by decide) rfl ?_
    refine mm_iload_n (j := 3) dX9_page_45 rfl rfl ?_
    by_cases c10 : x2 = 0
    · rw [if_pos c10] at hf
      refine mm_tableEq (off := 38) (tgt := 84) dX9_page_46 c10 (by decide) (by decide) (by decide) (by decide) ?_
      refine mm_aload_n (j := 1) dX9_page_84 rfl rfl ?_
      refine mm_get (c := 9) (k := 17) (v := va_rf (mm_R q4.2 a0 17)) cd_ok ⟨_, _, _, rfl, by decide, Or.inl tw_811⟩ hs6 rfl dX9_page_85 ?_
      refine mm_iload_n (j := 0) dX9_page_88 rfl rfl ?_
      obtain ⟨q11, hq11, hf⟩ := mm_on_s hf
      rw [hq11, mm_rf_some]
      obtain ⟨n12, hn12, hf⟩ := mm_ar_s hf
      obtain ⟨hi13, hf⟩ := mm_ib_s hf
      refine mm_iald hn12 rfl hi13 dX9_page_89 ?_
      cases hf
      refine mm_widen (ck' := rmX9_page.cells) (sk' := rmX9_page.slots) (Nat.le_of_ble_eq_true rfl) (Nat.le_of_ble_eq_true rfl) ?_
      exact mm_iret rfl rfl dX9_page_90 ⟨rfl, rfl⟩
    rw [if_neg c10] at hf
    by_cases c14 : x2 = 1
    · rw [if_pos c14] at hf
      refine mm_tableEq (off := 45) (tgt := 91) dX9_page_46 c14 (by decide) (by decide) (by decide) (by decide) ?_
      refine mm_aload_n (j := 1) dX9_page_91 rfl rfl ?_
      refine mm_get (c := 9) (k := 18) (v := va_rf (mm_R q4.2 a0 18)) cd_ok ⟨_, _, _, rfl, by decide, Or.inl tw_812⟩ hs6 rfl dX9_page_92 ?_
      refine mm_iload_n (j := 0) dX9_page_95 rfl rfl ?_
      obtain ⟨q15, hq15, hf⟩ := mm_on_s hf
      rw [hq15, mm_rf_some]
      obtain ⟨n16, hn16, hf⟩ := mm_ar_s hf
      obtain ⟨hi17, hf⟩ := mm_ib_s hf
      refine mm_iald hn16 rfl hi17 dX9_page_96 ?_
      cases hf
      refine mm_widen (ck' := rmX9_page.cells) (sk' := rmX9_page.slots) (Nat.le_of_ble_eq_true rfl) (Nat.le_of_ble_eq_true rfl) ?_
      exact mm_iret rfl rfl dX9_page_97 ⟨rfl, rfl⟩
    rw [if_neg c14] at hf
    by_cases c18 : x2 = 2
    · rw [if_pos c18] at hf
      refine mm_tableEq (off := 52) (tgt := 98) dX9_page_46 c18 (by decide) (by decide) (by decide) (by decide) ?_
      refine mm_aload_n (j := 1) dX9_page_98 rfl rfl ?_
      refine mm_get (c := 9) (k := 19) (v := va_rf (mm_R q4.2 a0 19)) cd_ok ⟨_, _, _, rfl, by decide, Or.inl tw_813⟩ hs6 rfl dX9_page_99 ?_
      refine mm_iload_n (j := 0) dX9_page_102 rfl rfl ?_
      obtain ⟨q19, hq19, hf⟩ := mm_on_s hf
      rw [hq19, mm_rf_some]
      obtain ⟨n20, hn20, hf⟩ := mm_ar_s hf
      obtain ⟨hi21, hf⟩ := mm_ib_s hf
      refine mm_iald hn20 rfl hi21 dX9_page_103 ?_
      cases hf
      refine mm_widen (ck' := rmX9_page.cells) (sk' := rmX9_page.slots) (Nat.le_of_ble_eq_true rfl) (Nat.le_of_ble_eq_true rfl) ?_
      exact mm_iret rfl rfl dX9_page_104 ⟨rfl, rfl⟩
    rw [if_neg c18] at hf
    by_cases c22 : x2 = 3
    · rw [if_pos c22] at hf
      refine mm_tableEq (off := 59) (tgt := 105) dX9_page_46 c22 (by decide) (by decide) (by decide) (by decide) ?_
      refine mm_aload_n (j := 1) dX9_page_105 rfl rfl ?_
      refine mm_get (c := 9) (k := 20) (v := va_rf (mm_R q4.2 a0 20)) cd_ok ⟨_, _, _, rfl, by decide, Or.inl tw_814⟩ hs6 rfl dX9_page_106 ?_
      refine mm_iload_n (j := 0) dX9_page_109 rfl rfl ?_
      obtain ⟨q23, hq23, hf⟩ := mm_on_s hf
      rw [hq23, mm_rf_some]
      obtain ⟨n24, hn24, hf⟩ := mm_ar_s hf
      obtain ⟨hi25, hf⟩ := mm_ib_s hf
      refine mm_iald hn24 rfl hi25 dX9_page_110 ?_
      cases hf
      refine mm_widen (ck' := rmX9_page.cells) (sk' := rmX9_page.slots) (Nat.le_of_ble_eq_true rfl) (Nat.le_of_ble_eq_true rfl) ?_
      exact mm_iret rfl rfl dX9_page_111 ⟨rfl, rfl⟩
    rw [if_neg c22] at hf
    by_cases c26 : x2 = 4
    · rw [if_pos c26] at hf
      refine mm_tableEq (off := 66) (tgt := 112) dX9_page_46 c26 (by decide) (by decide) (by decide) (by decide) ?_
      refine mm_aload_n (j := 1) dX9_page_112 rfl rfl ?_
      refine mm_get (c := 9) (k := 27) (v := va_rf (mm_R q4.2 a0 27)) cd_ok ⟨_, _, _, rfl, by decide, Or.inl tw_821⟩ hs6 rfl dX9_page_113 ?_
      refine mm_aload_n (j := 1) dX9_page_116 rfl rfl ?_
      refine mm_get (c := 9) (k := 17) (v := va_rf (mm_R q4.2 a0 17)) cd_ok ⟨_, _, _, rfl, by decide, Or.inl tw_811⟩ hs6 rfl dX9_page_117 ?_
      refine mm_iload_n (j := 0) dX9_page_120 rfl rfl ?_
      obtain ⟨q27, hq27, hf⟩ := mm_on_s hf
      rw [hq27, mm_rf_some]
      obtain ⟨n28, hn28, hf⟩ := mm_ar_s hf
      obtain ⟨hi29, hf⟩ := mm_ib_s hf
      refine mm_iald hn28 rfl hi29 dX9_page_121 ?_
      obtain ⟨q30, hq30, hf⟩ := mm_on_s hf
      rw [hq30, mm_rf_some]
      obtain ⟨n31, hn31, hf⟩ := mm_ar_s hf
      obtain ⟨hi32, hf⟩ := mm_ib_s hf
      refine mm_iald hn31 rfl hi32 dX9_page_122 ?_
      refine mm_iload_n (j := 0) dX9_page_123 rfl rfl ?_
      refine mm_icmp_ne (tgt := 131) dX9_page_124 (by decide) (fun c33 => ?_) (fun c33 => ?_)
      · rw [if_neg c33] at hf
        refine mm_iconst (v := 0) dX9_page_131 (by decide) ?_
        cases hf
        refine mm_widen (ck' := rmX9_page.cells) (sk' := rmX9_page.slots) (Nat.le_of_ble_eq_true rfl) (Nat.le_of_ble_eq_true rfl) ?_
        exact mm_iret rfl rfl dX9_page_132 ⟨rfl, rfl⟩
      · rw [if_pos c33] at hf
        refine mm_iconst (v := 1) dX9_page_127 (by decide) ?_
        refine mm_goto (tgt := 132) dX9_page_128 (by decide) ?_
        cases hf
        refine mm_widen (ck' := rmX9_page.cells) (sk' := rmX9_page.slots) (Nat.le_of_ble_eq_true rfl) (Nat.le_of_ble_eq_true rfl) ?_
        exact mm_iret rfl rfl dX9_page_132 ⟨rfl, rfl⟩
    rw [if_neg c26] at hf
    by_cases c34 : x2 = 5
    · rw [if_pos c34] at hf
      refine mm_tableEq (off := 87) (tgt := 133) dX9_page_46 c34 (by decide) (by decide) (by decide) (by decide) ?_
      refine mm_aload_n (j := 1) dX9_page_133 rfl rfl ?_
      refine mm_get (c := 9) (k := 21) (v := va_rf (mm_R q4.2 a0 21)) cd_ok ⟨_, _, _, rfl, by decide, Or.inl tw_815⟩ hs6 rfl dX9_page_134 ?_
      refine mm_iload_n (j := 0) dX9_page_137 rfl rfl ?_
      obtain ⟨q35, hq35, hf⟩ := mm_on_s hf
      rw [hq35, mm_rf_some]
      obtain ⟨n36, hn36, hf⟩ := mm_ar_s hf
      obtain ⟨hi37, hf⟩ := mm_ib_s hf
      refine mm_iald hn36 rfl hi37 dX9_page_138 ?_
      cases hf
      refine mm_widen (ck' := rmX9_page.cells) (sk' := rmX9_page.slots) (Nat.le_of_ble_eq_true rfl) (Nat.le_of_ble_eq_true rfl) ?_
      exact mm_iret rfl rfl dX9_page_139 ⟨rfl, rfl⟩
    rw [if_neg c34] at hf
    refine mm_tableOut (tgt := 140) dX9_page_46 (by have nc10 := mm_neI (k := 0) (by decide) c10; have nc14 := mm_neI (k := 1) (by decide) c14; have nc18 := mm_neI (k := 2) (by decide) c18; have nc22 := mm_neI (k := 3) (by decide) c22; have nc26 := mm_neI (k := 4) (by decide) c26; have nc34 := mm_neI (k := 5) (by decide) c34; omega) (by decide) ?_
    refine mm_aload_n (j := 1) dX9_page_140 rfl rfl ?_
    refine mm_get (c := 9) (k := 22) (v := va_rf (mm_R q4.2 a0 22)) cd_ok ⟨_, _, _, rfl, by decide, Or.inl tw_816⟩ hs6 rfl dX9_page_141 ?_
    refine mm_iload_n (j := 0) dX9_page_144 rfl rfl ?_
    obtain ⟨q38, hq38, hf⟩ := mm_on_s hf
    rw [hq38, mm_rf_some]
    obtain ⟨n39, hn39, hf⟩ := mm_ar_s hf
    obtain ⟨hi40, hf⟩ := mm_ib_s hf
    refine mm_iald hn39 rfl hi40 dX9_page_145 ?_
    cases hf
    refine mm_widen (ck' := rmX9_page.cells) (sk' := rmX9_page.slots) (Nat.le_of_ble_eq_true rfl) (Nat.le_of_ble_eq_true rfl) ?_
    exact mm_iret rfl rfl dX9_page_146 ⟨rfl, rfl⟩
  · rw [if_pos c5] at hf
    refine mm_iconst (v := 0) dX9_page_36 (by decide) ?_
    cases hf
    refine mm_widen (ck' := rmX9_page.cells) (sk' := rmX9_page.slots) (Nat.le_of_ble_eq_true rfl) (Nat.le_of_ble_eq_true rfl) ?_
    exact mm_iret rfl rfl dX9_page_37 ⟨rfl, rfl⟩
set_option maxHeartbeats 4000000 in
set_option maxRecDepth 100000 in
theorem kX9_page_29 {G : mm_G} {A : Nat → Prop} {ini : Bool × Option (List (Nat × Nat × Nat × Nat))}  {R : (Int32 × mm_M)}  (a0 : Nat) (x1 : Int32) (x2 : Int32) (y0 : Nat) (σ : mm_M) (hf : fX9_page_29  a0 x1 x2 y0 σ = some R) : mm_J cd_Y G RX9 cX9_page 4 (some .int) ini rmX9_page A (mm_QF cd_Y G A (mm_Pi R.1 R.2) rmX9_page.cells rmX9_page.slots) 29 [(0, .ref a0), (1, .int x1), (2, .int x2)] [.ref y0] σ 0 0 := by
  unfold fX9_page_29 at hf
  refine mm_iconst (v := 0) dX9_page_29 (by decide) ?_
  refine mm_sub [0, 1, 2] rfl ?_
  exact kX9_page_30  a0 x1 x2 0 y0 σ hf
set_option maxHeartbeats 4000000 in
set_option maxRecDepth 100000 in
theorem kX9_page {G : mm_G} {A : Nat → Prop} (p0 : Nat) (p1 : Int32) (p2 : Int32) {σ : mm_M} {R : (Int32 × mm_M)} (hf : fX9_page p0 p1 p2 σ = some R) : mm_C cd_Y G yX9_page cX9_page 4 (some .int) rmX9_page A [.ref p0, .int p1, .int p2] σ (mm_Pi R.1 R.2) := by
  refine mm_C.of (by decide) (Nat.le_of_ble_eq_true rfl) ?_
  unfold fX9_page at hf
  have e0 : lv_args 0 [.ref p0, .int p1, .int p2] = [(0, .ref p0), (1, .int p1), (2, .int p2)] := rfl
  rw [e0]
  generalize hini : ((yX9_page.name == "<init>"), none) = ini
  clear e0
  clear hini
  refine mm_aload_n (j := 0) dX9_page_0 rfl rfl ?_
  refine mm_iload_n (j := 1) dX9_page_1 rfl rfl ?_
  refine mm_iconst (v := 0) dX9_page_2 (by decide) ?_
  refine mm_aload_n (j := 0) dX9_page_3 rfl rfl ?_
  obtain ⟨hs1, hf⟩ := mm_sh_s hf
  refine mm_get (c := 9) (k := 14) (v := .int (mm_I σ p0 14)) cd_ok ⟨_, _, _, rfl, by decide, Or.inl tw_808⟩ hs1 rfl dX9_page_4 ?_
  refine mm_iconst (v := 1) dX9_page_7 (by decide) ?_
  refine mm_isub dX9_page_8 ?_
  refine mm_callSi cd_ok (kX9_in p1 0 ((mm_I σ p0 14) - 1) _ rfl) (Or.inl tw_941) cdX9_in tw_942 nmX9_in rfl rfl (by simp only [List.map_cons, List.map_nil, mm_rf_cat]; exact Nat.le_of_ble_eq_true rfl) dX9_page_9 ⟨Nat.le_of_ble_eq_true rfl, Nat.le_of_ble_eq_true rfl⟩ ⟨Nat.le_of_ble_eq_true rfl, Nat.le_of_ble_eq_true rfl⟩ ?_
  refine mm_if_eq (tgt := 29) dX9_page_12 (by decide) (fun c2 => ?_) (fun c2 => ?_)
  · rw [if_pos c2] at hf
    refine mm_sub [0, 1, 2] rfl ?_
    exact kX9_page_29  p0 p1 p2 p0 σ hf
  · rw [if_neg c2] at hf
    refine mm_iload_n (j := 2) dX9_page_15 rfl rfl ?_
    refine mm_iconst (v := 0) dX9_page_16 (by decide) ?_
    refine mm_bipush (v := 6) dX9_page_17 (by decide) ?_
    refine mm_callSi cd_ok (kX9_in p2 0 6 _ rfl) (Or.inl tw_941) cdX9_in tw_942 nmX9_in rfl rfl (by simp only [List.map_cons, List.map_nil, mm_rf_cat]; exact Nat.le_of_ble_eq_true rfl) dX9_page_19 ⟨Nat.le_of_ble_eq_true rfl, Nat.le_of_ble_eq_true rfl⟩ ⟨Nat.le_of_ble_eq_true rfl, Nat.le_of_ble_eq_true rfl⟩ ?_
    refine mm_if_eq (tgt := 29) dX9_page_22 (by decide) (fun c41 => ?_) (fun c41 => ?_)
    · rw [if_pos c41] at hf
      refine mm_sub [0, 1, 2] rfl ?_
      exact kX9_page_29  p0 p1 p2 p0 σ hf
    · rw [if_neg c41] at hf
      refine mm_iconst (v := 1) dX9_page_25 (by decide) ?_
      refine mm_goto (tgt := 30) dX9_page_26 (by decide) ?_
      refine mm_sub [0, 1, 2] rfl ?_
      exact kX9_page_30  p0 p1 p2 1 p0 σ hf
theorem dX9_sign_0 : decode cX9_sign 0 = .ok (.aload_n 0, 1) := by decide +kernel
theorem dX9_sign_1 : decode cX9_sign 1 = .ok (.iload_n 1, 1) := by decide +kernel
theorem dX9_sign_2 : decode cX9_sign 2 = .ok (.iconst 0, 1) := by decide +kernel
theorem dX9_sign_3 : decode cX9_sign 3 = .ok (.aload_n 0, 1) := by decide +kernel
theorem dX9_sign_4 : decode cX9_sign 4 = .ok (.getfield 206, 3) := by decide +kernel
theorem dX9_sign_7 : decode cX9_sign 7 = .ok (.iconst 1, 1) := by decide +kernel
theorem dX9_sign_8 : decode cX9_sign 8 = .ok (.isub, 1) := by decide +kernel
theorem dX9_sign_9 : decode cX9_sign 9 = .ok (.invokestatic 153, 3) := by decide +kernel
theorem dX9_sign_12 : decode cX9_sign 12 = .ok (.ifCond .eq 27, 3) := by decide +kernel
theorem dX9_sign_15 : decode cX9_sign 15 = .ok (.iload_n 2, 1) := by decide +kernel
theorem dX9_sign_16 : decode cX9_sign 16 = .ok (.iconst 0, 1) := by decide +kernel
theorem dX9_sign_17 : decode cX9_sign 17 = .ok (.bipush 24, 2) := by decide +kernel
theorem dX9_sign_19 : decode cX9_sign 19 = .ok (.invokestatic 153, 3) := by decide +kernel
theorem dX9_sign_22 : decode cX9_sign 22 = .ok (.ifCond .eq 17, 3) := by decide +kernel
theorem dX9_sign_25 : decode cX9_sign 25 = .ok (.iload_n 3, 1) := by decide +kernel
theorem dX9_sign_26 : decode cX9_sign 26 = .ok (.iconst 0, 1) := by decide +kernel
theorem dX9_sign_27 : decode cX9_sign 27 = .ok (.bipush 39, 2) := by decide +kernel
theorem dX9_sign_29 : decode cX9_sign 29 = .ok (.invokestatic 153, 3) := by decide +kernel
theorem dX9_sign_32 : decode cX9_sign 32 = .ok (.ifCond .eq 7, 3) := by decide +kernel
theorem dX9_sign_35 : decode cX9_sign 35 = .ok (.iconst 1, 1) := by decide +kernel
theorem dX9_sign_36 : decode cX9_sign 36 = .ok (.goto 4, 3) := by decide +kernel
theorem dX9_sign_39 : decode cX9_sign 39 = .ok (.iconst 0, 1) := by decide +kernel
theorem dX9_sign_40 : decode cX9_sign 40 = .ok (.invokevirtual 169, 3) := by decide +kernel
theorem dX9_sign_43 : decode cX9_sign 43 = .ok (.ifCond .ne 5, 3) := by decide +kernel
theorem dX9_sign_46 : decode cX9_sign 46 = .ok (.iconst 0, 1) := by decide +kernel
theorem dX9_sign_47 : decode cX9_sign 47 = .ok (.ireturn, 1) := by decide +kernel
theorem dX9_sign_48 : decode cX9_sign 48 = .ok (.aload_n 0, 1) := by decide +kernel
theorem dX9_sign_49 : decode cX9_sign 49 = .ok (.getfield 47, 3) := by decide +kernel
theorem dX9_sign_52 : decode cX9_sign 52 = .ok (.iload_n 1, 1) := by decide +kernel
theorem dX9_sign_53 : decode cX9_sign 53 = .ok (.iaload, 1) := by decide +kernel
theorem dX9_sign_54 : decode cX9_sign 54 = .ok (.istore 4, 2) := by decide +kernel
theorem dX9_sign_56 : decode cX9_sign 56 = .ok (.aload_n 0, 1) := by decide +kernel
theorem dX9_sign_57 : decode cX9_sign 57 = .ok (.getfield 75, 3) := by decide +kernel
theorem dX9_sign_60 : decode cX9_sign 60 = .ok (.bipush 25, 2) := by decide +kernel
theorem dX9_sign_62 : decode cX9_sign 62 = .ok (.iload 4, 2) := by decide +kernel
theorem dX9_sign_64 : decode cX9_sign 64 = .ok (.imul, 1) := by decide +kernel
theorem dX9_sign_65 : decode cX9_sign 65 = .ok (.iload_n 2, 1) := by decide +kernel
theorem dX9_sign_66 : decode cX9_sign 66 = .ok (.iadd, 1) := by decide +kernel
theorem dX9_sign_67 : decode cX9_sign 67 = .ok (.baload, 1) := by decide +kernel
theorem dX9_sign_68 : decode cX9_sign 68 = .ok (.ifCond .eq 24, 3) := by decide +kernel
theorem dX9_sign_71 : decode cX9_sign 71 = .ok (.aload_n 0, 1) := by decide +kernel
theorem dX9_sign_72 : decode cX9_sign 72 = .ok (.getfield 72, 3) := by decide +kernel
theorem dX9_sign_75 : decode cX9_sign 75 = .ok (.sipush 1000, 3) := by decide +kernel
theorem dX9_sign_78 : decode cX9_sign 78 = .ok (.iload 4, 2) := by decide +kernel
theorem dX9_sign_80 : decode cX9_sign 80 = .ok (.imul, 1) := by decide +kernel
theorem dX9_sign_81 : decode cX9_sign 81 = .ok (.bipush 40, 2) := by decide +kernel
theorem dX9_sign_83 : decode cX9_sign 83 = .ok (.iload_n 2, 1) := by decide +kernel
theorem dX9_sign_84 : decode cX9_sign 84 = .ok (.imul, 1) := by decide +kernel
theorem dX9_sign_85 : decode cX9_sign 85 = .ok (.iadd, 1) := by decide +kernel
theorem dX9_sign_86 : decode cX9_sign 86 = .ok (.iload_n 3, 1) := by decide +kernel
theorem dX9_sign_87 : decode cX9_sign 87 = .ok (.iadd, 1) := by decide +kernel
theorem dX9_sign_88 : decode cX9_sign 88 = .ok (.baload, 1) := by decide +kernel
theorem dX9_sign_89 : decode cX9_sign 89 = .ok (.goto 4, 3) := by decide +kernel
theorem dX9_sign_92 : decode cX9_sign 92 = .ok (.iconst 0, 1) := by decide +kernel
theorem dX9_sign_93 : decode cX9_sign 93 = .ok (.ireturn, 1) := by decide +kernel
theorem nmX9_sign : mm_nm yX9_sign 3 := ⟨by decide, by decide, by decide +kernel⟩
theorem cdX9_sign : mm_cd cd_Y yX9_sign cX9_sign 5 (some .int) := ⟨tw_1092, tw_8⟩
abbrev rmX9_sign : Room := { frames := 1, cells := 0, slots := 0, locals := 22 }
def fX9_sign_40  (a0 : Nat) (x1 : Int32) (x2 : Int32) (x3 : Int32) (y0 : Int32) (y1 : Nat) (σ : mm_M) : Option (Int32 × mm_M) :=
  mm_sh σ y1 (.inl 9) (mm_on (fX9_goes y1 y0 σ) fun q4 => (if q4.1 = 0 then some (0, q4.2) else mm_sh q4.2 a0 (.inl 9) (mm_on (mm_R q4.2 a0 15) fun q7 => mm_ar q4.2 q7 0 fun n8 => mm_ib x1 n8 (mm_on (mm_R q4.2 a0 24) fun q10 => mm_ar q4.2 q10 1 fun n11 => mm_ib ((25 * (mm_I q4.2 q7 x1.toNatClampNeg)) + x2) n11 ((if (mm_I q4.2 q10 ((25 * (mm_I q4.2 q7 x1.toNatClampNeg)) + x2).toNatClampNeg) = 0 then some (0, q4.2) else mm_on (mm_R q4.2 a0 23) fun q14 => mm_ar q4.2 q14 2 fun n15 => mm_ib (((1000 * (mm_I q4.2 q7 x1.toNatClampNeg)) + (40 * x2)) + x3) n15 (some (mm_I q4.2 q14 (((1000 * (mm_I q4.2 q7 x1.toNatClampNeg)) + (40 * x2)) + x3).toNatClampNeg, q4.2))))))))
def fX9_sign_39  (a0 : Nat) (x1 : Int32) (x2 : Int32) (x3 : Int32) (y0 : Nat) (σ : mm_M) : Option (Int32 × mm_M) :=
  (fX9_sign_40  a0 x1 x2 x3 0 y0 σ)
def fX9_sign (p0 : Nat) (p1 : Int32) (p2 : Int32) (p3 : Int32) (σ : mm_M) : Option (Int32 × mm_M) :=
  mm_sh σ p0 (.inl 9) ((if (fX9_in p1 0 ((mm_I σ p0 14) - 1)) = 0 then (fX9_sign_39  p0 p1 p2 p3 p0 σ) else (if (fX9_in p2 0 24) = 0 then (fX9_sign_39  p0 p1 p2 p3 p0 σ) else (if (fX9_in p3 0 39) = 0 then (fX9_sign_39  p0 p1 p2 p3 p0 σ) else (fX9_sign_40  p0 p1 p2 p3 1 p0 σ)))))
set_option maxHeartbeats 4000000 in
set_option maxRecDepth 100000 in
theorem kX9_sign_40 {G : mm_G} {A : Nat → Prop} {ini : Bool × Option (List (Nat × Nat × Nat × Nat))}  {R : (Int32 × mm_M)}  (a0 : Nat) (x1 : Int32) (x2 : Int32) (x3 : Int32) (y0 : Int32) (y1 : Nat) (σ : mm_M) (hf : fX9_sign_40  a0 x1 x2 x3 y0 y1 σ = some R) : mm_J cd_Y G RX9 cX9_sign 5 (some .int) ini rmX9_sign A (mm_QF cd_Y G A (mm_Pi R.1 R.2) rmX9_sign.cells rmX9_sign.slots) 40 [(0, .ref a0), (1, .int x1), (2, .int x2), (3, .int x3)] [.int y0, .ref y1] σ 0 0 := by
  unfold fX9_sign_40 at hf
  obtain ⟨hs3, hf⟩ := mm_sh_s hf
  obtain ⟨q4, hq4, hf⟩ := mm_on_s hf
  refine mm_callVi cd_ok (kX9_goes y1 y0 hq4) hs3 rfl (Or.inl tw_944) cdX9_goes tw_946 ts_31 nmX9_goes rfl rfl (by simp only [List.map_cons, List.map_nil, mm_rf_cat]; exact Nat.le_of_ble_eq_true rfl) dX9_sign_40 ⟨Nat.le_of_ble_eq_true rfl, Nat.le_of_ble_eq_true rfl⟩ ⟨Nat.le_of_ble_eq_true rfl, Nat.le_of_ble_eq_true rfl⟩ ?_
  refine mm_if_ne (tgt := 48) dX9_sign_43 (by decide) (fun c5 => ?_) (fun c5 => ?_)
  · rw [if_neg c5] at hf
    refine mm_aload_n (j := 0) dX9_sign_48 rfl rfl ?_
    obtain ⟨hs6, hf⟩ := mm_sh_s hf
    refine mm_get (c := 9) (k := 15) (v := va_rf (mm_R q4.2 a0 15)) cd_ok ⟨_, _, _, rfl, by decide, Or.inl tw_809⟩ hs6 rfl dX9_sign_49 ?_
    refine mm_iload_n (j := 1) dX9_sign_52 rfl rfl ?_
    obtain ⟨q7, hq7, hf⟩ := mm_on_s hf
    rw [hq7, mm_rf_some]
    obtain ⟨n8, hn8, hf⟩ := mm_ar_s hf
    obtain ⟨hi9, hf⟩ := mm_ib_s hf
    refine mm_iald hn8 rfl hi9 dX9_sign_53 ?_
    refine mm_istore (L' := [(4, .int (mm_I q4.2 q7 x1.toNatClampNeg)), (0, .ref a0), (1, .int x1), (2, .int x2), (3, .int x3)]) dX9_sign_54 (by decide) rfl ?_
    refine mm_aload_n (j := 1) dX9_sign_56 rfl rfl ?_
    refine mm_get (c := 9) (k := 24) (v := va_rf (mm_R q4.2 a0 24)) cd_ok ⟨_, _, _, rfl, by decide, Or.inl tw_818⟩ hs6 rfl dX9_sign_57 ?_
    refine mm_bipush (v := 25) dX9_sign_60 (by decide) ?_
    refine mm_iload (j := 0) dX9_sign_62 rfl ?_
    refine mm_imul dX9_sign_64 ?_
    refine mm_iload_n (j := 3) dX9_sign_65 rfl rfl ?_
    refine mm_iadd dX9_sign_66 ?_
    obtain ⟨q10, hq10, hf⟩ := mm_on_s hf
    rw [hq10, mm_rf_some]
    obtain ⟨n11, hn11, hf⟩ := mm_ar_s hf
    obtain ⟨hi12, hf⟩ := mm_ib_s hf
    refine mm_zald hn11 rfl hi12 dX9_sign_67 ?_
    refine mm_if_eq (tgt := 92) dX9_sign_68 (by decide) (fun c13 => ?_) (fun c13 => ?_)
    · rw [if_pos c13] at hf
      refine mm_iconst (v := 0) dX9_sign_92 (by decide) ?_
      cases hf
      refine mm_widen (ck' := rmX9_sign.cells) (sk' := rmX9_sign.slots) (Nat.le_of_ble_eq_true rfl) (Nat.le_of_ble_eq_true rfl) ?_
      exact mm_iret rfl rfl dX9_sign_93 ⟨rfl, rfl⟩
    · rw [if_neg c13] at hf
      refine mm_aload_n (j := 1) dX9_sign_71 rfl rfl ?_
      refine mm_get (c := 9) (k := 23) (v := va_rf (mm_R q4.2 a0 23)) cd_ok ⟨_, _, _, rfl, by decide, Or.inl tw_817⟩ hs6 rfl dX9_sign_72 ?_
      refine mm_sipush (v := 1000) dX9_sign_75 (by decide) ?_
      refine mm_iload (j := 0) dX9_sign_78 rfl ?_
      refine mm_imul dX9_sign_80 ?_
      refine mm_bipush (v := 40) dX9_sign_81 (by decide) ?_
      refine mm_iload_n (j := 3) dX9_sign_83 rfl rfl ?_
      refine mm_imul dX9_sign_84 ?_
      refine mm_iadd dX9_sign_85 ?_
      refine mm_iload_n (j := 4) dX9_sign_86 rfl rfl ?_
      refine mm_iadd dX9_sign_87 ?_
      obtain ⟨q14, hq14, hf⟩ := mm_on_s hf
      rw [hq14, mm_rf_some]
      obtain ⟨n15, hn15, hf⟩ := mm_ar_s hf
      obtain ⟨hi16, hf⟩ := mm_ib_s hf
      refine mm_bald hn15 rfl hi16 dX9_sign_88 ?_
      refine mm_goto (tgt := 93) dX9_sign_89 (by decide) ?_
      cases hf
      refine mm_widen (ck' := rmX9_sign.cells) (sk' := rmX9_sign.slots) (Nat.le_of_ble_eq_true rfl) (Nat.le_of_ble_eq_true rfl) ?_
      exact mm_iret rfl rfl dX9_sign_93 ⟨rfl, rfl⟩
  · rw [if_pos c5] at hf
    refine mm_iconst (v := 0) dX9_sign_46 (by decide) ?_
    cases hf
    refine mm_widen (ck' := rmX9_sign.cells) (sk' := rmX9_sign.slots) (Nat.le_of_ble_eq_true rfl) (Nat.le_of_ble_eq_true rfl) ?_
    exact mm_iret rfl rfl dX9_sign_47 ⟨rfl, rfl⟩
set_option maxHeartbeats 4000000 in
set_option maxRecDepth 100000 in
theorem kX9_sign_39 {G : mm_G} {A : Nat → Prop} {ini : Bool × Option (List (Nat × Nat × Nat × Nat))}  {R : (Int32 × mm_M)}  (a0 : Nat) (x1 : Int32) (x2 : Int32) (x3 : Int32) (y0 : Nat) (σ : mm_M) (hf : fX9_sign_39  a0 x1 x2 x3 y0 σ = some R) : mm_J cd_Y G RX9 cX9_sign 5 (some .int) ini rmX9_sign A (mm_QF cd_Y G A (mm_Pi R.1 R.2) rmX9_sign.cells rmX9_sign.slots) 39 [(0, .ref a0), (1, .int x1), (2, .int x2), (3, .int x3)] [.ref y0] σ 0 0 := by
  unfold fX9_sign_39 at hf
  refine mm_iconst (v := 0) dX9_sign_39 (by decide) ?_
  refine mm_sub [0, 1, 2, 3] rfl ?_
  exact kX9_sign_40  a0 x1 x2 x3 0 y0 σ hf
set_option maxHeartbeats 4000000 in
set_option maxRecDepth 100000 in
theorem kX9_sign {G : mm_G} {A : Nat → Prop} (p0 : Nat) (p1 : Int32) (p2 : Int32) (p3 : Int32) {σ : mm_M} {R : (Int32 × mm_M)} (hf : fX9_sign p0 p1 p2 p3 σ = some R) : mm_C cd_Y G yX9_sign cX9_sign 5 (some .int) rmX9_sign A [.ref p0, .int p1, .int p2, .int p3] σ (mm_Pi R.1 R.2) := by
  refine mm_C.of (by decide) (Nat.le_of_ble_eq_true rfl) ?_
  unfold fX9_sign at hf
  have e0 : lv_args 0 [.ref p0, .int p1, .int p2, .int p3] = [(0, .ref p0), (1, .int p1), (2, .int p2), (3, .int p3)] := rfl
  rw [e0]
  generalize hini : ((yX9_sign.name == "<init>"), none) = ini
  clear e0
  clear hini
  refine mm_aload_n (j := 0) dX9_sign_0 rfl rfl ?_
  refine mm_iload_n (j := 1) dX9_sign_1 rfl rfl ?_
  refine mm_iconst (v := 0) dX9_sign_2 (by decide) ?_
  refine mm_aload_n (j := 0) dX9_sign_3 rfl rfl ?_
  obtain ⟨hs1, hf⟩ := mm_sh_s hf
  refine mm_get (c := 9) (k := 14) (v := .int (mm_I σ p0 14)) cd_ok ⟨_, _, _, rfl, by decide, Or.inl tw_808⟩ hs1 rfl dX9_sign_4 ?_
  refine mm_iconst (v := 1) dX9_sign_7 (by decide) ?_
  refine mm_isub dX9_sign_8 ?_
  refine mm_callSi cd_ok (kX9_in p1 0 ((mm_I σ p0 14) - 1) _ rfl) (Or.inl tw_941) cdX9_in tw_942 nmX9_in rfl rfl (by simp only [List.map_cons, List.map_nil, mm_rf_cat]; exact Nat.le_of_ble_eq_true rfl) dX9_sign_9 ⟨Nat.le_of_ble_eq_true rfl, Nat.le_of_ble_eq_true rfl⟩ ⟨Nat.le_of_ble_eq_true rfl, Nat.le_of_ble_eq_true rfl⟩ ?_
  refine mm_if_eq (tgt := 39) dX9_sign_12 (by decide) (fun c2 => ?_) (fun c2 => ?_)
  · rw [if_pos c2] at hf
    refine mm_sub [0, 1, 2, 3] rfl ?_
    exact kX9_sign_39  p0 p1 p2 p3 p0 σ hf
  · rw [if_neg c2] at hf
    refine mm_iload_n (j := 2) dX9_sign_15 rfl rfl ?_
    refine mm_iconst (v := 0) dX9_sign_16 (by decide) ?_
    refine mm_bipush (v := 24) dX9_sign_17 (by decide) ?_
    refine mm_callSi cd_ok (kX9_in p2 0 24 _ rfl) (Or.inl tw_941) cdX9_in tw_942 nmX9_in rfl rfl (by simp only [List.map_cons, List.map_nil, mm_rf_cat]; exact Nat.le_of_ble_eq_true rfl) dX9_sign_19 ⟨Nat.le_of_ble_eq_true rfl, Nat.le_of_ble_eq_true rfl⟩ ⟨Nat.le_of_ble_eq_true rfl, Nat.le_of_ble_eq_true rfl⟩ ?_
    refine mm_if_eq (tgt := 39) dX9_sign_22 (by decide) (fun c17 => ?_) (fun c17 => ?_)
    · rw [if_pos c17] at hf
      refine mm_sub [0, 1, 2, 3] rfl ?_
      exact kX9_sign_39  p0 p1 p2 p3 p0 σ hf
    · rw [if_neg c17] at hf
      refine mm_iload_n (j := 3) dX9_sign_25 rfl rfl ?_
      refine mm_iconst (v := 0) dX9_sign_26 (by decide) ?_
      refine mm_bipush (v := 39) dX9_sign_27 (by decide) ?_
      refine mm_callSi cd_ok (kX9_in p3 0 39 _ rfl) (Or.inl tw_941) cdX9_in tw_942 nmX9_in rfl rfl (by simp only [List.map_cons, List.map_nil, mm_rf_cat]; exact Nat.le_of_ble_eq_true rfl) dX9_sign_29 ⟨Nat.le_of_ble_eq_true rfl, Nat.le_of_ble_eq_true rfl⟩ ⟨Nat.le_of_ble_eq_true rfl, Nat.le_of_ble_eq_true rfl⟩ ?_
      refine mm_if_eq (tgt := 39) dX9_sign_32 (by decide) (fun c18 => ?_) (fun c18 => ?_)
      · rw [if_pos c18] at hf
        refine mm_sub [0, 1, 2, 3] rfl ?_
        exact kX9_sign_39  p0 p1 p2 p3 p0 σ hf
      · rw [if_neg c18] at hf
        refine mm_iconst (v := 1) dX9_sign_35 (by decide) ?_
        refine mm_goto (tgt := 40) dX9_sign_36 (by decide) ?_
        refine mm_sub [0, 1, 2, 3] rfl ?_
        exact kX9_sign_40  p0 p1 p2 p3 1 p0 σ hf
theorem dX9_link_0 : decode cX9_link 0 = .ok (.aload_n 0, 1) := by decide +kernel
theorem dX9_link_1 : decode cX9_link 1 = .ok (.iload_n 1, 1) := by decide +kernel
theorem dX9_link_2 : decode cX9_link 2 = .ok (.iconst 0, 1) := by decide +kernel
theorem dX9_link_3 : decode cX9_link 3 = .ok (.aload_n 0, 1) := by decide +kernel
theorem dX9_link_4 : decode cX9_link 4 = .ok (.getfield 206, 3) := by decide +kernel
theorem dX9_link_7 : decode cX9_link 7 = .ok (.iconst 1, 1) := by decide +kernel
theorem dX9_link_8 : decode cX9_link 8 = .ok (.isub, 1) := by decide +kernel
theorem dX9_link_9 : decode cX9_link 9 = .ok (.invokestatic 153, 3) := by decide +kernel
theorem dX9_link_12 : decode cX9_link 12 = .ok (.ifCond .eq 25, 3) := by decide +kernel
theorem dX9_link_15 : decode cX9_link 15 = .ok (.iload_n 2, 1) := by decide +kernel
theorem dX9_link_16 : decode cX9_link 16 = .ok (.iconst 0, 1) := by decide +kernel
theorem dX9_link_17 : decode cX9_link 17 = .ok (.iconst 5, 1) := by decide +kernel
theorem dX9_link_18 : decode cX9_link 18 = .ok (.invokestatic 153, 3) := by decide +kernel
theorem dX9_link_21 : decode cX9_link 21 = .ok (.ifCond .eq 16, 3) := by decide +kernel
theorem dX9_link_24 : decode cX9_link 24 = .ok (.iload_n 3, 1) := by decide +kernel
theorem dX9_link_25 : decode cX9_link 25 = .ok (.iconst 0, 1) := by decide +kernel
theorem dX9_link_26 : decode cX9_link 26 = .ok (.iconst 2, 1) := by decide +kernel
theorem dX9_link_27 : decode cX9_link 27 = .ok (.invokestatic 153, 3) := by decide +kernel
theorem dX9_link_30 : decode cX9_link 30 = .ok (.ifCond .eq 7, 3) := by decide +kernel
theorem dX9_link_33 : decode cX9_link 33 = .ok (.iconst 1, 1) := by decide +kernel
theorem dX9_link_34 : decode cX9_link 34 = .ok (.goto 4, 3) := by decide +kernel
theorem dX9_link_37 : decode cX9_link 37 = .ok (.iconst 0, 1) := by decide +kernel
theorem dX9_link_38 : decode cX9_link 38 = .ok (.invokevirtual 169, 3) := by decide +kernel
theorem dX9_link_41 : decode cX9_link 41 = .ok (.ifCond .ne 5, 3) := by decide +kernel
theorem dX9_link_44 : decode cX9_link 44 = .ok (.iconst 0, 1) := by decide +kernel
theorem dX9_link_45 : decode cX9_link 45 = .ok (.ireturn, 1) := by decide +kernel
theorem dX9_link_46 : decode cX9_link 46 = .ok (.bipush 6, 2) := by decide +kernel
theorem dX9_link_48 : decode cX9_link 48 = .ok (.aload_n 0, 1) := by decide +kernel
theorem dX9_link_49 : decode cX9_link 49 = .ok (.getfield 47, 3) := by decide +kernel
theorem dX9_link_52 : decode cX9_link 52 = .ok (.iload_n 1, 1) := by decide +kernel
theorem dX9_link_53 : decode cX9_link 53 = .ok (.iaload, 1) := by decide +kernel
theorem dX9_link_54 : decode cX9_link 54 = .ok (.imul, 1) := by decide +kernel
theorem dX9_link_55 : decode cX9_link 55 = .ok (.iload_n 2, 1) := by decide +kernel
theorem dX9_link_56 : decode cX9_link 56 = .ok (.iadd, 1) := by decide +kernel
theorem dX9_link_57 : decode cX9_link 57 = .ok (.istore 4, 2) := by decide +kernel
theorem dX9_link_59 : decode cX9_link 59 = .ok (.aload_n 0, 1) := by decide +kernel
theorem dX9_link_60 : decode cX9_link 60 = .ok (.getfield 81, 3) := by decide +kernel
theorem dX9_link_63 : decode cX9_link 63 = .ok (.iload 4, 2) := by decide +kernel
theorem dX9_link_65 : decode cX9_link 65 = .ok (.baload, 1) := by decide +kernel
theorem dX9_link_66 : decode cX9_link 66 = .ok (.ifCond .eq 17, 3) := by decide +kernel
theorem dX9_link_69 : decode cX9_link 69 = .ok (.aload_n 0, 1) := by decide +kernel
theorem dX9_link_70 : decode cX9_link 70 = .ok (.getfield 78, 3) := by decide +kernel
theorem dX9_link_73 : decode cX9_link 73 = .ok (.iconst 3, 1) := by decide +kernel
theorem dX9_link_74 : decode cX9_link 74 = .ok (.iload 4, 2) := by decide +kernel
theorem dX9_link_76 : decode cX9_link 76 = .ok (.imul, 1) := by decide +kernel
theorem dX9_link_77 : decode cX9_link 77 = .ok (.iload_n 3, 1) := by decide +kernel
theorem dX9_link_78 : decode cX9_link 78 = .ok (.iadd, 1) := by decide +kernel
theorem dX9_link_79 : decode cX9_link 79 = .ok (.iaload, 1) := by decide +kernel
theorem dX9_link_80 : decode cX9_link 80 = .ok (.goto 4, 3) := by decide +kernel
theorem dX9_link_83 : decode cX9_link 83 = .ok (.iconst (-1), 1) := by decide +kernel
theorem dX9_link_84 : decode cX9_link 84 = .ok (.ireturn, 1) := by decide +kernel
theorem nmX9_link : mm_nm yX9_link 3 := ⟨by decide, by decide, by decide +kernel⟩
theorem cdX9_link : mm_cd cd_Y yX9_link cX9_link 5 (some .int) := ⟨tw_1096, tw_8⟩
abbrev rmX9_link : Room := { frames := 1, cells := 0, slots := 0, locals := 22 }
def fX9_link_38  (a0 : Nat) (x1 : Int32) (x2 : Int32) (x3 : Int32) (y0 : Int32) (y1 : Nat) (σ : mm_M) : Option (Int32 × mm_M) :=
  mm_sh σ y1 (.inl 9) (mm_on (fX9_goes y1 y0 σ) fun q4 => (if q4.1 = 0 then some (0, q4.2) else mm_sh q4.2 a0 (.inl 9) (mm_on (mm_R q4.2 a0 15) fun q7 => mm_ar q4.2 q7 0 fun n8 => mm_ib x1 n8 (mm_on (mm_R q4.2 a0 26) fun q10 => mm_ar q4.2 q10 1 fun n11 => mm_ib ((6 * (mm_I q4.2 q7 x1.toNatClampNeg)) + x2) n11 ((if (mm_I q4.2 q10 ((6 * (mm_I q4.2 q7 x1.toNatClampNeg)) + x2).toNatClampNeg) = 0 then some ((-1), q4.2) else mm_on (mm_R q4.2 a0 25) fun q14 => mm_ar q4.2 q14 0 fun n15 => mm_ib ((3 * ((6 * (mm_I q4.2 q7 x1.toNatClampNeg)) + x2)) + x3) n15 (some (mm_I q4.2 q14 ((3 * ((6 * (mm_I q4.2 q7 x1.toNatClampNeg)) + x2)) + x3).toNatClampNeg, q4.2))))))))
def fX9_link_37  (a0 : Nat) (x1 : Int32) (x2 : Int32) (x3 : Int32) (y0 : Nat) (σ : mm_M) : Option (Int32 × mm_M) :=
  (fX9_link_38  a0 x1 x2 x3 0 y0 σ)
def fX9_link (p0 : Nat) (p1 : Int32) (p2 : Int32) (p3 : Int32) (σ : mm_M) : Option (Int32 × mm_M) :=
  mm_sh σ p0 (.inl 9) ((if (fX9_in p1 0 ((mm_I σ p0 14) - 1)) = 0 then (fX9_link_37  p0 p1 p2 p3 p0 σ) else (if (fX9_in p2 0 5) = 0 then (fX9_link_37  p0 p1 p2 p3 p0 σ) else (if (fX9_in p3 0 2) = 0 then (fX9_link_37  p0 p1 p2 p3 p0 σ) else (fX9_link_38  p0 p1 p2 p3 1 p0 σ)))))
set_option maxHeartbeats 4000000 in
set_option maxRecDepth 100000 in
theorem kX9_link_38 {G : mm_G} {A : Nat → Prop} {ini : Bool × Option (List (Nat × Nat × Nat × Nat))}  {R : (Int32 × mm_M)}  (a0 : Nat) (x1 : Int32) (x2 : Int32) (x3 : Int32) (y0 : Int32) (y1 : Nat) (σ : mm_M) (hf : fX9_link_38  a0 x1 x2 x3 y0 y1 σ = some R) : mm_J cd_Y G RX9 cX9_link 5 (some .int) ini rmX9_link A (mm_QF cd_Y G A (mm_Pi R.1 R.2) rmX9_link.cells rmX9_link.slots) 38 [(0, .ref a0), (1, .int x1), (2, .int x2), (3, .int x3)] [.int y0, .ref y1] σ 0 0 := by
  unfold fX9_link_38 at hf
  obtain ⟨hs3, hf⟩ := mm_sh_s hf
  obtain ⟨q4, hq4, hf⟩ := mm_on_s hf
  refine mm_callVi cd_ok (kX9_goes y1 y0 hq4) hs3 rfl (Or.inl tw_944) cdX9_goes tw_946 ts_31 nmX9_goes rfl rfl (by simp only [List.map_cons, List.map_nil, mm_rf_cat]; exact Nat.le_of_ble_eq_true rfl) dX9_link_38 ⟨Nat.le_of_ble_eq_true rfl, Nat.le_of_ble_eq_true rfl⟩ ⟨Nat.le_of_ble_eq_true rfl, Nat.le_of_ble_eq_true rfl⟩ ?_
  refine mm_if_ne (tgt := 46) dX9_link_41 (by decide) (fun c5 => ?_) (fun c5 => ?_)
  · rw [if_neg c5] at hf
    refine mm_bipush (v := 6) dX9_link_46 (by decide) ?_
    refine mm_aload_n (j := 0) dX9_link_48 rfl rfl ?_
    obtain ⟨hs6, hf⟩ := mm_sh_s hf
    refine mm_get (c := 9) (k := 15) (v := va_rf (mm_R q4.2 a0 15)) cd_ok ⟨_, _, _, rfl, by decide, Or.inl tw_809⟩ hs6 rfl dX9_link_49 ?_
    refine mm_iload_n (j := 1) dX9_link_52 rfl rfl ?_
    obtain ⟨q7, hq7, hf⟩ := mm_on_s hf
    rw [hq7, mm_rf_some]
    obtain ⟨n8, hn8, hf⟩ := mm_ar_s hf
    obtain ⟨hi9, hf⟩ := mm_ib_s hf
    refine mm_iald hn8 rfl hi9 dX9_link_53 ?_
    refine mm_imul dX9_link_54 ?_
    refine mm_iload_n (j := 2) dX9_link_55 rfl rfl ?_
    refine mm_iadd dX9_link_56 ?_
    refine mm_istore (L' := [(4, .int ((6 * (mm_I q4.2 q7 x1.toNatClampNeg)) + x2)), (0, .ref a0), (1, .int x1), (2, .int x2), (3, .int x3)]) dX9_link_57 (by decide) rfl ?_
    refine mm_aload_n (j := 1) dX9_link_59 rfl rfl ?_
    refine mm_get (c := 9) (k := 26) (v := va_rf (mm_R q4.2 a0 26)) cd_ok ⟨_, _, _, rfl, by decide, Or.inl tw_820⟩ hs6 rfl dX9_link_60 ?_
    refine mm_iload (j := 0) dX9_link_63 rfl ?_
    obtain ⟨q10, hq10, hf⟩ := mm_on_s hf
    rw [hq10, mm_rf_some]
    obtain ⟨n11, hn11, hf⟩ := mm_ar_s hf
    obtain ⟨hi12, hf⟩ := mm_ib_s hf
    refine mm_zald hn11 rfl hi12 dX9_link_65 ?_
    refine mm_if_eq (tgt := 83) dX9_link_66 (by decide) (fun c13 => ?_) (fun c13 => ?_)
    · rw [if_pos c13] at hf
      refine mm_iconst (v := (-1)) dX9_link_83 (by decide) ?_
      cases hf
      refine mm_widen (ck' := rmX9_link.cells) (sk' := rmX9_link.slots) (Nat.le_of_ble_eq_true rfl) (Nat.le_of_ble_eq_true rfl) ?_
      exact mm_iret rfl rfl dX9_link_84 ⟨rfl, rfl⟩
    · rw [if_neg c13] at hf
      refine mm_aload_n (j := 1) dX9_link_69 rfl rfl ?_
      refine mm_get (c := 9) (k := 25) (v := va_rf (mm_R q4.2 a0 25)) cd_ok ⟨_, _, _, rfl, by decide, Or.inl tw_819⟩ hs6 rfl dX9_link_70 ?_
      refine mm_iconst (v := 3) dX9_link_73 (by decide) ?_
      refine mm_iload (j := 0) dX9_link_74 rfl ?_
      refine mm_imul dX9_link_76 ?_
      refine mm_iload_n (j := 4) dX9_link_77 rfl rfl ?_
      refine mm_iadd dX9_link_78 ?_
      obtain ⟨q14, hq14, hf⟩ := mm_on_s hf
      rw [hq14, mm_rf_some]
      obtain ⟨n15, hn15, hf⟩ := mm_ar_s hf
      obtain ⟨hi16, hf⟩ := mm_ib_s hf
      refine mm_iald hn15 rfl hi16 dX9_link_79 ?_
      refine mm_goto (tgt := 84) dX9_link_80 (by decide) ?_
      cases hf
      refine mm_widen (ck' := rmX9_link.cells) (sk' := rmX9_link.slots) (Nat.le_of_ble_eq_true rfl) (Nat.le_of_ble_eq_true rfl) ?_
      exact mm_iret rfl rfl dX9_link_84 ⟨rfl, rfl⟩
  · rw [if_pos c5] at hf
    refine mm_iconst (v := 0) dX9_link_44 (by decide) ?_
    cases hf
    refine mm_widen (ck' := rmX9_link.cells) (sk' := rmX9_link.slots) (Nat.le_of_ble_eq_true rfl) (Nat.le_of_ble_eq_true rfl) ?_
    exact mm_iret rfl rfl dX9_link_45 ⟨rfl, rfl⟩
set_option maxHeartbeats 4000000 in
set_option maxRecDepth 100000 in
theorem kX9_link_37 {G : mm_G} {A : Nat → Prop} {ini : Bool × Option (List (Nat × Nat × Nat × Nat))}  {R : (Int32 × mm_M)}  (a0 : Nat) (x1 : Int32) (x2 : Int32) (x3 : Int32) (y0 : Nat) (σ : mm_M) (hf : fX9_link_37  a0 x1 x2 x3 y0 σ = some R) : mm_J cd_Y G RX9 cX9_link 5 (some .int) ini rmX9_link A (mm_QF cd_Y G A (mm_Pi R.1 R.2) rmX9_link.cells rmX9_link.slots) 37 [(0, .ref a0), (1, .int x1), (2, .int x2), (3, .int x3)] [.ref y0] σ 0 0 := by
  unfold fX9_link_37 at hf
  refine mm_iconst (v := 0) dX9_link_37 (by decide) ?_
  refine mm_sub [0, 1, 2, 3] rfl ?_
  exact kX9_link_38  a0 x1 x2 x3 0 y0 σ hf
set_option maxHeartbeats 4000000 in
set_option maxRecDepth 100000 in
theorem kX9_link {G : mm_G} {A : Nat → Prop} (p0 : Nat) (p1 : Int32) (p2 : Int32) (p3 : Int32) {σ : mm_M} {R : (Int32 × mm_M)} (hf : fX9_link p0 p1 p2 p3 σ = some R) : mm_C cd_Y G yX9_link cX9_link 5 (some .int) rmX9_link A [.ref p0, .int p1, .int p2, .int p3] σ (mm_Pi R.1 R.2) := by
  refine mm_C.of (by decide) (Nat.le_of_ble_eq_true rfl) ?_
  unfold fX9_link at hf
  have e0 : lv_args 0 [.ref p0, .int p1, .int p2, .int p3] = [(0, .ref p0), (1, .int p1), (2, .int p2), (3, .int p3)] := rfl
  rw [e0]
  generalize hini : ((yX9_link.name == "<init>"), none) = ini
  clear e0
  clear hini
  refine mm_aload_n (j := 0) dX9_link_0 rfl rfl ?_
  refine mm_iload_n (j := 1) dX9_link_1 rfl rfl ?_
  refine mm_iconst (v := 0) dX9_link_2 (by decide) ?_
  refine mm_aload_n (j := 0) dX9_link_3 rfl rfl ?_
  obtain ⟨hs1, hf⟩ := mm_sh_s hf
  refine mm_get (c := 9) (k := 14) (v := .int (mm_I σ p0 14)) cd_ok ⟨_, _, _, rfl, by decide, Or.inl tw_808⟩ hs1 rfl dX9_link_4 ?_
  refine mm_iconst (v := 1) dX9_link_7 (by decide) ?_
  refine mm_isub dX9_link_8 ?_
  refine mm_callSi cd_ok (kX9_in p1 0 ((mm_I σ p0 14) - 1) _ rfl) (Or.inl tw_941) cdX9_in tw_942 nmX9_in rfl rfl (by simp only [List.map_cons, List.map_nil, mm_rf_cat]; exact Nat.le_of_ble_eq_true rfl) dX9_link_9 ⟨Nat.le_of_ble_eq_true rfl, Nat.le_of_ble_eq_true rfl⟩ ⟨Nat.le_of_ble_eq_true rfl, Nat.le_of_ble_eq_true rfl⟩ ?_
  refine mm_if_eq (tgt := 37) dX9_link_12 (by decide) (fun c2 => ?_) (fun c2 => ?_)
  · rw [if_pos c2] at hf
    refine mm_sub [0, 1, 2, 3] rfl ?_
    exact kX9_link_37  p0 p1 p2 p3 p0 σ hf
  · rw [if_neg c2] at hf
    refine mm_iload_n (j := 2) dX9_link_15 rfl rfl ?_
    refine mm_iconst (v := 0) dX9_link_16 (by decide) ?_
    refine mm_iconst (v := 5) dX9_link_17 (by decide) ?_
    refine mm_callSi cd_ok (kX9_in p2 0 5 _ rfl) (Or.inl tw_941) cdX9_in tw_942 nmX9_in rfl rfl (by simp only [List.map_cons, List.map_nil, mm_rf_cat]; exact Nat.le_of_ble_eq_true rfl) dX9_link_18 ⟨Nat.le_of_ble_eq_true rfl, Nat.le_of_ble_eq_true rfl⟩ ⟨Nat.le_of_ble_eq_true rfl, Nat.le_of_ble_eq_true rfl⟩ ?_
    refine mm_if_eq (tgt := 37) dX9_link_21 (by decide) (fun c17 => ?_) (fun c17 => ?_)
    · rw [if_pos c17] at hf
      refine mm_sub [0, 1, 2, 3] rfl ?_
      exact kX9_link_37  p0 p1 p2 p3 p0 σ hf
    · rw [if_neg c17] at hf
      refine mm_iload_n (j := 3) dX9_link_24 rfl rfl ?_
      refine mm_iconst (v := 0) dX9_link_25 (by decide) ?_
      refine mm_iconst (v := 2) dX9_link_26 (by decide) ?_
      refine mm_callSi cd_ok (kX9_in p3 0 2 _ rfl) (Or.inl tw_941) cdX9_in tw_942 nmX9_in rfl rfl (by simp only [List.map_cons, List.map_nil, mm_rf_cat]; exact Nat.le_of_ble_eq_true rfl) dX9_link_27 ⟨Nat.le_of_ble_eq_true rfl, Nat.le_of_ble_eq_true rfl⟩ ⟨Nat.le_of_ble_eq_true rfl, Nat.le_of_ble_eq_true rfl⟩ ?_
      refine mm_if_eq (tgt := 37) dX9_link_30 (by decide) (fun c18 => ?_) (fun c18 => ?_)
      · rw [if_pos c18] at hf
        refine mm_sub [0, 1, 2, 3] rfl ?_
        exact kX9_link_37  p0 p1 p2 p3 p0 σ hf
      · rw [if_neg c18] at hf
        refine mm_iconst (v := 1) dX9_link_33 (by decide) ?_
        refine mm_goto (tgt := 38) dX9_link_34 (by decide) ?_
        refine mm_sub [0, 1, 2, 3] rfl ?_
        exact kX9_link_38  p0 p1 p2 p3 1 p0 σ hf
theorem dX9_open_0 : decode cX9_open 0 = .ok (.aload_n 0, 1) := by decide +kernel
theorem dX9_open_1 : decode cX9_open 1 = .ok (.iload_n 1, 1) := by decide +kernel
theorem dX9_open_2 : decode cX9_open 2 = .ok (.iconst 1, 1) := by decide +kernel
theorem dX9_open_3 : decode cX9_open 3 = .ok (.bipush 8, 2) := by decide +kernel
theorem dX9_open_5 : decode cX9_open 5 = .ok (.invokestatic 153, 3) := by decide +kernel
theorem dX9_open_8 : decode cX9_open 8 = .ok (.invokevirtual 169, 3) := by decide +kernel
theorem dX9_open_11 : decode cX9_open 11 = .ok (.ifCond .ne 5, 3) := by decide +kernel
theorem dX9_open_14 : decode cX9_open 14 = .ok (.iconst 0, 1) := by decide +kernel
theorem dX9_open_15 : decode cX9_open 15 = .ok (.ireturn, 1) := by decide +kernel
theorem dX9_open_16 : decode cX9_open 16 = .ok (.aload_n 0, 1) := by decide +kernel
theorem dX9_open_17 : decode cX9_open 17 = .ok (.getfield 84, 3) := by decide +kernel
theorem dX9_open_20 : decode cX9_open 20 = .ok (.iload_n 1, 1) := by decide +kernel
theorem dX9_open_21 : decode cX9_open 21 = .ok (.iaload, 1) := by decide +kernel
theorem dX9_open_22 : decode cX9_open 22 = .ok (.iconst (-1), 1) := by decide +kernel
theorem dX9_open_23 : decode cX9_open 23 = .ok (.if_icmp .ne 7, 3) := by decide +kernel
theorem dX9_open_26 : decode cX9_open 26 = .ok (.iconst (-1), 1) := by decide +kernel
theorem dX9_open_27 : decode cX9_open 27 = .ok (.goto 13, 3) := by decide +kernel
theorem dX9_open_30 : decode cX9_open 30 = .ok (.aload_n 0, 1) := by decide +kernel
theorem dX9_open_31 : decode cX9_open 31 = .ok (.aload_n 0, 1) := by decide +kernel
theorem dX9_open_32 : decode cX9_open 32 = .ok (.getfield 84, 3) := by decide +kernel
theorem dX9_open_35 : decode cX9_open 35 = .ok (.iload_n 1, 1) := by decide +kernel
theorem dX9_open_36 : decode cX9_open 36 = .ok (.iaload, 1) := by decide +kernel
theorem dX9_open_37 : decode cX9_open 37 = .ok (.invokevirtual 241, 3) := by decide +kernel
theorem dX9_open_40 : decode cX9_open 40 = .ok (.ireturn, 1) := by decide +kernel
theorem nmX9_open : mm_nm yX9_open 1 := ⟨by decide, by decide, by decide +kernel⟩
theorem cdX9_open : mm_cd cd_Y yX9_open cX9_open 2 (some .int) := ⟨tw_1100, tw_8⟩
abbrev rmX9_open : Room := { frames := 1, cells := 0, slots := 0, locals := 22 }
def fX9_open (p0 : Nat) (p1 : Int32) (σ : mm_M) : Option (Int32 × mm_M) :=
  mm_sh σ p0 (.inl 9) (mm_on (fX9_goes p0 (fX9_in p1 1 8) σ) fun q2 => (if q2.1 = 0 then some (0, q2.2) else mm_sh q2.2 p0 (.inl 9) (mm_on (mm_R q2.2 p0 27) fun q5 => mm_ar q2.2 q5 0 fun n6 => mm_ib p1 n6 ((if (mm_I q2.2 q5 p1.toNatClampNeg) = (-1) then some ((-1), q2.2) else mm_on (mm_R q2.2 p0 27) fun q9 => mm_ar q2.2 q9 0 fun n10 => mm_ib p1 n10 (mm_on (fX9_placeOf p0 (mm_I q2.2 q9 p1.toNatClampNeg) q2.2) fun q12 => some (q12.1, q12.2)))))))
set_option maxHeartbeats 4000000 in
set_option maxRecDepth 100000 in
theorem kX9_open {G : mm_G} {A : Nat → Prop} (p0 : Nat) (p1 : Int32) {σ : mm_M} {R : (Int32 × mm_M)} (hf : fX9_open p0 p1 σ = some R) : mm_C cd_Y G yX9_open cX9_open 2 (some .int) rmX9_open A [.ref p0, .int p1] σ (mm_Pi R.1 R.2) := by
  refine mm_C.of (by decide) (Nat.le_of_ble_eq_true rfl) ?_
  unfold fX9_open at hf
  have e0 : lv_args 0 [.ref p0, .int p1] = [(0, .ref p0), (1, .int p1)] := rfl
  rw [e0]
  generalize hini : ((yX9_open.name == "<init>"), none) = ini
  clear e0
  clear hini
  refine mm_aload_n (j := 0) dX9_open_0 rfl rfl ?_
  refine mm_iload_n (j := 1) dX9_open_1 rfl rfl ?_
  refine mm_iconst (v := 1) dX9_open_2 (by decide) ?_
  refine mm_bipush (v := 8) dX9_open_3 (by decide) ?_
  refine mm_callSi cd_ok (kX9_in p1 1 8 _ rfl) (Or.inl tw_941) cdX9_in tw_942 nmX9_in rfl rfl (by simp only [List.map_cons, List.map_nil, mm_rf_cat]; exact Nat.le_of_ble_eq_true rfl) dX9_open_5 ⟨Nat.le_of_ble_eq_true rfl, Nat.le_of_ble_eq_true rfl⟩ ⟨Nat.le_of_ble_eq_true rfl, Nat.le_of_ble_eq_true rfl⟩ ?_
  obtain ⟨hs1, hf⟩ := mm_sh_s hf
  obtain ⟨q2, hq2, hf⟩ := mm_on_s hf
  refine mm_callVi cd_ok (kX9_goes p0 (fX9_in p1 1 8) hq2) hs1 rfl (Or.inl tw_944) cdX9_goes tw_946 ts_31 nmX9_goes rfl rfl (by simp only [List.map_cons, List.map_nil, mm_rf_cat]; exact Nat.le_of_ble_eq_true rfl) dX9_open_8 ⟨Nat.le_of_ble_eq_true rfl, Nat.le_of_ble_eq_true rfl⟩ ⟨Nat.le_of_ble_eq_true rfl, Nat.le_of_ble_eq_true rfl⟩ ?_
  refine mm_if_ne (tgt := 16) dX9_open_11 (by decide) (fun c3 => ?_) (fun c3 => ?_)
  · rw [if_neg c3] at hf
    refine mm_aload_n (j := 0) dX9_open_16 rfl rfl ?_
    obtain ⟨hs4, hf⟩ := mm_sh_s hf
    refine mm_get (c := 9) (k := 27) (v := va_rf (mm_R q2.2 p0 27)) cd_ok ⟨_, _, _, rfl, by decide, Or.inl tw_821⟩ hs4 rfl dX9_open_17 ?_
    refine mm_iload_n (j := 1) dX9_open_20 rfl rfl ?_
    obtain ⟨q5, hq5, hf⟩ := mm_on_s hf
    rw [hq5, mm_rf_some]
    obtain ⟨n6, hn6, hf⟩ := mm_ar_s hf
    obtain ⟨hi7, hf⟩ := mm_ib_s hf
    refine mm_iald hn6 rfl hi7 dX9_open_21 ?_
    refine mm_iconst (v := (-1)) dX9_open_22 (by decide) ?_
    refine mm_icmp_ne (tgt := 30) dX9_open_23 (by decide) (fun c8 => ?_) (fun c8 => ?_)
    · rw [if_neg c8] at hf
      refine mm_aload_n (j := 0) dX9_open_30 rfl rfl ?_
      refine mm_aload_n (j := 0) dX9_open_31 rfl rfl ?_
      refine mm_get (c := 9) (k := 27) (v := va_rf (mm_R q2.2 p0 27)) cd_ok ⟨_, _, _, rfl, by decide, Or.inl tw_821⟩ hs4 rfl dX9_open_32 ?_
      refine mm_iload_n (j := 1) dX9_open_35 rfl rfl ?_
      obtain ⟨q9, hq9, hf⟩ := mm_on_s hf
      rw [hq9, mm_rf_some]
      obtain ⟨n10, hn10, hf⟩ := mm_ar_s hf
      obtain ⟨hi11, hf⟩ := mm_ib_s hf
      refine mm_iald hn10 rfl hi11 dX9_open_36 ?_
      obtain ⟨q12, hq12, hf⟩ := mm_on_s hf
      refine mm_callVi cd_ok (kX9_placeOf p0 (mm_I q2.2 q9 p1.toNatClampNeg) hq12) hs4 rfl (Or.inl tw_1101) cdX9_placeOf tw_1103 ts_52 nmX9_placeOf rfl rfl (by simp only [List.map_cons, List.map_nil, mm_rf_cat]; exact Nat.le_of_ble_eq_true rfl) dX9_open_37 ⟨Nat.le_of_ble_eq_true rfl, Nat.le_of_ble_eq_true rfl⟩ ⟨Nat.le_of_ble_eq_true rfl, Nat.le_of_ble_eq_true rfl⟩ ?_
      cases hf
      refine mm_widen (ck' := rmX9_open.cells) (sk' := rmX9_open.slots) (Nat.le_of_ble_eq_true rfl) (Nat.le_of_ble_eq_true rfl) ?_
      exact mm_iret rfl rfl dX9_open_40 ⟨rfl, rfl⟩
    · rw [if_pos c8] at hf
      refine mm_iconst (v := (-1)) dX9_open_26 (by decide) ?_
      refine mm_goto (tgt := 40) dX9_open_27 (by decide) ?_
      cases hf
      refine mm_widen (ck' := rmX9_open.cells) (sk' := rmX9_open.slots) (Nat.le_of_ble_eq_true rfl) (Nat.le_of_ble_eq_true rfl) ?_
      exact mm_iret rfl rfl dX9_open_40 ⟨rfl, rfl⟩
  · rw [if_pos c3] at hf
    refine mm_iconst (v := 0) dX9_open_14 (by decide) ?_
    cases hf
    refine mm_widen (ck' := rmX9_open.cells) (sk' := rmX9_open.slots) (Nat.le_of_ble_eq_true rfl) (Nat.le_of_ble_eq_true rfl) ?_
    exact mm_iret rfl rfl dX9_open_15 ⟨rfl, rfl⟩
