theorem dX8_packet_0 : decode cX8_packet 0 = .ok (.aload_n 0, 1) := by decide +kernel
theorem dX8_packet_1 : decode cX8_packet 1 = .ok (.getfield 147, 3) := by decide +kernel
theorem dX8_packet_4 : decode cX8_packet 4 = .ok (.bipush 42, 2) := by decide +kernel
theorem dX8_packet_6 : decode cX8_packet 6 = .ok (.if_icmp .ge 13, 3) := by decide +kernel
theorem dX8_packet_9 : decode cX8_packet 9 = .ok (.new 150, 3) := by decide +kernel
theorem dX8_packet_12 : decode cX8_packet 12 = .ok (.dup, 1) := by decide +kernel
theorem dX8_packet_13 : decode cX8_packet 13 = .ok (.ldc 158, 2) := by decide +kernel
theorem dX8_packet_15 : decode cX8_packet 15 = .ok (.invokespecial 154, 3) := by decide +kernel
theorem dX8_packet_18 : decode cX8_packet 18 = .ok (.athrow, 1) := by decide +kernel
theorem dX8_packet_19 : decode cX8_packet 19 = .ok (.aload_n 0, 1) := by decide +kernel
theorem dX8_packet_20 : decode cX8_packet 20 = .ok (.iconst 0, 1) := by decide +kernel
theorem dX8_packet_21 : decode cX8_packet 21 = .ok (.putfield 147, 3) := by decide +kernel
theorem dX8_packet_24 : decode cX8_packet 24 = .ok (.aload_n 0, 1) := by decide +kernel
theorem dX8_packet_25 : decode cX8_packet 25 = .ok (.iconst 0, 1) := by decide +kernel
theorem dX8_packet_26 : decode cX8_packet 26 = .ok (.invokevirtual 160, 3) := by decide +kernel
theorem dX8_packet_29 : decode cX8_packet 29 = .ok (.istore_n 1, 1) := by decide +kernel
theorem dX8_packet_30 : decode cX8_packet 30 = .ok (.aload_n 0, 1) := by decide +kernel
theorem dX8_packet_31 : decode cX8_packet 31 = .ok (.iconst 1, 1) := by decide +kernel
theorem dX8_packet_32 : decode cX8_packet 32 = .ok (.invokevirtual 160, 3) := by decide +kernel
theorem dX8_packet_35 : decode cX8_packet 35 = .ok (.istore_n 2, 1) := by decide +kernel
theorem dX8_packet_36 : decode cX8_packet 36 = .ok (.iload_n 1, 1) := by decide +kernel
theorem dX8_packet_37 : decode cX8_packet 37 = .ok (.iconst (-1), 1) := by decide +kernel
theorem dX8_packet_38 : decode cX8_packet 38 = .ok (.if_icmp .eq 8, 3) := by decide +kernel
theorem dX8_packet_41 : decode cX8_packet 41 = .ok (.iload_n 2, 1) := by decide +kernel
theorem dX8_packet_42 : decode cX8_packet 42 = .ok (.iconst (-1), 1) := by decide +kernel
theorem dX8_packet_43 : decode cX8_packet 43 = .ok (.if_icmp .ne 15, 3) := by decide +kernel
theorem dX8_packet_46 : decode cX8_packet 46 = .ok (.aload_n 0, 1) := by decide +kernel
theorem dX8_packet_47 : decode cX8_packet 47 = .ok (.getfield 28, 3) := by decide +kernel
theorem dX8_packet_50 : decode cX8_packet 50 = .ok (.iconst 0, 1) := by decide +kernel
theorem dX8_packet_51 : decode cX8_packet 51 = .ok (.dup2, 1) := by decide +kernel
theorem dX8_packet_52 : decode cX8_packet 52 = .ok (.iaload, 1) := by decide +kernel
theorem dX8_packet_53 : decode cX8_packet 53 = .ok (.iconst 1, 1) := by decide +kernel
theorem dX8_packet_54 : decode cX8_packet 54 = .ok (.iadd, 1) := by decide +kernel
theorem dX8_packet_55 : decode cX8_packet 55 = .ok (.iastore, 1) := by decide +kernel
theorem dX8_packet_56 : decode cX8_packet 56 = .ok (.iconst (-1), 1) := by decide +kernel
theorem dX8_packet_57 : decode cX8_packet 57 = .ok (.ireturn, 1) := by decide +kernel
theorem dX8_packet_58 : decode cX8_packet 58 = .ok (.iload_n 1, 1) := by decide +kernel
theorem dX8_packet_59 : decode cX8_packet 59 = .ok (.bipush 8, 2) := by decide +kernel
theorem dX8_packet_61 : decode cX8_packet 61 = .ok (.idiv, 1) := by decide +kernel
theorem dX8_packet_62 : decode cX8_packet 62 = .ok (.iconst 2, 1) := by decide +kernel
theorem dX8_packet_63 : decode cX8_packet 63 = .ok (.iload_n 2, 1) := by decide +kernel
theorem dX8_packet_64 : decode cX8_packet 64 = .ok (.imul, 1) := by decide +kernel
theorem dX8_packet_65 : decode cX8_packet 65 = .ok (.iadd, 1) := by decide +kernel
theorem dX8_packet_66 : decode cX8_packet 66 = .ok (.istore_n 3, 1) := by decide +kernel
theorem dX8_packet_67 : decode cX8_packet 67 = .ok (.aload_n 0, 1) := by decide +kernel
theorem dX8_packet_68 : decode cX8_packet 68 = .ok (.iload_n 1, 1) := by decide +kernel
theorem dX8_packet_69 : decode cX8_packet 69 = .ok (.invokestatic 163, 3) := by decide +kernel
theorem dX8_packet_72 : decode cX8_packet 72 = .ok (.iload_n 3, 1) := by decide +kernel
theorem dX8_packet_73 : decode cX8_packet 73 = .ok (.invokevirtual 166, 3) := by decide +kernel
theorem dX8_packet_76 : decode cX8_packet 76 = .ok (.iload_n 3, 1) := by decide +kernel
theorem dX8_packet_77 : decode cX8_packet 77 = .ok (.ireturn, 1) := by decide +kernel
theorem nmX8_packet : mm_nm yX8_packet 0 := ⟨by decide, by decide, by decide +kernel⟩
theorem cdX8_packet : mm_cd cd_Y yX8_packet cX8_packet 4 (some .int) := ⟨tw_486, tw_1⟩
abbrev rmX8_packet : Room := { frames := 7, cells := 5, slots := 1054, locals := 156 }
def fX8_packet_46  (a0 : Nat) (x1 : Int32) (x2 : Int32) (σ : mm_M) : Option (Option Int32 × mm_M) :=
  mm_sh σ a0 (.inl 8) (mm_on (mm_R σ a0 6) fun q9 => mm_ar σ q9 0 fun n10 => mm_ib 0 n10 (mm_ib 0 n10 (mm_let (mm_wI σ q9 ((0 : Int32).toNatClampNeg) ((mm_I σ q9 (0 : Int32).toNatClampNeg) + 1)) fun s13 => some (some ((-1)), s13))))
def fX8_packet (p0 : Nat) (σ : mm_M) : Option (Option Int32 × mm_M) :=
  mm_sh σ p0 (.inl 8) ((if 42 ≤ (mm_I σ p0 4) then mm_let (mm_wI σ p0 4 0) fun s3 => mm_on (fX8_valueAt p0 0 s3) fun q4 => mm_sh q4.2 p0 (.inl 8) (mm_on (fX8_valueAt p0 1 q4.2) fun q6 => (if q4.1 = (-1) then (fX8_packet_46  p0 q4.1 q6.1 q6.2) else (if q6.1 = (-1) then (fX8_packet_46  p0 q4.1 q6.1 q6.2) else mm_sh q6.2 p0 (.inl 8) (mm_on (fX8_takeRow p0 (fX8_magazineOf q4.1) ((q4.1 / 8) + (2 * q6.1)) q6.2) fun q16 => some (some ((q4.1 / 8) + (2 * q6.1)), q16))))) else some (none, σ)))
set_option maxHeartbeats 4000000 in
set_option maxRecDepth 100000 in
theorem kX8_packet_46 {G : mm_G} {A : Nat → Prop}  {R : (Option Int32 × mm_M)}  (a0 : Nat) (x1 : Int32) (x2 : Int32) (σ : mm_M) (hf : fX8_packet_46  a0 x1 x2 σ = some R) : mm_J cd_Y G RX8 cX8_packet 4 (some .int) (false, some []) rmX8_packet A (mm_XF cd_Y G A (mm_PX R) R.2 "java/lang/IllegalStateException" (R.1 = none) rmX8_packet.cells rmX8_packet.slots) 46 [(0, .ref a0), (1, .int x1), (2, .int x2)] [] σ 0 0 := by
  unfold fX8_packet_46 at hf
  refine mm_aload_n (j := 0) dX8_packet_46 rfl rfl ?_
  obtain ⟨hs8, hf⟩ := mm_sh_s hf
  refine mm_get (c := 8) (k := 6) (v := va_rf (mm_R σ a0 6)) cd_ok ⟨_, _, _, rfl, by decide, Or.inl tw_146⟩ hs8 rfl dX8_packet_47 ?_
  refine mm_iconst (v := 0) dX8_packet_50 (by decide) ?_
  refine mm_dup2 dX8_packet_51 rfl (mm_rf_cat _) ?_
  obtain ⟨q9, hq9, hf⟩ := mm_on_s hf
  rw [hq9, mm_rf_some]
  obtain ⟨n10, hn10, hf⟩ := mm_ar_s hf
  obtain ⟨hi11, hf⟩ := mm_ib_s hf
  refine mm_iald hn10 rfl hi11 dX8_packet_52 ?_
  refine mm_iconst (v := 1) dX8_packet_53 (by decide) ?_
  refine mm_iadd dX8_packet_54 ?_
  obtain ⟨hi12, hf⟩ := mm_ib_s hf
  refine mm_iast hn10 rfl hi12 dX8_packet_55 ?_
  obtain ⟨s13, hs13, hf⟩ := mm_let_s hf
  rw [hs13]
  refine mm_iconst (v := (-1)) dX8_packet_56 (by decide) ?_
  cases hf
  refine mm_widen (ck' := rmX8_packet.cells) (sk' := rmX8_packet.slots) (Nat.le_of_ble_eq_true rfl) (Nat.le_of_ble_eq_true rfl) ?_
  exact mm_x (mm_iret rfl rfl dX8_packet_57 ⟨_, rfl, rfl, rfl⟩)
set_option maxHeartbeats 4000000 in
set_option maxRecDepth 100000 in
theorem kX8_packet {G : mm_G} {A : Nat → Prop} (p0 : Nat) {σ : mm_M} {R : (Option Int32 × mm_M)} (hf : fX8_packet p0 σ = some R) : mm_CX cd_Y G yX8_packet cX8_packet 4 (some .int) rmX8_packet A [.ref p0] σ (mm_PX R) R.2 "java/lang/IllegalStateException" (R.1 = none) := by
  refine mm_CX.of (by decide) (Nat.le_of_ble_eq_true rfl) ?_
  unfold fX8_packet at hf
  have e0 : lv_args 0 [.ref p0] = [(0, .ref p0)] := rfl
  rw [e0]
  clear e0
  refine mm_aload_n (j := 0) dX8_packet_0 rfl rfl ?_
  obtain ⟨hs1, hf⟩ := mm_sh_s hf
  refine mm_get (c := 8) (k := 4) (v := .int (mm_I σ p0 4)) cd_ok ⟨_, _, _, rfl, by decide, Or.inl tw_144⟩ hs1 rfl dX8_packet_1 ?_
  refine mm_bipush (v := 42) dX8_packet_4 (by decide) ?_
  refine mm_icmp_ge (tgt := 19) dX8_packet_6 (by decide) (fun c2 => ?_) (fun c2 => ?_)
  · rw [if_pos c2] at hf
    refine mm_aload_n (j := 0) dX8_packet_19 rfl rfl ?_
    refine mm_iconst (v := 0) dX8_packet_20 (by decide) ?_
    refine mm_putI (c := 8) (k := 4) cd_ok ⟨_, _, _, rfl, by decide, rfl, Or.inl tw_144⟩ hs1 rfl rfl rfl dX8_packet_21 ?_
    obtain ⟨s3, hs3, hf⟩ := mm_let_s hf
    rw [hs3]
    refine mm_aload_n (j := 0) dX8_packet_24 rfl rfl ?_
    refine mm_iconst (v := 0) dX8_packet_25 (by decide) ?_
    obtain ⟨q4, hq4, hf⟩ := mm_on_s hf
    refine mm_callVi cd_ok (kX8_valueAt p0 0 hq4) (mm_ke hs3 hs1) rfl (Or.inl tw_488) cdX8_valueAt tw_490 ts_16 nmX8_valueAt rfl rfl (by simp only [List.map_cons, List.map_nil, mm_rf_cat]; exact Nat.le_of_ble_eq_true rfl) dX8_packet_26 ⟨Nat.le_of_ble_eq_true rfl, Nat.le_of_ble_eq_true rfl⟩ ⟨Nat.le_of_ble_eq_true rfl, Nat.le_of_ble_eq_true rfl⟩ ?_
    refine mm_istore_n (L' := [(1, .int q4.1), (0, .ref p0)]) dX8_packet_29 rfl (by decide) rfl ?_
    refine mm_aload_n (j := 1) dX8_packet_30 rfl rfl ?_
    refine mm_iconst (v := 1) dX8_packet_31 (by decide) ?_
    obtain ⟨hs5, hf⟩ := mm_sh_s hf
    obtain ⟨q6, hq6, hf⟩ := mm_on_s hf
    refine mm_callVi cd_ok (kX8_valueAt p0 1 hq6) hs5 rfl (Or.inl tw_488) cdX8_valueAt tw_490 ts_16 nmX8_valueAt rfl rfl (by simp only [List.map_cons, List.map_nil, mm_rf_cat]; exact Nat.le_of_ble_eq_true rfl) dX8_packet_32 ⟨Nat.le_of_ble_eq_true rfl, Nat.le_of_ble_eq_true rfl⟩ ⟨Nat.le_of_ble_eq_true rfl, Nat.le_of_ble_eq_true rfl⟩ ?_
    refine mm_istore_n (L' := [(2, .int q6.1), (1, .int q4.1), (0, .ref p0)]) dX8_packet_35 rfl (by decide) rfl ?_
    refine mm_iload_n (j := 1) dX8_packet_36 rfl rfl ?_
    refine mm_iconst (v := (-1)) dX8_packet_37 (by decide) ?_
    refine mm_icmp_eq (tgt := 46) dX8_packet_38 (by decide) (fun c7 => ?_) (fun c7 => ?_)
    · rw [if_pos c7] at hf
      refine mm_sub [2, 1, 0] rfl ?_
      exact kX8_packet_46  p0 q4.1 q6.1 q6.2 hf
    · rw [if_neg c7] at hf
      refine mm_iload_n (j := 0) dX8_packet_41 rfl rfl ?_
      refine mm_iconst (v := (-1)) dX8_packet_42 (by decide) ?_
      refine mm_icmp_ne (tgt := 58) dX8_packet_43 (by decide) (fun c14 => ?_) (fun c14 => ?_)
      · rw [if_neg c14] at hf
        refine mm_iload_n (j := 1) dX8_packet_58 rfl rfl ?_
        refine mm_bipush (v := 8) dX8_packet_59 (by decide) ?_
        refine mm_idiv dX8_packet_61 (by decide) ?_
        refine mm_iconst (v := 2) dX8_packet_62 (by decide) ?_
        refine mm_iload_n (j := 0) dX8_packet_63 rfl rfl ?_
        refine mm_imul dX8_packet_64 ?_
        refine mm_iadd dX8_packet_65 ?_
        refine mm_istore_n (L' := [(3, .int ((q4.1 / 8) + (2 * q6.1))), (2, .int q6.1), (1, .int q4.1), (0, .ref p0)]) dX8_packet_66 rfl (by decide) rfl ?_
        refine mm_aload_n (j := 3) dX8_packet_67 rfl rfl ?_
        refine mm_iload_n (j := 2) dX8_packet_68 rfl rfl ?_
        refine mm_callSi cd_ok (kX8_magazineOf q4.1 _ rfl) (Or.inl tw_492) cdX8_magazineOf tw_493 nmX8_magazineOf rfl rfl (by simp only [List.map_cons, List.map_nil, mm_rf_cat]; exact Nat.le_of_ble_eq_true rfl) dX8_packet_69 ⟨Nat.le_of_ble_eq_true rfl, Nat.le_of_ble_eq_true rfl⟩ ⟨Nat.le_of_ble_eq_true rfl, Nat.le_of_ble_eq_true rfl⟩ ?_
        refine mm_iload_n (j := 0) dX8_packet_72 rfl rfl ?_
        obtain ⟨hs15, hf⟩ := mm_sh_s hf
        obtain ⟨q16, hq16, hf⟩ := mm_on_s hf
        refine mm_callVv cd_ok (kX8_takeRow p0 (fX8_magazineOf q4.1) ((q4.1 / 8) + (2 * q6.1)) hq16) hs15 rfl (Or.inl tw_495) cdX8_takeRow tw_497 ts_17 nmX8_takeRow rfl rfl (by simp only [List.map_cons, List.map_nil, mm_rf_cat]; exact Nat.le_of_ble_eq_true rfl) dX8_packet_73 ⟨Nat.le_of_ble_eq_true rfl, Nat.le_of_ble_eq_true rfl⟩ ⟨Nat.le_of_ble_eq_true rfl, Nat.le_of_ble_eq_true rfl⟩ ?_
        refine mm_iload_n (j := 0) dX8_packet_76 rfl rfl ?_
        cases hf
        refine mm_widen (ck' := rmX8_packet.cells) (sk' := rmX8_packet.slots) (Nat.le_of_ble_eq_true rfl) (Nat.le_of_ble_eq_true rfl) ?_
        exact mm_x (mm_iret rfl rfl dX8_packet_77 ⟨_, rfl, rfl, rfl⟩)
      · rw [if_pos c14] at hf
        refine mm_sub [2, 1, 0] rfl ?_
        refine mm_widen (ck' := 0) (sk' := 0) (Nat.le_of_ble_eq_true rfl) (Nat.le_of_ble_eq_true rfl) ?_
        exact kX8_packet_46  p0 q4.1 q6.1 q6.2 hf
  · rw [if_neg c2] at hf
    cases hf
    exact mm_throw cd_ok rfl rfl th_X8_150_154 (List.mem_of_getElem? (i := 5) rfl) dX8_packet_9 dX8_packet_12 dX8_packet_13 dX8_packet_15 dX8_packet_18 (Nat.le_of_ble_eq_true rfl) (by simp only [List.map_cons, List.map_nil, mm_rf_cat]; exact Nat.le_of_ble_eq_true rfl) (Nat.le_of_ble_eq_true rfl) (Nat.le_of_ble_eq_true rfl) (Nat.le_of_ble_eq_true rfl) (Nat.le_of_ble_eq_true rfl)
