theorem dX0_putScreen_0 : decode cX0_putScreen 0 = .ok (.aload_n 0, 1) := by decide +kernel
theorem dX0_putScreen_1 : decode cX0_putScreen 1 = .ok (.getfield 21, 3) := by decide +kernel
theorem dX0_putScreen_4 : decode cX0_putScreen 4 = .ok (.iconst 1, 1) := by decide +kernel
theorem dX0_putScreen_5 : decode cX0_putScreen 5 = .ok (.if_icmp .ne 8, 3) := by decide +kernel
theorem dX0_putScreen_8 : decode cX0_putScreen 8 = .ok (.aload_n 0, 1) := by decide +kernel
theorem dX0_putScreen_9 : decode cX0_putScreen 9 = .ok (.getfield 18, 3) := by decide +kernel
theorem dX0_putScreen_12 : decode cX0_putScreen 12 = .ok (.areturn, 1) := by decide +kernel
theorem dX0_putScreen_13 : decode cX0_putScreen 13 = .ok (.aload_n 0, 1) := by decide +kernel
theorem dX0_putScreen_14 : decode cX0_putScreen 14 = .ok (.getfield 21, 3) := by decide +kernel
theorem dX0_putScreen_17 : decode cX0_putScreen 17 = .ok (.iconst 2, 1) := by decide +kernel
theorem dX0_putScreen_18 : decode cX0_putScreen 18 = .ok (.if_icmp .eq 11, 3) := by decide +kernel
theorem dX0_putScreen_21 : decode cX0_putScreen 21 = .ok (.aload_n 0, 1) := by decide +kernel
theorem dX0_putScreen_22 : decode cX0_putScreen 22 = .ok (.getfield 21, 3) := by decide +kernel
theorem dX0_putScreen_25 : decode cX0_putScreen 25 = .ok (.iconst 3, 1) := by decide +kernel
theorem dX0_putScreen_26 : decode cX0_putScreen 26 = .ok (.if_icmp .ne 10, 3) := by decide +kernel
theorem dX0_putScreen_29 : decode cX0_putScreen 29 = .ok (.aload_n 0, 1) := by decide +kernel
theorem dX0_putScreen_30 : decode cX0_putScreen 30 = .ok (.getfield 12, 3) := by decide +kernel
theorem dX0_putScreen_33 : decode cX0_putScreen 33 = .ok (.goto 4, 3) := by decide +kernel
theorem dX0_putScreen_36 : decode cX0_putScreen 36 = .ok (.aconst_null, 1) := by decide +kernel
theorem dX0_putScreen_37 : decode cX0_putScreen 37 = .ok (.areturn, 1) := by decide +kernel
theorem nmX0_putScreen : mm_nm yX0_putScreen 0 := ⟨by decide, by decide, by decide +kernel⟩
theorem cdX0_putScreen : mm_cd cd_Y yX0_putScreen cX0_putScreen 1 (some (.object "CaptionDesk$Screen")) := ⟨tw_325, tw_6⟩
abbrev rmX0_putScreen : Room := { frames := 0, cells := 0, slots := 0, locals := 0 }
def fX0_putScreen (p0 : Nat) (σ : mm_M) : Option (Option Nat × mm_M) :=
  mm_sh σ p0 (.inl 0) ((if (mm_I σ p0 2) = 1 then some (mm_R σ p0 1, σ) else (if (mm_I σ p0 2) = 2 then some (mm_R σ p0 0, σ) else (if (mm_I σ p0 2) = 3 then some (mm_R σ p0 0, σ) else some (none, σ)))))
set_option maxHeartbeats 4000000 in
set_option maxRecDepth 100000 in
theorem kX0_putScreen {G : mm_G} {A : Nat → Prop} (p0 : Nat) {σ : mm_M} {R : (Option Nat × mm_M)} (hf : fX0_putScreen p0 σ = some R) : mm_C cd_Y G yX0_putScreen cX0_putScreen 1 (some (.object "CaptionDesk$Screen")) rmX0_putScreen A [.ref p0] σ (mm_Pr R.1 R.2) := by
  refine mm_C.of (by decide) (Nat.le_of_ble_eq_true rfl) ?_
  unfold fX0_putScreen at hf
  have e0 : lv_args 0 [.ref p0] = [(0, .ref p0)] := rfl
  rw [e0]
  generalize hini : ((yX0_putScreen.name == "<init>"), none) = ini
  clear e0
  clear hini
  refine mm_aload_n (j := 0) dX0_putScreen_0 rfl rfl ?_
  obtain ⟨hs1, hf⟩ := mm_sh_s hf
  refine mm_get (c := 0) (k := 2) (v := .int (mm_I σ p0 2)) cd_ok ⟨_, _, _, rfl, by decide, Or.inl tw_115⟩ hs1 rfl dX0_putScreen_1 ?_
  refine mm_iconst (v := 1) dX0_putScreen_4 (by decide) ?_
  refine mm_icmp_ne (tgt := 13) dX0_putScreen_5 (by decide) (fun c2 => ?_) (fun c2 => ?_)
  · rw [if_neg c2] at hf
    refine mm_aload_n (j := 0) dX0_putScreen_13 rfl rfl ?_
    refine mm_get (c := 0) (k := 2) (v := .int (mm_I σ p0 2)) cd_ok ⟨_, _, _, rfl, by decide, Or.inl tw_115⟩ hs1 rfl dX0_putScreen_14 ?_
    refine mm_iconst (v := 2) dX0_putScreen_17 (by decide) ?_
    refine mm_icmp_eq (tgt := 29) dX0_putScreen_18 (by decide) (fun c3 => ?_) (fun c3 => ?_)
    · rw [if_pos c3] at hf
      refine mm_aload_n (j := 0) dX0_putScreen_29 rfl rfl ?_
      refine mm_get (c := 0) (k := 0) (v := va_rf (mm_R σ p0 0)) cd_ok ⟨_, _, _, rfl, by decide, Or.inl tw_111⟩ hs1 rfl dX0_putScreen_30 ?_
      refine mm_goto (tgt := 37) dX0_putScreen_33 (by decide) ?_
      cases hf
      refine mm_widen (ck' := rmX0_putScreen.cells) (sk' := rmX0_putScreen.slots) (Nat.le_of_ble_eq_true rfl) (Nat.le_of_ble_eq_true rfl) ?_
      exact mm_aret rfl rfl (mm_rf_of (mm_R σ p0 0)) dX0_putScreen_37 ⟨rfl, rfl⟩
    · rw [if_neg c3] at hf
      refine mm_aload_n (j := 0) dX0_putScreen_21 rfl rfl ?_
      refine mm_get (c := 0) (k := 2) (v := .int (mm_I σ p0 2)) cd_ok ⟨_, _, _, rfl, by decide, Or.inl tw_115⟩ hs1 rfl dX0_putScreen_22 ?_
      refine mm_iconst (v := 3) dX0_putScreen_25 (by decide) ?_
      refine mm_icmp_ne (tgt := 36) dX0_putScreen_26 (by decide) (fun c4 => ?_) (fun c4 => ?_)
      · rw [if_neg c4] at hf
        refine mm_null dX0_putScreen_36 ?_
        cases hf
        refine mm_widen (ck' := rmX0_putScreen.cells) (sk' := rmX0_putScreen.slots) (Nat.le_of_ble_eq_true rfl) (Nat.le_of_ble_eq_true rfl) ?_
        exact mm_aret rfl rfl (mm_rf_of (none)) dX0_putScreen_37 ⟨rfl, rfl⟩
      · rw [if_pos c4] at hf
        refine mm_aload_n (j := 0) dX0_putScreen_29 rfl rfl ?_
        refine mm_get (c := 0) (k := 0) (v := va_rf (mm_R σ p0 0)) cd_ok ⟨_, _, _, rfl, by decide, Or.inl tw_111⟩ hs1 rfl dX0_putScreen_30 ?_
        refine mm_goto (tgt := 37) dX0_putScreen_33 (by decide) ?_
        cases hf
        refine mm_widen (ck' := rmX0_putScreen.cells) (sk' := rmX0_putScreen.slots) (Nat.le_of_ble_eq_true rfl) (Nat.le_of_ble_eq_true rfl) ?_
        exact mm_aret rfl rfl (mm_rf_of (mm_R σ p0 0)) dX0_putScreen_37 ⟨rfl, rfl⟩
  · rw [if_pos c2] at hf
    refine mm_aload_n (j := 0) dX0_putScreen_8 rfl rfl ?_
    refine mm_get (c := 0) (k := 1) (v := va_rf (mm_R σ p0 1)) cd_ok ⟨_, _, _, rfl, by decide, Or.inl tw_113⟩ hs1 rfl dX0_putScreen_9 ?_
    cases hf
    refine mm_widen (ck' := rmX0_putScreen.cells) (sk' := rmX0_putScreen.slots) (Nat.le_of_ble_eq_true rfl) (Nat.le_of_ble_eq_true rfl) ?_
    exact mm_aret rfl rfl (mm_rf_of (mm_R σ p0 1)) dX0_putScreen_12 ⟨rfl, rfl⟩
theorem dX0_skipColumns_0 : decode cX0_skipColumns 0 = .ok (.aload_n 0, 1) := by decide +kernel
theorem dX0_skipColumns_1 : decode cX0_skipColumns 1 = .ok (.getfield 28, 3) := by decide +kernel
theorem dX0_skipColumns_4 : decode cX0_skipColumns 4 = .ok (.bipush 32, 2) := by decide +kernel
theorem dX0_skipColumns_6 : decode cX0_skipColumns 6 = .ok (.if_icmp .ge 18, 3) := by decide +kernel
theorem dX0_skipColumns_9 : decode cX0_skipColumns 9 = .ok (.aload_n 0, 1) := by decide +kernel
theorem dX0_skipColumns_10 : decode cX0_skipColumns 10 = .ok (.aload_n 0, 1) := by decide +kernel
theorem dX0_skipColumns_11 : decode cX0_skipColumns 11 = .ok (.getfield 28, 3) := by decide +kernel
theorem dX0_skipColumns_14 : decode cX0_skipColumns 14 = .ok (.iload_n 1, 1) := by decide +kernel
theorem dX0_skipColumns_15 : decode cX0_skipColumns 15 = .ok (.iadd, 1) := by decide +kernel
theorem dX0_skipColumns_16 : decode cX0_skipColumns 16 = .ok (.bipush 31, 2) := by decide +kernel
theorem dX0_skipColumns_18 : decode cX0_skipColumns 18 = .ok (.invokestatic 41, 3) := by decide +kernel
theorem dX0_skipColumns_21 : decode cX0_skipColumns 21 = .ok (.putfield 28, 3) := by decide +kernel
theorem dX0_skipColumns_24 : decode cX0_skipColumns 24 = .ok (.return_, 1) := by decide +kernel
theorem nmX0_skipColumns : mm_nm yX0_skipColumns 1 := ⟨by decide, by decide, by decide +kernel⟩
theorem cdX0_skipColumns : mm_cd cd_Y yX0_skipColumns cX0_skipColumns 2 none := ⟨tw_419, tw_6⟩
abbrev rmX0_skipColumns : Room := { frames := 1, cells := 0, slots := 0, locals := 14 }
def fX0_skipColumns (p0 : Nat) (p1 : Int32) (σ : mm_M) : Option mm_M :=
  mm_sh σ p0 (.inl 0) ((if 32 ≤ (mm_I σ p0 4) then some (σ) else mm_let (mm_wI σ p0 4 (if 31 < ((mm_I σ p0 4) + p1) then 31 else ((mm_I σ p0 4) + p1))) fun s3 => some (s3)))
set_option maxHeartbeats 4000000 in
set_option maxRecDepth 100000 in
theorem kX0_skipColumns {G : mm_G} {A : Nat → Prop} (p0 : Nat) (p1 : Int32) {σ : mm_M} {R : mm_M} (hf : fX0_skipColumns p0 p1 σ = some R) : mm_C cd_Y G yX0_skipColumns cX0_skipColumns 2 none rmX0_skipColumns A [.ref p0, .int p1] σ (mm_Pv R) := by
  refine mm_C.of (by decide) (Nat.le_of_ble_eq_true rfl) ?_
  unfold fX0_skipColumns at hf
  have e0 : lv_args 0 [.ref p0, .int p1] = [(0, .ref p0), (1, .int p1)] := rfl
  rw [e0]
  generalize hini : ((yX0_skipColumns.name == "<init>"), none) = ini
  clear e0
  clear hini
  refine mm_aload_n (j := 0) dX0_skipColumns_0 rfl rfl ?_
  obtain ⟨hs1, hf⟩ := mm_sh_s hf
  refine mm_get (c := 0) (k := 4) (v := .int (mm_I σ p0 4)) cd_ok ⟨_, _, _, rfl, by decide, Or.inl tw_119⟩ hs1 rfl dX0_skipColumns_1 ?_
  refine mm_bipush (v := 32) dX0_skipColumns_4 (by decide) ?_
  refine mm_icmp_ge (tgt := 24) dX0_skipColumns_6 (by decide) (fun c2 => ?_) (fun c2 => ?_)
  · rw [if_pos c2] at hf
    cases hf
    refine mm_widen (ck' := rmX0_skipColumns.cells) (sk' := rmX0_skipColumns.slots) (Nat.le_of_ble_eq_true rfl) (Nat.le_of_ble_eq_true rfl) ?_
    exact mm_vret rfl dX0_skipColumns_24 ⟨rfl, rfl⟩
  · rw [if_neg c2] at hf
    refine mm_aload_n (j := 0) dX0_skipColumns_9 rfl rfl ?_
    refine mm_aload_n (j := 0) dX0_skipColumns_10 rfl rfl ?_
    refine mm_get (c := 0) (k := 4) (v := .int (mm_I σ p0 4)) cd_ok ⟨_, _, _, rfl, by decide, Or.inl tw_119⟩ hs1 rfl dX0_skipColumns_11 ?_
    refine mm_iload_n (j := 1) dX0_skipColumns_14 rfl rfl ?_
    refine mm_iadd dX0_skipColumns_15 ?_
    refine mm_bipush (v := 31) dX0_skipColumns_16 (by decide) ?_
    refine mm_mmin tw_326 tw_327 tw_14 tw_328 (by decide) (by simp only [List.map_cons, List.map_nil, mm_rf_cat]; exact Nat.le_of_ble_eq_true rfl) (by decide) (by decide) dX0_skipColumns_18 ?_
    refine mm_putI (c := 0) (k := 4) cd_ok ⟨_, _, _, rfl, by decide, rfl, Or.inl tw_119⟩ hs1 rfl rfl rfl dX0_skipColumns_21 ?_
    obtain ⟨s3, hs3, hf⟩ := mm_let_s hf
    rw [hs3]
    cases hf
    refine mm_widen (ck' := rmX0_skipColumns.cells) (sk' := rmX0_skipColumns.slots) (Nat.le_of_ble_eq_true rfl) (Nat.le_of_ble_eq_true rfl) ?_
    exact mm_vret rfl dX0_skipColumns_24 ⟨rfl, rfl⟩
theorem dX0_changeScreens_0 : decode cX0_changeScreens 0 = .ok (.aload_n 0, 1) := by decide +kernel
theorem dX0_changeScreens_1 : decode cX0_changeScreens 1 = .ok (.getfield 12, 3) := by decide +kernel
theorem dX0_changeScreens_4 : decode cX0_changeScreens 4 = .ok (.astore_n 1, 1) := by decide +kernel
theorem dX0_changeScreens_5 : decode cX0_changeScreens 5 = .ok (.aload_n 0, 1) := by decide +kernel
theorem dX0_changeScreens_6 : decode cX0_changeScreens 6 = .ok (.aload_n 0, 1) := by decide +kernel
theorem dX0_changeScreens_7 : decode cX0_changeScreens 7 = .ok (.getfield 18, 3) := by decide +kernel
theorem dX0_changeScreens_10 : decode cX0_changeScreens 10 = .ok (.putfield 12, 3) := by decide +kernel
theorem dX0_changeScreens_13 : decode cX0_changeScreens 13 = .ok (.aload_n 0, 1) := by decide +kernel
theorem dX0_changeScreens_14 : decode cX0_changeScreens 14 = .ok (.aload_n 1, 1) := by decide +kernel
theorem dX0_changeScreens_15 : decode cX0_changeScreens 15 = .ok (.putfield 18, 3) := by decide +kernel
theorem dX0_changeScreens_18 : decode cX0_changeScreens 18 = .ok (.aload_n 0, 1) := by decide +kernel
theorem dX0_changeScreens_19 : decode cX0_changeScreens 19 = .ok (.iconst 1, 1) := by decide +kernel
theorem dX0_changeScreens_20 : decode cX0_changeScreens 20 = .ok (.putfield 21, 3) := by decide +kernel
theorem dX0_changeScreens_23 : decode cX0_changeScreens 23 = .ok (.return_, 1) := by decide +kernel
theorem nmX0_changeScreens : mm_nm yX0_changeScreens 0 := ⟨by decide, by decide, by decide +kernel⟩
theorem cdX0_changeScreens : mm_cd cd_Y yX0_changeScreens cX0_changeScreens 2 none := ⟨tw_415, tw_6⟩
abbrev rmX0_changeScreens : Room := { frames := 0, cells := 0, slots := 0, locals := 0 }
def fX0_changeScreens (p0 : Nat) (σ : mm_M) : Option mm_M :=
  mm_sh σ p0 (.inl 0) (mm_let (mm_wR σ p0 0 (mm_R σ p0 1)) fun s2 => mm_let (mm_wR s2 p0 1 (mm_R σ p0 0)) fun s3 => mm_let (mm_wI s3 p0 2 1) fun s4 => some (s4))
set_option maxHeartbeats 4000000 in
set_option maxRecDepth 100000 in
theorem kX0_changeScreens {G : mm_G} {A : Nat → Prop} (p0 : Nat) {σ : mm_M} {R : mm_M} (hf : fX0_changeScreens p0 σ = some R) : mm_C cd_Y G yX0_changeScreens cX0_changeScreens 2 none rmX0_changeScreens A [.ref p0] σ (mm_Pv R) := by
  refine mm_C.of (by decide) (Nat.le_of_ble_eq_true rfl) ?_
  unfold fX0_changeScreens at hf
  have e0 : lv_args 0 [.ref p0] = [(0, .ref p0)] := rfl
  rw [e0]
  generalize hini : ((yX0_changeScreens.name == "<init>"), none) = ini
  clear e0
  clear hini
  refine mm_aload_n (j := 0) dX0_changeScreens_0 rfl rfl ?_
  obtain ⟨hs1, hf⟩ := mm_sh_s hf
  refine mm_get (c := 0) (k := 0) (v := va_rf (mm_R σ p0 0)) cd_ok ⟨_, _, _, rfl, by decide, Or.inl tw_111⟩ hs1 rfl dX0_changeScreens_1 ?_
  refine mm_astore_nR (L' := [(1, va_rf (mm_R σ p0 0)), (0, .ref p0)]) dX0_changeScreens_4 rfl (by decide) rfl ?_
  refine mm_aload_n (j := 1) dX0_changeScreens_5 rfl rfl ?_
  refine mm_aload_n (j := 1) dX0_changeScreens_6 rfl rfl ?_
  refine mm_get (c := 0) (k := 1) (v := va_rf (mm_R σ p0 1)) cd_ok ⟨_, _, _, rfl, by decide, Or.inl tw_113⟩ hs1 rfl dX0_changeScreens_7 ?_
  refine mm_putR (c := 0) (k := 0) cd_ok (mm_R σ p0 1) ⟨_, _, _, rfl, by decide, rfl, Or.inl tw_111⟩ hs1 rfl dX0_changeScreens_10 ?_
  obtain ⟨s2, hs2, hf⟩ := mm_let_s hf
  rw [hs2]
  refine mm_aload_n (j := 1) dX0_changeScreens_13 rfl rfl ?_
  refine mm_aload_nR (j := 0) dX0_changeScreens_14 rfl rfl ?_
  refine mm_putR (c := 0) (k := 1) cd_ok (mm_R σ p0 0) ⟨_, _, _, rfl, by decide, rfl, Or.inl tw_113⟩ (mm_ke hs2 hs1) rfl dX0_changeScreens_15 ?_
  obtain ⟨s3, hs3, hf⟩ := mm_let_s hf
  rw [hs3]
  refine mm_aload_n (j := 1) dX0_changeScreens_18 rfl rfl ?_
  refine mm_iconst (v := 1) dX0_changeScreens_19 (by decide) ?_
  refine mm_putI (c := 0) (k := 2) cd_ok ⟨_, _, _, rfl, by decide, rfl, Or.inl tw_115⟩ (mm_ke hs3 (mm_ke hs2 hs1)) rfl rfl rfl dX0_changeScreens_20 ?_
  obtain ⟨s4, hs4, hf⟩ := mm_let_s hf
  rw [hs4]
  cases hf
  refine mm_widen (ck' := rmX0_changeScreens.cells) (sk' := rmX0_changeScreens.slots) (Nat.le_of_ble_eq_true rfl) (Nat.le_of_ble_eq_true rfl) ?_
  exact mm_vret rfl dX0_changeScreens_23 ⟨rfl, rfl⟩
theorem dX1_init_0 : decode cX1_init 0 = .ok (.aload_n 0, 1) := by decide +kernel
theorem dX1_init_1 : decode cX1_init 1 = .ok (.invokespecial 3, 3) := by decide +kernel
theorem dX1_init_4 : decode cX1_init 4 = .ok (.aload_n 0, 1) := by decide +kernel
theorem dX1_init_5 : decode cX1_init 5 = .ok (.iconst (-1), 1) := by decide +kernel
theorem dX1_init_6 : decode cX1_init 6 = .ok (.putfield 9, 3) := by decide +kernel
theorem dX1_init_9 : decode cX1_init 9 = .ok (.aload_n 0, 1) := by decide +kernel
theorem dX1_init_10 : decode cX1_init 10 = .ok (.iload_n 1, 1) := by decide +kernel
theorem dX1_init_11 : decode cX1_init 11 = .ok (.putfield 15, 3) := by decide +kernel
theorem dX1_init_14 : decode cX1_init 14 = .ok (.aload_n 0, 1) := by decide +kernel
theorem dX1_init_15 : decode cX1_init 15 = .ok (.iload_n 2, 1) := by decide +kernel
theorem dX1_init_16 : decode cX1_init 16 = .ok (.putfield 18, 3) := by decide +kernel
theorem dX1_init_19 : decode cX1_init 19 = .ok (.aload_n 0, 1) := by decide +kernel
theorem dX1_init_20 : decode cX1_init 20 = .ok (.aload_n 3, 1) := by decide +kernel
theorem dX1_init_21 : decode cX1_init 21 = .ok (.putfield 21, 3) := by decide +kernel
theorem dX1_init_24 : decode cX1_init 24 = .ok (.return_, 1) := by decide +kernel
theorem nmX1_init : mm_nm yX1_init 3 := ⟨by decide, by decide, by decide +kernel⟩
theorem cdX1_init : mm_cd cd_Y yX1_init cX1_init 4 none := ⟨tw_753, tw_19⟩
abbrev rmX1_init : Room := { frames := 1, cells := 0, slots := 0, locals := 12 }
def fX1_init (p0 : Nat) (p1 : Int32) (p2 : Int32) (p3 : Nat) (σ : mm_M) : Option mm_M :=
  mm_sh σ p0 (.inl 1) (mm_let (mm_wI σ p0 3 (-1)) fun s2 => mm_let (mm_wI s2 p0 0 p1) fun s3 => mm_let (mm_wI s3 p0 1 p2) fun s4 => mm_let (mm_wR s4 p0 2 (some p3)) fun s5 => some (s5))
set_option maxHeartbeats 4000000 in
set_option maxRecDepth 100000 in
theorem kX1_init {G : mm_G} {A : Nat → Prop} (p0 : Nat) (p1 : Int32) (p2 : Int32) (p3 : Nat) {σ : mm_M} {R : mm_M} (hf : fX1_init p0 p1 p2 p3 σ = some R) : mm_C cd_Y G yX1_init cX1_init 4 none rmX1_init A [.ref p0, .int p1, .int p2, .ref p3] σ (mm_Pv R) := by
  refine mm_C.of (by decide) (Nat.le_of_ble_eq_true rfl) ?_
  unfold fX1_init at hf
  have e0 : lv_args 0 [.ref p0, .int p1, .int p2, .ref p3] = [(0, .ref p0), (1, .int p1), (2, .int p2), (3, .ref p3)] := rfl
  rw [e0]
  have hini : (yX1_init.name == "<init>") = true := by decide
  rw [hini]
  clear e0 hini
  refine mm_aload_n (j := 0) dX1_init_0 rfl rfl ?_
  refine mm_objInit tw_754 tw_26 tw_27 dX1_init_1 (by decide) (by simp only [List.map_cons, List.map_nil, mm_rf_cat]; exact Nat.le_of_ble_eq_true rfl) ?_
  refine mm_aload_n (j := 0) dX1_init_4 rfl rfl ?_
  refine mm_iconst (v := (-1)) dX1_init_5 (by decide) ?_
  obtain ⟨hs1, hf⟩ := mm_sh_s hf
  refine mm_putI (c := 1) (k := 3) cd_ok ⟨_, _, _, rfl, by decide, rfl, Or.inl tw_761⟩ hs1 rfl rfl rfl dX1_init_6 ?_
  obtain ⟨s2, hs2, hf⟩ := mm_let_s hf
  rw [hs2]
  refine mm_aload_n (j := 0) dX1_init_9 rfl rfl ?_
  refine mm_iload_n (j := 1) dX1_init_10 rfl rfl ?_
  refine mm_putFI (c := 1) (k := 0) cd_ok rfl ⟨_, _, _, rfl, by decide, rfl, rfl, tw_755⟩ (mm_ke hs2 hs1) rfl rfl rfl dX1_init_11 ?_
  obtain ⟨s3, hs3, hf⟩ := mm_let_s hf
  rw [hs3]
  refine mm_aload_n (j := 0) dX1_init_14 rfl rfl ?_
  refine mm_iload_n (j := 2) dX1_init_15 rfl rfl ?_
  refine mm_putFI (c := 1) (k := 1) cd_ok rfl ⟨_, _, _, rfl, by decide, rfl, rfl, tw_757⟩ (mm_ke hs3 (mm_ke hs2 hs1)) rfl rfl rfl dX1_init_16 ?_
  obtain ⟨s4, hs4, hf⟩ := mm_let_s hf
  rw [hs4]
  refine mm_aload_n (j := 0) dX1_init_19 rfl rfl ?_
  refine mm_aload_n (j := 3) dX1_init_20 rfl rfl ?_
  refine mm_putFR (c := 1) (k := 2) cd_ok (some p3) rfl ⟨_, _, _, rfl, by decide, rfl, rfl, tw_759⟩ (mm_ke hs4 (mm_ke hs3 (mm_ke hs2 hs1))) rfl dX1_init_21 ?_
  obtain ⟨s5, hs5, hf⟩ := mm_let_s hf
  rw [hs5]
  cases hf
  refine mm_widen (ck' := rmX1_init.cells) (sk' := rmX1_init.slots) (Nat.le_of_ble_eq_true rfl) (Nat.le_of_ble_eq_true rfl) ?_
  exact mm_vret rfl dX1_init_24 ⟨rfl, rfl⟩
theorem dX2_init_0 : decode cX2_init 0 = .ok (.aload_n 0, 1) := by decide +kernel
theorem dX2_init_1 : decode cX2_init 1 = .ok (.invokespecial 3, 3) := by decide +kernel
theorem dX2_init_4 : decode cX2_init 4 = .ok (.aload_n 0, 1) := by decide +kernel
theorem dX2_init_5 : decode cX2_init 5 = .ok (.sipush 400, 3) := by decide +kernel
theorem dX2_init_8 : decode cX2_init 8 = .ok (.newarray .int, 2) := by decide +kernel
theorem dX2_init_10 : decode cX2_init 10 = .ok (.putfield 9, 3) := by decide +kernel
theorem dX2_init_13 : decode cX2_init 13 = .ok (.return_, 1) := by decide +kernel
theorem nmX2_init : mm_nm yX2_init 0 := ⟨by decide, by decide, by decide +kernel⟩
theorem cdX2_init : mm_cd cd_Y yX2_init cX2_init 1 none := ⟨tw_81, tw_5⟩
abbrev rmX2_init : Room := { frames := 1, cells := 1, slots := 400, locals := 12 }
def fX2_init (p0 : Nat) (σ : mm_M) : Option mm_M :=
  mm_let (mm_new σ (.inr (0, 400))) fun s1 => mm_sh s1 p0 (.inl 2) (mm_let (mm_wR s1 p0 0 (some σ.1)) fun s3 => some (s3))
set_option maxHeartbeats 4000000 in
set_option maxRecDepth 100000 in
theorem kX2_init {G : mm_G} {A : Nat → Prop} (p0 : Nat) {σ : mm_M} {R : mm_M} (hf : fX2_init p0 σ = some R) : mm_C cd_Y G yX2_init cX2_init 1 none rmX2_init A [.ref p0] σ (mm_Pv R) := by
  refine mm_C.of (by decide) (Nat.le_of_ble_eq_true rfl) ?_
  unfold fX2_init at hf
  have e0 : lv_args 0 [.ref p0] = [(0, .ref p0)] := rfl
  rw [e0]
  have hini : (yX2_init.name == "<init>") = true := by decide
  rw [hini]
  clear e0 hini
  refine mm_aload_n (j := 0) dX2_init_0 rfl rfl ?_
  refine mm_objInit tw_82 tw_26 tw_27 dX2_init_1 (by decide) (by simp only [List.map_cons, List.map_nil, mm_rf_cat]; exact Nat.le_of_ble_eq_true rfl) ?_
  refine mm_aload_n (j := 0) dX2_init_4 rfl rfl ?_
  refine mm_sipush (v := 400) dX2_init_5 (by decide) ?_
  refine mm_newa (atype := .int) (t := 0) (N' := 400) rfl rfl tw_46 (by decide) (by decide) (by decide) (Nat.le_of_ble_eq_true rfl) (Nat.le_of_ble_eq_true rfl) dX2_init_8 ?_
  obtain ⟨s1, hs1, hf⟩ := mm_let_s hf
  rw [hs1]
  obtain ⟨hs2, hf⟩ := mm_sh_s hf
  refine mm_putFR (c := 2) (k := 0) cd_ok (some σ.1) rfl ⟨_, _, _, rfl, by decide, rfl, rfl, tw_83⟩ hs2 rfl dX2_init_10 ?_
  obtain ⟨s3, hs3, hf⟩ := mm_let_s hf
  rw [hs3]
  cases hf
  refine mm_widen (ck' := rmX2_init.cells) (sk' := rmX2_init.slots) (Nat.le_of_ble_eq_true rfl) (Nat.le_of_ble_eq_true rfl) ?_
  exact mm_vret rfl dX2_init_13 ⟨rfl, rfl⟩
theorem dX2_areThose_0 : decode cX2_areThose 0 = .ok (.aload_n 1, 1) := by decide +kernel
theorem dX2_areThose_1 : decode cX2_areThose 1 = .ok (.arraylength, 1) := by decide +kernel
theorem dX2_areThose_2 : decode cX2_areThose 2 = .ok (.aload_n 0, 1) := by decide +kernel
theorem dX2_areThose_3 : decode cX2_areThose 3 = .ok (.getfield 25, 3) := by decide +kernel
theorem dX2_areThose_6 : decode cX2_areThose 6 = .ok (.if_icmp .eq 5, 3) := by decide +kernel
theorem dX2_areThose_9 : decode cX2_areThose 9 = .ok (.iconst 0, 1) := by decide +kernel
theorem dX2_areThose_10 : decode cX2_areThose 10 = .ok (.ireturn, 1) := by decide +kernel
theorem dX2_areThose_11 : decode cX2_areThose 11 = .ok (.iconst 0, 1) := by decide +kernel
theorem dX2_areThose_12 : decode cX2_areThose 12 = .ok (.istore_n 2, 1) := by decide +kernel
theorem dX2_areThose_13 : decode cX2_areThose 13 = .ok (.iload_n 2, 1) := by decide +kernel
theorem dX2_areThose_14 : decode cX2_areThose 14 = .ok (.aload_n 1, 1) := by decide +kernel
theorem dX2_areThose_15 : decode cX2_areThose 15 = .ok (.arraylength, 1) := by decide +kernel
theorem dX2_areThose_16 : decode cX2_areThose 16 = .ok (.if_icmp .ge 30, 3) := by decide +kernel
theorem dX2_areThose_19 : decode cX2_areThose 19 = .ok (.iload_n 2, 1) := by decide +kernel
theorem dX2_areThose_20 : decode cX2_areThose 20 = .ok (.sipush 400, 3) := by decide +kernel
theorem dX2_areThose_23 : decode cX2_areThose 23 = .ok (.if_icmp .ge 23, 3) := by decide +kernel
theorem dX2_areThose_26 : decode cX2_areThose 26 = .ok (.aload_n 0, 1) := by decide +kernel
theorem dX2_areThose_27 : decode cX2_areThose 27 = .ok (.getfield 9, 3) := by decide +kernel
theorem dX2_areThose_30 : decode cX2_areThose 30 = .ok (.iload_n 2, 1) := by decide +kernel
theorem dX2_areThose_31 : decode cX2_areThose 31 = .ok (.iaload, 1) := by decide +kernel
theorem dX2_areThose_32 : decode cX2_areThose 32 = .ok (.aload_n 1, 1) := by decide +kernel
theorem dX2_areThose_33 : decode cX2_areThose 33 = .ok (.iload_n 2, 1) := by decide +kernel
theorem dX2_areThose_34 : decode cX2_areThose 34 = .ok (.iaload, 1) := by decide +kernel
theorem dX2_areThose_35 : decode cX2_areThose 35 = .ok (.if_icmp .eq 5, 3) := by decide +kernel
theorem dX2_areThose_38 : decode cX2_areThose 38 = .ok (.iconst 0, 1) := by decide +kernel
theorem dX2_areThose_39 : decode cX2_areThose 39 = .ok (.ireturn, 1) := by decide +kernel
theorem dX2_areThose_40 : decode cX2_areThose 40 = .ok (.iinc 2 1, 3) := by decide +kernel
theorem dX2_areThose_43 : decode cX2_areThose 43 = .ok (.goto (-30), 3) := by decide +kernel
theorem dX2_areThose_46 : decode cX2_areThose 46 = .ok (.iconst 1, 1) := by decide +kernel
theorem dX2_areThose_47 : decode cX2_areThose 47 = .ok (.ireturn, 1) := by decide +kernel
theorem nmX2_areThose : mm_nm yX2_areThose 1 := ⟨by decide, by decide, by decide +kernel⟩
theorem cdX2_areThose : mm_cd cd_Y yX2_areThose cX2_areThose 3 (some .boolean) := ⟨tw_741, tw_5⟩
abbrev rmX2_areThose : Room := { frames := 0, cells := 0, slots := 0, locals := 0 }
def fX2_areThose_13  : Nat → Nat → Nat → Int32 → mm_M → Option (Int32 × mm_M)
  | 0 => fun _ _ _ _ => none
  | n + 1 => fun a0 a1 x2 σ =>
  mm_ar σ a1 0 fun n4 => (if (Int32.ofNat n4) ≤ x2 then some (1, σ) else (if 400 ≤ x2 then some (1, σ) else mm_sh σ a0 (.inl 2) (mm_on (mm_R σ a0 0) fun q8 => mm_ar σ q8 0 fun n9 => mm_ib x2 n9 (mm_ib x2 n4 ((if (mm_I σ q8 x2.toNatClampNeg) = (mm_I σ a1 x2.toNatClampNeg) then (fX2_areThose_13  n a0 a1 (x2 + 1) σ) else some (0, σ)))))))
def fX2_areThose (p0 : Nat) (p1 : Nat) (σ : mm_M) : Option (Int32 × mm_M) :=
  mm_ar σ p1 0 fun n1 => mm_sh σ p0 (.inl 2) ((if (Int32.ofNat n1) = (mm_I σ p0 1) then (fX2_areThose_13  mm_fuel p0 p1 0 σ) else some (0, σ)))
set_option maxHeartbeats 4000000 in
set_option maxRecDepth 100000 in
theorem kX2_areThose_13 {G : mm_G} {A : Nat → Prop} {ini : Bool × Option (List (Nat × Nat × Nat × Nat))}  {R : (Int32 × mm_M)}  : ∀ (a0 : Nat) (a1 : Nat) (x2 : Int32) (σ : mm_M), fX2_areThose_13  mm_fuel a0 a1 x2 σ = some R → mm_J cd_Y G RX2 cX2_areThose 3 (some .boolean) ini rmX2_areThose A (mm_QF cd_Y G A (mm_Pi R.1 R.2) rmX2_areThose.cells rmX2_areThose.slots) 13 [(0, .ref a0), (1, .ref a1), (2, .int x2)] [] σ 0 0 := by
  generalize mm_fuel = n
  induction n with
  | zero => intro a0 a1 x2 σ hf; cases hf
  | succ n ih =>
    intro a0 a1 x2 σ hf
    unfold fX2_areThose_13 at hf
    refine mm_iload_n (j := 2) dX2_areThose_13 rfl rfl ?_
    refine mm_aload_n (j := 1) dX2_areThose_14 rfl rfl ?_
    obtain ⟨n4, hn4, hf⟩ := mm_ar_s hf
    refine mm_alen (v := Int32.ofNat n4) hn4 rfl rfl dX2_areThose_15 ?_
    refine mm_icmp_ge (tgt := 46) dX2_areThose_16 (by decide) (fun c5 => ?_) (fun c5 => ?_)
    · rw [if_pos c5] at hf
      refine mm_iconst (v := 1) dX2_areThose_46 (by decide) ?_
      cases hf
      refine mm_widen (ck' := rmX2_areThose.cells) (sk' := rmX2_areThose.slots) (Nat.le_of_ble_eq_true rfl) (Nat.le_of_ble_eq_true rfl) ?_
      exact mm_iret rfl rfl dX2_areThose_47 ⟨rfl, rfl⟩
    · rw [if_neg c5] at hf
      refine mm_iload_n (j := 2) dX2_areThose_19 rfl rfl ?_
      refine mm_sipush (v := 400) dX2_areThose_20 (by decide) ?_
      refine mm_icmp_ge (tgt := 46) dX2_areThose_23 (by decide) (fun c6 => ?_) (fun c6 => ?_)
      · rw [if_pos c6] at hf
        refine mm_iconst (v := 1) dX2_areThose_46 (by decide) ?_
        cases hf
        refine mm_widen (ck' := rmX2_areThose.cells) (sk' := rmX2_areThose.slots) (Nat.le_of_ble_eq_true rfl) (Nat.le_of_ble_eq_true rfl) ?_
        exact mm_iret rfl rfl dX2_areThose_47 ⟨rfl, rfl⟩
      · rw [if_neg c6] at hf
        refine mm_aload_n (j := 0) dX2_areThose_26 rfl rfl ?_
        obtain ⟨hs7, hf⟩ := mm_sh_s hf
        refine mm_get (c := 2) (k := 0) (v := va_rf (mm_R σ a0 0)) cd_ok ⟨_, _, _, rfl, by decide, Or.inl tw_83⟩ hs7 rfl dX2_areThose_27 ?_
        refine mm_iload_n (j := 2) dX2_areThose_30 rfl rfl ?_
        obtain ⟨q8, hq8, hf⟩ := mm_on_s hf
        rw [hq8, mm_rf_some]
        obtain ⟨n9, hn9, hf⟩ := mm_ar_s hf
        obtain ⟨hi10, hf⟩ := mm_ib_s hf
        refine mm_iald hn9 rfl hi10 dX2_areThose_31 ?_
        refine mm_aload_n (j := 1) dX2_areThose_32 rfl rfl ?_
        refine mm_iload_n (j := 2) dX2_areThose_33 rfl rfl ?_
        obtain ⟨hi11, hf⟩ := mm_ib_s hf
        refine mm_iald hn4 rfl hi11 dX2_areThose_34 ?_
        refine mm_icmp_eq (tgt := 40) dX2_areThose_35 (by decide) (fun c12 => ?_) (fun c12 => ?_)
        · rw [if_pos c12] at hf
          refine mm_iinc (j := 2) (L' := [(2, .int (x2 + 1)), (0, .ref a0), (1, .ref a1)]) dX2_areThose_40 rfl rfl (by decide) rfl ?_
          refine mm_goto (tgt := 13) dX2_areThose_43 (by decide) ?_
          refine mm_sub [1, 2, 0] rfl ?_
          exact ih a0 a1 (x2 + 1) σ hf
        · rw [if_neg c12] at hf
          refine mm_iconst (v := 0) dX2_areThose_38 (by decide) ?_
          cases hf
          refine mm_widen (ck' := rmX2_areThose.cells) (sk' := rmX2_areThose.slots) (Nat.le_of_ble_eq_true rfl) (Nat.le_of_ble_eq_true rfl) ?_
          exact mm_iret rfl rfl dX2_areThose_39 ⟨rfl, rfl⟩
set_option maxHeartbeats 4000000 in
set_option maxRecDepth 100000 in
theorem kX2_areThose {G : mm_G} {A : Nat → Prop} (p0 : Nat) (p1 : Nat) {σ : mm_M} {R : (Int32 × mm_M)} (hf : fX2_areThose p0 p1 σ = some R) : mm_C cd_Y G yX2_areThose cX2_areThose 3 (some .boolean) rmX2_areThose A [.ref p0, .ref p1] σ (mm_Pi R.1 R.2) := by
  refine mm_C.of (by decide) (Nat.le_of_ble_eq_true rfl) ?_
  unfold fX2_areThose at hf
  have e0 : lv_args 0 [.ref p0, .ref p1] = [(0, .ref p0), (1, .ref p1)] := rfl
  rw [e0]
  generalize hini : ((yX2_areThose.name == "<init>"), none) = ini
  clear e0
  clear hini
  refine mm_aload_n (j := 1) dX2_areThose_0 rfl rfl ?_
  obtain ⟨n1, hn1, hf⟩ := mm_ar_s hf
  refine mm_alen (v := Int32.ofNat n1) hn1 rfl rfl dX2_areThose_1 ?_
  refine mm_aload_n (j := 0) dX2_areThose_2 rfl rfl ?_
  obtain ⟨hs2, hf⟩ := mm_sh_s hf
  refine mm_get (c := 2) (k := 1) (v := .int (mm_I σ p0 1)) cd_ok ⟨_, _, _, rfl, by decide, Or.inl tw_84⟩ hs2 rfl dX2_areThose_3 ?_
  refine mm_icmp_eq (tgt := 11) dX2_areThose_6 (by decide) (fun c3 => ?_) (fun c3 => ?_)
  · rw [if_pos c3] at hf
    refine mm_iconst (v := 0) dX2_areThose_11 (by decide) ?_
    refine mm_istore_n (L' := [(2, .int 0), (0, .ref p0), (1, .ref p1)]) dX2_areThose_12 rfl (by decide) rfl ?_
    refine mm_sub [1, 2, 0] rfl ?_
    exact kX2_areThose_13  p0 p1 0 σ hf
  · rw [if_neg c3] at hf
    refine mm_iconst (v := 0) dX2_areThose_9 (by decide) ?_
    cases hf
    refine mm_widen (ck' := rmX2_areThose.cells) (sk' := rmX2_areThose.slots) (Nat.le_of_ble_eq_true rfl) (Nat.le_of_ble_eq_true rfl) ?_
    exact mm_iret rfl rfl dX2_areThose_10 ⟨rfl, rfl⟩
theorem dX2_copied_0 : decode cX2_copied 0 = .ok (.aload_n 0, 1) := by decide +kernel
theorem dX2_copied_1 : decode cX2_copied 1 = .ok (.getfield 25, 3) := by decide +kernel
theorem dX2_copied_4 : decode cX2_copied 4 = .ok (.iconst 0, 1) := by decide +kernel
theorem dX2_copied_5 : decode cX2_copied 5 = .ok (.invokestatic 15, 3) := by decide +kernel
theorem dX2_copied_8 : decode cX2_copied 8 = .ok (.newarray .int, 2) := by decide +kernel
theorem dX2_copied_10 : decode cX2_copied 10 = .ok (.astore_n 1, 1) := by decide +kernel
theorem dX2_copied_11 : decode cX2_copied 11 = .ok (.iconst 0, 1) := by decide +kernel
theorem dX2_copied_12 : decode cX2_copied 12 = .ok (.istore_n 2, 1) := by decide +kernel
theorem dX2_copied_13 : decode cX2_copied 13 = .ok (.iload_n 2, 1) := by decide +kernel
theorem dX2_copied_14 : decode cX2_copied 14 = .ok (.aload_n 1, 1) := by decide +kernel
theorem dX2_copied_15 : decode cX2_copied 15 = .ok (.arraylength, 1) := by decide +kernel
theorem dX2_copied_16 : decode cX2_copied 16 = .ok (.if_icmp .ge 25, 3) := by decide +kernel
theorem dX2_copied_19 : decode cX2_copied 19 = .ok (.iload_n 2, 1) := by decide +kernel
theorem dX2_copied_20 : decode cX2_copied 20 = .ok (.sipush 400, 3) := by decide +kernel
theorem dX2_copied_23 : decode cX2_copied 23 = .ok (.if_icmp .ge 18, 3) := by decide +kernel
theorem dX2_copied_26 : decode cX2_copied 26 = .ok (.aload_n 1, 1) := by decide +kernel
theorem dX2_copied_27 : decode cX2_copied 27 = .ok (.iload_n 2, 1) := by decide +kernel
theorem dX2_copied_28 : decode cX2_copied 28 = .ok (.aload_n 0, 1) := by decide +kernel
theorem dX2_copied_29 : decode cX2_copied 29 = .ok (.getfield 9, 3) := by decide +kernel
theorem dX2_copied_32 : decode cX2_copied 32 = .ok (.iload_n 2, 1) := by decide +kernel
theorem dX2_copied_33 : decode cX2_copied 33 = .ok (.iaload, 1) := by decide +kernel
theorem dX2_copied_34 : decode cX2_copied 34 = .ok (.iastore, 1) := by decide +kernel
theorem dX2_copied_35 : decode cX2_copied 35 = .ok (.iinc 2 1, 3) := by decide +kernel
theorem dX2_copied_38 : decode cX2_copied 38 = .ok (.goto (-25), 3) := by decide +kernel
theorem dX2_copied_41 : decode cX2_copied 41 = .ok (.aload_n 1, 1) := by decide +kernel
theorem dX2_copied_42 : decode cX2_copied 42 = .ok (.areturn, 1) := by decide +kernel
theorem nmX2_copied : mm_nm yX2_copied 0 := ⟨by decide, by decide, by decide +kernel⟩
theorem cdX2_copied : mm_cd cd_Y yX2_copied cX2_copied 3 (some (.array .int)) := ⟨tw_750, tw_5⟩
abbrev rmX2_copied : Room := { frames := 1, cells := 1, slots := 400, locals := 13 }
def fX2_copied_13  : Nat → Nat → Option Nat → Int32 → mm_M → Option (Option Nat × mm_M)
  | 0 => fun _ _ _ _ => none
  | n + 1 => fun a0 r1 x2 σ =>
  mm_on (r1) fun q4 => mm_ar σ q4 0 fun n5 => (if (Int32.ofNat n5) ≤ x2 then some (some q4, σ) else (if 400 ≤ x2 then some (some q4, σ) else mm_sh σ a0 (.inl 2) (mm_on (mm_R σ a0 0) fun q9 => mm_ar σ q9 0 fun n10 => mm_ib x2 n10 (mm_ib x2 n5 (mm_let (mm_wI σ q4 (x2.toNatClampNeg) (mm_I σ q9 x2.toNatClampNeg)) fun s13 => (fX2_copied_13  n a0 ((some q4)) (x2 + 1) s13))))))
def fX2_copied (p0 : Nat) (σ : mm_M) : Option (Option Nat × mm_M) :=
  mm_sh σ p0 (.inl 2) (mm_ck (¬ (if (mm_I σ p0 1) < 0 then 0 else (mm_I σ p0 1)) < 0 ∧ (if (mm_I σ p0 1) < 0 then 0 else (mm_I σ p0 1)).toNatClampNeg ≤ 400) (mm_let (mm_new σ (.inr (0, (if (mm_I σ p0 1) < 0 then 0 else (mm_I σ p0 1)).toNatClampNeg))) fun s3 => (fX2_copied_13  mm_fuel p0 ((some σ.1)) 0 s3)))
set_option maxHeartbeats 4000000 in
set_option maxRecDepth 100000 in
theorem kX2_copied_13 {G : mm_G} {A : Nat → Prop} {ini : Bool × Option (List (Nat × Nat × Nat × Nat))}  {R : (Option Nat × mm_M)}  : ∀ (a0 : Nat) (r1 : Option Nat) (x2 : Int32) (σ : mm_M), fX2_copied_13  mm_fuel a0 r1 x2 σ = some R → mm_J cd_Y G RX2 cX2_copied 3 (some (.array .int)) ini rmX2_copied A (mm_QF cd_Y G A (mm_Pr R.1 R.2) rmX2_copied.cells rmX2_copied.slots) 13 [(0, .ref a0), (1, va_rf (r1)), (2, .int x2)] [] σ 1 400 := by
  generalize mm_fuel = n
  induction n with
  | zero => intro a0 r1 x2 σ hf; cases hf
  | succ n ih =>
    intro a0 r1 x2 σ hf
    unfold fX2_copied_13 at hf
    refine mm_iload_n (j := 2) dX2_copied_13 rfl rfl ?_
    refine mm_aload_nR (j := 1) dX2_copied_14 rfl rfl ?_
    obtain ⟨q4, hq4, hf⟩ := mm_on_s hf
    rw [hq4, mm_rf_some]
    obtain ⟨n5, hn5, hf⟩ := mm_ar_s hf
    refine mm_alen (v := Int32.ofNat n5) hn5 rfl rfl dX2_copied_15 ?_
    refine mm_icmp_ge (tgt := 41) dX2_copied_16 (by decide) (fun c6 => ?_) (fun c6 => ?_)
    · rw [if_pos c6] at hf
      refine mm_aload_n (j := 1) dX2_copied_41 rfl rfl ?_
      cases hf
      refine mm_widen (ck' := rmX2_copied.cells) (sk' := rmX2_copied.slots) (Nat.le_of_ble_eq_true rfl) (Nat.le_of_ble_eq_true rfl) ?_
      exact mm_aret rfl rfl (mm_rf_of (some q4)) dX2_copied_42 ⟨rfl, rfl⟩
    · rw [if_neg c6] at hf
      refine mm_iload_n (j := 2) dX2_copied_19 rfl rfl ?_
      refine mm_sipush (v := 400) dX2_copied_20 (by decide) ?_
      refine mm_icmp_ge (tgt := 41) dX2_copied_23 (by decide) (fun c7 => ?_) (fun c7 => ?_)
      · rw [if_pos c7] at hf
        refine mm_aload_n (j := 1) dX2_copied_41 rfl rfl ?_
        cases hf
        refine mm_widen (ck' := rmX2_copied.cells) (sk' := rmX2_copied.slots) (Nat.le_of_ble_eq_true rfl) (Nat.le_of_ble_eq_true rfl) ?_
        exact mm_aret rfl rfl (mm_rf_of (some q4)) dX2_copied_42 ⟨rfl, rfl⟩
      · rw [if_neg c7] at hf
        refine mm_aload_n (j := 1) dX2_copied_26 rfl rfl ?_
        refine mm_iload_n (j := 2) dX2_copied_27 rfl rfl ?_
        refine mm_aload_n (j := 0) dX2_copied_28 rfl rfl ?_
        obtain ⟨hs8, hf⟩ := mm_sh_s hf
        refine mm_get (c := 2) (k := 0) (v := va_rf (mm_R σ a0 0)) cd_ok ⟨_, _, _, rfl, by decide, Or.inl tw_83⟩ hs8 rfl dX2_copied_29 ?_
        refine mm_iload_n (j := 2) dX2_copied_32 rfl rfl ?_
        obtain ⟨q9, hq9, hf⟩ := mm_on_s hf
        rw [hq9, mm_rf_some]
        obtain ⟨n10, hn10, hf⟩ := mm_ar_s hf
        obtain ⟨hi11, hf⟩ := mm_ib_s hf
        refine mm_iald hn10 rfl hi11 dX2_copied_33 ?_
        obtain ⟨hi12, hf⟩ := mm_ib_s hf
        refine mm_iast hn5 rfl hi12 dX2_copied_34 ?_
        obtain ⟨s13, hs13, hf⟩ := mm_let_s hf
        rw [hs13]
        refine mm_iinc (j := 2) (L' := [(2, .int (x2 + 1)), (0, .ref a0), (1, .ref q4)]) dX2_copied_35 rfl rfl (by decide) rfl ?_
        refine mm_goto (tgt := 13) dX2_copied_38 (by decide) ?_
        refine mm_sub [1, 2, 0] rfl ?_
        refine mm_widen (ck' := 1) (sk' := 400) (Nat.le_of_ble_eq_true rfl) (Nat.le_of_ble_eq_true rfl) ?_
        exact ih a0 ((some q4)) (x2 + 1) s13 hf
set_option maxHeartbeats 4000000 in
set_option maxRecDepth 100000 in
theorem kX2_copied {G : mm_G} {A : Nat → Prop} (p0 : Nat) {σ : mm_M} {R : (Option Nat × mm_M)} (hf : fX2_copied p0 σ = some R) : mm_C cd_Y G yX2_copied cX2_copied 3 (some (.array .int)) rmX2_copied A [.ref p0] σ (mm_Pr R.1 R.2) := by
  refine mm_C.of (by decide) (Nat.le_of_ble_eq_true rfl) ?_
  unfold fX2_copied at hf
  have e0 : lv_args 0 [.ref p0] = [(0, .ref p0)] := rfl
  rw [e0]
  generalize hini : ((yX2_copied.name == "<init>"), none) = ini
  clear e0
  clear hini
  refine mm_aload_n (j := 0) dX2_copied_0 rfl rfl ?_
  obtain ⟨hs1, hf⟩ := mm_sh_s hf
  refine mm_get (c := 2) (k := 1) (v := .int (mm_I σ p0 1)) cd_ok ⟨_, _, _, rfl, by decide, Or.inl tw_84⟩ hs1 rfl dX2_copied_1 ?_
  refine mm_iconst (v := 0) dX2_copied_4 (by decide) ?_
  refine mm_mmax tw_720 tw_358 tw_14 tw_359 (by decide) (by simp only [List.map_cons, List.map_nil, mm_rf_cat]; exact Nat.le_of_ble_eq_true rfl) (by decide) (by decide) dX2_copied_5 ?_
  obtain ⟨hk2, hf⟩ := mm_ck_s hf
  refine mm_newaB (atype := .int) (t := 0) (K := 400) rfl rfl tw_46 hk2 (by decide) (Nat.le_of_ble_eq_true rfl) (Nat.le_of_ble_eq_true rfl) dX2_copied_8 ?_
  obtain ⟨s3, hs3, hf⟩ := mm_let_s hf
  rw [hs3]
  refine mm_astore_n (L' := [(1, .ref σ.1), (0, .ref p0)]) dX2_copied_10 rfl (by decide) rfl ?_
  refine mm_iconst (v := 0) dX2_copied_11 (by decide) ?_
  refine mm_istore_n (L' := [(2, .int 0), (1, .ref σ.1), (0, .ref p0)]) dX2_copied_12 rfl (by decide) rfl ?_
  refine mm_sub [2, 1, 0] rfl ?_
  refine mm_widen (ck' := 1) (sk' := 400) (Nat.le_of_ble_eq_true rfl) (Nat.le_of_ble_eq_true rfl) ?_
  exact kX2_copied_13  p0 ((some σ.1)) 0 s3 hf
theorem dX2_addByte_0 : decode cX2_addByte 0 = .ok (.aload_n 0, 1) := by decide +kernel
theorem dX2_addByte_1 : decode cX2_addByte 1 = .ok (.getfield 25, 3) := by decide +kernel
theorem dX2_addByte_4 : decode cX2_addByte 4 = .ok (.sipush 400, 3) := by decide +kernel
theorem dX2_addByte_7 : decode cX2_addByte 7 = .ok (.if_icmp .ge 23, 3) := by decide +kernel
theorem dX2_addByte_10 : decode cX2_addByte 10 = .ok (.aload_n 0, 1) := by decide +kernel
theorem dX2_addByte_11 : decode cX2_addByte 11 = .ok (.getfield 9, 3) := by decide +kernel
theorem dX2_addByte_14 : decode cX2_addByte 14 = .ok (.aload_n 0, 1) := by decide +kernel
theorem dX2_addByte_15 : decode cX2_addByte 15 = .ok (.getfield 25, 3) := by decide +kernel
theorem dX2_addByte_18 : decode cX2_addByte 18 = .ok (.iload_n 1, 1) := by decide +kernel
theorem dX2_addByte_19 : decode cX2_addByte 19 = .ok (.iastore, 1) := by decide +kernel
theorem dX2_addByte_20 : decode cX2_addByte 20 = .ok (.aload_n 0, 1) := by decide +kernel
theorem dX2_addByte_21 : decode cX2_addByte 21 = .ok (.dup, 1) := by decide +kernel
theorem dX2_addByte_22 : decode cX2_addByte 22 = .ok (.getfield 25, 3) := by decide +kernel
theorem dX2_addByte_25 : decode cX2_addByte 25 = .ok (.iconst 1, 1) := by decide +kernel
theorem dX2_addByte_26 : decode cX2_addByte 26 = .ok (.iadd, 1) := by decide +kernel
theorem dX2_addByte_27 : decode cX2_addByte 27 = .ok (.putfield 25, 3) := by decide +kernel
theorem dX2_addByte_30 : decode cX2_addByte 30 = .ok (.return_, 1) := by decide +kernel
theorem nmX2_addByte : mm_nm yX2_addByte 1 := ⟨by decide, by decide, by decide +kernel⟩
theorem cdX2_addByte : mm_cd cd_Y yX2_addByte cX2_addByte 2 none := ⟨tw_724, tw_5⟩
abbrev rmX2_addByte : Room := { frames := 0, cells := 0, slots := 0, locals := 0 }
def fX2_addByte (p0 : Nat) (p1 : Int32) (σ : mm_M) : Option mm_M :=
  mm_sh σ p0 (.inl 2) ((if 400 ≤ (mm_I σ p0 1) then some (σ) else mm_on (mm_R σ p0 0) fun q3 => mm_ar σ q3 0 fun n4 => mm_ib (mm_I σ p0 1) n4 (mm_let (mm_wI σ q3 ((mm_I σ p0 1).toNatClampNeg) p1) fun s6 => mm_let (mm_wI s6 p0 1 ((mm_I s6 p0 1) + 1)) fun s7 => some (s7))))
set_option maxHeartbeats 4000000 in
set_option maxRecDepth 100000 in
theorem kX2_addByte {G : mm_G} {A : Nat → Prop} (p0 : Nat) (p1 : Int32) {σ : mm_M} {R : mm_M} (hf : fX2_addByte p0 p1 σ = some R) : mm_C cd_Y G yX2_addByte cX2_addByte 2 none rmX2_addByte A [.ref p0, .int p1] σ (mm_Pv R) := by
  refine mm_C.of (by decide) (Nat.le_of_ble_eq_true rfl) ?_
  unfold fX2_addByte at hf
  have e0 : lv_args 0 [.ref p0, .int p1] = [(0, .ref p0), (1, .int p1)] := rfl
  rw [e0]
  generalize hini : ((yX2_addByte.name == "<init>"), none) = ini
  clear e0
  clear hini
  refine mm_aload_n (j := 0) dX2_addByte_0 rfl rfl ?_
  obtain ⟨hs1, hf⟩ := mm_sh_s hf
  refine mm_get (c := 2) (k := 1) (v := .int (mm_I σ p0 1)) cd_ok ⟨_, _, _, rfl, by decide, Or.inl tw_84⟩ hs1 rfl dX2_addByte_1 ?_
  refine mm_sipush (v := 400) dX2_addByte_4 (by decide) ?_
  refine mm_icmp_ge (tgt := 30) dX2_addByte_7 (by decide) (fun c2 => ?_) (fun c2 => ?_)
  · rw [if_pos c2] at hf
    cases hf
    refine mm_widen (ck' := rmX2_addByte.cells) (sk' := rmX2_addByte.slots) (Nat.le_of_ble_eq_true rfl) (Nat.le_of_ble_eq_true rfl) ?_
    exact mm_vret rfl dX2_addByte_30 ⟨rfl, rfl⟩
  · rw [if_neg c2] at hf
    refine mm_aload_n (j := 0) dX2_addByte_10 rfl rfl ?_
    refine mm_get (c := 2) (k := 0) (v := va_rf (mm_R σ p0 0)) cd_ok ⟨_, _, _, rfl, by decide, Or.inl tw_83⟩ hs1 rfl dX2_addByte_11 ?_
    refine mm_aload_n (j := 0) dX2_addByte_14 rfl rfl ?_
    refine mm_get (c := 2) (k := 1) (v := .int (mm_I σ p0 1)) cd_ok ⟨_, _, _, rfl, by decide, Or.inl tw_84⟩ hs1 rfl dX2_addByte_15 ?_
    refine mm_iload_n (j := 1) dX2_addByte_18 rfl rfl ?_
    obtain ⟨q3, hq3, hf⟩ := mm_on_s hf
    rw [hq3, mm_rf_some]
    obtain ⟨n4, hn4, hf⟩ := mm_ar_s hf
    obtain ⟨hi5, hf⟩ := mm_ib_s hf
    refine mm_iast hn4 rfl hi5 dX2_addByte_19 ?_
    obtain ⟨s6, hs6, hf⟩ := mm_let_s hf
    rw [hs6]
    refine mm_aload_n (j := 0) dX2_addByte_20 rfl rfl ?_
    refine mm_dup dX2_addByte_21 rfl ?_
    refine mm_get (c := 2) (k := 1) (v := .int (mm_I s6 p0 1)) cd_ok ⟨_, _, _, rfl, by decide, Or.inl tw_84⟩ (mm_ke hs6 hs1) rfl dX2_addByte_22 ?_
    refine mm_iconst (v := 1) dX2_addByte_25 (by decide) ?_
    refine mm_iadd dX2_addByte_26 ?_
    refine mm_putI (c := 2) (k := 1) cd_ok ⟨_, _, _, rfl, by decide, rfl, Or.inl tw_84⟩ (mm_ke hs6 hs1) rfl rfl rfl dX2_addByte_27 ?_
    obtain ⟨s7, hs7, hf⟩ := mm_let_s hf
    rw [hs7]
    cases hf
    refine mm_widen (ck' := rmX2_addByte.cells) (sk' := rmX2_addByte.slots) (Nat.le_of_ble_eq_true rfl) (Nat.le_of_ble_eq_true rfl) ?_
    exact mm_vret rfl dX2_addByte_30 ⟨rfl, rfl⟩
theorem dX3_eraseLinks_0 : decode cX3_eraseLinks 0 = .ok (.iconst 0, 1) := by decide +kernel
theorem dX3_eraseLinks_1 : decode cX3_eraseLinks 1 = .ok (.istore_n 1, 1) := by decide +kernel
theorem dX3_eraseLinks_2 : decode cX3_eraseLinks 2 = .ok (.iload_n 1, 1) := by decide +kernel
theorem dX3_eraseLinks_3 : decode cX3_eraseLinks 3 = .ok (.aload_n 0, 1) := by decide +kernel
theorem dX3_eraseLinks_4 : decode cX3_eraseLinks 4 = .ok (.getfield 18, 3) := by decide +kernel
theorem dX3_eraseLinks_7 : decode cX3_eraseLinks 7 = .ok (.arraylength, 1) := by decide +kernel
theorem dX3_eraseLinks_8 : decode cX3_eraseLinks 8 = .ok (.if_icmp .ge 16, 3) := by decide +kernel
theorem dX3_eraseLinks_11 : decode cX3_eraseLinks 11 = .ok (.aload_n 0, 1) := by decide +kernel
theorem dX3_eraseLinks_12 : decode cX3_eraseLinks 12 = .ok (.getfield 18, 3) := by decide +kernel
theorem dX3_eraseLinks_15 : decode cX3_eraseLinks 15 = .ok (.iload_n 1, 1) := by decide +kernel
theorem dX3_eraseLinks_16 : decode cX3_eraseLinks 16 = .ok (.iconst (-1), 1) := by decide +kernel
theorem dX3_eraseLinks_17 : decode cX3_eraseLinks 17 = .ok (.iastore, 1) := by decide +kernel
theorem dX3_eraseLinks_18 : decode cX3_eraseLinks 18 = .ok (.iinc 1 1, 3) := by decide +kernel
theorem dX3_eraseLinks_21 : decode cX3_eraseLinks 21 = .ok (.goto (-19), 3) := by decide +kernel
theorem dX3_eraseLinks_24 : decode cX3_eraseLinks 24 = .ok (.return_, 1) := by decide +kernel
theorem nmX3_eraseLinks : mm_nm yX3_eraseLinks 0 := ⟨by decide, by decide, by decide +kernel⟩
theorem cdX3_eraseLinks : mm_cd cd_Y yX3_eraseLinks cX3_eraseLinks 2 none := ⟨tw_601, tw_17⟩
abbrev rmX3_eraseLinks : Room := { frames := 0, cells := 0, slots := 0, locals := 0 }
def fX3_eraseLinks_2  : Nat → Nat → Int32 → mm_M → Option mm_M
  | 0 => fun _ _ _ => none
  | n + 1 => fun a0 x1 σ =>
  mm_sh σ a0 (.inl 3) (mm_on (mm_R σ a0 1) fun q2 => mm_ar σ q2 0 fun n3 => (if (Int32.ofNat n3) ≤ x1 then some (σ) else mm_on (mm_R σ a0 1) fun q5 => mm_ar σ q5 0 fun n6 => mm_ib x1 n6 (mm_let (mm_wI σ q5 (x1.toNatClampNeg) (-1)) fun s8 => (fX3_eraseLinks_2  n a0 (x1 + 1) s8))))
def fX3_eraseLinks (p0 : Nat) (σ : mm_M) : Option mm_M :=
  (fX3_eraseLinks_2  mm_fuel p0 0 σ)
set_option maxHeartbeats 4000000 in
set_option maxRecDepth 100000 in
theorem kX3_eraseLinks_2 {G : mm_G} {A : Nat → Prop} {ini : Bool × Option (List (Nat × Nat × Nat × Nat))}  {R : mm_M}  : ∀ (a0 : Nat) (x1 : Int32) (σ : mm_M), fX3_eraseLinks_2  mm_fuel a0 x1 σ = some R → mm_J cd_Y G RX3 cX3_eraseLinks 2 none ini rmX3_eraseLinks A (mm_QF cd_Y G A (mm_Pv R) rmX3_eraseLinks.cells rmX3_eraseLinks.slots) 2 [(0, .ref a0), (1, .int x1)] [] σ 0 0 := by
  generalize mm_fuel = n
  induction n with
  | zero => intro a0 x1 σ hf; cases hf
  | succ n ih =>
    intro a0 x1 σ hf
    unfold fX3_eraseLinks_2 at hf
    refine mm_iload_n (j := 1) dX3_eraseLinks_2 rfl rfl ?_
    refine mm_aload_n (j := 0) dX3_eraseLinks_3 rfl rfl ?_
    obtain ⟨hs1, hf⟩ := mm_sh_s hf
    refine mm_get (c := 3) (k := 1) (v := va_rf (mm_R σ a0 1)) cd_ok ⟨_, _, _, rfl, by decide, Or.inl tw_544⟩ hs1 rfl dX3_eraseLinks_4 ?_
    obtain ⟨q2, hq2, hf⟩ := mm_on_s hf
    rw [hq2, mm_rf_some]
    obtain ⟨n3, hn3, hf⟩ := mm_ar_s hf
    refine mm_alen (v := Int32.ofNat n3) hn3 rfl rfl dX3_eraseLinks_7 ?_
    refine mm_icmp_ge (tgt := 24) dX3_eraseLinks_8 (by decide) (fun c4 => ?_) (fun c4 => ?_)
    · rw [if_pos c4] at hf
      cases hf
      refine mm_widen (ck' := rmX3_eraseLinks.cells) (sk' := rmX3_eraseLinks.slots) (Nat.le_of_ble_eq_true rfl) (Nat.le_of_ble_eq_true rfl) ?_
      exact mm_vret rfl dX3_eraseLinks_24 ⟨rfl, rfl⟩
    · rw [if_neg c4] at hf
      refine mm_aload_n (j := 0) dX3_eraseLinks_11 rfl rfl ?_
      refine mm_get (c := 3) (k := 1) (v := va_rf (mm_R σ a0 1)) cd_ok ⟨_, _, _, rfl, by decide, Or.inl tw_544⟩ hs1 rfl dX3_eraseLinks_12 ?_
      refine mm_iload_n (j := 1) dX3_eraseLinks_15 rfl rfl ?_
      refine mm_iconst (v := (-1)) dX3_eraseLinks_16 (by decide) ?_
      obtain ⟨q5, hq5, hf⟩ := mm_on_s hf
      rw [hq5, mm_rf_some]
      obtain ⟨n6, hn6, hf⟩ := mm_ar_s hf
      obtain ⟨hi7, hf⟩ := mm_ib_s hf
      refine mm_iast hn6 rfl hi7 dX3_eraseLinks_17 ?_
      obtain ⟨s8, hs8, hf⟩ := mm_let_s hf
      rw [hs8]
      refine mm_iinc (j := 1) (L' := [(1, .int (x1 + 1)), (0, .ref a0)]) dX3_eraseLinks_18 rfl rfl (by decide) rfl ?_
      refine mm_goto (tgt := 2) dX3_eraseLinks_21 (by decide) ?_
      refine mm_sub [1, 0] rfl ?_
      exact ih a0 (x1 + 1) s8 hf
set_option maxHeartbeats 4000000 in
set_option maxRecDepth 100000 in
theorem kX3_eraseLinks {G : mm_G} {A : Nat → Prop} (p0 : Nat) {σ : mm_M} {R : mm_M} (hf : fX3_eraseLinks p0 σ = some R) : mm_C cd_Y G yX3_eraseLinks cX3_eraseLinks 2 none rmX3_eraseLinks A [.ref p0] σ (mm_Pv R) := by
  refine mm_C.of (by decide) (Nat.le_of_ble_eq_true rfl) ?_
  unfold fX3_eraseLinks at hf
  have e0 : lv_args 0 [.ref p0] = [(0, .ref p0)] := rfl
  rw [e0]
  generalize hini : ((yX3_eraseLinks.name == "<init>"), none) = ini
  clear e0
  clear hini
  refine mm_iconst (v := 0) dX3_eraseLinks_0 (by decide) ?_
  refine mm_istore_n (L' := [(1, .int 0), (0, .ref p0)]) dX3_eraseLinks_1 rfl (by decide) rfl ?_
  refine mm_sub [1, 0] rfl ?_
  exact kX3_eraseLinks_2  p0 0 σ hf
theorem dX3_hasName_0 : decode cX3_hasName 0 = .ok (.aload_n 0, 1) := by decide +kernel
theorem dX3_hasName_1 : decode cX3_hasName 1 = .ok (.getfield 22, 3) := by decide +kernel
theorem dX3_hasName_4 : decode cX3_hasName 4 = .ok (.iload_n 1, 1) := by decide +kernel
theorem dX3_hasName_5 : decode cX3_hasName 5 = .ok (.if_icmp .ne 28, 3) := by decide +kernel
theorem dX3_hasName_8 : decode cX3_hasName 8 = .ok (.aload_n 0, 1) := by decide +kernel
theorem dX3_hasName_9 : decode cX3_hasName 9 = .ok (.getfield 26, 3) := by decide +kernel
theorem dX3_hasName_12 : decode cX3_hasName 12 = .ok (.iload_n 2, 1) := by decide +kernel
theorem dX3_hasName_13 : decode cX3_hasName 13 = .ok (.if_icmp .ne 20, 3) := by decide +kernel
theorem dX3_hasName_16 : decode cX3_hasName 16 = .ok (.iload_n 3, 1) := by decide +kernel
theorem dX3_hasName_17 : decode cX3_hasName 17 = .ok (.iconst (-1), 1) := by decide +kernel
theorem dX3_hasName_18 : decode cX3_hasName 18 = .ok (.if_icmp .eq 11, 3) := by decide +kernel
theorem dX3_hasName_21 : decode cX3_hasName 21 = .ok (.aload_n 0, 1) := by decide +kernel
theorem dX3_hasName_22 : decode cX3_hasName 22 = .ok (.getfield 29, 3) := by decide +kernel
theorem dX3_hasName_25 : decode cX3_hasName 25 = .ok (.iload_n 3, 1) := by decide +kernel
theorem dX3_hasName_26 : decode cX3_hasName 26 = .ok (.if_icmp .ne 7, 3) := by decide +kernel
theorem dX3_hasName_29 : decode cX3_hasName 29 = .ok (.iconst 1, 1) := by decide +kernel
theorem dX3_hasName_30 : decode cX3_hasName 30 = .ok (.goto 4, 3) := by decide +kernel
theorem dX3_hasName_33 : decode cX3_hasName 33 = .ok (.iconst 0, 1) := by decide +kernel
theorem dX3_hasName_34 : decode cX3_hasName 34 = .ok (.ireturn, 1) := by decide +kernel
theorem nmX3_hasName : mm_nm yX3_hasName 3 := ⟨by decide, by decide, by decide +kernel⟩
theorem cdX3_hasName : mm_cd cd_Y yX3_hasName cX3_hasName 4 (some .boolean) := ⟨tw_226, tw_17⟩
abbrev rmX3_hasName : Room := { frames := 0, cells := 0, slots := 0, locals := 0 }
def fX3_hasName (p0 : Nat) (p1 : Int32) (p2 : Int32) (p3 : Int32) (σ : mm_M) : Option (Int32 × mm_M) :=
  mm_sh σ p0 (.inl 3) ((if (mm_I σ p0 2) = p1 then (if (mm_I σ p0 3) = p2 then (if p3 = (-1) then some (1, σ) else (if (mm_I σ p0 4) = p3 then some (1, σ) else some (0, σ))) else some (0, σ)) else some (0, σ)))
set_option maxHeartbeats 4000000 in
set_option maxRecDepth 100000 in
theorem kX3_hasName {G : mm_G} {A : Nat → Prop} (p0 : Nat) (p1 : Int32) (p2 : Int32) (p3 : Int32) {σ : mm_M} {R : (Int32 × mm_M)} (hf : fX3_hasName p0 p1 p2 p3 σ = some R) : mm_C cd_Y G yX3_hasName cX3_hasName 4 (some .boolean) rmX3_hasName A [.ref p0, .int p1, .int p2, .int p3] σ (mm_Pi R.1 R.2) := by
  refine mm_C.of (by decide) (Nat.le_of_ble_eq_true rfl) ?_
  unfold fX3_hasName at hf
  have e0 : lv_args 0 [.ref p0, .int p1, .int p2, .int p3] = [(0, .ref p0), (1, .int p1), (2, .int p2), (3, .int p3)] := rfl
  rw [e0]
  generalize hini : ((yX3_hasName.name == "<init>"), none) = ini
  clear e0
  clear hini
  refine mm_aload_n (j := 0) dX3_hasName_0 rfl rfl ?_
  obtain ⟨hs1, hf⟩ := mm_sh_s hf
  refine mm_get (c := 3) (k := 2) (v := .int (mm_I σ p0 2)) cd_ok ⟨_, _, _, rfl, by decide, Or.inl tw_546⟩ hs1 rfl dX3_hasName_1 ?_
  refine mm_iload_n (j := 1) dX3_hasName_4 rfl rfl ?_
  refine mm_icmp_ne (tgt := 33) dX3_hasName_5 (by decide) (fun c2 => ?_) (fun c2 => ?_)
  · rw [if_neg c2] at hf
    refine mm_iconst (v := 0) dX3_hasName_33 (by decide) ?_
    cases hf
    refine mm_widen (ck' := rmX3_hasName.cells) (sk' := rmX3_hasName.slots) (Nat.le_of_ble_eq_true rfl) (Nat.le_of_ble_eq_true rfl) ?_
    exact mm_iret rfl rfl dX3_hasName_34 ⟨rfl, rfl⟩
  · rw [if_pos c2] at hf
    refine mm_aload_n (j := 0) dX3_hasName_8 rfl rfl ?_
    refine mm_get (c := 3) (k := 3) (v := .int (mm_I σ p0 3)) cd_ok ⟨_, _, _, rfl, by decide, Or.inl tw_549⟩ hs1 rfl dX3_hasName_9 ?_
    refine mm_iload_n (j := 2) dX3_hasName_12 rfl rfl ?_
    refine mm_icmp_ne (tgt := 33) dX3_hasName_13 (by decide) (fun c3 => ?_) (fun c3 => ?_)
    · rw [if_neg c3] at hf
      refine mm_iconst (v := 0) dX3_hasName_33 (by decide) ?_
      cases hf
      refine mm_widen (ck' := rmX3_hasName.cells) (sk' := rmX3_hasName.slots) (Nat.le_of_ble_eq_true rfl) (Nat.le_of_ble_eq_true rfl) ?_
      exact mm_iret rfl rfl dX3_hasName_34 ⟨rfl, rfl⟩
    · rw [if_pos c3] at hf
      refine mm_iload_n (j := 3) dX3_hasName_16 rfl rfl ?_
      refine mm_iconst (v := (-1)) dX3_hasName_17 (by decide) ?_
      refine mm_icmp_eq (tgt := 29) dX3_hasName_18 (by decide) (fun c4 => ?_) (fun c4 => ?_)
      · rw [if_pos c4] at hf
        refine mm_iconst (v := 1) dX3_hasName_29 (by decide) ?_
        refine mm_goto (tgt := 34) dX3_hasName_30 (by decide) ?_
        cases hf
        refine mm_widen (ck' := rmX3_hasName.cells) (sk' := rmX3_hasName.slots) (Nat.le_of_ble_eq_true rfl) (Nat.le_of_ble_eq_true rfl) ?_
        exact mm_iret rfl rfl dX3_hasName_34 ⟨rfl, rfl⟩
      · rw [if_neg c4] at hf
        refine mm_aload_n (j := 0) dX3_hasName_21 rfl rfl ?_
        refine mm_get (c := 3) (k := 4) (v := .int (mm_I σ p0 4)) cd_ok ⟨_, _, _, rfl, by decide, Or.inl tw_551⟩ hs1 rfl dX3_hasName_22 ?_
        refine mm_iload_n (j := 3) dX3_hasName_25 rfl rfl ?_
        refine mm_icmp_ne (tgt := 33) dX3_hasName_26 (by decide) (fun c5 => ?_) (fun c5 => ?_)
        · rw [if_neg c5] at hf
          refine mm_iconst (v := 0) dX3_hasName_33 (by decide) ?_
          cases hf
          refine mm_widen (ck' := rmX3_hasName.cells) (sk' := rmX3_hasName.slots) (Nat.le_of_ble_eq_true rfl) (Nat.le_of_ble_eq_true rfl) ?_
          exact mm_iret rfl rfl dX3_hasName_34 ⟨rfl, rfl⟩
        · rw [if_pos c5] at hf
          refine mm_iconst (v := 1) dX3_hasName_29 (by decide) ?_
          refine mm_goto (tgt := 34) dX3_hasName_30 (by decide) ?_
          cases hf
          refine mm_widen (ck' := rmX3_hasName.cells) (sk' := rmX3_hasName.slots) (Nat.le_of_ble_eq_true rfl) (Nat.le_of_ble_eq_true rfl) ?_
          exact mm_iret rfl rfl dX3_hasName_34 ⟨rfl, rfl⟩
theorem dX4_init_0 : decode cX4_init 0 = .ok (.aload_n 0, 1) := by decide +kernel
theorem dX4_init_1 : decode cX4_init 1 = .ok (.invokespecial 3, 3) := by decide +kernel
theorem dX4_init_4 : decode cX4_init 4 = .ok (.aload_n 0, 1) := by decide +kernel
theorem dX4_init_5 : decode cX4_init 5 = .ok (.sipush 1000, 3) := by decide +kernel
theorem dX4_init_8 : decode cX4_init 8 = .ok (.newarray .int, 2) := by decide +kernel
theorem dX4_init_10 : decode cX4_init 10 = .ok (.putfield 9, 3) := by decide +kernel
theorem dX4_init_13 : decode cX4_init 13 = .ok (.aload_n 0, 1) := by decide +kernel
theorem dX4_init_14 : decode cX4_init 14 = .ok (.bipush 25, 2) := by decide +kernel
theorem dX4_init_16 : decode cX4_init 16 = .ok (.newarray .boolean, 2) := by decide +kernel
theorem dX4_init_18 : decode cX4_init 18 = .ok (.putfield 15, 3) := by decide +kernel
theorem dX4_init_21 : decode cX4_init 21 = .ok (.return_, 1) := by decide +kernel
theorem nmX4_init : mm_nm yX4_init 0 := ⟨by decide, by decide, by decide +kernel⟩
theorem cdX4_init : mm_cd cd_Y yX4_init cX4_init 1 none := ⟨tw_57, tw_4⟩
abbrev rmX4_init : Room := { frames := 1, cells := 2, slots := 1025, locals := 12 }
def fX4_init (p0 : Nat) (σ : mm_M) : Option mm_M :=
  mm_let (mm_new σ (.inr (0, 1000))) fun s1 => mm_sh s1 p0 (.inl 4) (mm_let (mm_wR s1 p0 0 (some σ.1)) fun s3 => mm_let (mm_new s3 (.inr (1, 25))) fun s4 => mm_sh s4 p0 (.inl 4) (mm_let (mm_wR s4 p0 1 (some s3.1)) fun s6 => some (s6)))
set_option maxHeartbeats 4000000 in
set_option maxRecDepth 100000 in
theorem kX4_init {G : mm_G} {A : Nat → Prop} (p0 : Nat) {σ : mm_M} {R : mm_M} (hf : fX4_init p0 σ = some R) : mm_C cd_Y G yX4_init cX4_init 1 none rmX4_init A [.ref p0] σ (mm_Pv R) := by
  refine mm_C.of (by decide) (Nat.le_of_ble_eq_true rfl) ?_
  unfold fX4_init at hf
  have e0 : lv_args 0 [.ref p0] = [(0, .ref p0)] := rfl
  rw [e0]
  have hini : (yX4_init.name == "<init>") = true := by decide
  rw [hini]
  clear e0 hini
  refine mm_aload_n (j := 0) dX4_init_0 rfl rfl ?_
  refine mm_objInit tw_58 tw_26 tw_27 dX4_init_1 (by decide) (by simp only [List.map_cons, List.map_nil, mm_rf_cat]; exact Nat.le_of_ble_eq_true rfl) ?_
  refine mm_aload_n (j := 0) dX4_init_4 rfl rfl ?_
  refine mm_sipush (v := 1000) dX4_init_5 (by decide) ?_
  refine mm_newa (atype := .int) (t := 0) (N' := 1000) rfl rfl tw_46 (by decide) (by decide) (by decide) (Nat.le_of_ble_eq_true rfl) (Nat.le_of_ble_eq_true rfl) dX4_init_8 ?_
  obtain ⟨s1, hs1, hf⟩ := mm_let_s hf
  rw [hs1]
  obtain ⟨hs2, hf⟩ := mm_sh_s hf
  refine mm_putFR (c := 4) (k := 0) cd_ok (some σ.1) rfl ⟨_, _, _, rfl, by decide, rfl, rfl, tw_59⟩ hs2 rfl dX4_init_10 ?_
  obtain ⟨s3, hs3, hf⟩ := mm_let_s hf
  rw [hs3]
  refine mm_aload_n (j := 0) dX4_init_13 rfl rfl ?_
  refine mm_bipush (v := 25) dX4_init_14 (by decide) ?_
  refine mm_newa (atype := .boolean) (t := 1) (N' := 25) rfl rfl tw_66 (by decide) (by decide) (by decide) (Nat.le_of_ble_eq_true rfl) (Nat.le_of_ble_eq_true rfl) dX4_init_16 ?_
  obtain ⟨s4, hs4, hf⟩ := mm_let_s hf
  rw [hs4]
  obtain ⟨hs5, hf⟩ := mm_sh_s hf
  refine mm_putFR (c := 4) (k := 1) cd_ok (some s3.1) rfl ⟨_, _, _, rfl, by decide, rfl, rfl, tw_60⟩ hs5 rfl dX4_init_18 ?_
  obtain ⟨s6, hs6, hf⟩ := mm_let_s hf
  rw [hs6]
  cases hf
  refine mm_widen (ck' := rmX4_init.cells) (sk' := rmX4_init.slots) (Nat.le_of_ble_eq_true rfl) (Nat.le_of_ble_eq_true rfl) ?_
  exact mm_vret rfl dX4_init_21 ⟨rfl, rfl⟩
theorem dX4_copyFrom_0 : decode cX4_copyFrom 0 = .ok (.aload_n 1, 1) := by decide +kernel
theorem dX4_copyFrom_1 : decode cX4_copyFrom 1 = .ok (.getfield 9, 3) := by decide +kernel
theorem dX4_copyFrom_4 : decode cX4_copyFrom 4 = .ok (.iconst 0, 1) := by decide +kernel
theorem dX4_copyFrom_5 : decode cX4_copyFrom 5 = .ok (.aload_n 0, 1) := by decide +kernel
theorem dX4_copyFrom_6 : decode cX4_copyFrom 6 = .ok (.getfield 9, 3) := by decide +kernel
theorem dX4_copyFrom_9 : decode cX4_copyFrom 9 = .ok (.iconst 0, 1) := by decide +kernel
theorem dX4_copyFrom_10 : decode cX4_copyFrom 10 = .ok (.sipush 1000, 3) := by decide +kernel
theorem dX4_copyFrom_13 : decode cX4_copyFrom 13 = .ok (.invokestatic 37, 3) := by decide +kernel
theorem dX4_copyFrom_16 : decode cX4_copyFrom 16 = .ok (.aload_n 1, 1) := by decide +kernel
theorem dX4_copyFrom_17 : decode cX4_copyFrom 17 = .ok (.getfield 15, 3) := by decide +kernel
theorem dX4_copyFrom_20 : decode cX4_copyFrom 20 = .ok (.iconst 0, 1) := by decide +kernel
theorem dX4_copyFrom_21 : decode cX4_copyFrom 21 = .ok (.aload_n 0, 1) := by decide +kernel
theorem dX4_copyFrom_22 : decode cX4_copyFrom 22 = .ok (.getfield 15, 3) := by decide +kernel
theorem dX4_copyFrom_25 : decode cX4_copyFrom 25 = .ok (.iconst 0, 1) := by decide +kernel
theorem dX4_copyFrom_26 : decode cX4_copyFrom 26 = .ok (.bipush 25, 2) := by decide +kernel
theorem dX4_copyFrom_28 : decode cX4_copyFrom 28 = .ok (.invokestatic 37, 3) := by decide +kernel
theorem dX4_copyFrom_31 : decode cX4_copyFrom 31 = .ok (.return_, 1) := by decide +kernel
theorem nmX4_copyFrom : mm_nm yX4_copyFrom 1 := ⟨by decide, by decide, by decide +kernel⟩
theorem cdX4_copyFrom : mm_cd cd_Y yX4_copyFrom cX4_copyFrom 2 none := ⟨tw_524, tw_4⟩
abbrev rmX4_copyFrom : Room := { frames := 1, cells := 0, slots := 0, locals := 18 }
def fX4_copyFrom (p0 : Nat) (p1 : Nat) (σ : mm_M) : Option mm_M :=
  mm_sh σ p1 (.inl 4) (mm_sh σ p0 (.inl 4) (mm_on (mm_R σ p0 0) fun q3 => mm_on (mm_R σ p1 0) fun q4 => mm_ar σ q4 0 fun n5 => mm_ar σ q3 0 fun n6 => mm_ck (¬ (0 : Int32) < 0 ∧ ¬ (0 : Int32) < 0 ∧ ¬ (1000 : Int32) < 0 ∧ (0 : Int32).toNatClampNeg + (1000 : Int32).toNatClampNeg ≤ n5 ∧ (0 : Int32).toNatClampNeg + (1000 : Int32).toNatClampNeg ≤ n6 ∧ ∀ i, i < (1000 : Int32).toNatClampNeg → fits .int (.int (mm_I σ q4 ((0 : Int32).toNatClampNeg + i))) = true) (mm_let (mm_wA σ q3 (va_cpy (mm_I σ q4) (mm_I σ q3) (0 : Int32).toNatClampNeg (0 : Int32).toNatClampNeg (1000 : Int32).toNatClampNeg)) fun s8 => mm_on (mm_R s8 p0 1) fun q9 => mm_on (mm_R s8 p1 1) fun q10 => mm_ar s8 q10 1 fun n11 => mm_ar s8 q9 1 fun n12 => mm_ck (¬ (0 : Int32) < 0 ∧ ¬ (0 : Int32) < 0 ∧ ¬ (25 : Int32) < 0 ∧ (0 : Int32).toNatClampNeg + (25 : Int32).toNatClampNeg ≤ n11 ∧ (0 : Int32).toNatClampNeg + (25 : Int32).toNatClampNeg ≤ n12 ∧ ∀ i, i < (25 : Int32).toNatClampNeg → fits .boolean (.int (mm_I s8 q10 ((0 : Int32).toNatClampNeg + i))) = true) (mm_let (mm_wA s8 q9 (va_cpy (mm_I s8 q10) (mm_I s8 q9) (0 : Int32).toNatClampNeg (0 : Int32).toNatClampNeg (25 : Int32).toNatClampNeg)) fun s14 => some (s14)))))
set_option maxHeartbeats 4000000 in
set_option maxRecDepth 100000 in
theorem kX4_copyFrom {G : mm_G} {A : Nat → Prop} (p0 : Nat) (p1 : Nat) {σ : mm_M} {R : mm_M} (hf : fX4_copyFrom p0 p1 σ = some R) : mm_C cd_Y G yX4_copyFrom cX4_copyFrom 2 none rmX4_copyFrom A [.ref p0, .ref p1] σ (mm_Pv R) := by
  refine mm_C.of (by decide) (Nat.le_of_ble_eq_true rfl) ?_
  unfold fX4_copyFrom at hf
  have e0 : lv_args 0 [.ref p0, .ref p1] = [(0, .ref p0), (1, .ref p1)] := rfl
  rw [e0]
  generalize hini : ((yX4_copyFrom.name == "<init>"), none) = ini
  clear e0
  clear hini
  refine mm_aload_n (j := 1) dX4_copyFrom_0 rfl rfl ?_
  obtain ⟨hs1, hf⟩ := mm_sh_s hf
  refine mm_get (c := 4) (k := 0) (v := va_rf (mm_R σ p1 0)) cd_ok ⟨_, _, _, rfl, by decide, Or.inl tw_59⟩ hs1 rfl dX4_copyFrom_1 ?_
  refine mm_iconst (v := 0) dX4_copyFrom_4 (by decide) ?_
  refine mm_aload_n (j := 0) dX4_copyFrom_5 rfl rfl ?_
  obtain ⟨hs2, hf⟩ := mm_sh_s hf
  refine mm_get (c := 4) (k := 0) (v := va_rf (mm_R σ p0 0)) cd_ok ⟨_, _, _, rfl, by decide, Or.inl tw_59⟩ hs2 rfl dX4_copyFrom_6 ?_
  refine mm_iconst (v := 0) dX4_copyFrom_9 (by decide) ?_
  refine mm_sipush (v := 1000) dX4_copyFrom_10 (by decide) ?_
  obtain ⟨q3, hq3, hf⟩ := mm_on_s hf
  rw [hq3, mm_rf_some]
  obtain ⟨q4, hq4, hf⟩ := mm_on_s hf
  rw [hq4, mm_rf_some]
  obtain ⟨n5, hn5, hf⟩ := mm_ar_s hf
  obtain ⟨n6, hn6, hf⟩ := mm_ar_s hf
  obtain ⟨hk7, hf⟩ := mm_ck_s hf
  refine mm_copy tw_525 tw_370 tw_369 tw_15 hn5 hn6 rfl rfl rfl hk7 (by decide) (by simp only [List.map_cons, List.map_nil, mm_rf_cat]; exact Nat.le_of_ble_eq_true rfl) dX4_copyFrom_13 ?_
  obtain ⟨s8, hs8, hf⟩ := mm_let_s hf
  rw [hs8]
  refine mm_aload_n (j := 1) dX4_copyFrom_16 rfl rfl ?_
  refine mm_get (c := 4) (k := 1) (v := va_rf (mm_R s8 p1 1)) cd_ok ⟨_, _, _, rfl, by decide, Or.inl tw_60⟩ (mm_ke hs8 hs1) rfl dX4_copyFrom_17 ?_
  refine mm_iconst (v := 0) dX4_copyFrom_20 (by decide) ?_
  refine mm_aload_n (j := 0) dX4_copyFrom_21 rfl rfl ?_
  refine mm_get (c := 4) (k := 1) (v := va_rf (mm_R s8 p0 1)) cd_ok ⟨_, _, _, rfl, by decide, Or.inl tw_60⟩ (mm_ke hs8 hs2) rfl dX4_copyFrom_22 ?_
  refine mm_iconst (v := 0) dX4_copyFrom_25 (by decide) ?_
  refine mm_bipush (v := 25) dX4_copyFrom_26 (by decide) ?_
  obtain ⟨q9, hq9, hf⟩ := mm_on_s hf
  rw [hq9, mm_rf_some]
  obtain ⟨q10, hq10, hf⟩ := mm_on_s hf
  rw [hq10, mm_rf_some]
  obtain ⟨n11, hn11, hf⟩ := mm_ar_s hf
  obtain ⟨n12, hn12, hf⟩ := mm_ar_s hf
  obtain ⟨hk13, hf⟩ := mm_ck_s hf
  refine mm_copy tw_525 tw_370 tw_369 tw_15 hn11 hn12 rfl rfl rfl hk13 (by decide) (by simp only [List.map_cons, List.map_nil, mm_rf_cat]; exact Nat.le_of_ble_eq_true rfl) dX4_copyFrom_28 ?_
  obtain ⟨s14, hs14, hf⟩ := mm_let_s hf
  rw [hs14]
  cases hf
  refine mm_widen (ck' := rmX4_copyFrom.cells) (sk' := rmX4_copyFrom.slots) (Nat.le_of_ble_eq_true rfl) (Nat.le_of_ble_eq_true rfl) ?_
  exact mm_vret rfl dX4_copyFrom_31 ⟨rfl, rfl⟩
theorem dX4_setSigns_0 : decode cX4_setSigns 0 = .ok (.iconst 0, 1) := by decide +kernel
theorem dX4_setSigns_1 : decode cX4_setSigns 1 = .ok (.istore 4, 2) := by decide +kernel
theorem dX4_setSigns_3 : decode cX4_setSigns 3 = .ok (.iload 4, 2) := by decide +kernel
theorem dX4_setSigns_5 : decode cX4_setSigns 5 = .ok (.iload_n 2, 1) := by decide +kernel
theorem dX4_setSigns_6 : decode cX4_setSigns 6 = .ok (.if_icmp .ge 29, 3) := by decide +kernel
theorem dX4_setSigns_9 : decode cX4_setSigns 9 = .ok (.iload 4, 2) := by decide +kernel
theorem dX4_setSigns_11 : decode cX4_setSigns 11 = .ok (.bipush 40, 2) := by decide +kernel
theorem dX4_setSigns_13 : decode cX4_setSigns 13 = .ok (.if_icmp .ge 22, 3) := by decide +kernel
theorem dX4_setSigns_16 : decode cX4_setSigns 16 = .ok (.aload_n 0, 1) := by decide +kernel
theorem dX4_setSigns_17 : decode cX4_setSigns 17 = .ok (.getfield 9, 3) := by decide +kernel
theorem dX4_setSigns_20 : decode cX4_setSigns 20 = .ok (.iload_n 1, 1) := by decide +kernel
theorem dX4_setSigns_21 : decode cX4_setSigns 21 = .ok (.bipush 40, 2) := by decide +kernel
theorem dX4_setSigns_23 : decode cX4_setSigns 23 = .ok (.imul, 1) := by decide +kernel
theorem dX4_setSigns_24 : decode cX4_setSigns 24 = .ok (.iload 4, 2) := by decide +kernel
theorem dX4_setSigns_26 : decode cX4_setSigns 26 = .ok (.iadd, 1) := by decide +kernel
theorem dX4_setSigns_27 : decode cX4_setSigns 27 = .ok (.iload_n 3, 1) := by decide +kernel
theorem dX4_setSigns_28 : decode cX4_setSigns 28 = .ok (.iastore, 1) := by decide +kernel
theorem dX4_setSigns_29 : decode cX4_setSigns 29 = .ok (.iinc 4 1, 3) := by decide +kernel
theorem dX4_setSigns_32 : decode cX4_setSigns 32 = .ok (.goto (-29), 3) := by decide +kernel
theorem dX4_setSigns_35 : decode cX4_setSigns 35 = .ok (.return_, 1) := by decide +kernel
theorem nmX4_setSigns : mm_nm yX4_setSigns 3 := ⟨by decide, by decide, by decide +kernel⟩
theorem cdX4_setSigns : mm_cd cd_Y yX4_setSigns cX4_setSigns 5 none := ⟨tw_597, tw_4⟩
abbrev rmX4_setSigns : Room := { frames := 0, cells := 0, slots := 0, locals := 0 }
def fX4_setSigns_3  : Nat → Nat → Int32 → Int32 → Int32 → Int32 → mm_M → Option mm_M
  | 0 => fun _ _ _ _ _ _ => none
  | n + 1 => fun a0 x1 x2 x3 x4 σ =>
  (if x2 ≤ x4 then some (σ) else (if 40 ≤ x4 then some (σ) else mm_sh σ a0 (.inl 4) (mm_on (mm_R σ a0 0) fun q4 => mm_ar σ q4 0 fun n5 => mm_ib ((x1 * 40) + x4) n5 (mm_let (mm_wI σ q4 (((x1 * 40) + x4).toNatClampNeg) x3) fun s7 => (fX4_setSigns_3  n a0 x1 x2 x3 (x4 + 1) s7)))))
def fX4_setSigns (p0 : Nat) (p1 : Int32) (p2 : Int32) (p3 : Int32) (σ : mm_M) : Option mm_M :=
  (fX4_setSigns_3  mm_fuel p0 p1 p2 p3 0 σ)
set_option maxHeartbeats 4000000 in
set_option maxRecDepth 100000 in
theorem kX4_setSigns_3 {G : mm_G} {A : Nat → Prop} {ini : Bool × Option (List (Nat × Nat × Nat × Nat))}  {R : mm_M}  : ∀ (a0 : Nat) (x1 : Int32) (x2 : Int32) (x3 : Int32) (x4 : Int32) (σ : mm_M), fX4_setSigns_3  mm_fuel a0 x1 x2 x3 x4 σ = some R → mm_J cd_Y G RX4 cX4_setSigns 5 none ini rmX4_setSigns A (mm_QF cd_Y G A (mm_Pv R) rmX4_setSigns.cells rmX4_setSigns.slots) 3 [(0, .ref a0), (1, .int x1), (2, .int x2), (3, .int x3), (4, .int x4)] [] σ 0 0 := by
  generalize mm_fuel = n
  induction n with
  | zero => intro a0 x1 x2 x3 x4 σ hf; cases hf
  | succ n ih =>
    intro a0 x1 x2 x3 x4 σ hf
    unfold fX4_setSigns_3 at hf
    refine mm_iload (j := 4) dX4_setSigns_3 rfl ?_
    refine mm_iload_n (j := 2) dX4_setSigns_5 rfl rfl ?_
    refine mm_icmp_ge (tgt := 35) dX4_setSigns_6 (by decide) (fun c1 => ?_) (fun c1 => ?_)
    · rw [if_pos c1] at hf
      cases hf
      refine mm_widen (ck' := rmX4_setSigns.cells) (sk' := rmX4_setSigns.slots) (Nat.le_of_ble_eq_true rfl) (Nat.le_of_ble_eq_true rfl) ?_
      exact mm_vret rfl dX4_setSigns_35 ⟨rfl, rfl⟩
    · rw [if_neg c1] at hf
      refine mm_iload (j := 4) dX4_setSigns_9 rfl ?_
      refine mm_bipush (v := 40) dX4_setSigns_11 (by decide) ?_
      refine mm_icmp_ge (tgt := 35) dX4_setSigns_13 (by decide) (fun c2 => ?_) (fun c2 => ?_)
      · rw [if_pos c2] at hf
        cases hf
        refine mm_widen (ck' := rmX4_setSigns.cells) (sk' := rmX4_setSigns.slots) (Nat.le_of_ble_eq_true rfl) (Nat.le_of_ble_eq_true rfl) ?_
        exact mm_vret rfl dX4_setSigns_35 ⟨rfl, rfl⟩
      · rw [if_neg c2] at hf
        refine mm_aload_n (j := 0) dX4_setSigns_16 rfl rfl ?_
        obtain ⟨hs3, hf⟩ := mm_sh_s hf
        refine mm_get (c := 4) (k := 0) (v := va_rf (mm_R σ a0 0)) cd_ok ⟨_, _, _, rfl, by decide, Or.inl tw_59⟩ hs3 rfl dX4_setSigns_17 ?_
        refine mm_iload_n (j := 1) dX4_setSigns_20 rfl rfl ?_
        refine mm_bipush (v := 40) dX4_setSigns_21 (by decide) ?_
        refine mm_imul dX4_setSigns_23 ?_
        refine mm_iload (j := 4) dX4_setSigns_24 rfl ?_
        refine mm_iadd dX4_setSigns_26 ?_
        refine mm_iload_n (j := 3) dX4_setSigns_27 rfl rfl ?_
        obtain ⟨q4, hq4, hf⟩ := mm_on_s hf
        rw [hq4, mm_rf_some]
        obtain ⟨n5, hn5, hf⟩ := mm_ar_s hf
        obtain ⟨hi6, hf⟩ := mm_ib_s hf
        refine mm_iast hn5 rfl hi6 dX4_setSigns_28 ?_
        obtain ⟨s7, hs7, hf⟩ := mm_let_s hf
        rw [hs7]
        refine mm_iinc (j := 4) (L' := [(4, .int (x4 + 1)), (0, .ref a0), (1, .int x1), (2, .int x2), (3, .int x3)]) dX4_setSigns_29 rfl rfl (by decide) rfl ?_
        refine mm_goto (tgt := 3) dX4_setSigns_32 (by decide) ?_
        refine mm_sub [1, 2, 3, 4, 0] rfl ?_
        exact ih a0 x1 x2 x3 (x4 + 1) s7 hf
set_option maxHeartbeats 4000000 in
set_option maxRecDepth 100000 in
theorem kX4_setSigns {G : mm_G} {A : Nat → Prop} (p0 : Nat) (p1 : Int32) (p2 : Int32) (p3 : Int32) {σ : mm_M} {R : mm_M} (hf : fX4_setSigns p0 p1 p2 p3 σ = some R) : mm_C cd_Y G yX4_setSigns cX4_setSigns 5 none rmX4_setSigns A [.ref p0, .int p1, .int p2, .int p3] σ (mm_Pv R) := by
  refine mm_C.of (by decide) (Nat.le_of_ble_eq_true rfl) ?_
  unfold fX4_setSigns at hf
  have e0 : lv_args 0 [.ref p0, .int p1, .int p2, .int p3] = [(0, .ref p0), (1, .int p1), (2, .int p2), (3, .int p3)] := rfl
  rw [e0]
  generalize hini : ((yX4_setSigns.name == "<init>"), none) = ini
  clear e0
  clear hini
  refine mm_iconst (v := 0) dX4_setSigns_0 (by decide) ?_
  refine mm_istore (L' := [(4, .int 0), (0, .ref p0), (1, .int p1), (2, .int p2), (3, .int p3)]) dX4_setSigns_1 (by decide) rfl ?_
  refine mm_sub [1, 2, 3, 4, 0] rfl ?_
  exact kX4_setSigns_3  p0 p1 p2 p3 0 σ hf
theorem dX5_init_0 : decode cX5_init 0 = .ok (.aload_n 0, 1) := by decide +kernel
theorem dX5_init_1 : decode cX5_init 1 = .ok (.invokespecial 3, 3) := by decide +kernel
theorem dX5_init_4 : decode cX5_init 4 = .ok (.aload_n 0, 1) := by decide +kernel
theorem dX5_init_5 : decode cX5_init 5 = .ok (.sipush 480, 3) := by decide +kernel
theorem dX5_init_8 : decode cX5_init 8 = .ok (.newarray .int, 2) := by decide +kernel
theorem dX5_init_10 : decode cX5_init 10 = .ok (.putfield 9, 3) := by decide +kernel
theorem dX5_init_13 : decode cX5_init 13 = .ok (.aload_n 0, 1) := by decide +kernel
theorem dX5_init_14 : decode cX5_init 14 = .ok (.sipush 480, 3) := by decide +kernel
theorem dX5_init_17 : decode cX5_init 17 = .ok (.newarray .int, 2) := by decide +kernel
theorem dX5_init_19 : decode cX5_init 19 = .ok (.putfield 15, 3) := by decide +kernel
theorem dX5_init_22 : decode cX5_init 22 = .ok (.return_, 1) := by decide +kernel
theorem nmX5_init : mm_nm yX5_init 0 := ⟨by decide, by decide, by decide +kernel⟩
theorem cdX5_init : mm_cd cd_Y yX5_init cX5_init 1 none := ⟨tw_102, tw_7⟩
abbrev rmX5_init : Room := { frames := 1, cells := 2, slots := 960, locals := 12 }
def fX5_init (p0 : Nat) (σ : mm_M) : Option mm_M :=
  mm_let (mm_new σ (.inr (0, 480))) fun s1 => mm_sh s1 p0 (.inl 5) (mm_let (mm_wR s1 p0 0 (some σ.1)) fun s3 => mm_let (mm_new s3 (.inr (0, 480))) fun s4 => mm_sh s4 p0 (.inl 5) (mm_let (mm_wR s4 p0 1 (some s3.1)) fun s6 => some (s6)))
set_option maxHeartbeats 4000000 in
set_option maxRecDepth 100000 in
theorem kX5_init {G : mm_G} {A : Nat → Prop} (p0 : Nat) {σ : mm_M} {R : mm_M} (hf : fX5_init p0 σ = some R) : mm_C cd_Y G yX5_init cX5_init 1 none rmX5_init A [.ref p0] σ (mm_Pv R) := by
  refine mm_C.of (by decide) (Nat.le_of_ble_eq_true rfl) ?_
  unfold fX5_init at hf
  have e0 : lv_args 0 [.ref p0] = [(0, .ref p0)] := rfl
  rw [e0]
  have hini : (yX5_init.name == "<init>") = true := by decide
  rw [hini]
  clear e0 hini
  refine mm_aload_n (j := 0) dX5_init_0 rfl rfl ?_
  refine mm_objInit tw_103 tw_26 tw_27 dX5_init_1 (by decide) (by simp only [List.map_cons, List.map_nil, mm_rf_cat]; exact Nat.le_of_ble_eq_true rfl) ?_
  refine mm_aload_n (j := 0) dX5_init_4 rfl rfl ?_
  refine mm_sipush (v := 480) dX5_init_5 (by decide) ?_
  refine mm_newa (atype := .int) (t := 0) (N' := 480) rfl rfl tw_46 (by decide) (by decide) (by decide) (Nat.le_of_ble_eq_true rfl) (Nat.le_of_ble_eq_true rfl) dX5_init_8 ?_
  obtain ⟨s1, hs1, hf⟩ := mm_let_s hf
  rw [hs1]
  obtain ⟨hs2, hf⟩ := mm_sh_s hf
  refine mm_putFR (c := 5) (k := 0) cd_ok (some σ.1) rfl ⟨_, _, _, rfl, by decide, rfl, rfl, tw_104⟩ hs2 rfl dX5_init_10 ?_
  obtain ⟨s3, hs3, hf⟩ := mm_let_s hf
  rw [hs3]
  refine mm_aload_n (j := 0) dX5_init_13 rfl rfl ?_
  refine mm_sipush (v := 480) dX5_init_14 (by decide) ?_
  refine mm_newa (atype := .int) (t := 0) (N' := 480) rfl rfl tw_46 (by decide) (by decide) (by decide) (Nat.le_of_ble_eq_true rfl) (Nat.le_of_ble_eq_true rfl) dX5_init_17 ?_
  obtain ⟨s4, hs4, hf⟩ := mm_let_s hf
  rw [hs4]
  obtain ⟨hs5, hf⟩ := mm_sh_s hf
  refine mm_putFR (c := 5) (k := 1) cd_ok (some s3.1) rfl ⟨_, _, _, rfl, by decide, rfl, rfl, tw_105⟩ hs5 rfl dX5_init_19 ?_
  obtain ⟨s6, hs6, hf⟩ := mm_let_s hf
  rw [hs6]
  cases hf
  refine mm_widen (ck' := rmX5_init.cells) (sk' := rmX5_init.slots) (Nat.le_of_ble_eq_true rfl) (Nat.le_of_ble_eq_true rfl) ?_
  exact mm_vret rfl dX5_init_22 ⟨rfl, rfl⟩
theorem dX5_eraseCells_0 : decode cX5_eraseCells 0 = .ok (.iload_n 1, 1) := by decide +kernel
theorem dX5_eraseCells_1 : decode cX5_eraseCells 1 = .ok (.istore_n 3, 1) := by decide +kernel
theorem dX5_eraseCells_2 : decode cX5_eraseCells 2 = .ok (.iload_n 3, 1) := by decide +kernel
theorem dX5_eraseCells_3 : decode cX5_eraseCells 3 = .ok (.ifCond .lt 35, 3) := by decide +kernel
theorem dX5_eraseCells_6 : decode cX5_eraseCells 6 = .ok (.iload_n 3, 1) := by decide +kernel
theorem dX5_eraseCells_7 : decode cX5_eraseCells 7 = .ok (.iload_n 2, 1) := by decide +kernel
theorem dX5_eraseCells_8 : decode cX5_eraseCells 8 = .ok (.if_icmp .ge 30, 3) := by decide +kernel
theorem dX5_eraseCells_11 : decode cX5_eraseCells 11 = .ok (.iload_n 3, 1) := by decide +kernel
theorem dX5_eraseCells_12 : decode cX5_eraseCells 12 = .ok (.sipush 480, 3) := by decide +kernel
theorem dX5_eraseCells_15 : decode cX5_eraseCells 15 = .ok (.if_icmp .ge 23, 3) := by decide +kernel
theorem dX5_eraseCells_18 : decode cX5_eraseCells 18 = .ok (.aload_n 0, 1) := by decide +kernel
theorem dX5_eraseCells_19 : decode cX5_eraseCells 19 = .ok (.getfield 9, 3) := by decide +kernel
theorem dX5_eraseCells_22 : decode cX5_eraseCells 22 = .ok (.iload_n 3, 1) := by decide +kernel
theorem dX5_eraseCells_23 : decode cX5_eraseCells 23 = .ok (.iconst 0, 1) := by decide +kernel
theorem dX5_eraseCells_24 : decode cX5_eraseCells 24 = .ok (.iastore, 1) := by decide +kernel
theorem dX5_eraseCells_25 : decode cX5_eraseCells 25 = .ok (.aload_n 0, 1) := by decide +kernel
theorem dX5_eraseCells_26 : decode cX5_eraseCells 26 = .ok (.getfield 15, 3) := by decide +kernel
theorem dX5_eraseCells_29 : decode cX5_eraseCells 29 = .ok (.iload_n 3, 1) := by decide +kernel
theorem dX5_eraseCells_30 : decode cX5_eraseCells 30 = .ok (.iconst 0, 1) := by decide +kernel
theorem dX5_eraseCells_31 : decode cX5_eraseCells 31 = .ok (.iastore, 1) := by decide +kernel
theorem dX5_eraseCells_32 : decode cX5_eraseCells 32 = .ok (.iinc 3 1, 3) := by decide +kernel
theorem dX5_eraseCells_35 : decode cX5_eraseCells 35 = .ok (.goto (-33), 3) := by decide +kernel
theorem dX5_eraseCells_38 : decode cX5_eraseCells 38 = .ok (.return_, 1) := by decide +kernel
theorem nmX5_eraseCells : mm_nm yX5_eraseCells 2 := ⟨by decide, by decide, by decide +kernel⟩
theorem cdX5_eraseCells : mm_cd cd_Y yX5_eraseCells cX5_eraseCells 4 none := ⟨tw_374, tw_7⟩
abbrev rmX5_eraseCells : Room := { frames := 0, cells := 0, slots := 0, locals := 0 }
def fX5_eraseCells_2  : Nat → Nat → Int32 → Int32 → Int32 → mm_M → Option mm_M
  | 0 => fun _ _ _ _ _ => none
  | n + 1 => fun a0 x1 x2 x3 σ =>
  (if x3 < 0 then some (σ) else (if x2 ≤ x3 then some (σ) else (if 480 ≤ x3 then some (σ) else mm_sh σ a0 (.inl 5) (mm_on (mm_R σ a0 0) fun q5 => mm_ar σ q5 0 fun n6 => mm_ib x3 n6 (mm_let (mm_wI σ q5 (x3.toNatClampNeg) 0) fun s8 => mm_on (mm_R s8 a0 1) fun q9 => mm_ar s8 q9 0 fun n10 => mm_ib x3 n10 (mm_let (mm_wI s8 q9 (x3.toNatClampNeg) 0) fun s12 => (fX5_eraseCells_2  n a0 x1 x2 (x3 + 1) s12)))))))
def fX5_eraseCells (p0 : Nat) (p1 : Int32) (p2 : Int32) (σ : mm_M) : Option mm_M :=
  (fX5_eraseCells_2  mm_fuel p0 p1 p2 p1 σ)
set_option maxHeartbeats 4000000 in
set_option maxRecDepth 100000 in
theorem kX5_eraseCells_2 {G : mm_G} {A : Nat → Prop} {ini : Bool × Option (List (Nat × Nat × Nat × Nat))}  {R : mm_M}  : ∀ (a0 : Nat) (x1 : Int32) (x2 : Int32) (x3 : Int32) (σ : mm_M), fX5_eraseCells_2  mm_fuel a0 x1 x2 x3 σ = some R → mm_J cd_Y G RX5 cX5_eraseCells 4 none ini rmX5_eraseCells A (mm_QF cd_Y G A (mm_Pv R) rmX5_eraseCells.cells rmX5_eraseCells.slots) 2 [(0, .ref a0), (1, .int x1), (2, .int x2), (3, .int x3)] [] σ 0 0 := by
  generalize mm_fuel = n
  induction n with
  | zero => intro a0 x1 x2 x3 σ hf; cases hf
  | succ n ih =>
    intro a0 x1 x2 x3 σ hf
    unfold fX5_eraseCells_2 at hf
    refine mm_iload_n (j := 3) dX5_eraseCells_2 rfl rfl ?_
    refine mm_if_lt (tgt := 38) dX5_eraseCells_3 (by decide) (fun c1 => ?_) (fun c1 => ?_)
    · rw [if_pos c1] at hf
      cases hf
      refine mm_widen (ck' := rmX5_eraseCells.cells) (sk' := rmX5_eraseCells.slots) (Nat.le_of_ble_eq_true rfl) (Nat.le_of_ble_eq_true rfl) ?_
      exact mm_vret rfl dX5_eraseCells_38 ⟨rfl, rfl⟩
    · rw [if_neg c1] at hf
      refine mm_iload_n (j := 3) dX5_eraseCells_6 rfl rfl ?_
      refine mm_iload_n (j := 2) dX5_eraseCells_7 rfl rfl ?_
      refine mm_icmp_ge (tgt := 38) dX5_eraseCells_8 (by decide) (fun c2 => ?_) (fun c2 => ?_)
      · rw [if_pos c2] at hf
        cases hf
        refine mm_widen (ck' := rmX5_eraseCells.cells) (sk' := rmX5_eraseCells.slots) (Nat.le_of_ble_eq_true rfl) (Nat.le_of_ble_eq_true rfl) ?_
        exact mm_vret rfl dX5_eraseCells_38 ⟨rfl, rfl⟩
      · rw [if_neg c2] at hf
        refine mm_iload_n (j := 3) dX5_eraseCells_11 rfl rfl ?_
        refine mm_sipush (v := 480) dX5_eraseCells_12 (by decide) ?_
        refine mm_icmp_ge (tgt := 38) dX5_eraseCells_15 (by decide) (fun c3 => ?_) (fun c3 => ?_)
        · rw [if_pos c3] at hf
          cases hf
          refine mm_widen (ck' := rmX5_eraseCells.cells) (sk' := rmX5_eraseCells.slots) (Nat.le_of_ble_eq_true rfl) (Nat.le_of_ble_eq_true rfl) ?_
          exact mm_vret rfl dX5_eraseCells_38 ⟨rfl, rfl⟩
        · rw [if_neg c3] at hf
          refine mm_aload_n (j := 0) dX5_eraseCells_18 rfl rfl ?_
          obtain ⟨hs4, hf⟩ := mm_sh_s hf
          refine mm_get (c := 5) (k := 0) (v := va_rf (mm_R σ a0 0)) cd_ok ⟨_, _, _, rfl, by decide, Or.inl tw_104⟩ hs4 rfl dX5_eraseCells_19 ?_
          refine mm_iload_n (j := 3) dX5_eraseCells_22 rfl rfl ?_
          refine mm_iconst (v := 0) dX5_eraseCells_23 (by decide) ?_
          obtain ⟨q5, hq5, hf⟩ := mm_on_s hf
          rw [hq5, mm_rf_some]
          obtain ⟨n6, hn6, hf⟩ := mm_ar_s hf
          obtain ⟨hi7, hf⟩ := mm_ib_s hf
          refine mm_iast hn6 rfl hi7 dX5_eraseCells_24 ?_
          obtain ⟨s8, hs8, hf⟩ := mm_let_s hf
          rw [hs8]
          refine mm_aload_n (j := 0) dX5_eraseCells_25 rfl rfl ?_
          refine mm_get (c := 5) (k := 1) (v := va_rf (mm_R s8 a0 1)) cd_ok ⟨_, _, _, rfl, by decide, Or.inl tw_105⟩ (mm_ke hs8 hs4) rfl dX5_eraseCells_26 ?_
          refine mm_iload_n (j := 3) dX5_eraseCells_29 rfl rfl ?_
          refine mm_iconst (v := 0) dX5_eraseCells_30 (by decide) ?_
          obtain ⟨q9, hq9, hf⟩ := mm_on_s hf
          rw [hq9, mm_rf_some]
          obtain ⟨n10, hn10, hf⟩ := mm_ar_s hf
          obtain ⟨hi11, hf⟩ := mm_ib_s hf
          refine mm_iast hn10 rfl hi11 dX5_eraseCells_31 ?_
          obtain ⟨s12, hs12, hf⟩ := mm_let_s hf
          rw [hs12]
          refine mm_iinc (j := 3) (L' := [(3, .int (x3 + 1)), (0, .ref a0), (1, .int x1), (2, .int x2)]) dX5_eraseCells_32 rfl rfl (by decide) rfl ?_
          refine mm_goto (tgt := 2) dX5_eraseCells_35 (by decide) ?_
          refine mm_sub [1, 2, 3, 0] rfl ?_
          exact ih a0 x1 x2 (x3 + 1) s12 hf
set_option maxHeartbeats 4000000 in
set_option maxRecDepth 100000 in
theorem kX5_eraseCells {G : mm_G} {A : Nat → Prop} (p0 : Nat) (p1 : Int32) (p2 : Int32) {σ : mm_M} {R : mm_M} (hf : fX5_eraseCells p0 p1 p2 σ = some R) : mm_C cd_Y G yX5_eraseCells cX5_eraseCells 4 none rmX5_eraseCells A [.ref p0, .int p1, .int p2] σ (mm_Pv R) := by
  refine mm_C.of (by decide) (Nat.le_of_ble_eq_true rfl) ?_
  unfold fX5_eraseCells at hf
  have e0 : lv_args 0 [.ref p0, .int p1, .int p2] = [(0, .ref p0), (1, .int p1), (2, .int p2)] := rfl
  rw [e0]
  generalize hini : ((yX5_eraseCells.name == "<init>"), none) = ini
  clear e0
  clear hini
  refine mm_iload_n (j := 1) dX5_eraseCells_0 rfl rfl ?_
  refine mm_istore_n (L' := [(3, .int p1), (0, .ref p0), (1, .int p1), (2, .int p2)]) dX5_eraseCells_1 rfl (by decide) rfl ?_
  refine mm_sub [1, 2, 3, 0] rfl ?_
  exact kX5_eraseCells_2  p0 p1 p2 p1 σ hf
theorem dX5_isCell_0 : decode cX5_isCell 0 = .ok (.iload_n 0, 1) := by decide +kernel
theorem dX5_isCell_1 : decode cX5_isCell 1 = .ok (.iconst 1, 1) := by decide +kernel
theorem dX5_isCell_2 : decode cX5_isCell 2 = .ok (.if_icmp .lt 23, 3) := by decide +kernel
theorem dX5_isCell_5 : decode cX5_isCell 5 = .ok (.iload_n 0, 1) := by decide +kernel
theorem dX5_isCell_6 : decode cX5_isCell 6 = .ok (.bipush 15, 2) := by decide +kernel
theorem dX5_isCell_8 : decode cX5_isCell 8 = .ok (.if_icmp .gt 17, 3) := by decide +kernel
theorem dX5_isCell_11 : decode cX5_isCell 11 = .ok (.iload_n 1, 1) := by decide +kernel
theorem dX5_isCell_12 : decode cX5_isCell 12 = .ok (.ifCond .lt 13, 3) := by decide +kernel
theorem dX5_isCell_15 : decode cX5_isCell 15 = .ok (.iload_n 1, 1) := by decide +kernel
theorem dX5_isCell_16 : decode cX5_isCell 16 = .ok (.bipush 32, 2) := by decide +kernel
theorem dX5_isCell_18 : decode cX5_isCell 18 = .ok (.if_icmp .ge 7, 3) := by decide +kernel
theorem dX5_isCell_21 : decode cX5_isCell 21 = .ok (.iconst 1, 1) := by decide +kernel
theorem dX5_isCell_22 : decode cX5_isCell 22 = .ok (.goto 4, 3) := by decide +kernel
theorem dX5_isCell_25 : decode cX5_isCell 25 = .ok (.iconst 0, 1) := by decide +kernel
theorem dX5_isCell_26 : decode cX5_isCell 26 = .ok (.ireturn, 1) := by decide +kernel
theorem nmX5_isCell : mm_nm yX5_isCell 2 := ⟨by decide, by decide, by decide +kernel⟩
theorem cdX5_isCell : mm_cd cd_Y yX5_isCell cX5_isCell 2 (some .boolean) := ⟨tw_335, tw_7⟩
abbrev rmX5_isCell : Room := { frames := 0, cells := 0, slots := 0, locals := 0 }
def fX5_isCell (p0 : Int32) (p1 : Int32) : Int32 :=
  (if p0 < 1 then 0 else (if 15 < p0 then 0 else (if p1 < 0 then 0 else (if 32 ≤ p1 then 0 else 1))))
set_option maxHeartbeats 4000000 in
set_option maxRecDepth 100000 in
theorem kX5_isCell {G : mm_G} {A : Nat → Prop} (p0 : Int32) (p1 : Int32) (σ0 : mm_M) {R : Int32} (hf : fX5_isCell p0 p1 = R) : mm_C cd_Y G yX5_isCell cX5_isCell 2 (some .boolean) rmX5_isCell A [.int p0, .int p1] σ0 (mm_Pi R σ0) := by
  refine mm_C.of (by decide) (Nat.le_of_ble_eq_true rfl) ?_
  unfold fX5_isCell at hf
  have e0 : lv_args 0 [.int p0, .int p1] = [(0, .int p0), (1, .int p1)] := rfl
  rw [e0]
  generalize hini : ((yX5_isCell.name == "<init>"), none) = ini
  clear e0
  clear hini
  refine mm_iload_n (j := 0) dX5_isCell_0 rfl rfl ?_
  refine mm_iconst (v := 1) dX5_isCell_1 (by decide) ?_
  refine mm_icmp_lt (tgt := 25) dX5_isCell_2 (by decide) (fun c1 => ?_) (fun c1 => ?_)
  · rw [if_pos c1] at hf
    refine mm_iconst (v := 0) dX5_isCell_25 (by decide) ?_
    subst hf
    refine mm_widen (ck' := rmX5_isCell.cells) (sk' := rmX5_isCell.slots) (Nat.le_of_ble_eq_true rfl) (Nat.le_of_ble_eq_true rfl) ?_
    exact mm_iret rfl rfl dX5_isCell_26 ⟨rfl, rfl⟩
  · rw [if_neg c1] at hf
    refine mm_iload_n (j := 0) dX5_isCell_5 rfl rfl ?_
    refine mm_bipush (v := 15) dX5_isCell_6 (by decide) ?_
    refine mm_icmp_gt (tgt := 25) dX5_isCell_8 (by decide) (fun c2 => ?_) (fun c2 => ?_)
    · rw [if_pos c2] at hf
      refine mm_iconst (v := 0) dX5_isCell_25 (by decide) ?_
      subst hf
      refine mm_widen (ck' := rmX5_isCell.cells) (sk' := rmX5_isCell.slots) (Nat.le_of_ble_eq_true rfl) (Nat.le_of_ble_eq_true rfl) ?_
      exact mm_iret rfl rfl dX5_isCell_26 ⟨rfl, rfl⟩
    · rw [if_neg c2] at hf
      refine mm_iload_n (j := 1) dX5_isCell_11 rfl rfl ?_
      refine mm_if_lt (tgt := 25) dX5_isCell_12 (by decide) (fun c3 => ?_) (fun c3 => ?_)
      · rw [if_pos c3] at hf
        refine mm_iconst (v := 0) dX5_isCell_25 (by decide) ?_
        subst hf
        refine mm_widen (ck' := rmX5_isCell.cells) (sk' := rmX5_isCell.slots) (Nat.le_of_ble_eq_true rfl) (Nat.le_of_ble_eq_true rfl) ?_
        exact mm_iret rfl rfl dX5_isCell_26 ⟨rfl, rfl⟩
      · rw [if_neg c3] at hf
        refine mm_iload_n (j := 1) dX5_isCell_15 rfl rfl ?_
        refine mm_bipush (v := 32) dX5_isCell_16 (by decide) ?_
        refine mm_icmp_ge (tgt := 25) dX5_isCell_18 (by decide) (fun c4 => ?_) (fun c4 => ?_)
        · rw [if_pos c4] at hf
          refine mm_iconst (v := 0) dX5_isCell_25 (by decide) ?_
          subst hf
          refine mm_widen (ck' := rmX5_isCell.cells) (sk' := rmX5_isCell.slots) (Nat.le_of_ble_eq_true rfl) (Nat.le_of_ble_eq_true rfl) ?_
          exact mm_iret rfl rfl dX5_isCell_26 ⟨rfl, rfl⟩
        · rw [if_neg c4] at hf
          refine mm_iconst (v := 1) dX5_isCell_21 (by decide) ?_
          refine mm_goto (tgt := 26) dX5_isCell_22 (by decide) ?_
          subst hf
          refine mm_widen (ck' := rmX5_isCell.cells) (sk' := rmX5_isCell.slots) (Nat.le_of_ble_eq_true rfl) (Nat.le_of_ble_eq_true rfl) ?_
          exact mm_iret rfl rfl dX5_isCell_26 ⟨rfl, rfl⟩
theorem dX5_indexOf_0 : decode cX5_indexOf 0 = .ok (.iload_n 0, 1) := by decide +kernel
theorem dX5_indexOf_1 : decode cX5_indexOf 1 = .ok (.iconst 1, 1) := by decide +kernel
theorem dX5_indexOf_2 : decode cX5_indexOf 2 = .ok (.isub, 1) := by decide +kernel
theorem dX5_indexOf_3 : decode cX5_indexOf 3 = .ok (.bipush 32, 2) := by decide +kernel
theorem dX5_indexOf_5 : decode cX5_indexOf 5 = .ok (.imul, 1) := by decide +kernel
theorem dX5_indexOf_6 : decode cX5_indexOf 6 = .ok (.iload_n 1, 1) := by decide +kernel
theorem dX5_indexOf_7 : decode cX5_indexOf 7 = .ok (.iadd, 1) := by decide +kernel
theorem dX5_indexOf_8 : decode cX5_indexOf 8 = .ok (.ireturn, 1) := by decide +kernel
theorem nmX5_indexOf : mm_nm yX5_indexOf 2 := ⟨by decide, by decide, by decide +kernel⟩
theorem cdX5_indexOf : mm_cd cd_Y yX5_indexOf cX5_indexOf 2 (some .int) := ⟨tw_338, tw_7⟩
abbrev rmX5_indexOf : Room := { frames := 0, cells := 0, slots := 0, locals := 0 }
def fX5_indexOf (p0 : Int32) (p1 : Int32) : Int32 :=
  ((p0 - 1) * 32) + p1
set_option maxHeartbeats 4000000 in
set_option maxRecDepth 100000 in
theorem kX5_indexOf {G : mm_G} {A : Nat → Prop} (p0 : Int32) (p1 : Int32) (σ0 : mm_M) {R : Int32} (hf : fX5_indexOf p0 p1 = R) : mm_C cd_Y G yX5_indexOf cX5_indexOf 2 (some .int) rmX5_indexOf A [.int p0, .int p1] σ0 (mm_Pi R σ0) := by
  refine mm_C.of (by decide) (Nat.le_of_ble_eq_true rfl) ?_
  unfold fX5_indexOf at hf
  have e0 : lv_args 0 [.int p0, .int p1] = [(0, .int p0), (1, .int p1)] := rfl
  rw [e0]
  generalize hini : ((yX5_indexOf.name == "<init>"), none) = ini
  clear e0
  clear hini
  refine mm_iload_n (j := 0) dX5_indexOf_0 rfl rfl ?_
  refine mm_iconst (v := 1) dX5_indexOf_1 (by decide) ?_
  refine mm_isub dX5_indexOf_2 ?_
  refine mm_bipush (v := 32) dX5_indexOf_3 (by decide) ?_
  refine mm_imul dX5_indexOf_5 ?_
  refine mm_iload_n (j := 1) dX5_indexOf_6 rfl rfl ?_
  refine mm_iadd dX5_indexOf_7 ?_
  subst hf
  refine mm_widen (ck' := rmX5_indexOf.cells) (sk' := rmX5_indexOf.slots) (Nat.le_of_ble_eq_true rfl) (Nat.le_of_ble_eq_true rfl) ?_
  exact mm_iret rfl rfl dX5_indexOf_8 ⟨rfl, rfl⟩
theorem dX6_init_0 : decode cX6_init 0 = .ok (.aload_n 0, 1) := by decide +kernel
theorem dX6_init_1 : decode cX6_init 1 = .ok (.invokespecial 3, 3) := by decide +kernel
theorem dX6_init_4 : decode cX6_init 4 = .ok (.aload_n 0, 1) := by decide +kernel
theorem dX6_init_5 : decode cX6_init 5 = .ok (.bipush 20, 2) := by decide +kernel
theorem dX6_init_7 : decode cX6_init 7 = .ok (.anewarray 9, 3) := by decide +kernel
theorem dX6_init_10 : decode cX6_init 10 = .ok (.putfield 11, 3) := by decide +kernel
theorem dX6_init_13 : decode cX6_init 13 = .ok (.return_, 1) := by decide +kernel
theorem nmX6_init : mm_nm yX6_init 0 := ⟨by decide, by decide, by decide +kernel⟩
theorem cdX6_init : mm_cd cd_Y yX6_init cX6_init 1 none := ⟨tw_34, tw_2⟩
abbrev rmX6_init : Room := { frames := 1, cells := 1, slots := 20, locals := 12 }
def fX6_init (p0 : Nat) (σ : mm_M) : Option mm_M :=
  mm_let (mm_new σ (.inr (5, 20))) fun s1 => mm_sh s1 p0 (.inl 6) (mm_let (mm_wR s1 p0 0 (some σ.1)) fun s3 => some (s3))
set_option maxHeartbeats 4000000 in
set_option maxRecDepth 100000 in
theorem kX6_init {G : mm_G} {A : Nat → Prop} (p0 : Nat) {σ : mm_M} {R : mm_M} (hf : fX6_init p0 σ = some R) : mm_C cd_Y G yX6_init cX6_init 1 none rmX6_init A [.ref p0] σ (mm_Pv R) := by
  refine mm_C.of (by decide) (Nat.le_of_ble_eq_true rfl) ?_
  unfold fX6_init at hf
  have e0 : lv_args 0 [.ref p0] = [(0, .ref p0)] := rfl
  rw [e0]
  have hini : (yX6_init.name == "<init>") = true := by decide
  rw [hini]
  clear e0 hini
  refine mm_aload_n (j := 0) dX6_init_0 rfl rfl ?_
  refine mm_objInit tw_35 tw_26 tw_27 dX6_init_1 (by decide) (by simp only [List.map_cons, List.map_nil, mm_rf_cat]; exact Nat.le_of_ble_eq_true rfl) ?_
  refine mm_aload_n (j := 0) dX6_init_4 rfl rfl ?_
  refine mm_bipush (v := 20) dX6_init_5 (by decide) ?_
  refine mm_newq (t := 5) (N' := 20) rfl tw_36 (by decide) (by decide) (by decide) (Nat.le_of_ble_eq_true rfl) (Nat.le_of_ble_eq_true rfl) dX6_init_7 ?_
  obtain ⟨s1, hs1, hf⟩ := mm_let_s hf
  rw [hs1]
  obtain ⟨hs2, hf⟩ := mm_sh_s hf
  refine mm_putFR (c := 6) (k := 0) cd_ok (some σ.1) rfl ⟨_, _, _, rfl, by decide, rfl, rfl, tw_38⟩ hs2 rfl dX6_init_10 ?_
  obtain ⟨s3, hs3, hf⟩ := mm_let_s hf
  rw [hs3]
  cases hf
  refine mm_widen (ck' := rmX6_init.cells) (sk' := rmX6_init.slots) (Nat.le_of_ble_eq_true rfl) (Nat.le_of_ble_eq_true rfl) ?_
  exact mm_vret rfl dX6_init_13 ⟨rfl, rfl⟩
theorem dX6_addBehind_0 : decode cX6_addBehind 0 = .ok (.aload_n 0, 1) := by decide +kernel
theorem dX6_addBehind_1 : decode cX6_addBehind 1 = .ok (.getfield 17, 3) := by decide +kernel
theorem dX6_addBehind_4 : decode cX6_addBehind 4 = .ok (.bipush 20, 2) := by decide +kernel
theorem dX6_addBehind_6 : decode cX6_addBehind 6 = .ok (.if_icmp .ge 23, 3) := by decide +kernel
theorem dX6_addBehind_9 : decode cX6_addBehind 9 = .ok (.aload_n 0, 1) := by decide +kernel
theorem dX6_addBehind_10 : decode cX6_addBehind 10 = .ok (.getfield 11, 3) := by decide +kernel
theorem dX6_addBehind_13 : decode cX6_addBehind 13 = .ok (.aload_n 0, 1) := by decide +kernel
theorem dX6_addBehind_14 : decode cX6_addBehind 14 = .ok (.getfield 17, 3) := by decide +kernel
theorem dX6_addBehind_17 : decode cX6_addBehind 17 = .ok (.aload_n 1, 1) := by decide +kernel
theorem dX6_addBehind_18 : decode cX6_addBehind 18 = .ok (.aastore, 1) := by decide +kernel
theorem dX6_addBehind_19 : decode cX6_addBehind 19 = .ok (.aload_n 0, 1) := by decide +kernel
theorem dX6_addBehind_20 : decode cX6_addBehind 20 = .ok (.dup, 1) := by decide +kernel
theorem dX6_addBehind_21 : decode cX6_addBehind 21 = .ok (.getfield 17, 3) := by decide +kernel
theorem dX6_addBehind_24 : decode cX6_addBehind 24 = .ok (.iconst 1, 1) := by decide +kernel
theorem dX6_addBehind_25 : decode cX6_addBehind 25 = .ok (.iadd, 1) := by decide +kernel
theorem dX6_addBehind_26 : decode cX6_addBehind 26 = .ok (.putfield 17, 3) := by decide +kernel
theorem dX6_addBehind_29 : decode cX6_addBehind 29 = .ok (.return_, 1) := by decide +kernel
theorem nmX6_addBehind : mm_nm yX6_addBehind 1 := ⟨by decide, by decide, by decide +kernel⟩
theorem cdX6_addBehind : mm_cd cd_Y yX6_addBehind cX6_addBehind 2 none := ⟨tw_605, tw_2⟩
abbrev rmX6_addBehind : Room := { frames := 0, cells := 0, slots := 0, locals := 0 }
def fX6_addBehind (p0 : Nat) (p1 : Nat) (σ : mm_M) : Option mm_M :=
  mm_sh σ p0 (.inl 6) ((if 20 ≤ (mm_I σ p0 1) then some (σ) else mm_on (mm_R σ p0 0) fun q3 => mm_ar σ q3 5 fun n4 => mm_ib (mm_I σ p0 1) n4 (mm_sh σ p1 (.inl 3) (mm_let (mm_wR σ q3 ((mm_I σ p0 1).toNatClampNeg) (some p1)) fun s7 => mm_let (mm_wI s7 p0 1 ((mm_I s7 p0 1) + 1)) fun s8 => some (s8)))))
set_option maxHeartbeats 4000000 in
set_option maxRecDepth 100000 in
theorem kX6_addBehind {G : mm_G} {A : Nat → Prop} (p0 : Nat) (p1 : Nat) {σ : mm_M} {R : mm_M} (hf : fX6_addBehind p0 p1 σ = some R) : mm_C cd_Y G yX6_addBehind cX6_addBehind 2 none rmX6_addBehind A [.ref p0, .ref p1] σ (mm_Pv R) := by
  refine mm_C.of (by decide) (Nat.le_of_ble_eq_true rfl) ?_
  unfold fX6_addBehind at hf
  have e0 : lv_args 0 [.ref p0, .ref p1] = [(0, .ref p0), (1, .ref p1)] := rfl
  rw [e0]
  generalize hini : ((yX6_addBehind.name == "<init>"), none) = ini
  clear e0
  clear hini
  refine mm_aload_n (j := 0) dX6_addBehind_0 rfl rfl ?_
  obtain ⟨hs1, hf⟩ := mm_sh_s hf
  refine mm_get (c := 6) (k := 1) (v := .int (mm_I σ p0 1)) cd_ok ⟨_, _, _, rfl, by decide, Or.inl tw_39⟩ hs1 rfl dX6_addBehind_1 ?_
  refine mm_bipush (v := 20) dX6_addBehind_4 (by decide) ?_
  refine mm_icmp_ge (tgt := 29) dX6_addBehind_6 (by decide) (fun c2 => ?_) (fun c2 => ?_)
  · rw [if_pos c2] at hf
    cases hf
    refine mm_widen (ck' := rmX6_addBehind.cells) (sk' := rmX6_addBehind.slots) (Nat.le_of_ble_eq_true rfl) (Nat.le_of_ble_eq_true rfl) ?_
    exact mm_vret rfl dX6_addBehind_29 ⟨rfl, rfl⟩
  · rw [if_neg c2] at hf
    refine mm_aload_n (j := 0) dX6_addBehind_9 rfl rfl ?_
    refine mm_get (c := 6) (k := 0) (v := va_rf (mm_R σ p0 0)) cd_ok ⟨_, _, _, rfl, by decide, Or.inl tw_38⟩ hs1 rfl dX6_addBehind_10 ?_
    refine mm_aload_n (j := 0) dX6_addBehind_13 rfl rfl ?_
    refine mm_get (c := 6) (k := 1) (v := .int (mm_I σ p0 1)) cd_ok ⟨_, _, _, rfl, by decide, Or.inl tw_39⟩ hs1 rfl dX6_addBehind_14 ?_
    refine mm_aload_n (j := 1) dX6_addBehind_17 rfl rfl ?_
    obtain ⟨q3, hq3, hf⟩ := mm_on_s hf
    rw [hq3, mm_rf_some]
    obtain ⟨n4, hn4, hf⟩ := mm_ar_s hf
    obtain ⟨hi5, hf⟩ := mm_ib_s hf
    obtain ⟨hs6, hf⟩ := mm_sh_s hf
    refine mm_aast (cv := 3) hn4 rfl hi5 hs6 rfl dX6_addBehind_18 ?_
    obtain ⟨s7, hs7, hf⟩ := mm_let_s hf
    rw [hs7]
    refine mm_aload_n (j := 0) dX6_addBehind_19 rfl rfl ?_
    refine mm_dup dX6_addBehind_20 rfl ?_
    refine mm_get (c := 6) (k := 1) (v := .int (mm_I s7 p0 1)) cd_ok ⟨_, _, _, rfl, by decide, Or.inl tw_39⟩ (mm_ke hs7 hs1) rfl dX6_addBehind_21 ?_
    refine mm_iconst (v := 1) dX6_addBehind_24 (by decide) ?_
    refine mm_iadd dX6_addBehind_25 ?_
    refine mm_putI (c := 6) (k := 1) cd_ok ⟨_, _, _, rfl, by decide, rfl, Or.inl tw_39⟩ (mm_ke hs7 hs1) rfl rfl rfl dX6_addBehind_26 ?_
    obtain ⟨s8, hs8, hf⟩ := mm_let_s hf
    rw [hs8]
    cases hf
    refine mm_widen (ck' := rmX6_addBehind.cells) (sk' := rmX6_addBehind.slots) (Nat.le_of_ble_eq_true rfl) (Nat.le_of_ble_eq_true rfl) ?_
    exact mm_vret rfl dX6_addBehind_29 ⟨rfl, rfl⟩
theorem dX7_init_0 : decode cX7_init 0 = .ok (.aload_n 0, 1) := by decide +kernel
theorem dX7_init_1 : decode cX7_init 1 = .ok (.invokespecial 3, 3) := by decide +kernel
theorem dX7_init_4 : decode cX7_init 4 = .ok (.aload_n 0, 1) := by decide +kernel
theorem dX7_init_5 : decode cX7_init 5 = .ok (.new 9, 3) := by decide +kernel
theorem dX7_init_8 : decode cX7_init 8 = .ok (.dup, 1) := by decide +kernel
theorem dX7_init_9 : decode cX7_init 9 = .ok (.invokespecial 11, 3) := by decide +kernel
theorem dX7_init_12 : decode cX7_init 12 = .ok (.putfield 12, 3) := by decide +kernel
theorem dX7_init_15 : decode cX7_init 15 = .ok (.aload_n 0, 1) := by decide +kernel
theorem dX7_init_16 : decode cX7_init 16 = .ok (.iconst (-1), 1) := by decide +kernel
theorem dX7_init_17 : decode cX7_init 17 = .ok (.putfield 18, 3) := by decide +kernel
theorem dX7_init_20 : decode cX7_init 20 = .ok (.aload_n 0, 1) := by decide +kernel
theorem dX7_init_21 : decode cX7_init 21 = .ok (.iconst (-1), 1) := by decide +kernel
theorem dX7_init_22 : decode cX7_init 22 = .ok (.putfield 22, 3) := by decide +kernel
theorem dX7_init_25 : decode cX7_init 25 = .ok (.return_, 1) := by decide +kernel
theorem nmX7_init : mm_nm yX7_init 0 := ⟨by decide, by decide, by decide +kernel⟩
theorem cdX7_init : mm_cd cd_Y yX7_init cX7_init 1 none := ⟨tw_51, tw_3⟩
abbrev rmX7_init : Room := { frames := 2, cells := 3, slots := 1027, locals := 32 }
def fX7_init (p0 : Nat) (σ : mm_M) : Option mm_M :=
  mm_let (mm_new σ (.inl 4)) fun s1 => mm_on (fX4_init σ.1 s1) fun q2 => mm_sh q2 p0 (.inl 7) (mm_let (mm_wR q2 p0 0 (some σ.1)) fun s4 => mm_let (mm_wI s4 p0 1 (-1)) fun s5 => mm_let (mm_wI s5 p0 2 (-1)) fun s6 => some (s6))
set_option maxHeartbeats 4000000 in
set_option maxRecDepth 100000 in
theorem kX7_init {G : mm_G} {A : Nat → Prop} (p0 : Nat) {σ : mm_M} {R : mm_M} (hf : fX7_init p0 σ = some R) : mm_C cd_Y G yX7_init cX7_init 1 none rmX7_init A [.ref p0] σ (mm_Pv R) := by
  refine mm_C.of (by decide) (Nat.le_of_ble_eq_true rfl) ?_
  unfold fX7_init at hf
  have e0 : lv_args 0 [.ref p0] = [(0, .ref p0)] := rfl
  rw [e0]
  have hini : (yX7_init.name == "<init>") = true := by decide
  rw [hini]
  clear e0 hini
  refine mm_aload_n (j := 0) dX7_init_0 rfl rfl ?_
  refine mm_objInit tw_52 tw_26 tw_27 dX7_init_1 (by decide) (by simp only [List.map_cons, List.map_nil, mm_rf_cat]; exact Nat.le_of_ble_eq_true rfl) ?_
  refine mm_aload_n (j := 0) dX7_init_4 rfl rfl ?_
  refine mm_newo cd_ok (c := 4) (N := 2) rfl (by decide) tw_53 tw_54 tw_4 (Nat.le_of_ble_eq_true rfl) (Nat.le_of_ble_eq_true rfl) dX7_init_5 ?_
  obtain ⟨s1, hs1, hf⟩ := mm_let_s hf
  rw [hs1]
  refine mm_dup dX7_init_8 rfl ?_
  obtain ⟨q2, hq2, hf⟩ := mm_on_s hf
  refine mm_callIv cd_ok (kX4_init σ.1 hq2) (Or.inr ⟨_, tn_3⟩) cdX4_init tw_56 rfl nmX4_init rfl rfl (by simp only [List.map_cons, List.map_nil, mm_rf_cat]; exact Nat.le_of_ble_eq_true rfl) dX7_init_9 ⟨Nat.le_of_ble_eq_true rfl, Nat.le_of_ble_eq_true rfl⟩ ⟨Nat.le_of_ble_eq_true rfl, Nat.le_of_ble_eq_true rfl⟩ ?_
  obtain ⟨hs3, hf⟩ := mm_sh_s hf
  refine mm_putFR (c := 7) (k := 0) cd_ok (some σ.1) rfl ⟨_, _, _, rfl, by decide, rfl, rfl, tw_67⟩ hs3 rfl dX7_init_12 ?_
  obtain ⟨s4, hs4, hf⟩ := mm_let_s hf
  rw [hs4]
  refine mm_aload_n (j := 0) dX7_init_15 rfl rfl ?_
  refine mm_iconst (v := (-1)) dX7_init_16 (by decide) ?_
  refine mm_putI (c := 7) (k := 1) cd_ok ⟨_, _, _, rfl, by decide, rfl, Or.inl tw_68⟩ (mm_ke hs4 hs3) rfl rfl rfl dX7_init_17 ?_
  obtain ⟨s5, hs5, hf⟩ := mm_let_s hf
  rw [hs5]
  refine mm_aload_n (j := 0) dX7_init_20 rfl rfl ?_
  refine mm_iconst (v := (-1)) dX7_init_21 (by decide) ?_
  refine mm_putI (c := 7) (k := 2) cd_ok ⟨_, _, _, rfl, by decide, rfl, Or.inl tw_69⟩ (mm_ke hs5 (mm_ke hs4 hs3)) rfl rfl rfl dX7_init_22 ?_
  obtain ⟨s6, hs6, hf⟩ := mm_let_s hf
  rw [hs6]
  cases hf
  refine mm_widen (ck' := rmX7_init.cells) (sk' := rmX7_init.slots) (Nat.le_of_ble_eq_true rfl) (Nat.le_of_ble_eq_true rfl) ?_
  exact mm_vret rfl dX7_init_25 ⟨rfl, rfl⟩
theorem dX7_see_0 : decode cX7_see 0 = .ok (.aload_n 1, 1) := by decide +kernel
theorem dX7_see_1 : decode cX7_see 1 = .ok (.aload_n 0, 1) := by decide +kernel
theorem dX7_see_2 : decode cX7_see 2 = .ok (.getfield 18, 3) := by decide +kernel
theorem dX7_see_5 : decode cX7_see 5 = .ok (.aload_n 0, 1) := by decide +kernel
theorem dX7_see_6 : decode cX7_see 6 = .ok (.getfield 22, 3) := by decide +kernel
theorem dX7_see_9 : decode cX7_see 9 = .ok (.iconst (-1), 1) := by decide +kernel
theorem dX7_see_10 : decode cX7_see 10 = .ok (.invokevirtual 29, 3) := by decide +kernel
theorem dX7_see_13 : decode cX7_see 13 = .ok (.ifCond .eq 14, 3) := by decide +kernel
theorem dX7_see_16 : decode cX7_see 16 = .ok (.aload_n 0, 1) := by decide +kernel
theorem dX7_see_17 : decode cX7_see 17 = .ok (.getfield 12, 3) := by decide +kernel
theorem dX7_see_20 : decode cX7_see 20 = .ok (.aload_n 1, 1) := by decide +kernel
theorem dX7_see_21 : decode cX7_see 21 = .ok (.getfield 35, 3) := by decide +kernel
theorem dX7_see_24 : decode cX7_see 24 = .ok (.invokevirtual 36, 3) := by decide +kernel
theorem dX7_see_27 : decode cX7_see 27 = .ok (.return_, 1) := by decide +kernel
theorem nmX7_see : mm_nm yX7_see 1 := ⟨by decide, by decide, by decide +kernel⟩
theorem cdX7_see : mm_cd cd_Y yX7_see cX7_see 2 none := ⟨tw_519, tw_3⟩
abbrev rmX7_see : Room := { frames := 2, cells := 0, slots := 0, locals := 39 }
def fX7_see (p0 : Nat) (p1 : Nat) (σ : mm_M) : Option mm_M :=
  mm_sh σ p0 (.inl 7) (mm_sh σ p1 (.inl 3) (mm_on (fX3_hasName p1 (mm_I σ p0 1) (mm_I σ p0 2) (-1) σ) fun q3 => (if q3.1 = 0 then some (q3.2) else mm_sh q3.2 p0 (.inl 7) (mm_sh q3.2 p1 (.inl 3) (mm_on (mm_R q3.2 p1 0) fun q7 => mm_on (mm_R q3.2 p0 0) fun q8 => mm_sh q3.2 q8 (.inl 4) (mm_on (fX4_copyFrom q8 q7 q3.2) fun q10 => some (q10)))))))
set_option maxHeartbeats 4000000 in
set_option maxRecDepth 100000 in
theorem kX7_see {G : mm_G} {A : Nat → Prop} (p0 : Nat) (p1 : Nat) {σ : mm_M} {R : mm_M} (hf : fX7_see p0 p1 σ = some R) : mm_C cd_Y G yX7_see cX7_see 2 none rmX7_see A [.ref p0, .ref p1] σ (mm_Pv R) := by
  refine mm_C.of (by decide) (Nat.le_of_ble_eq_true rfl) ?_
  unfold fX7_see at hf
  have e0 : lv_args 0 [.ref p0, .ref p1] = [(0, .ref p0), (1, .ref p1)] := rfl
  rw [e0]
  generalize hini : ((yX7_see.name == "<init>"), none) = ini
  clear e0
  clear hini
  refine mm_aload_n (j := 1) dX7_see_0 rfl rfl ?_
  refine mm_aload_n (j := 0) dX7_see_1 rfl rfl ?_
  obtain ⟨hs1, hf⟩ := mm_sh_s hf
  refine mm_get (c := 7) (k := 1) (v := .int (mm_I σ p0 1)) cd_ok ⟨_, _, _, rfl, by decide, Or.inl tw_68⟩ hs1 rfl dX7_see_2 ?_
  refine mm_aload_n (j := 0) dX7_see_5 rfl rfl ?_
  refine mm_get (c := 7) (k := 2) (v := .int (mm_I σ p0 2)) cd_ok ⟨_, _, _, rfl, by decide, Or.inl tw_69⟩ hs1 rfl dX7_see_6 ?_
  refine mm_iconst (v := (-1)) dX7_see_9 (by decide) ?_
  obtain ⟨hs2, hf⟩ := mm_sh_s hf
  obtain ⟨q3, hq3, hf⟩ := mm_on_s hf
  refine mm_callVi cd_ok (kX3_hasName p1 (mm_I σ p0 1) (mm_I σ p0 2) (-1) hq3) hs2 rfl (Or.inl tw_520) cdX3_hasName tw_224 tw_225 nmX3_hasName rfl rfl (by simp only [List.map_cons, List.map_nil, mm_rf_cat]; exact Nat.le_of_ble_eq_true rfl) dX7_see_10 ⟨Nat.le_of_ble_eq_true rfl, Nat.le_of_ble_eq_true rfl⟩ ⟨Nat.le_of_ble_eq_true rfl, Nat.le_of_ble_eq_true rfl⟩ ?_
  refine mm_if_eq (tgt := 27) dX7_see_13 (by decide) (fun c4 => ?_) (fun c4 => ?_)
  · rw [if_pos c4] at hf
    cases hf
    refine mm_widen (ck' := rmX7_see.cells) (sk' := rmX7_see.slots) (Nat.le_of_ble_eq_true rfl) (Nat.le_of_ble_eq_true rfl) ?_
    exact mm_vret rfl dX7_see_27 ⟨rfl, rfl⟩
  · rw [if_neg c4] at hf
    refine mm_aload_n (j := 0) dX7_see_16 rfl rfl ?_
    obtain ⟨hs5, hf⟩ := mm_sh_s hf
    refine mm_get (c := 7) (k := 0) (v := va_rf (mm_R q3.2 p0 0)) cd_ok ⟨_, _, _, rfl, by decide, Or.inl tw_67⟩ hs5 rfl dX7_see_17 ?_
    refine mm_aload_n (j := 1) dX7_see_20 rfl rfl ?_
    obtain ⟨hs6, hf⟩ := mm_sh_s hf
    refine mm_get (c := 3) (k := 0) (v := va_rf (mm_R q3.2 p1 0)) cd_ok ⟨_, _, _, rfl, by decide, Or.inr ⟨_, tn_28⟩⟩ hs6 rfl dX7_see_21 ?_
    obtain ⟨q7, hq7, hf⟩ := mm_on_s hf
    rw [hq7, mm_rf_some]
    obtain ⟨q8, hq8, hf⟩ := mm_on_s hf
    rw [hq8, mm_rf_some]
    obtain ⟨hs9, hf⟩ := mm_sh_s hf
    obtain ⟨q10, hq10, hf⟩ := mm_on_s hf
    refine mm_callVv cd_ok (kX4_copyFrom q8 q7 hq10) hs9 rfl (Or.inl tw_521) cdX4_copyFrom tw_522 tw_523 nmX4_copyFrom rfl rfl (by simp only [List.map_cons, List.map_nil, mm_rf_cat]; exact Nat.le_of_ble_eq_true rfl) dX7_see_24 ⟨Nat.le_of_ble_eq_true rfl, Nat.le_of_ble_eq_true rfl⟩ ⟨Nat.le_of_ble_eq_true rfl, Nat.le_of_ble_eq_true rfl⟩ ?_
    cases hf
    refine mm_widen (ck' := rmX7_see.cells) (sk' := rmX7_see.slots) (Nat.le_of_ble_eq_true rfl) (Nat.le_of_ble_eq_true rfl) ?_
    exact mm_vret rfl dX7_see_27 ⟨rfl, rfl⟩
theorem dX8_isOutside_0 : decode cX8_isOutside 0 = .ok (.iload_n 0, 1) := by decide +kernel
theorem dX8_isOutside_1 : decode cX8_isOutside 1 = .ok (.ifCond .lt 8, 3) := by decide +kernel
theorem dX8_isOutside_4 : decode cX8_isOutside 4 = .ok (.iload_n 0, 1) := by decide +kernel
theorem dX8_isOutside_5 : decode cX8_isOutside 5 = .ok (.iload_n 1, 1) := by decide +kernel
theorem dX8_isOutside_6 : decode cX8_isOutside 6 = .ok (.if_icmp .lt 7, 3) := by decide +kernel
theorem dX8_isOutside_9 : decode cX8_isOutside 9 = .ok (.iconst 1, 1) := by decide +kernel
theorem dX8_isOutside_10 : decode cX8_isOutside 10 = .ok (.goto 4, 3) := by decide +kernel
theorem dX8_isOutside_13 : decode cX8_isOutside 13 = .ok (.iconst 0, 1) := by decide +kernel
theorem dX8_isOutside_14 : decode cX8_isOutside 14 = .ok (.ireturn, 1) := by decide +kernel
theorem nmX8_isOutside : mm_nm yX8_isOutside 2 := ⟨by decide, by decide, by decide +kernel⟩
theorem cdX8_isOutside : mm_cd cd_Y yX8_isOutside cX8_isOutside 2 (some .boolean) := ⟨tw_222, tw_1⟩
abbrev rmX8_isOutside : Room := { frames := 0, cells := 0, slots := 0, locals := 0 }
def fX8_isOutside (p0 : Int32) (p1 : Int32) : Int32 :=
  (if p0 < 0 then 1 else (if p0 < p1 then 0 else 1))
set_option maxHeartbeats 4000000 in
set_option maxRecDepth 100000 in
theorem kX8_isOutside {G : mm_G} {A : Nat → Prop} (p0 : Int32) (p1 : Int32) (σ0 : mm_M) {R : Int32} (hf : fX8_isOutside p0 p1 = R) : mm_C cd_Y G yX8_isOutside cX8_isOutside 2 (some .boolean) rmX8_isOutside A [.int p0, .int p1] σ0 (mm_Pi R σ0) := by
  refine mm_C.of (by decide) (Nat.le_of_ble_eq_true rfl) ?_
  unfold fX8_isOutside at hf
  have e0 : lv_args 0 [.int p0, .int p1] = [(0, .int p0), (1, .int p1)] := rfl
  rw [e0]
  generalize hini : ((yX8_isOutside.name == "<init>"), none) = ini
  clear e0
  clear hini
  refine mm_iload_n (j := 0) dX8_isOutside_0 rfl rfl ?_
  refine mm_if_lt (tgt := 9) dX8_isOutside_1 (by decide) (fun c1 => ?_) (fun c1 => ?_)
  · rw [if_pos c1] at hf
    refine mm_iconst (v := 1) dX8_isOutside_9 (by decide) ?_
    refine mm_goto (tgt := 14) dX8_isOutside_10 (by decide) ?_
    subst hf
    refine mm_widen (ck' := rmX8_isOutside.cells) (sk' := rmX8_isOutside.slots) (Nat.le_of_ble_eq_true rfl) (Nat.le_of_ble_eq_true rfl) ?_
    exact mm_iret rfl rfl dX8_isOutside_14 ⟨rfl, rfl⟩
  · rw [if_neg c1] at hf
    refine mm_iload_n (j := 0) dX8_isOutside_4 rfl rfl ?_
    refine mm_iload_n (j := 1) dX8_isOutside_5 rfl rfl ?_
    refine mm_icmp_lt (tgt := 13) dX8_isOutside_6 (by decide) (fun c2 => ?_) (fun c2 => ?_)
    · rw [if_pos c2] at hf
      refine mm_iconst (v := 0) dX8_isOutside_13 (by decide) ?_
      subst hf
      refine mm_widen (ck' := rmX8_isOutside.cells) (sk' := rmX8_isOutside.slots) (Nat.le_of_ble_eq_true rfl) (Nat.le_of_ble_eq_true rfl) ?_
      exact mm_iret rfl rfl dX8_isOutside_14 ⟨rfl, rfl⟩
    · rw [if_neg c2] at hf
      refine mm_iconst (v := 1) dX8_isOutside_9 (by decide) ?_
      refine mm_goto (tgt := 14) dX8_isOutside_10 (by decide) ?_
      subst hf
      refine mm_widen (ck' := rmX8_isOutside.cells) (sk' := rmX8_isOutside.slots) (Nat.le_of_ble_eq_true rfl) (Nat.le_of_ble_eq_true rfl) ?_
      exact mm_iret rfl rfl dX8_isOutside_14 ⟨rfl, rfl⟩
theorem dX8_nothing_0 : decode cX8_nothing 0 = .ok (.iload_n 1, 1) := by decide +kernel
theorem dX8_nothing_1 : decode cX8_nothing 1 = .ok (.iconst 3, 1) := by decide +kernel
theorem dX8_nothing_2 : decode cX8_nothing 2 = .ok (.invokestatic 62, 3) := by decide +kernel
theorem dX8_nothing_5 : decode cX8_nothing 5 = .ok (.ifCond .eq 13, 3) := by decide +kernel
theorem dX8_nothing_8 : decode cX8_nothing 8 = .ok (.new 66, 3) := by decide +kernel
theorem dX8_nothing_11 : decode cX8_nothing 11 = .ok (.dup, 1) := by decide +kernel
theorem dX8_nothing_12 : decode cX8_nothing 12 = .ok (.ldc 169, 2) := by decide +kernel
theorem dX8_nothing_14 : decode cX8_nothing 14 = .ok (.invokespecial 70, 3) := by decide +kernel
theorem dX8_nothing_17 : decode cX8_nothing 17 = .ok (.athrow, 1) := by decide +kernel
theorem dX8_nothing_18 : decode cX8_nothing 18 = .ok (.aload_n 0, 1) := by decide +kernel
theorem dX8_nothing_19 : decode cX8_nothing 19 = .ok (.getfield 28, 3) := by decide +kernel
theorem dX8_nothing_22 : decode cX8_nothing 22 = .ok (.iload_n 1, 1) := by decide +kernel
theorem dX8_nothing_23 : decode cX8_nothing 23 = .ok (.iaload, 1) := by decide +kernel
theorem dX8_nothing_24 : decode cX8_nothing 24 = .ok (.ireturn, 1) := by decide +kernel
theorem nmX8_nothing : mm_nm yX8_nothing 1 := ⟨by decide, by decide, by decide +kernel⟩
theorem cdX8_nothing : mm_cd cd_Y yX8_nothing cX8_nothing 2 (some .int) := ⟨tw_628, tw_1⟩
abbrev rmX8_nothing : Room := { frames := 6, cells := 1, slots := 6, locals := 82 }
def fX8_nothing (p0 : Nat) (p1 : Int32) (σ : mm_M) : Option (Option Int32 × mm_M) :=
  (if (fX8_isOutside p1 3) = 0 then mm_sh σ p0 (.inl 8) (mm_on (mm_R σ p0 6) fun q3 => mm_ar σ q3 0 fun n4 => mm_ib p1 n4 (some (some (mm_I σ q3 p1.toNatClampNeg), σ))) else some (none, σ))
set_option maxHeartbeats 4000000 in
set_option maxRecDepth 100000 in
theorem kX8_nothing {G : mm_G} {A : Nat → Prop} (p0 : Nat) (p1 : Int32) {σ : mm_M} {R : (Option Int32 × mm_M)} (hf : fX8_nothing p0 p1 σ = some R) : mm_CX cd_Y G yX8_nothing cX8_nothing 2 (some .int) rmX8_nothing A [.ref p0, .int p1] σ (mm_PX R) R.2 "java/lang/IndexOutOfBoundsException" (R.1 = none) := by
  refine mm_CX.of (by decide) (Nat.le_of_ble_eq_true rfl) ?_
  unfold fX8_nothing at hf
  have e0 : lv_args 0 [.ref p0, .int p1] = [(0, .ref p0), (1, .int p1)] := rfl
  rw [e0]
  clear e0
  refine mm_iload_n (j := 1) dX8_nothing_0 rfl rfl ?_
  refine mm_iconst (v := 3) dX8_nothing_1 (by decide) ?_
  refine mm_callSi cd_ok (kX8_isOutside p1 3 _ rfl) (Or.inl tw_239) cdX8_isOutside tw_221 nmX8_isOutside rfl rfl (by simp only [List.map_cons, List.map_nil, mm_rf_cat]; exact Nat.le_of_ble_eq_true rfl) dX8_nothing_2 ⟨Nat.le_of_ble_eq_true rfl, Nat.le_of_ble_eq_true rfl⟩ ⟨Nat.le_of_ble_eq_true rfl, Nat.le_of_ble_eq_true rfl⟩ ?_
  refine mm_if_eq (tgt := 18) dX8_nothing_5 (by decide) (fun c1 => ?_) (fun c1 => ?_)
  · rw [if_pos c1] at hf
    refine mm_aload_n (j := 0) dX8_nothing_18 rfl rfl ?_
    obtain ⟨hs2, hf⟩ := mm_sh_s hf
    refine mm_get (c := 8) (k := 6) (v := va_rf (mm_R σ p0 6)) cd_ok ⟨_, _, _, rfl, by decide, Or.inl tw_146⟩ hs2 rfl dX8_nothing_19 ?_
    refine mm_iload_n (j := 1) dX8_nothing_22 rfl rfl ?_
    obtain ⟨q3, hq3, hf⟩ := mm_on_s hf
    rw [hq3, mm_rf_some]
    obtain ⟨n4, hn4, hf⟩ := mm_ar_s hf
    obtain ⟨hi5, hf⟩ := mm_ib_s hf
    refine mm_iald hn4 rfl hi5 dX8_nothing_23 ?_
    cases hf
    refine mm_widen (ck' := rmX8_nothing.cells) (sk' := rmX8_nothing.slots) (Nat.le_of_ble_eq_true rfl) (Nat.le_of_ble_eq_true rfl) ?_
    exact mm_x (mm_iret rfl rfl dX8_nothing_24 ⟨_, rfl, rfl, rfl⟩)
  · rw [if_neg c1] at hf
    cases hf
    exact mm_throw cd_ok rfl rfl th_X8_66_70 (List.mem_of_getElem? (i := 6) rfl) dX8_nothing_8 dX8_nothing_11 dX8_nothing_12 dX8_nothing_14 dX8_nothing_17 (Nat.le_of_ble_eq_true rfl) (by simp only [List.map_cons, List.map_nil, mm_rf_cat]; exact Nat.le_of_ble_eq_true rfl) (Nat.le_of_ble_eq_true rfl) (Nat.le_of_ble_eq_true rfl) (Nat.le_of_ble_eq_true rfl) (Nat.le_of_ble_eq_true rfl)
theorem dX8_pages_0 : decode cX8_pages 0 = .ok (.aload_n 0, 1) := by decide +kernel
theorem dX8_pages_1 : decode cX8_pages 1 = .ok (.getfield 34, 3) := by decide +kernel
theorem dX8_pages_4 : decode cX8_pages 4 = .ok (.getfield 171, 3) := by decide +kernel
theorem dX8_pages_7 : decode cX8_pages 7 = .ok (.ireturn, 1) := by decide +kernel
theorem nmX8_pages : mm_nm yX8_pages 0 := ⟨by decide, by decide, by decide +kernel⟩
theorem cdX8_pages : mm_cd cd_Y yX8_pages cX8_pages 1 (some .int) := ⟨tw_207, tw_1⟩
abbrev rmX8_pages : Room := { frames := 0, cells := 0, slots := 0, locals := 0 }
def fX8_pages (p0 : Nat) (σ : mm_M) : Option (Int32 × mm_M) :=
  mm_sh σ p0 (.inl 8) (mm_on (mm_R σ p0 7) fun q2 => mm_sh σ q2 (.inl 6) (some (mm_I σ q2 1, σ)))
set_option maxHeartbeats 4000000 in
set_option maxRecDepth 100000 in
theorem kX8_pages {G : mm_G} {A : Nat → Prop} (p0 : Nat) {σ : mm_M} {R : (Int32 × mm_M)} (hf : fX8_pages p0 σ = some R) : mm_C cd_Y G yX8_pages cX8_pages 1 (some .int) rmX8_pages A [.ref p0] σ (mm_Pi R.1 R.2) := by
  refine mm_C.of (by decide) (Nat.le_of_ble_eq_true rfl) ?_
  unfold fX8_pages at hf
  have e0 : lv_args 0 [.ref p0] = [(0, .ref p0)] := rfl
  rw [e0]
  generalize hini : ((yX8_pages.name == "<init>"), none) = ini
  clear e0
  clear hini
  refine mm_aload_n (j := 0) dX8_pages_0 rfl rfl ?_
  obtain ⟨hs1, hf⟩ := mm_sh_s hf
  refine mm_get (c := 8) (k := 7) (v := va_rf (mm_R σ p0 7)) cd_ok ⟨_, _, _, rfl, by decide, Or.inl tw_147⟩ hs1 rfl dX8_pages_1 ?_
  obtain ⟨q2, hq2, hf⟩ := mm_on_s hf
  rw [hq2, mm_rf_some]
  obtain ⟨hs3, hf⟩ := mm_sh_s hf
  refine mm_get (c := 6) (k := 1) (v := .int (mm_I σ q2 1)) cd_ok ⟨_, _, _, rfl, by decide, Or.inr ⟨_, tn_1⟩⟩ hs3 rfl dX8_pages_4 ?_
  cases hf
  refine mm_widen (ck' := rmX8_pages.cells) (sk' := rmX8_pages.slots) (Nat.le_of_ble_eq_true rfl) (Nat.le_of_ble_eq_true rfl) ?_
  exact mm_iret rfl rfl dX8_pages_7 ⟨rfl, rfl⟩
theorem dX8_guardedValue_0 : decode cX8_guardedValue 0 = .ok (.iload_n 0, 1) := by decide +kernel
theorem dX8_guardedValue_1 : decode cX8_guardedValue 1 = .ok (.iconst 1, 1) := by decide +kernel
theorem dX8_guardedValue_2 : decode cX8_guardedValue 2 = .ok (.ishr, 1) := by decide +kernel
theorem dX8_guardedValue_3 : decode cX8_guardedValue 3 = .ok (.iconst 1, 1) := by decide +kernel
theorem dX8_guardedValue_4 : decode cX8_guardedValue 4 = .ok (.iand, 1) := by decide +kernel
theorem dX8_guardedValue_5 : decode cX8_guardedValue 5 = .ok (.iload_n 0, 1) := by decide +kernel
theorem dX8_guardedValue_6 : decode cX8_guardedValue 6 = .ok (.iconst 2, 1) := by decide +kernel
theorem dX8_guardedValue_7 : decode cX8_guardedValue 7 = .ok (.ishr, 1) := by decide +kernel
theorem dX8_guardedValue_8 : decode cX8_guardedValue 8 = .ok (.iconst 2, 1) := by decide +kernel
theorem dX8_guardedValue_9 : decode cX8_guardedValue 9 = .ok (.iand, 1) := by decide +kernel
theorem dX8_guardedValue_10 : decode cX8_guardedValue 10 = .ok (.iadd, 1) := by decide +kernel
theorem dX8_guardedValue_11 : decode cX8_guardedValue 11 = .ok (.iload_n 0, 1) := by decide +kernel
theorem dX8_guardedValue_12 : decode cX8_guardedValue 12 = .ok (.iconst 3, 1) := by decide +kernel
theorem dX8_guardedValue_13 : decode cX8_guardedValue 13 = .ok (.ishr, 1) := by decide +kernel
theorem dX8_guardedValue_14 : decode cX8_guardedValue 14 = .ok (.iconst 4, 1) := by decide +kernel
theorem dX8_guardedValue_15 : decode cX8_guardedValue 15 = .ok (.iand, 1) := by decide +kernel
theorem dX8_guardedValue_16 : decode cX8_guardedValue 16 = .ok (.iadd, 1) := by decide +kernel
theorem dX8_guardedValue_17 : decode cX8_guardedValue 17 = .ok (.iload_n 0, 1) := by decide +kernel
theorem dX8_guardedValue_18 : decode cX8_guardedValue 18 = .ok (.iconst 4, 1) := by decide +kernel
theorem dX8_guardedValue_19 : decode cX8_guardedValue 19 = .ok (.ishr, 1) := by decide +kernel
theorem dX8_guardedValue_20 : decode cX8_guardedValue 20 = .ok (.bipush 8, 2) := by decide +kernel
theorem dX8_guardedValue_22 : decode cX8_guardedValue 22 = .ok (.iand, 1) := by decide +kernel
theorem dX8_guardedValue_23 : decode cX8_guardedValue 23 = .ok (.iadd, 1) := by decide +kernel
theorem dX8_guardedValue_24 : decode cX8_guardedValue 24 = .ok (.ireturn, 1) := by decide +kernel
theorem nmX8_guardedValue : mm_nm yX8_guardedValue 1 := ⟨by decide, by decide, by decide +kernel⟩
theorem cdX8_guardedValue : mm_cd cd_Y yX8_guardedValue cX8_guardedValue 1 (some .int) := ⟨tw_203, tw_1⟩
abbrev rmX8_guardedValue : Room := { frames := 0, cells := 0, slots := 0, locals := 0 }
def fX8_guardedValue (p0 : Int32) : Int32 :=
  ((((p0 >>> ((1 : Int32) &&& 31)) &&& 1) + ((p0 >>> ((2 : Int32) &&& 31)) &&& 2)) + ((p0 >>> ((3 : Int32) &&& 31)) &&& 4)) + ((p0 >>> ((4 : Int32) &&& 31)) &&& 8)
set_option maxHeartbeats 4000000 in
set_option maxRecDepth 100000 in
theorem kX8_guardedValue {G : mm_G} {A : Nat → Prop} (p0 : Int32) (σ0 : mm_M) {R : Int32} (hf : fX8_guardedValue p0 = R) : mm_C cd_Y G yX8_guardedValue cX8_guardedValue 1 (some .int) rmX8_guardedValue A [.int p0] σ0 (mm_Pi R σ0) := by
  refine mm_C.of (by decide) (Nat.le_of_ble_eq_true rfl) ?_
  unfold fX8_guardedValue at hf
  have e0 : lv_args 0 [.int p0] = [(0, .int p0)] := rfl
  rw [e0]
  generalize hini : ((yX8_guardedValue.name == "<init>"), none) = ini
  clear e0
  clear hini
  refine mm_iload_n (j := 0) dX8_guardedValue_0 rfl rfl ?_
  refine mm_iconst (v := 1) dX8_guardedValue_1 (by decide) ?_
  refine mm_ishr dX8_guardedValue_2 ?_
  refine mm_iconst (v := 1) dX8_guardedValue_3 (by decide) ?_
  refine mm_iand dX8_guardedValue_4 ?_
  refine mm_iload_n (j := 0) dX8_guardedValue_5 rfl rfl ?_
  refine mm_iconst (v := 2) dX8_guardedValue_6 (by decide) ?_
  refine mm_ishr dX8_guardedValue_7 ?_
  refine mm_iconst (v := 2) dX8_guardedValue_8 (by decide) ?_
  refine mm_iand dX8_guardedValue_9 ?_
  refine mm_iadd dX8_guardedValue_10 ?_
  refine mm_iload_n (j := 0) dX8_guardedValue_11 rfl rfl ?_
  refine mm_iconst (v := 3) dX8_guardedValue_12 (by decide) ?_
  refine mm_ishr dX8_guardedValue_13 ?_
  refine mm_iconst (v := 4) dX8_guardedValue_14 (by decide) ?_
  refine mm_iand dX8_guardedValue_15 ?_
  refine mm_iadd dX8_guardedValue_16 ?_
  refine mm_iload_n (j := 0) dX8_guardedValue_17 rfl rfl ?_
  refine mm_iconst (v := 4) dX8_guardedValue_18 (by decide) ?_
  refine mm_ishr dX8_guardedValue_19 ?_
  refine mm_bipush (v := 8) dX8_guardedValue_20 (by decide) ?_
  refine mm_iand dX8_guardedValue_22 ?_
  refine mm_iadd dX8_guardedValue_23 ?_
  subst hf
  refine mm_widen (ck' := rmX8_guardedValue.cells) (sk' := rmX8_guardedValue.slots) (Nat.le_of_ble_eq_true rfl) (Nat.le_of_ble_eq_true rfl) ?_
  exact mm_iret rfl rfl dX8_guardedValue_24 ⟨rfl, rfl⟩
