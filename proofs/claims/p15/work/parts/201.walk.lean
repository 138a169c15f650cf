theorem dX8_magazineOf_0 : decode cX8_magazineOf 0 = .ok (.iload_n 0, 1) := by decide +kernel
theorem dX8_magazineOf_1 : decode cX8_magazineOf 1 = .ok (.bipush 7, 2) := by decide +kernel
theorem dX8_magazineOf_3 : decode cX8_magazineOf 3 = .ok (.iand, 1) := by decide +kernel
theorem dX8_magazineOf_4 : decode cX8_magazineOf 4 = .ok (.istore_n 1, 1) := by decide +kernel
theorem dX8_magazineOf_5 : decode cX8_magazineOf 5 = .ok (.iload_n 1, 1) := by decide +kernel
theorem dX8_magazineOf_6 : decode cX8_magazineOf 6 = .ok (.ifCond .ne 8, 3) := by decide +kernel
theorem dX8_magazineOf_9 : decode cX8_magazineOf 9 = .ok (.bipush 8, 2) := by decide +kernel
theorem dX8_magazineOf_11 : decode cX8_magazineOf 11 = .ok (.goto 4, 3) := by decide +kernel
theorem dX8_magazineOf_14 : decode cX8_magazineOf 14 = .ok (.iload_n 1, 1) := by decide +kernel
theorem dX8_magazineOf_15 : decode cX8_magazineOf 15 = .ok (.ireturn, 1) := by decide +kernel
theorem nmX8_magazineOf : mm_nm yX8_magazineOf 1 := ⟨by decide, by decide, by decide +kernel⟩
theorem cdX8_magazineOf : mm_cd cd_Y yX8_magazineOf cX8_magazineOf 2 (some .int) := ⟨tw_494, tw_1⟩
abbrev rmX8_magazineOf : Room := { frames := 0, cells := 0, slots := 0, locals := 0 }
def fX8_magazineOf (p0 : Int32) : Int32 :=
  (if (p0 &&& 7) = 0 then 8 else p0 &&& 7)
set_option maxHeartbeats 4000000 in
set_option maxRecDepth 100000 in
theorem kX8_magazineOf {G : mm_G} {A : Nat → Prop} (p0 : Int32) (σ0 : mm_M) {R : Int32} (hf : fX8_magazineOf p0 = R) : mm_C cd_Y G yX8_magazineOf cX8_magazineOf 2 (some .int) rmX8_magazineOf A [.int p0] σ0 (mm_Pi R σ0) := by
  refine mm_C.of (by decide) (Nat.le_of_ble_eq_true rfl) ?_
  unfold fX8_magazineOf at hf
  have e0 : lv_args 0 [.int p0] = [(0, .int p0)] := rfl
  rw [e0]
  generalize hini : ((yX8_magazineOf.name == "<init>"), none) = ini
  clear e0
  clear hini
  refine mm_iload_n (j := 0) dX8_magazineOf_0 rfl rfl ?_
  refine mm_bipush (v := 7) dX8_magazineOf_1 (by decide) ?_
  refine mm_iand dX8_magazineOf_3 ?_
  refine mm_istore_n (L' := [(1, .int (p0 &&& 7)), (0, .int p0)]) dX8_magazineOf_4 rfl (by decide) rfl ?_
  refine mm_iload_n (j := 0) dX8_magazineOf_5 rfl rfl ?_
  refine mm_if_ne (tgt := 14) dX8_magazineOf_6 (by decide) (fun c1 => ?_) (fun c1 => ?_)
  · rw [if_neg c1] at hf
    refine mm_iload_n (j := 0) dX8_magazineOf_14 rfl rfl ?_
    subst hf
    refine mm_widen (ck' := rmX8_magazineOf.cells) (sk' := rmX8_magazineOf.slots) (Nat.le_of_ble_eq_true rfl) (Nat.le_of_ble_eq_true rfl) ?_
    exact mm_iret rfl rfl dX8_magazineOf_15 ⟨rfl, rfl⟩
  · rw [if_pos c1] at hf
    refine mm_bipush (v := 8) dX8_magazineOf_9 (by decide) ?_
    refine mm_goto (tgt := 15) dX8_magazineOf_11 (by decide) ?_
    subst hf
    refine mm_widen (ck' := rmX8_magazineOf.cells) (sk' := rmX8_magazineOf.slots) (Nat.le_of_ble_eq_true rfl) (Nat.le_of_ble_eq_true rfl) ?_
    exact mm_iret rfl rfl dX8_magazineOf_15 ⟨rfl, rfl⟩
theorem dX8_subcodeOf_0 : decode cX8_subcodeOf 0 = .ok (.iload_n 0, 1) := by decide +kernel
theorem dX8_subcodeOf_1 : decode cX8_subcodeOf 1 = .ok (.bipush 16, 2) := by decide +kernel
theorem dX8_subcodeOf_3 : decode cX8_subcodeOf 3 = .ok (.iload_n 1, 1) := by decide +kernel
theorem dX8_subcodeOf_4 : decode cX8_subcodeOf 4 = .ok (.bipush 7, 2) := by decide +kernel
theorem dX8_subcodeOf_6 : decode cX8_subcodeOf 6 = .ok (.iand, 1) := by decide +kernel
theorem dX8_subcodeOf_7 : decode cX8_subcodeOf 7 = .ok (.imul, 1) := by decide +kernel
theorem dX8_subcodeOf_8 : decode cX8_subcodeOf 8 = .ok (.iadd, 1) := by decide +kernel
theorem dX8_subcodeOf_9 : decode cX8_subcodeOf 9 = .ok (.sipush 128, 3) := by decide +kernel
theorem dX8_subcodeOf_12 : decode cX8_subcodeOf 12 = .ok (.iload_n 2, 1) := by decide +kernel
theorem dX8_subcodeOf_13 : decode cX8_subcodeOf 13 = .ok (.imul, 1) := by decide +kernel
theorem dX8_subcodeOf_14 : decode cX8_subcodeOf 14 = .ok (.iadd, 1) := by decide +kernel
theorem dX8_subcodeOf_15 : decode cX8_subcodeOf 15 = .ok (.sipush 2048, 3) := by decide +kernel
theorem dX8_subcodeOf_18 : decode cX8_subcodeOf 18 = .ok (.iload_n 3, 1) := by decide +kernel
theorem dX8_subcodeOf_19 : decode cX8_subcodeOf 19 = .ok (.iconst 3, 1) := by decide +kernel
theorem dX8_subcodeOf_20 : decode cX8_subcodeOf 20 = .ok (.iand, 1) := by decide +kernel
theorem dX8_subcodeOf_21 : decode cX8_subcodeOf 21 = .ok (.imul, 1) := by decide +kernel
theorem dX8_subcodeOf_22 : decode cX8_subcodeOf 22 = .ok (.iadd, 1) := by decide +kernel
theorem dX8_subcodeOf_23 : decode cX8_subcodeOf 23 = .ok (.ireturn, 1) := by decide +kernel
theorem nmX8_subcodeOf : mm_nm yX8_subcodeOf 4 := ⟨by decide, by decide, by decide +kernel⟩
theorem cdX8_subcodeOf : mm_cd cd_Y yX8_subcodeOf cX8_subcodeOf 4 (some .int) := ⟨tw_528, tw_1⟩
abbrev rmX8_subcodeOf : Room := { frames := 0, cells := 0, slots := 0, locals := 0 }
def fX8_subcodeOf (p0 : Int32) (p1 : Int32) (p2 : Int32) (p3 : Int32) : Int32 :=
  ((p0 + (16 * (p1 &&& 7))) + (128 * p2)) + (2048 * (p3 &&& 3))
set_option maxHeartbeats 4000000 in
set_option maxRecDepth 100000 in
theorem kX8_subcodeOf {G : mm_G} {A : Nat → Prop} (p0 : Int32) (p1 : Int32) (p2 : Int32) (p3 : Int32) (σ0 : mm_M) {R : Int32} (hf : fX8_subcodeOf p0 p1 p2 p3 = R) : mm_C cd_Y G yX8_subcodeOf cX8_subcodeOf 4 (some .int) rmX8_subcodeOf A [.int p0, .int p1, .int p2, .int p3] σ0 (mm_Pi R σ0) := by
  refine mm_C.of (by decide) (Nat.le_of_ble_eq_true rfl) ?_
  unfold fX8_subcodeOf at hf
  have e0 : lv_args 0 [.int p0, .int p1, .int p2, .int p3] = [(0, .int p0), (1, .int p1), (2, .int p2), (3, .int p3)] := rfl
  rw [e0]
  generalize hini : ((yX8_subcodeOf.name == "<init>"), none) = ini
  clear e0
  clear hini
  refine mm_iload_n (j := 0) dX8_subcodeOf_0 rfl rfl ?_
  refine mm_bipush (v := 16) dX8_subcodeOf_1 (by decide) ?_
  refine mm_iload_n (j := 1) dX8_subcodeOf_3 rfl rfl ?_
  refine mm_bipush (v := 7) dX8_subcodeOf_4 (by decide) ?_
  refine mm_iand dX8_subcodeOf_6 ?_
  refine mm_imul dX8_subcodeOf_7 ?_
  refine mm_iadd dX8_subcodeOf_8 ?_
  refine mm_sipush (v := 128) dX8_subcodeOf_9 (by decide) ?_
  refine mm_iload_n (j := 2) dX8_subcodeOf_12 rfl rfl ?_
  refine mm_imul dX8_subcodeOf_13 ?_
  refine mm_iadd dX8_subcodeOf_14 ?_
  refine mm_sipush (v := 2048) dX8_subcodeOf_15 (by decide) ?_
  refine mm_iload_n (j := 3) dX8_subcodeOf_18 rfl rfl ?_
  refine mm_iconst (v := 3) dX8_subcodeOf_19 (by decide) ?_
  refine mm_iand dX8_subcodeOf_20 ?_
  refine mm_imul dX8_subcodeOf_21 ?_
  refine mm_iadd dX8_subcodeOf_22 ?_
  subst hf
  refine mm_widen (ck' := rmX8_subcodeOf.cells) (sk' := rmX8_subcodeOf.slots) (Nat.le_of_ble_eq_true rfl) (Nat.le_of_ble_eq_true rfl) ?_
  exact mm_iret rfl rfl dX8_subcodeOf_23 ⟨rfl, rfl⟩
theorem dX8_addToTape_0 : decode cX8_addToTape 0 = .ok (.bipush 24, 2) := by decide +kernel
theorem dX8_addToTape_2 : decode cX8_addToTape 2 = .ok (.istore_n 2, 1) := by decide +kernel
theorem dX8_addToTape_3 : decode cX8_addToTape 3 = .ok (.iload_n 2, 1) := by decide +kernel
theorem dX8_addToTape_4 : decode cX8_addToTape 4 = .ok (.ifCond .lt 44, 3) := by decide +kernel
theorem dX8_addToTape_7 : decode cX8_addToTape 7 = .ok (.aload_n 0, 1) := by decide +kernel
theorem dX8_addToTape_8 : decode cX8_addToTape 8 = .ok (.getfield 147, 3) := by decide +kernel
theorem dX8_addToTape_11 : decode cX8_addToTape 11 = .ok (.bipush 60, 2) := by decide +kernel
theorem dX8_addToTape_13 : decode cX8_addToTape 13 = .ok (.if_icmp .ge 35, 3) := by decide +kernel
theorem dX8_addToTape_16 : decode cX8_addToTape 16 = .ok (.aload_n 0, 1) := by decide +kernel
theorem dX8_addToTape_17 : decode cX8_addToTape 17 = .ok (.getfield 22, 3) := by decide +kernel
theorem dX8_addToTape_20 : decode cX8_addToTape 20 = .ok (.aload_n 0, 1) := by decide +kernel
theorem dX8_addToTape_21 : decode cX8_addToTape 21 = .ok (.getfield 147, 3) := by decide +kernel
theorem dX8_addToTape_24 : decode cX8_addToTape 24 = .ok (.iload_n 1, 1) := by decide +kernel
theorem dX8_addToTape_25 : decode cX8_addToTape 25 = .ok (.iload_n 2, 1) := by decide +kernel
theorem dX8_addToTape_26 : decode cX8_addToTape 26 = .ok (.ishr, 1) := by decide +kernel
theorem dX8_addToTape_27 : decode cX8_addToTape 27 = .ok (.sipush 255, 3) := by decide +kernel
theorem dX8_addToTape_30 : decode cX8_addToTape 30 = .ok (.iand, 1) := by decide +kernel
theorem dX8_addToTape_31 : decode cX8_addToTape 31 = .ok (.iastore, 1) := by decide +kernel
theorem dX8_addToTape_32 : decode cX8_addToTape 32 = .ok (.aload_n 0, 1) := by decide +kernel
theorem dX8_addToTape_33 : decode cX8_addToTape 33 = .ok (.dup, 1) := by decide +kernel
theorem dX8_addToTape_34 : decode cX8_addToTape 34 = .ok (.getfield 147, 3) := by decide +kernel
theorem dX8_addToTape_37 : decode cX8_addToTape 37 = .ok (.iconst 1, 1) := by decide +kernel
theorem dX8_addToTape_38 : decode cX8_addToTape 38 = .ok (.iadd, 1) := by decide +kernel
theorem dX8_addToTape_39 : decode cX8_addToTape 39 = .ok (.putfield 147, 3) := by decide +kernel
theorem dX8_addToTape_42 : decode cX8_addToTape 42 = .ok (.iinc 2 (-8), 3) := by decide +kernel
theorem dX8_addToTape_45 : decode cX8_addToTape 45 = .ok (.goto (-42), 3) := by decide +kernel
theorem dX8_addToTape_48 : decode cX8_addToTape 48 = .ok (.return_, 1) := by decide +kernel
theorem nmX8_addToTape : mm_nm yX8_addToTape 1 := ⟨by decide, by decide, by decide +kernel⟩
theorem cdX8_addToTape : mm_cd cd_Y yX8_addToTape cX8_addToTape 3 none := ⟨tw_479, tw_1⟩
abbrev rmX8_addToTape : Room := { frames := 0, cells := 0, slots := 0, locals := 0 }
def fX8_addToTape_3  : Nat → Nat → Int32 → Int32 → mm_M → Option mm_M
  | 0 => fun _ _ _ _ => none
  | n + 1 => fun a0 x1 x2 σ =>
  (if x2 < 0 then some (σ) else mm_sh σ a0 (.inl 8) ((if 60 ≤ (mm_I σ a0 4) then some (σ) else mm_on (mm_R σ a0 3) fun q4 => mm_ar σ q4 0 fun n5 => mm_ib (mm_I σ a0 4) n5 (mm_let (mm_wI σ q4 ((mm_I σ a0 4).toNatClampNeg) ((x1 >>> ((x2 : Int32) &&& 31)) &&& 255)) fun s7 => mm_let (mm_wI s7 a0 4 ((mm_I s7 a0 4) + 1)) fun s8 => (fX8_addToTape_3  n a0 x1 (x2 + (-8)) s8)))))
def fX8_addToTape (p0 : Nat) (p1 : Int32) (σ : mm_M) : Option mm_M :=
  (fX8_addToTape_3  mm_fuel p0 p1 24 σ)
set_option maxHeartbeats 4000000 in
set_option maxRecDepth 100000 in
theorem kX8_addToTape_3 {G : mm_G} {A : Nat → Prop} {ini : Bool × Option (List (Nat × Nat × Nat × Nat))}  {R : mm_M}  : ∀ (a0 : Nat) (x1 : Int32) (x2 : Int32) (σ : mm_M), fX8_addToTape_3  mm_fuel a0 x1 x2 σ = some R → mm_J cd_Y G RX8 cX8_addToTape 3 none ini rmX8_addToTape A (mm_QF cd_Y G A (mm_Pv R) rmX8_addToTape.cells rmX8_addToTape.slots) 3 [(0, .ref a0), (1, .int x1), (2, .int x2)] [] σ 0 0 := by
  generalize mm_fuel = n
  induction n with
  | zero => intro a0 x1 x2 σ hf; cases hf
  | succ n ih =>
    intro a0 x1 x2 σ hf
    unfold fX8_addToTape_3 at hf
    refine mm_iload_n (j := 2) dX8_addToTape_3 rfl rfl ?_
    refine mm_if_lt (tgt := 48) dX8_addToTape_4 (by decide) (fun c1 => ?_) (fun c1 => ?_)
    · rw [if_pos c1] at hf
      cases hf
      refine mm_widen (ck' := rmX8_addToTape.cells) (sk' := rmX8_addToTape.slots) (Nat.le_of_ble_eq_true rfl) (Nat.le_of_ble_eq_true rfl) ?_
      exact mm_vret rfl dX8_addToTape_48 ⟨rfl, rfl⟩
    · rw [if_neg c1] at hf
      refine mm_aload_n (j := 0) dX8_addToTape_7 rfl rfl ?_
      obtain ⟨hs2, hf⟩ := mm_sh_s hf
      refine mm_get (c := 8) (k := 4) (v := .int (mm_I σ a0 4)) cd_ok ⟨_, _, _, rfl, by decide, Or.inl tw_144⟩ hs2 rfl dX8_addToTape_8 ?_
      refine mm_bipush (v := 60) dX8_addToTape_11 (by decide) ?_
      refine mm_icmp_ge (tgt := 48) dX8_addToTape_13 (by decide) (fun c3 => ?_) (fun c3 => ?_)
      · rw [if_pos c3] at hf
        cases hf
        refine mm_widen (ck' := rmX8_addToTape.cells) (sk' := rmX8_addToTape.slots) (Nat.le_of_ble_eq_true rfl) (Nat.le_of_ble_eq_true rfl) ?_
        exact mm_vret rfl dX8_addToTape_48 ⟨rfl, rfl⟩
      · rw [if_neg c3] at hf
        refine mm_aload_n (j := 0) dX8_addToTape_16 rfl rfl ?_
        refine mm_get (c := 8) (k := 3) (v := va_rf (mm_R σ a0 3)) cd_ok ⟨_, _, _, rfl, by decide, Or.inl tw_143⟩ hs2 rfl dX8_addToTape_17 ?_
        refine mm_aload_n (j := 0) dX8_addToTape_20 rfl rfl ?_
        refine mm_get (c := 8) (k := 4) (v := .int (mm_I σ a0 4)) cd_ok ⟨_, _, _, rfl, by decide, Or.inl tw_144⟩ hs2 rfl dX8_addToTape_21 ?_
        refine mm_iload_n (j := 1) dX8_addToTape_24 rfl rfl ?_
        refine mm_iload_n (j := 2) dX8_addToTape_25 rfl rfl ?_
        refine mm_ishr dX8_addToTape_26 ?_
        refine mm_sipush (v := 255) dX8_addToTape_27 (by decide) ?_
        refine mm_iand dX8_addToTape_30 ?_
        obtain ⟨q4, hq4, hf⟩ := mm_on_s hf
        rw [hq4, mm_rf_some]
        obtain ⟨n5, hn5, hf⟩ := mm_ar_s hf
        obtain ⟨hi6, hf⟩ := mm_ib_s hf
        refine mm_iast hn5 rfl hi6 dX8_addToTape_31 ?_
        obtain ⟨s7, hs7, hf⟩ := mm_let_s hf
        rw [hs7]
        refine mm_aload_n (j := 0) dX8_addToTape_32 rfl rfl ?_
        refine mm_dup dX8_addToTape_33 rfl ?_
        refine mm_get (c := 8) (k := 4) (v := .int (mm_I s7 a0 4)) cd_ok ⟨_, _, _, rfl, by decide, Or.inl tw_144⟩ (mm_ke hs7 hs2) rfl dX8_addToTape_34 ?_
        refine mm_iconst (v := 1) dX8_addToTape_37 (by decide) ?_
        refine mm_iadd dX8_addToTape_38 ?_
        refine mm_putI (c := 8) (k := 4) cd_ok ⟨_, _, _, rfl, by decide, rfl, Or.inl tw_144⟩ (mm_ke hs7 hs2) rfl rfl rfl dX8_addToTape_39 ?_
        obtain ⟨s8, hs8, hf⟩ := mm_let_s hf
        rw [hs8]
        refine mm_iinc (j := 2) (L' := [(2, .int (x2 + (-8))), (0, .ref a0), (1, .int x1)]) dX8_addToTape_42 rfl rfl (by decide) rfl ?_
        refine mm_goto (tgt := 3) dX8_addToTape_45 (by decide) ?_
        refine mm_sub [1, 2, 0] rfl ?_
        exact ih a0 x1 (x2 + (-8)) s8 hf
set_option maxHeartbeats 4000000 in
set_option maxRecDepth 100000 in
theorem kX8_addToTape {G : mm_G} {A : Nat → Prop} (p0 : Nat) (p1 : Int32) {σ : mm_M} {R : mm_M} (hf : fX8_addToTape p0 p1 σ = some R) : mm_C cd_Y G yX8_addToTape cX8_addToTape 3 none rmX8_addToTape A [.ref p0, .int p1] σ (mm_Pv R) := by
  refine mm_C.of (by decide) (Nat.le_of_ble_eq_true rfl) ?_
  unfold fX8_addToTape at hf
  have e0 : lv_args 0 [.ref p0, .int p1] = [(0, .ref p0), (1, .int p1)] := rfl
  rw [e0]
  generalize hini : ((yX8_addToTape.name == "<init>"), none) = ini
  clear e0
  clear hini
  refine mm_bipush (v := 24) dX8_addToTape_0 (by decide) ?_
  refine mm_istore_n (L' := [(2, .int 24), (0, .ref p0), (1, .int p1)]) dX8_addToTape_2 rfl (by decide) rfl ?_
  refine mm_sub [1, 2, 0] rfl ?_
  exact kX8_addToTape_3  p0 p1 24 σ hf
theorem dX8_cues_0 : decode cX8_cues 0 = .ok (.aload_n 0, 1) := by decide +kernel
theorem dX8_cues_1 : decode cX8_cues 1 = .ok (.getfield 297, 3) := by decide +kernel
theorem dX8_cues_4 : decode cX8_cues 4 = .ok (.ireturn, 1) := by decide +kernel
theorem nmX8_cues : mm_nm yX8_cues 0 := ⟨by decide, by decide, by decide +kernel⟩
theorem cdX8_cues : mm_cd cd_Y yX8_cues cX8_cues 1 (some .int) := ⟨tw_230, tw_1⟩
abbrev rmX8_cues : Room := { frames := 0, cells := 0, slots := 0, locals := 0 }
def fX8_cues (p0 : Nat) (σ : mm_M) : Option (Int32 × mm_M) :=
  mm_sh σ p0 (.inl 8) (some (mm_I σ p0 11, σ))
set_option maxHeartbeats 4000000 in
set_option maxRecDepth 100000 in
theorem kX8_cues {G : mm_G} {A : Nat → Prop} (p0 : Nat) {σ : mm_M} {R : (Int32 × mm_M)} (hf : fX8_cues p0 σ = some R) : mm_C cd_Y G yX8_cues cX8_cues 1 (some .int) rmX8_cues A [.ref p0] σ (mm_Pi R.1 R.2) := by
  refine mm_C.of (by decide) (Nat.le_of_ble_eq_true rfl) ?_
  unfold fX8_cues at hf
  have e0 : lv_args 0 [.ref p0] = [(0, .ref p0)] := rfl
  rw [e0]
  generalize hini : ((yX8_cues.name == "<init>"), none) = ini
  clear e0
  clear hini
  refine mm_aload_n (j := 0) dX8_cues_0 rfl rfl ?_
  obtain ⟨hs1, hf⟩ := mm_sh_s hf
  refine mm_get (c := 8) (k := 11) (v := .int (mm_I σ p0 11)) cd_ok ⟨_, _, _, rfl, by decide, Or.inl tw_151⟩ hs1 rfl dX8_cues_1 ?_
  cases hf
  refine mm_widen (ck' := rmX8_cues.cells) (sk' := rmX8_cues.slots) (Nat.le_of_ble_eq_true rfl) (Nat.le_of_ble_eq_true rfl) ?_
  exact mm_iret rfl rfl dX8_cues_4 ⟨rfl, rfl⟩
theorem dX8_cueAt_0 : decode cX8_cueAt 0 = .ok (.iload_n 1, 1) := by decide +kernel
theorem dX8_cueAt_1 : decode cX8_cueAt 1 = .ok (.aload_n 0, 1) := by decide +kernel
theorem dX8_cueAt_2 : decode cX8_cueAt 2 = .ok (.getfield 297, 3) := by decide +kernel
theorem dX8_cueAt_5 : decode cX8_cueAt 5 = .ok (.invokestatic 62, 3) := by decide +kernel
theorem dX8_cueAt_8 : decode cX8_cueAt 8 = .ok (.ifCond .ne 12, 3) := by decide +kernel
theorem dX8_cueAt_11 : decode cX8_cueAt 11 = .ok (.iload_n 1, 1) := by decide +kernel
theorem dX8_cueAt_12 : decode cX8_cueAt 12 = .ok (.bipush 60, 2) := by decide +kernel
theorem dX8_cueAt_14 : decode cX8_cueAt 14 = .ok (.invokestatic 62, 3) := by decide +kernel
theorem dX8_cueAt_17 : decode cX8_cueAt 17 = .ok (.ifCond .eq 7, 3) := by decide +kernel
theorem dX8_cueAt_20 : decode cX8_cueAt 20 = .ok (.aconst_null, 1) := by decide +kernel
theorem dX8_cueAt_21 : decode cX8_cueAt 21 = .ok (.goto 9, 3) := by decide +kernel
theorem dX8_cueAt_24 : decode cX8_cueAt 24 = .ok (.aload_n 0, 1) := by decide +kernel
theorem dX8_cueAt_25 : decode cX8_cueAt 25 = .ok (.getfield 54, 3) := by decide +kernel
theorem dX8_cueAt_28 : decode cX8_cueAt 28 = .ok (.iload_n 1, 1) := by decide +kernel
theorem dX8_cueAt_29 : decode cX8_cueAt 29 = .ok (.aaload, 1) := by decide +kernel
theorem dX8_cueAt_30 : decode cX8_cueAt 30 = .ok (.areturn, 1) := by decide +kernel
theorem nmX8_cueAt : mm_nm yX8_cueAt 1 := ⟨by decide, by decide, by decide +kernel⟩
theorem cdX8_cueAt : mm_cd cd_Y yX8_cueAt cX8_cueAt 2 (some (.object "CaptionDesk$Cue")) := ⟨tw_737, tw_1⟩
abbrev rmX8_cueAt : Room := { frames := 1, cells := 0, slots := 0, locals := 21 }
def fX8_cueAt (p0 : Nat) (p1 : Int32) (σ : mm_M) : Option (Option Nat × mm_M) :=
  mm_sh σ p0 (.inl 8) ((if (fX8_isOutside p1 (mm_I σ p0 11)) = 0 then (if (fX8_isOutside p1 60) = 0 then mm_on (mm_R σ p0 10) fun q4 => mm_ar σ q4 6 fun n5 => mm_ib p1 n5 (some (mm_R σ q4 p1.toNatClampNeg, σ)) else some (none, σ)) else some (none, σ)))
set_option maxHeartbeats 4000000 in
set_option maxRecDepth 100000 in
theorem kX8_cueAt {G : mm_G} {A : Nat → Prop} (p0 : Nat) (p1 : Int32) {σ : mm_M} {R : (Option Nat × mm_M)} (hf : fX8_cueAt p0 p1 σ = some R) : mm_C cd_Y G yX8_cueAt cX8_cueAt 2 (some (.object "CaptionDesk$Cue")) rmX8_cueAt A [.ref p0, .int p1] σ (mm_Pr R.1 R.2) := by
  refine mm_C.of (by decide) (Nat.le_of_ble_eq_true rfl) ?_
  unfold fX8_cueAt at hf
  have e0 : lv_args 0 [.ref p0, .int p1] = [(0, .ref p0), (1, .int p1)] := rfl
  rw [e0]
  generalize hini : ((yX8_cueAt.name == "<init>"), none) = ini
  clear e0
  clear hini
  refine mm_iload_n (j := 1) dX8_cueAt_0 rfl rfl ?_
  refine mm_aload_n (j := 0) dX8_cueAt_1 rfl rfl ?_
  obtain ⟨hs1, hf⟩ := mm_sh_s hf
  refine mm_get (c := 8) (k := 11) (v := .int (mm_I σ p0 11)) cd_ok ⟨_, _, _, rfl, by decide, Or.inl tw_151⟩ hs1 rfl dX8_cueAt_2 ?_
  refine mm_callSi cd_ok (kX8_isOutside p1 (mm_I σ p0 11) _ rfl) (Or.inl tw_239) cdX8_isOutside tw_221 nmX8_isOutside rfl rfl (by simp only [List.map_cons, List.map_nil, mm_rf_cat]; exact Nat.le_of_ble_eq_true rfl) dX8_cueAt_5 ⟨Nat.le_of_ble_eq_true rfl, Nat.le_of_ble_eq_true rfl⟩ ⟨Nat.le_of_ble_eq_true rfl, Nat.le_of_ble_eq_true rfl⟩ ?_
  refine mm_if_ne (tgt := 20) dX8_cueAt_8 (by decide) (fun c2 => ?_) (fun c2 => ?_)
  · rw [if_neg c2] at hf
    refine mm_null dX8_cueAt_20 ?_
    refine mm_goto (tgt := 30) dX8_cueAt_21 (by decide) ?_
    cases hf
    refine mm_widen (ck' := rmX8_cueAt.cells) (sk' := rmX8_cueAt.slots) (Nat.le_of_ble_eq_true rfl) (Nat.le_of_ble_eq_true rfl) ?_
    exact mm_aret rfl rfl (mm_rf_of (none)) dX8_cueAt_30 ⟨rfl, rfl⟩
  · rw [if_pos c2] at hf
    refine mm_iload_n (j := 1) dX8_cueAt_11 rfl rfl ?_
    refine mm_bipush (v := 60) dX8_cueAt_12 (by decide) ?_
    refine mm_callSi cd_ok (kX8_isOutside p1 60 _ rfl) (Or.inl tw_239) cdX8_isOutside tw_221 nmX8_isOutside rfl rfl (by simp only [List.map_cons, List.map_nil, mm_rf_cat]; exact Nat.le_of_ble_eq_true rfl) dX8_cueAt_14 ⟨Nat.le_of_ble_eq_true rfl, Nat.le_of_ble_eq_true rfl⟩ ⟨Nat.le_of_ble_eq_true rfl, Nat.le_of_ble_eq_true rfl⟩ ?_
    refine mm_if_eq (tgt := 24) dX8_cueAt_17 (by decide) (fun c3 => ?_) (fun c3 => ?_)
    · rw [if_pos c3] at hf
      refine mm_aload_n (j := 0) dX8_cueAt_24 rfl rfl ?_
      refine mm_get (c := 8) (k := 10) (v := va_rf (mm_R σ p0 10)) cd_ok ⟨_, _, _, rfl, by decide, Or.inl tw_150⟩ hs1 rfl dX8_cueAt_25 ?_
      refine mm_iload_n (j := 1) dX8_cueAt_28 rfl rfl ?_
      obtain ⟨q4, hq4, hf⟩ := mm_on_s hf
      rw [hq4, mm_rf_some]
      obtain ⟨n5, hn5, hf⟩ := mm_ar_s hf
      obtain ⟨hi6, hf⟩ := mm_ib_s hf
      refine mm_aald (v := va_rf (mm_R σ q4 p1.toNatClampNeg)) hn5 rfl hi6 rfl dX8_cueAt_29 ?_
      cases hf
      refine mm_widen (ck' := rmX8_cueAt.cells) (sk' := rmX8_cueAt.slots) (Nat.le_of_ble_eq_true rfl) (Nat.le_of_ble_eq_true rfl) ?_
      exact mm_aret rfl rfl (mm_rf_of (mm_R σ q4 p1.toNatClampNeg)) dX8_cueAt_30 ⟨rfl, rfl⟩
    · rw [if_neg c3] at hf
      refine mm_null dX8_cueAt_20 ?_
      refine mm_goto (tgt := 30) dX8_cueAt_21 (by decide) ?_
      cases hf
      refine mm_widen (ck' := rmX8_cueAt.cells) (sk' := rmX8_cueAt.slots) (Nat.le_of_ble_eq_true rfl) (Nat.le_of_ble_eq_true rfl) ?_
      exact mm_aret rfl rfl (mm_rf_of (none)) dX8_cueAt_30 ⟨rfl, rfl⟩
theorem dX8_endCue_0 : decode cX8_endCue 0 = .ok (.aload_n 0, 1) := by decide +kernel
theorem dX8_endCue_1 : decode cX8_endCue 1 = .ok (.aload_n 0, 1) := by decide +kernel
theorem dX8_endCue_2 : decode cX8_endCue 2 = .ok (.getfield 58, 3) := by decide +kernel
theorem dX8_endCue_5 : decode cX8_endCue 5 = .ok (.iload_n 1, 1) := by decide +kernel
theorem dX8_endCue_6 : decode cX8_endCue 6 = .ok (.iaload, 1) := by decide +kernel
theorem dX8_endCue_7 : decode cX8_endCue 7 = .ok (.invokevirtual 300, 3) := by decide +kernel
theorem dX8_endCue_10 : decode cX8_endCue 10 = .ok (.astore_n 2, 1) := by decide +kernel
theorem dX8_endCue_11 : decode cX8_endCue 11 = .ok (.aload_n 2, 1) := by decide +kernel
theorem dX8_endCue_12 : decode cX8_endCue 12 = .ok (.ifnull 32, 3) := by decide +kernel
theorem dX8_endCue_15 : decode cX8_endCue 15 = .ok (.aload_n 0, 1) := by decide +kernel
theorem dX8_endCue_16 : decode cX8_endCue 16 = .ok (.getfield 48, 3) := by decide +kernel
theorem dX8_endCue_19 : decode cX8_endCue 19 = .ok (.aload_n 2, 1) := by decide +kernel
theorem dX8_endCue_20 : decode cX8_endCue 20 = .ok (.getfield 314, 3) := by decide +kernel
theorem dX8_endCue_23 : decode cX8_endCue 23 = .ok (.invokevirtual 327, 3) := by decide +kernel
theorem dX8_endCue_26 : decode cX8_endCue 26 = .ok (.ifCond .ne 18, 3) := by decide +kernel
theorem dX8_endCue_29 : decode cX8_endCue 29 = .ok (.aload_n 2, 1) := by decide +kernel
theorem dX8_endCue_30 : decode cX8_endCue 30 = .ok (.aload_n 0, 1) := by decide +kernel
theorem dX8_endCue_31 : decode cX8_endCue 31 = .ok (.getfield 285, 3) := by decide +kernel
theorem dX8_endCue_34 : decode cX8_endCue 34 = .ok (.putfield 311, 3) := by decide +kernel
theorem dX8_endCue_37 : decode cX8_endCue 37 = .ok (.aload_n 0, 1) := by decide +kernel
theorem dX8_endCue_38 : decode cX8_endCue 38 = .ok (.getfield 58, 3) := by decide +kernel
theorem dX8_endCue_41 : decode cX8_endCue 41 = .ok (.iload_n 1, 1) := by decide +kernel
theorem dX8_endCue_42 : decode cX8_endCue 42 = .ok (.iconst (-1), 1) := by decide +kernel
theorem dX8_endCue_43 : decode cX8_endCue 43 = .ok (.iastore, 1) := by decide +kernel
theorem dX8_endCue_44 : decode cX8_endCue 44 = .ok (.return_, 1) := by decide +kernel
theorem nmX8_endCue : mm_nm yX8_endCue 1 := ⟨by decide, by decide, by decide +kernel⟩
theorem cdX8_endCue : mm_cd cd_Y yX8_endCue cX8_endCue 3 none := ⟨tw_733, tw_1⟩
abbrev rmX8_endCue : Room := { frames := 2, cells := 0, slots := 0, locals := 42 }
def fX8_endCue (p0 : Nat) (p1 : Int32) (σ : mm_M) : Option mm_M :=
  mm_sh σ p0 (.inl 8) (mm_on (mm_R σ p0 12) fun q2 => mm_ar σ q2 0 fun n3 => mm_ib p1 n3 (mm_on (fX8_cueAt p0 (mm_I σ q2 p1.toNatClampNeg) σ) fun q5 => (mm_nu (q5.1) (some (q5.2)) fun q6 => mm_sh q5.2 p0 (.inl 8) (mm_sh q5.2 q6 (.inl 1) (mm_on (mm_R q5.2 q6 2) fun q9 => mm_on (mm_R q5.2 p0 9) fun q10 => mm_sh q5.2 q10 (.inl 2) (mm_on (fX2_areThose q10 q9 q5.2) fun q12 => (if q12.1 = 0 then mm_sh q12.2 p0 (.inl 8) (mm_sh q12.2 q6 (.inl 1) (mm_let (mm_wI q12.2 q6 3 (mm_I q12.2 p0 13)) fun s16 => mm_on (mm_R s16 p0 12) fun q17 => mm_ar s16 q17 0 fun n18 => mm_ib p1 n18 (mm_let (mm_wI s16 q17 (p1.toNatClampNeg) (-1)) fun s20 => some (s20)))) else some (q12.2))))))))
set_option maxHeartbeats 4000000 in
set_option maxRecDepth 100000 in
theorem kX8_endCue {G : mm_G} {A : Nat → Prop} (p0 : Nat) (p1 : Int32) {σ : mm_M} {R : mm_M} (hf : fX8_endCue p0 p1 σ = some R) : mm_C cd_Y G yX8_endCue cX8_endCue 3 none rmX8_endCue A [.ref p0, .int p1] σ (mm_Pv R) := by
  refine mm_C.of (by decide) (Nat.le_of_ble_eq_true rfl) ?_
  unfold fX8_endCue at hf
  have e0 : lv_args 0 [.ref p0, .int p1] = [(0, .ref p0), (1, .int p1)] := rfl
  rw [e0]
  generalize hini : ((yX8_endCue.name == "<init>"), none) = ini
  clear e0
  clear hini
  refine mm_aload_n (j := 0) dX8_endCue_0 rfl rfl ?_
  refine mm_aload_n (j := 0) dX8_endCue_1 rfl rfl ?_
  obtain ⟨hs1, hf⟩ := mm_sh_s hf
  refine mm_get (c := 8) (k := 12) (v := va_rf (mm_R σ p0 12)) cd_ok ⟨_, _, _, rfl, by decide, Or.inl tw_152⟩ hs1 rfl dX8_endCue_2 ?_
  refine mm_iload_n (j := 1) dX8_endCue_5 rfl rfl ?_
  obtain ⟨q2, hq2, hf⟩ := mm_on_s hf
  rw [hq2, mm_rf_some]
  obtain ⟨n3, hn3, hf⟩ := mm_ar_s hf
  obtain ⟨hi4, hf⟩ := mm_ib_s hf
  refine mm_iald hn3 rfl hi4 dX8_endCue_6 ?_
  obtain ⟨q5, hq5, hf⟩ := mm_on_s hf
  refine mm_callVo cd_ok (kX8_cueAt p0 (mm_I σ q2 p1.toNatClampNeg) hq5) hs1 rfl (Or.inl tw_734) cdX8_cueAt tw_736 ts_29 nmX8_cueAt rfl rfl (by simp only [List.map_cons, List.map_nil, mm_rf_cat]; exact Nat.le_of_ble_eq_true rfl) dX8_endCue_7 ⟨Nat.le_of_ble_eq_true rfl, Nat.le_of_ble_eq_true rfl⟩ ⟨Nat.le_of_ble_eq_true rfl, Nat.le_of_ble_eq_true rfl⟩ ?_
  refine mm_astore_nR (L' := [(2, va_rf (q5.1)), (0, .ref p0), (1, .int p1)]) dX8_endCue_10 rfl (by decide) rfl ?_
  refine mm_aload_nR (j := 0) dX8_endCue_11 rfl rfl ?_
  rcases hq6 : (q5.1) with _ | q6
  · rw [mm_nu_n hq6] at hf
    try rw [mm_rf_none]
    refine mm_ifnullN (tgt := 44) dX8_endCue_12 (by decide) ?_
    cases hf
    refine mm_widen (ck' := rmX8_endCue.cells) (sk' := rmX8_endCue.slots) (Nat.le_of_ble_eq_true rfl) (Nat.le_of_ble_eq_true rfl) ?_
    exact mm_vret rfl dX8_endCue_44 ⟨rfl, rfl⟩
  · rw [mm_nu_s hq6] at hf
    try rw [mm_rf_some]
    refine mm_ifnull dX8_endCue_12 ?_
    refine mm_aload_n (j := 1) dX8_endCue_15 rfl rfl ?_
    obtain ⟨hs7, hf⟩ := mm_sh_s hf
    refine mm_get (c := 8) (k := 9) (v := va_rf (mm_R q5.2 p0 9)) cd_ok ⟨_, _, _, rfl, by decide, Or.inl tw_149⟩ hs7 rfl dX8_endCue_16 ?_
    refine mm_aload_n (j := 0) dX8_endCue_19 rfl rfl ?_
    obtain ⟨hs8, hf⟩ := mm_sh_s hf
    refine mm_get (c := 1) (k := 2) (v := va_rf (mm_R q5.2 q6 2)) cd_ok ⟨_, _, _, rfl, by decide, Or.inr ⟨_, tn_45⟩⟩ hs8 rfl dX8_endCue_20 ?_
    obtain ⟨q9, hq9, hf⟩ := mm_on_s hf
    rw [hq9, mm_rf_some]
    obtain ⟨q10, hq10, hf⟩ := mm_on_s hf
    rw [hq10, mm_rf_some]
    obtain ⟨hs11, hf⟩ := mm_sh_s hf
    obtain ⟨q12, hq12, hf⟩ := mm_on_s hf
    refine mm_callVi cd_ok (kX2_areThose q10 q9 hq12) hs11 rfl (Or.inl tw_738) cdX2_areThose tw_739 tw_740 nmX2_areThose rfl rfl (by simp only [List.map_cons, List.map_nil, mm_rf_cat]; exact Nat.le_of_ble_eq_true rfl) dX8_endCue_23 ⟨Nat.le_of_ble_eq_true rfl, Nat.le_of_ble_eq_true rfl⟩ ⟨Nat.le_of_ble_eq_true rfl, Nat.le_of_ble_eq_true rfl⟩ ?_
    refine mm_if_ne (tgt := 44) dX8_endCue_26 (by decide) (fun c13 => ?_) (fun c13 => ?_)
    · rw [if_neg c13] at hf
      cases hf
      refine mm_widen (ck' := rmX8_endCue.cells) (sk' := rmX8_endCue.slots) (Nat.le_of_ble_eq_true rfl) (Nat.le_of_ble_eq_true rfl) ?_
      exact mm_vret rfl dX8_endCue_44 ⟨rfl, rfl⟩
    · rw [if_pos c13] at hf
      refine mm_aload_n (j := 0) dX8_endCue_29 rfl rfl ?_
      refine mm_aload_n (j := 1) dX8_endCue_30 rfl rfl ?_
      obtain ⟨hs14, hf⟩ := mm_sh_s hf
      refine mm_get (c := 8) (k := 13) (v := .int (mm_I q12.2 p0 13)) cd_ok ⟨_, _, _, rfl, by decide, Or.inl tw_153⟩ hs14 rfl dX8_endCue_31 ?_
      obtain ⟨hs15, hf⟩ := mm_sh_s hf
      refine mm_putI (c := 1) (k := 3) cd_ok ⟨_, _, _, rfl, by decide, rfl, Or.inr ⟨_, tn_46⟩⟩ hs15 rfl rfl rfl dX8_endCue_34 ?_
      obtain ⟨s16, hs16, hf⟩ := mm_let_s hf
      rw [hs16]
      refine mm_aload_n (j := 1) dX8_endCue_37 rfl rfl ?_
      refine mm_get (c := 8) (k := 12) (v := va_rf (mm_R s16 p0 12)) cd_ok ⟨_, _, _, rfl, by decide, Or.inl tw_152⟩ (mm_ke hs16 hs14) rfl dX8_endCue_38 ?_
      refine mm_iload_n (j := 2) dX8_endCue_41 rfl rfl ?_
      refine mm_iconst (v := (-1)) dX8_endCue_42 (by decide) ?_
      obtain ⟨q17, hq17, hf⟩ := mm_on_s hf
      rw [hq17, mm_rf_some]
      obtain ⟨n18, hn18, hf⟩ := mm_ar_s hf
      obtain ⟨hi19, hf⟩ := mm_ib_s hf
      refine mm_iast hn18 rfl hi19 dX8_endCue_43 ?_
      obtain ⟨s20, hs20, hf⟩ := mm_let_s hf
      rw [hs20]
      cases hf
      refine mm_widen (ck' := rmX8_endCue.cells) (sk' := rmX8_endCue.slots) (Nat.le_of_ble_eq_true rfl) (Nat.le_of_ble_eq_true rfl) ?_
      exact mm_vret rfl dX8_endCue_44 ⟨rfl, rfl⟩
theorem dX8_beginCue_0 : decode cX8_beginCue 0 = .ok (.aload_n 0, 1) := by decide +kernel
theorem dX8_beginCue_1 : decode cX8_beginCue 1 = .ok (.getfield 58, 3) := by decide +kernel
theorem dX8_beginCue_4 : decode cX8_beginCue 4 = .ok (.iload_n 1, 1) := by decide +kernel
theorem dX8_beginCue_5 : decode cX8_beginCue 5 = .ok (.iaload, 1) := by decide +kernel
theorem dX8_beginCue_6 : decode cX8_beginCue 6 = .ok (.iconst (-1), 1) := by decide +kernel
theorem dX8_beginCue_7 : decode cX8_beginCue 7 = .ok (.if_icmp .ne 70, 3) := by decide +kernel
theorem dX8_beginCue_10 : decode cX8_beginCue 10 = .ok (.aload_n 0, 1) := by decide +kernel
theorem dX8_beginCue_11 : decode cX8_beginCue 11 = .ok (.getfield 48, 3) := by decide +kernel
theorem dX8_beginCue_14 : decode cX8_beginCue 14 = .ok (.getfield 319, 3) := by decide +kernel
theorem dX8_beginCue_17 : decode cX8_beginCue 17 = .ok (.ifCond .le 60, 3) := by decide +kernel
theorem dX8_beginCue_20 : decode cX8_beginCue 20 = .ok (.aload_n 0, 1) := by decide +kernel
theorem dX8_beginCue_21 : decode cX8_beginCue 21 = .ok (.getfield 297, 3) := by decide +kernel
theorem dX8_beginCue_24 : decode cX8_beginCue 24 = .ok (.bipush 60, 2) := by decide +kernel
theorem dX8_beginCue_26 : decode cX8_beginCue 26 = .ok (.if_icmp .ge 51, 3) := by decide +kernel
theorem dX8_beginCue_29 : decode cX8_beginCue 29 = .ok (.aload_n 0, 1) := by decide +kernel
theorem dX8_beginCue_30 : decode cX8_beginCue 30 = .ok (.getfield 54, 3) := by decide +kernel
theorem dX8_beginCue_33 : decode cX8_beginCue 33 = .ok (.aload_n 0, 1) := by decide +kernel
theorem dX8_beginCue_34 : decode cX8_beginCue 34 = .ok (.getfield 297, 3) := by decide +kernel
theorem dX8_beginCue_37 : decode cX8_beginCue 37 = .ok (.new 52, 3) := by decide +kernel
theorem dX8_beginCue_40 : decode cX8_beginCue 40 = .ok (.dup, 1) := by decide +kernel
theorem dX8_beginCue_41 : decode cX8_beginCue 41 = .ok (.iload_n 1, 1) := by decide +kernel
theorem dX8_beginCue_42 : decode cX8_beginCue 42 = .ok (.aload_n 0, 1) := by decide +kernel
theorem dX8_beginCue_43 : decode cX8_beginCue 43 = .ok (.getfield 285, 3) := by decide +kernel
theorem dX8_beginCue_46 : decode cX8_beginCue 46 = .ok (.aload_n 0, 1) := by decide +kernel
theorem dX8_beginCue_47 : decode cX8_beginCue 47 = .ok (.getfield 48, 3) := by decide +kernel
theorem dX8_beginCue_50 : decode cX8_beginCue 50 = .ok (.invokevirtual 331, 3) := by decide +kernel
theorem dX8_beginCue_53 : decode cX8_beginCue 53 = .ok (.invokespecial 335, 3) := by decide +kernel
theorem dX8_beginCue_56 : decode cX8_beginCue 56 = .ok (.aastore, 1) := by decide +kernel
theorem dX8_beginCue_57 : decode cX8_beginCue 57 = .ok (.aload_n 0, 1) := by decide +kernel
theorem dX8_beginCue_58 : decode cX8_beginCue 58 = .ok (.getfield 58, 3) := by decide +kernel
theorem dX8_beginCue_61 : decode cX8_beginCue 61 = .ok (.iload_n 1, 1) := by decide +kernel
theorem dX8_beginCue_62 : decode cX8_beginCue 62 = .ok (.aload_n 0, 1) := by decide +kernel
theorem dX8_beginCue_63 : decode cX8_beginCue 63 = .ok (.getfield 297, 3) := by decide +kernel
theorem dX8_beginCue_66 : decode cX8_beginCue 66 = .ok (.iastore, 1) := by decide +kernel
theorem dX8_beginCue_67 : decode cX8_beginCue 67 = .ok (.aload_n 0, 1) := by decide +kernel
theorem dX8_beginCue_68 : decode cX8_beginCue 68 = .ok (.dup, 1) := by decide +kernel
theorem dX8_beginCue_69 : decode cX8_beginCue 69 = .ok (.getfield 297, 3) := by decide +kernel
theorem dX8_beginCue_72 : decode cX8_beginCue 72 = .ok (.iconst 1, 1) := by decide +kernel
theorem dX8_beginCue_73 : decode cX8_beginCue 73 = .ok (.iadd, 1) := by decide +kernel
theorem dX8_beginCue_74 : decode cX8_beginCue 74 = .ok (.putfield 297, 3) := by decide +kernel
theorem dX8_beginCue_77 : decode cX8_beginCue 77 = .ok (.return_, 1) := by decide +kernel
theorem nmX8_beginCue : mm_nm yX8_beginCue 1 := ⟨by decide, by decide, by decide +kernel⟩
theorem cdX8_beginCue : mm_cd cd_Y yX8_beginCue cX8_beginCue 2 none := ⟨tw_745, tw_1⟩
abbrev rmX8_beginCue : Room := { frames := 2, cells := 2, slots := 404, locals := 35 }
def fX8_beginCue (p0 : Nat) (p1 : Int32) (σ : mm_M) : Option mm_M :=
  mm_sh σ p0 (.inl 8) (mm_on (mm_R σ p0 12) fun q2 => mm_ar σ q2 0 fun n3 => mm_ib p1 n3 ((if (mm_I σ q2 p1.toNatClampNeg) = (-1) then mm_on (mm_R σ p0 9) fun q6 => mm_sh σ q6 (.inl 2) ((if (mm_I σ q6 1) ≤ 0 then some (σ) else (if 60 ≤ (mm_I σ p0 11) then some (σ) else mm_let (mm_new σ (.inl 1)) fun s10 => mm_sh s10 p0 (.inl 8) (mm_on (mm_R s10 p0 9) fun q12 => mm_sh s10 q12 (.inl 2) (mm_on (fX2_copied q12 s10) fun q14 => mm_on (q14.1) fun q15 => mm_on (fX1_init σ.1 p1 (mm_I s10 p0 13) q15 q14.2) fun q16 => mm_on (mm_R σ p0 10) fun q17 => mm_ar q16 q17 6 fun n18 => mm_ib (mm_I σ p0 11) n18 (mm_sh q16 σ.1 (.inl 1) (mm_let (mm_wR q16 q17 ((mm_I σ p0 11).toNatClampNeg) (some σ.1)) fun s21 => mm_sh s21 p0 (.inl 8) (mm_on (mm_R s21 p0 12) fun q23 => mm_ar s21 q23 0 fun n24 => mm_ib p1 n24 (mm_let (mm_wI s21 q23 (p1.toNatClampNeg) (mm_I s21 p0 11)) fun s26 => mm_let (mm_wI s26 p0 11 ((mm_I s26 p0 11) + 1)) fun s27 => some (s27)))))))))) else some (σ))))
set_option maxHeartbeats 4000000 in
set_option maxRecDepth 100000 in
theorem kX8_beginCue {G : mm_G} {A : Nat → Prop} (p0 : Nat) (p1 : Int32) {σ : mm_M} {R : mm_M} (hf : fX8_beginCue p0 p1 σ = some R) : mm_C cd_Y G yX8_beginCue cX8_beginCue 2 none rmX8_beginCue A [.ref p0, .int p1] σ (mm_Pv R) := by
  refine mm_C.of (by decide) (Nat.le_of_ble_eq_true rfl) ?_
  unfold fX8_beginCue at hf
  have e0 : lv_args 0 [.ref p0, .int p1] = [(0, .ref p0), (1, .int p1)] := rfl
  rw [e0]
  generalize hini : ((yX8_beginCue.name == "<init>"), none) = ini
  clear e0
  clear hini
  refine mm_aload_n (j := 0) dX8_beginCue_0 rfl rfl ?_
  obtain ⟨hs1, hf⟩ := mm_sh_s hf
  refine mm_get (c := 8) (k := 12) (v := va_rf (mm_R σ p0 12)) cd_ok ⟨_, _, _, rfl, by decide, Or.inl tw_152⟩ hs1 rfl dX8_beginCue_1 ?_
  refine mm_iload_n (j := 1) dX8_beginCue_4 rfl rfl ?_
  obtain ⟨q2, hq2, hf⟩ := mm_on_s hf
  rw [hq2, mm_rf_some]
  obtain ⟨n3, hn3, hf⟩ := mm_ar_s hf
  obtain ⟨hi4, hf⟩ := mm_ib_s hf
  refine mm_iald hn3 rfl hi4 dX8_beginCue_5 ?_
  refine mm_iconst (v := (-1)) dX8_beginCue_6 (by decide) ?_
  refine mm_icmp_ne (tgt := 77) dX8_beginCue_7 (by decide) (fun c5 => ?_) (fun c5 => ?_)
  · rw [if_neg c5] at hf
    cases hf
    refine mm_widen (ck' := rmX8_beginCue.cells) (sk' := rmX8_beginCue.slots) (Nat.le_of_ble_eq_true rfl) (Nat.le_of_ble_eq_true rfl) ?_
    exact mm_vret rfl dX8_beginCue_77 ⟨rfl, rfl⟩
  · rw [if_pos c5] at hf
    refine mm_aload_n (j := 0) dX8_beginCue_10 rfl rfl ?_
    refine mm_get (c := 8) (k := 9) (v := va_rf (mm_R σ p0 9)) cd_ok ⟨_, _, _, rfl, by decide, Or.inl tw_149⟩ hs1 rfl dX8_beginCue_11 ?_
    obtain ⟨q6, hq6, hf⟩ := mm_on_s hf
    rw [hq6, mm_rf_some]
    obtain ⟨hs7, hf⟩ := mm_sh_s hf
    refine mm_get (c := 2) (k := 1) (v := .int (mm_I σ q6 1)) cd_ok ⟨_, _, _, rfl, by decide, Or.inr ⟨_, tn_5⟩⟩ hs7 rfl dX8_beginCue_14 ?_
    refine mm_if_le (tgt := 77) dX8_beginCue_17 (by decide) (fun c8 => ?_) (fun c8 => ?_)
    · rw [if_pos c8] at hf
      cases hf
      refine mm_widen (ck' := rmX8_beginCue.cells) (sk' := rmX8_beginCue.slots) (Nat.le_of_ble_eq_true rfl) (Nat.le_of_ble_eq_true rfl) ?_
      exact mm_vret rfl dX8_beginCue_77 ⟨rfl, rfl⟩
    · rw [if_neg c8] at hf
      refine mm_aload_n (j := 0) dX8_beginCue_20 rfl rfl ?_
      refine mm_get (c := 8) (k := 11) (v := .int (mm_I σ p0 11)) cd_ok ⟨_, _, _, rfl, by decide, Or.inl tw_151⟩ hs1 rfl dX8_beginCue_21 ?_
      refine mm_bipush (v := 60) dX8_beginCue_24 (by decide) ?_
      refine mm_icmp_ge (tgt := 77) dX8_beginCue_26 (by decide) (fun c9 => ?_) (fun c9 => ?_)
      · rw [if_pos c9] at hf
        cases hf
        refine mm_widen (ck' := rmX8_beginCue.cells) (sk' := rmX8_beginCue.slots) (Nat.le_of_ble_eq_true rfl) (Nat.le_of_ble_eq_true rfl) ?_
        exact mm_vret rfl dX8_beginCue_77 ⟨rfl, rfl⟩
      · rw [if_neg c9] at hf
        refine mm_aload_n (j := 0) dX8_beginCue_29 rfl rfl ?_
        refine mm_get (c := 8) (k := 10) (v := va_rf (mm_R σ p0 10)) cd_ok ⟨_, _, _, rfl, by decide, Or.inl tw_150⟩ hs1 rfl dX8_beginCue_30 ?_
        refine mm_aload_n (j := 0) dX8_beginCue_33 rfl rfl ?_
        refine mm_get (c := 8) (k := 11) (v := .int (mm_I σ p0 11)) cd_ok ⟨_, _, _, rfl, by decide, Or.inl tw_151⟩ hs1 rfl dX8_beginCue_34 ?_
        refine mm_newo cd_ok (c := 1) (N := 4) rfl (by decide) tw_91 tw_746 tw_19 (Nat.le_of_ble_eq_true rfl) (Nat.le_of_ble_eq_true rfl) dX8_beginCue_37 ?_
        obtain ⟨s10, hs10, hf⟩ := mm_let_s hf
        rw [hs10]
        refine mm_dup dX8_beginCue_40 rfl ?_
        refine mm_iload_n (j := 1) dX8_beginCue_41 rfl rfl ?_
        refine mm_aload_n (j := 0) dX8_beginCue_42 rfl rfl ?_
        obtain ⟨hs11, hf⟩ := mm_sh_s hf
        refine mm_get (c := 8) (k := 13) (v := .int (mm_I s10 p0 13)) cd_ok ⟨_, _, _, rfl, by decide, Or.inl tw_153⟩ hs11 rfl dX8_beginCue_43 ?_
        refine mm_aload_n (j := 0) dX8_beginCue_46 rfl rfl ?_
        refine mm_get (c := 8) (k := 9) (v := va_rf (mm_R s10 p0 9)) cd_ok ⟨_, _, _, rfl, by decide, Or.inl tw_149⟩ hs11 rfl dX8_beginCue_47 ?_
        obtain ⟨q12, hq12, hf⟩ := mm_on_s hf
        rw [hq12, mm_rf_some]
        obtain ⟨hs13, hf⟩ := mm_sh_s hf
        obtain ⟨q14, hq14, hf⟩ := mm_on_s hf
        refine mm_callVo cd_ok (kX2_copied q12 hq14) hs13 rfl (Or.inl tw_747) cdX2_copied tw_748 tw_749 nmX2_copied rfl rfl (by simp only [List.map_cons, List.map_nil, mm_rf_cat]; exact Nat.le_of_ble_eq_true rfl) dX8_beginCue_50 ⟨Nat.le_of_ble_eq_true rfl, Nat.le_of_ble_eq_true rfl⟩ ⟨Nat.le_of_ble_eq_true rfl, Nat.le_of_ble_eq_true rfl⟩ ?_
        obtain ⟨q15, hq15, hf⟩ := mm_on_s hf
        rw [hq15, mm_rf_some]
        obtain ⟨q16, hq16, hf⟩ := mm_on_s hf
        refine mm_callIv cd_ok (kX1_init σ.1 p1 (mm_I s10 p0 13) q15 hq16) (Or.inl tw_751) cdX1_init tw_752 rfl nmX1_init rfl rfl (by simp only [List.map_cons, List.map_nil, mm_rf_cat]; exact Nat.le_of_ble_eq_true rfl) dX8_beginCue_53 ⟨Nat.le_of_ble_eq_true rfl, Nat.le_of_ble_eq_true rfl⟩ ⟨Nat.le_of_ble_eq_true rfl, Nat.le_of_ble_eq_true rfl⟩ ?_
        obtain ⟨q17, hq17, hf⟩ := mm_on_s hf
        rw [hq17, mm_rf_some]
        obtain ⟨n18, hn18, hf⟩ := mm_ar_s hf
        obtain ⟨hi19, hf⟩ := mm_ib_s hf
        obtain ⟨hs20, hf⟩ := mm_sh_s hf
        refine mm_aast (cv := 1) hn18 rfl hi19 hs20 rfl dX8_beginCue_56 ?_
        obtain ⟨s21, hs21, hf⟩ := mm_let_s hf
        rw [hs21]
        refine mm_aload_n (j := 0) dX8_beginCue_57 rfl rfl ?_
        obtain ⟨hs22, hf⟩ := mm_sh_s hf
        refine mm_get (c := 8) (k := 12) (v := va_rf (mm_R s21 p0 12)) cd_ok ⟨_, _, _, rfl, by decide, Or.inl tw_152⟩ hs22 rfl dX8_beginCue_58 ?_
        refine mm_iload_n (j := 1) dX8_beginCue_61 rfl rfl ?_
        refine mm_aload_n (j := 0) dX8_beginCue_62 rfl rfl ?_
        refine mm_get (c := 8) (k := 11) (v := .int (mm_I s21 p0 11)) cd_ok ⟨_, _, _, rfl, by decide, Or.inl tw_151⟩ hs22 rfl dX8_beginCue_63 ?_
        obtain ⟨q23, hq23, hf⟩ := mm_on_s hf
        rw [hq23, mm_rf_some]
        obtain ⟨n24, hn24, hf⟩ := mm_ar_s hf
        obtain ⟨hi25, hf⟩ := mm_ib_s hf
        refine mm_iast hn24 rfl hi25 dX8_beginCue_66 ?_
        obtain ⟨s26, hs26, hf⟩ := mm_let_s hf
        rw [hs26]
        refine mm_aload_n (j := 0) dX8_beginCue_67 rfl rfl ?_
        refine mm_dup dX8_beginCue_68 rfl ?_
        refine mm_get (c := 8) (k := 11) (v := .int (mm_I s26 p0 11)) cd_ok ⟨_, _, _, rfl, by decide, Or.inl tw_151⟩ (mm_ke hs26 hs22) rfl dX8_beginCue_69 ?_
        refine mm_iconst (v := 1) dX8_beginCue_72 (by decide) ?_
        refine mm_iadd dX8_beginCue_73 ?_
        refine mm_putI (c := 8) (k := 11) cd_ok ⟨_, _, _, rfl, by decide, rfl, Or.inl tw_151⟩ (mm_ke hs26 hs22) rfl rfl rfl dX8_beginCue_74 ?_
        obtain ⟨s27, hs27, hf⟩ := mm_let_s hf
        rw [hs27]
        cases hf
        refine mm_widen (ck' := rmX8_beginCue.cells) (sk' := rmX8_beginCue.slots) (Nat.le_of_ble_eq_true rfl) (Nat.le_of_ble_eq_true rfl) ?_
        exact mm_vret rfl dX8_beginCue_77 ⟨rfl, rfl⟩
theorem dX9_init_0 : decode cX9_init 0 = .ok (.aload_n 0, 1) := by decide +kernel
theorem dX9_init_1 : decode cX9_init 1 = .ok (.invokespecial 1, 3) := by decide +kernel
theorem dX9_init_4 : decode cX9_init 4 = .ok (.aload_n 0, 1) := by decide +kernel
theorem dX9_init_5 : decode cX9_init 5 = .ok (.sipush 3840, 3) := by decide +kernel
theorem dX9_init_8 : decode cX9_init 8 = .ok (.newarray .int, 2) := by decide +kernel
theorem dX9_init_10 : decode cX9_init 10 = .ok (.putfield 7, 3) := by decide +kernel
theorem dX9_init_13 : decode cX9_init 13 = .ok (.aload_n 0, 1) := by decide +kernel
theorem dX9_init_14 : decode cX9_init 14 = .ok (.sipush 3840, 3) := by decide +kernel
theorem dX9_init_17 : decode cX9_init 17 = .ok (.newarray .int, 2) := by decide +kernel
theorem dX9_init_19 : decode cX9_init 19 = .ok (.putfield 13, 3) := by decide +kernel
theorem dX9_init_22 : decode cX9_init 22 = .ok (.aload_n 0, 1) := by decide +kernel
theorem dX9_init_23 : decode cX9_init 23 = .ok (.iconst 4, 1) := by decide +kernel
theorem dX9_init_24 : decode cX9_init 24 = .ok (.newarray .int, 2) := by decide +kernel
theorem dX9_init_26 : decode cX9_init 26 = .ok (.putfield 16, 3) := by decide +kernel
theorem dX9_init_29 : decode cX9_init 29 = .ok (.aload_n 0, 1) := by decide +kernel
theorem dX9_init_30 : decode cX9_init 30 = .ok (.iconst 4, 1) := by decide +kernel
theorem dX9_init_31 : decode cX9_init 31 = .ok (.newarray .int, 2) := by decide +kernel
theorem dX9_init_33 : decode cX9_init 33 = .ok (.putfield 19, 3) := by decide +kernel
theorem dX9_init_36 : decode cX9_init 36 = .ok (.aload_n 0, 1) := by decide +kernel
theorem dX9_init_37 : decode cX9_init 37 = .ok (.iconst 4, 1) := by decide +kernel
theorem dX9_init_38 : decode cX9_init 38 = .ok (.newarray .int, 2) := by decide +kernel
theorem dX9_init_40 : decode cX9_init 40 = .ok (.putfield 22, 3) := by decide +kernel
theorem dX9_init_43 : decode cX9_init 43 = .ok (.aload_n 0, 1) := by decide +kernel
theorem dX9_init_44 : decode cX9_init 44 = .ok (.iconst 4, 1) := by decide +kernel
theorem dX9_init_45 : decode cX9_init 45 = .ok (.newarray .int, 2) := by decide +kernel
theorem dX9_init_47 : decode cX9_init 47 = .ok (.putfield 25, 3) := by decide +kernel
theorem dX9_init_50 : decode cX9_init 50 = .ok (.aload_n 0, 1) := by decide +kernel
theorem dX9_init_51 : decode cX9_init 51 = .ok (.iconst 4, 1) := by decide +kernel
theorem dX9_init_52 : decode cX9_init 52 = .ok (.newarray .int, 2) := by decide +kernel
theorem dX9_init_54 : decode cX9_init 54 = .ok (.putfield 28, 3) := by decide +kernel
theorem dX9_init_57 : decode cX9_init 57 = .ok (.aload_n 0, 1) := by decide +kernel
theorem dX9_init_58 : decode cX9_init 58 = .ok (.iconst 4, 1) := by decide +kernel
theorem dX9_init_59 : decode cX9_init 59 = .ok (.newarray .int, 2) := by decide +kernel
theorem dX9_init_61 : decode cX9_init 61 = .ok (.putfield 31, 3) := by decide +kernel
theorem dX9_init_64 : decode cX9_init 64 = .ok (.aload_n 0, 1) := by decide +kernel
theorem dX9_init_65 : decode cX9_init 65 = .ok (.iconst 2, 1) := by decide +kernel
theorem dX9_init_66 : decode cX9_init 66 = .ok (.newarray .int, 2) := by decide +kernel
theorem dX9_init_68 : decode cX9_init 68 = .ok (.putfield 34, 3) := by decide +kernel
theorem dX9_init_71 : decode cX9_init 71 = .ok (.aload_n 0, 1) := by decide +kernel
theorem dX9_init_72 : decode cX9_init 72 = .ok (.iconst 2, 1) := by decide +kernel
theorem dX9_init_73 : decode cX9_init 73 = .ok (.newarray .int, 2) := by decide +kernel
theorem dX9_init_75 : decode cX9_init 75 = .ok (.putfield 37, 3) := by decide +kernel
theorem dX9_init_78 : decode cX9_init 78 = .ok (.aload_n 0, 1) := by decide +kernel
theorem dX9_init_79 : decode cX9_init 79 = .ok (.bipush 60, 2) := by decide +kernel
theorem dX9_init_81 : decode cX9_init 81 = .ok (.newarray .byte, 2) := by decide +kernel
theorem dX9_init_83 : decode cX9_init 83 = .ok (.putfield 40, 3) := by decide +kernel
theorem dX9_init_86 : decode cX9_init 86 = .ok (.aload_n 0, 1) := by decide +kernel
theorem dX9_init_87 : decode cX9_init 87 = .ok (.iconst 3, 1) := by decide +kernel
theorem dX9_init_88 : decode cX9_init 88 = .ok (.newarray .int, 2) := by decide +kernel
theorem dX9_init_90 : decode cX9_init 90 = .ok (.putfield 44, 3) := by decide +kernel
theorem dX9_init_93 : decode cX9_init 93 = .ok (.aload_n 0, 1) := by decide +kernel
theorem dX9_init_94 : decode cX9_init 94 = .ok (.bipush 20, 2) := by decide +kernel
theorem dX9_init_96 : decode cX9_init 96 = .ok (.newarray .int, 2) := by decide +kernel
theorem dX9_init_98 : decode cX9_init 98 = .ok (.putfield 47, 3) := by decide +kernel
theorem dX9_init_101 : decode cX9_init 101 = .ok (.aload_n 0, 1) := by decide +kernel
theorem dX9_init_102 : decode cX9_init 102 = .ok (.bipush 20, 2) := by decide +kernel
theorem dX9_init_104 : decode cX9_init 104 = .ok (.newarray .boolean, 2) := by decide +kernel
theorem dX9_init_106 : decode cX9_init 106 = .ok (.putfield 50, 3) := by decide +kernel
theorem dX9_init_109 : decode cX9_init 109 = .ok (.aload_n 0, 1) := by decide +kernel
theorem dX9_init_110 : decode cX9_init 110 = .ok (.bipush 20, 2) := by decide +kernel
theorem dX9_init_112 : decode cX9_init 112 = .ok (.newarray .int, 2) := by decide +kernel
theorem dX9_init_114 : decode cX9_init 114 = .ok (.putfield 54, 3) := by decide +kernel
theorem dX9_init_117 : decode cX9_init 117 = .ok (.aload_n 0, 1) := by decide +kernel
theorem dX9_init_118 : decode cX9_init 118 = .ok (.bipush 20, 2) := by decide +kernel
theorem dX9_init_120 : decode cX9_init 120 = .ok (.newarray .int, 2) := by decide +kernel
theorem dX9_init_122 : decode cX9_init 122 = .ok (.putfield 57, 3) := by decide +kernel
theorem dX9_init_125 : decode cX9_init 125 = .ok (.aload_n 0, 1) := by decide +kernel
theorem dX9_init_126 : decode cX9_init 126 = .ok (.bipush 20, 2) := by decide +kernel
theorem dX9_init_128 : decode cX9_init 128 = .ok (.newarray .int, 2) := by decide +kernel
theorem dX9_init_130 : decode cX9_init 130 = .ok (.putfield 60, 3) := by decide +kernel
theorem dX9_init_133 : decode cX9_init 133 = .ok (.aload_n 0, 1) := by decide +kernel
theorem dX9_init_134 : decode cX9_init 134 = .ok (.bipush 20, 2) := by decide +kernel
theorem dX9_init_136 : decode cX9_init 136 = .ok (.newarray .int, 2) := by decide +kernel
theorem dX9_init_138 : decode cX9_init 138 = .ok (.putfield 63, 3) := by decide +kernel
theorem dX9_init_141 : decode cX9_init 141 = .ok (.aload_n 0, 1) := by decide +kernel
theorem dX9_init_142 : decode cX9_init 142 = .ok (.bipush 20, 2) := by decide +kernel
theorem dX9_init_144 : decode cX9_init 144 = .ok (.newarray .int, 2) := by decide +kernel
theorem dX9_init_146 : decode cX9_init 146 = .ok (.putfield 66, 3) := by decide +kernel
theorem dX9_init_149 : decode cX9_init 149 = .ok (.aload_n 0, 1) := by decide +kernel
theorem dX9_init_150 : decode cX9_init 150 = .ok (.bipush 20, 2) := by decide +kernel
theorem dX9_init_152 : decode cX9_init 152 = .ok (.newarray .int, 2) := by decide +kernel
theorem dX9_init_154 : decode cX9_init 154 = .ok (.putfield 69, 3) := by decide +kernel
theorem dX9_init_157 : decode cX9_init 157 = .ok (.aload_n 0, 1) := by decide +kernel
theorem dX9_init_158 : decode cX9_init 158 = .ok (.sipush 20000, 3) := by decide +kernel
theorem dX9_init_161 : decode cX9_init 161 = .ok (.newarray .byte, 2) := by decide +kernel
theorem dX9_init_163 : decode cX9_init 163 = .ok (.putfield 72, 3) := by decide +kernel
theorem dX9_init_166 : decode cX9_init 166 = .ok (.aload_n 0, 1) := by decide +kernel
theorem dX9_init_167 : decode cX9_init 167 = .ok (.sipush 500, 3) := by decide +kernel
theorem dX9_init_170 : decode cX9_init 170 = .ok (.newarray .boolean, 2) := by decide +kernel
theorem dX9_init_172 : decode cX9_init 172 = .ok (.putfield 75, 3) := by decide +kernel
theorem dX9_init_175 : decode cX9_init 175 = .ok (.aload_n 0, 1) := by decide +kernel
theorem dX9_init_176 : decode cX9_init 176 = .ok (.sipush 360, 3) := by decide +kernel
theorem dX9_init_179 : decode cX9_init 179 = .ok (.newarray .int, 2) := by decide +kernel
theorem dX9_init_181 : decode cX9_init 181 = .ok (.putfield 78, 3) := by decide +kernel
theorem dX9_init_184 : decode cX9_init 184 = .ok (.aload_n 0, 1) := by decide +kernel
theorem dX9_init_185 : decode cX9_init 185 = .ok (.bipush 120, 2) := by decide +kernel
theorem dX9_init_187 : decode cX9_init 187 = .ok (.newarray .boolean, 2) := by decide +kernel
theorem dX9_init_189 : decode cX9_init 189 = .ok (.putfield 81, 3) := by decide +kernel
theorem dX9_init_192 : decode cX9_init 192 = .ok (.aload_n 0, 1) := by decide +kernel
theorem dX9_init_193 : decode cX9_init 193 = .ok (.bipush 9, 2) := by decide +kernel
theorem dX9_init_195 : decode cX9_init 195 = .ok (.newarray .int, 2) := by decide +kernel
theorem dX9_init_197 : decode cX9_init 197 = .ok (.putfield 84, 3) := by decide +kernel
theorem dX9_init_200 : decode cX9_init 200 = .ok (.aload_n 0, 1) := by decide +kernel
theorem dX9_init_201 : decode cX9_init 201 = .ok (.sipush 1000, 3) := by decide +kernel
theorem dX9_init_204 : decode cX9_init 204 = .ok (.newarray .byte, 2) := by decide +kernel
theorem dX9_init_206 : decode cX9_init 206 = .ok (.putfield 87, 3) := by decide +kernel
theorem dX9_init_209 : decode cX9_init 209 = .ok (.aload_n 0, 1) := by decide +kernel
theorem dX9_init_210 : decode cX9_init 210 = .ok (.bipush 25, 2) := by decide +kernel
theorem dX9_init_212 : decode cX9_init 212 = .ok (.newarray .boolean, 2) := by decide +kernel
theorem dX9_init_214 : decode cX9_init 214 = .ok (.putfield 90, 3) := by decide +kernel
theorem dX9_init_217 : decode cX9_init 217 = .ok (.aload_n 0, 1) := by decide +kernel
theorem dX9_init_218 : decode cX9_init 218 = .ok (.bipush 60, 2) := by decide +kernel
theorem dX9_init_220 : decode cX9_init 220 = .ok (.newarray .int, 2) := by decide +kernel
theorem dX9_init_222 : decode cX9_init 222 = .ok (.putfield 93, 3) := by decide +kernel
theorem dX9_init_225 : decode cX9_init 225 = .ok (.aload_n 0, 1) := by decide +kernel
theorem dX9_init_226 : decode cX9_init 226 = .ok (.bipush 60, 2) := by decide +kernel
theorem dX9_init_228 : decode cX9_init 228 = .ok (.newarray .int, 2) := by decide +kernel
theorem dX9_init_230 : decode cX9_init 230 = .ok (.putfield 96, 3) := by decide +kernel
theorem dX9_init_233 : decode cX9_init 233 = .ok (.aload_n 0, 1) := by decide +kernel
theorem dX9_init_234 : decode cX9_init 234 = .ok (.bipush 60, 2) := by decide +kernel
theorem dX9_init_236 : decode cX9_init 236 = .ok (.newarray .int, 2) := by decide +kernel
theorem dX9_init_238 : decode cX9_init 238 = .ok (.putfield 99, 3) := by decide +kernel
theorem dX9_init_241 : decode cX9_init 241 = .ok (.aload_n 0, 1) := by decide +kernel
theorem dX9_init_242 : decode cX9_init 242 = .ok (.bipush 60, 2) := by decide +kernel
theorem dX9_init_244 : decode cX9_init 244 = .ok (.newarray .int, 2) := by decide +kernel
theorem dX9_init_246 : decode cX9_init 246 = .ok (.putfield 102, 3) := by decide +kernel
theorem dX9_init_249 : decode cX9_init 249 = .ok (.aload_n 0, 1) := by decide +kernel
theorem dX9_init_250 : decode cX9_init 250 = .ok (.sipush 24000, 3) := by decide +kernel
theorem dX9_init_253 : decode cX9_init 253 = .ok (.newarray .byte, 2) := by decide +kernel
theorem dX9_init_255 : decode cX9_init 255 = .ok (.putfield 105, 3) := by decide +kernel
theorem dX9_init_258 : decode cX9_init 258 = .ok (.aload_n 0, 1) := by decide +kernel
theorem dX9_init_259 : decode cX9_init 259 = .ok (.iconst 5, 1) := by decide +kernel
theorem dX9_init_260 : decode cX9_init 260 = .ok (.newarray .int, 2) := by decide +kernel
theorem dX9_init_262 : decode cX9_init 262 = .ok (.putfield 108, 3) := by decide +kernel
theorem dX9_init_265 : decode cX9_init 265 = .ok (.aload_n 0, 1) := by decide +kernel
theorem dX9_init_266 : decode cX9_init 266 = .ok (.sipush 128, 3) := by decide +kernel
theorem dX9_init_269 : decode cX9_init 269 = .ok (.newarray .int, 2) := by decide +kernel
theorem dX9_init_271 : decode cX9_init 271 = .ok (.putfield 111, 3) := by decide +kernel
theorem dX9_init_274 : decode cX9_init 274 = .ok (.aload_n 0, 1) := by decide +kernel
theorem dX9_init_275 : decode cX9_init 275 = .ok (.sipush 128, 3) := by decide +kernel
theorem dX9_init_278 : decode cX9_init 278 = .ok (.newarray .int, 2) := by decide +kernel
theorem dX9_init_280 : decode cX9_init 280 = .ok (.putfield 114, 3) := by decide +kernel
theorem dX9_init_283 : decode cX9_init 283 = .ok (.aload_n 0, 1) := by decide +kernel
theorem dX9_init_284 : decode cX9_init 284 = .ok (.sipush 1100, 3) := by decide +kernel
theorem dX9_init_287 : decode cX9_init 287 = .ok (.newarray .byte, 2) := by decide +kernel
theorem dX9_init_289 : decode cX9_init 289 = .ok (.putfield 117, 3) := by decide +kernel
theorem dX9_init_292 : decode cX9_init 292 = .ok (.iconst 0, 1) := by decide +kernel
theorem dX9_init_293 : decode cX9_init 293 = .ok (.istore_n 1, 1) := by decide +kernel
theorem dX9_init_294 : decode cX9_init 294 = .ok (.iload_n 1, 1) := by decide +kernel
theorem dX9_init_295 : decode cX9_init 295 = .ok (.iconst 4, 1) := by decide +kernel
theorem dX9_init_296 : decode cX9_init 296 = .ok (.if_icmp .ge 23, 3) := by decide +kernel
theorem dX9_init_299 : decode cX9_init 299 = .ok (.aload_n 0, 1) := by decide +kernel
theorem dX9_init_300 : decode cX9_init 300 = .ok (.getfield 22, 3) := by decide +kernel
theorem dX9_init_303 : decode cX9_init 303 = .ok (.iload_n 1, 1) := by decide +kernel
theorem dX9_init_304 : decode cX9_init 304 = .ok (.iconst 1, 1) := by decide +kernel
theorem dX9_init_305 : decode cX9_init 305 = .ok (.iastore, 1) := by decide +kernel
theorem dX9_init_306 : decode cX9_init 306 = .ok (.aload_n 0, 1) := by decide +kernel
theorem dX9_init_307 : decode cX9_init 307 = .ok (.getfield 31, 3) := by decide +kernel
theorem dX9_init_310 : decode cX9_init 310 = .ok (.iload_n 1, 1) := by decide +kernel
theorem dX9_init_311 : decode cX9_init 311 = .ok (.iconst 2, 1) := by decide +kernel
theorem dX9_init_312 : decode cX9_init 312 = .ok (.iastore, 1) := by decide +kernel
theorem dX9_init_313 : decode cX9_init 313 = .ok (.iinc 1 1, 3) := by decide +kernel
theorem dX9_init_316 : decode cX9_init 316 = .ok (.goto (-22), 3) := by decide +kernel
theorem dX9_init_319 : decode cX9_init 319 = .ok (.iconst 0, 1) := by decide +kernel
theorem dX9_init_320 : decode cX9_init 320 = .ok (.istore_n 1, 1) := by decide +kernel
theorem dX9_init_321 : decode cX9_init 321 = .ok (.iload_n 1, 1) := by decide +kernel
theorem dX9_init_322 : decode cX9_init 322 = .ok (.iconst 2, 1) := by decide +kernel
theorem dX9_init_323 : decode cX9_init 323 = .ok (.if_icmp .ge 23, 3) := by decide +kernel
theorem dX9_init_326 : decode cX9_init 326 = .ok (.aload_n 0, 1) := by decide +kernel
theorem dX9_init_327 : decode cX9_init 327 = .ok (.getfield 34, 3) := by decide +kernel
theorem dX9_init_330 : decode cX9_init 330 = .ok (.iload_n 1, 1) := by decide +kernel
theorem dX9_init_331 : decode cX9_init 331 = .ok (.iconst (-1), 1) := by decide +kernel
theorem dX9_init_332 : decode cX9_init 332 = .ok (.iastore, 1) := by decide +kernel
theorem dX9_init_333 : decode cX9_init 333 = .ok (.aload_n 0, 1) := by decide +kernel
theorem dX9_init_334 : decode cX9_init 334 = .ok (.getfield 37, 3) := by decide +kernel
theorem dX9_init_337 : decode cX9_init 337 = .ok (.iload_n 1, 1) := by decide +kernel
theorem dX9_init_338 : decode cX9_init 338 = .ok (.iconst (-1), 1) := by decide +kernel
theorem dX9_init_339 : decode cX9_init 339 = .ok (.iastore, 1) := by decide +kernel
theorem dX9_init_340 : decode cX9_init 340 = .ok (.iinc 1 1, 3) := by decide +kernel
theorem dX9_init_343 : decode cX9_init 343 = .ok (.goto (-22), 3) := by decide +kernel
theorem dX9_init_346 : decode cX9_init 346 = .ok (.iconst 0, 1) := by decide +kernel
theorem dX9_init_347 : decode cX9_init 347 = .ok (.istore_n 1, 1) := by decide +kernel
theorem dX9_init_348 : decode cX9_init 348 = .ok (.iload_n 1, 1) := by decide +kernel
theorem dX9_init_349 : decode cX9_init 349 = .ok (.bipush 9, 2) := by decide +kernel
theorem dX9_init_351 : decode cX9_init 351 = .ok (.if_icmp .ge 16, 3) := by decide +kernel
theorem dX9_init_354 : decode cX9_init 354 = .ok (.aload_n 0, 1) := by decide +kernel
theorem dX9_init_355 : decode cX9_init 355 = .ok (.getfield 84, 3) := by decide +kernel
theorem dX9_init_358 : decode cX9_init 358 = .ok (.iload_n 1, 1) := by decide +kernel
theorem dX9_init_359 : decode cX9_init 359 = .ok (.iconst (-1), 1) := by decide +kernel
theorem dX9_init_360 : decode cX9_init 360 = .ok (.iastore, 1) := by decide +kernel
theorem dX9_init_361 : decode cX9_init 361 = .ok (.iinc 1 1, 3) := by decide +kernel
theorem dX9_init_364 : decode cX9_init 364 = .ok (.goto (-16), 3) := by decide +kernel
theorem dX9_init_367 : decode cX9_init 367 = .ok (.iconst 0, 1) := by decide +kernel
theorem dX9_init_368 : decode cX9_init 368 = .ok (.istore_n 1, 1) := by decide +kernel
theorem dX9_init_369 : decode cX9_init 369 = .ok (.iload_n 1, 1) := by decide +kernel
theorem dX9_init_370 : decode cX9_init 370 = .ok (.iconst 5, 1) := by decide +kernel
theorem dX9_init_371 : decode cX9_init 371 = .ok (.if_icmp .ge 16, 3) := by decide +kernel
theorem dX9_init_374 : decode cX9_init 374 = .ok (.aload_n 0, 1) := by decide +kernel
theorem dX9_init_375 : decode cX9_init 375 = .ok (.getfield 108, 3) := by decide +kernel
theorem dX9_init_378 : decode cX9_init 378 = .ok (.iload_n 1, 1) := by decide +kernel
theorem dX9_init_379 : decode cX9_init 379 = .ok (.iconst (-1), 1) := by decide +kernel
theorem dX9_init_380 : decode cX9_init 380 = .ok (.iastore, 1) := by decide +kernel
theorem dX9_init_381 : decode cX9_init 381 = .ok (.iinc 1 1, 3) := by decide +kernel
theorem dX9_init_384 : decode cX9_init 384 = .ok (.goto (-15), 3) := by decide +kernel
theorem dX9_init_387 : decode cX9_init 387 = .ok (.return_, 1) := by decide +kernel
theorem nmX9_init : mm_nm yX9_init 0 := ⟨by decide, by decide, by decide +kernel⟩
theorem cdX9_init : mm_cd cd_Y yX9_init cX9_init 2 none := ⟨tw_792, tw_8⟩
abbrev rmX9_init : Room := { frames := 1, cells := 36, slots := 55546, locals := 12 }
def fX9_init_369  : Nat → Nat → Int32 → mm_M → Option mm_M
  | 0 => fun _ _ _ => none
  | n + 1 => fun a0 x1 σ =>
  (if 5 ≤ x1 then some (σ) else mm_sh σ a0 (.inl 9) (mm_on (mm_R σ a0 41) fun q114 => mm_ar σ q114 0 fun n115 => mm_ib x1 n115 (mm_let (mm_wI σ q114 (x1.toNatClampNeg) (-1)) fun s117 => (fX9_init_369  n a0 (x1 + 1) s117))))
def fX9_init_348  : Nat → Nat → Int32 → mm_M → Option mm_M
  | 0 => fun _ _ _ => none
  | n + 1 => fun a0 x1 σ =>
  (if 9 ≤ x1 then (fX9_init_369  mm_fuel a0 0 σ) else mm_sh σ a0 (.inl 9) (mm_on (mm_R σ a0 27) fun q119 => mm_ar σ q119 0 fun n120 => mm_ib x1 n120 (mm_let (mm_wI σ q119 (x1.toNatClampNeg) (-1)) fun s122 => (fX9_init_348  n a0 (x1 + 1) s122))))
def fX9_init_321  : Nat → Nat → Int32 → mm_M → Option mm_M
  | 0 => fun _ _ _ => none
  | n + 1 => fun a0 x1 σ =>
  (if 2 ≤ x1 then (fX9_init_348  mm_fuel a0 0 σ) else mm_sh σ a0 (.inl 9) (mm_on (mm_R σ a0 9) fun q124 => mm_ar σ q124 0 fun n125 => mm_ib x1 n125 (mm_let (mm_wI σ q124 (x1.toNatClampNeg) (-1)) fun s127 => mm_on (mm_R s127 a0 10) fun q128 => mm_ar s127 q128 0 fun n129 => mm_ib x1 n129 (mm_let (mm_wI s127 q128 (x1.toNatClampNeg) (-1)) fun s131 => (fX9_init_321  n a0 (x1 + 1) s131)))))
def fX9_init_294  : Nat → Nat → Int32 → mm_M → Option mm_M
  | 0 => fun _ _ _ => none
  | n + 1 => fun a0 x1 σ =>
  (if 4 ≤ x1 then (fX9_init_321  mm_fuel a0 0 σ) else mm_sh σ a0 (.inl 9) (mm_on (mm_R σ a0 5) fun q133 => mm_ar σ q133 0 fun n134 => mm_ib x1 n134 (mm_let (mm_wI σ q133 (x1.toNatClampNeg) 1) fun s136 => mm_on (mm_R s136 a0 8) fun q137 => mm_ar s136 q137 0 fun n138 => mm_ib x1 n138 (mm_let (mm_wI s136 q137 (x1.toNatClampNeg) 2) fun s140 => (fX9_init_294  n a0 (x1 + 1) s140)))))
def fX9_init (p0 : Nat) (σ : mm_M) : Option mm_M :=
  mm_let (mm_new σ (.inr (0, 3840))) fun s1 => mm_sh s1 p0 (.inl 9) (mm_let (mm_wR s1 p0 1 (some σ.1)) fun s3 => mm_let (mm_new s3 (.inr (0, 3840))) fun s4 => mm_sh s4 p0 (.inl 9) (mm_let (mm_wR s4 p0 2 (some s3.1)) fun s6 => mm_let (mm_new s6 (.inr (0, 4))) fun s7 => mm_sh s7 p0 (.inl 9) (mm_let (mm_wR s7 p0 3 (some s6.1)) fun s9 => mm_let (mm_new s9 (.inr (0, 4))) fun s10 => mm_sh s10 p0 (.inl 9) (mm_let (mm_wR s10 p0 4 (some s9.1)) fun s12 => mm_let (mm_new s12 (.inr (0, 4))) fun s13 => mm_sh s13 p0 (.inl 9) (mm_let (mm_wR s13 p0 5 (some s12.1)) fun s15 => mm_let (mm_new s15 (.inr (0, 4))) fun s16 => mm_sh s16 p0 (.inl 9) (mm_let (mm_wR s16 p0 6 (some s15.1)) fun s18 => mm_let (mm_new s18 (.inr (0, 4))) fun s19 => mm_sh s19 p0 (.inl 9) (mm_let (mm_wR s19 p0 7 (some s18.1)) fun s21 => mm_let (mm_new s21 (.inr (0, 4))) fun s22 => mm_sh s22 p0 (.inl 9) (mm_let (mm_wR s22 p0 8 (some s21.1)) fun s24 => mm_let (mm_new s24 (.inr (0, 2))) fun s25 => mm_sh s25 p0 (.inl 9) (mm_let (mm_wR s25 p0 9 (some s24.1)) fun s27 => mm_let (mm_new s27 (.inr (0, 2))) fun s28 => mm_sh s28 p0 (.inl 9) (mm_let (mm_wR s28 p0 10 (some s27.1)) fun s30 => mm_let (mm_new s30 (.inr (2, 60))) fun s31 => mm_sh s31 p0 (.inl 9) (mm_let (mm_wR s31 p0 11 (some s30.1)) fun s33 => mm_let (mm_new s33 (.inr (0, 3))) fun s34 => mm_sh s34 p0 (.inl 9) (mm_let (mm_wR s34 p0 13 (some s33.1)) fun s36 => mm_let (mm_new s36 (.inr (0, 20))) fun s37 => mm_sh s37 p0 (.inl 9) (mm_let (mm_wR s37 p0 15 (some s36.1)) fun s39 => mm_let (mm_new s39 (.inr (1, 20))) fun s40 => mm_sh s40 p0 (.inl 9) (mm_let (mm_wR s40 p0 16 (some s39.1)) fun s42 => mm_let (mm_new s42 (.inr (0, 20))) fun s43 => mm_sh s43 p0 (.inl 9) (mm_let (mm_wR s43 p0 17 (some s42.1)) fun s45 => mm_let (mm_new s45 (.inr (0, 20))) fun s46 => mm_sh s46 p0 (.inl 9) (mm_let (mm_wR s46 p0 18 (some s45.1)) fun s48 => mm_let (mm_new s48 (.inr (0, 20))) fun s49 => mm_sh s49 p0 (.inl 9) (mm_let (mm_wR s49 p0 19 (some s48.1)) fun s51 => mm_let (mm_new s51 (.inr (0, 20))) fun s52 => mm_sh s52 p0 (.inl 9) (mm_let (mm_wR s52 p0 20 (some s51.1)) fun s54 => mm_let (mm_new s54 (.inr (0, 20))) fun s55 => mm_sh s55 p0 (.inl 9) (mm_let (mm_wR s55 p0 21 (some s54.1)) fun s57 => mm_let (mm_new s57 (.inr (0, 20))) fun s58 => mm_sh s58 p0 (.inl 9) (mm_let (mm_wR s58 p0 22 (some s57.1)) fun s60 => mm_let (mm_new s60 (.inr (2, 20000))) fun s61 => mm_sh s61 p0 (.inl 9) (mm_let (mm_wR s61 p0 23 (some s60.1)) fun s63 => mm_let (mm_new s63 (.inr (1, 500))) fun s64 => mm_sh s64 p0 (.inl 9) (mm_let (mm_wR s64 p0 24 (some s63.1)) fun s66 => mm_let (mm_new s66 (.inr (0, 360))) fun s67 => mm_sh s67 p0 (.inl 9) (mm_let (mm_wR s67 p0 25 (some s66.1)) fun s69 => mm_let (mm_new s69 (.inr (1, 120))) fun s70 => mm_sh s70 p0 (.inl 9) (mm_let (mm_wR s70 p0 26 (some s69.1)) fun s72 => mm_let (mm_new s72 (.inr (0, 9))) fun s73 => mm_sh s73 p0 (.inl 9) (mm_let (mm_wR s73 p0 27 (some s72.1)) fun s75 => mm_let (mm_new s75 (.inr (2, 1000))) fun s76 => mm_sh s76 p0 (.inl 9) (mm_let (mm_wR s76 p0 32 (some s75.1)) fun s78 => mm_let (mm_new s78 (.inr (1, 25))) fun s79 => mm_sh s79 p0 (.inl 9) (mm_let (mm_wR s79 p0 33 (some s78.1)) fun s81 => mm_let (mm_new s81 (.inr (0, 60))) fun s82 => mm_sh s82 p0 (.inl 9) (mm_let (mm_wR s82 p0 36 (some s81.1)) fun s84 => mm_let (mm_new s84 (.inr (0, 60))) fun s85 => mm_sh s85 p0 (.inl 9) (mm_let (mm_wR s85 p0 37 (some s84.1)) fun s87 => mm_let (mm_new s87 (.inr (0, 60))) fun s88 => mm_sh s88 p0 (.inl 9) (mm_let (mm_wR s88 p0 38 (some s87.1)) fun s90 => mm_let (mm_new s90 (.inr (0, 60))) fun s91 => mm_sh s91 p0 (.inl 9) (mm_let (mm_wR s91 p0 39 (some s90.1)) fun s93 => mm_let (mm_new s93 (.inr (2, 24000))) fun s94 => mm_sh s94 p0 (.inl 9) (mm_let (mm_wR s94 p0 40 (some s93.1)) fun s96 => mm_let (mm_new s96 (.inr (0, 5))) fun s97 => mm_sh s97 p0 (.inl 9) (mm_let (mm_wR s97 p0 41 (some s96.1)) fun s99 => mm_let (mm_new s99 (.inr (0, 128))) fun s100 => mm_sh s100 p0 (.inl 9) (mm_let (mm_wR s100 p0 42 (some s99.1)) fun s102 => mm_let (mm_new s102 (.inr (0, 128))) fun s103 => mm_sh s103 p0 (.inl 9) (mm_let (mm_wR s103 p0 43 (some s102.1)) fun s105 => mm_let (mm_new s105 (.inr (2, 1100))) fun s106 => mm_sh s106 p0 (.inl 9) (mm_let (mm_wR s106 p0 45 (some s105.1)) fun s108 => (fX9_init_294  mm_fuel p0 0 s108)))))))))))))))))))))))))))))))))))))
set_option maxHeartbeats 4000000 in
set_option maxRecDepth 100000 in
theorem kX9_init_369 {G : mm_G} {A : Nat → Prop}  {R : mm_M}  : ∀ (a0 : Nat) (x1 : Int32) (σ : mm_M), fX9_init_369  mm_fuel a0 x1 σ = some R → mm_J cd_Y G RX9 cX9_init 2 none (true, none) rmX9_init A (mm_QF cd_Y G A (mm_Pv R) rmX9_init.cells rmX9_init.slots) 369 [(0, .ref a0), (1, .int x1)] [] σ 36 55546 := by
  generalize mm_fuel = n
  induction n with
  | zero => intro a0 x1 σ hf; cases hf
  | succ n ih =>
    intro a0 x1 σ hf
    unfold fX9_init_369 at hf
    refine mm_iload_n (j := 1) dX9_init_369 rfl rfl ?_
    refine mm_iconst (v := 5) dX9_init_370 (by decide) ?_
    refine mm_icmp_ge (tgt := 387) dX9_init_371 (by decide) (fun c112 => ?_) (fun c112 => ?_)
    · rw [if_pos c112] at hf
      cases hf
      refine mm_widen (ck' := rmX9_init.cells) (sk' := rmX9_init.slots) (Nat.le_of_ble_eq_true rfl) (Nat.le_of_ble_eq_true rfl) ?_
      exact mm_vret rfl dX9_init_387 ⟨rfl, rfl⟩
    · rw [if_neg c112] at hf
      refine mm_aload_n (j := 0) dX9_init_374 rfl rfl ?_
      obtain ⟨hs113, hf⟩ := mm_sh_s hf
      refine mm_get (c := 9) (k := 41) (v := va_rf (mm_R σ a0 41)) cd_ok ⟨_, _, _, rfl, by decide, Or.inl tw_835⟩ hs113 rfl dX9_init_375 ?_
      refine mm_iload_n (j := 1) dX9_init_378 rfl rfl ?_
      refine mm_iconst (v := (-1)) dX9_init_379 (by decide) ?_
      obtain ⟨q114, hq114, hf⟩ := mm_on_s hf
      rw [hq114, mm_rf_some]
      obtain ⟨n115, hn115, hf⟩ := mm_ar_s hf
      obtain ⟨hi116, hf⟩ := mm_ib_s hf
      refine mm_iast hn115 rfl hi116 dX9_init_380 ?_
      obtain ⟨s117, hs117, hf⟩ := mm_let_s hf
      rw [hs117]
      refine mm_iinc (j := 1) (L' := [(1, .int (x1 + 1)), (0, .ref a0)]) dX9_init_381 rfl rfl (by decide) rfl ?_
      refine mm_goto (tgt := 369) dX9_init_384 (by decide) ?_
      refine mm_sub [1, 0] rfl ?_
      refine mm_widen (ck' := 36) (sk' := 55546) (Nat.le_of_ble_eq_true rfl) (Nat.le_of_ble_eq_true rfl) ?_
      exact ih a0 (x1 + 1) s117 hf
set_option maxHeartbeats 4000000 in
set_option maxRecDepth 100000 in
theorem kX9_init_348 {G : mm_G} {A : Nat → Prop}  {R : mm_M}  : ∀ (a0 : Nat) (x1 : Int32) (σ : mm_M), fX9_init_348  mm_fuel a0 x1 σ = some R → mm_J cd_Y G RX9 cX9_init 2 none (true, none) rmX9_init A (mm_QF cd_Y G A (mm_Pv R) rmX9_init.cells rmX9_init.slots) 348 [(0, .ref a0), (1, .int x1)] [] σ 36 55546 := by
  generalize mm_fuel = n
  induction n with
  | zero => intro a0 x1 σ hf; cases hf
  | succ n ih =>
    intro a0 x1 σ hf
    unfold fX9_init_348 at hf
    refine mm_iload_n (j := 1) dX9_init_348 rfl rfl ?_
    refine mm_bipush (v := 9) dX9_init_349 (by decide) ?_
    refine mm_icmp_ge (tgt := 367) dX9_init_351 (by decide) (fun c111 => ?_) (fun c111 => ?_)
    · rw [if_pos c111] at hf
      refine mm_iconst (v := 0) dX9_init_367 (by decide) ?_
      refine mm_istore_n (L' := [(1, .int 0), (0, .ref a0)]) dX9_init_368 rfl (by decide) rfl ?_
      refine mm_sub [1, 0] rfl ?_
      refine mm_widen (ck' := 36) (sk' := 55546) (Nat.le_of_ble_eq_true rfl) (Nat.le_of_ble_eq_true rfl) ?_
      exact kX9_init_369  a0 0 σ hf
    · rw [if_neg c111] at hf
      refine mm_aload_n (j := 0) dX9_init_354 rfl rfl ?_
      obtain ⟨hs118, hf⟩ := mm_sh_s hf
      refine mm_get (c := 9) (k := 27) (v := va_rf (mm_R σ a0 27)) cd_ok ⟨_, _, _, rfl, by decide, Or.inl tw_821⟩ hs118 rfl dX9_init_355 ?_
      refine mm_iload_n (j := 1) dX9_init_358 rfl rfl ?_
      refine mm_iconst (v := (-1)) dX9_init_359 (by decide) ?_
      obtain ⟨q119, hq119, hf⟩ := mm_on_s hf
      rw [hq119, mm_rf_some]
      obtain ⟨n120, hn120, hf⟩ := mm_ar_s hf
      obtain ⟨hi121, hf⟩ := mm_ib_s hf
      refine mm_iast hn120 rfl hi121 dX9_init_360 ?_
      obtain ⟨s122, hs122, hf⟩ := mm_let_s hf
      rw [hs122]
      refine mm_iinc (j := 1) (L' := [(1, .int (x1 + 1)), (0, .ref a0)]) dX9_init_361 rfl rfl (by decide) rfl ?_
      refine mm_goto (tgt := 348) dX9_init_364 (by decide) ?_
      refine mm_sub [1, 0] rfl ?_
      refine mm_widen (ck' := 36) (sk' := 55546) (Nat.le_of_ble_eq_true rfl) (Nat.le_of_ble_eq_true rfl) ?_
      exact ih a0 (x1 + 1) s122 hf
set_option maxHeartbeats 4000000 in
set_option maxRecDepth 100000 in
theorem kX9_init_321 {G : mm_G} {A : Nat → Prop}  {R : mm_M}  : ∀ (a0 : Nat) (x1 : Int32) (σ : mm_M), fX9_init_321  mm_fuel a0 x1 σ = some R → mm_J cd_Y G RX9 cX9_init 2 none (true, none) rmX9_init A (mm_QF cd_Y G A (mm_Pv R) rmX9_init.cells rmX9_init.slots) 321 [(0, .ref a0), (1, .int x1)] [] σ 36 55546 := by
  generalize mm_fuel = n
  induction n with
  | zero => intro a0 x1 σ hf; cases hf
  | succ n ih =>
    intro a0 x1 σ hf
    unfold fX9_init_321 at hf
    refine mm_iload_n (j := 1) dX9_init_321 rfl rfl ?_
    refine mm_iconst (v := 2) dX9_init_322 (by decide) ?_
    refine mm_icmp_ge (tgt := 346) dX9_init_323 (by decide) (fun c110 => ?_) (fun c110 => ?_)
    · rw [if_pos c110] at hf
      refine mm_iconst (v := 0) dX9_init_346 (by decide) ?_
      refine mm_istore_n (L' := [(1, .int 0), (0, .ref a0)]) dX9_init_347 rfl (by decide) rfl ?_
      refine mm_sub [1, 0] rfl ?_
      refine mm_widen (ck' := 36) (sk' := 55546) (Nat.le_of_ble_eq_true rfl) (Nat.le_of_ble_eq_true rfl) ?_
      exact kX9_init_348  a0 0 σ hf
    · rw [if_neg c110] at hf
      refine mm_aload_n (j := 0) dX9_init_326 rfl rfl ?_
      obtain ⟨hs123, hf⟩ := mm_sh_s hf
      refine mm_get (c := 9) (k := 9) (v := va_rf (mm_R σ a0 9)) cd_ok ⟨_, _, _, rfl, by decide, Or.inl tw_803⟩ hs123 rfl dX9_init_327 ?_
      refine mm_iload_n (j := 1) dX9_init_330 rfl rfl ?_
      refine mm_iconst (v := (-1)) dX9_init_331 (by decide) ?_
      obtain ⟨q124, hq124, hf⟩ := mm_on_s hf
      rw [hq124, mm_rf_some]
      obtain ⟨n125, hn125, hf⟩ := mm_ar_s hf
      obtain ⟨hi126, hf⟩ := mm_ib_s hf
      refine mm_iast hn125 rfl hi126 dX9_init_332 ?_
      obtain ⟨s127, hs127, hf⟩ := mm_let_s hf
      rw [hs127]
      refine mm_aload_n (j := 0) dX9_init_333 rfl rfl ?_
      refine mm_get (c := 9) (k := 10) (v := va_rf (mm_R s127 a0 10)) cd_ok ⟨_, _, _, rfl, by decide, Or.inl tw_804⟩ (mm_ke hs127 hs123) rfl dX9_init_334 ?_
      refine mm_iload_n (j := 1) dX9_init_337 rfl rfl ?_
      refine mm_iconst (v := (-1)) dX9_init_338 (by decide) ?_
      obtain ⟨q128, hq128, hf⟩ := mm_on_s hf
      rw [hq128, mm_rf_some]
      obtain ⟨n129, hn129, hf⟩ := mm_ar_s hf
      obtain ⟨hi130, hf⟩ := mm_ib_s hf
      refine mm_iast hn129 rfl hi130 dX9_init_339 ?_
      obtain ⟨s131, hs131, hf⟩ := mm_let_s hf
      rw [hs131]
      refine mm_iinc (j := 1) (L' := [(1, .int (x1 + 1)), (0, .ref a0)]) dX9_init_340 rfl rfl (by decide) rfl ?_
      refine mm_goto (tgt := 321) dX9_init_343 (by decide) ?_
      refine mm_sub [1, 0] rfl ?_
      refine mm_widen (ck' := 36) (sk' := 55546) (Nat.le_of_ble_eq_true rfl) (Nat.le_of_ble_eq_true rfl) ?_
      exact ih a0 (x1 + 1) s131 hf
set_option maxHeartbeats 4000000 in
set_option maxRecDepth 100000 in
theorem kX9_init_294 {G : mm_G} {A : Nat → Prop}  {R : mm_M}  : ∀ (a0 : Nat) (x1 : Int32) (σ : mm_M), fX9_init_294  mm_fuel a0 x1 σ = some R → mm_J cd_Y G RX9 cX9_init 2 none (true, none) rmX9_init A (mm_QF cd_Y G A (mm_Pv R) rmX9_init.cells rmX9_init.slots) 294 [(0, .ref a0), (1, .int x1)] [] σ 36 55546 := by
  generalize mm_fuel = n
  induction n with
  | zero => intro a0 x1 σ hf; cases hf
  | succ n ih =>
    intro a0 x1 σ hf
    unfold fX9_init_294 at hf
    refine mm_iload_n (j := 1) dX9_init_294 rfl rfl ?_
    refine mm_iconst (v := 4) dX9_init_295 (by decide) ?_
    refine mm_icmp_ge (tgt := 319) dX9_init_296 (by decide) (fun c109 => ?_) (fun c109 => ?_)
    · rw [if_pos c109] at hf
      refine mm_iconst (v := 0) dX9_init_319 (by decide) ?_
      refine mm_istore_n (L' := [(1, .int 0), (0, .ref a0)]) dX9_init_320 rfl (by decide) rfl ?_
      refine mm_sub [1, 0] rfl ?_
      refine mm_widen (ck' := 36) (sk' := 55546) (Nat.le_of_ble_eq_true rfl) (Nat.le_of_ble_eq_true rfl) ?_
      exact kX9_init_321  a0 0 σ hf
    · rw [if_neg c109] at hf
      refine mm_aload_n (j := 0) dX9_init_299 rfl rfl ?_
      obtain ⟨hs132, hf⟩ := mm_sh_s hf
      refine mm_get (c := 9) (k := 5) (v := va_rf (mm_R σ a0 5)) cd_ok ⟨_, _, _, rfl, by decide, Or.inl tw_799⟩ hs132 rfl dX9_init_300 ?_
      refine mm_iload_n (j := 1) dX9_init_303 rfl rfl ?_
      refine mm_iconst (v := 1) dX9_init_304 (by decide) ?_
      obtain ⟨q133, hq133, hf⟩ := mm_on_s hf
      rw [hq133, mm_rf_some]
      obtain ⟨n134, hn134, hf⟩ := mm_ar_s hf
      obtain ⟨hi135, hf⟩ := mm_ib_s hf
      refine mm_iast hn134 rfl hi135 dX9_init_305 ?_
      obtain ⟨s136, hs136, hf⟩ := mm_let_s hf
      rw [hs136]
      refine mm_aload_n (j := 0) dX9_init_306 rfl rfl ?_
      refine mm_get (c := 9) (k := 8) (v := va_rf (mm_R s136 a0 8)) cd_ok ⟨_, _, _, rfl, by decide, Or.inl tw_802⟩ (mm_ke hs136 hs132) rfl dX9_init_307 ?_
      refine mm_iload_n (j := 1) dX9_init_310 rfl rfl ?_
      refine mm_iconst (v := 2) dX9_init_311 (by decide) ?_
      obtain ⟨q137, hq137, hf⟩ := mm_on_s hf
      rw [hq137, mm_rf_some]
      obtain ⟨n138, hn138, hf⟩ := mm_ar_s hf
      obtain ⟨hi139, hf⟩ := mm_ib_s hf
      refine mm_iast hn138 rfl hi139 dX9_init_312 ?_
      obtain ⟨s140, hs140, hf⟩ := mm_let_s hf
      rw [hs140]
      refine mm_iinc (j := 1) (L' := [(1, .int (x1 + 1)), (0, .ref a0)]) dX9_init_313 rfl rfl (by decide) rfl ?_
      refine mm_goto (tgt := 294) dX9_init_316 (by decide) ?_
      refine mm_sub [1, 0] rfl ?_
      refine mm_widen (ck' := 36) (sk' := 55546) (Nat.le_of_ble_eq_true rfl) (Nat.le_of_ble_eq_true rfl) ?_
      exact ih a0 (x1 + 1) s140 hf
set_option maxHeartbeats 4000000 in
set_option maxRecDepth 100000 in
theorem kX9_init {G : mm_G} {A : Nat → Prop} (p0 : Nat) {σ : mm_M} {R : mm_M} (hf : fX9_init p0 σ = some R) : mm_C cd_Y G yX9_init cX9_init 2 none rmX9_init A [.ref p0] σ (mm_Pv R) := by
  refine mm_C.of (by decide) (Nat.le_of_ble_eq_true rfl) ?_
  unfold fX9_init at hf
  have e0 : lv_args 0 [.ref p0] = [(0, .ref p0)] := rfl
  rw [e0]
  have hini : (yX9_init.name == "<init>") = true := by decide
  rw [hini]
  clear e0 hini
  refine mm_aload_n (j := 0) dX9_init_0 rfl rfl ?_
  refine mm_objInit tw_793 tw_26 tw_27 dX9_init_1 (by decide) (by simp only [List.map_cons, List.map_nil, mm_rf_cat]; exact Nat.le_of_ble_eq_true rfl) ?_
  refine mm_aload_n (j := 0) dX9_init_4 rfl rfl ?_
  refine mm_sipush (v := 3840) dX9_init_5 (by decide) ?_
  refine mm_newa (atype := .int) (t := 0) (N' := 3840) rfl rfl tw_46 (by decide) (by decide) (by decide) (Nat.le_of_ble_eq_true rfl) (Nat.le_of_ble_eq_true rfl) dX9_init_8 ?_
  obtain ⟨s1, hs1, hf⟩ := mm_let_s hf
  rw [hs1]
  obtain ⟨hs2, hf⟩ := mm_sh_s hf
  refine mm_putFR (c := 9) (k := 1) cd_ok (some σ.1) rfl ⟨_, _, _, rfl, by decide, rfl, rfl, tw_795⟩ hs2 rfl dX9_init_10 ?_
  obtain ⟨s3, hs3, hf⟩ := mm_let_s hf
  rw [hs3]
  refine mm_aload_n (j := 0) dX9_init_13 rfl rfl ?_
  refine mm_sipush (v := 3840) dX9_init_14 (by decide) ?_
  refine mm_newa (atype := .int) (t := 0) (N' := 3840) rfl rfl tw_46 (by decide) (by decide) (by decide) (Nat.le_of_ble_eq_true rfl) (Nat.le_of_ble_eq_true rfl) dX9_init_17 ?_
  obtain ⟨s4, hs4, hf⟩ := mm_let_s hf
  rw [hs4]
  obtain ⟨hs5, hf⟩ := mm_sh_s hf
  refine mm_putFR (c := 9) (k := 2) cd_ok (some s3.1) rfl ⟨_, _, _, rfl, by decide, rfl, rfl, tw_796⟩ hs5 rfl dX9_init_19 ?_
  obtain ⟨s6, hs6, hf⟩ := mm_let_s hf
  rw [hs6]
  refine mm_aload_n (j := 0) dX9_init_22 rfl rfl ?_
  refine mm_iconst (v := 4) dX9_init_23 (by decide) ?_
  refine mm_newa (atype := .int) (t := 0) (N' := 4) rfl rfl tw_46 (by decide) (by decide) (by decide) (Nat.le_of_ble_eq_true rfl) (Nat.le_of_ble_eq_true rfl) dX9_init_24 ?_
  obtain ⟨s7, hs7, hf⟩ := mm_let_s hf
  rw [hs7]
  obtain ⟨hs8, hf⟩ := mm_sh_s hf
  refine mm_putFR (c := 9) (k := 3) cd_ok (some s6.1) rfl ⟨_, _, _, rfl, by decide, rfl, rfl, tw_797⟩ hs8 rfl dX9_init_26 ?_
  obtain ⟨s9, hs9, hf⟩ := mm_let_s hf
  rw [hs9]
  refine mm_aload_n (j := 0) dX9_init_29 rfl rfl ?_
  refine mm_iconst (v := 4) dX9_init_30 (by decide) ?_
  refine mm_newa (atype := .int) (t := 0) (N' := 4) rfl rfl tw_46 (by decide) (by decide) (by decide) (Nat.le_of_ble_eq_true rfl) (Nat.le_of_ble_eq_true rfl) dX9_init_31 ?_
  obtain ⟨s10, hs10, hf⟩ := mm_let_s hf
  rw [hs10]
  obtain ⟨hs11, hf⟩ := mm_sh_s hf
  refine mm_putFR (c := 9) (k := 4) cd_ok (some s9.1) rfl ⟨_, _, _, rfl, by decide, rfl, rfl, tw_798⟩ hs11 rfl dX9_init_33 ?_
  obtain ⟨s12, hs12, hf⟩ := mm_let_s hf
  rw [hs12]
  refine mm_aload_n (j := 0) dX9_init_36 rfl rfl ?_
  refine mm_iconst (v := 4) dX9_init_37 (by decide) ?_
  refine mm_newa (atype := .int) (t := 0) (N' := 4) rfl rfl tw_46 (by decide) (by decide) (by decide) (Nat.le_of_ble_eq_true rfl) (Nat.le_of_ble_eq_true rfl) dX9_init_38 ?_
  obtain ⟨s13, hs13, hf⟩ := mm_let_s hf
  rw [hs13]
  obtain ⟨hs14, hf⟩ := mm_sh_s hf
  refine mm_putFR (c := 9) (k := 5) cd_ok (some s12.1) rfl ⟨_, _, _, rfl, by decide, rfl, rfl, tw_799⟩ hs14 rfl dX9_init_40 ?_
  obtain ⟨s15, hs15, hf⟩ := mm_let_s hf
  rw [hs15]
  refine mm_aload_n (j := 0) dX9_init_43 rfl rfl ?_
  refine mm_iconst (v := 4) dX9_init_44 (by decide) ?_
  refine mm_newa (atype := .int) (t := 0) (N' := 4) rfl rfl tw_46 (by decide) (by decide) (by decide) (Nat.le_of_ble_eq_true rfl) (Nat.le_of_ble_eq_true rfl) dX9_init_45 ?_
  obtain ⟨s16, hs16, hf⟩ := mm_let_s hf
  rw [hs16]
  obtain ⟨hs17, hf⟩ := mm_sh_s hf
  refine mm_putFR (c := 9) (k := 6) cd_ok (some s15.1) rfl ⟨_, _, _, rfl, by decide, rfl, rfl, tw_800⟩ hs17 rfl dX9_init_47 ?_
  obtain ⟨s18, hs18, hf⟩ := mm_let_s hf
  rw [hs18]
  refine mm_aload_n (j := 0) dX9_init_50 rfl rfl ?_
  refine mm_iconst (v := 4) dX9_init_51 (by decide) ?_
  refine mm_newa (atype := .int) (t := 0) (N' := 4) rfl rfl tw_46 (by decide) (by decide) (by decide) (Nat.le_of_ble_eq_true rfl) (Nat.le_of_ble_eq_true rfl) dX9_init_52 ?_
  obtain ⟨s19, hs19, hf⟩ := mm_let_s hf
  rw [hs19]
  obtain ⟨hs20, hf⟩ := mm_sh_s hf
  refine mm_putFR (c := 9) (k := 7) cd_ok (some s18.1) rfl ⟨_, _, _, rfl, by decide, rfl, rfl, tw_801⟩ hs20 rfl dX9_init_54 ?_
  obtain ⟨s21, hs21, hf⟩ := mm_let_s hf
  rw [hs21]
  refine mm_aload_n (j := 0) dX9_init_57 rfl rfl ?_
  refine mm_iconst (v := 4) dX9_init_58 (by decide) ?_
  refine mm_newa (atype := .int) (t := 0) (N' := 4) rfl rfl tw_46 (by decide) (by decide) (by decide) (Nat.le_of_ble_eq_true rfl) (Nat.le_of_ble_eq_true rfl) dX9_init_59 ?_
  obtain ⟨s22, hs22, hf⟩ := mm_let_s hf
  rw [hs22]
  obtain ⟨hs23, hf⟩ := mm_sh_s hf
  refine mm_putFR (c := 9) (k := 8) cd_ok (some s21.1) rfl ⟨_, _, _, rfl, by decide, rfl, rfl, tw_802⟩ hs23 rfl dX9_init_61 ?_
  obtain ⟨s24, hs24, hf⟩ := mm_let_s hf
  rw [hs24]
  refine mm_aload_n (j := 0) dX9_init_64 rfl rfl ?_
  refine mm_iconst (v := 2) dX9_init_65 (by decide) ?_
  refine mm_newa (atype := .int) (t := 0) (N' := 2) rfl rfl tw_46 (by decide) (by decide) (by decide) (Nat.le_of_ble_eq_true rfl) (Nat.le_of_ble_eq_true rfl) dX9_init_66 ?_
  obtain ⟨s25, hs25, hf⟩ := mm_let_s hf
  rw [hs25]
  obtain ⟨hs26, hf⟩ := mm_sh_s hf
  refine mm_putFR (c := 9) (k := 9) cd_ok (some s24.1) rfl ⟨_, _, _, rfl, by decide, rfl, rfl, tw_803⟩ hs26 rfl dX9_init_68 ?_
  obtain ⟨s27, hs27, hf⟩ := mm_let_s hf
  rw [hs27]
  refine mm_aload_n (j := 0) dX9_init_71 rfl rfl ?_
  refine mm_iconst (v := 2) dX9_init_72 (by decide) ?_
  refine mm_newa (atype := .int) (t := 0) (N' := 2) rfl rfl tw_46 (by decide) (by decide) (by decide) (Nat.le_of_ble_eq_true rfl) (Nat.le_of_ble_eq_true rfl) dX9_init_73 ?_
  obtain ⟨s28, hs28, hf⟩ := mm_let_s hf
  rw [hs28]
  obtain ⟨hs29, hf⟩ := mm_sh_s hf
  refine mm_putFR (c := 9) (k := 10) cd_ok (some s27.1) rfl ⟨_, _, _, rfl, by decide, rfl, rfl, tw_804⟩ hs29 rfl dX9_init_75 ?_
  obtain ⟨s30, hs30, hf⟩ := mm_let_s hf
  rw [hs30]
  refine mm_aload_n (j := 0) dX9_init_78 rfl rfl ?_
  refine mm_bipush (v := 60) dX9_init_79 (by decide) ?_
  refine mm_newa (atype := .byte) (t := 2) (N' := 60) rfl rfl tw_307 (by decide) (by decide) (by decide) (Nat.le_of_ble_eq_true rfl) (Nat.le_of_ble_eq_true rfl) dX9_init_81 ?_
  obtain ⟨s31, hs31, hf⟩ := mm_let_s hf
  rw [hs31]
  obtain ⟨hs32, hf⟩ := mm_sh_s hf
  refine mm_putFR (c := 9) (k := 11) cd_ok (some s30.1) rfl ⟨_, _, _, rfl, by decide, rfl, rfl, tw_805⟩ hs32 rfl dX9_init_83 ?_
  obtain ⟨s33, hs33, hf⟩ := mm_let_s hf
  rw [hs33]
  refine mm_aload_n (j := 0) dX9_init_86 rfl rfl ?_
  refine mm_iconst (v := 3) dX9_init_87 (by decide) ?_
  refine mm_newa (atype := .int) (t := 0) (N' := 3) rfl rfl tw_46 (by decide) (by decide) (by decide) (Nat.le_of_ble_eq_true rfl) (Nat.le_of_ble_eq_true rfl) dX9_init_88 ?_
  obtain ⟨s34, hs34, hf⟩ := mm_let_s hf
  rw [hs34]
  obtain ⟨hs35, hf⟩ := mm_sh_s hf
  refine mm_putFR (c := 9) (k := 13) cd_ok (some s33.1) rfl ⟨_, _, _, rfl, by decide, rfl, rfl, tw_807⟩ hs35 rfl dX9_init_90 ?_
  obtain ⟨s36, hs36, hf⟩ := mm_let_s hf
  rw [hs36]
  refine mm_aload_n (j := 0) dX9_init_93 rfl rfl ?_
  refine mm_bipush (v := 20) dX9_init_94 (by decide) ?_
  refine mm_newa (atype := .int) (t := 0) (N' := 20) rfl rfl tw_46 (by decide) (by decide) (by decide) (Nat.le_of_ble_eq_true rfl) (Nat.le_of_ble_eq_true rfl) dX9_init_96 ?_
  obtain ⟨s37, hs37, hf⟩ := mm_let_s hf
  rw [hs37]
  obtain ⟨hs38, hf⟩ := mm_sh_s hf
  refine mm_putFR (c := 9) (k := 15) cd_ok (some s36.1) rfl ⟨_, _, _, rfl, by decide, rfl, rfl, tw_809⟩ hs38 rfl dX9_init_98 ?_
  obtain ⟨s39, hs39, hf⟩ := mm_let_s hf
  rw [hs39]
  refine mm_aload_n (j := 0) dX9_init_101 rfl rfl ?_
  refine mm_bipush (v := 20) dX9_init_102 (by decide) ?_
  refine mm_newa (atype := .boolean) (t := 1) (N' := 20) rfl rfl tw_66 (by decide) (by decide) (by decide) (Nat.le_of_ble_eq_true rfl) (Nat.le_of_ble_eq_true rfl) dX9_init_104 ?_
  obtain ⟨s40, hs40, hf⟩ := mm_let_s hf
  rw [hs40]
  obtain ⟨hs41, hf⟩ := mm_sh_s hf
  refine mm_putFR (c := 9) (k := 16) cd_ok (some s39.1) rfl ⟨_, _, _, rfl, by decide, rfl, rfl, tw_810⟩ hs41 rfl dX9_init_106 ?_
  obtain ⟨s42, hs42, hf⟩ := mm_let_s hf
  rw [hs42]
  refine mm_aload_n (j := 0) dX9_init_109 rfl rfl ?_
  refine mm_bipush (v := 20) dX9_init_110 (by decide) ?_
  refine mm_newa (atype := .int) (t := 0) (N' := 20) rfl rfl tw_46 (by decide) (by decide) (by decide) (Nat.le_of_ble_eq_true rfl) (Nat.le_of_ble_eq_true rfl) dX9_init_112 ?_
  obtain ⟨s43, hs43, hf⟩ := mm_let_s hf
  rw [hs43]
  obtain ⟨hs44, hf⟩ := mm_sh_s hf
  refine mm_putFR (c := 9) (k := 17) cd_ok (some s42.1) rfl ⟨_, _, _, rfl, by decide, rfl, rfl, tw_811⟩ hs44 rfl dX9_init_114 ?_
  obtain ⟨s45, hs45, hf⟩ := mm_let_s hf
  rw [hs45]
  refine mm_aload_n (j := 0) dX9_init_117 rfl rfl ?_
  refine mm_bipush (v := 20) dX9_init_118 (by decide) ?_
  refine mm_newa (atype := .int) (t := 0) (N' := 20) rfl rfl tw_46 (by decide) (by decide) (by decide) (Nat.le_of_ble_eq_true rfl) (Nat.le_of_ble_eq_true rfl) dX9_init_120 ?_
  obtain ⟨s46, hs46, hf⟩ := mm_let_s hf
  rw [hs46]
  obtain ⟨hs47, hf⟩ := mm_sh_s hf
  refine mm_putFR (c := 9) (k := 18) cd_ok (some s45.1) rfl ⟨_, _, _, rfl, by decide, rfl, rfl, tw_812⟩ hs47 rfl dX9_init_122 ?_
  obtain ⟨s48, hs48, hf⟩ := mm_let_s hf
  rw [hs48]
  refine mm_aload_n (j := 0) dX9_init_125 rfl rfl ?_
  refine mm_bipush (v := 20) dX9_init_126 (by decide) ?_
  refine mm_newa (atype := .int) (t := 0) (N' := 20) rfl rfl tw_46 (by decide) (by decide) (by decide) (Nat.le_of_ble_eq_true rfl) (Nat.le_of_ble_eq_true rfl) dX9_init_128 ?_
  obtain ⟨s49, hs49, hf⟩ := mm_let_s hf
  rw [hs49]
  obtain ⟨hs50, hf⟩ := mm_sh_s hf
  refine mm_putFR (c := 9) (k := 19) cd_ok (some s48.1) rfl ⟨_, _, _, rfl, by decide, rfl, rfl, tw_813⟩ hs50 rfl dX9_init_130 ?_
  obtain ⟨s51, hs51, hf⟩ := mm_let_s hf
  rw [hs51]
  refine mm_aload_n (j := 0) dX9_init_133 rfl rfl ?_
  refine mm_bipush (v := 20) dX9_init_134 (by decide) ?_
  refine mm_newa (atype := .int) (t := 0) (N' := 20) rfl rfl tw_46 (by decide) (by decide) (by decide) (Nat.le_of_ble_eq_true rfl) (Nat.le_of_ble_eq_true rfl) dX9_init_136 ?_
  obtain ⟨s52, hs52, hf⟩ := mm_let_s hf
  rw [hs52]
  obtain ⟨hs53, hf⟩ := mm_sh_s hf
  refine mm_putFR (c := 9) (k := 20) cd_ok (some s51.1) rfl ⟨_, _, _, rfl, by decide, rfl, rfl, tw_814⟩ hs53 rfl dX9_init_138 ?_
  obtain ⟨s54, hs54, hf⟩ := mm_let_s hf
  rw [hs54]
  refine mm_aload_n (j := 0) dX9_init_141 rfl rfl ?_
  refine mm_bipush (v := 20) dX9_init_142 (by decide) ?_
  refine mm_newa (atype := .int) (t := 0) (N' := 20) rfl rfl tw_46 (by decide) (by decide) (by decide) (Nat.le_of_ble_eq_true rfl) (Nat.le_of_ble_eq_true rfl) dX9_init_144 ?_
  obtain ⟨s55, hs55, hf⟩ := mm_let_s hf
  rw [hs55]
  obtain ⟨hs56, hf⟩ := mm_sh_s hf
  refine mm_putFR (c := 9) (k := 21) cd_ok (some s54.1) rfl ⟨_, _, _, rfl, by decide, rfl, rfl, tw_815⟩ hs56 rfl dX9_init_146 ?_
  obtain ⟨s57, hs57, hf⟩ := mm_let_s hf
  rw [hs57]
  refine mm_aload_n (j := 0) dX9_init_149 rfl rfl ?_
  refine mm_bipush (v := 20) dX9_init_150 (by decide) ?_
  refine mm_newa (atype := .int) (t := 0) (N' := 20) rfl rfl tw_46 (by decide) (by decide) (by decide) (Nat.le_of_ble_eq_true rfl) (Nat.le_of_ble_eq_true rfl) dX9_init_152 ?_
  obtain ⟨s58, hs58, hf⟩ := mm_let_s hf
  rw [hs58]
  obtain ⟨hs59, hf⟩ := mm_sh_s hf
  refine mm_putFR (c := 9) (k := 22) cd_ok (some s57.1) rfl ⟨_, _, _, rfl, by decide, rfl, rfl, tw_816⟩ hs59 rfl dX9_init_154 ?_
  obtain ⟨s60, hs60, hf⟩ := mm_let_s hf
  rw [hs60]
  refine mm_aload_n (j := 0) dX9_init_157 rfl rfl ?_
  refine mm_sipush (v := 20000) dX9_init_158 (by decide) ?_
  refine mm_newa (atype := .byte) (t := 2) (N' := 20000) rfl rfl tw_307 (by decide) (by decide) (by decide) (Nat.le_of_ble_eq_true rfl) (Nat.le_of_ble_eq_true rfl) dX9_init_161 ?_
  obtain ⟨s61, hs61, hf⟩ := mm_let_s hf
  rw [hs61]
  obtain ⟨hs62, hf⟩ := mm_sh_s hf
  refine mm_putFR (c := 9) (k := 23) cd_ok (some s60.1) rfl ⟨_, _, _, rfl, by decide, rfl, rfl, tw_817⟩ hs62 rfl dX9_init_163 ?_
  obtain ⟨s63, hs63, hf⟩ := mm_let_s hf
  rw [hs63]
  refine mm_aload_n (j := 0) dX9_init_166 rfl rfl ?_
  refine mm_sipush (v := 500) dX9_init_167 (by decide) ?_
  refine mm_newa (atype := .boolean) (t := 1) (N' := 500) rfl rfl tw_66 (by decide) (by decide) (by decide) (Nat.le_of_ble_eq_true rfl) (Nat.le_of_ble_eq_true rfl) dX9_init_170 ?_
  obtain ⟨s64, hs64, hf⟩ := mm_let_s hf
  rw [hs64]
  obtain ⟨hs65, hf⟩ := mm_sh_s hf
  refine mm_putFR (c := 9) (k := 24) cd_ok (some s63.1) rfl ⟨_, _, _, rfl, by decide, rfl, rfl, tw_818⟩ hs65 rfl dX9_init_172 ?_
  obtain ⟨s66, hs66, hf⟩ := mm_let_s hf
  rw [hs66]
  refine mm_aload_n (j := 0) dX9_init_175 rfl rfl ?_
  refine mm_sipush (v := 360) dX9_init_176 (by decide) ?_
  refine mm_newa (atype := .int) (t := 0) (N' := 360) rfl rfl tw_46 (by decide) (by decide) (by decide) (Nat.le_of_ble_eq_true rfl) (Nat.le_of_ble_eq_true rfl) dX9_init_179 ?_
  obtain ⟨s67, hs67, hf⟩ := mm_let_s hf
  rw [hs67]
  obtain ⟨hs68, hf⟩ := mm_sh_s hf
  refine mm_putFR (c := 9) (k := 25) cd_ok (some s66.1) rfl ⟨_, _, _, rfl, by decide, rfl, rfl, tw_819⟩ hs68 rfl dX9_init_181 ?_
  obtain ⟨s69, hs69, hf⟩ := mm_let_s hf
  rw [hs69]
  refine mm_aload_n (j := 0) dX9_init_184 rfl rfl ?_
  refine mm_bipush (v := 120) dX9_init_185 (by decide) ?_
  refine mm_newa (atype := .boolean) (t := 1) (N' := 120) rfl rfl tw_66 (by decide) (by decide) (by decide) (Nat.le_of_ble_eq_true rfl) (Nat.le_of_ble_eq_true rfl) dX9_init_187 ?_
  obtain ⟨s70, hs70, hf⟩ := mm_let_s hf
  rw [hs70]
  obtain ⟨hs71, hf⟩ := mm_sh_s hf
  refine mm_putFR (c := 9) (k := 26) cd_ok (some s69.1) rfl ⟨_, _, _, rfl, by decide, rfl, rfl, tw_820⟩ hs71 rfl dX9_init_189 ?_
  obtain ⟨s72, hs72, hf⟩ := mm_let_s hf
  rw [hs72]
  refine mm_aload_n (j := 0) dX9_init_192 rfl rfl ?_
  refine mm_bipush (v := 9) dX9_init_193 (by decide) ?_
  refine mm_newa (atype := .int) (t := 0) (N' := 9) rfl rfl tw_46 (by decide) (by decide) (by decide) (Nat.le_of_ble_eq_true rfl) (Nat.le_of_ble_eq_true rfl) dX9_init_195 ?_
  obtain ⟨s73, hs73, hf⟩ := mm_let_s hf
  rw [hs73]
  obtain ⟨hs74, hf⟩ := mm_sh_s hf
  refine mm_putFR (c := 9) (k := 27) cd_ok (some s72.1) rfl ⟨_, _, _, rfl, by decide, rfl, rfl, tw_821⟩ hs74 rfl dX9_init_197 ?_
  obtain ⟨s75, hs75, hf⟩ := mm_let_s hf
  rw [hs75]
  refine mm_aload_n (j := 0) dX9_init_200 rfl rfl ?_
  refine mm_sipush (v := 1000) dX9_init_201 (by decide) ?_
  refine mm_newa (atype := .byte) (t := 2) (N' := 1000) rfl rfl tw_307 (by decide) (by decide) (by decide) (Nat.le_of_ble_eq_true rfl) (Nat.le_of_ble_eq_true rfl) dX9_init_204 ?_
  obtain ⟨s76, hs76, hf⟩ := mm_let_s hf
  rw [hs76]
  obtain ⟨hs77, hf⟩ := mm_sh_s hf
  refine mm_putFR (c := 9) (k := 32) cd_ok (some s75.1) rfl ⟨_, _, _, rfl, by decide, rfl, rfl, tw_826⟩ hs77 rfl dX9_init_206 ?_
  obtain ⟨s78, hs78, hf⟩ := mm_let_s hf
  rw [hs78]
  refine mm_aload_n (j := 0) dX9_init_209 rfl rfl ?_
  refine mm_bipush (v := 25) dX9_init_210 (by decide) ?_
  refine mm_newa (atype := .boolean) (t := 1) (N' := 25) rfl rfl tw_66 (by decide) (by decide) (by decide) (Nat.le_of_ble_eq_true rfl) (Nat.le_of_ble_eq_true rfl) dX9_init_212 ?_
  obtain ⟨s79, hs79, hf⟩ := mm_let_s hf
  rw [hs79]
  obtain ⟨hs80, hf⟩ := mm_sh_s hf
  refine mm_putFR (c := 9) (k := 33) cd_ok (some s78.1) rfl ⟨_, _, _, rfl, by decide, rfl, rfl, tw_827⟩ hs80 rfl dX9_init_214 ?_
  obtain ⟨s81, hs81, hf⟩ := mm_let_s hf
  rw [hs81]
  refine mm_aload_n (j := 0) dX9_init_217 rfl rfl ?_
  refine mm_bipush (v := 60) dX9_init_218 (by decide) ?_
  refine mm_newa (atype := .int) (t := 0) (N' := 60) rfl rfl tw_46 (by decide) (by decide) (by decide) (Nat.le_of_ble_eq_true rfl) (Nat.le_of_ble_eq_true rfl) dX9_init_220 ?_
  obtain ⟨s82, hs82, hf⟩ := mm_let_s hf
  rw [hs82]
  obtain ⟨hs83, hf⟩ := mm_sh_s hf
  refine mm_putFR (c := 9) (k := 36) cd_ok (some s81.1) rfl ⟨_, _, _, rfl, by decide, rfl, rfl, tw_830⟩ hs83 rfl dX9_init_222 ?_
  obtain ⟨s84, hs84, hf⟩ := mm_let_s hf
  rw [hs84]
  refine mm_aload_n (j := 0) dX9_init_225 rfl rfl ?_
  refine mm_bipush (v := 60) dX9_init_226 (by decide) ?_
  refine mm_newa (atype := .int) (t := 0) (N' := 60) rfl rfl tw_46 (by decide) (by decide) (by decide) (Nat.le_of_ble_eq_true rfl) (Nat.le_of_ble_eq_true rfl) dX9_init_228 ?_
  obtain ⟨s85, hs85, hf⟩ := mm_let_s hf
  rw [hs85]
  obtain ⟨hs86, hf⟩ := mm_sh_s hf
  refine mm_putFR (c := 9) (k := 37) cd_ok (some s84.1) rfl ⟨_, _, _, rfl, by decide, rfl, rfl, tw_831⟩ hs86 rfl dX9_init_230 ?_
  obtain ⟨s87, hs87, hf⟩ := mm_let_s hf
  rw [hs87]
  refine mm_aload_n (j := 0) dX9_init_233 rfl rfl ?_
  refine mm_bipush (v := 60) dX9_init_234 (by decide) ?_
  refine mm_newa (atype := .int) (t := 0) (N' := 60) rfl rfl tw_46 (by decide) (by decide) (by decide) (Nat.le_of_ble_eq_true rfl) (Nat.le_of_ble_eq_true rfl) dX9_init_236 ?_
  obtain ⟨s88, hs88, hf⟩ := mm_let_s hf
  rw [hs88]
  obtain ⟨hs89, hf⟩ := mm_sh_s hf
  refine mm_putFR (c := 9) (k := 38) cd_ok (some s87.1) rfl ⟨_, _, _, rfl, by decide, rfl, rfl, tw_832⟩ hs89 rfl dX9_init_238 ?_
  obtain ⟨s90, hs90, hf⟩ := mm_let_s hf
  rw [hs90]
  refine mm_aload_n (j := 0) dX9_init_241 rfl rfl ?_
  refine mm_bipush (v := 60) dX9_init_242 (by decide) ?_
  refine mm_newa (atype := .int) (t := 0) (N' := 60) rfl rfl tw_46 (by decide) (by decide) (by decide) (Nat.le_of_ble_eq_true rfl) (Nat.le_of_ble_eq_true rfl) dX9_init_244 ?_
  obtain ⟨s91, hs91, hf⟩ := mm_let_s hf
  rw [hs91]
  obtain ⟨hs92, hf⟩ := mm_sh_s hf
  refine mm_putFR (c := 9) (k := 39) cd_ok (some s90.1) rfl ⟨_, _, _, rfl, by decide, rfl, rfl, tw_833⟩ hs92 rfl dX9_init_246 ?_
  obtain ⟨s93, hs93, hf⟩ := mm_let_s hf
  rw [hs93]
  refine mm_aload_n (j := 0) dX9_init_249 rfl rfl ?_
  refine mm_sipush (v := 24000) dX9_init_250 (by decide) ?_
  refine mm_newa (atype := .byte) (t := 2) (N' := 24000) rfl rfl tw_307 (by decide) (by decide) (by decide) (Nat.le_of_ble_eq_true rfl) (Nat.le_of_ble_eq_true rfl) dX9_init_253 ?_
  obtain ⟨s94, hs94, hf⟩ := mm_let_s hf
  rw [hs94]
  obtain ⟨hs95, hf⟩ := mm_sh_s hf
  refine mm_putFR (c := 9) (k := 40) cd_ok (some s93.1) rfl ⟨_, _, _, rfl, by decide, rfl, rfl, tw_834⟩ hs95 rfl dX9_init_255 ?_
  obtain ⟨s96, hs96, hf⟩ := mm_let_s hf
  rw [hs96]
  refine mm_aload_n (j := 0) dX9_init_258 rfl rfl ?_
  refine mm_iconst (v := 5) dX9_init_259 (by decide) ?_
  refine mm_newa (atype := .int) (t := 0) (N' := 5) rfl rfl tw_46 (by decide) (by decide) (by decide) (Nat.le_of_ble_eq_true rfl) (Nat.le_of_ble_eq_true rfl) dX9_init_260 ?_
  obtain ⟨s97, hs97, hf⟩ := mm_let_s hf
  rw [hs97]
  obtain ⟨hs98, hf⟩ := mm_sh_s hf
  refine mm_putFR (c := 9) (k := 41) cd_ok (some s96.1) rfl ⟨_, _, _, rfl, by decide, rfl, rfl, tw_835⟩ hs98 rfl dX9_init_262 ?_
  obtain ⟨s99, hs99, hf⟩ := mm_let_s hf
  rw [hs99]
  refine mm_aload_n (j := 0) dX9_init_265 rfl rfl ?_
  refine mm_sipush (v := 128) dX9_init_266 (by decide) ?_
  refine mm_newa (atype := .int) (t := 0) (N' := 128) rfl rfl tw_46 (by decide) (by decide) (by decide) (Nat.le_of_ble_eq_true rfl) (Nat.le_of_ble_eq_true rfl) dX9_init_269 ?_
  obtain ⟨s100, hs100, hf⟩ := mm_let_s hf
  rw [hs100]
  obtain ⟨hs101, hf⟩ := mm_sh_s hf
  refine mm_putFR (c := 9) (k := 42) cd_ok (some s99.1) rfl ⟨_, _, _, rfl, by decide, rfl, rfl, tw_836⟩ hs101 rfl dX9_init_271 ?_
  obtain ⟨s102, hs102, hf⟩ := mm_let_s hf
  rw [hs102]
  refine mm_aload_n (j := 0) dX9_init_274 rfl rfl ?_
  refine mm_sipush (v := 128) dX9_init_275 (by decide) ?_
  refine mm_newa (atype := .int) (t := 0) (N' := 128) rfl rfl tw_46 (by decide) (by decide) (by decide) (Nat.le_of_ble_eq_true rfl) (Nat.le_of_ble_eq_true rfl) dX9_init_278 ?_
  obtain ⟨s103, hs103, hf⟩ := mm_let_s hf
  rw [hs103]
  obtain ⟨hs104, hf⟩ := mm_sh_s hf
  refine mm_putFR (c := 9) (k := 43) cd_ok (some s102.1) rfl ⟨_, _, _, rfl, by decide, rfl, rfl, tw_837⟩ hs104 rfl dX9_init_280 ?_
  obtain ⟨s105, hs105, hf⟩ := mm_let_s hf
  rw [hs105]
  refine mm_aload_n (j := 0) dX9_init_283 rfl rfl ?_
  refine mm_sipush (v := 1100) dX9_init_284 (by decide) ?_
  refine mm_newa (atype := .byte) (t := 2) (N' := 1100) rfl rfl tw_307 (by decide) (by decide) (by decide) (Nat.le_of_ble_eq_true rfl) (Nat.le_of_ble_eq_true rfl) dX9_init_287 ?_
  obtain ⟨s106, hs106, hf⟩ := mm_let_s hf
  rw [hs106]
  obtain ⟨hs107, hf⟩ := mm_sh_s hf
  refine mm_putFR (c := 9) (k := 45) cd_ok (some s105.1) rfl ⟨_, _, _, rfl, by decide, rfl, rfl, tw_839⟩ hs107 rfl dX9_init_289 ?_
  obtain ⟨s108, hs108, hf⟩ := mm_let_s hf
  rw [hs108]
  refine mm_iconst (v := 0) dX9_init_292 (by decide) ?_
  refine mm_istore_n (L' := [(1, .int 0), (0, .ref p0)]) dX9_init_293 rfl (by decide) rfl ?_
  refine mm_sub [1, 0] rfl ?_
  refine mm_widen (ck' := 36) (sk' := 55546) (Nat.le_of_ble_eq_true rfl) (Nat.le_of_ble_eq_true rfl) ?_
  exact kX9_init_294  p0 0 s108 hf
theorem dX9_thrown_0 : decode cX9_thrown 0 = .ok (.aload_n 0, 1) := by decide +kernel
theorem dX9_thrown_1 : decode cX9_thrown 1 = .ok (.getfield 120, 3) := by decide +kernel
theorem dX9_thrown_4 : decode cX9_thrown 4 = .ok (.ireturn, 1) := by decide +kernel
theorem nmX9_thrown : mm_nm yX9_thrown 0 := ⟨by decide, by decide, by decide +kernel⟩
theorem cdX9_thrown : mm_cd cd_Y yX9_thrown cX9_thrown 1 (some .int) := ⟨tw_936, tw_8⟩
abbrev rmX9_thrown : Room := { frames := 0, cells := 0, slots := 0, locals := 0 }
def fX9_thrown (p0 : Nat) (σ : mm_M) : Option (Int32 × mm_M) :=
  mm_sh σ p0 (.inl 9) (some (mm_I σ p0 0, σ))
set_option maxHeartbeats 4000000 in
set_option maxRecDepth 100000 in
theorem kX9_thrown {G : mm_G} {A : Nat → Prop} (p0 : Nat) {σ : mm_M} {R : (Int32 × mm_M)} (hf : fX9_thrown p0 σ = some R) : mm_C cd_Y G yX9_thrown cX9_thrown 1 (some .int) rmX9_thrown A [.ref p0] σ (mm_Pi R.1 R.2) := by
  refine mm_C.of (by decide) (Nat.le_of_ble_eq_true rfl) ?_
  unfold fX9_thrown at hf
  have e0 : lv_args 0 [.ref p0] = [(0, .ref p0)] := rfl
  rw [e0]
  generalize hini : ((yX9_thrown.name == "<init>"), none) = ini
  clear e0
  clear hini
  refine mm_aload_n (j := 0) dX9_thrown_0 rfl rfl ?_
  obtain ⟨hs1, hf⟩ := mm_sh_s hf
  refine mm_get (c := 9) (k := 0) (v := .int (mm_I σ p0 0)) cd_ok ⟨_, _, _, rfl, by decide, Or.inl tw_794⟩ hs1 rfl dX9_thrown_1 ?_
  cases hf
  refine mm_widen (ck' := rmX9_thrown.cells) (sk' := rmX9_thrown.slots) (Nat.le_of_ble_eq_true rfl) (Nat.le_of_ble_eq_true rfl) ?_
  exact mm_iret rfl rfl dX9_thrown_4 ⟨rfl, rfl⟩
theorem dX9_in_0 : decode cX9_in 0 = .ok (.iload_n 0, 1) := by decide +kernel
theorem dX9_in_1 : decode cX9_in 1 = .ok (.iload_n 1, 1) := by decide +kernel
theorem dX9_in_2 : decode cX9_in 2 = .ok (.if_icmp .lt 12, 3) := by decide +kernel
theorem dX9_in_5 : decode cX9_in 5 = .ok (.iload_n 0, 1) := by decide +kernel
theorem dX9_in_6 : decode cX9_in 6 = .ok (.iload_n 2, 1) := by decide +kernel
theorem dX9_in_7 : decode cX9_in 7 = .ok (.if_icmp .gt 7, 3) := by decide +kernel
theorem dX9_in_10 : decode cX9_in 10 = .ok (.iconst 1, 1) := by decide +kernel
theorem dX9_in_11 : decode cX9_in 11 = .ok (.goto 4, 3) := by decide +kernel
theorem dX9_in_14 : decode cX9_in 14 = .ok (.iconst 0, 1) := by decide +kernel
theorem dX9_in_15 : decode cX9_in 15 = .ok (.ireturn, 1) := by decide +kernel
theorem nmX9_in : mm_nm yX9_in 3 := ⟨by decide, by decide, by decide +kernel⟩
theorem cdX9_in : mm_cd cd_Y yX9_in cX9_in 3 (some .boolean) := ⟨tw_943, tw_8⟩
abbrev rmX9_in : Room := { frames := 0, cells := 0, slots := 0, locals := 0 }
def fX9_in (p0 : Int32) (p1 : Int32) (p2 : Int32) : Int32 :=
  (if p0 < p1 then 0 else (if p2 < p0 then 0 else 1))
set_option maxHeartbeats 4000000 in
set_option maxRecDepth 100000 in
theorem kX9_in {G : mm_G} {A : Nat → Prop} (p0 : Int32) (p1 : Int32) (p2 : Int32) (σ0 : mm_M) {R : Int32} (hf : fX9_in p0 p1 p2 = R) : mm_C cd_Y G yX9_in cX9_in 3 (some .boolean) rmX9_in A [.int p0, .int p1, .int p2] σ0 (mm_Pi R σ0) := by
  refine mm_C.of (by decide) (Nat.le_of_ble_eq_true rfl) ?_
  unfold fX9_in at hf
  have e0 : lv_args 0 [.int p0, .int p1, .int p2] = [(0, .int p0), (1, .int p1), (2, .int p2)] := rfl
  rw [e0]
  generalize hini : ((yX9_in.name == "<init>"), none) = ini
  clear e0
  clear hini
  refine mm_iload_n (j := 0) dX9_in_0 rfl rfl ?_
  refine mm_iload_n (j := 1) dX9_in_1 rfl rfl ?_
  refine mm_icmp_lt (tgt := 14) dX9_in_2 (by decide) (fun c1 => ?_) (fun c1 => ?_)
  · rw [if_pos c1] at hf
    refine mm_iconst (v := 0) dX9_in_14 (by decide) ?_
    subst hf
    refine mm_widen (ck' := rmX9_in.cells) (sk' := rmX9_in.slots) (Nat.le_of_ble_eq_true rfl) (Nat.le_of_ble_eq_true rfl) ?_
    exact mm_iret rfl rfl dX9_in_15 ⟨rfl, rfl⟩
  · rw [if_neg c1] at hf
    refine mm_iload_n (j := 0) dX9_in_5 rfl rfl ?_
    refine mm_iload_n (j := 2) dX9_in_6 rfl rfl ?_
    refine mm_icmp_gt (tgt := 14) dX9_in_7 (by decide) (fun c2 => ?_) (fun c2 => ?_)
    · rw [if_pos c2] at hf
      refine mm_iconst (v := 0) dX9_in_14 (by decide) ?_
      subst hf
      refine mm_widen (ck' := rmX9_in.cells) (sk' := rmX9_in.slots) (Nat.le_of_ble_eq_true rfl) (Nat.le_of_ble_eq_true rfl) ?_
      exact mm_iret rfl rfl dX9_in_15 ⟨rfl, rfl⟩
    · rw [if_neg c2] at hf
      refine mm_iconst (v := 1) dX9_in_10 (by decide) ?_
      refine mm_goto (tgt := 15) dX9_in_11 (by decide) ?_
      subst hf
      refine mm_widen (ck' := rmX9_in.cells) (sk' := rmX9_in.slots) (Nat.le_of_ble_eq_true rfl) (Nat.le_of_ble_eq_true rfl) ?_
      exact mm_iret rfl rfl dX9_in_15 ⟨rfl, rfl⟩
theorem dX9_goes_0 : decode cX9_goes 0 = .ok (.aload_n 0, 1) := by decide +kernel
theorem dX9_goes_1 : decode cX9_goes 1 = .ok (.iload_n 1, 1) := by decide +kernel
theorem dX9_goes_2 : decode cX9_goes 2 = .ok (.ifCond .eq 7, 3) := by decide +kernel
theorem dX9_goes_5 : decode cX9_goes 5 = .ok (.iconst 0, 1) := by decide +kernel
theorem dX9_goes_6 : decode cX9_goes 6 = .ok (.goto 4, 3) := by decide +kernel
theorem dX9_goes_9 : decode cX9_goes 9 = .ok (.iconst 1, 1) := by decide +kernel
theorem dX9_goes_10 : decode cX9_goes 10 = .ok (.putfield 120, 3) := by decide +kernel
theorem dX9_goes_13 : decode cX9_goes 13 = .ok (.iload_n 1, 1) := by decide +kernel
theorem dX9_goes_14 : decode cX9_goes 14 = .ok (.ireturn, 1) := by decide +kernel
theorem nmX9_goes : mm_nm yX9_goes 1 := ⟨by decide, by decide, by decide +kernel⟩
theorem cdX9_goes : mm_cd cd_Y yX9_goes cX9_goes 2 (some .boolean) := ⟨tw_947, tw_8⟩
abbrev rmX9_goes : Room := { frames := 0, cells := 0, slots := 0, locals := 0 }
def fX9_goes (p0 : Nat) (p1 : Int32) (σ : mm_M) : Option (Int32 × mm_M) :=
  (if p1 = 0 then mm_sh σ p0 (.inl 9) (mm_let (mm_wI σ p0 0 1) fun s3 => mm_ck (p1 = 0 ∨ p1 = 1) (some (p1, s3))) else mm_sh σ p0 (.inl 9) (mm_let (mm_wI σ p0 0 0) fun s6 => mm_ck (p1 = 0 ∨ p1 = 1) (some (p1, s6))))
set_option maxHeartbeats 4000000 in
set_option maxRecDepth 100000 in
theorem kX9_goes {G : mm_G} {A : Nat → Prop} (p0 : Nat) (p1 : Int32) {σ : mm_M} {R : (Int32 × mm_M)} (hf : fX9_goes p0 p1 σ = some R) : mm_C cd_Y G yX9_goes cX9_goes 2 (some .boolean) rmX9_goes A [.ref p0, .int p1] σ (mm_Pi R.1 R.2) := by
  refine mm_C.of (by decide) (Nat.le_of_ble_eq_true rfl) ?_
  unfold fX9_goes at hf
  have e0 : lv_args 0 [.ref p0, .int p1] = [(0, .ref p0), (1, .int p1)] := rfl
  rw [e0]
  generalize hini : ((yX9_goes.name == "<init>"), none) = ini
  clear e0
  clear hini
  refine mm_aload_n (j := 0) dX9_goes_0 rfl rfl ?_
  refine mm_iload_n (j := 1) dX9_goes_1 rfl rfl ?_
  refine mm_if_eq (tgt := 9) dX9_goes_2 (by decide) (fun c1 => ?_) (fun c1 => ?_)
  · rw [if_pos c1] at hf
    refine mm_iconst (v := 1) dX9_goes_9 (by decide) ?_
    obtain ⟨hs2, hf⟩ := mm_sh_s hf
    refine mm_putI (c := 9) (k := 0) cd_ok ⟨_, _, _, rfl, by decide, rfl, Or.inl tw_794⟩ hs2 rfl rfl rfl dX9_goes_10 ?_
    obtain ⟨s3, hs3, hf⟩ := mm_let_s hf
    rw [hs3]
    refine mm_iload_n (j := 1) dX9_goes_13 rfl rfl ?_
    obtain ⟨hz4, hf⟩ := mm_ck_s hf
    cases hf
    refine mm_widen (ck' := rmX9_goes.cells) (sk' := rmX9_goes.slots) (Nat.le_of_ble_eq_true rfl) (Nat.le_of_ble_eq_true rfl) ?_
    exact mm_iret rfl (mm_z01 hz4) dX9_goes_14 ⟨rfl, rfl⟩
  · rw [if_neg c1] at hf
    refine mm_iconst (v := 0) dX9_goes_5 (by decide) ?_
    refine mm_goto (tgt := 10) dX9_goes_6 (by decide) ?_
    obtain ⟨hs5, hf⟩ := mm_sh_s hf
    refine mm_putI (c := 9) (k := 0) cd_ok ⟨_, _, _, rfl, by decide, rfl, Or.inl tw_794⟩ hs5 rfl rfl rfl dX9_goes_10 ?_
    obtain ⟨s6, hs6, hf⟩ := mm_let_s hf
    rw [hs6]
    refine mm_iload_n (j := 1) dX9_goes_13 rfl rfl ?_
    obtain ⟨hz7, hf⟩ := mm_ck_s hf
    cases hf
    refine mm_widen (ck' := rmX9_goes.cells) (sk' := rmX9_goes.slots) (Nat.le_of_ble_eq_true rfl) (Nat.le_of_ble_eq_true rfl) ?_
    exact mm_iret rfl (mm_z01 hz7) dX9_goes_14 ⟨rfl, rfl⟩
theorem dX9_isOdd_0 : decode cX9_isOdd 0 = .ok (.iconst 0, 1) := by decide +kernel
theorem dX9_isOdd_1 : decode cX9_isOdd 1 = .ok (.istore_n 1, 1) := by decide +kernel
theorem dX9_isOdd_2 : decode cX9_isOdd 2 = .ok (.iload_n 0, 1) := by decide +kernel
theorem dX9_isOdd_3 : decode cX9_isOdd 3 = .ok (.sipush 255, 3) := by decide +kernel
theorem dX9_isOdd_6 : decode cX9_isOdd 6 = .ok (.iand, 1) := by decide +kernel
theorem dX9_isOdd_7 : decode cX9_isOdd 7 = .ok (.istore_n 2, 1) := by decide +kernel
theorem dX9_isOdd_8 : decode cX9_isOdd 8 = .ok (.iload_n 2, 1) := by decide +kernel
theorem dX9_isOdd_9 : decode cX9_isOdd 9 = .ok (.ifCond .eq 15, 3) := by decide +kernel
theorem dX9_isOdd_12 : decode cX9_isOdd 12 = .ok (.iinc 1 1, 3) := by decide +kernel
theorem dX9_isOdd_15 : decode cX9_isOdd 15 = .ok (.iload_n 2, 1) := by decide +kernel
theorem dX9_isOdd_16 : decode cX9_isOdd 16 = .ok (.iload_n 2, 1) := by decide +kernel
theorem dX9_isOdd_17 : decode cX9_isOdd 17 = .ok (.iconst 1, 1) := by decide +kernel
theorem dX9_isOdd_18 : decode cX9_isOdd 18 = .ok (.isub, 1) := by decide +kernel
theorem dX9_isOdd_19 : decode cX9_isOdd 19 = .ok (.iand, 1) := by decide +kernel
theorem dX9_isOdd_20 : decode cX9_isOdd 20 = .ok (.istore_n 2, 1) := by decide +kernel
theorem dX9_isOdd_21 : decode cX9_isOdd 21 = .ok (.goto (-13), 3) := by decide +kernel
theorem dX9_isOdd_24 : decode cX9_isOdd 24 = .ok (.iload_n 1, 1) := by decide +kernel
theorem dX9_isOdd_25 : decode cX9_isOdd 25 = .ok (.iconst 2, 1) := by decide +kernel
theorem dX9_isOdd_26 : decode cX9_isOdd 26 = .ok (.irem, 1) := by decide +kernel
theorem dX9_isOdd_27 : decode cX9_isOdd 27 = .ok (.iconst 1, 1) := by decide +kernel
theorem dX9_isOdd_28 : decode cX9_isOdd 28 = .ok (.if_icmp .ne 7, 3) := by decide +kernel
theorem dX9_isOdd_31 : decode cX9_isOdd 31 = .ok (.iconst 1, 1) := by decide +kernel
theorem dX9_isOdd_32 : decode cX9_isOdd 32 = .ok (.goto 4, 3) := by decide +kernel
theorem dX9_isOdd_35 : decode cX9_isOdd 35 = .ok (.iconst 0, 1) := by decide +kernel
theorem dX9_isOdd_36 : decode cX9_isOdd 36 = .ok (.ireturn, 1) := by decide +kernel
theorem nmX9_isOdd : mm_nm yX9_isOdd 1 := ⟨by decide, by decide, by decide +kernel⟩
theorem cdX9_isOdd : mm_cd cd_Y yX9_isOdd cX9_isOdd 3 (some .boolean) := ⟨tw_950, tw_8⟩
abbrev rmX9_isOdd : Room := { frames := 0, cells := 0, slots := 0, locals := 0 }
def fX9_isOdd_8  : Nat → Int32 → Int32 → Int32 → mm_M → Option (Int32 × mm_M)
  | 0 => fun _ _ _ _ => none
  | n + 1 => fun x0 x1 x2 σ =>
  (if x2 = 0 then (if (x1 - x1 / 2 * 2) = 1 then some (1, σ) else some (0, σ)) else (fX9_isOdd_8  n x0 (x1 + 1) (x2 &&& (x2 - 1)) σ))
def fX9_isOdd (p0 : Int32) (σ : mm_M) : Option (Int32 × mm_M) :=
  (fX9_isOdd_8  mm_fuel p0 0 (p0 &&& 255) σ)
set_option maxHeartbeats 4000000 in
set_option maxRecDepth 100000 in
theorem kX9_isOdd_8 {G : mm_G} {A : Nat → Prop} {ini : Bool × Option (List (Nat × Nat × Nat × Nat))}  {R : (Int32 × mm_M)}  : ∀ (x0 : Int32) (x1 : Int32) (x2 : Int32) (σ : mm_M), fX9_isOdd_8  mm_fuel x0 x1 x2 σ = some R → mm_J cd_Y G RX9 cX9_isOdd 3 (some .boolean) ini rmX9_isOdd A (mm_QF cd_Y G A (mm_Pi R.1 R.2) rmX9_isOdd.cells rmX9_isOdd.slots) 8 [(0, .int x0), (1, .int x1), (2, .int x2)] [] σ 0 0 := by
  generalize mm_fuel = n
  induction n with
  | zero => intro x0 x1 x2 σ hf; cases hf
  | succ n ih =>
    intro x0 x1 x2 σ hf
    unfold fX9_isOdd_8 at hf
    refine mm_iload_n (j := 2) dX9_isOdd_8 rfl rfl ?_
    refine mm_if_eq (tgt := 24) dX9_isOdd_9 (by decide) (fun c1 => ?_) (fun c1 => ?_)
    · rw [if_pos c1] at hf
      refine mm_iload_n (j := 1) dX9_isOdd_24 rfl rfl ?_
      refine mm_iconst (v := 2) dX9_isOdd_25 (by decide) ?_
      refine mm_irem dX9_isOdd_26 (by decide) ?_
      refine mm_iconst (v := 1) dX9_isOdd_27 (by decide) ?_
      refine mm_icmp_ne (tgt := 35) dX9_isOdd_28 (by decide) (fun c2 => ?_) (fun c2 => ?_)
      · rw [if_neg c2] at hf
        refine mm_iconst (v := 0) dX9_isOdd_35 (by decide) ?_
        cases hf
        refine mm_widen (ck' := rmX9_isOdd.cells) (sk' := rmX9_isOdd.slots) (Nat.le_of_ble_eq_true rfl) (Nat.le_of_ble_eq_true rfl) ?_
        exact mm_iret rfl rfl dX9_isOdd_36 ⟨rfl, rfl⟩
      · rw [if_pos c2] at hf
        refine mm_iconst (v := 1) dX9_isOdd_31 (by decide) ?_
        refine mm_goto (tgt := 36) dX9_isOdd_32 (by decide) ?_
        cases hf
        refine mm_widen (ck' := rmX9_isOdd.cells) (sk' := rmX9_isOdd.slots) (Nat.le_of_ble_eq_true rfl) (Nat.le_of_ble_eq_true rfl) ?_
        exact mm_iret rfl rfl dX9_isOdd_36 ⟨rfl, rfl⟩
    · rw [if_neg c1] at hf
      refine mm_iinc (j := 1) (L' := [(1, .int (x1 + 1)), (0, .int x0), (2, .int x2)]) dX9_isOdd_12 rfl rfl (by decide) rfl ?_
      refine mm_iload_n (j := 2) dX9_isOdd_15 rfl rfl ?_
      refine mm_iload_n (j := 2) dX9_isOdd_16 rfl rfl ?_
      refine mm_iconst (v := 1) dX9_isOdd_17 (by decide) ?_
      refine mm_isub dX9_isOdd_18 ?_
      refine mm_iand dX9_isOdd_19 ?_
      refine mm_istore_n (L' := [(2, .int (x2 &&& (x2 - 1))), (1, .int (x1 + 1)), (0, .int x0)]) dX9_isOdd_20 rfl (by decide) rfl ?_
      refine mm_goto (tgt := 8) dX9_isOdd_21 (by decide) ?_
      refine mm_sub [2, 1, 0] rfl ?_
      exact ih x0 (x1 + 1) (x2 &&& (x2 - 1)) σ hf
set_option maxHeartbeats 4000000 in
set_option maxRecDepth 100000 in
theorem kX9_isOdd {G : mm_G} {A : Nat → Prop} (p0 : Int32) {σ : mm_M} {R : (Int32 × mm_M)} (hf : fX9_isOdd p0 σ = some R) : mm_C cd_Y G yX9_isOdd cX9_isOdd 3 (some .boolean) rmX9_isOdd A [.int p0] σ (mm_Pi R.1 R.2) := by
  refine mm_C.of (by decide) (Nat.le_of_ble_eq_true rfl) ?_
  unfold fX9_isOdd at hf
  have e0 : lv_args 0 [.int p0] = [(0, .int p0)] := rfl
  rw [e0]
  generalize hini : ((yX9_isOdd.name == "<init>"), none) = ini
  clear e0
  clear hini
  refine mm_iconst (v := 0) dX9_isOdd_0 (by decide) ?_
  refine mm_istore_n (L' := [(1, .int 0), (0, .int p0)]) dX9_isOdd_1 rfl (by decide) rfl ?_
  refine mm_iload_n (j := 1) dX9_isOdd_2 rfl rfl ?_
  refine mm_sipush (v := 255) dX9_isOdd_3 (by decide) ?_
  refine mm_iand dX9_isOdd_6 ?_
  refine mm_istore_n (L' := [(2, .int (p0 &&& 255)), (1, .int 0), (0, .int p0)]) dX9_isOdd_7 rfl (by decide) rfl ?_
  refine mm_sub [2, 1, 0] rfl ?_
  exact kX9_isOdd_8  p0 0 (p0 &&& 255) σ hf
theorem dX9_cellAt_0 : decode cX9_cellAt 0 = .ok (.iload_n 2, 1) := by decide +kernel
theorem dX9_cellAt_1 : decode cX9_cellAt 1 = .ok (.ifCond .ne 12, 3) := by decide +kernel
theorem dX9_cellAt_4 : decode cX9_cellAt 4 = .ok (.aload_n 0, 1) := by decide +kernel
theorem dX9_cellAt_5 : decode cX9_cellAt 5 = .ok (.getfield 16, 3) := by decide +kernel
theorem dX9_cellAt_8 : decode cX9_cellAt 8 = .ok (.iload_n 1, 1) := by decide +kernel
theorem dX9_cellAt_9 : decode cX9_cellAt 9 = .ok (.iaload, 1) := by decide +kernel
theorem dX9_cellAt_10 : decode cX9_cellAt 10 = .ok (.goto 11, 3) := by decide +kernel
theorem dX9_cellAt_13 : decode cX9_cellAt 13 = .ok (.iconst 1, 1) := by decide +kernel
theorem dX9_cellAt_14 : decode cX9_cellAt 14 = .ok (.aload_n 0, 1) := by decide +kernel
theorem dX9_cellAt_15 : decode cX9_cellAt 15 = .ok (.getfield 16, 3) := by decide +kernel
theorem dX9_cellAt_18 : decode cX9_cellAt 18 = .ok (.iload_n 1, 1) := by decide +kernel
theorem dX9_cellAt_19 : decode cX9_cellAt 19 = .ok (.iaload, 1) := by decide +kernel
theorem dX9_cellAt_20 : decode cX9_cellAt 20 = .ok (.isub, 1) := by decide +kernel
theorem dX9_cellAt_21 : decode cX9_cellAt 21 = .ok (.istore 5, 2) := by decide +kernel
theorem dX9_cellAt_23 : decode cX9_cellAt 23 = .ok (.sipush 960, 3) := by decide +kernel
theorem dX9_cellAt_26 : decode cX9_cellAt 26 = .ok (.iload_n 1, 1) := by decide +kernel
theorem dX9_cellAt_27 : decode cX9_cellAt 27 = .ok (.imul, 1) := by decide +kernel
theorem dX9_cellAt_28 : decode cX9_cellAt 28 = .ok (.sipush 480, 3) := by decide +kernel
theorem dX9_cellAt_31 : decode cX9_cellAt 31 = .ok (.iload 5, 2) := by decide +kernel
theorem dX9_cellAt_33 : decode cX9_cellAt 33 = .ok (.imul, 1) := by decide +kernel
theorem dX9_cellAt_34 : decode cX9_cellAt 34 = .ok (.iadd, 1) := by decide +kernel
theorem dX9_cellAt_35 : decode cX9_cellAt 35 = .ok (.bipush 32, 2) := by decide +kernel
theorem dX9_cellAt_37 : decode cX9_cellAt 37 = .ok (.iload_n 3, 1) := by decide +kernel
theorem dX9_cellAt_38 : decode cX9_cellAt 38 = .ok (.iconst 1, 1) := by decide +kernel
theorem dX9_cellAt_39 : decode cX9_cellAt 39 = .ok (.isub, 1) := by decide +kernel
theorem dX9_cellAt_40 : decode cX9_cellAt 40 = .ok (.imul, 1) := by decide +kernel
theorem dX9_cellAt_41 : decode cX9_cellAt 41 = .ok (.iadd, 1) := by decide +kernel
theorem dX9_cellAt_42 : decode cX9_cellAt 42 = .ok (.iload 4, 2) := by decide +kernel
theorem dX9_cellAt_44 : decode cX9_cellAt 44 = .ok (.iadd, 1) := by decide +kernel
theorem dX9_cellAt_45 : decode cX9_cellAt 45 = .ok (.ireturn, 1) := by decide +kernel
theorem nmX9_cellAt : mm_nm yX9_cellAt 4 := ⟨by decide, by decide, by decide +kernel⟩
theorem cdX9_cellAt : mm_cd cd_Y yX9_cellAt cX9_cellAt 6 (some .int) := ⟨tw_973, tw_8⟩
abbrev rmX9_cellAt : Room := { frames := 0, cells := 0, slots := 0, locals := 0 }
def fX9_cellAt_21  (a0 : Nat) (x1 : Int32) (x2 : Int32) (x3 : Int32) (x4 : Int32) (y0 : Int32) (σ : mm_M) : Option (Int32 × mm_M) :=
  some ((((960 * x1) + (480 * y0)) + (32 * (x3 - 1))) + x4, σ)
def fX9_cellAt (p0 : Nat) (p1 : Int32) (p2 : Int32) (p3 : Int32) (p4 : Int32) (σ : mm_M) : Option (Int32 × mm_M) :=
  (if p2 = 0 then mm_sh σ p0 (.inl 9) (mm_on (mm_R σ p0 3) fun q7 => mm_ar σ q7 0 fun n8 => mm_ib p1 n8 ((fX9_cellAt_21  p0 p1 p2 p3 p4 (mm_I σ q7 p1.toNatClampNeg) σ))) else mm_sh σ p0 (.inl 9) (mm_on (mm_R σ p0 3) fun q3 => mm_ar σ q3 0 fun n4 => mm_ib p1 n4 ((fX9_cellAt_21  p0 p1 p2 p3 p4 (1 - (mm_I σ q3 p1.toNatClampNeg)) σ))))
set_option maxHeartbeats 4000000 in
set_option maxRecDepth 100000 in
theorem kX9_cellAt_21 {G : mm_G} {A : Nat → Prop} {ini : Bool × Option (List (Nat × Nat × Nat × Nat))}  {R : (Int32 × mm_M)}  (a0 : Nat) (x1 : Int32) (x2 : Int32) (x3 : Int32) (x4 : Int32) (y0 : Int32) (σ : mm_M) (hf : fX9_cellAt_21  a0 x1 x2 x3 x4 y0 σ = some R) : mm_J cd_Y G RX9 cX9_cellAt 6 (some .int) ini rmX9_cellAt A (mm_QF cd_Y G A (mm_Pi R.1 R.2) rmX9_cellAt.cells rmX9_cellAt.slots) 21 [(0, .ref a0), (1, .int x1), (2, .int x2), (3, .int x3), (4, .int x4)] [.int y0] σ 0 0 := by
  unfold fX9_cellAt_21 at hf
  refine mm_istore (L' := [(5, .int y0), (0, .ref a0), (1, .int x1), (2, .int x2), (3, .int x3), (4, .int x4)]) dX9_cellAt_21 (by decide) rfl ?_
  refine mm_sipush (v := 960) dX9_cellAt_23 (by decide) ?_
  refine mm_iload_n (j := 2) dX9_cellAt_26 rfl rfl ?_
  refine mm_imul dX9_cellAt_27 ?_
  refine mm_sipush (v := 480) dX9_cellAt_28 (by decide) ?_
  refine mm_iload (j := 0) dX9_cellAt_31 rfl ?_
  refine mm_imul dX9_cellAt_33 ?_
  refine mm_iadd dX9_cellAt_34 ?_
  refine mm_bipush (v := 32) dX9_cellAt_35 (by decide) ?_
  refine mm_iload_n (j := 4) dX9_cellAt_37 rfl rfl ?_
  refine mm_iconst (v := 1) dX9_cellAt_38 (by decide) ?_
  refine mm_isub dX9_cellAt_39 ?_
  refine mm_imul dX9_cellAt_40 ?_
  refine mm_iadd dX9_cellAt_41 ?_
  refine mm_iload (j := 5) dX9_cellAt_42 rfl ?_
  refine mm_iadd dX9_cellAt_44 ?_
  cases hf
  refine mm_widen (ck' := rmX9_cellAt.cells) (sk' := rmX9_cellAt.slots) (Nat.le_of_ble_eq_true rfl) (Nat.le_of_ble_eq_true rfl) ?_
  exact mm_iret rfl rfl dX9_cellAt_45 ⟨rfl, rfl⟩
set_option maxHeartbeats 4000000 in
set_option maxRecDepth 100000 in
theorem kX9_cellAt {G : mm_G} {A : Nat → Prop} (p0 : Nat) (p1 : Int32) (p2 : Int32) (p3 : Int32) (p4 : Int32) {σ : mm_M} {R : (Int32 × mm_M)} (hf : fX9_cellAt p0 p1 p2 p3 p4 σ = some R) : mm_C cd_Y G yX9_cellAt cX9_cellAt 6 (some .int) rmX9_cellAt A [.ref p0, .int p1, .int p2, .int p3, .int p4] σ (mm_Pi R.1 R.2) := by
  refine mm_C.of (by decide) (Nat.le_of_ble_eq_true rfl) ?_
  unfold fX9_cellAt at hf
  have e0 : lv_args 0 [.ref p0, .int p1, .int p2, .int p3, .int p4] = [(0, .ref p0), (1, .int p1), (2, .int p2), (3, .int p3), (4, .int p4)] := rfl
  rw [e0]
  generalize hini : ((yX9_cellAt.name == "<init>"), none) = ini
  clear e0
  clear hini
  refine mm_iload_n (j := 2) dX9_cellAt_0 rfl rfl ?_
  refine mm_if_ne (tgt := 13) dX9_cellAt_1 (by decide) (fun c1 => ?_) (fun c1 => ?_)
  · rw [if_neg c1] at hf
    refine mm_iconst (v := 1) dX9_cellAt_13 (by decide) ?_
    refine mm_aload_n (j := 0) dX9_cellAt_14 rfl rfl ?_
    obtain ⟨hs2, hf⟩ := mm_sh_s hf
    refine mm_get (c := 9) (k := 3) (v := va_rf (mm_R σ p0 3)) cd_ok ⟨_, _, _, rfl, by decide, Or.inl tw_797⟩ hs2 rfl dX9_cellAt_15 ?_
    refine mm_iload_n (j := 1) dX9_cellAt_18 rfl rfl ?_
    obtain ⟨q3, hq3, hf⟩ := mm_on_s hf
    rw [hq3, mm_rf_some]
    obtain ⟨n4, hn4, hf⟩ := mm_ar_s hf
    obtain ⟨hi5, hf⟩ := mm_ib_s hf
    refine mm_iald hn4 rfl hi5 dX9_cellAt_19 ?_
    refine mm_isub dX9_cellAt_20 ?_
    refine mm_sub [0, 1, 2, 3, 4] rfl ?_
    exact kX9_cellAt_21  p0 p1 p2 p3 p4 (1 - (mm_I σ q3 p1.toNatClampNeg)) σ hf
  · rw [if_pos c1] at hf
    refine mm_aload_n (j := 0) dX9_cellAt_4 rfl rfl ?_
    obtain ⟨hs6, hf⟩ := mm_sh_s hf
    refine mm_get (c := 9) (k := 3) (v := va_rf (mm_R σ p0 3)) cd_ok ⟨_, _, _, rfl, by decide, Or.inl tw_797⟩ hs6 rfl dX9_cellAt_5 ?_
    refine mm_iload_n (j := 1) dX9_cellAt_8 rfl rfl ?_
    obtain ⟨q7, hq7, hf⟩ := mm_on_s hf
    rw [hq7, mm_rf_some]
    obtain ⟨n8, hn8, hf⟩ := mm_ar_s hf
    obtain ⟨hi9, hf⟩ := mm_ib_s hf
    refine mm_iald hn8 rfl hi9 dX9_cellAt_9 ?_
    refine mm_goto (tgt := 21) dX9_cellAt_10 (by decide) ?_
    refine mm_sub [0, 1, 2, 3, 4] rfl ?_
    exact kX9_cellAt_21  p0 p1 p2 p3 p4 (mm_I σ q7 p1.toNatClampNeg) σ hf
theorem dX9_clear_0 : decode cX9_clear 0 = .ok (.aload_n 0, 1) := by decide +kernel
theorem dX9_clear_1 : decode cX9_clear 1 = .ok (.getfield 7, 3) := by decide +kernel
theorem dX9_clear_4 : decode cX9_clear 4 = .ok (.iload_n 1, 1) := by decide +kernel
theorem dX9_clear_5 : decode cX9_clear 5 = .ok (.iconst 0, 1) := by decide +kernel
theorem dX9_clear_6 : decode cX9_clear 6 = .ok (.iastore, 1) := by decide +kernel
theorem dX9_clear_7 : decode cX9_clear 7 = .ok (.aload_n 0, 1) := by decide +kernel
theorem dX9_clear_8 : decode cX9_clear 8 = .ok (.getfield 13, 3) := by decide +kernel
theorem dX9_clear_11 : decode cX9_clear 11 = .ok (.iload_n 1, 1) := by decide +kernel
theorem dX9_clear_12 : decode cX9_clear 12 = .ok (.iconst 0, 1) := by decide +kernel
theorem dX9_clear_13 : decode cX9_clear 13 = .ok (.iastore, 1) := by decide +kernel
theorem dX9_clear_14 : decode cX9_clear 14 = .ok (.return_, 1) := by decide +kernel
theorem nmX9_clear : mm_nm yX9_clear 1 := ⟨by decide, by decide, by decide +kernel⟩
theorem cdX9_clear : mm_cd cd_Y yX9_clear cX9_clear 2 none := ⟨tw_981, tw_8⟩
abbrev rmX9_clear : Room := { frames := 0, cells := 0, slots := 0, locals := 0 }
def fX9_clear (p0 : Nat) (p1 : Int32) (σ : mm_M) : Option mm_M :=
  mm_sh σ p0 (.inl 9) (mm_on (mm_R σ p0 1) fun q2 => mm_ar σ q2 0 fun n3 => mm_ib p1 n3 (mm_let (mm_wI σ q2 (p1.toNatClampNeg) 0) fun s5 => mm_on (mm_R s5 p0 2) fun q6 => mm_ar s5 q6 0 fun n7 => mm_ib p1 n7 (mm_let (mm_wI s5 q6 (p1.toNatClampNeg) 0) fun s9 => some (s9))))
set_option maxHeartbeats 4000000 in
set_option maxRecDepth 100000 in
theorem kX9_clear {G : mm_G} {A : Nat → Prop} (p0 : Nat) (p1 : Int32) {σ : mm_M} {R : mm_M} (hf : fX9_clear p0 p1 σ = some R) : mm_C cd_Y G yX9_clear cX9_clear 2 none rmX9_clear A [.ref p0, .int p1] σ (mm_Pv R) := by
  refine mm_C.of (by decide) (Nat.le_of_ble_eq_true rfl) ?_
  unfold fX9_clear at hf
  have e0 : lv_args 0 [.ref p0, .int p1] = [(0, .ref p0), (1, .int p1)] := rfl
  rw [e0]
  generalize hini : ((yX9_clear.name == "<init>"), none) = ini
  clear e0
  clear hini
  refine mm_aload_n (j := 0) dX9_clear_0 rfl rfl ?_
  obtain ⟨hs1, hf⟩ := mm_sh_s hf
  refine mm_get (c := 9) (k := 1) (v := va_rf (mm_R σ p0 1)) cd_ok ⟨_, _, _, rfl, by decide, Or.inl tw_795⟩ hs1 rfl dX9_clear_1 ?_
  refine mm_iload_n (j := 1) dX9_clear_4 rfl rfl ?_
  refine mm_iconst (v := 0) dX9_clear_5 (by decide) ?_
  obtain ⟨q2, hq2, hf⟩ := mm_on_s hf
  rw [hq2, mm_rf_some]
  obtain ⟨n3, hn3, hf⟩ := mm_ar_s hf
  obtain ⟨hi4, hf⟩ := mm_ib_s hf
  refine mm_iast hn3 rfl hi4 dX9_clear_6 ?_
  obtain ⟨s5, hs5, hf⟩ := mm_let_s hf
  rw [hs5]
  refine mm_aload_n (j := 0) dX9_clear_7 rfl rfl ?_
  refine mm_get (c := 9) (k := 2) (v := va_rf (mm_R s5 p0 2)) cd_ok ⟨_, _, _, rfl, by decide, Or.inl tw_796⟩ (mm_ke hs5 hs1) rfl dX9_clear_8 ?_
  refine mm_iload_n (j := 1) dX9_clear_11 rfl rfl ?_
  refine mm_iconst (v := 0) dX9_clear_12 (by decide) ?_
  obtain ⟨q6, hq6, hf⟩ := mm_on_s hf
  rw [hq6, mm_rf_some]
  obtain ⟨n7, hn7, hf⟩ := mm_ar_s hf
  obtain ⟨hi8, hf⟩ := mm_ib_s hf
  refine mm_iast hn7 rfl hi8 dX9_clear_13 ?_
  obtain ⟨s9, hs9, hf⟩ := mm_let_s hf
  rw [hs9]
  cases hf
  refine mm_widen (ck' := rmX9_clear.cells) (sk' := rmX9_clear.slots) (Nat.le_of_ble_eq_true rfl) (Nat.le_of_ble_eq_true rfl) ?_
  exact mm_vret rfl dX9_clear_14 ⟨rfl, rfl⟩
theorem dX9_clearRow_0 : decode cX9_clearRow 0 = .ok (.iconst 0, 1) := by decide +kernel
theorem dX9_clearRow_1 : decode cX9_clearRow 1 = .ok (.istore 4, 2) := by decide +kernel
theorem dX9_clearRow_3 : decode cX9_clearRow 3 = .ok (.iload 4, 2) := by decide +kernel
theorem dX9_clearRow_5 : decode cX9_clearRow 5 = .ok (.bipush 32, 2) := by decide +kernel
theorem dX9_clearRow_7 : decode cX9_clearRow 7 = .ok (.if_icmp .ge 22, 3) := by decide +kernel
theorem dX9_clearRow_10 : decode cX9_clearRow 10 = .ok (.aload_n 0, 1) := by decide +kernel
theorem dX9_clearRow_11 : decode cX9_clearRow 11 = .ok (.aload_n 0, 1) := by decide +kernel
theorem dX9_clearRow_12 : decode cX9_clearRow 12 = .ok (.iload_n 1, 1) := by decide +kernel
theorem dX9_clearRow_13 : decode cX9_clearRow 13 = .ok (.iload_n 2, 1) := by decide +kernel
theorem dX9_clearRow_14 : decode cX9_clearRow 14 = .ok (.iload_n 3, 1) := by decide +kernel
theorem dX9_clearRow_15 : decode cX9_clearRow 15 = .ok (.iload 4, 2) := by decide +kernel
theorem dX9_clearRow_17 : decode cX9_clearRow 17 = .ok (.invokevirtual 124, 3) := by decide +kernel
theorem dX9_clearRow_20 : decode cX9_clearRow 20 = .ok (.invokevirtual 128, 3) := by decide +kernel
theorem dX9_clearRow_23 : decode cX9_clearRow 23 = .ok (.iinc 4 1, 3) := by decide +kernel
theorem dX9_clearRow_26 : decode cX9_clearRow 26 = .ok (.goto (-23), 3) := by decide +kernel
theorem dX9_clearRow_29 : decode cX9_clearRow 29 = .ok (.return_, 1) := by decide +kernel
theorem nmX9_clearRow : mm_nm yX9_clearRow 3 := ⟨by decide, by decide, by decide +kernel⟩
theorem cdX9_clearRow : mm_cd cd_Y yX9_clearRow cX9_clearRow 5 none := ⟨tw_977, tw_8⟩
abbrev rmX9_clearRow : Room := { frames := 1, cells := 0, slots := 0, locals := 25 }
def fX9_clearRow_3  : Nat → Nat → Int32 → Int32 → Int32 → Int32 → mm_M → Option mm_M
  | 0 => fun _ _ _ _ _ _ => none
  | n + 1 => fun a0 x1 x2 x3 x4 σ =>
  (if 32 ≤ x4 then some (σ) else mm_sh σ a0 (.inl 9) (mm_on (fX9_cellAt a0 x1 x2 x3 x4 σ) fun q3 => mm_sh q3.2 a0 (.inl 9) (mm_on (fX9_clear a0 q3.1 q3.2) fun q5 => (fX9_clearRow_3  n a0 x1 x2 x3 (x4 + 1) q5))))
def fX9_clearRow (p0 : Nat) (p1 : Int32) (p2 : Int32) (p3 : Int32) (σ : mm_M) : Option mm_M :=
  (fX9_clearRow_3  mm_fuel p0 p1 p2 p3 0 σ)
set_option maxHeartbeats 4000000 in
set_option maxRecDepth 100000 in
theorem kX9_clearRow_3 {G : mm_G} {A : Nat → Prop} {ini : Bool × Option (List (Nat × Nat × Nat × Nat))}  {R : mm_M}  : ∀ (a0 : Nat) (x1 : Int32) (x2 : Int32) (x3 : Int32) (x4 : Int32) (σ : mm_M), fX9_clearRow_3  mm_fuel a0 x1 x2 x3 x4 σ = some R → mm_J cd_Y G RX9 cX9_clearRow 5 none ini rmX9_clearRow A (mm_QF cd_Y G A (mm_Pv R) rmX9_clearRow.cells rmX9_clearRow.slots) 3 [(0, .ref a0), (1, .int x1), (2, .int x2), (3, .int x3), (4, .int x4)] [] σ 0 0 := by
  generalize mm_fuel = n
  induction n with
  | zero => intro a0 x1 x2 x3 x4 σ hf; cases hf
  | succ n ih =>
    intro a0 x1 x2 x3 x4 σ hf
    unfold fX9_clearRow_3 at hf
    refine mm_iload (j := 4) dX9_clearRow_3 rfl ?_
    refine mm_bipush (v := 32) dX9_clearRow_5 (by decide) ?_
    refine mm_icmp_ge (tgt := 29) dX9_clearRow_7 (by decide) (fun c1 => ?_) (fun c1 => ?_)
    · rw [if_pos c1] at hf
      cases hf
      refine mm_widen (ck' := rmX9_clearRow.cells) (sk' := rmX9_clearRow.slots) (Nat.le_of_ble_eq_true rfl) (Nat.le_of_ble_eq_true rfl) ?_
      exact mm_vret rfl dX9_clearRow_29 ⟨rfl, rfl⟩
    · rw [if_neg c1] at hf
      refine mm_aload_n (j := 0) dX9_clearRow_10 rfl rfl ?_
      refine mm_aload_n (j := 0) dX9_clearRow_11 rfl rfl ?_
      refine mm_iload_n (j := 1) dX9_clearRow_12 rfl rfl ?_
      refine mm_iload_n (j := 2) dX9_clearRow_13 rfl rfl ?_
      refine mm_iload_n (j := 3) dX9_clearRow_14 rfl rfl ?_
      refine mm_iload (j := 4) dX9_clearRow_15 rfl ?_
      obtain ⟨hs2, hf⟩ := mm_sh_s hf
      obtain ⟨q3, hq3, hf⟩ := mm_on_s hf
      refine mm_callVi cd_ok (kX9_cellAt a0 x1 x2 x3 x4 hq3) hs2 rfl (Or.inl tw_970) cdX9_cellAt tw_972 ts_36 nmX9_cellAt rfl rfl (by simp only [List.map_cons, List.map_nil, mm_rf_cat]; exact Nat.le_of_ble_eq_true rfl) dX9_clearRow_17 ⟨Nat.le_of_ble_eq_true rfl, Nat.le_of_ble_eq_true rfl⟩ ⟨Nat.le_of_ble_eq_true rfl, Nat.le_of_ble_eq_true rfl⟩ ?_
      obtain ⟨hs4, hf⟩ := mm_sh_s hf
      obtain ⟨q5, hq5, hf⟩ := mm_on_s hf
      refine mm_callVv cd_ok (kX9_clear a0 q3.1 hq5) hs4 rfl (Or.inl tw_978) cdX9_clear tw_980 ts_38 nmX9_clear rfl rfl (by simp only [List.map_cons, List.map_nil, mm_rf_cat]; exact Nat.le_of_ble_eq_true rfl) dX9_clearRow_20 ⟨Nat.le_of_ble_eq_true rfl, Nat.le_of_ble_eq_true rfl⟩ ⟨Nat.le_of_ble_eq_true rfl, Nat.le_of_ble_eq_true rfl⟩ ?_
      refine mm_iinc (j := 4) (L' := [(4, .int (x4 + 1)), (0, .ref a0), (1, .int x1), (2, .int x2), (3, .int x3)]) dX9_clearRow_23 rfl rfl (by decide) rfl ?_
      refine mm_goto (tgt := 3) dX9_clearRow_26 (by decide) ?_
      refine mm_sub [1, 2, 3, 4, 0] rfl ?_
      exact ih a0 x1 x2 x3 (x4 + 1) q5 hf
set_option maxHeartbeats 4000000 in
set_option maxRecDepth 100000 in
theorem kX9_clearRow {G : mm_G} {A : Nat → Prop} (p0 : Nat) (p1 : Int32) (p2 : Int32) (p3 : Int32) {σ : mm_M} {R : mm_M} (hf : fX9_clearRow p0 p1 p2 p3 σ = some R) : mm_C cd_Y G yX9_clearRow cX9_clearRow 5 none rmX9_clearRow A [.ref p0, .int p1, .int p2, .int p3] σ (mm_Pv R) := by
  refine mm_C.of (by decide) (Nat.le_of_ble_eq_true rfl) ?_
  unfold fX9_clearRow at hf
  have e0 : lv_args 0 [.ref p0, .int p1, .int p2, .int p3] = [(0, .ref p0), (1, .int p1), (2, .int p2), (3, .int p3)] := rfl
  rw [e0]
  generalize hini : ((yX9_clearRow.name == "<init>"), none) = ini
  clear e0
  clear hini
  refine mm_iconst (v := 0) dX9_clearRow_0 (by decide) ?_
  refine mm_istore (L' := [(4, .int 0), (0, .ref p0), (1, .int p1), (2, .int p2), (3, .int p3)]) dX9_clearRow_1 (by decide) rfl ?_
  refine mm_sub [1, 2, 3, 4, 0] rfl ?_
  exact kX9_clearRow_3  p0 p1 p2 p3 0 σ hf
theorem dX9_clearScreen_0 : decode cX9_clearScreen 0 = .ok (.iconst 1, 1) := by decide +kernel
theorem dX9_clearScreen_1 : decode cX9_clearScreen 1 = .ok (.istore_n 3, 1) := by decide +kernel
theorem dX9_clearScreen_2 : decode cX9_clearScreen 2 = .ok (.iload_n 3, 1) := by decide +kernel
theorem dX9_clearScreen_3 : decode cX9_clearScreen 3 = .ok (.bipush 15, 2) := by decide +kernel
theorem dX9_clearScreen_5 : decode cX9_clearScreen 5 = .ok (.if_icmp .gt 16, 3) := by decide +kernel
theorem dX9_clearScreen_8 : decode cX9_clearScreen 8 = .ok (.aload_n 0, 1) := by decide +kernel
theorem dX9_clearScreen_9 : decode cX9_clearScreen 9 = .ok (.iload_n 1, 1) := by decide +kernel
theorem dX9_clearScreen_10 : decode cX9_clearScreen 10 = .ok (.iload_n 2, 1) := by decide +kernel
theorem dX9_clearScreen_11 : decode cX9_clearScreen 11 = .ok (.iload_n 3, 1) := by decide +kernel
theorem dX9_clearScreen_12 : decode cX9_clearScreen 12 = .ok (.invokevirtual 132, 3) := by decide +kernel
theorem dX9_clearScreen_15 : decode cX9_clearScreen 15 = .ok (.iinc 3 1, 3) := by decide +kernel
theorem dX9_clearScreen_18 : decode cX9_clearScreen 18 = .ok (.goto (-16), 3) := by decide +kernel
theorem dX9_clearScreen_21 : decode cX9_clearScreen 21 = .ok (.return_, 1) := by decide +kernel
theorem nmX9_clearScreen : mm_nm yX9_clearScreen 2 := ⟨by decide, by decide, by decide +kernel⟩
theorem cdX9_clearScreen : mm_cd cd_Y yX9_clearScreen cX9_clearScreen 4 none := ⟨tw_997, tw_8⟩
abbrev rmX9_clearScreen : Room := { frames := 2, cells := 0, slots := 0, locals := 49 }
def fX9_clearScreen_2  : Nat → Nat → Int32 → Int32 → Int32 → mm_M → Option mm_M
  | 0 => fun _ _ _ _ _ => none
  | n + 1 => fun a0 x1 x2 x3 σ =>
  (if 15 < x3 then some (σ) else mm_sh σ a0 (.inl 9) (mm_on (fX9_clearRow a0 x1 x2 x3 σ) fun q3 => (fX9_clearScreen_2  n a0 x1 x2 (x3 + 1) q3)))
def fX9_clearScreen (p0 : Nat) (p1 : Int32) (p2 : Int32) (σ : mm_M) : Option mm_M :=
  (fX9_clearScreen_2  mm_fuel p0 p1 p2 1 σ)
set_option maxHeartbeats 4000000 in
set_option maxRecDepth 100000 in
theorem kX9_clearScreen_2 {G : mm_G} {A : Nat → Prop} {ini : Bool × Option (List (Nat × Nat × Nat × Nat))}  {R : mm_M}  : ∀ (a0 : Nat) (x1 : Int32) (x2 : Int32) (x3 : Int32) (σ : mm_M), fX9_clearScreen_2  mm_fuel a0 x1 x2 x3 σ = some R → mm_J cd_Y G RX9 cX9_clearScreen 4 none ini rmX9_clearScreen A (mm_QF cd_Y G A (mm_Pv R) rmX9_clearScreen.cells rmX9_clearScreen.slots) 2 [(0, .ref a0), (1, .int x1), (2, .int x2), (3, .int x3)] [] σ 0 0 := by
  generalize mm_fuel = n
  induction n with
  | zero => intro a0 x1 x2 x3 σ hf; cases hf
  | succ n ih =>
    intro a0 x1 x2 x3 σ hf
    unfold fX9_clearScreen_2 at hf
    refine mm_iload_n (j := 3) dX9_clearScreen_2 rfl rfl ?_
    refine mm_bipush (v := 15) dX9_clearScreen_3 (by decide) ?_
    refine mm_icmp_gt (tgt := 21) dX9_clearScreen_5 (by decide) (fun c1 => ?_) (fun c1 => ?_)
    · rw [if_pos c1] at hf
      cases hf
      refine mm_widen (ck' := rmX9_clearScreen.cells) (sk' := rmX9_clearScreen.slots) (Nat.le_of_ble_eq_true rfl) (Nat.le_of_ble_eq_true rfl) ?_
      exact mm_vret rfl dX9_clearScreen_21 ⟨rfl, rfl⟩
    · rw [if_neg c1] at hf
      refine mm_aload_n (j := 0) dX9_clearScreen_8 rfl rfl ?_
      refine mm_iload_n (j := 1) dX9_clearScreen_9 rfl rfl ?_
      refine mm_iload_n (j := 2) dX9_clearScreen_10 rfl rfl ?_
      refine mm_iload_n (j := 3) dX9_clearScreen_11 rfl rfl ?_
      obtain ⟨hs2, hf⟩ := mm_sh_s hf
      obtain ⟨q3, hq3, hf⟩ := mm_on_s hf
      refine mm_callVv cd_ok (kX9_clearRow a0 x1 x2 x3 hq3) hs2 rfl (Or.inl tw_974) cdX9_clearRow tw_976 ts_37 nmX9_clearRow rfl rfl (by simp only [List.map_cons, List.map_nil, mm_rf_cat]; exact Nat.le_of_ble_eq_true rfl) dX9_clearScreen_12 ⟨Nat.le_of_ble_eq_true rfl, Nat.le_of_ble_eq_true rfl⟩ ⟨Nat.le_of_ble_eq_true rfl, Nat.le_of_ble_eq_true rfl⟩ ?_
      refine mm_iinc (j := 3) (L' := [(3, .int (x3 + 1)), (0, .ref a0), (1, .int x1), (2, .int x2)]) dX9_clearScreen_15 rfl rfl (by decide) rfl ?_
      refine mm_goto (tgt := 2) dX9_clearScreen_18 (by decide) ?_
      refine mm_sub [1, 2, 3, 0] rfl ?_
      exact ih a0 x1 x2 (x3 + 1) q3 hf
set_option maxHeartbeats 4000000 in
set_option maxRecDepth 100000 in
theorem kX9_clearScreen {G : mm_G} {A : Nat → Prop} (p0 : Nat) (p1 : Int32) (p2 : Int32) {σ : mm_M} {R : mm_M} (hf : fX9_clearScreen p0 p1 p2 σ = some R) : mm_C cd_Y G yX9_clearScreen cX9_clearScreen 4 none rmX9_clearScreen A [.ref p0, .int p1, .int p2] σ (mm_Pv R) := by
  refine mm_C.of (by decide) (Nat.le_of_ble_eq_true rfl) ?_
  unfold fX9_clearScreen at hf
  have e0 : lv_args 0 [.ref p0, .int p1, .int p2] = [(0, .ref p0), (1, .int p1), (2, .int p2)] := rfl
  rw [e0]
  generalize hini : ((yX9_clearScreen.name == "<init>"), none) = ini
  clear e0
  clear hini
  refine mm_iconst (v := 1) dX9_clearScreen_0 (by decide) ?_
  refine mm_istore_n (L' := [(3, .int 1), (0, .ref p0), (1, .int p1), (2, .int p2)]) dX9_clearScreen_1 rfl (by decide) rfl ?_
  refine mm_sub [1, 2, 3, 0] rfl ?_
  exact kX9_clearScreen_2  p0 p1 p2 1 σ hf
theorem dX9_screenOf_0 : decode cX9_screenOf 0 = .ok (.aload_n 0, 1) := by decide +kernel
theorem dX9_screenOf_1 : decode cX9_screenOf 1 = .ok (.getfield 19, 3) := by decide +kernel
theorem dX9_screenOf_4 : decode cX9_screenOf 4 = .ok (.iload_n 1, 1) := by decide +kernel
theorem dX9_screenOf_5 : decode cX9_screenOf 5 = .ok (.iaload, 1) := by decide +kernel
theorem dX9_screenOf_6 : decode cX9_screenOf 6 = .ok (.iconst 1, 1) := by decide +kernel
theorem dX9_screenOf_7 : decode cX9_screenOf 7 = .ok (.if_icmp .ne 7, 3) := by decide +kernel
theorem dX9_screenOf_10 : decode cX9_screenOf 10 = .ok (.iconst 1, 1) := by decide +kernel
theorem dX9_screenOf_11 : decode cX9_screenOf 11 = .ok (.goto 28, 3) := by decide +kernel
theorem dX9_screenOf_14 : decode cX9_screenOf 14 = .ok (.aload_n 0, 1) := by decide +kernel
theorem dX9_screenOf_15 : decode cX9_screenOf 15 = .ok (.getfield 19, 3) := by decide +kernel
theorem dX9_screenOf_18 : decode cX9_screenOf 18 = .ok (.iload_n 1, 1) := by decide +kernel
theorem dX9_screenOf_19 : decode cX9_screenOf 19 = .ok (.iaload, 1) := by decide +kernel
theorem dX9_screenOf_20 : decode cX9_screenOf 20 = .ok (.iconst 2, 1) := by decide +kernel
theorem dX9_screenOf_21 : decode cX9_screenOf 21 = .ok (.if_icmp .eq 13, 3) := by decide +kernel
theorem dX9_screenOf_24 : decode cX9_screenOf 24 = .ok (.aload_n 0, 1) := by decide +kernel
theorem dX9_screenOf_25 : decode cX9_screenOf 25 = .ok (.getfield 19, 3) := by decide +kernel
theorem dX9_screenOf_28 : decode cX9_screenOf 28 = .ok (.iload_n 1, 1) := by decide +kernel
theorem dX9_screenOf_29 : decode cX9_screenOf 29 = .ok (.iaload, 1) := by decide +kernel
theorem dX9_screenOf_30 : decode cX9_screenOf 30 = .ok (.iconst 3, 1) := by decide +kernel
theorem dX9_screenOf_31 : decode cX9_screenOf 31 = .ok (.if_icmp .ne 7, 3) := by decide +kernel
theorem dX9_screenOf_34 : decode cX9_screenOf 34 = .ok (.iconst 0, 1) := by decide +kernel
theorem dX9_screenOf_35 : decode cX9_screenOf 35 = .ok (.goto 4, 3) := by decide +kernel
theorem dX9_screenOf_38 : decode cX9_screenOf 38 = .ok (.iconst (-1), 1) := by decide +kernel
theorem dX9_screenOf_39 : decode cX9_screenOf 39 = .ok (.ireturn, 1) := by decide +kernel
theorem nmX9_screenOf : mm_nm yX9_screenOf 1 := ⟨by decide, by decide, by decide +kernel⟩
theorem cdX9_screenOf : mm_cd cd_Y yX9_screenOf cX9_screenOf 2 (some .int) := ⟨tw_962, tw_8⟩
abbrev rmX9_screenOf : Room := { frames := 0, cells := 0, slots := 0, locals := 0 }
def fX9_screenOf (p0 : Nat) (p1 : Int32) (σ : mm_M) : Option (Int32 × mm_M) :=
  mm_sh σ p0 (.inl 9) (mm_on (mm_R σ p0 4) fun q2 => mm_ar σ q2 0 fun n3 => mm_ib p1 n3 ((if (mm_I σ q2 p1.toNatClampNeg) = 1 then some (1, σ) else mm_on (mm_R σ p0 4) fun q6 => mm_ar σ q6 0 fun n7 => mm_ib p1 n7 ((if (mm_I σ q6 p1.toNatClampNeg) = 2 then some (0, σ) else mm_on (mm_R σ p0 4) fun q10 => mm_ar σ q10 0 fun n11 => mm_ib p1 n11 ((if (mm_I σ q10 p1.toNatClampNeg) = 3 then some (0, σ) else some ((-1), σ))))))))
set_option maxHeartbeats 4000000 in
set_option maxRecDepth 100000 in
theorem kX9_screenOf {G : mm_G} {A : Nat → Prop} (p0 : Nat) (p1 : Int32) {σ : mm_M} {R : (Int32 × mm_M)} (hf : fX9_screenOf p0 p1 σ = some R) : mm_C cd_Y G yX9_screenOf cX9_screenOf 2 (some .int) rmX9_screenOf A [.ref p0, .int p1] σ (mm_Pi R.1 R.2) := by
  refine mm_C.of (by decide) (Nat.le_of_ble_eq_true rfl) ?_
  unfold fX9_screenOf at hf
  have e0 : lv_args 0 [.ref p0, .int p1] = [(0, .ref p0), (1, .int p1)] := rfl
  rw [e0]
  generalize hini : ((yX9_screenOf.name == "<init>"), none) = ini
  clear e0
  clear hini
  refine mm_aload_n (j := 0) dX9_screenOf_0 rfl rfl ?_
  obtain ⟨hs1, hf⟩ := mm_sh_s hf
  refine mm_get (c := 9) (k := 4) (v := va_rf (mm_R σ p0 4)) cd_ok ⟨_, _, _, rfl, by decide, Or.inl tw_798⟩ hs1 rfl dX9_screenOf_1 ?_
  refine mm_iload_n (j := 1) dX9_screenOf_4 rfl rfl ?_
  obtain ⟨q2, hq2, hf⟩ := mm_on_s hf
  rw [hq2, mm_rf_some]
  obtain ⟨n3, hn3, hf⟩ := mm_ar_s hf
  obtain ⟨hi4, hf⟩ := mm_ib_s hf
  refine mm_iald hn3 rfl hi4 dX9_screenOf_5 ?_
  refine mm_iconst (v := 1) dX9_screenOf_6 (by decide) ?_
  refine mm_icmp_ne (tgt := 14) dX9_screenOf_7 (by decide) (fun c5 => ?_) (fun c5 => ?_)
  · rw [if_neg c5] at hf
    refine mm_aload_n (j := 0) dX9_screenOf_14 rfl rfl ?_
    refine mm_get (c := 9) (k := 4) (v := va_rf (mm_R σ p0 4)) cd_ok ⟨_, _, _, rfl, by decide, Or.inl tw_798⟩ hs1 rfl dX9_screenOf_15 ?_
    refine mm_iload_n (j := 1) dX9_screenOf_18 rfl rfl ?_
    obtain ⟨q6, hq6, hf⟩ := mm_on_s hf
    rw [hq6, mm_rf_some]
    obtain ⟨n7, hn7, hf⟩ := mm_ar_s hf
    obtain ⟨hi8, hf⟩ := mm_ib_s hf
    refine mm_iald hn7 rfl hi8 dX9_screenOf_19 ?_
    refine mm_iconst (v := 2) dX9_screenOf_20 (by decide) ?_
    refine mm_icmp_eq (tgt := 34) dX9_screenOf_21 (by decide) (fun c9 => ?_) (fun c9 => ?_)
    · rw [if_pos c9] at hf
      refine mm_iconst (v := 0) dX9_screenOf_34 (by decide) ?_
      refine mm_goto (tgt := 39) dX9_screenOf_35 (by decide) ?_
      cases hf
      refine mm_widen (ck' := rmX9_screenOf.cells) (sk' := rmX9_screenOf.slots) (Nat.le_of_ble_eq_true rfl) (Nat.le_of_ble_eq_true rfl) ?_
      exact mm_iret rfl rfl dX9_screenOf_39 ⟨rfl, rfl⟩
    · rw [if_neg c9] at hf
      refine mm_aload_n (j := 0) dX9_screenOf_24 rfl rfl ?_
      refine mm_get (c := 9) (k := 4) (v := va_rf (mm_R σ p0 4)) cd_ok ⟨_, _, _, rfl, by decide, Or.inl tw_798⟩ hs1 rfl dX9_screenOf_25 ?_
      refine mm_iload_n (j := 1) dX9_screenOf_28 rfl rfl ?_
      obtain ⟨q10, hq10, hf⟩ := mm_on_s hf
      rw [hq10, mm_rf_some]
      obtain ⟨n11, hn11, hf⟩ := mm_ar_s hf
      obtain ⟨hi12, hf⟩ := mm_ib_s hf
      refine mm_iald hn11 rfl hi12 dX9_screenOf_29 ?_
      refine mm_iconst (v := 3) dX9_screenOf_30 (by decide) ?_
      refine mm_icmp_ne (tgt := 38) dX9_screenOf_31 (by decide) (fun c13 => ?_) (fun c13 => ?_)
      · rw [if_neg c13] at hf
        refine mm_iconst (v := (-1)) dX9_screenOf_38 (by decide) ?_
        cases hf
        refine mm_widen (ck' := rmX9_screenOf.cells) (sk' := rmX9_screenOf.slots) (Nat.le_of_ble_eq_true rfl) (Nat.le_of_ble_eq_true rfl) ?_
        exact mm_iret rfl rfl dX9_screenOf_39 ⟨rfl, rfl⟩
      · rw [if_pos c13] at hf
        refine mm_iconst (v := 0) dX9_screenOf_34 (by decide) ?_
        refine mm_goto (tgt := 39) dX9_screenOf_35 (by decide) ?_
        cases hf
        refine mm_widen (ck' := rmX9_screenOf.cells) (sk' := rmX9_screenOf.slots) (Nat.le_of_ble_eq_true rfl) (Nat.le_of_ble_eq_true rfl) ?_
        exact mm_iret rfl rfl dX9_screenOf_39 ⟨rfl, rfl⟩
  · rw [if_pos c5] at hf
    refine mm_iconst (v := 1) dX9_screenOf_10 (by decide) ?_
    refine mm_goto (tgt := 39) dX9_screenOf_11 (by decide) ?_
    cases hf
    refine mm_widen (ck' := rmX9_screenOf.cells) (sk' := rmX9_screenOf.slots) (Nat.le_of_ble_eq_true rfl) (Nat.le_of_ble_eq_true rfl) ?_
    exact mm_iret rfl rfl dX9_screenOf_39 ⟨rfl, rfl⟩
theorem dX9_put_0 : decode cX9_put 0 = .ok (.aload_n 0, 1) := by decide +kernel
theorem dX9_put_1 : decode cX9_put 1 = .ok (.iload_n 1, 1) := by decide +kernel
theorem dX9_put_2 : decode cX9_put 2 = .ok (.invokevirtual 136, 3) := by decide +kernel
theorem dX9_put_5 : decode cX9_put 5 = .ok (.istore_n 3, 1) := by decide +kernel
theorem dX9_put_6 : decode cX9_put 6 = .ok (.iload_n 3, 1) := by decide +kernel
theorem dX9_put_7 : decode cX9_put 7 = .ok (.iconst (-1), 1) := by decide +kernel
theorem dX9_put_8 : decode cX9_put 8 = .ok (.if_icmp .ne 4, 3) := by decide +kernel
theorem dX9_put_11 : decode cX9_put 11 = .ok (.return_, 1) := by decide +kernel
theorem dX9_put_12 : decode cX9_put 12 = .ok (.aload_n 0, 1) := by decide +kernel
theorem dX9_put_13 : decode cX9_put 13 = .ok (.iload_n 1, 1) := by decide +kernel
theorem dX9_put_14 : decode cX9_put 14 = .ok (.iload_n 3, 1) := by decide +kernel
theorem dX9_put_15 : decode cX9_put 15 = .ok (.aload_n 0, 1) := by decide +kernel
theorem dX9_put_16 : decode cX9_put 16 = .ok (.getfield 22, 3) := by decide +kernel
theorem dX9_put_19 : decode cX9_put 19 = .ok (.iload_n 1, 1) := by decide +kernel
theorem dX9_put_20 : decode cX9_put 20 = .ok (.iaload, 1) := by decide +kernel
theorem dX9_put_21 : decode cX9_put 21 = .ok (.aload_n 0, 1) := by decide +kernel
theorem dX9_put_22 : decode cX9_put 22 = .ok (.getfield 25, 3) := by decide +kernel
theorem dX9_put_25 : decode cX9_put 25 = .ok (.iload_n 1, 1) := by decide +kernel
theorem dX9_put_26 : decode cX9_put 26 = .ok (.iaload, 1) := by decide +kernel
theorem dX9_put_27 : decode cX9_put 27 = .ok (.bipush 32, 2) := by decide +kernel
theorem dX9_put_29 : decode cX9_put 29 = .ok (.if_icmp .ge 12, 3) := by decide +kernel
theorem dX9_put_32 : decode cX9_put 32 = .ok (.aload_n 0, 1) := by decide +kernel
theorem dX9_put_33 : decode cX9_put 33 = .ok (.getfield 25, 3) := by decide +kernel
theorem dX9_put_36 : decode cX9_put 36 = .ok (.iload_n 1, 1) := by decide +kernel
theorem dX9_put_37 : decode cX9_put 37 = .ok (.iaload, 1) := by decide +kernel
theorem dX9_put_38 : decode cX9_put 38 = .ok (.goto 5, 3) := by decide +kernel
theorem dX9_put_41 : decode cX9_put 41 = .ok (.bipush 31, 2) := by decide +kernel
theorem dX9_put_43 : decode cX9_put 43 = .ok (.invokevirtual 124, 3) := by decide +kernel
theorem dX9_put_46 : decode cX9_put 46 = .ok (.istore 4, 2) := by decide +kernel
theorem dX9_put_48 : decode cX9_put 48 = .ok (.aload_n 0, 1) := by decide +kernel
theorem dX9_put_49 : decode cX9_put 49 = .ok (.getfield 7, 3) := by decide +kernel
theorem dX9_put_52 : decode cX9_put 52 = .ok (.iload 4, 2) := by decide +kernel
theorem dX9_put_54 : decode cX9_put 54 = .ok (.iload_n 2, 1) := by decide +kernel
theorem dX9_put_55 : decode cX9_put 55 = .ok (.iastore, 1) := by decide +kernel
theorem dX9_put_56 : decode cX9_put 56 = .ok (.aload_n 0, 1) := by decide +kernel
theorem dX9_put_57 : decode cX9_put 57 = .ok (.getfield 13, 3) := by decide +kernel
theorem dX9_put_60 : decode cX9_put 60 = .ok (.iload 4, 2) := by decide +kernel
theorem dX9_put_62 : decode cX9_put 62 = .ok (.aload_n 0, 1) := by decide +kernel
theorem dX9_put_63 : decode cX9_put 63 = .ok (.getfield 28, 3) := by decide +kernel
theorem dX9_put_66 : decode cX9_put 66 = .ok (.iload_n 1, 1) := by decide +kernel
theorem dX9_put_67 : decode cX9_put 67 = .ok (.iaload, 1) := by decide +kernel
theorem dX9_put_68 : decode cX9_put 68 = .ok (.iastore, 1) := by decide +kernel
theorem dX9_put_69 : decode cX9_put 69 = .ok (.aload_n 0, 1) := by decide +kernel
theorem dX9_put_70 : decode cX9_put 70 = .ok (.getfield 25, 3) := by decide +kernel
theorem dX9_put_73 : decode cX9_put 73 = .ok (.iload_n 1, 1) := by decide +kernel
theorem dX9_put_74 : decode cX9_put 74 = .ok (.aload_n 0, 1) := by decide +kernel
theorem dX9_put_75 : decode cX9_put 75 = .ok (.getfield 25, 3) := by decide +kernel
theorem dX9_put_78 : decode cX9_put 78 = .ok (.iload_n 1, 1) := by decide +kernel
theorem dX9_put_79 : decode cX9_put 79 = .ok (.iaload, 1) := by decide +kernel
theorem dX9_put_80 : decode cX9_put 80 = .ok (.bipush 32, 2) := by decide +kernel
theorem dX9_put_82 : decode cX9_put 82 = .ok (.if_icmp .ge 14, 3) := by decide +kernel
theorem dX9_put_85 : decode cX9_put 85 = .ok (.aload_n 0, 1) := by decide +kernel
theorem dX9_put_86 : decode cX9_put 86 = .ok (.getfield 25, 3) := by decide +kernel
theorem dX9_put_89 : decode cX9_put 89 = .ok (.iload_n 1, 1) := by decide +kernel
theorem dX9_put_90 : decode cX9_put 90 = .ok (.iaload, 1) := by decide +kernel
theorem dX9_put_91 : decode cX9_put 91 = .ok (.iconst 1, 1) := by decide +kernel
theorem dX9_put_92 : decode cX9_put 92 = .ok (.iadd, 1) := by decide +kernel
theorem dX9_put_93 : decode cX9_put 93 = .ok (.goto 5, 3) := by decide +kernel
theorem dX9_put_96 : decode cX9_put 96 = .ok (.bipush 32, 2) := by decide +kernel
theorem dX9_put_98 : decode cX9_put 98 = .ok (.iastore, 1) := by decide +kernel
theorem dX9_put_99 : decode cX9_put 99 = .ok (.return_, 1) := by decide +kernel
theorem nmX9_put : mm_nm yX9_put 2 := ⟨by decide, by decide, by decide +kernel⟩
theorem cdX9_put : mm_cd cd_Y yX9_put cX9_put 5 none := ⟨tw_985, tw_8⟩
abbrev rmX9_put : Room := { frames := 1, cells := 0, slots := 0, locals := 25 }
def fX9_put_43  (a0 : Nat) (x1 : Int32) (x2 : Int32) (x3 : Int32) (y0 : Int32) (y1 : Int32) (y2 : Int32) (y3 : Int32) (y4 : Nat) (σ : mm_M) : Option mm_M :=
  mm_sh σ y4 (.inl 9) (mm_on (fX9_cellAt y4 y3 y2 y1 y0 σ) fun q13 => mm_sh q13.2 a0 (.inl 9) (mm_on (mm_R q13.2 a0 1) fun q15 => mm_ar q13.2 q15 0 fun n16 => mm_ib q13.1 n16 (mm_let (mm_wI q13.2 q15 (q13.1.toNatClampNeg) x2) fun s18 => mm_on (mm_R s18 a0 7) fun q19 => mm_ar s18 q19 0 fun n20 => mm_ib x1 n20 (mm_on (mm_R s18 a0 2) fun q22 => mm_ar s18 q22 0 fun n23 => mm_ib q13.1 n23 (mm_let (mm_wI s18 q22 (q13.1.toNatClampNeg) (mm_I s18 q19 x1.toNatClampNeg)) fun s25 => mm_on (mm_R s25 a0 6) fun q26 => mm_ar s25 q26 0 fun n27 => mm_ib x1 n27 ((if 32 ≤ (mm_I s25 q26 x1.toNatClampNeg) then mm_ib x1 n27 (mm_let (mm_wI s25 q26 (x1.toNatClampNeg) 32) fun s31 => some (s31)) else mm_on (mm_R s25 a0 6) fun q32 => mm_ar s25 q32 0 fun n33 => mm_ib x1 n33 (mm_ib x1 n27 (mm_let (mm_wI s25 q26 (x1.toNatClampNeg) ((mm_I s25 q32 x1.toNatClampNeg) + 1)) fun s36 => some (s36))))))))))
def fX9_put (p0 : Nat) (p1 : Int32) (p2 : Int32) (σ : mm_M) : Option mm_M :=
  mm_sh σ p0 (.inl 9) (mm_on (fX9_screenOf p0 p1 σ) fun q2 => (if q2.1 = (-1) then some (q2.2) else mm_sh q2.2 p0 (.inl 9) (mm_on (mm_R q2.2 p0 5) fun q5 => mm_ar q2.2 q5 0 fun n6 => mm_ib p1 n6 (mm_on (mm_R q2.2 p0 6) fun q8 => mm_ar q2.2 q8 0 fun n9 => mm_ib p1 n9 ((if 32 ≤ (mm_I q2.2 q8 p1.toNatClampNeg) then (fX9_put_43  p0 p1 p2 q2.1 31 (mm_I q2.2 q5 p1.toNatClampNeg) q2.1 p1 p0 q2.2) else mm_on (mm_R q2.2 p0 6) fun q37 => mm_ar q2.2 q37 0 fun n38 => mm_ib p1 n38 ((fX9_put_43  p0 p1 p2 q2.1 (mm_I q2.2 q37 p1.toNatClampNeg) (mm_I q2.2 q5 p1.toNatClampNeg) q2.1 p1 p0 q2.2))))))))
set_option maxHeartbeats 4000000 in
set_option maxRecDepth 100000 in
theorem kX9_put_43 {G : mm_G} {A : Nat → Prop} {ini : Bool × Option (List (Nat × Nat × Nat × Nat))}  {R : mm_M}  (a0 : Nat) (x1 : Int32) (x2 : Int32) (x3 : Int32) (y0 : Int32) (y1 : Int32) (y2 : Int32) (y3 : Int32) (y4 : Nat) (σ : mm_M) (hf : fX9_put_43  a0 x1 x2 x3 y0 y1 y2 y3 y4 σ = some R) : mm_J cd_Y G RX9 cX9_put 5 none ini rmX9_put A (mm_QF cd_Y G A (mm_Pv R) rmX9_put.cells rmX9_put.slots) 43 [(0, .ref a0), (1, .int x1), (2, .int x2), (3, .int x3)] [.int y0, .int y1, .int y2, .int y3, .ref y4] σ 0 0 := by
  unfold fX9_put_43 at hf
  obtain ⟨hs12, hf⟩ := mm_sh_s hf
  obtain ⟨q13, hq13, hf⟩ := mm_on_s hf
  refine mm_callVi cd_ok (kX9_cellAt y4 y3 y2 y1 y0 hq13) hs12 rfl (Or.inl tw_970) cdX9_cellAt tw_972 ts_36 nmX9_cellAt rfl rfl (by simp only [List.map_cons, List.map_nil, mm_rf_cat]; exact Nat.le_of_ble_eq_true rfl) dX9_put_43 ⟨Nat.le_of_ble_eq_true rfl, Nat.le_of_ble_eq_true rfl⟩ ⟨Nat.le_of_ble_eq_true rfl, Nat.le_of_ble_eq_true rfl⟩ ?_
  refine mm_istore (L' := [(4, .int q13.1), (0, .ref a0), (1, .int x1), (2, .int x2), (3, .int x3)]) dX9_put_46 (by decide) rfl ?_
  refine mm_aload_n (j := 1) dX9_put_48 rfl rfl ?_
  obtain ⟨hs14, hf⟩ := mm_sh_s hf
  refine mm_get (c := 9) (k := 1) (v := va_rf (mm_R q13.2 a0 1)) cd_ok ⟨_, _, _, rfl, by decide, Or.inl tw_795⟩ hs14 rfl dX9_put_49 ?_
  refine mm_iload (j := 0) dX9_put_52 rfl ?_
  refine mm_iload_n (j := 3) dX9_put_54 rfl rfl ?_
  obtain ⟨q15, hq15, hf⟩ := mm_on_s hf
  rw [hq15, mm_rf_some]
  obtain ⟨n16, hn16, hf⟩ := mm_ar_s hf
  obtain ⟨hi17, hf⟩ := mm_ib_s hf
  refine mm_iast hn16 rfl hi17 dX9_put_55 ?_
  obtain ⟨s18, hs18, hf⟩ := mm_let_s hf
  rw [hs18]
  refine mm_aload_n (j := 1) dX9_put_56 rfl rfl ?_
  refine mm_get (c := 9) (k := 2) (v := va_rf (mm_R s18 a0 2)) cd_ok ⟨_, _, _, rfl, by decide, Or.inl tw_796⟩ (mm_ke hs18 hs14) rfl dX9_put_57 ?_
  refine mm_iload (j := 0) dX9_put_60 rfl ?_
  refine mm_aload_n (j := 1) dX9_put_62 rfl rfl ?_
  refine mm_get (c := 9) (k := 7) (v := va_rf (mm_R s18 a0 7)) cd_ok ⟨_, _, _, rfl, by decide, Or.inl tw_801⟩ (mm_ke hs18 hs14) rfl dX9_put_63 ?_
  refine mm_iload_n (j := 2) dX9_put_66 rfl rfl ?_
  obtain ⟨q19, hq19, hf⟩ := mm_on_s hf
  rw [hq19, mm_rf_some]
  obtain ⟨n20, hn20, hf⟩ := mm_ar_s hf
  obtain ⟨hi21, hf⟩ := mm_ib_s hf
  refine mm_iald hn20 rfl hi21 dX9_put_67 ?_
  obtain ⟨q22, hq22, hf⟩ := mm_on_s hf
  rw [hq22, mm_rf_some]
  obtain ⟨n23, hn23, hf⟩ := mm_ar_s hf
  obtain ⟨hi24, hf⟩ := mm_ib_s hf
  refine mm_iast hn23 rfl hi24 dX9_put_68 ?_
  obtain ⟨s25, hs25, hf⟩ := mm_let_s hf
  rw [hs25]
  refine mm_aload_n (j := 1) dX9_put_69 rfl rfl ?_
  refine mm_get (c := 9) (k := 6) (v := va_rf (mm_R s25 a0 6)) cd_ok ⟨_, _, _, rfl, by decide, Or.inl tw_800⟩ (mm_ke hs25 (mm_ke hs18 hs14)) rfl dX9_put_70 ?_
  refine mm_iload_n (j := 2) dX9_put_73 rfl rfl ?_
  refine mm_aload_n (j := 1) dX9_put_74 rfl rfl ?_
  refine mm_get (c := 9) (k := 6) (v := va_rf (mm_R s25 a0 6)) cd_ok ⟨_, _, _, rfl, by decide, Or.inl tw_800⟩ (mm_ke hs25 (mm_ke hs18 hs14)) rfl dX9_put_75 ?_
  refine mm_iload_n (j := 2) dX9_put_78 rfl rfl ?_
  obtain ⟨q26, hq26, hf⟩ := mm_on_s hf
  rw [hq26, mm_rf_some]
  obtain ⟨n27, hn27, hf⟩ := mm_ar_s hf
  obtain ⟨hi28, hf⟩ := mm_ib_s hf
  refine mm_iald hn27 rfl hi28 dX9_put_79 ?_
  refine mm_bipush (v := 32) dX9_put_80 (by decide) ?_
  refine mm_icmp_ge (tgt := 96) dX9_put_82 (by decide) (fun c29 => ?_) (fun c29 => ?_)
  · rw [if_pos c29] at hf
    refine mm_bipush (v := 32) dX9_put_96 (by decide) ?_
    obtain ⟨hi30, hf⟩ := mm_ib_s hf
    refine mm_iast hn27 rfl hi30 dX9_put_98 ?_
    obtain ⟨s31, hs31, hf⟩ := mm_let_s hf
    rw [hs31]
    cases hf
    refine mm_widen (ck' := rmX9_put.cells) (sk' := rmX9_put.slots) (Nat.le_of_ble_eq_true rfl) (Nat.le_of_ble_eq_true rfl) ?_
    exact mm_vret rfl dX9_put_99 ⟨rfl, rfl⟩
  · rw [if_neg c29] at hf
    refine mm_aload_n (j := 1) dX9_put_85 rfl rfl ?_
    refine mm_get (c := 9) (k := 6) (v := va_rf (mm_R s25 a0 6)) cd_ok ⟨_, _, _, rfl, by decide, Or.inl tw_800⟩ (mm_ke hs25 (mm_ke hs18 hs14)) rfl dX9_put_86 ?_
    refine mm_iload_n (j := 2) dX9_put_89 rfl rfl ?_
    obtain ⟨q32, hq32, hf⟩ := mm_on_s hf
    rw [hq32, mm_rf_some]
    obtain ⟨n33, hn33, hf⟩ := mm_ar_s hf
    obtain ⟨hi34, hf⟩ := mm_ib_s hf
    refine mm_iald hn33 rfl hi34 dX9_put_90 ?_
    refine mm_iconst (v := 1) dX9_put_91 (by decide) ?_
    refine mm_iadd dX9_put_92 ?_
    refine mm_goto (tgt := 98) dX9_put_93 (by decide) ?_
    obtain ⟨hi35, hf⟩ := mm_ib_s hf
    refine mm_iast hn27 rfl hi35 dX9_put_98 ?_
    obtain ⟨s36, hs36, hf⟩ := mm_let_s hf
    rw [hs36]
    cases hf
    refine mm_widen (ck' := rmX9_put.cells) (sk' := rmX9_put.slots) (Nat.le_of_ble_eq_true rfl) (Nat.le_of_ble_eq_true rfl) ?_
    exact mm_vret rfl dX9_put_99 ⟨rfl, rfl⟩
set_option maxHeartbeats 4000000 in
set_option maxRecDepth 100000 in
theorem kX9_put {G : mm_G} {A : Nat → Prop} (p0 : Nat) (p1 : Int32) (p2 : Int32) {σ : mm_M} {R : mm_M} (hf : fX9_put p0 p1 p2 σ = some R) : mm_C cd_Y G yX9_put cX9_put 5 none rmX9_put A [.ref p0, .int p1, .int p2] σ (mm_Pv R) := by
  refine mm_C.of (by decide) (Nat.le_of_ble_eq_true rfl) ?_
  unfold fX9_put at hf
  have e0 : lv_args 0 [.ref p0, .int p1, .int p2] = [(0, .ref p0), (1, .int p1), (2, .int p2)] := rfl
  rw [e0]
  generalize hini : ((yX9_put.name == "<init>"), none) = ini
  clear e0
  clear hini
  refine mm_aload_n (j := 0) dX9_put_0 rfl rfl ?_
  refine mm_iload_n (j := 1) dX9_put_1 rfl rfl ?_
  obtain ⟨hs1, hf⟩ := mm_sh_s hf
  obtain ⟨q2, hq2, hf⟩ := mm_on_s hf
  refine mm_callVi cd_ok (kX9_screenOf p0 p1 hq2) hs1 rfl (Or.inl tw_959) cdX9_screenOf tw_961 ts_34 nmX9_screenOf rfl rfl (by simp only [List.map_cons, List.map_nil, mm_rf_cat]; exact Nat.le_of_ble_eq_true rfl) dX9_put_2 ⟨Nat.le_of_ble_eq_true rfl, Nat.le_of_ble_eq_true rfl⟩ ⟨Nat.le_of_ble_eq_true rfl, Nat.le_of_ble_eq_true rfl⟩ ?_
  refine mm_istore_n (L' := [(3, .int q2.1), (0, .ref p0), (1, .int p1), (2, .int p2)]) dX9_put_5 rfl (by decide) rfl ?_
  refine mm_iload_n (j := 0) dX9_put_6 rfl rfl ?_
  refine mm_iconst (v := (-1)) dX9_put_7 (by decide) ?_
  refine mm_icmp_ne (tgt := 12) dX9_put_8 (by decide) (fun c3 => ?_) (fun c3 => ?_)
  · rw [if_neg c3] at hf
    refine mm_aload_n (j := 1) dX9_put_12 rfl rfl ?_
    refine mm_iload_n (j := 2) dX9_put_13 rfl rfl ?_
    refine mm_iload_n (j := 0) dX9_put_14 rfl rfl ?_
    refine mm_aload_n (j := 1) dX9_put_15 rfl rfl ?_
    obtain ⟨hs4, hf⟩ := mm_sh_s hf
    refine mm_get (c := 9) (k := 5) (v := va_rf (mm_R q2.2 p0 5)) cd_ok ⟨_, _, _, rfl, by decide, Or.inl tw_799⟩ hs4 rfl dX9_put_16 ?_
    refine mm_iload_n (j := 2) dX9_put_19 rfl rfl ?_
    obtain ⟨q5, hq5, hf⟩ := mm_on_s hf
    rw [hq5, mm_rf_some]
    obtain ⟨n6, hn6, hf⟩ := mm_ar_s hf
    obtain ⟨hi7, hf⟩ := mm_ib_s hf
    refine mm_iald hn6 rfl hi7 dX9_put_20 ?_
    refine mm_aload_n (j := 1) dX9_put_21 rfl rfl ?_
    refine mm_get (c := 9) (k := 6) (v := va_rf (mm_R q2.2 p0 6)) cd_ok ⟨_, _, _, rfl, by decide, Or.inl tw_800⟩ hs4 rfl dX9_put_22 ?_
    refine mm_iload_n (j := 2) dX9_put_25 rfl rfl ?_
    obtain ⟨q8, hq8, hf⟩ := mm_on_s hf
    rw [hq8, mm_rf_some]
    obtain ⟨n9, hn9, hf⟩ := mm_ar_s hf
    obtain ⟨hi10, hf⟩ := mm_ib_s hf
    refine mm_iald hn9 rfl hi10 dX9_put_26 ?_
    refine mm_bipush (v := 32) dX9_put_27 (by decide) ?_
    refine mm_icmp_ge (tgt := 41) dX9_put_29 (by decide) (fun c11 => ?_) (fun c11 => ?_)
    · rw [if_pos c11] at hf
      refine mm_bipush (v := 31) dX9_put_41 (by decide) ?_
      refine mm_sub [1, 2, 3, 0] rfl ?_
      exact kX9_put_43  p0 p1 p2 q2.1 31 (mm_I q2.2 q5 p1.toNatClampNeg) q2.1 p1 p0 q2.2 hf
    · rw [if_neg c11] at hf
      refine mm_aload_n (j := 1) dX9_put_32 rfl rfl ?_
      refine mm_get (c := 9) (k := 6) (v := va_rf (mm_R q2.2 p0 6)) cd_ok ⟨_, _, _, rfl, by decide, Or.inl tw_800⟩ hs4 rfl dX9_put_33 ?_
      refine mm_iload_n (j := 2) dX9_put_36 rfl rfl ?_
      obtain ⟨q37, hq37, hf⟩ := mm_on_s hf
      rw [hq37, mm_rf_some]
      obtain ⟨n38, hn38, hf⟩ := mm_ar_s hf
      obtain ⟨hi39, hf⟩ := mm_ib_s hf
      refine mm_iald hn38 rfl hi39 dX9_put_37 ?_
      refine mm_goto (tgt := 43) dX9_put_38 (by decide) ?_
      refine mm_sub [1, 2, 3, 0] rfl ?_
      exact kX9_put_43  p0 p1 p2 q2.1 (mm_I q2.2 q37 p1.toNatClampNeg) (mm_I q2.2 q5 p1.toNatClampNeg) q2.1 p1 p0 q2.2 hf
  · rw [if_pos c3] at hf
    cases hf
    refine mm_widen (ck' := rmX9_put.cells) (sk' := rmX9_put.slots) (Nat.le_of_ble_eq_true rfl) (Nat.le_of_ble_eq_true rfl) ?_
    exact mm_vret rfl dX9_put_11 ⟨rfl, rfl⟩
theorem dX9_rowOf_0 : decode cX9_rowOf 0 = .ok (.iload_n 0, 1) := by decide +kernel
theorem dX9_rowOf_1 : decode cX9_rowOf 1 = .ok (.tableswitch 65 16 23 #[59, 47, 49, 62, 65, 51, 53, 56], 47) := by decide +kernel
theorem dX9_rowOf_48 : decode cX9_rowOf 48 = .ok (.iconst 1, 1) := by decide +kernel
theorem dX9_rowOf_49 : decode cX9_rowOf 49 = .ok (.ireturn, 1) := by decide +kernel
theorem dX9_rowOf_50 : decode cX9_rowOf 50 = .ok (.iconst 3, 1) := by decide +kernel
theorem dX9_rowOf_51 : decode cX9_rowOf 51 = .ok (.ireturn, 1) := by decide +kernel
theorem dX9_rowOf_52 : decode cX9_rowOf 52 = .ok (.iconst 5, 1) := by decide +kernel
theorem dX9_rowOf_53 : decode cX9_rowOf 53 = .ok (.ireturn, 1) := by decide +kernel
theorem dX9_rowOf_54 : decode cX9_rowOf 54 = .ok (.bipush 7, 2) := by decide +kernel
theorem dX9_rowOf_56 : decode cX9_rowOf 56 = .ok (.ireturn, 1) := by decide +kernel
theorem dX9_rowOf_57 : decode cX9_rowOf 57 = .ok (.bipush 9, 2) := by decide +kernel
theorem dX9_rowOf_59 : decode cX9_rowOf 59 = .ok (.ireturn, 1) := by decide +kernel
theorem dX9_rowOf_60 : decode cX9_rowOf 60 = .ok (.bipush 11, 2) := by decide +kernel
theorem dX9_rowOf_62 : decode cX9_rowOf 62 = .ok (.ireturn, 1) := by decide +kernel
theorem dX9_rowOf_63 : decode cX9_rowOf 63 = .ok (.bipush 12, 2) := by decide +kernel
theorem dX9_rowOf_65 : decode cX9_rowOf 65 = .ok (.ireturn, 1) := by decide +kernel
theorem dX9_rowOf_66 : decode cX9_rowOf 66 = .ok (.bipush 14, 2) := by decide +kernel
theorem dX9_rowOf_68 : decode cX9_rowOf 68 = .ok (.ireturn, 1) := by decide +kernel
theorem nmX9_rowOf : mm_nm yX9_rowOf 1 := ⟨by decide, by decide, by decide +kernel⟩
theorem cdX9_rowOf : mm_cd cd_Y yX9_rowOf cX9_rowOf 1 (some .int) := ⟨tw_965, tw_8⟩
abbrev rmX9_rowOf : Room := { frames := 0, cells := 0, slots := 0, locals := 0 }
def fX9_rowOf (p0 : Int32) : Int32 :=
  (if p0 = 16 then 11 else (if p0 = 17 then 1 else (if p0 = 18 then 3 else (if p0 = 19 then 12 else (if p0 = 21 then 5 else (if p0 = 22 then 7 else (if p0 = 23 then 9 else 14)))))))
set_option maxHeartbeats 4000000 in
set_option maxRecDepth 100000 in
theorem kX9_rowOf {G : mm_G} {A : Nat → Prop} (p0 : Int32) (σ0 : mm_M) {R : Int32} (hf : fX9_rowOf p0 = R) : mm_C cd_Y G yX9_rowOf cX9_rowOf 1 (some .int) rmX9_rowOf A [.int p0] σ0 (mm_Pi R σ0) := by
  refine mm_C.of (by decide) (Nat.le_of_ble_eq_true rfl) ?_
  unfold fX9_rowOf at hf
  have e0 : lv_args 0 [.int p0] = [(0, .int p0)] := rfl
  rw [e0]
  generalize hini : ((yX9_rowOf.name == "<init>"), none) = ini
  clear e0
  clear hini
  refine mm_iload_n (j := 0) dX9_rowOf_0 rfl rfl ?_
  by_cases c1 : p0 = 16
  · rw [if_pos c1] at hf
    refine mm_tableEq (off := 59) (tgt := 60) dX9_rowOf_1 c1 (by decide) (by decide) (by decide) (by decide) ?_
    refine mm_bipush (v := 11) dX9_rowOf_60 (by decide) ?_
    subst hf
    refine mm_widen (ck' := rmX9_rowOf.cells) (sk' := rmX9_rowOf.slots) (Nat.le_of_ble_eq_true rfl) (Nat.le_of_ble_eq_true rfl) ?_
    exact mm_iret rfl rfl dX9_rowOf_62 ⟨rfl, rfl⟩
  rw [if_neg c1] at hf
  by_cases c2 : p0 = 17
  · rw [if_pos c2] at hf
    refine mm_tableEq (off := 47) (tgt := 48) dX9_rowOf_1 c2 (by decide) (by decide) (by decide) (by decide) ?_
    refine mm_iconst (v := 1) dX9_rowOf_48 (by decide) ?_
    subst hf
    refine mm_widen (ck' := rmX9_rowOf.cells) (sk' := rmX9_rowOf.slots) (Nat.le_of_ble_eq_true rfl) (Nat.le_of_ble_eq_true rfl) ?_
    exact mm_iret rfl rfl dX9_rowOf_49 ⟨rfl, rfl⟩
  rw [if_neg c2] at hf
  by_cases c3 : p0 = 18
  · rw [if_pos c3] at hf
    refine mm_tableEq (off := 49) (tgt := 50) dX9_rowOf_1 c3 (by decide) (by decide) (by decide) (by decide) ?_
    refine mm_iconst (v := 3) dX9_rowOf_50 (by decide) ?_
    subst hf
    refine mm_widen (ck' := rmX9_rowOf.cells) (sk' := rmX9_rowOf.slots) (Nat.le_of_ble_eq_true rfl) (Nat.le_of_ble_eq_true rfl) ?_
    exact mm_iret rfl rfl dX9_rowOf_51 ⟨rfl, rfl⟩
  rw [if_neg c3] at hf
  by_cases c4 : p0 = 19
  · rw [if_pos c4] at hf
    refine mm_tableEq (off := 62) (tgt := 63) dX9_rowOf_1 c4 (by decide) (by decide) (by decide) (by decide) ?_
    refine mm_bipush (v := 12) dX9_rowOf_63 (by decide) ?_
    subst hf
    refine mm_widen (ck' := rmX9_rowOf.cells) (sk' := rmX9_rowOf.slots) (Nat.le_of_ble_eq_true rfl) (Nat.le_of_ble_eq_true rfl) ?_
    exact mm_iret rfl rfl dX9_rowOf_65 ⟨rfl, rfl⟩
  rw [if_neg c4] at hf
  by_cases c5 : p0 = 21
  · rw [if_pos c5] at hf
    refine mm_tableEq (off := 51) (tgt := 52) dX9_rowOf_1 c5 (by decide) (by decide) (by decide) (by decide) ?_
    refine mm_iconst (v := 5) dX9_rowOf_52 (by decide) ?_
    subst hf
    refine mm_widen (ck' := rmX9_rowOf.cells) (sk' := rmX9_rowOf.slots) (Nat.le_of_ble_eq_true rfl) (Nat.le_of_ble_eq_true rfl) ?_
    exact mm_iret rfl rfl dX9_rowOf_53 ⟨rfl, rfl⟩
  rw [if_neg c5] at hf
  by_cases c6 : p0 = 22
  · rw [if_pos c6] at hf
    refine mm_tableEq (off := 53) (tgt := 54) dX9_rowOf_1 c6 (by decide) (by decide) (by decide) (by decide) ?_
    refine mm_bipush (v := 7) dX9_rowOf_54 (by decide) ?_
    subst hf
    refine mm_widen (ck' := rmX9_rowOf.cells) (sk' := rmX9_rowOf.slots) (Nat.le_of_ble_eq_true rfl) (Nat.le_of_ble_eq_true rfl) ?_
    exact mm_iret rfl rfl dX9_rowOf_56 ⟨rfl, rfl⟩
  rw [if_neg c6] at hf
  by_cases c7 : p0 = 23
  · rw [if_pos c7] at hf
    refine mm_tableEq (off := 56) (tgt := 57) dX9_rowOf_1 c7 (by decide) (by decide) (by decide) (by decide) ?_
    refine mm_bipush (v := 9) dX9_rowOf_57 (by decide) ?_
    subst hf
    refine mm_widen (ck' := rmX9_rowOf.cells) (sk' := rmX9_rowOf.slots) (Nat.le_of_ble_eq_true rfl) (Nat.le_of_ble_eq_true rfl) ?_
    exact mm_iret rfl rfl dX9_rowOf_59 ⟨rfl, rfl⟩
  rw [if_neg c7] at hf
  by_cases c8 : p0 = 20
  · refine mm_tableEq (off := 65) (tgt := 66) dX9_rowOf_1 c8 (by decide) (by decide) (by decide) (by decide) ?_
    refine mm_bipush (v := 14) dX9_rowOf_66 (by decide) ?_
    subst hf
    refine mm_widen (ck' := rmX9_rowOf.cells) (sk' := rmX9_rowOf.slots) (Nat.le_of_ble_eq_true rfl) (Nat.le_of_ble_eq_true rfl) ?_
    exact mm_iret rfl rfl dX9_rowOf_68 ⟨rfl, rfl⟩
  refine mm_tableOut (tgt := 66) dX9_rowOf_1 (by have nc1 := mm_neI (k := 16) (by decide) c1; have nc2 := mm_neI (k := 17) (by decide) c2; have nc3 := mm_neI (k := 18) (by decide) c3; have nc4 := mm_neI (k := 19) (by decide) c4; have nc5 := mm_neI (k := 21) (by decide) c5; have nc6 := mm_neI (k := 22) (by decide) c6; have nc7 := mm_neI (k := 23) (by decide) c7; have nc8 := mm_neI (k := 20) (by decide) c8; omega) (by decide) ?_
  refine mm_bipush (v := 14) dX9_rowOf_66 (by decide) ?_
  subst hf
  refine mm_widen (ck' := rmX9_rowOf.cells) (sk' := rmX9_rowOf.slots) (Nat.le_of_ble_eq_true rfl) (Nat.le_of_ble_eq_true rfl) ?_
  exact mm_iret rfl rfl dX9_rowOf_68 ⟨rfl, rfl⟩
theorem dX9_toRow_0 : decode cX9_toRow 0 = .ok (.iload_n 2, 1) := by decide +kernel
theorem dX9_toRow_1 : decode cX9_toRow 1 = .ok (.istore_n 3, 1) := by decide +kernel
theorem dX9_toRow_2 : decode cX9_toRow 2 = .ok (.aload_n 0, 1) := by decide +kernel
theorem dX9_toRow_3 : decode cX9_toRow 3 = .ok (.getfield 19, 3) := by decide +kernel
theorem dX9_toRow_6 : decode cX9_toRow 6 = .ok (.iload_n 1, 1) := by decide +kernel
theorem dX9_toRow_7 : decode cX9_toRow 7 = .ok (.iaload, 1) := by decide +kernel
theorem dX9_toRow_8 : decode cX9_toRow 8 = .ok (.iconst 2, 1) := by decide +kernel
theorem dX9_toRow_9 : decode cX9_toRow 9 = .ok (.if_icmp .ne 269, 3) := by decide +kernel
theorem dX9_toRow_12 : decode cX9_toRow 12 = .ok (.aload_n 0, 1) := by decide +kernel
theorem dX9_toRow_13 : decode cX9_toRow 13 = .ok (.getfield 31, 3) := by decide +kernel
theorem dX9_toRow_16 : decode cX9_toRow 16 = .ok (.iload_n 1, 1) := by decide +kernel
theorem dX9_toRow_17 : decode cX9_toRow 17 = .ok (.iaload, 1) := by decide +kernel
theorem dX9_toRow_18 : decode cX9_toRow 18 = .ok (.istore 4, 2) := by decide +kernel
theorem dX9_toRow_20 : decode cX9_toRow 20 = .ok (.iload_n 2, 1) := by decide +kernel
theorem dX9_toRow_21 : decode cX9_toRow 21 = .ok (.iload 4, 2) := by decide +kernel
theorem dX9_toRow_23 : decode cX9_toRow 23 = .ok (.if_icmp .ge 8, 3) := by decide +kernel
theorem dX9_toRow_26 : decode cX9_toRow 26 = .ok (.iload 4, 2) := by decide +kernel
theorem dX9_toRow_28 : decode cX9_toRow 28 = .ok (.goto 4, 3) := by decide +kernel
theorem dX9_toRow_31 : decode cX9_toRow 31 = .ok (.iload_n 2, 1) := by decide +kernel
theorem dX9_toRow_32 : decode cX9_toRow 32 = .ok (.istore_n 3, 1) := by decide +kernel
theorem dX9_toRow_33 : decode cX9_toRow 33 = .ok (.iload_n 3, 1) := by decide +kernel
theorem dX9_toRow_34 : decode cX9_toRow 34 = .ok (.aload_n 0, 1) := by decide +kernel
theorem dX9_toRow_35 : decode cX9_toRow 35 = .ok (.getfield 22, 3) := by decide +kernel
theorem dX9_toRow_38 : decode cX9_toRow 38 = .ok (.iload_n 1, 1) := by decide +kernel
theorem dX9_toRow_39 : decode cX9_toRow 39 = .ok (.iaload, 1) := by decide +kernel
theorem dX9_toRow_40 : decode cX9_toRow 40 = .ok (.if_icmp .eq 238, 3) := by decide +kernel
theorem dX9_toRow_43 : decode cX9_toRow 43 = .ok (.iconst 0, 1) := by decide +kernel
theorem dX9_toRow_44 : decode cX9_toRow 44 = .ok (.istore 5, 2) := by decide +kernel
theorem dX9_toRow_46 : decode cX9_toRow 46 = .ok (.iload 5, 2) := by decide +kernel
theorem dX9_toRow_48 : decode cX9_toRow 48 = .ok (.iload 4, 2) := by decide +kernel
theorem dX9_toRow_50 : decode cX9_toRow 50 = .ok (.if_icmp .ge 137, 3) := by decide +kernel
theorem dX9_toRow_53 : decode cX9_toRow 53 = .ok (.aload_n 0, 1) := by decide +kernel
theorem dX9_toRow_54 : decode cX9_toRow 54 = .ok (.getfield 22, 3) := by decide +kernel
theorem dX9_toRow_57 : decode cX9_toRow 57 = .ok (.iload_n 1, 1) := by decide +kernel
theorem dX9_toRow_58 : decode cX9_toRow 58 = .ok (.iaload, 1) := by decide +kernel
theorem dX9_toRow_59 : decode cX9_toRow 59 = .ok (.iload 4, 2) := by decide +kernel
theorem dX9_toRow_61 : decode cX9_toRow 61 = .ok (.isub, 1) := by decide +kernel
theorem dX9_toRow_62 : decode cX9_toRow 62 = .ok (.iconst 1, 1) := by decide +kernel
theorem dX9_toRow_63 : decode cX9_toRow 63 = .ok (.iadd, 1) := by decide +kernel
theorem dX9_toRow_64 : decode cX9_toRow 64 = .ok (.iload 5, 2) := by decide +kernel
theorem dX9_toRow_66 : decode cX9_toRow 66 = .ok (.iadd, 1) := by decide +kernel
theorem dX9_toRow_67 : decode cX9_toRow 67 = .ok (.istore 6, 2) := by decide +kernel
theorem dX9_toRow_69 : decode cX9_toRow 69 = .ok (.iconst 0, 1) := by decide +kernel
theorem dX9_toRow_70 : decode cX9_toRow 70 = .ok (.istore 7, 2) := by decide +kernel
theorem dX9_toRow_72 : decode cX9_toRow 72 = .ok (.iload 7, 2) := by decide +kernel
theorem dX9_toRow_74 : decode cX9_toRow 74 = .ok (.bipush 32, 2) := by decide +kernel
theorem dX9_toRow_76 : decode cX9_toRow 76 = .ok (.if_icmp .ge 91, 3) := by decide +kernel
theorem dX9_toRow_79 : decode cX9_toRow 79 = .ok (.iload 6, 2) := by decide +kernel
theorem dX9_toRow_81 : decode cX9_toRow 81 = .ok (.iconst 1, 1) := by decide +kernel
theorem dX9_toRow_82 : decode cX9_toRow 82 = .ok (.if_icmp .lt 16, 3) := by decide +kernel
theorem dX9_toRow_85 : decode cX9_toRow 85 = .ok (.aload_n 0, 1) := by decide +kernel
theorem dX9_toRow_86 : decode cX9_toRow 86 = .ok (.iload_n 1, 1) := by decide +kernel
theorem dX9_toRow_87 : decode cX9_toRow 87 = .ok (.iconst 0, 1) := by decide +kernel
theorem dX9_toRow_88 : decode cX9_toRow 88 = .ok (.iload 6, 2) := by decide +kernel
theorem dX9_toRow_90 : decode cX9_toRow 90 = .ok (.iload 7, 2) := by decide +kernel
theorem dX9_toRow_92 : decode cX9_toRow 92 = .ok (.invokevirtual 124, 3) := by decide +kernel
theorem dX9_toRow_95 : decode cX9_toRow 95 = .ok (.goto 4, 3) := by decide +kernel
theorem dX9_toRow_98 : decode cX9_toRow 98 = .ok (.iconst (-1), 1) := by decide +kernel
theorem dX9_toRow_99 : decode cX9_toRow 99 = .ok (.istore 8, 2) := by decide +kernel
theorem dX9_toRow_101 : decode cX9_toRow 101 = .ok (.aload_n 0, 1) := by decide +kernel
theorem dX9_toRow_102 : decode cX9_toRow 102 = .ok (.getfield 111, 3) := by decide +kernel
theorem dX9_toRow_105 : decode cX9_toRow 105 = .ok (.bipush 32, 2) := by decide +kernel
theorem dX9_toRow_107 : decode cX9_toRow 107 = .ok (.iload 5, 2) := by decide +kernel
theorem dX9_toRow_109 : decode cX9_toRow 109 = .ok (.imul, 1) := by decide +kernel
theorem dX9_toRow_110 : decode cX9_toRow 110 = .ok (.iload 7, 2) := by decide +kernel
theorem dX9_toRow_112 : decode cX9_toRow 112 = .ok (.iadd, 1) := by decide +kernel
theorem dX9_toRow_113 : decode cX9_toRow 113 = .ok (.iload 8, 2) := by decide +kernel
theorem dX9_toRow_115 : decode cX9_toRow 115 = .ok (.iconst (-1), 1) := by decide +kernel
theorem dX9_toRow_116 : decode cX9_toRow 116 = .ok (.if_icmp .ne 7, 3) := by decide +kernel
theorem dX9_toRow_119 : decode cX9_toRow 119 = .ok (.iconst 0, 1) := by decide +kernel
theorem dX9_toRow_120 : decode cX9_toRow 120 = .ok (.goto 10, 3) := by decide +kernel
theorem dX9_toRow_123 : decode cX9_toRow 123 = .ok (.aload_n 0, 1) := by decide +kernel
theorem dX9_toRow_124 : decode cX9_toRow 124 = .ok (.getfield 7, 3) := by decide +kernel
theorem dX9_toRow_127 : decode cX9_toRow 127 = .ok (.iload 8, 2) := by decide +kernel
theorem dX9_toRow_129 : decode cX9_toRow 129 = .ok (.iaload, 1) := by decide +kernel
theorem dX9_toRow_130 : decode cX9_toRow 130 = .ok (.iastore, 1) := by decide +kernel
theorem dX9_toRow_131 : decode cX9_toRow 131 = .ok (.aload_n 0, 1) := by decide +kernel
theorem dX9_toRow_132 : decode cX9_toRow 132 = .ok (.getfield 114, 3) := by decide +kernel
theorem dX9_toRow_135 : decode cX9_toRow 135 = .ok (.bipush 32, 2) := by decide +kernel
theorem dX9_toRow_137 : decode cX9_toRow 137 = .ok (.iload 5, 2) := by decide +kernel
theorem dX9_toRow_139 : decode cX9_toRow 139 = .ok (.imul, 1) := by decide +kernel
theorem dX9_toRow_140 : decode cX9_toRow 140 = .ok (.iload 7, 2) := by decide +kernel
theorem dX9_toRow_142 : decode cX9_toRow 142 = .ok (.iadd, 1) := by decide +kernel
theorem dX9_toRow_143 : decode cX9_toRow 143 = .ok (.iload 8, 2) := by decide +kernel
theorem dX9_toRow_145 : decode cX9_toRow 145 = .ok (.iconst (-1), 1) := by decide +kernel
theorem dX9_toRow_146 : decode cX9_toRow 146 = .ok (.if_icmp .ne 7, 3) := by decide +kernel
theorem dX9_toRow_149 : decode cX9_toRow 149 = .ok (.iconst 0, 1) := by decide +kernel
theorem dX9_toRow_150 : decode cX9_toRow 150 = .ok (.goto 10, 3) := by decide +kernel
theorem dX9_toRow_153 : decode cX9_toRow 153 = .ok (.aload_n 0, 1) := by decide +kernel
theorem dX9_toRow_154 : decode cX9_toRow 154 = .ok (.getfield 13, 3) := by decide +kernel
theorem dX9_toRow_157 : decode cX9_toRow 157 = .ok (.iload 8, 2) := by decide +kernel
theorem dX9_toRow_159 : decode cX9_toRow 159 = .ok (.iaload, 1) := by decide +kernel
theorem dX9_toRow_160 : decode cX9_toRow 160 = .ok (.iastore, 1) := by decide +kernel
theorem dX9_toRow_161 : decode cX9_toRow 161 = .ok (.iinc 7 1, 3) := by decide +kernel
theorem dX9_toRow_164 : decode cX9_toRow 164 = .ok (.goto (-92), 3) := by decide +kernel
theorem dX9_toRow_167 : decode cX9_toRow 167 = .ok (.iload 6, 2) := by decide +kernel
theorem dX9_toRow_169 : decode cX9_toRow 169 = .ok (.iconst 1, 1) := by decide +kernel
theorem dX9_toRow_170 : decode cX9_toRow 170 = .ok (.if_icmp .lt 11, 3) := by decide +kernel
theorem dX9_toRow_173 : decode cX9_toRow 173 = .ok (.aload_n 0, 1) := by decide +kernel
theorem dX9_toRow_174 : decode cX9_toRow 174 = .ok (.iload_n 1, 1) := by decide +kernel
theorem dX9_toRow_175 : decode cX9_toRow 175 = .ok (.iconst 0, 1) := by decide +kernel
theorem dX9_toRow_176 : decode cX9_toRow 176 = .ok (.iload 6, 2) := by decide +kernel
theorem dX9_toRow_178 : decode cX9_toRow 178 = .ok (.invokevirtual 132, 3) := by decide +kernel
theorem dX9_toRow_181 : decode cX9_toRow 181 = .ok (.iinc 5 1, 3) := by decide +kernel
theorem dX9_toRow_184 : decode cX9_toRow 184 = .ok (.goto (-138), 3) := by decide +kernel
theorem dX9_toRow_187 : decode cX9_toRow 187 = .ok (.iconst 0, 1) := by decide +kernel
theorem dX9_toRow_188 : decode cX9_toRow 188 = .ok (.istore 5, 2) := by decide +kernel
theorem dX9_toRow_190 : decode cX9_toRow 190 = .ok (.iload 5, 2) := by decide +kernel
theorem dX9_toRow_192 : decode cX9_toRow 192 = .ok (.iload 4, 2) := by decide +kernel
theorem dX9_toRow_194 : decode cX9_toRow 194 = .ok (.if_icmp .ge 84, 3) := by decide +kernel
theorem dX9_toRow_197 : decode cX9_toRow 197 = .ok (.iconst 0, 1) := by decide +kernel
theorem dX9_toRow_198 : decode cX9_toRow 198 = .ok (.istore 6, 2) := by decide +kernel
theorem dX9_toRow_200 : decode cX9_toRow 200 = .ok (.iload 6, 2) := by decide +kernel
theorem dX9_toRow_202 : decode cX9_toRow 202 = .ok (.bipush 32, 2) := by decide +kernel
theorem dX9_toRow_204 : decode cX9_toRow 204 = .ok (.if_icmp .ge 68, 3) := by decide +kernel
theorem dX9_toRow_207 : decode cX9_toRow 207 = .ok (.aload_n 0, 1) := by decide +kernel
theorem dX9_toRow_208 : decode cX9_toRow 208 = .ok (.iload_n 1, 1) := by decide +kernel
theorem dX9_toRow_209 : decode cX9_toRow 209 = .ok (.iconst 0, 1) := by decide +kernel
theorem dX9_toRow_210 : decode cX9_toRow 210 = .ok (.iload_n 3, 1) := by decide +kernel
theorem dX9_toRow_211 : decode cX9_toRow 211 = .ok (.iload 4, 2) := by decide +kernel
theorem dX9_toRow_213 : decode cX9_toRow 213 = .ok (.isub, 1) := by decide +kernel
theorem dX9_toRow_214 : decode cX9_toRow 214 = .ok (.iconst 1, 1) := by decide +kernel
theorem dX9_toRow_215 : decode cX9_toRow 215 = .ok (.iadd, 1) := by decide +kernel
theorem dX9_toRow_216 : decode cX9_toRow 216 = .ok (.iload 5, 2) := by decide +kernel
theorem dX9_toRow_218 : decode cX9_toRow 218 = .ok (.iadd, 1) := by decide +kernel
theorem dX9_toRow_219 : decode cX9_toRow 219 = .ok (.iload 6, 2) := by decide +kernel
theorem dX9_toRow_221 : decode cX9_toRow 221 = .ok (.invokevirtual 124, 3) := by decide +kernel
theorem dX9_toRow_224 : decode cX9_toRow 224 = .ok (.istore 7, 2) := by decide +kernel
theorem dX9_toRow_226 : decode cX9_toRow 226 = .ok (.aload_n 0, 1) := by decide +kernel
theorem dX9_toRow_227 : decode cX9_toRow 227 = .ok (.getfield 7, 3) := by decide +kernel
theorem dX9_toRow_230 : decode cX9_toRow 230 = .ok (.iload 7, 2) := by decide +kernel
theorem dX9_toRow_232 : decode cX9_toRow 232 = .ok (.aload_n 0, 1) := by decide +kernel
theorem dX9_toRow_233 : decode cX9_toRow 233 = .ok (.getfield 111, 3) := by decide +kernel
theorem dX9_toRow_236 : decode cX9_toRow 236 = .ok (.bipush 32, 2) := by decide +kernel
theorem dX9_toRow_238 : decode cX9_toRow 238 = .ok (.iload 5, 2) := by decide +kernel
theorem dX9_toRow_240 : decode cX9_toRow 240 = .ok (.imul, 1) := by decide +kernel
theorem dX9_toRow_241 : decode cX9_toRow 241 = .ok (.iload 6, 2) := by decide +kernel
theorem dX9_toRow_243 : decode cX9_toRow 243 = .ok (.iadd, 1) := by decide +kernel
theorem dX9_toRow_244 : decode cX9_toRow 244 = .ok (.iaload, 1) := by decide +kernel
theorem dX9_toRow_245 : decode cX9_toRow 245 = .ok (.iastore, 1) := by decide +kernel
theorem dX9_toRow_246 : decode cX9_toRow 246 = .ok (.aload_n 0, 1) := by decide +kernel
theorem dX9_toRow_247 : decode cX9_toRow 247 = .ok (.getfield 13, 3) := by decide +kernel
theorem dX9_toRow_250 : decode cX9_toRow 250 = .ok (.iload 7, 2) := by decide +kernel
theorem dX9_toRow_252 : decode cX9_toRow 252 = .ok (.aload_n 0, 1) := by decide +kernel
theorem dX9_toRow_253 : decode cX9_toRow 253 = .ok (.getfield 114, 3) := by decide +kernel
theorem dX9_toRow_256 : decode cX9_toRow 256 = .ok (.bipush 32, 2) := by decide +kernel
theorem dX9_toRow_258 : decode cX9_toRow 258 = .ok (.iload 5, 2) := by decide +kernel
theorem dX9_toRow_260 : decode cX9_toRow 260 = .ok (.imul, 1) := by decide +kernel
theorem dX9_toRow_261 : decode cX9_toRow 261 = .ok (.iload 6, 2) := by decide +kernel
theorem dX9_toRow_263 : decode cX9_toRow 263 = .ok (.iadd, 1) := by decide +kernel
theorem dX9_toRow_264 : decode cX9_toRow 264 = .ok (.iaload, 1) := by decide +kernel
theorem dX9_toRow_265 : decode cX9_toRow 265 = .ok (.iastore, 1) := by decide +kernel
theorem dX9_toRow_266 : decode cX9_toRow 266 = .ok (.iinc 6 1, 3) := by decide +kernel
theorem dX9_toRow_269 : decode cX9_toRow 269 = .ok (.goto (-69), 3) := by decide +kernel
theorem dX9_toRow_272 : decode cX9_toRow 272 = .ok (.iinc 5 1, 3) := by decide +kernel
theorem dX9_toRow_275 : decode cX9_toRow 275 = .ok (.goto (-85), 3) := by decide +kernel
theorem dX9_toRow_278 : decode cX9_toRow 278 = .ok (.aload_n 0, 1) := by decide +kernel
theorem dX9_toRow_279 : decode cX9_toRow 279 = .ok (.getfield 22, 3) := by decide +kernel
theorem dX9_toRow_282 : decode cX9_toRow 282 = .ok (.iload_n 1, 1) := by decide +kernel
theorem dX9_toRow_283 : decode cX9_toRow 283 = .ok (.iload_n 3, 1) := by decide +kernel
theorem dX9_toRow_284 : decode cX9_toRow 284 = .ok (.iastore, 1) := by decide +kernel
theorem dX9_toRow_285 : decode cX9_toRow 285 = .ok (.return_, 1) := by decide +kernel
theorem nmX9_toRow : mm_nm yX9_toRow 2 := ⟨by decide, by decide, by decide +kernel⟩
theorem cdX9_toRow : mm_cd cd_Y yX9_toRow cX9_toRow 9 none := ⟨tw_969, tw_8⟩
abbrev rmX9_toRow : Room := { frames := 2, cells := 0, slots := 0, locals := 49 }
def fX9_toRow_200 (k190 : Nat → Int32 → Int32 → Int32 → Int32 → Int32 → mm_M → Option mm_M) : Nat → Nat → Int32 → Int32 → Int32 → Int32 → Int32 → Int32 → mm_M → Option mm_M
  | 0 => fun _ _ _ _ _ _ _ _ => none
  | n + 1 => fun a0 x1 x2 x3 x4 x5 x6 σ =>
  (if 32 ≤ x6 then (k190 a0 x1 x2 x3 x4 (x5 + 1) σ) else mm_sh σ a0 (.inl 9) (mm_on (fX9_cellAt a0 x1 0 (((x3 - x4) + 1) + x5) x6 σ) fun q32 => mm_sh q32.2 a0 (.inl 9) (mm_on (mm_R q32.2 a0 42) fun q34 => mm_ar q32.2 q34 0 fun n35 => mm_ib ((32 * x5) + x6) n35 (mm_on (mm_R q32.2 a0 1) fun q37 => mm_ar q32.2 q37 0 fun n38 => mm_ib q32.1 n38 (mm_let (mm_wI q32.2 q37 (q32.1.toNatClampNeg) (mm_I q32.2 q34 ((32 * x5) + x6).toNatClampNeg)) fun s40 => mm_on (mm_R s40 a0 43) fun q41 => mm_ar s40 q41 0 fun n42 => mm_ib ((32 * x5) + x6) n42 (mm_on (mm_R s40 a0 2) fun q44 => mm_ar s40 q44 0 fun n45 => mm_ib q32.1 n45 (mm_let (mm_wI s40 q44 (q32.1.toNatClampNeg) (mm_I s40 q41 ((32 * x5) + x6).toNatClampNeg)) fun s47 => (fX9_toRow_200 k190 n a0 x1 x2 x3 x4 x5 (x6 + 1) s47))))))))
def fX9_toRow_190  : Nat → Nat → Int32 → Int32 → Int32 → Int32 → Int32 → mm_M → Option mm_M
  | 0 => fun _ _ _ _ _ _ _ => none
  | n + 1 => fun a0 x1 x2 x3 x4 x5 σ =>
  (if x4 ≤ x5 then mm_sh σ a0 (.inl 9) (mm_on (mm_R σ a0 5) fun q26 => mm_ar σ q26 0 fun n27 => mm_ib x1 n27 (mm_let (mm_wI σ q26 (x1.toNatClampNeg) x3) fun s29 => some (s29))) else (fX9_toRow_200 (fX9_toRow_190  n) mm_fuel a0 x1 x2 x3 x4 x5 0 σ))
def fX9_toRow_130 (k46 : Nat → Int32 → Int32 → Int32 → Int32 → Int32 → mm_M → Option mm_M) (k72 : Nat → Int32 → Int32 → Int32 → Int32 → Int32 → Int32 → Int32 → mm_M → Option mm_M) (a0 : Nat) (x1 : Int32) (x2 : Int32) (x3 : Int32) (x4 : Int32) (x5 : Int32) (x6 : Int32) (x7 : Int32) (x8 : Int32) (y0 : Int32) (y1 : Int32) (y2 : Option Nat) (σ : mm_M) : Option mm_M :=
  mm_on (y2) fun q62 => mm_ar σ q62 0 fun n63 => mm_ib y1 n63 (mm_let (mm_wI σ q62 (y1.toNatClampNeg) y0) fun s65 => mm_sh s65 a0 (.inl 9) ((if x8 = (-1) then mm_on (mm_R s65 a0 43) fun q75 => mm_ar s65 q75 0 fun n76 => mm_ib ((32 * x5) + x7) n76 (mm_let (mm_wI s65 q75 (((32 * x5) + x7).toNatClampNeg) 0) fun s78 => (k72 a0 x1 x2 x3 x4 x5 x6 (x7 + 1) s78)) else mm_on (mm_R s65 a0 2) fun q68 => mm_ar s65 q68 0 fun n69 => mm_ib x8 n69 (mm_on (mm_R s65 a0 43) fun q71 => mm_ar s65 q71 0 fun n72 => mm_ib ((32 * x5) + x7) n72 (mm_let (mm_wI s65 q71 (((32 * x5) + x7).toNatClampNeg) (mm_I s65 q68 x8.toNatClampNeg)) fun s74 => (k72 a0 x1 x2 x3 x4 x5 x6 (x7 + 1) s74))))))
def fX9_toRow_99 (k46 : Nat → Int32 → Int32 → Int32 → Int32 → Int32 → mm_M → Option mm_M) (k72 : Nat → Int32 → Int32 → Int32 → Int32 → Int32 → Int32 → Int32 → mm_M → Option mm_M) (a0 : Nat) (x1 : Int32) (x2 : Int32) (x3 : Int32) (x4 : Int32) (x5 : Int32) (x6 : Int32) (x7 : Int32) (y0 : Int32) (σ : mm_M) : Option mm_M :=
  mm_sh σ a0 (.inl 9) ((if y0 = (-1) then (fX9_toRow_130 k46 k72 a0 x1 x2 x3 x4 x5 x6 x7 y0 0 ((32 * x5) + x7) (mm_R σ a0 42) σ) else mm_on (mm_R σ a0 1) fun q59 => mm_ar σ q59 0 fun n60 => mm_ib y0 n60 ((fX9_toRow_130 k46 k72 a0 x1 x2 x3 x4 x5 x6 x7 y0 (mm_I σ q59 y0.toNatClampNeg) ((32 * x5) + x7) (mm_R σ a0 42) σ))))
def fX9_toRow_72 (k46 : Nat → Int32 → Int32 → Int32 → Int32 → Int32 → mm_M → Option mm_M) : Nat → Nat → Int32 → Int32 → Int32 → Int32 → Int32 → Int32 → Int32 → mm_M → Option mm_M
  | 0 => fun _ _ _ _ _ _ _ _ _ => none
  | n + 1 => fun a0 x1 x2 x3 x4 x5 x6 x7 σ =>
  (if 32 ≤ x7 then (if x6 < 1 then (k46 a0 x1 x2 x3 x4 (x5 + 1) σ) else mm_sh σ a0 (.inl 9) (mm_on (fX9_clearRow a0 x1 0 x6 σ) fun q55 => (k46 a0 x1 x2 x3 x4 (x5 + 1) q55))) else (if x6 < 1 then (fX9_toRow_99 k46 (fX9_toRow_72 k46 n) a0 x1 x2 x3 x4 x5 x6 x7 (-1) σ) else mm_sh σ a0 (.inl 9) (mm_on (fX9_cellAt a0 x1 0 x6 x7 σ) fun q80 => (fX9_toRow_99 k46 (fX9_toRow_72 k46 n) a0 x1 x2 x3 x4 x5 x6 x7 q80.1 q80.2))))
def fX9_toRow_46  : Nat → Nat → Int32 → Int32 → Int32 → Int32 → Int32 → mm_M → Option mm_M
  | 0 => fun _ _ _ _ _ _ _ => none
  | n + 1 => fun a0 x1 x2 x3 x4 x5 σ =>
  (if x4 ≤ x5 then (fX9_toRow_190  mm_fuel a0 x1 x2 x3 x4 0 σ) else mm_sh σ a0 (.inl 9) (mm_on (mm_R σ a0 5) fun q49 => mm_ar σ q49 0 fun n50 => mm_ib x1 n50 ((fX9_toRow_72 (fX9_toRow_46  n) mm_fuel a0 x1 x2 x3 x4 x5 ((((mm_I σ q49 x1.toNatClampNeg) - x4) + 1) + x5) 0 σ))))
def fX9_toRow_32  (a0 : Nat) (x1 : Int32) (x2 : Int32) (x3 : Int32) (x4 : Int32) (y0 : Int32) (σ : mm_M) : Option mm_M :=
  mm_sh σ a0 (.inl 9) (mm_on (mm_R σ a0 5) fun q15 => mm_ar σ q15 0 fun n16 => mm_ib x1 n16 ((if y0 = (mm_I σ q15 x1.toNatClampNeg) then mm_on (mm_R σ a0 5) fun q19 => mm_ar σ q19 0 fun n20 => mm_ib x1 n20 (mm_let (mm_wI σ q19 (x1.toNatClampNeg) y0) fun s22 => some (s22)) else (fX9_toRow_46  mm_fuel a0 x1 x2 y0 x4 0 σ))))
def fX9_toRow (p0 : Nat) (p1 : Int32) (p2 : Int32) (σ : mm_M) : Option mm_M :=
  mm_sh σ p0 (.inl 9) (mm_on (mm_R σ p0 4) fun q2 => mm_ar σ q2 0 fun n3 => mm_ib p1 n3 ((if (mm_I σ q2 p1.toNatClampNeg) = 2 then mm_on (mm_R σ p0 8) fun q10 => mm_ar σ q10 0 fun n11 => mm_ib p1 n11 ((if (mm_I σ q10 p1.toNatClampNeg) ≤ p2 then (fX9_toRow_32  p0 p1 p2 p2 (mm_I σ q10 p1.toNatClampNeg) p2 σ) else (fX9_toRow_32  p0 p1 p2 p2 (mm_I σ q10 p1.toNatClampNeg) (mm_I σ q10 p1.toNatClampNeg) σ))) else mm_on (mm_R σ p0 5) fun q6 => mm_ar σ q6 0 fun n7 => mm_ib p1 n7 (mm_let (mm_wI σ q6 (p1.toNatClampNeg) p2) fun s9 => some (s9)))))
set_option maxHeartbeats 4000000 in
set_option maxRecDepth 100000 in
theorem kX9_toRow_200 {G : mm_G} {A : Nat → Prop} {ini : Bool × Option (List (Nat × Nat × Nat × Nat))} {k190 : Nat → Int32 → Int32 → Int32 → Int32 → Int32 → mm_M → Option mm_M} {R : mm_M} (hk190 : ∀ a0 x1 x2 x3 x4 x5 σ, k190 a0 x1 x2 x3 x4 x5 σ = some R → mm_J cd_Y G RX9 cX9_toRow 9 none ini rmX9_toRow A (mm_QF cd_Y G A (mm_Pv R) rmX9_toRow.cells rmX9_toRow.slots) 190 [(0, .ref a0), (1, .int x1), (2, .int x2), (3, .int x3), (4, .int x4), (5, .int x5)] [] σ 0 0) : ∀ (a0 : Nat) (x1 : Int32) (x2 : Int32) (x3 : Int32) (x4 : Int32) (x5 : Int32) (x6 : Int32) (σ : mm_M), fX9_toRow_200 k190 mm_fuel a0 x1 x2 x3 x4 x5 x6 σ = some R → mm_J cd_Y G RX9 cX9_toRow 9 none ini rmX9_toRow A (mm_QF cd_Y G A (mm_Pv R) rmX9_toRow.cells rmX9_toRow.slots) 200 [(0, .ref a0), (1, .int x1), (2, .int x2), (3, .int x3), (4, .int x4), (5, .int x5), (6, .int x6)] [] σ 0 0 := by
  generalize mm_fuel = n
  induction n with
  | zero => intro a0 x1 x2 x3 x4 x5 x6 σ hf; cases hf
  | succ n ih =>
    intro a0 x1 x2 x3 x4 x5 x6 σ hf
    unfold fX9_toRow_200 at hf
    refine mm_iload (j := 6) dX9_toRow_200 rfl ?_
    refine mm_bipush (v := 32) dX9_toRow_202 (by decide) ?_
    refine mm_icmp_ge (tgt := 272) dX9_toRow_204 (by decide) (fun c30 => ?_) (fun c30 => ?_)
    · rw [if_pos c30] at hf
      refine mm_iinc (j := 5) (L' := [(5, .int (x5 + 1)), (0, .ref a0), (1, .int x1), (2, .int x2), (3, .int x3), (4, .int x4), (6, .int x6)]) dX9_toRow_272 rfl rfl (by decide) rfl ?_
      refine mm_goto (tgt := 190) dX9_toRow_275 (by decide) ?_
      refine mm_sub [1, 2, 3, 4, 5, 0] rfl ?_
      exact hk190 a0 x1 x2 x3 x4 (x5 + 1) σ hf
    · rw [if_neg c30] at hf
      refine mm_aload_n (j := 0) dX9_toRow_207 rfl rfl ?_
      refine mm_iload_n (j := 1) dX9_toRow_208 rfl rfl ?_
      refine mm_iconst (v := 0) dX9_toRow_209 (by decide) ?_
      refine mm_iload_n (j := 3) dX9_toRow_210 rfl rfl ?_
      refine mm_iload (j := 4) dX9_toRow_211 rfl ?_
      refine mm_isub dX9_toRow_213 ?_
      refine mm_iconst (v := 1) dX9_toRow_214 (by decide) ?_
      refine mm_iadd dX9_toRow_215 ?_
      refine mm_iload (j := 5) dX9_toRow_216 rfl ?_
      refine mm_iadd dX9_toRow_218 ?_
      refine mm_iload (j := 6) dX9_toRow_219 rfl ?_
      obtain ⟨hs31, hf⟩ := mm_sh_s hf
      obtain ⟨q32, hq32, hf⟩ := mm_on_s hf
      refine mm_callVi cd_ok (kX9_cellAt a0 x1 0 (((x3 - x4) + 1) + x5) x6 hq32) hs31 rfl (Or.inl tw_970) cdX9_cellAt tw_972 ts_36 nmX9_cellAt rfl rfl (by simp only [List.map_cons, List.map_nil, mm_rf_cat]; exact Nat.le_of_ble_eq_true rfl) dX9_toRow_221 ⟨Nat.le_of_ble_eq_true rfl, Nat.le_of_ble_eq_true rfl⟩ ⟨Nat.le_of_ble_eq_true rfl, Nat.le_of_ble_eq_true rfl⟩ ?_
      refine mm_istore (L' := [(7, .int q32.1), (0, .ref a0), (1, .int x1), (2, .int x2), (3, .int x3), (4, .int x4), (5, .int x5), (6, .int x6)]) dX9_toRow_224 (by decide) rfl ?_
      refine mm_aload_n (j := 1) dX9_toRow_226 rfl rfl ?_
      obtain ⟨hs33, hf⟩ := mm_sh_s hf
      refine mm_get (c := 9) (k := 1) (v := va_rf (mm_R q32.2 a0 1)) cd_ok ⟨_, _, _, rfl, by decide, Or.inl tw_795⟩ hs33 rfl dX9_toRow_227 ?_
      refine mm_iload (j := 0) dX9_toRow_230 rfl ?_
      refine mm_aload_n (j := 1) dX9_toRow_232 rfl rfl ?_
      refine mm_get (c := 9) (k := 42) (v := va_rf (mm_R q32.2 a0 42)) cd_ok ⟨_, _, _, rfl, by decide, Or.inl tw_836⟩ hs33 rfl dX9_toRow_233 ?_
      refine mm_bipush (v := 32) dX9_toRow_236 (by decide) ?_
      refine mm_iload (j := 6) dX9_toRow_238 rfl ?_
      refine mm_imul dX9_toRow_240 ?_
      refine mm_iload (j := 7) dX9_toRow_241 rfl ?_
      refine mm_iadd dX9_toRow_243 ?_
      obtain ⟨q34, hq34, hf⟩ := mm_on_s hf
      rw [hq34, mm_rf_some]
      obtain ⟨n35, hn35, hf⟩ := mm_ar_s hf
      obtain ⟨hi36, hf⟩ := mm_ib_s hf
      refine mm_iald hn35 rfl hi36 dX9_toRow_244 ?_
      obtain ⟨q37, hq37, hf⟩ := mm_on_s hf
      rw [hq37, mm_rf_some]
      obtain ⟨n38, hn38, hf⟩ := mm_ar_s hf
      obtain ⟨hi39, hf⟩ := mm_ib_s hf
      refine mm_iast hn38 rfl hi39 dX9_toRow_245 ?_
      obtain ⟨s40, hs40, hf⟩ := mm_let_s hf
      rw [hs40]
      refine mm_aload_n (j := 1) dX9_toRow_246 rfl rfl ?_
      refine mm_get (c := 9) (k := 2) (v := va_rf (mm_R s40 a0 2)) cd_ok ⟨_, _, _, rfl, by decide, Or.inl tw_796⟩ (mm_ke hs40 hs33) rfl dX9_toRow_247 ?_
      refine mm_iload (j := 0) dX9_toRow_250 rfl ?_
      refine mm_aload_n (j := 1) dX9_toRow_252 rfl rfl ?_
      refine mm_get (c := 9) (k := 43) (v := va_rf (mm_R s40 a0 43)) cd_ok ⟨_, _, _, rfl, by decide, Or.inl tw_837⟩ (mm_ke hs40 hs33) rfl dX9_toRow_253 ?_
      refine mm_bipush (v := 32) dX9_toRow_256 (by decide) ?_
      refine mm_iload (j := 6) dX9_toRow_258 rfl ?_
      refine mm_imul dX9_toRow_260 ?_
      refine mm_iload (j := 7) dX9_toRow_261 rfl ?_
      refine mm_iadd dX9_toRow_263 ?_
      obtain ⟨q41, hq41, hf⟩ := mm_on_s hf
      rw [hq41, mm_rf_some]
      obtain ⟨n42, hn42, hf⟩ := mm_ar_s hf
      obtain ⟨hi43, hf⟩ := mm_ib_s hf
      refine mm_iald hn42 rfl hi43 dX9_toRow_264 ?_
      obtain ⟨q44, hq44, hf⟩ := mm_on_s hf
      rw [hq44, mm_rf_some]
      obtain ⟨n45, hn45, hf⟩ := mm_ar_s hf
      obtain ⟨hi46, hf⟩ := mm_ib_s hf
      refine mm_iast hn45 rfl hi46 dX9_toRow_265 ?_
      obtain ⟨s47, hs47, hf⟩ := mm_let_s hf
      rw [hs47]
      refine mm_iinc (j := 7) (L' := [(6, .int (x6 + 1)), (7, .int q32.1), (0, .ref a0), (1, .int x1), (2, .int x2), (3, .int x3), (4, .int x4), (5, .int x5)]) dX9_toRow_266 rfl rfl (by decide) rfl ?_
      refine mm_goto (tgt := 200) dX9_toRow_269 (by decide) ?_
      refine mm_sub [2, 3, 4, 5, 6, 7, 0] rfl ?_
      exact ih a0 x1 x2 x3 x4 x5 (x6 + 1) s47 hf
set_option maxHeartbeats 4000000 in
set_option maxRecDepth 100000 in
theorem kX9_toRow_190 {G : mm_G} {A : Nat → Prop} {ini : Bool × Option (List (Nat × Nat × Nat × Nat))}  {R : mm_M}  : ∀ (a0 : Nat) (x1 : Int32) (x2 : Int32) (x3 : Int32) (x4 : Int32) (x5 : Int32) (σ : mm_M), fX9_toRow_190  mm_fuel a0 x1 x2 x3 x4 x5 σ = some R → mm_J cd_Y G RX9 cX9_toRow 9 none ini rmX9_toRow A (mm_QF cd_Y G A (mm_Pv R) rmX9_toRow.cells rmX9_toRow.slots) 190 [(0, .ref a0), (1, .int x1), (2, .int x2), (3, .int x3), (4, .int x4), (5, .int x5)] [] σ 0 0 := by
  generalize mm_fuel = n
  induction n with
  | zero => intro a0 x1 x2 x3 x4 x5 σ hf; cases hf
  | succ n ih =>
    intro a0 x1 x2 x3 x4 x5 σ hf
    unfold fX9_toRow_190 at hf
    refine mm_iload (j := 5) dX9_toRow_190 rfl ?_
    refine mm_iload (j := 4) dX9_toRow_192 rfl ?_
    refine mm_icmp_ge (tgt := 278) dX9_toRow_194 (by decide) (fun c24 => ?_) (fun c24 => ?_)
    · rw [if_pos c24] at hf
      refine mm_aload_n (j := 0) dX9_toRow_278 rfl rfl ?_
      obtain ⟨hs25, hf⟩ := mm_sh_s hf
      refine mm_get (c := 9) (k := 5) (v := va_rf (mm_R σ a0 5)) cd_ok ⟨_, _, _, rfl, by decide, Or.inl tw_799⟩ hs25 rfl dX9_toRow_279 ?_
      refine mm_iload_n (j := 1) dX9_toRow_282 rfl rfl ?_
      refine mm_iload_n (j := 3) dX9_toRow_283 rfl rfl ?_
      obtain ⟨q26, hq26, hf⟩ := mm_on_s hf
      rw [hq26, mm_rf_some]
      obtain ⟨n27, hn27, hf⟩ := mm_ar_s hf
      obtain ⟨hi28, hf⟩ := mm_ib_s hf
      refine mm_iast hn27 rfl hi28 dX9_toRow_284 ?_
      obtain ⟨s29, hs29, hf⟩ := mm_let_s hf
      rw [hs29]
      cases hf
      refine mm_widen (ck' := rmX9_toRow.cells) (sk' := rmX9_toRow.slots) (Nat.le_of_ble_eq_true rfl) (Nat.le_of_ble_eq_true rfl) ?_
      exact mm_vret rfl dX9_toRow_285 ⟨rfl, rfl⟩
    · rw [if_neg c24] at hf
      refine mm_iconst (v := 0) dX9_toRow_197 (by decide) ?_
      refine mm_istore (L' := [(6, .int 0), (0, .ref a0), (1, .int x1), (2, .int x2), (3, .int x3), (4, .int x4), (5, .int x5)]) dX9_toRow_198 (by decide) rfl ?_
      refine mm_sub [1, 2, 3, 4, 5, 6, 0] rfl ?_
      exact kX9_toRow_200 ih a0 x1 x2 x3 x4 x5 0 σ hf
set_option maxHeartbeats 4000000 in
set_option maxRecDepth 100000 in
theorem kX9_toRow_130 {G : mm_G} {A : Nat → Prop} {ini : Bool × Option (List (Nat × Nat × Nat × Nat))} {k46 : Nat → Int32 → Int32 → Int32 → Int32 → Int32 → mm_M → Option mm_M} {k72 : Nat → Int32 → Int32 → Int32 → Int32 → Int32 → Int32 → Int32 → mm_M → Option mm_M} {R : mm_M} (hk46 : ∀ a0 x1 x2 x3 x4 x5 σ, k46 a0 x1 x2 x3 x4 x5 σ = some R → mm_J cd_Y G RX9 cX9_toRow 9 none ini rmX9_toRow A (mm_QF cd_Y G A (mm_Pv R) rmX9_toRow.cells rmX9_toRow.slots) 46 [(0, .ref a0), (1, .int x1), (2, .int x2), (3, .int x3), (4, .int x4), (5, .int x5)] [] σ 0 0) (hk72 : ∀ a0 x1 x2 x3 x4 x5 x6 x7 σ, k72 a0 x1 x2 x3 x4 x5 x6 x7 σ = some R → mm_J cd_Y G RX9 cX9_toRow 9 none ini rmX9_toRow A (mm_QF cd_Y G A (mm_Pv R) rmX9_toRow.cells rmX9_toRow.slots) 72 [(0, .ref a0), (1, .int x1), (2, .int x2), (3, .int x3), (4, .int x4), (5, .int x5), (6, .int x6), (7, .int x7)] [] σ 0 0) (a0 : Nat) (x1 : Int32) (x2 : Int32) (x3 : Int32) (x4 : Int32) (x5 : Int32) (x6 : Int32) (x7 : Int32) (x8 : Int32) (y0 : Int32) (y1 : Int32) (y2 : Option Nat) (σ : mm_M) (hf : fX9_toRow_130 k46 k72 a0 x1 x2 x3 x4 x5 x6 x7 x8 y0 y1 y2 σ = some R) : mm_J cd_Y G RX9 cX9_toRow 9 none ini rmX9_toRow A (mm_QF cd_Y G A (mm_Pv R) rmX9_toRow.cells rmX9_toRow.slots) 130 [(0, .ref a0), (1, .int x1), (2, .int x2), (3, .int x3), (4, .int x4), (5, .int x5), (6, .int x6), (7, .int x7), (8, .int x8)] [.int y0, .int y1, va_rf (y2)] σ 0 0 := by
  unfold fX9_toRow_130 at hf
  obtain ⟨q62, hq62, hf⟩ := mm_on_s hf
  rw [hq62, mm_rf_some]
  obtain ⟨n63, hn63, hf⟩ := mm_ar_s hf
  obtain ⟨hi64, hf⟩ := mm_ib_s hf
  refine mm_iast hn63 rfl hi64 dX9_toRow_130 ?_
  obtain ⟨s65, hs65, hf⟩ := mm_let_s hf
  rw [hs65]
  refine mm_aload_n (j := 0) dX9_toRow_131 rfl rfl ?_
  obtain ⟨hs66, hf⟩ := mm_sh_s hf
  refine mm_get (c := 9) (k := 43) (v := va_rf (mm_R s65 a0 43)) cd_ok ⟨_, _, _, rfl, by decide, Or.inl tw_837⟩ hs66 rfl dX9_toRow_132 ?_
  refine mm_bipush (v := 32) dX9_toRow_135 (by decide) ?_
  refine mm_iload (j := 5) dX9_toRow_137 rfl ?_
  refine mm_imul dX9_toRow_139 ?_
  refine mm_iload (j := 7) dX9_toRow_140 rfl ?_
  refine mm_iadd dX9_toRow_142 ?_
  refine mm_iload (j := 8) dX9_toRow_143 rfl ?_
  refine mm_iconst (v := (-1)) dX9_toRow_145 (by decide) ?_
  refine mm_icmp_ne (tgt := 153) dX9_toRow_146 (by decide) (fun c67 => ?_) (fun c67 => ?_)
  · rw [if_neg c67] at hf
    refine mm_aload_n (j := 0) dX9_toRow_153 rfl rfl ?_
    refine mm_get (c := 9) (k := 2) (v := va_rf (mm_R s65 a0 2)) cd_ok ⟨_, _, _, rfl, by decide, Or.inl tw_796⟩ hs66 rfl dX9_toRow_154 ?_
    refine mm_iload (j := 8) dX9_toRow_157 rfl ?_
    obtain ⟨q68, hq68, hf⟩ := mm_on_s hf
    rw [hq68, mm_rf_some]
    obtain ⟨n69, hn69, hf⟩ := mm_ar_s hf
    obtain ⟨hi70, hf⟩ := mm_ib_s hf
    refine mm_iald hn69 rfl hi70 dX9_toRow_159 ?_
    obtain ⟨q71, hq71, hf⟩ := mm_on_s hf
    rw [hq71, mm_rf_some]
    obtain ⟨n72, hn72, hf⟩ := mm_ar_s hf
    obtain ⟨hi73, hf⟩ := mm_ib_s hf
    refine mm_iast hn72 rfl hi73 dX9_toRow_160 ?_
    obtain ⟨s74, hs74, hf⟩ := mm_let_s hf
    rw [hs74]
    refine mm_iinc (j := 7) (L' := [(7, .int (x7 + 1)), (0, .ref a0), (1, .int x1), (2, .int x2), (3, .int x3), (4, .int x4), (5, .int x5), (6, .int x6), (8, .int x8)]) dX9_toRow_161 rfl rfl (by decide) rfl ?_
    refine mm_goto (tgt := 72) dX9_toRow_164 (by decide) ?_
    refine mm_sub [1, 2, 3, 4, 5, 6, 7, 0] rfl ?_
    exact hk72 a0 x1 x2 x3 x4 x5 x6 (x7 + 1) s74 hf
  · rw [if_pos c67] at hf
    refine mm_iconst (v := 0) dX9_toRow_149 (by decide) ?_
    refine mm_goto (tgt := 160) dX9_toRow_150 (by decide) ?_
    obtain ⟨q75, hq75, hf⟩ := mm_on_s hf
    rw [hq75, mm_rf_some]
    obtain ⟨n76, hn76, hf⟩ := mm_ar_s hf
    obtain ⟨hi77, hf⟩ := mm_ib_s hf
    refine mm_iast hn76 rfl hi77 dX9_toRow_160 ?_
    obtain ⟨s78, hs78, hf⟩ := mm_let_s hf
    rw [hs78]
    refine mm_iinc (j := 7) (L' := [(7, .int (x7 + 1)), (0, .ref a0), (1, .int x1), (2, .int x2), (3, .int x3), (4, .int x4), (5, .int x5), (6, .int x6), (8, .int x8)]) dX9_toRow_161 rfl rfl (by decide) rfl ?_
    refine mm_goto (tgt := 72) dX9_toRow_164 (by decide) ?_
    refine mm_sub [1, 2, 3, 4, 5, 6, 7, 0] rfl ?_
    exact hk72 a0 x1 x2 x3 x4 x5 x6 (x7 + 1) s78 hf
set_option maxHeartbeats 4000000 in
set_option maxRecDepth 100000 in
theorem kX9_toRow_99 {G : mm_G} {A : Nat → Prop} {ini : Bool × Option (List (Nat × Nat × Nat × Nat))} {k46 : Nat → Int32 → Int32 → Int32 → Int32 → Int32 → mm_M → Option mm_M} {k72 : Nat → Int32 → Int32 → Int32 → Int32 → Int32 → Int32 → Int32 → mm_M → Option mm_M} {R : mm_M} (hk46 : ∀ a0 x1 x2 x3 x4 x5 σ, k46 a0 x1 x2 x3 x4 x5 σ = some R → mm_J cd_Y G RX9 cX9_toRow 9 none ini rmX9_toRow A (mm_QF cd_Y G A (mm_Pv R) rmX9_toRow.cells rmX9_toRow.slots) 46 [(0, .ref a0), (1, .int x1), (2, .int x2), (3, .int x3), (4, .int x4), (5, .int x5)] [] σ 0 0) (hk72 : ∀ a0 x1 x2 x3 x4 x5 x6 x7 σ, k72 a0 x1 x2 x3 x4 x5 x6 x7 σ = some R → mm_J cd_Y G RX9 cX9_toRow 9 none ini rmX9_toRow A (mm_QF cd_Y G A (mm_Pv R) rmX9_toRow.cells rmX9_toRow.slots) 72 [(0, .ref a0), (1, .int x1), (2, .int x2), (3, .int x3), (4, .int x4), (5, .int x5), (6, .int x6), (7, .int x7)] [] σ 0 0) (a0 : Nat) (x1 : Int32) (x2 : Int32) (x3 : Int32) (x4 : Int32) (x5 : Int32) (x6 : Int32) (x7 : Int32) (y0 : Int32) (σ : mm_M) (hf : fX9_toRow_99 k46 k72 a0 x1 x2 x3 x4 x5 x6 x7 y0 σ = some R) : mm_J cd_Y G RX9 cX9_toRow 9 none ini rmX9_toRow A (mm_QF cd_Y G A (mm_Pv R) rmX9_toRow.cells rmX9_toRow.slots) 99 [(0, .ref a0), (1, .int x1), (2, .int x2), (3, .int x3), (4, .int x4), (5, .int x5), (6, .int x6), (7, .int x7)] [.int y0] σ 0 0 := by
  unfold fX9_toRow_99 at hf
  refine mm_istore (L' := [(8, .int y0), (0, .ref a0), (1, .int x1), (2, .int x2), (3, .int x3), (4, .int x4), (5, .int x5), (6, .int x6), (7, .int x7)]) dX9_toRow_99 (by decide) rfl ?_
  refine mm_aload_n (j := 1) dX9_toRow_101 rfl rfl ?_
  obtain ⟨hs57, hf⟩ := mm_sh_s hf
  refine mm_get (c := 9) (k := 42) (v := va_rf (mm_R σ a0 42)) cd_ok ⟨_, _, _, rfl, by decide, Or.inl tw_836⟩ hs57 rfl dX9_toRow_102 ?_
  refine mm_bipush (v := 32) dX9_toRow_105 (by decide) ?_
  refine mm_iload (j := 6) dX9_toRow_107 rfl ?_
  refine mm_imul dX9_toRow_109 ?_
  refine mm_iload (j := 8) dX9_toRow_110 rfl ?_
  refine mm_iadd dX9_toRow_112 ?_
  refine mm_iload (j := 0) dX9_toRow_113 rfl ?_
  refine mm_iconst (v := (-1)) dX9_toRow_115 (by decide) ?_
  refine mm_icmp_ne (tgt := 123) dX9_toRow_116 (by decide) (fun c58 => ?_) (fun c58 => ?_)
  · rw [if_neg c58] at hf
    refine mm_aload_n (j := 1) dX9_toRow_123 rfl rfl ?_
    refine mm_get (c := 9) (k := 1) (v := va_rf (mm_R σ a0 1)) cd_ok ⟨_, _, _, rfl, by decide, Or.inl tw_795⟩ hs57 rfl dX9_toRow_124 ?_
    refine mm_iload (j := 0) dX9_toRow_127 rfl ?_
    obtain ⟨q59, hq59, hf⟩ := mm_on_s hf
    rw [hq59, mm_rf_some]
    obtain ⟨n60, hn60, hf⟩ := mm_ar_s hf
    obtain ⟨hi61, hf⟩ := mm_ib_s hf
    refine mm_iald hn60 rfl hi61 dX9_toRow_129 ?_
    refine mm_sub [1, 2, 3, 4, 5, 6, 7, 8, 0] rfl ?_
    exact kX9_toRow_130 hk46 hk72 a0 x1 x2 x3 x4 x5 x6 x7 y0 (mm_I σ q59 y0.toNatClampNeg) ((32 * x5) + x7) (mm_R σ a0 42) σ hf
  · rw [if_pos c58] at hf
    refine mm_iconst (v := 0) dX9_toRow_119 (by decide) ?_
    refine mm_goto (tgt := 130) dX9_toRow_120 (by decide) ?_
    refine mm_sub [1, 2, 3, 4, 5, 6, 7, 8, 0] rfl ?_
    exact kX9_toRow_130 hk46 hk72 a0 x1 x2 x3 x4 x5 x6 x7 y0 0 ((32 * x5) + x7) (mm_R σ a0 42) σ hf
set_option maxHeartbeats 4000000 in
set_option maxRecDepth 100000 in
theorem kX9_toRow_72 {G : mm_G} {A : Nat → Prop} {ini : Bool × Option (List (Nat × Nat × Nat × Nat))} {k46 : Nat → Int32 → Int32 → Int32 → Int32 → Int32 → mm_M → Option mm_M} {R : mm_M} (hk46 : ∀ a0 x1 x2 x3 x4 x5 σ, k46 a0 x1 x2 x3 x4 x5 σ = some R → mm_J cd_Y G RX9 cX9_toRow 9 none ini rmX9_toRow A (mm_QF cd_Y G A (mm_Pv R) rmX9_toRow.cells rmX9_toRow.slots) 46 [(0, .ref a0), (1, .int x1), (2, .int x2), (3, .int x3), (4, .int x4), (5, .int x5)] [] σ 0 0) : ∀ (a0 : Nat) (x1 : Int32) (x2 : Int32) (x3 : Int32) (x4 : Int32) (x5 : Int32) (x6 : Int32) (x7 : Int32) (σ : mm_M), fX9_toRow_72 k46 mm_fuel a0 x1 x2 x3 x4 x5 x6 x7 σ = some R → mm_J cd_Y G RX9 cX9_toRow 9 none ini rmX9_toRow A (mm_QF cd_Y G A (mm_Pv R) rmX9_toRow.cells rmX9_toRow.slots) 72 [(0, .ref a0), (1, .int x1), (2, .int x2), (3, .int x3), (4, .int x4), (5, .int x5), (6, .int x6), (7, .int x7)] [] σ 0 0 := by
  generalize mm_fuel = n
  induction n with
  | zero => intro a0 x1 x2 x3 x4 x5 x6 x7 σ hf; cases hf
  | succ n ih =>
    intro a0 x1 x2 x3 x4 x5 x6 x7 σ hf
    unfold fX9_toRow_72 at hf
    refine mm_iload (j := 7) dX9_toRow_72 rfl ?_
    refine mm_bipush (v := 32) dX9_toRow_74 (by decide) ?_
    refine mm_icmp_ge (tgt := 167) dX9_toRow_76 (by decide) (fun c52 => ?_) (fun c52 => ?_)
    · rw [if_pos c52] at hf
      refine mm_iload (j := 6) dX9_toRow_167 rfl ?_
      refine mm_iconst (v := 1) dX9_toRow_169 (by decide) ?_
      refine mm_icmp_lt (tgt := 181) dX9_toRow_170 (by decide) (fun c53 => ?_) (fun c53 => ?_)
      · rw [if_pos c53] at hf
        refine mm_iinc (j := 5) (L' := [(5, .int (x5 + 1)), (0, .ref a0), (1, .int x1), (2, .int x2), (3, .int x3), (4, .int x4), (6, .int x6), (7, .int x7)]) dX9_toRow_181 rfl rfl (by decide) rfl ?_
        refine mm_goto (tgt := 46) dX9_toRow_184 (by decide) ?_
        refine mm_sub [1, 2, 3, 4, 5, 0] rfl ?_
        exact hk46 a0 x1 x2 x3 x4 (x5 + 1) σ hf
      · rw [if_neg c53] at hf
        refine mm_aload_n (j := 0) dX9_toRow_173 rfl rfl ?_
        refine mm_iload_n (j := 1) dX9_toRow_174 rfl rfl ?_
        refine mm_iconst (v := 0) dX9_toRow_175 (by decide) ?_
        refine mm_iload (j := 6) dX9_toRow_176 rfl ?_
        obtain ⟨hs54, hf⟩ := mm_sh_s hf
        obtain ⟨q55, hq55, hf⟩ := mm_on_s hf
        refine mm_callVv cd_ok (kX9_clearRow a0 x1 0 x6 hq55) hs54 rfl (Or.inl tw_974) cdX9_clearRow tw_976 ts_37 nmX9_clearRow rfl rfl (by simp only [List.map_cons, List.map_nil, mm_rf_cat]; exact Nat.le_of_ble_eq_true rfl) dX9_toRow_178 ⟨Nat.le_of_ble_eq_true rfl, Nat.le_of_ble_eq_true rfl⟩ ⟨Nat.le_of_ble_eq_true rfl, Nat.le_of_ble_eq_true rfl⟩ ?_
        refine mm_iinc (j := 5) (L' := [(5, .int (x5 + 1)), (0, .ref a0), (1, .int x1), (2, .int x2), (3, .int x3), (4, .int x4), (6, .int x6), (7, .int x7)]) dX9_toRow_181 rfl rfl (by decide) rfl ?_
        refine mm_goto (tgt := 46) dX9_toRow_184 (by decide) ?_
        refine mm_sub [1, 2, 3, 4, 5, 0] rfl ?_
        exact hk46 a0 x1 x2 x3 x4 (x5 + 1) q55 hf
    · rw [if_neg c52] at hf
      refine mm_iload (j := 6) dX9_toRow_79 rfl ?_
      refine mm_iconst (v := 1) dX9_toRow_81 (by decide) ?_
      refine mm_icmp_lt (tgt := 98) dX9_toRow_82 (by decide) (fun c56 => ?_) (fun c56 => ?_)
      · rw [if_pos c56] at hf
        refine mm_iconst (v := (-1)) dX9_toRow_98 (by decide) ?_
        refine mm_sub [0, 1, 2, 3, 4, 5, 6, 7] rfl ?_
        exact kX9_toRow_99 hk46 ih a0 x1 x2 x3 x4 x5 x6 x7 (-1) σ hf
      · rw [if_neg c56] at hf
        refine mm_aload_n (j := 0) dX9_toRow_85 rfl rfl ?_
        refine mm_iload_n (j := 1) dX9_toRow_86 rfl rfl ?_
        refine mm_iconst (v := 0) dX9_toRow_87 (by decide) ?_
        refine mm_iload (j := 6) dX9_toRow_88 rfl ?_
        refine mm_iload (j := 7) dX9_toRow_90 rfl ?_
        obtain ⟨hs79, hf⟩ := mm_sh_s hf
        obtain ⟨q80, hq80, hf⟩ := mm_on_s hf
        refine mm_callVi cd_ok (kX9_cellAt a0 x1 0 x6 x7 hq80) hs79 rfl (Or.inl tw_970) cdX9_cellAt tw_972 ts_36 nmX9_cellAt rfl rfl (by simp only [List.map_cons, List.map_nil, mm_rf_cat]; exact Nat.le_of_ble_eq_true rfl) dX9_toRow_92 ⟨Nat.le_of_ble_eq_true rfl, Nat.le_of_ble_eq_true rfl⟩ ⟨Nat.le_of_ble_eq_true rfl, Nat.le_of_ble_eq_true rfl⟩ ?_
        refine mm_goto (tgt := 99) dX9_toRow_95 (by decide) ?_
        refine mm_sub [0, 1, 2, 3, 4, 5, 6, 7] rfl ?_
        exact kX9_toRow_99 hk46 ih a0 x1 x2 x3 x4 x5 x6 x7 q80.1 q80.2 hf
set_option maxHeartbeats 4000000 in
set_option maxRecDepth 100000 in
theorem kX9_toRow_46 {G : mm_G} {A : Nat → Prop} {ini : Bool × Option (List (Nat × Nat × Nat × Nat))}  {R : mm_M}  : ∀ (a0 : Nat) (x1 : Int32) (x2 : Int32) (x3 : Int32) (x4 : Int32) (x5 : Int32) (σ : mm_M), fX9_toRow_46  mm_fuel a0 x1 x2 x3 x4 x5 σ = some R → mm_J cd_Y G RX9 cX9_toRow 9 none ini rmX9_toRow A (mm_QF cd_Y G A (mm_Pv R) rmX9_toRow.cells rmX9_toRow.slots) 46 [(0, .ref a0), (1, .int x1), (2, .int x2), (3, .int x3), (4, .int x4), (5, .int x5)] [] σ 0 0 := by
  generalize mm_fuel = n
  induction n with
  | zero => intro a0 x1 x2 x3 x4 x5 σ hf; cases hf
  | succ n ih =>
    intro a0 x1 x2 x3 x4 x5 σ hf
    unfold fX9_toRow_46 at hf
    refine mm_iload (j := 5) dX9_toRow_46 rfl ?_
    refine mm_iload (j := 4) dX9_toRow_48 rfl ?_
    refine mm_icmp_ge (tgt := 187) dX9_toRow_50 (by decide) (fun c23 => ?_) (fun c23 => ?_)
    · rw [if_pos c23] at hf
      refine mm_iconst (v := 0) dX9_toRow_187 (by decide) ?_
      refine mm_istore (L' := [(5, .int 0), (0, .ref a0), (1, .int x1), (2, .int x2), (3, .int x3), (4, .int x4)]) dX9_toRow_188 (by decide) rfl ?_
      refine mm_sub [1, 2, 3, 4, 5, 0] rfl ?_
      exact kX9_toRow_190  a0 x1 x2 x3 x4 0 σ hf
    · rw [if_neg c23] at hf
      refine mm_aload_n (j := 0) dX9_toRow_53 rfl rfl ?_
      obtain ⟨hs48, hf⟩ := mm_sh_s hf
      refine mm_get (c := 9) (k := 5) (v := va_rf (mm_R σ a0 5)) cd_ok ⟨_, _, _, rfl, by decide, Or.inl tw_799⟩ hs48 rfl dX9_toRow_54 ?_
      refine mm_iload_n (j := 1) dX9_toRow_57 rfl rfl ?_
      obtain ⟨q49, hq49, hf⟩ := mm_on_s hf
      rw [hq49, mm_rf_some]
      obtain ⟨n50, hn50, hf⟩ := mm_ar_s hf
      obtain ⟨hi51, hf⟩ := mm_ib_s hf
      refine mm_iald hn50 rfl hi51 dX9_toRow_58 ?_
      refine mm_iload (j := 4) dX9_toRow_59 rfl ?_
      refine mm_isub dX9_toRow_61 ?_
      refine mm_iconst (v := 1) dX9_toRow_62 (by decide) ?_
      refine mm_iadd dX9_toRow_63 ?_
      refine mm_iload (j := 5) dX9_toRow_64 rfl ?_
      refine mm_iadd dX9_toRow_66 ?_
      refine mm_istore (L' := [(6, .int ((((mm_I σ q49 x1.toNatClampNeg) - x4) + 1) + x5)), (0, .ref a0), (1, .int x1), (2, .int x2), (3, .int x3), (4, .int x4), (5, .int x5)]) dX9_toRow_67 (by decide) rfl ?_
      refine mm_iconst (v := 0) dX9_toRow_69 (by decide) ?_
      refine mm_istore (L' := [(7, .int 0), (6, .int ((((mm_I σ q49 x1.toNatClampNeg) - x4) + 1) + x5)), (0, .ref a0), (1, .int x1), (2, .int x2), (3, .int x3), (4, .int x4), (5, .int x5)]) dX9_toRow_70 (by decide) rfl ?_
      refine mm_sub [2, 3, 4, 5, 6, 7, 1, 0] rfl ?_
      exact kX9_toRow_72 ih a0 x1 x2 x3 x4 x5 ((((mm_I σ q49 x1.toNatClampNeg) - x4) + 1) + x5) 0 σ hf
set_option maxHeartbeats 4000000 in
set_option maxRecDepth 100000 in
theorem kX9_toRow_32 {G : mm_G} {A : Nat → Prop} {ini : Bool × Option (List (Nat × Nat × Nat × Nat))}  {R : mm_M}  (a0 : Nat) (x1 : Int32) (x2 : Int32) (x3 : Int32) (x4 : Int32) (y0 : Int32) (σ : mm_M) (hf : fX9_toRow_32  a0 x1 x2 x3 x4 y0 σ = some R) : mm_J cd_Y G RX9 cX9_toRow 9 none ini rmX9_toRow A (mm_QF cd_Y G A (mm_Pv R) rmX9_toRow.cells rmX9_toRow.slots) 32 [(0, .ref a0), (1, .int x1), (2, .int x2), (3, .int x3), (4, .int x4)] [.int y0] σ 0 0 := by
  unfold fX9_toRow_32 at hf
  refine mm_istore_n (L' := [(3, .int y0), (0, .ref a0), (1, .int x1), (2, .int x2), (4, .int x4)]) dX9_toRow_32 rfl (by decide) rfl ?_
  refine mm_iload_n (j := 0) dX9_toRow_33 rfl rfl ?_
  refine mm_aload_n (j := 1) dX9_toRow_34 rfl rfl ?_
  obtain ⟨hs14, hf⟩ := mm_sh_s hf
  refine mm_get (c := 9) (k := 5) (v := va_rf (mm_R σ a0 5)) cd_ok ⟨_, _, _, rfl, by decide, Or.inl tw_799⟩ hs14 rfl dX9_toRow_35 ?_
  refine mm_iload_n (j := 2) dX9_toRow_38 rfl rfl ?_
  obtain ⟨q15, hq15, hf⟩ := mm_on_s hf
  rw [hq15, mm_rf_some]
  obtain ⟨n16, hn16, hf⟩ := mm_ar_s hf
  obtain ⟨hi17, hf⟩ := mm_ib_s hf
  refine mm_iald hn16 rfl hi17 dX9_toRow_39 ?_
  refine mm_icmp_eq (tgt := 278) dX9_toRow_40 (by decide) (fun c18 => ?_) (fun c18 => ?_)
  · rw [if_pos c18] at hf
    refine mm_aload_n (j := 1) dX9_toRow_278 rfl rfl ?_
    refine mm_get (c := 9) (k := 5) (v := va_rf (mm_R σ a0 5)) cd_ok ⟨_, _, _, rfl, by decide, Or.inl tw_799⟩ hs14 rfl dX9_toRow_279 ?_
    refine mm_iload_n (j := 2) dX9_toRow_282 rfl rfl ?_
    refine mm_iload_n (j := 0) dX9_toRow_283 rfl rfl ?_
    obtain ⟨q19, hq19, hf⟩ := mm_on_s hf
    rw [hq19, mm_rf_some]
    obtain ⟨n20, hn20, hf⟩ := mm_ar_s hf
    obtain ⟨hi21, hf⟩ := mm_ib_s hf
    refine mm_iast hn20 rfl hi21 dX9_toRow_284 ?_
    obtain ⟨s22, hs22, hf⟩ := mm_let_s hf
    rw [hs22]
    cases hf
    refine mm_widen (ck' := rmX9_toRow.cells) (sk' := rmX9_toRow.slots) (Nat.le_of_ble_eq_true rfl) (Nat.le_of_ble_eq_true rfl) ?_
    exact mm_vret rfl dX9_toRow_285 ⟨rfl, rfl⟩
  · rw [if_neg c18] at hf
    refine mm_iconst (v := 0) dX9_toRow_43 (by decide) ?_
    refine mm_istore (L' := [(5, .int 0), (3, .int y0), (0, .ref a0), (1, .int x1), (2, .int x2), (4, .int x4)]) dX9_toRow_44 (by decide) rfl ?_
    refine mm_sub [2, 3, 4, 1, 5, 0] rfl ?_
    exact kX9_toRow_46  a0 x1 x2 y0 x4 0 σ hf
set_option maxHeartbeats 4000000 in
set_option maxRecDepth 100000 in
theorem kX9_toRow {G : mm_G} {A : Nat → Prop} (p0 : Nat) (p1 : Int32) (p2 : Int32) {σ : mm_M} {R : mm_M} (hf : fX9_toRow p0 p1 p2 σ = some R) : mm_C cd_Y G yX9_toRow cX9_toRow 9 none rmX9_toRow A [.ref p0, .int p1, .int p2] σ (mm_Pv R) := by
  refine mm_C.of (by decide) (Nat.le_of_ble_eq_true rfl) ?_
  unfold fX9_toRow at hf
  have e0 : lv_args 0 [.ref p0, .int p1, .int p2] = [(0, .ref p0), (1, .int p1), (2, .int p2)] := rfl
  rw [e0]
  generalize hini : ((yX9_toRow.name == "<init>"), none) = ini
  clear e0
  clear hini
  refine mm_iload_n (j := 2) dX9_toRow_0 rfl rfl ?_
  refine mm_istore_n (L' := [(3, .int p2), (0, .ref p0), (1, .int p1), (2, .int p2)]) dX9_toRow_1 rfl (by decide) rfl ?_
  refine mm_aload_n (j := 1) dX9_toRow_2 rfl rfl ?_
  obtain ⟨hs1, hf⟩ := mm_sh_s hf
  refine mm_get (c := 9) (k := 4) (v := va_rf (mm_R σ p0 4)) cd_ok ⟨_, _, _, rfl, by decide, Or.inl tw_798⟩ hs1 rfl dX9_toRow_3 ?_
  refine mm_iload_n (j := 2) dX9_toRow_6 rfl rfl ?_
  obtain ⟨q2, hq2, hf⟩ := mm_on_s hf
  rw [hq2, mm_rf_some]
  obtain ⟨n3, hn3, hf⟩ := mm_ar_s hf
  obtain ⟨hi4, hf⟩ := mm_ib_s hf
  refine mm_iald hn3 rfl hi4 dX9_toRow_7 ?_
  refine mm_iconst (v := 2) dX9_toRow_8 (by decide) ?_
  refine mm_icmp_ne (tgt := 278) dX9_toRow_9 (by decide) (fun c5 => ?_) (fun c5 => ?_)
  · rw [if_neg c5] at hf
    refine mm_aload_n (j := 1) dX9_toRow_278 rfl rfl ?_
    refine mm_get (c := 9) (k := 5) (v := va_rf (mm_R σ p0 5)) cd_ok ⟨_, _, _, rfl, by decide, Or.inl tw_799⟩ hs1 rfl dX9_toRow_279 ?_
    refine mm_iload_n (j := 2) dX9_toRow_282 rfl rfl ?_
    refine mm_iload_n (j := 0) dX9_toRow_283 rfl rfl ?_
    obtain ⟨q6, hq6, hf⟩ := mm_on_s hf
    rw [hq6, mm_rf_some]
    obtain ⟨n7, hn7, hf⟩ := mm_ar_s hf
    obtain ⟨hi8, hf⟩ := mm_ib_s hf
    refine mm_iast hn7 rfl hi8 dX9_toRow_284 ?_
    obtain ⟨s9, hs9, hf⟩ := mm_let_s hf
    rw [hs9]
    cases hf
    refine mm_widen (ck' := rmX9_toRow.cells) (sk' := rmX9_toRow.slots) (Nat.le_of_ble_eq_true rfl) (Nat.le_of_ble_eq_true rfl) ?_
    exact mm_vret rfl dX9_toRow_285 ⟨rfl, rfl⟩
  · rw [if_pos c5] at hf
    refine mm_aload_n (j := 1) dX9_toRow_12 rfl rfl ?_
    refine mm_get (c := 9) (k := 8) (v := va_rf (mm_R σ p0 8)) cd_ok ⟨_, _, _, rfl, by decide, Or.inl tw_802⟩ hs1 rfl dX9_toRow_13 ?_
    refine mm_iload_n (j := 2) dX9_toRow_16 rfl rfl ?_
    obtain ⟨q10, hq10, hf⟩ := mm_on_s hf
    rw [hq10, mm_rf_some]
    obtain ⟨n11, hn11, hf⟩ := mm_ar_s hf
    obtain ⟨hi12, hf⟩ := mm_ib_s hf
    refine mm_iald hn11 rfl hi12 dX9_toRow_17 ?_
    refine mm_istore (L' := [(4, .int (mm_I σ q10 p1.toNatClampNeg)), (3, .int p2), (0, .ref p0), (1, .int p1), (2, .int p2)]) dX9_toRow_18 (by decide) rfl ?_
    refine mm_iload_n (j := 4) dX9_toRow_20 rfl rfl ?_
    refine mm_iload (j := 0) dX9_toRow_21 rfl ?_
    refine mm_icmp_ge (tgt := 31) dX9_toRow_23 (by decide) (fun c13 => ?_) (fun c13 => ?_)
    · rw [if_pos c13] at hf
      refine mm_iload_n (j := 4) dX9_toRow_31 rfl rfl ?_
      refine mm_sub [2, 3, 4, 1, 0] rfl ?_
      exact kX9_toRow_32  p0 p1 p2 p2 (mm_I σ q10 p1.toNatClampNeg) p2 σ hf
    · rw [if_neg c13] at hf
      refine mm_iload (j := 0) dX9_toRow_26 rfl ?_
      refine mm_goto (tgt := 32) dX9_toRow_28 (by decide) ?_
      refine mm_sub [2, 3, 4, 1, 0] rfl ?_
      exact kX9_toRow_32  p0 p1 p2 p2 (mm_I σ q10 p1.toNatClampNeg) (mm_I σ q10 p1.toNatClampNeg) σ hf
theorem dX9_rowCode_0 : decode cX9_rowCode 0 = .ok (.aload_n 0, 1) := by decide +kernel
theorem dX9_rowCode_1 : decode cX9_rowCode 1 = .ok (.iload_n 1, 1) := by decide +kernel
theorem dX9_rowCode_2 : decode cX9_rowCode 2 = .ok (.invokevirtual 136, 3) := by decide +kernel
theorem dX9_rowCode_5 : decode cX9_rowCode 5 = .ok (.iconst (-1), 1) := by decide +kernel
theorem dX9_rowCode_6 : decode cX9_rowCode 6 = .ok (.if_icmp .ne 4, 3) := by decide +kernel
theorem dX9_rowCode_9 : decode cX9_rowCode 9 = .ok (.return_, 1) := by decide +kernel
theorem dX9_rowCode_10 : decode cX9_rowCode 10 = .ok (.aload_n 0, 1) := by decide +kernel
theorem dX9_rowCode_11 : decode cX9_rowCode 11 = .ok (.iload_n 1, 1) := by decide +kernel
theorem dX9_rowCode_12 : decode cX9_rowCode 12 = .ok (.iload_n 2, 1) := by decide +kernel
theorem dX9_rowCode_13 : decode cX9_rowCode 13 = .ok (.invokestatic 140, 3) := by decide +kernel
theorem dX9_rowCode_16 : decode cX9_rowCode 16 = .ok (.iload_n 3, 1) := by decide +kernel
theorem dX9_rowCode_17 : decode cX9_rowCode 17 = .ok (.bipush 32, 2) := by decide +kernel
theorem dX9_rowCode_19 : decode cX9_rowCode 19 = .ok (.iand, 1) := by decide +kernel
theorem dX9_rowCode_20 : decode cX9_rowCode 20 = .ok (.ifCond .le 7, 3) := by decide +kernel
theorem dX9_rowCode_23 : decode cX9_rowCode 23 = .ok (.iconst 1, 1) := by decide +kernel
theorem dX9_rowCode_24 : decode cX9_rowCode 24 = .ok (.goto 4, 3) := by decide +kernel
theorem dX9_rowCode_27 : decode cX9_rowCode 27 = .ok (.iconst 0, 1) := by decide +kernel
theorem dX9_rowCode_28 : decode cX9_rowCode 28 = .ok (.iadd, 1) := by decide +kernel
theorem dX9_rowCode_29 : decode cX9_rowCode 29 = .ok (.invokevirtual 143, 3) := by decide +kernel
theorem dX9_rowCode_32 : decode cX9_rowCode 32 = .ok (.iload_n 3, 1) := by decide +kernel
theorem dX9_rowCode_33 : decode cX9_rowCode 33 = .ok (.iconst 2, 1) := by decide +kernel
theorem dX9_rowCode_34 : decode cX9_rowCode 34 = .ok (.idiv, 1) := by decide +kernel
theorem dX9_rowCode_35 : decode cX9_rowCode 35 = .ok (.bipush 16, 2) := by decide +kernel
theorem dX9_rowCode_37 : decode cX9_rowCode 37 = .ok (.irem, 1) := by decide +kernel
theorem dX9_rowCode_38 : decode cX9_rowCode 38 = .ok (.istore 4, 2) := by decide +kernel
theorem dX9_rowCode_40 : decode cX9_rowCode 40 = .ok (.aload_n 0, 1) := by decide +kernel
theorem dX9_rowCode_41 : decode cX9_rowCode 41 = .ok (.getfield 28, 3) := by decide +kernel
theorem dX9_rowCode_44 : decode cX9_rowCode 44 = .ok (.iload_n 1, 1) := by decide +kernel
theorem dX9_rowCode_45 : decode cX9_rowCode 45 = .ok (.iload 4, 2) := by decide +kernel
theorem dX9_rowCode_47 : decode cX9_rowCode 47 = .ok (.bipush 8, 2) := by decide +kernel
theorem dX9_rowCode_49 : decode cX9_rowCode 49 = .ok (.if_icmp .ge 8, 3) := by decide +kernel
theorem dX9_rowCode_52 : decode cX9_rowCode 52 = .ok (.iload 4, 2) := by decide +kernel
theorem dX9_rowCode_54 : decode cX9_rowCode 54 = .ok (.goto 4, 3) := by decide +kernel
theorem dX9_rowCode_57 : decode cX9_rowCode 57 = .ok (.iconst 0, 1) := by decide +kernel
theorem dX9_rowCode_58 : decode cX9_rowCode 58 = .ok (.iload_n 3, 1) := by decide +kernel
theorem dX9_rowCode_59 : decode cX9_rowCode 59 = .ok (.iconst 2, 1) := by decide +kernel
theorem dX9_rowCode_60 : decode cX9_rowCode 60 = .ok (.irem, 1) := by decide +kernel
theorem dX9_rowCode_61 : decode cX9_rowCode 61 = .ok (.iconst 1, 1) := by decide +kernel
theorem dX9_rowCode_62 : decode cX9_rowCode 62 = .ok (.if_icmp .ne 8, 3) := by decide +kernel
theorem dX9_rowCode_65 : decode cX9_rowCode 65 = .ok (.bipush 8, 2) := by decide +kernel
theorem dX9_rowCode_67 : decode cX9_rowCode 67 = .ok (.goto 4, 3) := by decide +kernel
theorem dX9_rowCode_70 : decode cX9_rowCode 70 = .ok (.iconst 0, 1) := by decide +kernel
theorem dX9_rowCode_71 : decode cX9_rowCode 71 = .ok (.iadd, 1) := by decide +kernel
theorem dX9_rowCode_72 : decode cX9_rowCode 72 = .ok (.iastore, 1) := by decide +kernel
theorem dX9_rowCode_73 : decode cX9_rowCode 73 = .ok (.aload_n 0, 1) := by decide +kernel
theorem dX9_rowCode_74 : decode cX9_rowCode 74 = .ok (.getfield 25, 3) := by decide +kernel
theorem dX9_rowCode_77 : decode cX9_rowCode 77 = .ok (.iload_n 1, 1) := by decide +kernel
theorem dX9_rowCode_78 : decode cX9_rowCode 78 = .ok (.iload 4, 2) := by decide +kernel
theorem dX9_rowCode_80 : decode cX9_rowCode 80 = .ok (.bipush 8, 2) := by decide +kernel
theorem dX9_rowCode_82 : decode cX9_rowCode 82 = .ok (.if_icmp .ge 7, 3) := by decide +kernel
theorem dX9_rowCode_85 : decode cX9_rowCode 85 = .ok (.iconst 0, 1) := by decide +kernel
theorem dX9_rowCode_86 : decode cX9_rowCode 86 = .ok (.goto 10, 3) := by decide +kernel
theorem dX9_rowCode_89 : decode cX9_rowCode 89 = .ok (.iconst 4, 1) := by decide +kernel
theorem dX9_rowCode_90 : decode cX9_rowCode 90 = .ok (.iload 4, 2) := by decide +kernel
theorem dX9_rowCode_92 : decode cX9_rowCode 92 = .ok (.bipush 8, 2) := by decide +kernel
theorem dX9_rowCode_94 : decode cX9_rowCode 94 = .ok (.isub, 1) := by decide +kernel
theorem dX9_rowCode_95 : decode cX9_rowCode 95 = .ok (.imul, 1) := by decide +kernel
theorem dX9_rowCode_96 : decode cX9_rowCode 96 = .ok (.iastore, 1) := by decide +kernel
theorem dX9_rowCode_97 : decode cX9_rowCode 97 = .ok (.return_, 1) := by decide +kernel
theorem nmX9_rowCode : mm_nm yX9_rowCode 3 := ⟨by decide, by decide, by decide +kernel⟩
theorem cdX9_rowCode : mm_cd cd_Y yX9_rowCode cX9_rowCode 5 none := ⟨tw_958, tw_8⟩
abbrev rmX9_rowCode : Room := { frames := 3, cells := 0, slots := 0, locals := 77 }
def fX9_rowCode_71  (a0 : Nat) (x1 : Int32) (x2 : Int32) (x3 : Int32) (x4 : Int32) (y0 : Int32) (y1 : Int32) (y2 : Int32) (y3 : Option Nat) (σ : mm_M) : Option mm_M :=
  mm_on (y3) fun q10 => mm_ar σ q10 0 fun n11 => mm_ib y2 n11 (mm_let (mm_wI σ q10 (y2.toNatClampNeg) (y1 + y0)) fun s13 => mm_sh s13 a0 (.inl 9) ((if 8 ≤ x4 then mm_on (mm_R s13 a0 6) fun q16 => mm_ar s13 q16 0 fun n17 => mm_ib x1 n17 (mm_let (mm_wI s13 q16 (x1.toNatClampNeg) (4 * (x4 - 8))) fun s19 => some (s19)) else mm_on (mm_R s13 a0 6) fun q20 => mm_ar s13 q20 0 fun n21 => mm_ib x1 n21 (mm_let (mm_wI s13 q20 (x1.toNatClampNeg) 0) fun s23 => some (s23)))))
def fX9_rowCode_58  (a0 : Nat) (x1 : Int32) (x2 : Int32) (x3 : Int32) (x4 : Int32) (y0 : Int32) (y1 : Int32) (y2 : Option Nat) (σ : mm_M) : Option mm_M :=
  (if (x3 - x3 / 2 * 2) = 1 then (fX9_rowCode_71  a0 x1 x2 x3 x4 8 y0 y1 y2 σ) else (fX9_rowCode_71  a0 x1 x2 x3 x4 0 y0 y1 y2 σ))
def fX9_rowCode_28  (a0 : Nat) (x1 : Int32) (x2 : Int32) (x3 : Int32) (y0 : Int32) (y1 : Int32) (y2 : Int32) (y3 : Nat) (σ : mm_M) : Option mm_M :=
  mm_sh σ y3 (.inl 9) (mm_on (fX9_toRow y3 y2 (y1 + y0) σ) fun q6 => mm_sh q6 a0 (.inl 9) ((if 8 ≤ ((x3 / 2) - (x3 / 2) / 16 * 16) then (fX9_rowCode_58  a0 x1 x2 x3 ((x3 / 2) - (x3 / 2) / 16 * 16) 0 x1 (mm_R q6 a0 7) q6) else (fX9_rowCode_58  a0 x1 x2 x3 ((x3 / 2) - (x3 / 2) / 16 * 16) ((x3 / 2) - (x3 / 2) / 16 * 16) x1 (mm_R q6 a0 7) q6))))
def fX9_rowCode (p0 : Nat) (p1 : Int32) (p2 : Int32) (p3 : Int32) (σ : mm_M) : Option mm_M :=
  mm_sh σ p0 (.inl 9) (mm_on (fX9_screenOf p0 p1 σ) fun q2 => (if q2.1 = (-1) then some (q2.2) else (if (p3 &&& 32) ≤ 0 then (fX9_rowCode_28  p0 p1 p2 p3 0 (fX9_rowOf p2) p1 p0 q2.2) else (fX9_rowCode_28  p0 p1 p2 p3 1 (fX9_rowOf p2) p1 p0 q2.2))))
set_option maxHeartbeats 4000000 in
set_option maxRecDepth 100000 in
theorem kX9_rowCode_71 {G : mm_G} {A : Nat → Prop} {ini : Bool × Option (List (Nat × Nat × Nat × Nat))}  {R : mm_M}  (a0 : Nat) (x1 : Int32) (x2 : Int32) (x3 : Int32) (x4 : Int32) (y0 : Int32) (y1 : Int32) (y2 : Int32) (y3 : Option Nat) (σ : mm_M) (hf : fX9_rowCode_71  a0 x1 x2 x3 x4 y0 y1 y2 y3 σ = some R) : mm_J cd_Y G RX9 cX9_rowCode 5 none ini rmX9_rowCode A (mm_QF cd_Y G A (mm_Pv R) rmX9_rowCode.cells rmX9_rowCode.slots) 71 [(0, .ref a0), (1, .int x1), (2, .int x2), (3, .int x3), (4, .int x4)] [.int y0, .int y1, .int y2, va_rf (y3)] σ 0 0 := by
  unfold fX9_rowCode_71 at hf
  refine mm_iadd dX9_rowCode_71 ?_
  obtain ⟨q10, hq10, hf⟩ := mm_on_s hf
  rw [hq10, mm_rf_some]
  obtain ⟨n11, hn11, hf⟩ := mm_ar_s hf
  obtain ⟨hi12, hf⟩ := mm_ib_s hf
  refine mm_iast hn11 rfl hi12 dX9_rowCode_72 ?_
  obtain ⟨s13, hs13, hf⟩ := mm_let_s hf
  rw [hs13]
  refine mm_aload_n (j := 0) dX9_rowCode_73 rfl rfl ?_
  obtain ⟨hs14, hf⟩ := mm_sh_s hf
  refine mm_get (c := 9) (k := 6) (v := va_rf (mm_R s13 a0 6)) cd_ok ⟨_, _, _, rfl, by decide, Or.inl tw_800⟩ hs14 rfl dX9_rowCode_74 ?_
  refine mm_iload_n (j := 1) dX9_rowCode_77 rfl rfl ?_
  refine mm_iload (j := 4) dX9_rowCode_78 rfl ?_
  refine mm_bipush (v := 8) dX9_rowCode_80 (by decide) ?_
  refine mm_icmp_ge (tgt := 89) dX9_rowCode_82 (by decide) (fun c15 => ?_) (fun c15 => ?_)
  · rw [if_pos c15] at hf
    refine mm_iconst (v := 4) dX9_rowCode_89 (by decide) ?_
    refine mm_iload (j := 4) dX9_rowCode_90 rfl ?_
    refine mm_bipush (v := 8) dX9_rowCode_92 (by decide) ?_
    refine mm_isub dX9_rowCode_94 ?_
    refine mm_imul dX9_rowCode_95 ?_
    obtain ⟨q16, hq16, hf⟩ := mm_on_s hf
    rw [hq16, mm_rf_some]
    obtain ⟨n17, hn17, hf⟩ := mm_ar_s hf
    obtain ⟨hi18, hf⟩ := mm_ib_s hf
    refine mm_iast hn17 rfl hi18 dX9_rowCode_96 ?_
    obtain ⟨s19, hs19, hf⟩ := mm_let_s hf
    rw [hs19]
    cases hf
    refine mm_widen (ck' := rmX9_rowCode.cells) (sk' := rmX9_rowCode.slots) (Nat.le_of_ble_eq_true rfl) (Nat.le_of_ble_eq_true rfl) ?_
    exact mm_vret rfl dX9_rowCode_97 ⟨rfl, rfl⟩
  · rw [if_neg c15] at hf
    refine mm_iconst (v := 0) dX9_rowCode_85 (by decide) ?_
    refine mm_goto (tgt := 96) dX9_rowCode_86 (by decide) ?_
    obtain ⟨q20, hq20, hf⟩ := mm_on_s hf
    rw [hq20, mm_rf_some]
    obtain ⟨n21, hn21, hf⟩ := mm_ar_s hf
    obtain ⟨hi22, hf⟩ := mm_ib_s hf
    refine mm_iast hn21 rfl hi22 dX9_rowCode_96 ?_
    obtain ⟨s23, hs23, hf⟩ := mm_let_s hf
    rw [hs23]
    cases hf
    refine mm_widen (ck' := rmX9_rowCode.cells) (sk' := rmX9_rowCode.slots) (Nat.le_of_ble_eq_true rfl) (Nat.le_of_ble_eq_true rfl) ?_
    exact mm_vret rfl dX9_rowCode_97 ⟨rfl, rfl⟩
set_option maxHeartbeats 4000000 in
set_option maxRecDepth 100000 in
theorem kX9_rowCode_58 {G : mm_G} {A : Nat → Prop} {ini : Bool × Option (List (Nat × Nat × Nat × Nat))}  {R : mm_M}  (a0 : Nat) (x1 : Int32) (x2 : Int32) (x3 : Int32) (x4 : Int32) (y0 : Int32) (y1 : Int32) (y2 : Option Nat) (σ : mm_M) (hf : fX9_rowCode_58  a0 x1 x2 x3 x4 y0 y1 y2 σ = some R) : mm_J cd_Y G RX9 cX9_rowCode 5 none ini rmX9_rowCode A (mm_QF cd_Y G A (mm_Pv R) rmX9_rowCode.cells rmX9_rowCode.slots) 58 [(0, .ref a0), (1, .int x1), (2, .int x2), (3, .int x3), (4, .int x4)] [.int y0, .int y1, va_rf (y2)] σ 0 0 := by
  unfold fX9_rowCode_58 at hf
  refine mm_iload_n (j := 3) dX9_rowCode_58 rfl rfl ?_
  refine mm_iconst (v := 2) dX9_rowCode_59 (by decide) ?_
  refine mm_irem dX9_rowCode_60 (by decide) ?_
  refine mm_iconst (v := 1) dX9_rowCode_61 (by decide) ?_
  refine mm_icmp_ne (tgt := 70) dX9_rowCode_62 (by decide) (fun c9 => ?_) (fun c9 => ?_)
  · rw [if_neg c9] at hf
    refine mm_iconst (v := 0) dX9_rowCode_70 (by decide) ?_
    refine mm_sub [0, 1, 2, 3, 4] rfl ?_
    exact kX9_rowCode_71  a0 x1 x2 x3 x4 0 y0 y1 y2 σ hf
  · rw [if_pos c9] at hf
    refine mm_bipush (v := 8) dX9_rowCode_65 (by decide) ?_
    refine mm_goto (tgt := 71) dX9_rowCode_67 (by decide) ?_
    refine mm_sub [0, 1, 2, 3, 4] rfl ?_
    exact kX9_rowCode_71  a0 x1 x2 x3 x4 8 y0 y1 y2 σ hf
set_option maxHeartbeats 4000000 in
set_option maxRecDepth 100000 in
theorem kX9_rowCode_28 {G : mm_G} {A : Nat → Prop} {ini : Bool × Option (List (Nat × Nat × Nat × Nat))}  {R : mm_M}  (a0 : Nat) (x1 : Int32) (x2 : Int32) (x3 : Int32) (y0 : Int32) (y1 : Int32) (y2 : Int32) (y3 : Nat) (σ : mm_M) (hf : fX9_rowCode_28  a0 x1 x2 x3 y0 y1 y2 y3 σ = some R) : mm_J cd_Y G RX9 cX9_rowCode 5 none ini rmX9_rowCode A (mm_QF cd_Y G A (mm_Pv R) rmX9_rowCode.cells rmX9_rowCode.slots) 28 [(0, .ref a0), (1, .int x1), (2, .int x2), (3, .int x3)] [.int y0, .int y1, .int y2, .ref y3] σ 0 0 := by
  unfold fX9_rowCode_28 at hf
  refine mm_iadd dX9_rowCode_28 ?_
  obtain ⟨hs5, hf⟩ := mm_sh_s hf
  obtain ⟨q6, hq6, hf⟩ := mm_on_s hf
  refine mm_callVv cd_ok (kX9_toRow y3 y2 (y1 + y0) hq6) hs5 rfl (Or.inl tw_966) cdX9_toRow tw_968 ts_35 nmX9_toRow rfl rfl (by simp only [List.map_cons, List.map_nil, mm_rf_cat]; exact Nat.le_of_ble_eq_true rfl) dX9_rowCode_29 ⟨Nat.le_of_ble_eq_true rfl, Nat.le_of_ble_eq_true rfl⟩ ⟨Nat.le_of_ble_eq_true rfl, Nat.le_of_ble_eq_true rfl⟩ ?_
  refine mm_iload_n (j := 3) dX9_rowCode_32 rfl rfl ?_
  refine mm_iconst (v := 2) dX9_rowCode_33 (by decide) ?_
  refine mm_idiv dX9_rowCode_34 (by decide) ?_
  refine mm_bipush (v := 16) dX9_rowCode_35 (by decide) ?_
  refine mm_irem dX9_rowCode_37 (by decide) ?_
  refine mm_istore (L' := [(4, .int ((x3 / 2) - (x3 / 2) / 16 * 16)), (0, .ref a0), (1, .int x1), (2, .int x2), (3, .int x3)]) dX9_rowCode_38 (by decide) rfl ?_
  refine mm_aload_n (j := 1) dX9_rowCode_40 rfl rfl ?_
  obtain ⟨hs7, hf⟩ := mm_sh_s hf
  refine mm_get (c := 9) (k := 7) (v := va_rf (mm_R q6 a0 7)) cd_ok ⟨_, _, _, rfl, by decide, Or.inl tw_801⟩ hs7 rfl dX9_rowCode_41 ?_
  refine mm_iload_n (j := 2) dX9_rowCode_44 rfl rfl ?_
  refine mm_iload (j := 0) dX9_rowCode_45 rfl ?_
  refine mm_bipush (v := 8) dX9_rowCode_47 (by decide) ?_
  refine mm_icmp_ge (tgt := 57) dX9_rowCode_49 (by decide) (fun c8 => ?_) (fun c8 => ?_)
  · rw [if_pos c8] at hf
    refine mm_iconst (v := 0) dX9_rowCode_57 (by decide) ?_
    refine mm_sub [1, 2, 3, 4, 0] rfl ?_
    exact kX9_rowCode_58  a0 x1 x2 x3 ((x3 / 2) - (x3 / 2) / 16 * 16) 0 x1 (mm_R q6 a0 7) q6 hf
  · rw [if_neg c8] at hf
    refine mm_iload (j := 0) dX9_rowCode_52 rfl ?_
    refine mm_goto (tgt := 58) dX9_rowCode_54 (by decide) ?_
    refine mm_sub [1, 2, 3, 4, 0] rfl ?_
    exact kX9_rowCode_58  a0 x1 x2 x3 ((x3 / 2) - (x3 / 2) / 16 * 16) ((x3 / 2) - (x3 / 2) / 16 * 16) x1 (mm_R q6 a0 7) q6 hf
set_option maxHeartbeats 4000000 in
set_option maxRecDepth 100000 in
theorem kX9_rowCode {G : mm_G} {A : Nat → Prop} (p0 : Nat) (p1 : Int32) (p2 : Int32) (p3 : Int32) {σ : mm_M} {R : mm_M} (hf : fX9_rowCode p0 p1 p2 p3 σ = some R) : mm_C cd_Y G yX9_rowCode cX9_rowCode 5 none rmX9_rowCode A [.ref p0, .int p1, .int p2, .int p3] σ (mm_Pv R) := by
  refine mm_C.of (by decide) (Nat.le_of_ble_eq_true rfl) ?_
  unfold fX9_rowCode at hf
  have e0 : lv_args 0 [.ref p0, .int p1, .int p2, .int p3] = [(0, .ref p0), (1, .int p1), (2, .int p2), (3, .int p3)] := rfl
  rw [e0]
  generalize hini : ((yX9_rowCode.name == "<init>"), none) = ini
  clear e0
  clear hini
  refine mm_aload_n (j := 0) dX9_rowCode_0 rfl rfl ?_
  refine mm_iload_n (j := 1) dX9_rowCode_1 rfl rfl ?_
  obtain ⟨hs1, hf⟩ := mm_sh_s hf
  obtain ⟨q2, hq2, hf⟩ := mm_on_s hf
  refine mm_callVi cd_ok (kX9_screenOf p0 p1 hq2) hs1 rfl (Or.inl tw_959) cdX9_screenOf tw_961 ts_34 nmX9_screenOf rfl rfl (by simp only [List.map_cons, List.map_nil, mm_rf_cat]; exact Nat.le_of_ble_eq_true rfl) dX9_rowCode_2 ⟨Nat.le_of_ble_eq_true rfl, Nat.le_of_ble_eq_true rfl⟩ ⟨Nat.le_of_ble_eq_true rfl, Nat.le_of_ble_eq_true rfl⟩ ?_
  refine mm_iconst (v := (-1)) dX9_rowCode_5 (by decide) ?_
  refine mm_icmp_ne (tgt := 10) dX9_rowCode_6 (by decide) (fun c3 => ?_) (fun c3 => ?_)
  · rw [if_neg c3] at hf
    refine mm_aload_n (j := 0) dX9_rowCode_10 rfl rfl ?_
    refine mm_iload_n (j := 1) dX9_rowCode_11 rfl rfl ?_
    refine mm_iload_n (j := 2) dX9_rowCode_12 rfl rfl ?_
    refine mm_callSi cd_ok (kX9_rowOf p2 _ rfl) (Or.inl tw_963) cdX9_rowOf tw_964 nmX9_rowOf rfl rfl (by simp only [List.map_cons, List.map_nil, mm_rf_cat]; exact Nat.le_of_ble_eq_true rfl) dX9_rowCode_13 ⟨Nat.le_of_ble_eq_true rfl, Nat.le_of_ble_eq_true rfl⟩ ⟨Nat.le_of_ble_eq_true rfl, Nat.le_of_ble_eq_true rfl⟩ ?_
    refine mm_iload_n (j := 3) dX9_rowCode_16 rfl rfl ?_
    refine mm_bipush (v := 32) dX9_rowCode_17 (by decide) ?_
    refine mm_iand dX9_rowCode_19 ?_
    refine mm_if_le (tgt := 27) dX9_rowCode_20 (by decide) (fun c4 => ?_) (fun c4 => ?_)
    · rw [if_pos c4] at hf
      refine mm_iconst (v := 0) dX9_rowCode_27 (by decide) ?_
      refine mm_sub [0, 1, 2, 3] rfl ?_
      exact kX9_rowCode_28  p0 p1 p2 p3 0 (fX9_rowOf p2) p1 p0 q2.2 hf
    · rw [if_neg c4] at hf
      refine mm_iconst (v := 1) dX9_rowCode_23 (by decide) ?_
      refine mm_goto (tgt := 28) dX9_rowCode_24 (by decide) ?_
      refine mm_sub [0, 1, 2, 3] rfl ?_
      exact kX9_rowCode_28  p0 p1 p2 p3 1 (fX9_rowOf p2) p1 p0 q2.2 hf
  · rw [if_pos c3] at hf
    cases hf
    refine mm_widen (ck' := rmX9_rowCode.cells) (sk' := rmX9_rowCode.slots) (Nat.le_of_ble_eq_true rfl) (Nat.le_of_ble_eq_true rfl) ?_
    exact mm_vret rfl dX9_rowCode_9 ⟨rfl, rfl⟩
theorem dX9_roll_0 : decode cX9_roll 0 = .ok (.aload_n 0, 1) := by decide +kernel
theorem dX9_roll_1 : decode cX9_roll 1 = .ok (.getfield 19, 3) := by decide +kernel
theorem dX9_roll_4 : decode cX9_roll 4 = .ok (.iload_n 1, 1) := by decide +kernel
theorem dX9_roll_5 : decode cX9_roll 5 = .ok (.iaload, 1) := by decide +kernel
theorem dX9_roll_6 : decode cX9_roll 6 = .ok (.iconst 2, 1) := by decide +kernel
theorem dX9_roll_7 : decode cX9_roll 7 = .ok (.if_icmp .ne 59, 3) := by decide +kernel
theorem dX9_roll_10 : decode cX9_roll 10 = .ok (.iconst 1, 1) := by decide +kernel
theorem dX9_roll_11 : decode cX9_roll 11 = .ok (.istore_n 3, 1) := by decide +kernel
theorem dX9_roll_12 : decode cX9_roll 12 = .ok (.iload_n 3, 1) := by decide +kernel
theorem dX9_roll_13 : decode cX9_roll 13 = .ok (.aload_n 0, 1) := by decide +kernel
theorem dX9_roll_14 : decode cX9_roll 14 = .ok (.getfield 22, 3) := by decide +kernel
theorem dX9_roll_17 : decode cX9_roll 17 = .ok (.iload_n 1, 1) := by decide +kernel
theorem dX9_roll_18 : decode cX9_roll 18 = .ok (.iaload, 1) := by decide +kernel
theorem dX9_roll_19 : decode cX9_roll 19 = .ok (.iload_n 2, 1) := by decide +kernel
theorem dX9_roll_20 : decode cX9_roll 20 = .ok (.isub, 1) := by decide +kernel
theorem dX9_roll_21 : decode cX9_roll 21 = .ok (.if_icmp .gt 16, 3) := by decide +kernel
theorem dX9_roll_24 : decode cX9_roll 24 = .ok (.aload_n 0, 1) := by decide +kernel
theorem dX9_roll_25 : decode cX9_roll 25 = .ok (.iload_n 1, 1) := by decide +kernel
theorem dX9_roll_26 : decode cX9_roll 26 = .ok (.iconst 0, 1) := by decide +kernel
theorem dX9_roll_27 : decode cX9_roll 27 = .ok (.iload_n 3, 1) := by decide +kernel
theorem dX9_roll_28 : decode cX9_roll 28 = .ok (.invokevirtual 132, 3) := by decide +kernel
theorem dX9_roll_31 : decode cX9_roll 31 = .ok (.iinc 3 1, 3) := by decide +kernel
theorem dX9_roll_34 : decode cX9_roll 34 = .ok (.goto (-22), 3) := by decide +kernel
theorem dX9_roll_37 : decode cX9_roll 37 = .ok (.aload_n 0, 1) := by decide +kernel
theorem dX9_roll_38 : decode cX9_roll 38 = .ok (.getfield 22, 3) := by decide +kernel
theorem dX9_roll_41 : decode cX9_roll 41 = .ok (.iload_n 1, 1) := by decide +kernel
theorem dX9_roll_42 : decode cX9_roll 42 = .ok (.aload_n 0, 1) := by decide +kernel
theorem dX9_roll_43 : decode cX9_roll 43 = .ok (.getfield 22, 3) := by decide +kernel
theorem dX9_roll_46 : decode cX9_roll 46 = .ok (.iload_n 1, 1) := by decide +kernel
theorem dX9_roll_47 : decode cX9_roll 47 = .ok (.iaload, 1) := by decide +kernel
theorem dX9_roll_48 : decode cX9_roll 48 = .ok (.iload_n 2, 1) := by decide +kernel
theorem dX9_roll_49 : decode cX9_roll 49 = .ok (.if_icmp .ge 7, 3) := by decide +kernel
theorem dX9_roll_52 : decode cX9_roll 52 = .ok (.iload_n 2, 1) := by decide +kernel
theorem dX9_roll_53 : decode cX9_roll 53 = .ok (.goto 9, 3) := by decide +kernel
theorem dX9_roll_56 : decode cX9_roll 56 = .ok (.aload_n 0, 1) := by decide +kernel
theorem dX9_roll_57 : decode cX9_roll 57 = .ok (.getfield 22, 3) := by decide +kernel
theorem dX9_roll_60 : decode cX9_roll 60 = .ok (.iload_n 1, 1) := by decide +kernel
theorem dX9_roll_61 : decode cX9_roll 61 = .ok (.iaload, 1) := by decide +kernel
theorem dX9_roll_62 : decode cX9_roll 62 = .ok (.iastore, 1) := by decide +kernel
theorem dX9_roll_63 : decode cX9_roll 63 = .ok (.goto 23, 3) := by decide +kernel
theorem dX9_roll_66 : decode cX9_roll 66 = .ok (.aload_n 0, 1) := by decide +kernel
theorem dX9_roll_67 : decode cX9_roll 67 = .ok (.iload_n 1, 1) := by decide +kernel
theorem dX9_roll_68 : decode cX9_roll 68 = .ok (.iconst 0, 1) := by decide +kernel
theorem dX9_roll_69 : decode cX9_roll 69 = .ok (.invokevirtual 163, 3) := by decide +kernel
theorem dX9_roll_72 : decode cX9_roll 72 = .ok (.aload_n 0, 1) := by decide +kernel
theorem dX9_roll_73 : decode cX9_roll 73 = .ok (.iload_n 1, 1) := by decide +kernel
theorem dX9_roll_74 : decode cX9_roll 74 = .ok (.iconst 1, 1) := by decide +kernel
theorem dX9_roll_75 : decode cX9_roll 75 = .ok (.invokevirtual 163, 3) := by decide +kernel
theorem dX9_roll_78 : decode cX9_roll 78 = .ok (.aload_n 0, 1) := by decide +kernel
theorem dX9_roll_79 : decode cX9_roll 79 = .ok (.getfield 22, 3) := by decide +kernel
theorem dX9_roll_82 : decode cX9_roll 82 = .ok (.iload_n 1, 1) := by decide +kernel
theorem dX9_roll_83 : decode cX9_roll 83 = .ok (.bipush 15, 2) := by decide +kernel
theorem dX9_roll_85 : decode cX9_roll 85 = .ok (.iastore, 1) := by decide +kernel
theorem dX9_roll_86 : decode cX9_roll 86 = .ok (.aload_n 0, 1) := by decide +kernel
theorem dX9_roll_87 : decode cX9_roll 87 = .ok (.getfield 19, 3) := by decide +kernel
theorem dX9_roll_90 : decode cX9_roll 90 = .ok (.iload_n 1, 1) := by decide +kernel
theorem dX9_roll_91 : decode cX9_roll 91 = .ok (.iconst 2, 1) := by decide +kernel
theorem dX9_roll_92 : decode cX9_roll 92 = .ok (.iastore, 1) := by decide +kernel
theorem dX9_roll_93 : decode cX9_roll 93 = .ok (.aload_n 0, 1) := by decide +kernel
theorem dX9_roll_94 : decode cX9_roll 94 = .ok (.getfield 31, 3) := by decide +kernel
theorem dX9_roll_97 : decode cX9_roll 97 = .ok (.iload_n 1, 1) := by decide +kernel
theorem dX9_roll_98 : decode cX9_roll 98 = .ok (.iload_n 2, 1) := by decide +kernel
theorem dX9_roll_99 : decode cX9_roll 99 = .ok (.iastore, 1) := by decide +kernel
theorem dX9_roll_100 : decode cX9_roll 100 = .ok (.aload_n 0, 1) := by decide +kernel
theorem dX9_roll_101 : decode cX9_roll 101 = .ok (.getfield 25, 3) := by decide +kernel
theorem dX9_roll_104 : decode cX9_roll 104 = .ok (.iload_n 1, 1) := by decide +kernel
theorem dX9_roll_105 : decode cX9_roll 105 = .ok (.iconst 0, 1) := by decide +kernel
theorem dX9_roll_106 : decode cX9_roll 106 = .ok (.iastore, 1) := by decide +kernel
theorem dX9_roll_107 : decode cX9_roll 107 = .ok (.aload_n 0, 1) := by decide +kernel
theorem dX9_roll_108 : decode cX9_roll 108 = .ok (.getfield 28, 3) := by decide +kernel
theorem dX9_roll_111 : decode cX9_roll 111 = .ok (.iload_n 1, 1) := by decide +kernel
theorem dX9_roll_112 : decode cX9_roll 112 = .ok (.iconst 0, 1) := by decide +kernel
theorem dX9_roll_113 : decode cX9_roll 113 = .ok (.iastore, 1) := by decide +kernel
theorem dX9_roll_114 : decode cX9_roll 114 = .ok (.return_, 1) := by decide +kernel
theorem nmX9_roll : mm_nm yX9_roll 2 := ⟨by decide, by decide, by decide +kernel⟩
theorem cdX9_roll : mm_cd cd_Y yX9_roll cX9_roll 4 none := ⟨tw_993, tw_8⟩
abbrev rmX9_roll : Room := { frames := 3, cells := 0, slots := 0, locals := 72 }
def fX9_roll_86  (a0 : Nat) (x1 : Int32) (x2 : Int32) (σ : mm_M) : Option mm_M :=
  mm_sh σ a0 (.inl 9) (mm_on (mm_R σ a0 4) fun q15 => mm_ar σ q15 0 fun n16 => mm_ib x1 n16 (mm_let (mm_wI σ q15 (x1.toNatClampNeg) 2) fun s18 => mm_on (mm_R s18 a0 8) fun q19 => mm_ar s18 q19 0 fun n20 => mm_ib x1 n20 (mm_let (mm_wI s18 q19 (x1.toNatClampNeg) x2) fun s22 => mm_on (mm_R s22 a0 6) fun q23 => mm_ar s22 q23 0 fun n24 => mm_ib x1 n24 (mm_let (mm_wI s22 q23 (x1.toNatClampNeg) 0) fun s26 => mm_on (mm_R s26 a0 7) fun q27 => mm_ar s26 q27 0 fun n28 => mm_ib x1 n28 (mm_let (mm_wI s26 q27 (x1.toNatClampNeg) 0) fun s30 => some (s30))))))
def fX9_roll_62  (a0 : Nat) (x1 : Int32) (x2 : Int32) (x3 : Int32) (y0 : Int32) (y1 : Int32) (y2 : Nat) (σ : mm_M) : Option mm_M :=
  mm_ar σ y2 0 fun n43 => mm_ib y1 n43 (mm_let (mm_wI σ y2 (y1.toNatClampNeg) y0) fun s45 => (fX9_roll_86  a0 x1 x2 s45))
def fX9_roll_12  : Nat → Nat → Int32 → Int32 → Int32 → mm_M → Option mm_M
  | 0 => fun _ _ _ _ _ => none
  | n + 1 => fun a0 x1 x2 x3 σ =>
  mm_sh σ a0 (.inl 9) (mm_on (mm_R σ a0 5) fun q32 => mm_ar σ q32 0 fun n33 => mm_ib x1 n33 ((if ((mm_I σ q32 x1.toNatClampNeg) - x2) < x3 then mm_on (mm_R σ a0 5) fun q36 => mm_ar σ q36 0 fun n37 => mm_ib x1 n37 ((if x2 ≤ (mm_I σ q36 x1.toNatClampNeg) then mm_on (mm_R σ a0 5) fun q40 => mm_ar σ q40 0 fun n41 => mm_ib x1 n41 ((fX9_roll_62  a0 x1 x2 x3 (mm_I σ q40 x1.toNatClampNeg) x1 q36 σ)) else (fX9_roll_62  a0 x1 x2 x3 x2 x1 q36 σ))) else mm_on (fX9_clearRow a0 x1 0 x3 σ) fun q46 => (fX9_roll_12  n a0 x1 x2 (x3 + 1) q46))))
def fX9_roll (p0 : Nat) (p1 : Int32) (p2 : Int32) (σ : mm_M) : Option mm_M :=
  mm_sh σ p0 (.inl 9) (mm_on (mm_R σ p0 4) fun q2 => mm_ar σ q2 0 fun n3 => mm_ib p1 n3 ((if (mm_I σ q2 p1.toNatClampNeg) = 2 then (fX9_roll_12  mm_fuel p0 p1 p2 1 σ) else mm_on (fX9_clearScreen p0 p1 0 σ) fun q6 => mm_sh q6 p0 (.inl 9) (mm_on (fX9_clearScreen p0 p1 1 q6) fun q8 => mm_sh q8 p0 (.inl 9) (mm_on (mm_R q8 p0 5) fun q10 => mm_ar q8 q10 0 fun n11 => mm_ib p1 n11 (mm_let (mm_wI q8 q10 (p1.toNatClampNeg) 15) fun s13 => (fX9_roll_86  p0 p1 p2 s13)))))))
set_option maxHeartbeats 4000000 in
set_option maxRecDepth 100000 in
theorem kX9_roll_86 {G : mm_G} {A : Nat → Prop} {ini : Bool × Option (List (Nat × Nat × Nat × Nat))}  {R : mm_M}  (a0 : Nat) (x1 : Int32) (x2 : Int32) (σ : mm_M) (hf : fX9_roll_86  a0 x1 x2 σ = some R) : mm_J cd_Y G RX9 cX9_roll 4 none ini rmX9_roll A (mm_QF cd_Y G A (mm_Pv R) rmX9_roll.cells rmX9_roll.slots) 86 [(0, .ref a0), (1, .int x1), (2, .int x2)] [] σ 0 0 := by
  unfold fX9_roll_86 at hf
  refine mm_aload_n (j := 0) dX9_roll_86 rfl rfl ?_
  obtain ⟨hs14, hf⟩ := mm_sh_s hf
  refine mm_get (c := 9) (k := 4) (v := va_rf (mm_R σ a0 4)) cd_ok ⟨_, _, _, rfl, by decide, Or.inl tw_798⟩ hs14 rfl dX9_roll_87 ?_
  refine mm_iload_n (j := 1) dX9_roll_90 rfl rfl ?_
  refine mm_iconst (v := 2) dX9_roll_91 (by decide) ?_
  obtain ⟨q15, hq15, hf⟩ := mm_on_s hf
  rw [hq15, mm_rf_some]
  obtain ⟨n16, hn16, hf⟩ := mm_ar_s hf
  obtain ⟨hi17, hf⟩ := mm_ib_s hf
  refine mm_iast hn16 rfl hi17 dX9_roll_92 ?_
  obtain ⟨s18, hs18, hf⟩ := mm_let_s hf
  rw [hs18]
  refine mm_aload_n (j := 0) dX9_roll_93 rfl rfl ?_
  refine mm_get (c := 9) (k := 8) (v := va_rf (mm_R s18 a0 8)) cd_ok ⟨_, _, _, rfl, by decide, Or.inl tw_802⟩ (mm_ke hs18 hs14) rfl dX9_roll_94 ?_
  refine mm_iload_n (j := 1) dX9_roll_97 rfl rfl ?_
  refine mm_iload_n (j := 2) dX9_roll_98 rfl rfl ?_
  obtain ⟨q19, hq19, hf⟩ := mm_on_s hf
  rw [hq19, mm_rf_some]
  obtain ⟨n20, hn20, hf⟩ := mm_ar_s hf
  obtain ⟨hi21, hf⟩ := mm_ib_s hf
  refine mm_iast hn20 rfl hi21 dX9_roll_99 ?_
  obtain ⟨s22, hs22, hf⟩ := mm_let_s hf
  rw [hs22]
  refine mm_aload_n (j := 0) dX9_roll_100 rfl rfl ?_
  refine mm_get (c := 9) (k := 6) (v := va_rf (mm_R s22 a0 6)) cd_ok ⟨_, _, _, rfl, by decide, Or.inl tw_800⟩ (mm_ke hs22 (mm_ke hs18 hs14)) rfl dX9_roll_101 ?_
  refine mm_iload_n (j := 1) dX9_roll_104 rfl rfl ?_
  refine mm_iconst (v := 0) dX9_roll_105 (by decide) ?_
  obtain ⟨q23, hq23, hf⟩ := mm_on_s hf
  rw [hq23, mm_rf_some]
  obtain ⟨n24, hn24, hf⟩ := mm_ar_s hf
  obtain ⟨hi25, hf⟩ := mm_ib_s hf
  refine mm_iast hn24 rfl hi25 dX9_roll_106 ?_
  obtain ⟨s26, hs26, hf⟩ := mm_let_s hf
  rw [hs26]
  refine mm_aload_n (j := 0) dX9_roll_107 rfl rfl ?_
  refine mm_get (c := 9) (k := 7) (v := va_rf (mm_R s26 a0 7)) cd_ok ⟨_, _, _, rfl, by decide, Or.inl tw_801⟩ (mm_ke hs26 (mm_ke hs22 (mm_ke hs18 hs14))) rfl dX9_roll_108 ?_
  refine mm_iload_n (j := 1) dX9_roll_111 rfl rfl ?_
  refine mm_iconst (v := 0) dX9_roll_112 (by decide) ?_
  obtain ⟨q27, hq27, hf⟩ := mm_on_s hf
  rw [hq27, mm_rf_some]
  obtain ⟨n28, hn28, hf⟩ := mm_ar_s hf
  obtain ⟨hi29, hf⟩ := mm_ib_s hf
  refine mm_iast hn28 rfl hi29 dX9_roll_113 ?_
  obtain ⟨s30, hs30, hf⟩ := mm_let_s hf
  rw [hs30]
  cases hf
  refine mm_widen (ck' := rmX9_roll.cells) (sk' := rmX9_roll.slots) (Nat.le_of_ble_eq_true rfl) (Nat.le_of_ble_eq_true rfl) ?_
  exact mm_vret rfl dX9_roll_114 ⟨rfl, rfl⟩
set_option maxHeartbeats 4000000 in
set_option maxRecDepth 100000 in
theorem kX9_roll_62 {G : mm_G} {A : Nat → Prop} {ini : Bool × Option (List (Nat × Nat × Nat × Nat))}  {R : mm_M}  (a0 : Nat) (x1 : Int32) (x2 : Int32) (x3 : Int32) (y0 : Int32) (y1 : Int32) (y2 : Nat) (σ : mm_M) (hf : fX9_roll_62  a0 x1 x2 x3 y0 y1 y2 σ = some R) : mm_J cd_Y G RX9 cX9_roll 4 none ini rmX9_roll A (mm_QF cd_Y G A (mm_Pv R) rmX9_roll.cells rmX9_roll.slots) 62 [(0, .ref a0), (1, .int x1), (2, .int x2), (3, .int x3)] [.int y0, .int y1, .ref y2] σ 0 0 := by
  unfold fX9_roll_62 at hf
  obtain ⟨n43, hn43, hf⟩ := mm_ar_s hf
  obtain ⟨hi44, hf⟩ := mm_ib_s hf
  refine mm_iast hn43 rfl hi44 dX9_roll_62 ?_
  obtain ⟨s45, hs45, hf⟩ := mm_let_s hf
  rw [hs45]
  refine mm_goto (tgt := 86) dX9_roll_63 (by decide) ?_
  refine mm_sub [0, 1, 2] rfl ?_
  exact kX9_roll_86  a0 x1 x2 s45 hf
set_option maxHeartbeats 4000000 in
set_option maxRecDepth 100000 in
theorem kX9_roll_12 {G : mm_G} {A : Nat → Prop} {ini : Bool × Option (List (Nat × Nat × Nat × Nat))}  {R : mm_M}  : ∀ (a0 : Nat) (x1 : Int32) (x2 : Int32) (x3 : Int32) (σ : mm_M), fX9_roll_12  mm_fuel a0 x1 x2 x3 σ = some R → mm_J cd_Y G RX9 cX9_roll 4 none ini rmX9_roll A (mm_QF cd_Y G A (mm_Pv R) rmX9_roll.cells rmX9_roll.slots) 12 [(0, .ref a0), (1, .int x1), (2, .int x2), (3, .int x3)] [] σ 0 0 := by
  generalize mm_fuel = n
  induction n with
  | zero => intro a0 x1 x2 x3 σ hf; cases hf
  | succ n ih =>
    intro a0 x1 x2 x3 σ hf
    unfold fX9_roll_12 at hf
    refine mm_iload_n (j := 3) dX9_roll_12 rfl rfl ?_
    refine mm_aload_n (j := 0) dX9_roll_13 rfl rfl ?_
    obtain ⟨hs31, hf⟩ := mm_sh_s hf
    refine mm_get (c := 9) (k := 5) (v := va_rf (mm_R σ a0 5)) cd_ok ⟨_, _, _, rfl, by decide, Or.inl tw_799⟩ hs31 rfl dX9_roll_14 ?_
    refine mm_iload_n (j := 1) dX9_roll_17 rfl rfl ?_
    obtain ⟨q32, hq32, hf⟩ := mm_on_s hf
    rw [hq32, mm_rf_some]
    obtain ⟨n33, hn33, hf⟩ := mm_ar_s hf
    obtain ⟨hi34, hf⟩ := mm_ib_s hf
    refine mm_iald hn33 rfl hi34 dX9_roll_18 ?_
    refine mm_iload_n (j := 2) dX9_roll_19 rfl rfl ?_
    refine mm_isub dX9_roll_20 ?_
    refine mm_icmp_gt (tgt := 37) dX9_roll_21 (by decide) (fun c35 => ?_) (fun c35 => ?_)
    · rw [if_pos c35] at hf
      refine mm_aload_n (j := 0) dX9_roll_37 rfl rfl ?_
      refine mm_get (c := 9) (k := 5) (v := va_rf (mm_R σ a0 5)) cd_ok ⟨_, _, _, rfl, by decide, Or.inl tw_799⟩ hs31 rfl dX9_roll_38 ?_
      refine mm_iload_n (j := 1) dX9_roll_41 rfl rfl ?_
      refine mm_aload_n (j := 0) dX9_roll_42 rfl rfl ?_
      refine mm_get (c := 9) (k := 5) (v := va_rf (mm_R σ a0 5)) cd_ok ⟨_, _, _, rfl, by decide, Or.inl tw_799⟩ hs31 rfl dX9_roll_43 ?_
      refine mm_iload_n (j := 1) dX9_roll_46 rfl rfl ?_
      obtain ⟨q36, hq36, hf⟩ := mm_on_s hf
      rw [hq36, mm_rf_some]
      obtain ⟨n37, hn37, hf⟩ := mm_ar_s hf
      obtain ⟨hi38, hf⟩ := mm_ib_s hf
      refine mm_iald hn37 rfl hi38 dX9_roll_47 ?_
      refine mm_iload_n (j := 2) dX9_roll_48 rfl rfl ?_
      refine mm_icmp_ge (tgt := 56) dX9_roll_49 (by decide) (fun c39 => ?_) (fun c39 => ?_)
      · rw [if_pos c39] at hf
        refine mm_aload_n (j := 0) dX9_roll_56 rfl rfl ?_
        refine mm_get (c := 9) (k := 5) (v := va_rf (mm_R σ a0 5)) cd_ok ⟨_, _, _, rfl, by decide, Or.inl tw_799⟩ hs31 rfl dX9_roll_57 ?_
        refine mm_iload_n (j := 1) dX9_roll_60 rfl rfl ?_
        obtain ⟨q40, hq40, hf⟩ := mm_on_s hf
        rw [hq40, mm_rf_some]
        obtain ⟨n41, hn41, hf⟩ := mm_ar_s hf
        obtain ⟨hi42, hf⟩ := mm_ib_s hf
        refine mm_iald hn41 rfl hi42 dX9_roll_61 ?_
        refine mm_sub [0, 1, 2, 3] rfl ?_
        exact kX9_roll_62  a0 x1 x2 x3 (mm_I σ q40 x1.toNatClampNeg) x1 q36 σ hf
      · rw [if_neg c39] at hf
        refine mm_iload_n (j := 2) dX9_roll_52 rfl rfl ?_
        refine mm_goto (tgt := 62) dX9_roll_53 (by decide) ?_
        refine mm_sub [0, 1, 2, 3] rfl ?_
        exact kX9_roll_62  a0 x1 x2 x3 x2 x1 q36 σ hf
    · rw [if_neg c35] at hf
      refine mm_aload_n (j := 0) dX9_roll_24 rfl rfl ?_
      refine mm_iload_n (j := 1) dX9_roll_25 rfl rfl ?_
      refine mm_iconst (v := 0) dX9_roll_26 (by decide) ?_
      refine mm_iload_n (j := 3) dX9_roll_27 rfl rfl ?_
      obtain ⟨q46, hq46, hf⟩ := mm_on_s hf
      refine mm_callVv cd_ok (kX9_clearRow a0 x1 0 x3 hq46) hs31 rfl (Or.inl tw_974) cdX9_clearRow tw_976 ts_37 nmX9_clearRow rfl rfl (by simp only [List.map_cons, List.map_nil, mm_rf_cat]; exact Nat.le_of_ble_eq_true rfl) dX9_roll_28 ⟨Nat.le_of_ble_eq_true rfl, Nat.le_of_ble_eq_true rfl⟩ ⟨Nat.le_of_ble_eq_true rfl, Nat.le_of_ble_eq_true rfl⟩ ?_
      refine mm_iinc (j := 3) (L' := [(3, .int (x3 + 1)), (0, .ref a0), (1, .int x1), (2, .int x2)]) dX9_roll_31 rfl rfl (by decide) rfl ?_
      refine mm_goto (tgt := 12) dX9_roll_34 (by decide) ?_
      refine mm_sub [1, 2, 3, 0] rfl ?_
      exact ih a0 x1 x2 (x3 + 1) q46 hf
set_option maxHeartbeats 4000000 in
set_option maxRecDepth 100000 in
theorem kX9_roll {G : mm_G} {A : Nat → Prop} (p0 : Nat) (p1 : Int32) (p2 : Int32) {σ : mm_M} {R : mm_M} (hf : fX9_roll p0 p1 p2 σ = some R) : mm_C cd_Y G yX9_roll cX9_roll 4 none rmX9_roll A [.ref p0, .int p1, .int p2] σ (mm_Pv R) := by
  refine mm_C.of (by decide) (Nat.le_of_ble_eq_true rfl) ?_
  unfold fX9_roll at hf
  have e0 : lv_args 0 [.ref p0, .int p1, .int p2] = [(0, .ref p0), (1, .int p1), (2, .int p2)] := rfl
  rw [e0]
  generalize hini : ((yX9_roll.name == "<init>"), none) = ini
  clear e0
  clear hini
  refine mm_aload_n (j := 0) dX9_roll_0 rfl rfl ?_
  obtain ⟨hs1, hf⟩ := mm_sh_s hf
  refine mm_get (c := 9) (k := 4) (v := va_rf (mm_R σ p0 4)) cd_ok ⟨_, _, _, rfl, by decide, Or.inl tw_798⟩ hs1 rfl dX9_roll_1 ?_
  refine mm_iload_n (j := 1) dX9_roll_4 rfl rfl ?_
  obtain ⟨q2, hq2, hf⟩ := mm_on_s hf
  rw [hq2, mm_rf_some]
  obtain ⟨n3, hn3, hf⟩ := mm_ar_s hf
  obtain ⟨hi4, hf⟩ := mm_ib_s hf
  refine mm_iald hn3 rfl hi4 dX9_roll_5 ?_
  refine mm_iconst (v := 2) dX9_roll_6 (by decide) ?_
  refine mm_icmp_ne (tgt := 66) dX9_roll_7 (by decide) (fun c5 => ?_) (fun c5 => ?_)
  · rw [if_neg c5] at hf
    refine mm_aload_n (j := 0) dX9_roll_66 rfl rfl ?_
    refine mm_iload_n (j := 1) dX9_roll_67 rfl rfl ?_
    refine mm_iconst (v := 0) dX9_roll_68 (by decide) ?_
    obtain ⟨q6, hq6, hf⟩ := mm_on_s hf
    refine mm_callVv cd_ok (kX9_clearScreen p0 p1 0 hq6) hs1 rfl (Or.inl tw_994) cdX9_clearScreen tw_996 ts_42 nmX9_clearScreen rfl rfl (by simp only [List.map_cons, List.map_nil, mm_rf_cat]; exact Nat.le_of_ble_eq_true rfl) dX9_roll_69 ⟨Nat.le_of_ble_eq_true rfl, Nat.le_of_ble_eq_true rfl⟩ ⟨Nat.le_of_ble_eq_true rfl, Nat.le_of_ble_eq_true rfl⟩ ?_
    refine mm_aload_n (j := 0) dX9_roll_72 rfl rfl ?_
    refine mm_iload_n (j := 1) dX9_roll_73 rfl rfl ?_
    refine mm_iconst (v := 1) dX9_roll_74 (by decide) ?_
    obtain ⟨hs7, hf⟩ := mm_sh_s hf
    obtain ⟨q8, hq8, hf⟩ := mm_on_s hf
    refine mm_callVv cd_ok (kX9_clearScreen p0 p1 1 hq8) hs7 rfl (Or.inl tw_994) cdX9_clearScreen tw_996 ts_42 nmX9_clearScreen rfl rfl (by simp only [List.map_cons, List.map_nil, mm_rf_cat]; exact Nat.le_of_ble_eq_true rfl) dX9_roll_75 ⟨Nat.le_of_ble_eq_true rfl, Nat.le_of_ble_eq_true rfl⟩ ⟨Nat.le_of_ble_eq_true rfl, Nat.le_of_ble_eq_true rfl⟩ ?_
    refine mm_aload_n (j := 0) dX9_roll_78 rfl rfl ?_
    obtain ⟨hs9, hf⟩ := mm_sh_s hf
    refine mm_get (c := 9) (k := 5) (v := va_rf (mm_R q8 p0 5)) cd_ok ⟨_, _, _, rfl, by decide, Or.inl tw_799⟩ hs9 rfl dX9_roll_79 ?_
    refine mm_iload_n (j := 1) dX9_roll_82 rfl rfl ?_
    refine mm_bipush (v := 15) dX9_roll_83 (by decide) ?_
    obtain ⟨q10, hq10, hf⟩ := mm_on_s hf
    rw [hq10, mm_rf_some]
    obtain ⟨n11, hn11, hf⟩ := mm_ar_s hf
    obtain ⟨hi12, hf⟩ := mm_ib_s hf
    refine mm_iast hn11 rfl hi12 dX9_roll_85 ?_
    obtain ⟨s13, hs13, hf⟩ := mm_let_s hf
    rw [hs13]
    refine mm_sub [0, 1, 2] rfl ?_
    exact kX9_roll_86  p0 p1 p2 s13 hf
  · rw [if_pos c5] at hf
    refine mm_iconst (v := 1) dX9_roll_10 (by decide) ?_
    refine mm_istore_n (L' := [(3, .int 1), (0, .ref p0), (1, .int p1), (2, .int p2)]) dX9_roll_11 rfl (by decide) rfl ?_
    refine mm_sub [1, 2, 3, 0] rfl ?_
    exact kX9_roll_12  p0 p1 p2 1 σ hf
theorem dX9_up_0 : decode cX9_up 0 = .ok (.aload_n 0, 1) := by decide +kernel
theorem dX9_up_1 : decode cX9_up 1 = .ok (.getfield 22, 3) := by decide +kernel
theorem dX9_up_4 : decode cX9_up 4 = .ok (.iload_n 1, 1) := by decide +kernel
theorem dX9_up_5 : decode cX9_up 5 = .ok (.iaload, 1) := by decide +kernel
theorem dX9_up_6 : decode cX9_up 6 = .ok (.aload_n 0, 1) := by decide +kernel
theorem dX9_up_7 : decode cX9_up 7 = .ok (.getfield 31, 3) := by decide +kernel
theorem dX9_up_10 : decode cX9_up 10 = .ok (.iload_n 1, 1) := by decide +kernel
theorem dX9_up_11 : decode cX9_up 11 = .ok (.iaload, 1) := by decide +kernel
theorem dX9_up_12 : decode cX9_up 12 = .ok (.isub, 1) := by decide +kernel
theorem dX9_up_13 : decode cX9_up 13 = .ok (.iconst 1, 1) := by decide +kernel
theorem dX9_up_14 : decode cX9_up 14 = .ok (.iadd, 1) := by decide +kernel
theorem dX9_up_15 : decode cX9_up 15 = .ok (.istore_n 2, 1) := by decide +kernel
theorem dX9_up_16 : decode cX9_up 16 = .ok (.iload_n 2, 1) := by decide +kernel
theorem dX9_up_17 : decode cX9_up 17 = .ok (.aload_n 0, 1) := by decide +kernel
theorem dX9_up_18 : decode cX9_up 18 = .ok (.getfield 22, 3) := by decide +kernel
theorem dX9_up_21 : decode cX9_up 21 = .ok (.iload_n 1, 1) := by decide +kernel
theorem dX9_up_22 : decode cX9_up 22 = .ok (.iaload, 1) := by decide +kernel
theorem dX9_up_23 : decode cX9_up 23 = .ok (.if_icmp .ge 84, 3) := by decide +kernel
theorem dX9_up_26 : decode cX9_up 26 = .ok (.iconst 0, 1) := by decide +kernel
theorem dX9_up_27 : decode cX9_up 27 = .ok (.istore_n 3, 1) := by decide +kernel
theorem dX9_up_28 : decode cX9_up 28 = .ok (.iload_n 3, 1) := by decide +kernel
theorem dX9_up_29 : decode cX9_up 29 = .ok (.bipush 32, 2) := by decide +kernel
theorem dX9_up_31 : decode cX9_up 31 = .ok (.if_icmp .ge 70, 3) := by decide +kernel
theorem dX9_up_34 : decode cX9_up 34 = .ok (.iload_n 2, 1) := by decide +kernel
theorem dX9_up_35 : decode cX9_up 35 = .ok (.iconst 1, 1) := by decide +kernel
theorem dX9_up_36 : decode cX9_up 36 = .ok (.if_icmp .lt 65, 3) := by decide +kernel
theorem dX9_up_39 : decode cX9_up 39 = .ok (.aload_n 0, 1) := by decide +kernel
theorem dX9_up_40 : decode cX9_up 40 = .ok (.getfield 7, 3) := by decide +kernel
theorem dX9_up_43 : decode cX9_up 43 = .ok (.aload_n 0, 1) := by decide +kernel
theorem dX9_up_44 : decode cX9_up 44 = .ok (.iload_n 1, 1) := by decide +kernel
theorem dX9_up_45 : decode cX9_up 45 = .ok (.iconst 0, 1) := by decide +kernel
theorem dX9_up_46 : decode cX9_up 46 = .ok (.iload_n 2, 1) := by decide +kernel
theorem dX9_up_47 : decode cX9_up 47 = .ok (.iload_n 3, 1) := by decide +kernel
theorem dX9_up_48 : decode cX9_up 48 = .ok (.invokevirtual 124, 3) := by decide +kernel
theorem dX9_up_51 : decode cX9_up 51 = .ok (.aload_n 0, 1) := by decide +kernel
theorem dX9_up_52 : decode cX9_up 52 = .ok (.getfield 7, 3) := by decide +kernel
theorem dX9_up_55 : decode cX9_up 55 = .ok (.aload_n 0, 1) := by decide +kernel
theorem dX9_up_56 : decode cX9_up 56 = .ok (.iload_n 1, 1) := by decide +kernel
theorem dX9_up_57 : decode cX9_up 57 = .ok (.iconst 0, 1) := by decide +kernel
theorem dX9_up_58 : decode cX9_up 58 = .ok (.iload_n 2, 1) := by decide +kernel
theorem dX9_up_59 : decode cX9_up 59 = .ok (.iconst 1, 1) := by decide +kernel
theorem dX9_up_60 : decode cX9_up 60 = .ok (.iadd, 1) := by decide +kernel
theorem dX9_up_61 : decode cX9_up 61 = .ok (.iload_n 3, 1) := by decide +kernel
theorem dX9_up_62 : decode cX9_up 62 = .ok (.invokevirtual 124, 3) := by decide +kernel
theorem dX9_up_65 : decode cX9_up 65 = .ok (.iaload, 1) := by decide +kernel
theorem dX9_up_66 : decode cX9_up 66 = .ok (.iastore, 1) := by decide +kernel
theorem dX9_up_67 : decode cX9_up 67 = .ok (.aload_n 0, 1) := by decide +kernel
theorem dX9_up_68 : decode cX9_up 68 = .ok (.getfield 13, 3) := by decide +kernel
theorem dX9_up_71 : decode cX9_up 71 = .ok (.aload_n 0, 1) := by decide +kernel
theorem dX9_up_72 : decode cX9_up 72 = .ok (.iload_n 1, 1) := by decide +kernel
theorem dX9_up_73 : decode cX9_up 73 = .ok (.iconst 0, 1) := by decide +kernel
theorem dX9_up_74 : decode cX9_up 74 = .ok (.iload_n 2, 1) := by decide +kernel
theorem dX9_up_75 : decode cX9_up 75 = .ok (.iload_n 3, 1) := by decide +kernel
theorem dX9_up_76 : decode cX9_up 76 = .ok (.invokevirtual 124, 3) := by decide +kernel
theorem dX9_up_79 : decode cX9_up 79 = .ok (.aload_n 0, 1) := by decide +kernel
theorem dX9_up_80 : decode cX9_up 80 = .ok (.getfield 13, 3) := by decide +kernel
theorem dX9_up_83 : decode cX9_up 83 = .ok (.aload_n 0, 1) := by decide +kernel
theorem dX9_up_84 : decode cX9_up 84 = .ok (.iload_n 1, 1) := by decide +kernel
theorem dX9_up_85 : decode cX9_up 85 = .ok (.iconst 0, 1) := by decide +kernel
theorem dX9_up_86 : decode cX9_up 86 = .ok (.iload_n 2, 1) := by decide +kernel
theorem dX9_up_87 : decode cX9_up 87 = .ok (.iconst 1, 1) := by decide +kernel
theorem dX9_up_88 : decode cX9_up 88 = .ok (.iadd, 1) := by decide +kernel
theorem dX9_up_89 : decode cX9_up 89 = .ok (.iload_n 3, 1) := by decide +kernel
theorem dX9_up_90 : decode cX9_up 90 = .ok (.invokevirtual 124, 3) := by decide +kernel
theorem dX9_up_93 : decode cX9_up 93 = .ok (.iaload, 1) := by decide +kernel
theorem dX9_up_94 : decode cX9_up 94 = .ok (.iastore, 1) := by decide +kernel
theorem dX9_up_95 : decode cX9_up 95 = .ok (.iinc 3 1, 3) := by decide +kernel
theorem dX9_up_98 : decode cX9_up 98 = .ok (.goto (-70), 3) := by decide +kernel
theorem dX9_up_101 : decode cX9_up 101 = .ok (.iinc 2 1, 3) := by decide +kernel
theorem dX9_up_104 : decode cX9_up 104 = .ok (.goto (-88), 3) := by decide +kernel
theorem dX9_up_107 : decode cX9_up 107 = .ok (.aload_n 0, 1) := by decide +kernel
theorem dX9_up_108 : decode cX9_up 108 = .ok (.iload_n 1, 1) := by decide +kernel
theorem dX9_up_109 : decode cX9_up 109 = .ok (.iconst 0, 1) := by decide +kernel
theorem dX9_up_110 : decode cX9_up 110 = .ok (.aload_n 0, 1) := by decide +kernel
theorem dX9_up_111 : decode cX9_up 111 = .ok (.getfield 22, 3) := by decide +kernel
theorem dX9_up_114 : decode cX9_up 114 = .ok (.iload_n 1, 1) := by decide +kernel
theorem dX9_up_115 : decode cX9_up 115 = .ok (.iaload, 1) := by decide +kernel
theorem dX9_up_116 : decode cX9_up 116 = .ok (.invokevirtual 132, 3) := by decide +kernel
theorem dX9_up_119 : decode cX9_up 119 = .ok (.aload_n 0, 1) := by decide +kernel
theorem dX9_up_120 : decode cX9_up 120 = .ok (.getfield 25, 3) := by decide +kernel
theorem dX9_up_123 : decode cX9_up 123 = .ok (.iload_n 1, 1) := by decide +kernel
theorem dX9_up_124 : decode cX9_up 124 = .ok (.iconst 0, 1) := by decide +kernel
theorem dX9_up_125 : decode cX9_up 125 = .ok (.iastore, 1) := by decide +kernel
theorem dX9_up_126 : decode cX9_up 126 = .ok (.aload_n 0, 1) := by decide +kernel
theorem dX9_up_127 : decode cX9_up 127 = .ok (.getfield 28, 3) := by decide +kernel
theorem dX9_up_130 : decode cX9_up 130 = .ok (.iload_n 1, 1) := by decide +kernel
theorem dX9_up_131 : decode cX9_up 131 = .ok (.iconst 0, 1) := by decide +kernel
theorem dX9_up_132 : decode cX9_up 132 = .ok (.iastore, 1) := by decide +kernel
theorem dX9_up_133 : decode cX9_up 133 = .ok (.return_, 1) := by decide +kernel
theorem nmX9_up : mm_nm yX9_up 1 := ⟨by decide, by decide, by decide +kernel⟩
theorem cdX9_up : mm_cd cd_Y yX9_up cX9_up 4 none := ⟨tw_1001, tw_8⟩
abbrev rmX9_up : Room := { frames := 2, cells := 0, slots := 0, locals := 49 }
def fX9_up_28 (k16 : Nat → Int32 → Int32 → mm_M → Option mm_M) : Nat → Nat → Int32 → Int32 → Int32 → mm_M → Option mm_M
  | 0 => fun _ _ _ _ _ => none
  | n + 1 => fun a0 x1 x2 x3 σ =>
  (if 32 ≤ x3 then (k16 a0 x1 (x2 + 1) σ) else (if x2 < 1 then (k16 a0 x1 (x2 + 1) σ) else mm_sh σ a0 (.inl 9) (mm_on (fX9_cellAt a0 x1 0 x2 x3 σ) fun q29 => mm_sh q29.2 a0 (.inl 9) (mm_on (fX9_cellAt a0 x1 0 (x2 + 1) x3 q29.2) fun q31 => mm_on (mm_R q29.2 a0 1) fun q32 => mm_ar q31.2 q32 0 fun n33 => mm_ib q31.1 n33 (mm_on (mm_R σ a0 1) fun q35 => mm_ar q31.2 q35 0 fun n36 => mm_ib q29.1 n36 (mm_let (mm_wI q31.2 q35 (q29.1.toNatClampNeg) (mm_I q31.2 q32 q31.1.toNatClampNeg)) fun s38 => mm_sh s38 a0 (.inl 9) (mm_on (fX9_cellAt a0 x1 0 x2 x3 s38) fun q40 => mm_sh q40.2 a0 (.inl 9) (mm_on (fX9_cellAt a0 x1 0 (x2 + 1) x3 q40.2) fun q42 => mm_on (mm_R q40.2 a0 2) fun q43 => mm_ar q42.2 q43 0 fun n44 => mm_ib q42.1 n44 (mm_on (mm_R s38 a0 2) fun q46 => mm_ar q42.2 q46 0 fun n47 => mm_ib q40.1 n47 (mm_let (mm_wI q42.2 q46 (q40.1.toNatClampNeg) (mm_I q42.2 q43 q42.1.toNatClampNeg)) fun s49 => (fX9_up_28 k16 n a0 x1 x2 (x3 + 1) s49)))))))))))
def fX9_up_16  : Nat → Nat → Int32 → Int32 → mm_M → Option mm_M
  | 0 => fun _ _ _ _ => none
  | n + 1 => fun a0 x1 x2 σ =>
  mm_sh σ a0 (.inl 9) (mm_on (mm_R σ a0 5) fun q9 => mm_ar σ q9 0 fun n10 => mm_ib x1 n10 ((if (mm_I σ q9 x1.toNatClampNeg) ≤ x2 then mm_on (mm_R σ a0 5) fun q13 => mm_ar σ q13 0 fun n14 => mm_ib x1 n14 (mm_on (fX9_clearRow a0 x1 0 (mm_I σ q13 x1.toNatClampNeg) σ) fun q16 => mm_sh q16 a0 (.inl 9) (mm_on (mm_R q16 a0 6) fun q18 => mm_ar q16 q18 0 fun n19 => mm_ib x1 n19 (mm_let (mm_wI q16 q18 (x1.toNatClampNeg) 0) fun s21 => mm_on (mm_R s21 a0 7) fun q22 => mm_ar s21 q22 0 fun n23 => mm_ib x1 n23 (mm_let (mm_wI s21 q22 (x1.toNatClampNeg) 0) fun s25 => some (s25))))) else (fX9_up_28 (fX9_up_16  n) mm_fuel a0 x1 x2 0 σ))))
def fX9_up (p0 : Nat) (p1 : Int32) (σ : mm_M) : Option mm_M :=
  mm_sh σ p0 (.inl 9) (mm_on (mm_R σ p0 5) fun q2 => mm_ar σ q2 0 fun n3 => mm_ib p1 n3 (mm_on (mm_R σ p0 8) fun q5 => mm_ar σ q5 0 fun n6 => mm_ib p1 n6 ((fX9_up_16  mm_fuel p0 p1 (((mm_I σ q2 p1.toNatClampNeg) - (mm_I σ q5 p1.toNatClampNeg)) + 1) σ))))
set_option maxHeartbeats 4000000 in
set_option maxRecDepth 100000 in
theorem kX9_up_28 {G : mm_G} {A : Nat → Prop} {ini : Bool × Option (List (Nat × Nat × Nat × Nat))} {k16 : Nat → Int32 → Int32 → mm_M → Option mm_M} {R : mm_M} (hk16 : ∀ a0 x1 x2 σ, k16 a0 x1 x2 σ = some R → mm_J cd_Y G RX9 cX9_up 4 none ini rmX9_up A (mm_QF cd_Y G A (mm_Pv R) rmX9_up.cells rmX9_up.slots) 16 [(0, .ref a0), (1, .int x1), (2, .int x2)] [] σ 0 0) : ∀ (a0 : Nat) (x1 : Int32) (x2 : Int32) (x3 : Int32) (σ : mm_M), fX9_up_28 k16 mm_fuel a0 x1 x2 x3 σ = some R → mm_J cd_Y G RX9 cX9_up 4 none ini rmX9_up A (mm_QF cd_Y G A (mm_Pv R) rmX9_up.cells rmX9_up.slots) 28 [(0, .ref a0), (1, .int x1), (2, .int x2), (3, .int x3)] [] σ 0 0 := by
  generalize mm_fuel = n
  induction n with
  | zero => intro a0 x1 x2 x3 σ hf; cases hf
  | succ n ih =>
    intro a0 x1 x2 x3 σ hf
    unfold fX9_up_28 at hf
    refine mm_iload_n (j := 3) dX9_up_28 rfl rfl ?_
    refine mm_bipush (v := 32) dX9_up_29 (by decide) ?_
    refine mm_icmp_ge (tgt := 101) dX9_up_31 (by decide) (fun c26 => ?_) (fun c26 => ?_)
    · rw [if_pos c26] at hf
      refine mm_iinc (j := 2) (L' := [(2, .int (x2 + 1)), (0, .ref a0), (1, .int x1), (3, .int x3)]) dX9_up_101 rfl rfl (by decide) rfl ?_
      refine mm_goto (tgt := 16) dX9_up_104 (by decide) ?_
      refine mm_sub [1, 2, 0] rfl ?_
      exact hk16 a0 x1 (x2 + 1) σ hf
    · rw [if_neg c26] at hf
      refine mm_iload_n (j := 2) dX9_up_34 rfl rfl ?_
      refine mm_iconst (v := 1) dX9_up_35 (by decide) ?_
      refine mm_icmp_lt (tgt := 101) dX9_up_36 (by decide) (fun c27 => ?_) (fun c27 => ?_)
      · rw [if_pos c27] at hf
        refine mm_iinc (j := 2) (L' := [(2, .int (x2 + 1)), (0, .ref a0), (1, .int x1), (3, .int x3)]) dX9_up_101 rfl rfl (by decide) rfl ?_
        refine mm_goto (tgt := 16) dX9_up_104 (by decide) ?_
        refine mm_sub [1, 2, 0] rfl ?_
        exact hk16 a0 x1 (x2 + 1) σ hf
      · rw [if_neg c27] at hf
        refine mm_aload_n (j := 0) dX9_up_39 rfl rfl ?_
        obtain ⟨hs28, hf⟩ := mm_sh_s hf
        refine mm_get (c := 9) (k := 1) (v := va_rf (mm_R σ a0 1)) cd_ok ⟨_, _, _, rfl, by decide, Or.inl tw_795⟩ hs28 rfl dX9_up_40 ?_
        refine mm_aload_n (j := 0) dX9_up_43 rfl rfl ?_
        refine mm_iload_n (j := 1) dX9_up_44 rfl rfl ?_
        refine mm_iconst (v := 0) dX9_up_45 (by decide) ?_
        refine mm_iload_n (j := 2) dX9_up_46 rfl rfl ?_
        refine mm_iload_n (j := 3) dX9_up_47 rfl rfl ?_
        obtain ⟨q29, hq29, hf⟩ := mm_on_s hf
        refine mm_callVi cd_ok (kX9_cellAt a0 x1 0 x2 x3 hq29) hs28 rfl (Or.inl tw_970) cdX9_cellAt tw_972 ts_36 nmX9_cellAt rfl rfl (by simp only [List.map_cons, List.map_nil, mm_rf_cat]; exact Nat.le_of_ble_eq_true rfl) dX9_up_48 ⟨Nat.le_of_ble_eq_true rfl, Nat.le_of_ble_eq_true rfl⟩ ⟨Nat.le_of_ble_eq_true rfl, Nat.le_of_ble_eq_true rfl⟩ ?_
        refine mm_aload_n (j := 0) dX9_up_51 rfl rfl ?_
        obtain ⟨hs30, hf⟩ := mm_sh_s hf
        refine mm_get (c := 9) (k := 1) (v := va_rf (mm_R q29.2 a0 1)) cd_ok ⟨_, _, _, rfl, by decide, Or.inl tw_795⟩ hs30 rfl dX9_up_52 ?_
        refine mm_aload_n (j := 0) dX9_up_55 rfl rfl ?_
        refine mm_iload_n (j := 1) dX9_up_56 rfl rfl ?_
        refine mm_iconst (v := 0) dX9_up_57 (by decide) ?_
        refine mm_iload_n (j := 2) dX9_up_58 rfl rfl ?_
        refine mm_iconst (v := 1) dX9_up_59 (by decide) ?_
        refine mm_iadd dX9_up_60 ?_
        refine mm_iload_n (j := 3) dX9_up_61 rfl rfl ?_
        obtain ⟨q31, hq31, hf⟩ := mm_on_s hf
        refine mm_callVi cd_ok (kX9_cellAt a0 x1 0 (x2 + 1) x3 hq31) hs30 rfl (Or.inl tw_970) cdX9_cellAt tw_972 ts_36 nmX9_cellAt rfl rfl (by simp only [List.map_cons, List.map_nil, mm_rf_cat]; exact Nat.le_of_ble_eq_true rfl) dX9_up_62 ⟨Nat.le_of_ble_eq_true rfl, Nat.le_of_ble_eq_true rfl⟩ ⟨Nat.le_of_ble_eq_true rfl, Nat.le_of_ble_eq_true rfl⟩ ?_
        obtain ⟨q32, hq32, hf⟩ := mm_on_s hf
        rw [hq32, mm_rf_some]
        obtain ⟨n33, hn33, hf⟩ := mm_ar_s hf
        obtain ⟨hi34, hf⟩ := mm_ib_s hf
        refine mm_iald hn33 rfl hi34 dX9_up_65 ?_
        obtain ⟨q35, hq35, hf⟩ := mm_on_s hf
        rw [hq35, mm_rf_some]
        obtain ⟨n36, hn36, hf⟩ := mm_ar_s hf
        obtain ⟨hi37, hf⟩ := mm_ib_s hf
        refine mm_iast hn36 rfl hi37 dX9_up_66 ?_
        obtain ⟨s38, hs38, hf⟩ := mm_let_s hf
        rw [hs38]
        refine mm_aload_n (j := 0) dX9_up_67 rfl rfl ?_
        obtain ⟨hs39, hf⟩ := mm_sh_s hf
        refine mm_get (c := 9) (k := 2) (v := va_rf (mm_R s38 a0 2)) cd_ok ⟨_, _, _, rfl, by decide, Or.inl tw_796⟩ hs39 rfl dX9_up_68 ?_
        refine mm_aload_n (j := 0) dX9_up_71 rfl rfl ?_
        refine mm_iload_n (j := 1) dX9_up_72 rfl rfl ?_
        refine mm_iconst (v := 0) dX9_up_73 (by decide) ?_
        refine mm_iload_n (j := 2) dX9_up_74 rfl rfl ?_
        refine mm_iload_n (j := 3) dX9_up_75 rfl rfl ?_
        obtain ⟨q40, hq40, hf⟩ := mm_on_s hf
        refine mm_callVi cd_ok (kX9_cellAt a0 x1 0 x2 x3 hq40) hs39 rfl (Or.inl tw_970) cdX9_cellAt tw_972 ts_36 nmX9_cellAt rfl rfl (by simp only [List.map_cons, List.map_nil, mm_rf_cat]; exact Nat.le_of_ble_eq_true rfl) dX9_up_76 ⟨Nat.le_of_ble_eq_true rfl, Nat.le_of_ble_eq_true rfl⟩ ⟨Nat.le_of_ble_eq_true rfl, Nat.le_of_ble_eq_true rfl⟩ ?_
        refine mm_aload_n (j := 0) dX9_up_79 rfl rfl ?_
        obtain ⟨hs41, hf⟩ := mm_sh_s hf
        refine mm_get (c := 9) (k := 2) (v := va_rf (mm_R q40.2 a0 2)) cd_ok ⟨_, _, _, rfl, by decide, Or.inl tw_796⟩ hs41 rfl dX9_up_80 ?_
        refine mm_aload_n (j := 0) dX9_up_83 rfl rfl ?_
        refine mm_iload_n (j := 1) dX9_up_84 rfl rfl ?_
        refine mm_iconst (v := 0) dX9_up_85 (by decide) ?_
        refine mm_iload_n (j := 2) dX9_up_86 rfl rfl ?_
        refine mm_iconst (v := 1) dX9_up_87 (by decide) ?_
        refine mm_iadd dX9_up_88 ?_
        refine mm_iload_n (j := 3) dX9_up_89 rfl rfl ?_
        obtain ⟨q42, hq42, hf⟩ := mm_on_s hf
        refine mm_callVi cd_ok (kX9_cellAt a0 x1 0 (x2 + 1) x3 hq42) hs41 rfl (Or.inl tw_970) cdX9_cellAt tw_972 ts_36 nmX9_cellAt rfl rfl (by simp only [List.map_cons, List.map_nil, mm_rf_cat]; exact Nat.le_of_ble_eq_true rfl) dX9_up_90 ⟨Nat.le_of_ble_eq_true rfl, Nat.le_of_ble_eq_true rfl⟩ ⟨Nat.le_of_ble_eq_true rfl, Nat.le_of_ble_eq_true rfl⟩ ?_
        obtain ⟨q43, hq43, hf⟩ := mm_on_s hf
        rw [hq43, mm_rf_some]
        obtain ⟨n44, hn44, hf⟩ := mm_ar_s hf
        obtain ⟨hi45, hf⟩ := mm_ib_s hf
        refine mm_iald hn44 rfl hi45 dX9_up_93 ?_
        obtain ⟨q46, hq46, hf⟩ := mm_on_s hf
        rw [hq46, mm_rf_some]
        obtain ⟨n47, hn47, hf⟩ := mm_ar_s hf
        obtain ⟨hi48, hf⟩ := mm_ib_s hf
        refine mm_iast hn47 rfl hi48 dX9_up_94 ?_
        obtain ⟨s49, hs49, hf⟩ := mm_let_s hf
        rw [hs49]
        refine mm_iinc (j := 3) (L' := [(3, .int (x3 + 1)), (0, .ref a0), (1, .int x1), (2, .int x2)]) dX9_up_95 rfl rfl (by decide) rfl ?_
        refine mm_goto (tgt := 28) dX9_up_98 (by decide) ?_
        refine mm_sub [1, 2, 3, 0] rfl ?_
        exact ih a0 x1 x2 (x3 + 1) s49 hf
set_option maxHeartbeats 4000000 in
set_option maxRecDepth 100000 in
theorem kX9_up_16 {G : mm_G} {A : Nat → Prop} {ini : Bool × Option (List (Nat × Nat × Nat × Nat))}  {R : mm_M}  : ∀ (a0 : Nat) (x1 : Int32) (x2 : Int32) (σ : mm_M), fX9_up_16  mm_fuel a0 x1 x2 σ = some R → mm_J cd_Y G RX9 cX9_up 4 none ini rmX9_up A (mm_QF cd_Y G A (mm_Pv R) rmX9_up.cells rmX9_up.slots) 16 [(0, .ref a0), (1, .int x1), (2, .int x2)] [] σ 0 0 := by
  generalize mm_fuel = n
  induction n with
  | zero => intro a0 x1 x2 σ hf; cases hf
  | succ n ih =>
    intro a0 x1 x2 σ hf
    unfold fX9_up_16 at hf
    refine mm_iload_n (j := 2) dX9_up_16 rfl rfl ?_
    refine mm_aload_n (j := 0) dX9_up_17 rfl rfl ?_
    obtain ⟨hs8, hf⟩ := mm_sh_s hf
    refine mm_get (c := 9) (k := 5) (v := va_rf (mm_R σ a0 5)) cd_ok ⟨_, _, _, rfl, by decide, Or.inl tw_799⟩ hs8 rfl dX9_up_18 ?_
    refine mm_iload_n (j := 1) dX9_up_21 rfl rfl ?_
    obtain ⟨q9, hq9, hf⟩ := mm_on_s hf
    rw [hq9, mm_rf_some]
    obtain ⟨n10, hn10, hf⟩ := mm_ar_s hf
    obtain ⟨hi11, hf⟩ := mm_ib_s hf
    refine mm_iald hn10 rfl hi11 dX9_up_22 ?_
    refine mm_icmp_ge (tgt := 107) dX9_up_23 (by decide) (fun c12 => ?_) (fun c12 => ?_)
    · rw [if_pos c12] at hf
      refine mm_aload_n (j := 0) dX9_up_107 rfl rfl ?_
      refine mm_iload_n (j := 1) dX9_up_108 rfl rfl ?_
      refine mm_iconst (v := 0) dX9_up_109 (by decide) ?_
      refine mm_aload_n (j := 0) dX9_up_110 rfl rfl ?_
      refine mm_get (c := 9) (k := 5) (v := va_rf (mm_R σ a0 5)) cd_ok ⟨_, _, _, rfl, by decide, Or.inl tw_799⟩ hs8 rfl dX9_up_111 ?_
      refine mm_iload_n (j := 1) dX9_up_114 rfl rfl ?_
      obtain ⟨q13, hq13, hf⟩ := mm_on_s hf
      rw [hq13, mm_rf_some]
      obtain ⟨n14, hn14, hf⟩ := mm_ar_s hf
      obtain ⟨hi15, hf⟩ := mm_ib_s hf
      refine mm_iald hn14 rfl hi15 dX9_up_115 ?_
      obtain ⟨q16, hq16, hf⟩ := mm_on_s hf
      refine mm_callVv cd_ok (kX9_clearRow a0 x1 0 (mm_I σ q13 x1.toNatClampNeg) hq16) hs8 rfl (Or.inl tw_974) cdX9_clearRow tw_976 ts_37 nmX9_clearRow rfl rfl (by simp only [List.map_cons, List.map_nil, mm_rf_cat]; exact Nat.le_of_ble_eq_true rfl) dX9_up_116 ⟨Nat.le_of_ble_eq_true rfl, Nat.le_of_ble_eq_true rfl⟩ ⟨Nat.le_of_ble_eq_true rfl, Nat.le_of_ble_eq_true rfl⟩ ?_
      refine mm_aload_n (j := 0) dX9_up_119 rfl rfl ?_
      obtain ⟨hs17, hf⟩ := mm_sh_s hf
      refine mm_get (c := 9) (k := 6) (v := va_rf (mm_R q16 a0 6)) cd_ok ⟨_, _, _, rfl, by decide, Or.inl tw_800⟩ hs17 rfl dX9_up_120 ?_
      refine mm_iload_n (j := 1) dX9_up_123 rfl rfl ?_
      refine mm_iconst (v := 0) dX9_up_124 (by decide) ?_
      obtain ⟨q18, hq18, hf⟩ := mm_on_s hf
      rw [hq18, mm_rf_some]
      obtain ⟨n19, hn19, hf⟩ := mm_ar_s hf
      obtain ⟨hi20, hf⟩ := mm_ib_s hf
      refine mm_iast hn19 rfl hi20 dX9_up_125 ?_
      obtain ⟨s21, hs21, hf⟩ := mm_let_s hf
      rw [hs21]
      refine mm_aload_n (j := 0) dX9_up_126 rfl rfl ?_
      refine mm_get (c := 9) (k := 7) (v := va_rf (mm_R s21 a0 7)) cd_ok ⟨_, _, _, rfl, by decide, Or.inl tw_801⟩ (mm_ke hs21 hs17) rfl dX9_up_127 ?_
      refine mm_iload_n (j := 1) dX9_up_130 rfl rfl ?_
      refine mm_iconst (v := 0) dX9_up_131 (by decide) ?_
      obtain ⟨q22, hq22, hf⟩ := mm_on_s hf
      rw [hq22, mm_rf_some]
      obtain ⟨n23, hn23, hf⟩ := mm_ar_s hf
      obtain ⟨hi24, hf⟩ := mm_ib_s hf
      refine mm_iast hn23 rfl hi24 dX9_up_132 ?_
      obtain ⟨s25, hs25, hf⟩ := mm_let_s hf
      rw [hs25]
      cases hf
      refine mm_widen (ck' := rmX9_up.cells) (sk' := rmX9_up.slots) (Nat.le_of_ble_eq_true rfl) (Nat.le_of_ble_eq_true rfl) ?_
      exact mm_vret rfl dX9_up_133 ⟨rfl, rfl⟩
    · rw [if_neg c12] at hf
      refine mm_iconst (v := 0) dX9_up_26 (by decide) ?_
      refine mm_istore_n (L' := [(3, .int 0), (0, .ref a0), (1, .int x1), (2, .int x2)]) dX9_up_27 rfl (by decide) rfl ?_
      refine mm_sub [1, 2, 3, 0] rfl ?_
      exact kX9_up_28 ih a0 x1 x2 0 σ hf
set_option maxHeartbeats 4000000 in
set_option maxRecDepth 100000 in
theorem kX9_up {G : mm_G} {A : Nat → Prop} (p0 : Nat) (p1 : Int32) {σ : mm_M} {R : mm_M} (hf : fX9_up p0 p1 σ = some R) : mm_C cd_Y G yX9_up cX9_up 4 none rmX9_up A [.ref p0, .int p1] σ (mm_Pv R) := by
  refine mm_C.of (by decide) (Nat.le_of_ble_eq_true rfl) ?_
  unfold fX9_up at hf
  have e0 : lv_args 0 [.ref p0, .int p1] = [(0, .ref p0), (1, .int p1)] := rfl
  rw [e0]
  generalize hini : ((yX9_up.name == "<init>"), none) = ini
  clear e0
  clear hini
  refine mm_aload_n (j := 0) dX9_up_0 rfl rfl ?_
  obtain ⟨hs1, hf⟩ := mm_sh_s hf
  refine mm_get (c := 9) (k := 5) (v := va_rf (mm_R σ p0 5)) cd_ok ⟨_, _, _, rfl, by decide, Or.inl tw_799⟩ hs1 rfl dX9_up_1 ?_
  refine mm_iload_n (j := 1) dX9_up_4 rfl rfl ?_
  obtain ⟨q2, hq2, hf⟩ := mm_on_s hf
  rw [hq2, mm_rf_some]
  obtain ⟨n3, hn3, hf⟩ := mm_ar_s hf
  obtain ⟨hi4, hf⟩ := mm_ib_s hf
  refine mm_iald hn3 rfl hi4 dX9_up_5 ?_
  refine mm_aload_n (j := 0) dX9_up_6 rfl rfl ?_
  refine mm_get (c := 9) (k := 8) (v := va_rf (mm_R σ p0 8)) cd_ok ⟨_, _, _, rfl, by decide, Or.inl tw_802⟩ hs1 rfl dX9_up_7 ?_
  refine mm_iload_n (j := 1) dX9_up_10 rfl rfl ?_
  obtain ⟨q5, hq5, hf⟩ := mm_on_s hf
  rw [hq5, mm_rf_some]
  obtain ⟨n6, hn6, hf⟩ := mm_ar_s hf
  obtain ⟨hi7, hf⟩ := mm_ib_s hf
  refine mm_iald hn6 rfl hi7 dX9_up_11 ?_
  refine mm_isub dX9_up_12 ?_
  refine mm_iconst (v := 1) dX9_up_13 (by decide) ?_
  refine mm_iadd dX9_up_14 ?_
  refine mm_istore_n (L' := [(2, .int (((mm_I σ q2 p1.toNatClampNeg) - (mm_I σ q5 p1.toNatClampNeg)) + 1)), (0, .ref p0), (1, .int p1)]) dX9_up_15 rfl (by decide) rfl ?_
  refine mm_sub [1, 2, 0] rfl ?_
  exact kX9_up_16  p0 p1 (((mm_I σ q2 p1.toNatClampNeg) - (mm_I σ q5 p1.toNatClampNeg)) + 1) σ hf
theorem dX9_cell_0 : decode cX9_cell 0 = .ok (.aload_n 0, 1) := by decide +kernel
theorem dX9_cell_1 : decode cX9_cell 1 = .ok (.iload_n 1, 1) := by decide +kernel
theorem dX9_cell_2 : decode cX9_cell 2 = .ok (.iconst 0, 1) := by decide +kernel
theorem dX9_cell_3 : decode cX9_cell 3 = .ok (.iconst 3, 1) := by decide +kernel
theorem dX9_cell_4 : decode cX9_cell 4 = .ok (.invokestatic 153, 3) := by decide +kernel
theorem dX9_cell_7 : decode cX9_cell 7 = .ok (.ifCond .eq 47, 3) := by decide +kernel
theorem dX9_cell_10 : decode cX9_cell 10 = .ok (.iload_n 2, 1) := by decide +kernel
theorem dX9_cell_11 : decode cX9_cell 11 = .ok (.iconst 0, 1) := by decide +kernel
theorem dX9_cell_12 : decode cX9_cell 12 = .ok (.iconst 1, 1) := by decide +kernel
theorem dX9_cell_13 : decode cX9_cell 13 = .ok (.invokestatic 153, 3) := by decide +kernel
theorem dX9_cell_16 : decode cX9_cell 16 = .ok (.ifCond .eq 38, 3) := by decide +kernel
theorem dX9_cell_19 : decode cX9_cell 19 = .ok (.iload_n 3, 1) := by decide +kernel
theorem dX9_cell_20 : decode cX9_cell 20 = .ok (.iconst 1, 1) := by decide +kernel
theorem dX9_cell_21 : decode cX9_cell 21 = .ok (.bipush 15, 2) := by decide +kernel
theorem dX9_cell_23 : decode cX9_cell 23 = .ok (.invokestatic 153, 3) := by decide +kernel
theorem dX9_cell_26 : decode cX9_cell 26 = .ok (.ifCond .eq 28, 3) := by decide +kernel
theorem dX9_cell_29 : decode cX9_cell 29 = .ok (.iload 4, 2) := by decide +kernel
theorem dX9_cell_31 : decode cX9_cell 31 = .ok (.iconst 0, 1) := by decide +kernel
theorem dX9_cell_32 : decode cX9_cell 32 = .ok (.bipush 31, 2) := by decide +kernel
theorem dX9_cell_34 : decode cX9_cell 34 = .ok (.invokestatic 153, 3) := by decide +kernel
theorem dX9_cell_37 : decode cX9_cell 37 = .ok (.ifCond .eq 17, 3) := by decide +kernel
theorem dX9_cell_40 : decode cX9_cell 40 = .ok (.iload 5, 2) := by decide +kernel
theorem dX9_cell_42 : decode cX9_cell 42 = .ok (.iconst 0, 1) := by decide +kernel
theorem dX9_cell_43 : decode cX9_cell 43 = .ok (.iconst 1, 1) := by decide +kernel
theorem dX9_cell_44 : decode cX9_cell 44 = .ok (.invokestatic 153, 3) := by decide +kernel
theorem dX9_cell_47 : decode cX9_cell 47 = .ok (.ifCond .eq 7, 3) := by decide +kernel
theorem dX9_cell_50 : decode cX9_cell 50 = .ok (.iconst 1, 1) := by decide +kernel
theorem dX9_cell_51 : decode cX9_cell 51 = .ok (.goto 4, 3) := by decide +kernel
theorem dX9_cell_54 : decode cX9_cell 54 = .ok (.iconst 0, 1) := by decide +kernel
theorem dX9_cell_55 : decode cX9_cell 55 = .ok (.invokevirtual 169, 3) := by decide +kernel
theorem dX9_cell_58 : decode cX9_cell 58 = .ok (.ifCond .ne 5, 3) := by decide +kernel
theorem dX9_cell_61 : decode cX9_cell 61 = .ok (.iconst 0, 1) := by decide +kernel
theorem dX9_cell_62 : decode cX9_cell 62 = .ok (.ireturn, 1) := by decide +kernel
theorem dX9_cell_63 : decode cX9_cell 63 = .ok (.aload_n 0, 1) := by decide +kernel
theorem dX9_cell_64 : decode cX9_cell 64 = .ok (.iload_n 1, 1) := by decide +kernel
theorem dX9_cell_65 : decode cX9_cell 65 = .ok (.iload_n 2, 1) := by decide +kernel
theorem dX9_cell_66 : decode cX9_cell 66 = .ok (.iload_n 3, 1) := by decide +kernel
theorem dX9_cell_67 : decode cX9_cell 67 = .ok (.iload 4, 2) := by decide +kernel
theorem dX9_cell_69 : decode cX9_cell 69 = .ok (.invokevirtual 124, 3) := by decide +kernel
theorem dX9_cell_72 : decode cX9_cell 72 = .ok (.istore 6, 2) := by decide +kernel
theorem dX9_cell_74 : decode cX9_cell 74 = .ok (.iload 5, 2) := by decide +kernel
theorem dX9_cell_76 : decode cX9_cell 76 = .ok (.ifCond .ne 13, 3) := by decide +kernel
theorem dX9_cell_79 : decode cX9_cell 79 = .ok (.aload_n 0, 1) := by decide +kernel
theorem dX9_cell_80 : decode cX9_cell 80 = .ok (.getfield 7, 3) := by decide +kernel
theorem dX9_cell_83 : decode cX9_cell 83 = .ok (.iload 6, 2) := by decide +kernel
theorem dX9_cell_85 : decode cX9_cell 85 = .ok (.iaload, 1) := by decide +kernel
theorem dX9_cell_86 : decode cX9_cell 86 = .ok (.goto 10, 3) := by decide +kernel
theorem dX9_cell_89 : decode cX9_cell 89 = .ok (.aload_n 0, 1) := by decide +kernel
theorem dX9_cell_90 : decode cX9_cell 90 = .ok (.getfield 13, 3) := by decide +kernel
theorem dX9_cell_93 : decode cX9_cell 93 = .ok (.iload 6, 2) := by decide +kernel
theorem dX9_cell_95 : decode cX9_cell 95 = .ok (.iaload, 1) := by decide +kernel
theorem dX9_cell_96 : decode cX9_cell 96 = .ok (.ireturn, 1) := by decide +kernel
theorem nmX9_cell : mm_nm yX9_cell 5 := ⟨by decide, by decide, by decide +kernel⟩
theorem cdX9_cell : mm_cd cd_Y yX9_cell cX9_cell 7 (some .int) := ⟨tw_1005, tw_8⟩
abbrev rmX9_cell : Room := { frames := 1, cells := 0, slots := 0, locals := 25 }
def fX9_cell_55  (a0 : Nat) (x1 : Int32) (x2 : Int32) (x3 : Int32) (x4 : Int32) (x5 : Int32) (y0 : Int32) (y1 : Nat) (σ : mm_M) : Option (Int32 × mm_M) :=
  mm_sh σ y1 (.inl 9) (mm_on (fX9_goes y1 y0 σ) fun q3 => (if q3.1 = 0 then some (0, q3.2) else mm_sh q3.2 a0 (.inl 9) (mm_on (fX9_cellAt a0 x1 x2 x3 x4 q3.2) fun q6 => (if x5 = 0 then mm_sh q6.2 a0 (.inl 9) (mm_on (mm_R q6.2 a0 1) fun q13 => mm_ar q6.2 q13 0 fun n14 => mm_ib q6.1 n14 (some (mm_I q6.2 q13 q6.1.toNatClampNeg, q6.2))) else mm_sh q6.2 a0 (.inl 9) (mm_on (mm_R q6.2 a0 2) fun q9 => mm_ar q6.2 q9 0 fun n10 => mm_ib q6.1 n10 (some (mm_I q6.2 q9 q6.1.toNatClampNeg, q6.2)))))))
def fX9_cell_54  (a0 : Nat) (x1 : Int32) (x2 : Int32) (x3 : Int32) (x4 : Int32) (x5 : Int32) (y0 : Nat) (σ : mm_M) : Option (Int32 × mm_M) :=
  (fX9_cell_55  a0 x1 x2 x3 x4 x5 0 y0 σ)
def fX9_cell (p0 : Nat) (p1 : Int32) (p2 : Int32) (p3 : Int32) (p4 : Int32) (p5 : Int32) (σ : mm_M) : Option (Int32 × mm_M) :=
  (if (fX9_in p1 0 3) = 0 then (fX9_cell_54  p0 p1 p2 p3 p4 p5 p0 σ) else (if (fX9_in p2 0 1) = 0 then (fX9_cell_54  p0 p1 p2 p3 p4 p5 p0 σ) else (if (fX9_in p3 1 15) = 0 then (fX9_cell_54  p0 p1 p2 p3 p4 p5 p0 σ) else (if (fX9_in p4 0 31) = 0 then (fX9_cell_54  p0 p1 p2 p3 p4 p5 p0 σ) else (if (fX9_in p5 0 1) = 0 then (fX9_cell_54  p0 p1 p2 p3 p4 p5 p0 σ) else (fX9_cell_55  p0 p1 p2 p3 p4 p5 1 p0 σ))))))
set_option maxHeartbeats 4000000 in
set_option maxRecDepth 100000 in
theorem kX9_cell_55 {G : mm_G} {A : Nat → Prop} {ini : Bool × Option (List (Nat × Nat × Nat × Nat))}  {R : (Int32 × mm_M)}  (a0 : Nat) (x1 : Int32) (x2 : Int32) (x3 : Int32) (x4 : Int32) (x5 : Int32) (y0 : Int32) (y1 : Nat) (σ : mm_M) (hf : fX9_cell_55  a0 x1 x2 x3 x4 x5 y0 y1 σ = some R) : mm_J cd_Y G RX9 cX9_cell 7 (some .int) ini rmX9_cell A (mm_QF cd_Y G A (mm_Pi R.1 R.2) rmX9_cell.cells rmX9_cell.slots) 55 [(0, .ref a0), (1, .int x1), (2, .int x2), (3, .int x3), (4, .int x4), (5, .int x5)] [.int y0, .ref y1] σ 0 0 := by
  unfold fX9_cell_55 at hf
  obtain ⟨hs2, hf⟩ := mm_sh_s hf
  obtain ⟨q3, hq3, hf⟩ := mm_on_s hf
  refine mm_callVi cd_ok (kX9_goes y1 y0 hq3) hs2 rfl (Or.inl tw_944) cdX9_goes tw_946 ts_31 nmX9_goes rfl rfl (by simp only [List.map_cons, List.map_nil, mm_rf_cat]; exact Nat.le_of_ble_eq_true rfl) dX9_cell_55 ⟨Nat.le_of_ble_eq_true rfl, Nat.le_of_ble_eq_true rfl⟩ ⟨Nat.le_of_ble_eq_true rfl, Nat.le_of_ble_eq_true rfl⟩ ?_
  refine mm_if_ne (tgt := 63) dX9_cell_58 (by decide) (fun c4 => ?_) (fun c4 => ?_)
  · rw [if_neg c4] at hf
    refine mm_aload_n (j := 0) dX9_cell_63 rfl rfl ?_
    refine mm_iload_n (j := 1) dX9_cell_64 rfl rfl ?_
    refine mm_iload_n (j := 2) dX9_cell_65 rfl rfl ?_
    refine mm_iload_n (j := 3) dX9_cell_66 rfl rfl ?_
    refine mm_iload (j := 4) dX9_cell_67 rfl ?_
    obtain ⟨hs5, hf⟩ := mm_sh_s hf
    obtain ⟨q6, hq6, hf⟩ := mm_on_s hf
    refine mm_callVi cd_ok (kX9_cellAt a0 x1 x2 x3 x4 hq6) hs5 rfl (Or.inl tw_970) cdX9_cellAt tw_972 ts_36 nmX9_cellAt rfl rfl (by simp only [List.map_cons, List.map_nil, mm_rf_cat]; exact Nat.le_of_ble_eq_true rfl) dX9_cell_69 ⟨Nat.le_of_ble_eq_true rfl, Nat.le_of_ble_eq_true rfl⟩ ⟨Nat.le_of_ble_eq_true rfl, Nat.le_of_ble_eq_true rfl⟩ ?_
    refine mm_istore (L' := [(6, .int q6.1), (0, .ref a0), (1, .int x1), (2, .int x2), (3, .int x3), (4, .int x4), (5, .int x5)]) dX9_cell_72 (by decide) rfl ?_
    refine mm_iload (j := 6) dX9_cell_74 rfl ?_
    refine mm_if_ne (tgt := 89) dX9_cell_76 (by decide) (fun c7 => ?_) (fun c7 => ?_)
    · rw [if_neg c7] at hf
      refine mm_aload_n (j := 1) dX9_cell_89 rfl rfl ?_
      obtain ⟨hs8, hf⟩ := mm_sh_s hf
      refine mm_get (c := 9) (k := 2) (v := va_rf (mm_R q6.2 a0 2)) cd_ok ⟨_, _, _, rfl, by decide, Or.inl tw_796⟩ hs8 rfl dX9_cell_90 ?_
      refine mm_iload (j := 0) dX9_cell_93 rfl ?_
      obtain ⟨q9, hq9, hf⟩ := mm_on_s hf
      rw [hq9, mm_rf_some]
      obtain ⟨n10, hn10, hf⟩ := mm_ar_s hf
      obtain ⟨hi11, hf⟩ := mm_ib_s hf
      refine mm_iald hn10 rfl hi11 dX9_cell_95 ?_
      cases hf
      refine mm_widen (ck' := rmX9_cell.cells) (sk' := rmX9_cell.slots) (Nat.le_of_ble_eq_true rfl) (Nat.le_of_ble_eq_true rfl) ?_
      exact mm_iret rfl rfl dX9_cell_96 ⟨rfl, rfl⟩
    · rw [if_pos c7] at hf
      refine mm_aload_n (j := 1) dX9_cell_79 rfl rfl ?_
      obtain ⟨hs12, hf⟩ := mm_sh_s hf
      refine mm_get (c := 9) (k := 1) (v := va_rf (mm_R q6.2 a0 1)) cd_ok ⟨_, _, _, rfl, by decide, Or.inl tw_795⟩ hs12 rfl dX9_cell_80 ?_
      refine mm_iload (j := 0) dX9_cell_83 rfl ?_
      obtain ⟨q13, hq13, hf⟩ := mm_on_s hf
      rw [hq13, mm_rf_some]
      obtain ⟨n14, hn14, hf⟩ := mm_ar_s hf
      obtain ⟨hi15, hf⟩ := mm_ib_s hf
      refine mm_iald hn14 rfl hi15 dX9_cell_85 ?_
      refine mm_goto (tgt := 96) dX9_cell_86 (by decide) ?_
      cases hf
      refine mm_widen (ck' := rmX9_cell.cells) (sk' := rmX9_cell.slots) (Nat.le_of_ble_eq_true rfl) (Nat.le_of_ble_eq_true rfl) ?_
      exact mm_iret rfl rfl dX9_cell_96 ⟨rfl, rfl⟩
  · rw [if_pos c4] at hf
    refine mm_iconst (v := 0) dX9_cell_61 (by decide) ?_
    cases hf
    refine mm_widen (ck' := rmX9_cell.cells) (sk' := rmX9_cell.slots) (Nat.le_of_ble_eq_true rfl) (Nat.le_of_ble_eq_true rfl) ?_
    exact mm_iret rfl rfl dX9_cell_62 ⟨rfl, rfl⟩
set_option maxHeartbeats 4000000 in
set_option maxRecDepth 100000 in
theorem kX9_cell_54 {G : mm_G} {A : Nat → Prop} {ini : Bool × Option (List (Nat × Nat × Nat × Nat))}  {R : (Int32 × mm_M)}  (a0 : Nat) (x1 : Int32) (x2 : Int32) (x3 : Int32) (x4 : Int32) (x5 : Int32) (y0 : Nat) (σ : mm_M) (hf : fX9_cell_54  a0 x1 x2 x3 x4 x5 y0 σ = some R) : mm_J cd_Y G RX9 cX9_cell 7 (some .int) ini rmX9_cell A (mm_QF cd_Y G A (mm_Pi R.1 R.2) rmX9_cell.cells rmX9_cell.slots) 54 [(0, .ref a0), (1, .int x1), (2, .int x2), (3, .int x3), (4, .int x4), (5, .int x5)] [.ref y0] σ 0 0 := by
  unfold fX9_cell_54 at hf
  refine mm_iconst (v := 0) dX9_cell_54 (by decide) ?_
  refine mm_sub [0, 1, 2, 3, 4, 5] rfl ?_
  exact kX9_cell_55  a0 x1 x2 x3 x4 x5 0 y0 σ hf
set_option maxHeartbeats 4000000 in
set_option maxRecDepth 100000 in
theorem kX9_cell {G : mm_G} {A : Nat → Prop} (p0 : Nat) (p1 : Int32) (p2 : Int32) (p3 : Int32) (p4 : Int32) (p5 : Int32) {σ : mm_M} {R : (Int32 × mm_M)} (hf : fX9_cell p0 p1 p2 p3 p4 p5 σ = some R) : mm_C cd_Y G yX9_cell cX9_cell 7 (some .int) rmX9_cell A [.ref p0, .int p1, .int p2, .int p3, .int p4, .int p5] σ (mm_Pi R.1 R.2) := by
  refine mm_C.of (by decide) (Nat.le_of_ble_eq_true rfl) ?_
  unfold fX9_cell at hf
  have e0 : lv_args 0 [.ref p0, .int p1, .int p2, .int p3, .int p4, .int p5] = [(0, .ref p0), (1, .int p1), (2, .int p2), (3, .int p3), (4, .int p4), (5, .int p5)] := rfl
  rw [e0]
  generalize hini : ((yX9_cell.name == "<init>"), none) = ini
  clear e0
  clear hini
  refine mm_aload_n (j := 0) dX9_cell_0 rfl rfl ?_
  refine mm_iload_n (j := 1) dX9_cell_1 rfl rfl ?_
  refine mm_iconst (v := 0) dX9_cell_2 (by decide) ?_
  refine mm_iconst (v := 3) dX9_cell_3 (by decide) ?_
  refine mm_callSi cd_ok (kX9_in p1 0 3 _ rfl) (Or.inl tw_941) cdX9_in tw_942 nmX9_in rfl rfl (by simp only [List.map_cons, List.map_nil, mm_rf_cat]; exact Nat.le_of_ble_eq_true rfl) dX9_cell_4 ⟨Nat.le_of_ble_eq_true rfl, Nat.le_of_ble_eq_true rfl⟩ ⟨Nat.le_of_ble_eq_true rfl, Nat.le_of_ble_eq_true rfl⟩ ?_
  refine mm_if_eq (tgt := 54) dX9_cell_7 (by decide) (fun c1 => ?_) (fun c1 => ?_)
  · rw [if_pos c1] at hf
    refine mm_sub [0, 1, 2, 3, 4, 5] rfl ?_
    exact kX9_cell_54  p0 p1 p2 p3 p4 p5 p0 σ hf
  · rw [if_neg c1] at hf
    refine mm_iload_n (j := 2) dX9_cell_10 rfl rfl ?_
    refine mm_iconst (v := 0) dX9_cell_11 (by decide) ?_
    refine mm_iconst (v := 1) dX9_cell_12 (by decide) ?_
    refine mm_callSi cd_ok (kX9_in p2 0 1 _ rfl) (Or.inl tw_941) cdX9_in tw_942 nmX9_in rfl rfl (by simp only [List.map_cons, List.map_nil, mm_rf_cat]; exact Nat.le_of_ble_eq_true rfl) dX9_cell_13 ⟨Nat.le_of_ble_eq_true rfl, Nat.le_of_ble_eq_true rfl⟩ ⟨Nat.le_of_ble_eq_true rfl, Nat.le_of_ble_eq_true rfl⟩ ?_
    refine mm_if_eq (tgt := 54) dX9_cell_16 (by decide) (fun c16 => ?_) (fun c16 => ?_)
    · rw [if_pos c16] at hf
      refine mm_sub [0, 1, 2, 3, 4, 5] rfl ?_
      exact kX9_cell_54  p0 p1 p2 p3 p4 p5 p0 σ hf
    · rw [if_neg c16] at hf
      refine mm_iload_n (j := 3) dX9_cell_19 rfl rfl ?_
      refine mm_iconst (v := 1) dX9_cell_20 (by decide) ?_
      refine mm_bipush (v := 15) dX9_cell_21 (by decide) ?_
      refine mm_callSi cd_ok (kX9_in p3 1 15 _ rfl) (Or.inl tw_941) cdX9_in tw_942 nmX9_in rfl rfl (by simp only [List.map_cons, List.map_nil, mm_rf_cat]; exact Nat.le_of_ble_eq_true rfl) dX9_cell_23 ⟨Nat.le_of_ble_eq_true rfl, Nat.le_of_ble_eq_true rfl⟩ ⟨Nat.le_of_ble_eq_true rfl, Nat.le_of_ble_eq_true rfl⟩ ?_
      refine mm_if_eq (tgt := 54) dX9_cell_26 (by decide) (fun c17 => ?_) (fun c17 => ?_)
      · rw [if_pos c17] at hf
        refine mm_sub [0, 1, 2, 3, 4, 5] rfl ?_
        exact kX9_cell_54  p0 p1 p2 p3 p4 p5 p0 σ hf
      · rw [if_neg c17] at hf
        refine mm_iload (j := 4) dX9_cell_29 rfl ?_
        refine mm_iconst (v := 0) dX9_cell_31 (by decide) ?_
        refine mm_bipush (v := 31) dX9_cell_32 (by decide) ?_
        refine mm_callSi cd_ok (kX9_in p4 0 31 _ rfl) (Or.inl tw_941) cdX9_in tw_942 nmX9_in rfl rfl (by simp only [List.map_cons, List.map_nil, mm_rf_cat]; exact Nat.le_of_ble_eq_true rfl) dX9_cell_34 ⟨Nat.le_of_ble_eq_true rfl, Nat.le_of_ble_eq_true rfl⟩ ⟨Nat.le_of_ble_eq_true rfl, Nat.le_of_ble_eq_true rfl⟩ ?_
        refine mm_if_eq (tgt := 54) dX9_cell_37 (by decide) (fun c18 => ?_) (fun c18 => ?_)
        · rw [if_pos c18] at hf
          refine mm_sub [0, 1, 2, 3, 4, 5] rfl ?_
          exact kX9_cell_54  p0 p1 p2 p3 p4 p5 p0 σ hf
        · rw [if_neg c18] at hf
          refine mm_iload (j := 5) dX9_cell_40 rfl ?_
          refine mm_iconst (v := 0) dX9_cell_42 (by decide) ?_
          refine mm_iconst (v := 1) dX9_cell_43 (by decide) ?_
          refine mm_callSi cd_ok (kX9_in p5 0 1 _ rfl) (Or.inl tw_941) cdX9_in tw_942 nmX9_in rfl rfl (by simp only [List.map_cons, List.map_nil, mm_rf_cat]; exact Nat.le_of_ble_eq_true rfl) dX9_cell_44 ⟨Nat.le_of_ble_eq_true rfl, Nat.le_of_ble_eq_true rfl⟩ ⟨Nat.le_of_ble_eq_true rfl, Nat.le_of_ble_eq_true rfl⟩ ?_
          refine mm_if_eq (tgt := 54) dX9_cell_47 (by decide) (fun c19 => ?_) (fun c19 => ?_)
          · rw [if_pos c19] at hf
            refine mm_sub [0, 1, 2, 3, 4, 5] rfl ?_
            exact kX9_cell_54  p0 p1 p2 p3 p4 p5 p0 σ hf
          · rw [if_neg c19] at hf
            refine mm_iconst (v := 1) dX9_cell_50 (by decide) ?_
            refine mm_goto (tgt := 55) dX9_cell_51 (by decide) ?_
            refine mm_sub [0, 1, 2, 3, 4, 5] rfl ?_
            exact kX9_cell_55  p0 p1 p2 p3 p4 p5 1 p0 σ hf
theorem dX9_state_0 : decode cX9_state 0 = .ok (.aload_n 0, 1) := by decide +kernel
theorem dX9_state_1 : decode cX9_state 1 = .ok (.iload_n 1, 1) := by decide +kernel
theorem dX9_state_2 : decode cX9_state 2 = .ok (.iconst 0, 1) := by decide +kernel
theorem dX9_state_3 : decode cX9_state 3 = .ok (.iconst 3, 1) := by decide +kernel
theorem dX9_state_4 : decode cX9_state 4 = .ok (.invokestatic 153, 3) := by decide +kernel
theorem dX9_state_7 : decode cX9_state 7 = .ok (.ifCond .eq 16, 3) := by decide +kernel
theorem dX9_state_10 : decode cX9_state 10 = .ok (.iload_n 2, 1) := by decide +kernel
theorem dX9_state_11 : decode cX9_state 11 = .ok (.iconst 0, 1) := by decide +kernel
theorem dX9_state_12 : decode cX9_state 12 = .ok (.iconst 4, 1) := by decide +kernel
theorem dX9_state_13 : decode cX9_state 13 = .ok (.invokestatic 153, 3) := by decide +kernel
theorem dX9_state_16 : decode cX9_state 16 = .ok (.ifCond .eq 7, 3) := by decide +kernel
theorem dX9_state_19 : decode cX9_state 19 = .ok (.iconst 1, 1) := by decide +kernel
theorem dX9_state_20 : decode cX9_state 20 = .ok (.goto 4, 3) := by decide +kernel
theorem dX9_state_23 : decode cX9_state 23 = .ok (.iconst 0, 1) := by decide +kernel
theorem dX9_state_24 : decode cX9_state 24 = .ok (.invokevirtual 169, 3) := by decide +kernel
theorem dX9_state_27 : decode cX9_state 27 = .ok (.ifCond .ne 5, 3) := by decide +kernel
theorem dX9_state_30 : decode cX9_state 30 = .ok (.iconst 0, 1) := by decide +kernel
theorem dX9_state_31 : decode cX9_state 31 = .ok (.ireturn, 1) := by decide +kernel
theorem dX9_state_32 : decode cX9_state 32 = .ok (.iload_n 2, 1) := by decide +kernel
theorem dX9_state_33 : decode cX9_state 33 = .ok (.ifCond .ne 12, 3) := by decide +kernel
theorem dX9_state_36 : decode cX9_state 36 = .ok (.aload_n 0, 1) := by decide +kernel
theorem dX9_state_37 : decode cX9_state 37 = .ok (.getfield 19, 3) := by decide +kernel
theorem dX9_state_40 : decode cX9_state 40 = .ok (.iload_n 1, 1) := by decide +kernel
theorem dX9_state_41 : decode cX9_state 41 = .ok (.iaload, 1) := by decide +kernel
theorem dX9_state_42 : decode cX9_state 42 = .ok (.goto 51, 3) := by decide +kernel
theorem dX9_state_45 : decode cX9_state 45 = .ok (.iload_n 2, 1) := by decide +kernel
theorem dX9_state_46 : decode cX9_state 46 = .ok (.iconst 1, 1) := by decide +kernel
theorem dX9_state_47 : decode cX9_state 47 = .ok (.if_icmp .ne 12, 3) := by decide +kernel
theorem dX9_state_50 : decode cX9_state 50 = .ok (.aload_n 0, 1) := by decide +kernel
theorem dX9_state_51 : decode cX9_state 51 = .ok (.getfield 22, 3) := by decide +kernel
theorem dX9_state_54 : decode cX9_state 54 = .ok (.iload_n 1, 1) := by decide +kernel
theorem dX9_state_55 : decode cX9_state 55 = .ok (.iaload, 1) := by decide +kernel
theorem dX9_state_56 : decode cX9_state 56 = .ok (.goto 37, 3) := by decide +kernel
theorem dX9_state_59 : decode cX9_state 59 = .ok (.iload_n 2, 1) := by decide +kernel
theorem dX9_state_60 : decode cX9_state 60 = .ok (.iconst 2, 1) := by decide +kernel
theorem dX9_state_61 : decode cX9_state 61 = .ok (.if_icmp .ne 12, 3) := by decide +kernel
theorem dX9_state_64 : decode cX9_state 64 = .ok (.aload_n 0, 1) := by decide +kernel
theorem dX9_state_65 : decode cX9_state 65 = .ok (.getfield 25, 3) := by decide +kernel
theorem dX9_state_68 : decode cX9_state 68 = .ok (.iload_n 1, 1) := by decide +kernel
theorem dX9_state_69 : decode cX9_state 69 = .ok (.iaload, 1) := by decide +kernel
theorem dX9_state_70 : decode cX9_state 70 = .ok (.goto 23, 3) := by decide +kernel
theorem dX9_state_73 : decode cX9_state 73 = .ok (.iload_n 2, 1) := by decide +kernel
theorem dX9_state_74 : decode cX9_state 74 = .ok (.iconst 3, 1) := by decide +kernel
theorem dX9_state_75 : decode cX9_state 75 = .ok (.if_icmp .ne 12, 3) := by decide +kernel
theorem dX9_state_78 : decode cX9_state 78 = .ok (.aload_n 0, 1) := by decide +kernel
theorem dX9_state_79 : decode cX9_state 79 = .ok (.getfield 28, 3) := by decide +kernel
theorem dX9_state_82 : decode cX9_state 82 = .ok (.iload_n 1, 1) := by decide +kernel
theorem dX9_state_83 : decode cX9_state 83 = .ok (.iaload, 1) := by decide +kernel
theorem dX9_state_84 : decode cX9_state 84 = .ok (.goto 9, 3) := by decide +kernel
theorem dX9_state_87 : decode cX9_state 87 = .ok (.aload_n 0, 1) := by decide +kernel
theorem dX9_state_88 : decode cX9_state 88 = .ok (.getfield 31, 3) := by decide +kernel
theorem dX9_state_91 : decode cX9_state 91 = .ok (.iload_n 1, 1) := by decide +kernel
theorem dX9_state_92 : decode cX9_state 92 = .ok (.iaload, 1) := by decide +kernel
theorem dX9_state_93 : decode cX9_state 93 = .ok (.ireturn, 1) := by decide +kernel
theorem nmX9_state : mm_nm yX9_state 2 := ⟨by decide, by decide, by decide +kernel⟩
theorem cdX9_state : mm_cd cd_Y yX9_state cX9_state 3 (some .int) := ⟨tw_1009, tw_8⟩
abbrev rmX9_state : Room := { frames := 1, cells := 0, slots := 0, locals := 22 }
def fX9_state_24  (a0 : Nat) (x1 : Int32) (x2 : Int32) (y0 : Int32) (y1 : Nat) (σ : mm_M) : Option (Int32 × mm_M) :=
  mm_sh σ y1 (.inl 9) (mm_on (fX9_goes y1 y0 σ) fun q3 => (if q3.1 = 0 then some (0, q3.2) else (if x2 = 0 then mm_sh q3.2 a0 (.inl 9) (mm_on (mm_R q3.2 a0 4) fun q26 => mm_ar q3.2 q26 0 fun n27 => mm_ib x1 n27 (some (mm_I q3.2 q26 x1.toNatClampNeg, q3.2))) else (if x2 = 1 then mm_sh q3.2 a0 (.inl 9) (mm_on (mm_R q3.2 a0 5) fun q22 => mm_ar q3.2 q22 0 fun n23 => mm_ib x1 n23 (some (mm_I q3.2 q22 x1.toNatClampNeg, q3.2))) else (if x2 = 2 then mm_sh q3.2 a0 (.inl 9) (mm_on (mm_R q3.2 a0 6) fun q18 => mm_ar q3.2 q18 0 fun n19 => mm_ib x1 n19 (some (mm_I q3.2 q18 x1.toNatClampNeg, q3.2))) else (if x2 = 3 then mm_sh q3.2 a0 (.inl 9) (mm_on (mm_R q3.2 a0 7) fun q14 => mm_ar q3.2 q14 0 fun n15 => mm_ib x1 n15 (some (mm_I q3.2 q14 x1.toNatClampNeg, q3.2))) else mm_sh q3.2 a0 (.inl 9) (mm_on (mm_R q3.2 a0 8) fun q10 => mm_ar q3.2 q10 0 fun n11 => mm_ib x1 n11 (some (mm_I q3.2 q10 x1.toNatClampNeg, q3.2)))))))))
def fX9_state_23  (a0 : Nat) (x1 : Int32) (x2 : Int32) (y0 : Nat) (σ : mm_M) : Option (Int32 × mm_M) :=
  (fX9_state_24  a0 x1 x2 0 y0 σ)
def fX9_state (p0 : Nat) (p1 : Int32) (p2 : Int32) (σ : mm_M) : Option (Int32 × mm_M) :=
  (if (fX9_in p1 0 3) = 0 then (fX9_state_23  p0 p1 p2 p0 σ) else (if (fX9_in p2 0 4) = 0 then (fX9_state_23  p0 p1 p2 p0 σ) else (fX9_state_24  p0 p1 p2 1 p0 σ)))
set_option maxHeartbeats 4000000 in
set_option maxRecDepth 100000 in
theorem kX9_state_24 {G : mm_G} {A : Nat → Prop} {ini : Bool × Option (List (Nat × Nat × Nat × Nat))}  {R : (Int32 × mm_M)}  (a0 : Nat) (x1 : Int32) (x2 : Int32) (y0 : Int32) (y1 : Nat) (σ : mm_M) (hf : fX9_state_24  a0 x1 x2 y0 y1 σ = some R) : mm_J cd_Y G RX9 cX9_state 3 (some .int) ini rmX9_state A (mm_QF cd_Y G A (mm_Pi R.1 R.2) rmX9_state.cells rmX9_state.slots) 24 [(0, .ref a0), (1, .int x1), (2, .int x2)] [.int y0, .ref y1] σ 0 0 := by
  unfold fX9_state_24 at hf
  obtain ⟨hs2, hf⟩ := mm_sh_s hf
  obtain ⟨q3, hq3, hf⟩ := mm_on_s hf
  refine mm_callVi cd_ok (kX9_goes y1 y0 hq3) hs2 rfl (Or.inl tw_944) cdX9_goes tw_946 ts_31 nmX9_goes rfl rfl (by simp only [List.map_cons, List.map_nil, mm_rf_cat]; exact Nat.le_of_ble_eq_true rfl) dX9_state_24 ⟨Nat.le_of_ble_eq_true rfl, Nat.le_of_ble_eq_true rfl⟩ ⟨Nat.le_of_ble_eq_true rfl, Nat.le_of_ble_eq_true rfl⟩ ?_
  refine mm_if_ne (tgt := 32) dX9_state_27 (by decide) (fun c4 => ?_) (fun c4 => ?_)
  · rw [if_neg c4] at hf
    refine mm_iload_n (j := 2) dX9_state_32 rfl rfl ?_
    refine mm_if_ne (tgt := 45) dX9_state_33 (by decide) (fun c5 => ?_) (fun c5 => ?_)
    · rw [if_neg c5] at hf
      refine mm_iload_n (j := 2) dX9_state_45 rfl rfl ?_
      refine mm_iconst (v := 1) dX9_state_46 (by decide) ?_
      refine mm_icmp_ne (tgt := 59) dX9_state_47 (by decide) (fun c6 => ?_) (fun c6 => ?_)
      · rw [if_neg c6] at hf
        refine mm_iload_n (j := 2) dX9_state_59 rfl rfl ?_
        refine mm_iconst (v := 2) dX9_state_60 (by decide) ?_
        refine mm_icmp_ne (tgt := 73) dX9_state_61 (by decide) (fun c7 => ?_) (fun c7 => ?_)
        · rw [if_neg c7] at hf
          refine mm_iload_n (j := 2) dX9_state_73 rfl rfl ?_
          refine mm_iconst (v := 3) dX9_state_74 (by decide) ?_
          refine mm_icmp_ne (tgt := 87) dX9_state_75 (by decide) (fun c8 => ?_) (fun c8 => ?_)
          · rw [if_neg c8] at hf
            refine mm_aload_n (j := 0) dX9_state_87 rfl rfl ?_
            obtain ⟨hs9, hf⟩ := mm_sh_s hf
            refine mm_get (c := 9) (k := 8) (v := va_rf (mm_R q3.2 a0 8)) cd_ok ⟨_, _, _, rfl, by decide, Or.inl tw_802⟩ hs9 rfl dX9_state_88 ?_
            refine mm_iload_n (j := 1) dX9_state_91 rfl rfl ?_
            obtain ⟨q10, hq10, hf⟩ := mm_on_s hf
            rw [hq10, mm_rf_some]
            obtain ⟨n11, hn11, hf⟩ := mm_ar_s hf
            obtain ⟨hi12, hf⟩ := mm_ib_s hf
            refine mm_iald hn11 rfl hi12 dX9_state_92 ?_
            cases hf
            refine mm_widen (ck' := rmX9_state.cells) (sk' := rmX9_state.slots) (Nat.le_of_ble_eq_true rfl) (Nat.le_of_ble_eq_true rfl) ?_
            exact mm_iret rfl rfl dX9_state_93 ⟨rfl, rfl⟩
          · rw [if_pos c8] at hf
            refine mm_aload_n (j := 0) dX9_state_78 rfl rfl ?_
            obtain ⟨hs13, hf⟩ := mm_sh_s hf
            refine mm_get (c := 9) (k := 7) (v := va_rf (mm_R q3.2 a0 7)) cd_ok ⟨_, _, _, rfl, by decide, Or.inl tw_801⟩ hs13 rfl dX9_state_79 ?_
            refine mm_iload_n (j := 1) dX9_state_82 rfl rfl ?_
            obtain ⟨q14, hq14, hf⟩ := mm_on_s hf
            rw [hq14, mm_rf_some]
            obtain ⟨n15, hn15, hf⟩ := mm_ar_s hf
            obtain ⟨hi16, hf⟩ := mm_ib_s hf
            refine mm_iald hn15 rfl hi16 dX9_state_83 ?_
            refine mm_goto (tgt := 93) dX9_state_84 (by decide) ?_
            cases hf
            refine mm_widen (ck' := rmX9_state.cells) (sk' := rmX9_state.slots) (Nat.le_of_ble_eq_true rfl) (Nat.le_of_ble_eq_true rfl) ?_
            exact mm_iret rfl rfl dX9_state_93 ⟨rfl, rfl⟩
        · rw [if_pos c7] at hf
          refine mm_aload_n (j := 0) dX9_state_64 rfl rfl ?_
          obtain ⟨hs17, hf⟩ := mm_sh_s hf
          refine mm_get (c := 9) (k := 6) (v := va_rf (mm_R q3.2 a0 6)) cd_ok ⟨_, _, _, rfl, by decide, Or.inl tw_800⟩ hs17 rfl dX9_state_65 ?_
          refine mm_iload_n (j := 1) dX9_state_68 rfl rfl ?_
          obtain ⟨q18, hq18, hf⟩ := mm_on_s hf
          rw [hq18, mm_rf_some]
          obtain ⟨n19, hn19, hf⟩ := mm_ar_s hf
          obtain ⟨hi20, hf⟩ := mm_ib_s hf
          refine mm_iald hn19 rfl hi20 dX9_state_69 ?_
          refine mm_goto (tgt := 93) dX9_state_70 (by decide) ?_
          cases hf
          refine mm_widen (ck' := rmX9_state.cells) (sk' := rmX9_state.slots) (Nat.le_of_ble_eq_true rfl) (Nat.le_of_ble_eq_true rfl) ?_
          exact mm_iret rfl rfl dX9_state_93 ⟨rfl, rfl⟩
      · rw [if_pos c6] at hf
        refine mm_aload_n (j := 0) dX9_state_50 rfl rfl ?_
        obtain ⟨hs21, hf⟩ := mm_sh_s hf
        refine mm_get (c := 9) (k := 5) (v := va_rf (mm_R q3.2 a0 5)) cd_ok ⟨_, _, _, rfl, by decide, Or.inl tw_799⟩ hs21 rfl dX9_state_51 ?_
        refine mm_iload_n (j := 1) dX9_state_54 rfl rfl ?_
        obtain ⟨q22, hq22, hf⟩ := mm_on_s hf
        rw [hq22, mm_rf_some]
        obtain ⟨n23, hn23, hf⟩ := mm_ar_s hf
        obtain ⟨hi24, hf⟩ := mm_ib_s hf
        refine mm_iald hn23 rfl hi24 dX9_state_55 ?_
        refine mm_goto (tgt := 93) dX9_state_56 (by decide) ?_
        cases hf
        refine mm_widen (ck' := rmX9_state.cells) (sk' := rmX9_state.slots) (Nat.le_of_ble_eq_true rfl) (Nat.le_of_ble_eq_true rfl) ?_
        exact mm_iret rfl rfl dX9_state_93 ⟨rfl, rfl⟩
    · rw [if_pos c5] at hf
      refine mm_aload_n (j := 0) dX9_state_36 rfl rfl ?_
      obtain ⟨hs25, hf⟩ := mm_sh_s hf
      refine mm_get (c := 9) (k := 4) (v := va_rf (mm_R q3.2 a0 4)) cd_ok ⟨_, _, _, rfl, by decide, Or.inl tw_798⟩ hs25 rfl dX9_state_37 ?_
      refine mm_iload_n (j := 1) dX9_state_40 rfl rfl ?_
      obtain ⟨q26, hq26, hf⟩ := mm_on_s hf
      rw [hq26, mm_rf_some]
      obtain ⟨n27, hn27, hf⟩ := mm_ar_s hf
      obtain ⟨hi28, hf⟩ := mm_ib_s hf
      refine mm_iald hn27 rfl hi28 dX9_state_41 ?_
      refine mm_goto (tgt := 93) dX9_state_42 (by decide) ?_
      cases hf
      refine mm_widen (ck' := rmX9_state.cells) (sk' := rmX9_state.slots) (Nat.le_of_ble_eq_true rfl) (Nat.le_of_ble_eq_true rfl) ?_
      exact mm_iret rfl rfl dX9_state_93 ⟨rfl, rfl⟩
  · rw [if_pos c4] at hf
    refine mm_iconst (v := 0) dX9_state_30 (by decide) ?_
    cases hf
    refine mm_widen (ck' := rmX9_state.cells) (sk' := rmX9_state.slots) (Nat.le_of_ble_eq_true rfl) (Nat.le_of_ble_eq_true rfl) ?_
    exact mm_iret rfl rfl dX9_state_31 ⟨rfl, rfl⟩
set_option maxHeartbeats 4000000 in
set_option maxRecDepth 100000 in
theorem kX9_state_23 {G : mm_G} {A : Nat → Prop} {ini : Bool × Option (List (Nat × Nat × Nat × Nat))}  {R : (Int32 × mm_M)}  (a0 : Nat) (x1 : Int32) (x2 : Int32) (y0 : Nat) (σ : mm_M) (hf : fX9_state_23  a0 x1 x2 y0 σ = some R) : mm_J cd_Y G RX9 cX9_state 3 (some .int) ini rmX9_state A (mm_QF cd_Y G A (mm_Pi R.1 R.2) rmX9_state.cells rmX9_state.slots) 23 [(0, .ref a0), (1, .int x1), (2, .int x2)] [.ref y0] σ 0 0 := by
  unfold fX9_state_23 at hf
  refine mm_iconst (v := 0) dX9_state_23 (by decide) ?_
  refine mm_sub [0, 1, 2] rfl ?_
  exact kX9_state_24  a0 x1 x2 0 y0 σ hf
set_option maxHeartbeats 4000000 in
set_option maxRecDepth 100000 in
theorem kX9_state {G : mm_G} {A : Nat → Prop} (p0 : Nat) (p1 : Int32) (p2 : Int32) {σ : mm_M} {R : (Int32 × mm_M)} (hf : fX9_state p0 p1 p2 σ = some R) : mm_C cd_Y G yX9_state cX9_state 3 (some .int) rmX9_state A [.ref p0, .int p1, .int p2] σ (mm_Pi R.1 R.2) := by
  refine mm_C.of (by decide) (Nat.le_of_ble_eq_true rfl) ?_
  unfold fX9_state at hf
  have e0 : lv_args 0 [.ref p0, .int p1, .int p2] = [(0, .ref p0), (1, .int p1), (2, .int p2)] := rfl
  rw [e0]
  generalize hini : ((yX9_state.name == "<init>"), none) = ini
  clear e0
  clear hini
  refine mm_aload_n (j := 0) dX9_state_0 rfl rfl ?_
  refine mm_iload_n (j := 1) dX9_state_1 rfl rfl ?_
  refine mm_iconst (v := 0) dX9_state_2 (by decide) ?_
  refine mm_iconst (v := 3) dX9_state_3 (by decide) ?_
  refine mm_callSi cd_ok (kX9_in p1 0 3 _ rfl) (Or.inl tw_941) cdX9_in tw_942 nmX9_in rfl rfl (by simp only [List.map_cons, List.map_nil, mm_rf_cat]; exact Nat.le_of_ble_eq_true rfl) dX9_state_4 ⟨Nat.le_of_ble_eq_true rfl, Nat.le_of_ble_eq_true rfl⟩ ⟨Nat.le_of_ble_eq_true rfl, Nat.le_of_ble_eq_true rfl⟩ ?_
  refine mm_if_eq (tgt := 23) dX9_state_7 (by decide) (fun c1 => ?_) (fun c1 => ?_)
  · rw [if_pos c1] at hf
    refine mm_sub [0, 1, 2] rfl ?_
    exact kX9_state_23  p0 p1 p2 p0 σ hf
  · rw [if_neg c1] at hf
    refine mm_iload_n (j := 2) dX9_state_10 rfl rfl ?_
    refine mm_iconst (v := 0) dX9_state_11 (by decide) ?_
    refine mm_iconst (v := 4) dX9_state_12 (by decide) ?_
    refine mm_callSi cd_ok (kX9_in p2 0 4 _ rfl) (Or.inl tw_941) cdX9_in tw_942 nmX9_in rfl rfl (by simp only [List.map_cons, List.map_nil, mm_rf_cat]; exact Nat.le_of_ble_eq_true rfl) dX9_state_13 ⟨Nat.le_of_ble_eq_true rfl, Nat.le_of_ble_eq_true rfl⟩ ⟨Nat.le_of_ble_eq_true rfl, Nat.le_of_ble_eq_true rfl⟩ ?_
    refine mm_if_eq (tgt := 23) dX9_state_16 (by decide) (fun c29 => ?_) (fun c29 => ?_)
    · rw [if_pos c29] at hf
      refine mm_sub [0, 1, 2] rfl ?_
      exact kX9_state_23  p0 p1 p2 p0 σ hf
    · rw [if_neg c29] at hf
      refine mm_iconst (v := 1) dX9_state_19 (by decide) ?_
      refine mm_goto (tgt := 24) dX9_state_20 (by decide) ?_
      refine mm_sub [0, 1, 2] rfl ?_
      exact kX9_state_24  p0 p1 p2 1 p0 σ hf
