theorem dX9_isOdd_0 : decode cX9_isOdd 0 = .ok (.iconst 0, 1) := by decide +kernel
theorem dX9_isOdd_1 : decode cX9_isOdd 1 = .ok (.istore_n 1, 1) := by decide +kernel
theorem dX9_isOdd_2 : decode cX9_isOdd 2 = .ok (.iload_n 0, 1) := by decide +kernel
theorem dX9_isOdd_3 : decode cX9_isOdd 3 = .ok (.sipush 255, 3) := by decide +kernel
theorem dX9_isOdd_6 : decode cX9_isOdd 6 = .ok (.iand, 1) := by decide +kernel
theorem dX9_isOdd_7 : decode cX9_isOdd 7 = .ok (.istore_n 2, 1) := by decide +kernel
theorem dX9_isOdd_8 : decode cX9_isOdd 8 = .ok (.iload_n 2, 1) := by decide +kernel
theorem dX9_isOdd_9 : decode cX9_isOdd 9 = .ok (.ifCond .eq 15, 3) := by decide +kernel
theorem dX9_isOdd_12 : decode cX9_isOdd 12 = .ok (.iinc 1 1, 3) := by decide +kernel
theorem dX9_isOdd_15 : decode cX9_isOdd 15 = .ok (.iload_n 2, 1) := by decide +kernel
theorem dX9_isOdd_16 : decode cX9_isOdd 16 = .ok (.iload_n 2, 1) := by decide +kernel
theorem dX9_isOdd_17 : decode cX9_isOdd 17 = .ok (.iconst 1, 1) := by decide +kernel
theorem dX9_isOdd_18 : decode cX9_isOdd 18 = .ok (.isub, 1) := by decide +kernel
theorem dX9_isOdd_19 : decode cX9_isOdd 19 = .ok (.iand, 1) := by decide +kernel
theorem dX9_isOdd_20 : decode cX9_isOdd 20 = .ok (.istore_n 2, 1) := by decide +kernel
theorem dX9_isOdd_21 : decode cX9_isOdd 21 = .ok (.goto (-13), 3) := by decide +kernel
theorem dX9_isOdd_24 : decode cX9_isOdd 24 = .ok (.iload_n 1, 1) := by decide +kernel
theorem dX9_isOdd_25 : decode cX9_isOdd 25 = .ok (.iconst 2, 1) := by decide +kernel
theorem dX9_isOdd_26 : decode cX9_isOdd 26 = .ok (.irem, 1) := by decide +kernel
theorem dX9_isOdd_27 : decode cX9_isOdd 27 = .ok (.iconst 1, 1) := by decide +kernel
theorem dX9_isOdd_28 : decode cX9_isOdd 28 = .ok (.if_icmp .ne 7, 3) := by decide +kernel
theorem dX9_isOdd_31 : decode cX9_isOdd 31 = .ok (.iconst 1, 1) := by decide +kernel
theorem dX9_isOdd_32 : decode cX9_isOdd 32 = .ok (.goto 4, 3) := by decide +kernel
theorem dX9_isOdd_35 : decode cX9_isOdd 35 = .ok (.iconst 0, 1) := by decide +kernel
theorem dX9_isOdd_36 : decode cX9_isOdd 36 = .ok (.ireturn, 1) := by decide +kernel
theorem nmX9_isOdd : mm_nm yX9_isOdd 1 := ⟨by decide, by decide, by decide +kernel⟩
theorem cdX9_isOdd : mm_cd cd_Y yX9_isOdd cX9_isOdd 3 (some .boolean) := ⟨tw_950, tw_8⟩
abbrev rmX9_isOdd : Room := { frames := 0, cells := 0, slots := 0, locals := 0 }
def fX9_isOdd_8  : Nat → Int32 → Int32 → Int32 → mm_M → Option (Int32 × mm_M)
  | 0 => fun _ _ _ _ => none
  | n + 1 => fun x0 x1 x2 σ =>
  (if x2 = 0 then (if (x1 - x1 / 2 * 2) = 1 then some (1, σ) else some (0, σ)) else (fX9_isOdd_8  n x0 (x1 + 1) (x2 &&& (x2 - 1)) σ))
def fX9_isOdd (p0 : Int32) (σ : mm_M) : Option (Int32 × mm_M) :=
  (fX9_isOdd_8  mm_fuel p0 0 (p0 &&& 255) σ)
set_option maxHeartbeats 4000000 in
set_option maxRecDepth 100000 in
theorem kX9_isOdd_8 {G : mm_G} {A : Nat → Prop} {ini : Bool}  {R : (Int32 × mm_M)}  : ∀ (x0 : Int32) (x1 : Int32) (x2 : Int32) (σ : mm_M), fX9_isOdd_8  mm_fuel x0 x1 x2 σ = some R → mm_J cd_Y G RX9 cX9_isOdd 3 (some .boolean) ini rmX9_isOdd A (mm_QF cd_Y G A (mm_Pi R.1 R.2) rmX9_isOdd.cells rmX9_isOdd.slots) 8 [(0, .int x0), (1, .int x1), (2, .int x2)] [] σ 0 0 := by
  generalize mm_fuel = n
  induction n with
  | zero => intro x0 x1 x2 σ hf; cases hf
  | succ n ih =>
    intro x0 x1 x2 σ hf
    unfold fX9_isOdd_8 at hf
    refine mm_iload_n (j := 2) dX9_isOdd_8 rfl rfl ?_
    refine mm_if_eq (tgt := 24) dX9_isOdd_9 (by decide) (fun c1 => ?_) (fun c1 => ?_)
    · rw [if_pos c1] at hf
      refine mm_iload_n (j := 1) dX9_isOdd_24 rfl rfl ?_
      refine mm_iconst (v := 2) dX9_isOdd_25 (by decide) ?_
      refine mm_irem dX9_isOdd_26 (by decide) ?_
      refine mm_iconst (v := 1) dX9_isOdd_27 (by decide) ?_
      refine mm_icmp_ne (tgt := 35) dX9_isOdd_28 (by decide) (fun c2 => ?_) (fun c2 => ?_)
      · rw [if_neg c2] at hf
        refine mm_iconst (v := 0) dX9_isOdd_35 (by decide) ?_
        cases hf
        exact mm_iret rfl rfl dX9_isOdd_36 ⟨rfl, rfl⟩
      · rw [if_pos c2] at hf
        refine mm_iconst (v := 1) dX9_isOdd_31 (by decide) ?_
        refine mm_goto (tgt := 36) dX9_isOdd_32 (by decide) ?_
        cases hf
        exact mm_iret rfl rfl dX9_isOdd_36 ⟨rfl, rfl⟩
    · rw [if_neg c1] at hf
      refine mm_iinc (j := 1) (L' := [(1, .int (x1 + 1)), (0, .int x0), (2, .int x2)]) dX9_isOdd_12 rfl rfl (by decide) rfl ?_
      refine mm_iload_n (j := 2) dX9_isOdd_15 rfl rfl ?_
      refine mm_iload_n (j := 2) dX9_isOdd_16 rfl rfl ?_
      refine mm_iconst (v := 1) dX9_isOdd_17 (by decide) ?_
      refine mm_isub dX9_isOdd_18 ?_
      refine mm_iand dX9_isOdd_19 ?_
      refine mm_istore_n (L' := [(2, .int (x2 &&& (x2 - 1))), (1, .int (x1 + 1)), (0, .int x0)]) dX9_isOdd_20 rfl (by decide) rfl ?_
      refine mm_goto (tgt := 8) dX9_isOdd_21 (by decide) ?_
      refine mm_sub [2, 1, 0] rfl ?_
      exact ih x0 (x1 + 1) (x2 &&& (x2 - 1)) σ hf
set_option maxHeartbeats 4000000 in
set_option maxRecDepth 100000 in
theorem kX9_isOdd {G : mm_G} {A : Nat → Prop} (p0 : Int32) {σ : mm_M} {R : (Int32 × mm_M)} (hf : fX9_isOdd p0 σ = some R) : mm_C cd_Y G yX9_isOdd cX9_isOdd 3 (some .boolean) rmX9_isOdd A [.int p0] σ (mm_Pi R.1 R.2) := by
  refine mm_C.of (by decide) (Nat.le_of_ble_eq_true rfl) ?_
  unfold fX9_isOdd at hf
  have e0 : lv_args 0 [.int p0] = [(0, .int p0)] := rfl
  rw [e0]
  generalize hini : (yX9_isOdd.name == "<init>") = ini
  clear e0
  clear hini
  refine mm_iconst (v := 0) dX9_isOdd_0 (by decide) ?_
  refine mm_istore_n (L' := [(1, .int 0), (0, .int p0)]) dX9_isOdd_1 rfl (by decide) rfl ?_
  refine mm_iload_n (j := 1) dX9_isOdd_2 rfl rfl ?_
  refine mm_sipush (v := 255) dX9_isOdd_3 (by decide) ?_
  refine mm_iand dX9_isOdd_6 ?_
  refine mm_istore_n (L' := [(2, .int (p0 &&& 255)), (1, .int 0), (0, .int p0)]) dX9_isOdd_7 rfl (by decide) rfl ?_
  refine mm_sub [2, 1, 0] rfl ?_
  exact kX9_isOdd_8  p0 0 (p0 &&& 255) σ hf
theorem dX9_cellAt_0 : decode cX9_cellAt 0 = .ok (.iload_n 2, 1) := by decide +kernel
theorem dX9_cellAt_1 : decode cX9_cellAt 1 = .ok (.ifCond .ne 12, 3) := by decide +kernel
theorem dX9_cellAt_4 : decode cX9_cellAt 4 = .ok (.aload_n 0, 1) := by decide +kernel
theorem dX9_cellAt_5 : decode cX9_cellAt 5 = .ok (.getfield 16, 3) := by decide +kernel
theorem dX9_cellAt_8 : decode cX9_cellAt 8 = .ok (.iload_n 1, 1) := by decide +kernel
theorem dX9_cellAt_9 : decode cX9_cellAt 9 = .ok (.iaload, 1) := by decide +kernel
theorem dX9_cellAt_10 : decode cX9_cellAt 10 = .ok (.goto 11, 3) := by decide +kernel
theorem dX9_cellAt_13 : decode cX9_cellAt 13 = .ok (.iconst 1, 1) := by decide +kernel
theorem dX9_cellAt_14 : decode cX9_cellAt 14 = .ok (.aload_n 0, 1) := by decide +kernel
theorem dX9_cellAt_15 : decode cX9_cellAt 15 = .ok (.getfield 16, 3) := by decide +kernel
theorem dX9_cellAt_18 : decode cX9_cellAt 18 = .ok (.iload_n 1, 1) := by decide +kernel
theorem dX9_cellAt_19 : decode cX9_cellAt 19 = .ok (.iaload, 1) := by decide +kernel
theorem dX9_cellAt_20 : decode cX9_cellAt 20 = .ok (.isub, 1) := by decide +kernel
theorem dX9_cellAt_21 : decode cX9_cellAt 21 = .ok (.istore 5, 2) := by decide +kernel
theorem dX9_cellAt_23 : decode cX9_cellAt 23 = .ok (.sipush 960, 3) := by decide +kernel
theorem dX9_cellAt_26 : decode cX9_cellAt 26 = .ok (.iload_n 1, 1) := by decide +kernel
theorem dX9_cellAt_27 : decode cX9_cellAt 27 = .ok (.imul, 1) := by decide +kernel
theorem dX9_cellAt_28 : decode cX9_cellAt 28 = .ok (.sipush 480, 3) := by decide +kernel
theorem dX9_cellAt_31 : decode cX9_cellAt 31 = .ok (.iload 5, 2) := by decide +kernel
theorem dX9_cellAt_33 : decode cX9_cellAt 33 = .ok (.imul, 1) := by decide +kernel
theorem dX9_cellAt_34 : decode cX9_cellAt 34 = .ok (.iadd, 1) := by decide +kernel
theorem dX9_cellAt_35 : decode cX9_cellAt 35 = .ok (.bipush 32, 2) := by decide +kernel
theorem dX9_cellAt_37 : decode cX9_cellAt 37 = .ok (.iload_n 3, 1) := by decide +kernel
theorem dX9_cellAt_38 : decode cX9_cellAt 38 = .ok (.iconst 1, 1) := by decide +kernel
theorem dX9_cellAt_39 : decode cX9_cellAt 39 = .ok (.isub, 1) := by decide +kernel
theorem dX9_cellAt_40 : decode cX9_cellAt 40 = .ok (.imul, 1) := by decide +kernel
theorem dX9_cellAt_41 : decode cX9_cellAt 41 = .ok (.iadd, 1) := by decide +kernel
theorem dX9_cellAt_42 : decode cX9_cellAt 42 = .ok (.iload 4, 2) := by decide +kernel
theorem dX9_cellAt_44 : decode cX9_cellAt 44 = .ok (.iadd, 1) := by decide +kernel
theorem dX9_cellAt_45 : decode cX9_cellAt 45 = .ok (.ireturn, 1) := by decide +kernel
theorem nmX9_cellAt : mm_nm yX9_cellAt 4 := ⟨by decide, by decide, by decide +kernel⟩
theorem cdX9_cellAt : mm_cd cd_Y yX9_cellAt cX9_cellAt 6 (some .int) := ⟨tw_973, tw_8⟩
abbrev rmX9_cellAt : Room := { frames := 0, cells := 0, slots := 0, locals := 0 }
def fX9_cellAt_21  (a0 : Nat) (x1 : Int32) (x2 : Int32) (x3 : Int32) (x4 : Int32) (y0 : Int32) (σ : mm_M) : Option (Int32 × mm_M) :=
  some ((((960 * x1) + (480 * y0)) + (32 * (x3 - 1))) + x4, σ)
def fX9_cellAt (p0 : Nat) (p1 : Int32) (p2 : Int32) (p3 : Int32) (p4 : Int32) (σ : mm_M) : Option (Int32 × mm_M) :=
  (if p2 = 0 then mm_sh σ p0 (.inl 9) (mm_on (mm_R σ p0 3) fun q7 => mm_ar σ q7 0 fun n8 => mm_ib p1 n8 ((fX9_cellAt_21  p0 p1 p2 p3 p4 (mm_I σ q7 p1.toNatClampNeg) σ))) else mm_sh σ p0 (.inl 9) (mm_on (mm_R σ p0 3) fun q3 => mm_ar σ q3 0 fun n4 => mm_ib p1 n4 ((fX9_cellAt_21  p0 p1 p2 p3 p4 (1 - (mm_I σ q3 p1.toNatClampNeg)) σ))))
set_option maxHeartbeats 4000000 in
set_option maxRecDepth 100000 in
theorem kX9_cellAt_21 {G : mm_G} {A : Nat → Prop} {ini : Bool}  {R : (Int32 × mm_M)}  (a0 : Nat) (x1 : Int32) (x2 : Int32) (x3 : Int32) (x4 : Int32) (y0 : Int32) (σ : mm_M) (hf : fX9_cellAt_21  a0 x1 x2 x3 x4 y0 σ = some R) : mm_J cd_Y G RX9 cX9_cellAt 6 (some .int) ini rmX9_cellAt A (mm_QF cd_Y G A (mm_Pi R.1 R.2) rmX9_cellAt.cells rmX9_cellAt.slots) 21 [(0, .ref a0), (1, .int x1), (2, .int x2), (3, .int x3), (4, .int x4)] [.int y0] σ 0 0 := by
  unfold fX9_cellAt_21 at hf
  refine mm_istore (L' := [(5, .int y0), (0, .ref a0), (1, .int x1), (2, .int x2), (3, .int x3), (4, .int x4)]) dX9_cellAt_21 (by decide) rfl ?_
  refine mm_sipush (v := 960) dX9_cellAt_23 (by decide) ?_
  refine mm_iload_n (j := 2) dX9_cellAt_26 rfl rfl ?_
  refine mm_imul dX9_cellAt_27 ?_
  refine mm_sipush (v := 480) dX9_cellAt_28 (by decide) ?_
  refine mm_iload (j := 0) dX9_cellAt_31 rfl ?_
  refine mm_imul dX9_cellAt_33 ?_
  refine mm_iadd dX9_cellAt_34 ?_
  refine mm_bipush (v := 32) dX9_cellAt_35 (by decide) ?_
  refine mm_iload_n (j := 4) dX9_cellAt_37 rfl rfl ?_
  refine mm_iconst (v := 1) dX9_cellAt_38 (by decide) ?_
  refine mm_isub dX9_cellAt_39 ?_
  refine mm_imul dX9_cellAt_40 ?_
  refine mm_iadd dX9_cellAt_41 ?_
  refine mm_iload (j := 5) dX9_cellAt_42 rfl ?_
  refine mm_iadd dX9_cellAt_44 ?_
  cases hf
  exact mm_iret rfl rfl dX9_cellAt_45 ⟨rfl, rfl⟩
set_option maxHeartbeats 4000000 in
set_option maxRecDepth 100000 in
theorem kX9_cellAt {G : mm_G} {A : Nat → Prop} (p0 : Nat) (p1 : Int32) (p2 : Int32) (p3 : Int32) (p4 : Int32) {σ : mm_M} {R : (Int32 × mm_M)} (hf : fX9_cellAt p0 p1 p2 p3 p4 σ = some R) : mm_C cd_Y G yX9_cellAt cX9_cellAt 6 (some .int) rmX9_cellAt A [.ref p0, .int p1, .int p2, .int p3, .int p4] σ (mm_Pi R.1 R.2) := by
  refine mm_C.of (by decide) (Nat.le_of_ble_eq_true rfl) ?_
  unfold fX9_cellAt at hf
  have e0 : lv_args 0 [.ref p0, .int p1, .int p2, .int p3, .int p4] = [(0, .ref p0), (1, .int p1), (2, .int p2), (3, .int p3), (4, .int p4)] := rfl
  rw [e0]
  generalize hini : (yX9_cellAt.name == "<init>") = ini
  clear e0
  clear hini
  refine mm_iload_n (j := 2) dX9_cellAt_0 rfl rfl ?_
  refine mm_if_ne (tgt := 13) dX9_cellAt_1 (by decide) (fun c1 => ?_) (fun c1 => ?_)
  · rw [if_neg c1] at hf
    refine mm_iconst (v := 1) dX9_cellAt_13 (by decide) ?_
    refine mm_aload_n (j := 0) dX9_cellAt_14 rfl rfl ?_
    obtain ⟨hs2, hf⟩ := mm_sh_s hf
    refine mm_get (c := 9) (k := 3) (v := va_rf (mm_R σ p0 3)) cd_ok ⟨_, _, _, rfl, by decide, Or.inl tw_797⟩ hs2 rfl dX9_cellAt_15 ?_
    refine mm_iload_n (j := 1) dX9_cellAt_18 rfl rfl ?_
    obtain ⟨q3, hq3, hf⟩ := mm_on_s hf
    rw [hq3, mm_rf_some]
    obtain ⟨n4, hn4, hf⟩ := mm_ar_s hf
    obtain ⟨hi5, hf⟩ := mm_ib_s hf
    refine mm_iald hn4 rfl hi5 dX9_cellAt_19 ?_
    refine mm_isub dX9_cellAt_20 ?_
    refine mm_sub [0, 1, 2, 3, 4] rfl ?_
    exact kX9_cellAt_21  p0 p1 p2 p3 p4 (1 - (mm_I σ q3 p1.toNatClampNeg)) σ hf
  · rw [if_pos c1] at hf
    refine mm_aload_n (j := 0) dX9_cellAt_4 rfl rfl ?_
    obtain ⟨hs6, hf⟩ := mm_sh_s hf
    refine mm_get (c := 9) (k := 3) (v := va_rf (mm_R σ p0 3)) cd_ok ⟨_, _, _, rfl, by decide, Or.inl tw_797⟩ hs6 rfl dX9_cellAt_5 ?_
    refine mm_iload_n (j := 1) dX9_cellAt_8 rfl rfl ?_
    obtain ⟨q7, hq7, hf⟩ := mm_on_s hf
    rw [hq7, mm_rf_some]
    obtain ⟨n8, hn8, hf⟩ := mm_ar_s hf
    obtain ⟨hi9, hf⟩ := mm_ib_s hf
    refine mm_iald hn8 rfl hi9 dX9_cellAt_9 ?_
    refine mm_goto (tgt := 21) dX9_cellAt_10 (by decide) ?_
    refine mm_sub [0, 1, 2, 3, 4] rfl ?_
    exact kX9_cellAt_21  p0 p1 p2 p3 p4 (mm_I σ q7 p1.toNatClampNeg) σ hf
theorem dX9_clear_0 : decode cX9_clear 0 = .ok (.aload_n 0, 1) := by decide +kernel
theorem dX9_clear_1 : decode cX9_clear 1 = .ok (.getfield 7, 3) := by decide +kernel
theorem dX9_clear_4 : decode cX9_clear 4 = .ok (.iload_n 1, 1) := by decide +kernel
theorem dX9_clear_5 : decode cX9_clear 5 = .ok (.iconst 0, 1) := by decide +kernel
theorem dX9_clear_6 : decode cX9_clear 6 = .ok (.iastore, 1) := by decide +kernel
theorem dX9_clear_7 : decode cX9_clear 7 = .ok (.aload_n 0, 1) := by decide +kernel
theorem dX9_clear_8 : decode cX9_clear 8 = .ok (.getfield 13, 3) := by decide +kernel
theorem dX9_clear_11 : decode cX9_clear 11 = .ok (.iload_n 1, 1) := by decide +kernel
theorem dX9_clear_12 : decode cX9_clear 12 = .ok (.iconst 0, 1) := by decide +kernel
theorem dX9_clear_13 : decode cX9_clear 13 = .ok (.iastore, 1) := by decide +kernel
theorem dX9_clear_14 : decode cX9_clear 14 = .ok (.return_, 1) := by decide +kernel
theorem nmX9_clear : mm_nm yX9_clear 1 := ⟨by decide, by decide, by decide +kernel⟩
theorem cdX9_clear : mm_cd cd_Y yX9_clear cX9_clear 2 none := ⟨tw_981, tw_8⟩
abbrev rmX9_clear : Room := { frames := 0, cells := 0, slots := 0, locals := 0 }
def fX9_clear (p0 : Nat) (p1 : Int32) (σ : mm_M) : Option mm_M :=
  mm_sh σ p0 (.inl 9) (mm_on (mm_R σ p0 1) fun q2 => mm_ar σ q2 0 fun n3 => mm_ib p1 n3 (mm_on (mm_R (mm_wI σ q2 (p1.toNatClampNeg) 0) p0 2) fun q5 => mm_ar (mm_wI σ q2 (p1.toNatClampNeg) 0) q5 0 fun n6 => mm_ib p1 n6 (some (mm_wI (mm_wI σ q2 (p1.toNatClampNeg) 0) q5 (p1.toNatClampNeg) 0))))
set_option maxHeartbeats 4000000 in
set_option maxRecDepth 100000 in
theorem kX9_clear {G : mm_G} {A : Nat → Prop} (p0 : Nat) (p1 : Int32) {σ : mm_M} {R : mm_M} (hf : fX9_clear p0 p1 σ = some R) : mm_C cd_Y G yX9_clear cX9_clear 2 none rmX9_clear A [.ref p0, .int p1] σ (mm_Pv R) := by
  refine mm_C.of (by decide) (Nat.le_of_ble_eq_true rfl) ?_
  unfold fX9_clear at hf
  have e0 : lv_args 0 [.ref p0, .int p1] = [(0, .ref p0), (1, .int p1)] := rfl
  rw [e0]
  generalize hini : (yX9_clear.name == "<init>") = ini
  clear e0
  clear hini
  refine mm_aload_n (j := 0) dX9_clear_0 rfl rfl ?_
  obtain ⟨hs1, hf⟩ := mm_sh_s hf
  refine mm_get (c := 9) (k := 1) (v := va_rf (mm_R σ p0 1)) cd_ok ⟨_, _, _, rfl, by decide, Or.inl tw_795⟩ hs1 rfl dX9_clear_1 ?_
  refine mm_iload_n (j := 1) dX9_clear_4 rfl rfl ?_
  refine mm_iconst (v := 0) dX9_clear_5 (by decide) ?_
  obtain ⟨q2, hq2, hf⟩ := mm_on_s hf
  rw [hq2, mm_rf_some]
  obtain ⟨n3, hn3, hf⟩ := mm_ar_s hf
  obtain ⟨hi4, hf⟩ := mm_ib_s hf
  refine mm_iast hn3 rfl hi4 dX9_clear_6 ?_
  refine mm_aload_n (j := 0) dX9_clear_7 rfl rfl ?_
  refine mm_get (c := 9) (k := 2) (v := va_rf (mm_R (mm_wI σ q2 (p1.toNatClampNeg) 0) p0 2)) cd_ok ⟨_, _, _, rfl, by decide, Or.inl tw_796⟩ hs1 rfl dX9_clear_8 ?_
  refine mm_iload_n (j := 1) dX9_clear_11 rfl rfl ?_
  refine mm_iconst (v := 0) dX9_clear_12 (by decide) ?_
  obtain ⟨q5, hq5, hf⟩ := mm_on_s hf
  rw [hq5, mm_rf_some]
  obtain ⟨n6, hn6, hf⟩ := mm_ar_s hf
  obtain ⟨hi7, hf⟩ := mm_ib_s hf
  refine mm_iast hn6 rfl hi7 dX9_clear_13 ?_
  cases hf
  exact mm_vret rfl dX9_clear_14 ⟨rfl, rfl⟩
theorem dX9_clearRow_0 : decode cX9_clearRow 0 = .ok (.iconst 0, 1) := by decide +kernel
theorem dX9_clearRow_1 : decode cX9_clearRow 1 = .ok (.istore 4, 2) := by decide +kernel
theorem dX9_clearRow_3 : decode cX9_clearRow 3 = .ok (.iload 4, 2) := by decide +kernel
theorem dX9_clearRow_5 : decode cX9_clearRow 5 = .ok (.bipush 32, 2) := by decide +kernel
theorem dX9_clearRow_7 : decode cX9_clearRow 7 = .ok (.if_icmp .ge 22, 3) := by decide +kernel
theorem dX9_clearRow_10 : decode cX9_clearRow 10 = .ok (.aload_n 0, 1) := by decide +kernel
theorem dX9_clearRow_11 : decode cX9_clearRow 11 = .ok (.aload_n 0, 1) := by decide +kernel
theorem dX9_clearRow_12 : decode cX9_clearRow 12 = .ok (.iload_n 1, 1) := by decide +kernel
theorem dX9_clearRow_13 : decode cX9_clearRow 13 = .ok (.iload_n 2, 1) := by decide +kernel
theorem dX9_clearRow_14 : decode cX9_clearRow 14 = .ok (.iload_n 3, 1) := by decide +kernel
theorem dX9_clearRow_15 : decode cX9_clearRow 15 = .ok (.iload 4, 2) := by decide +kernel
theorem dX9_clearRow_17 : decode cX9_clearRow 17 = .ok (.invokevirtual 124, 3) := by decide +kernel
theorem dX9_clearRow_20 : decode cX9_clearRow 20 = .ok (.invokevirtual 128, 3) := by decide +kernel
theorem dX9_clearRow_23 : decode cX9_clearRow 23 = .ok (.iinc 4 1, 3) := by decide +kernel
theorem dX9_clearRow_26 : decode cX9_clearRow 26 = .ok (.goto (-23), 3) := by decide +kernel
theorem dX9_clearRow_29 : decode cX9_clearRow 29 = .ok (.return_, 1) := by decide +kernel
theorem nmX9_clearRow : mm_nm yX9_clearRow 3 := ⟨by decide, by decide, by decide +kernel⟩
theorem cdX9_clearRow : mm_cd cd_Y yX9_clearRow cX9_clearRow 5 none := ⟨tw_977, tw_8⟩
abbrev rmX9_clearRow : Room := { frames := 1, cells := 0, slots := 0, locals := 25 }
def fX9_clearRow_3  : Nat → Nat → Int32 → Int32 → Int32 → Int32 → mm_M → Option mm_M
  | 0 => fun _ _ _ _ _ _ => none
  | n + 1 => fun a0 x1 x2 x3 x4 σ =>
  (if 32 ≤ x4 then some (σ) else mm_sh σ a0 (.inl 9) (mm_on (fX9_cellAt a0 x1 x2 x3 x4 σ) fun q3 => mm_sh q3.2 a0 (.inl 9) (mm_on (fX9_clear a0 q3.1 q3.2) fun q5 => (fX9_clearRow_3  n a0 x1 x2 x3 (x4 + 1) q5))))
def fX9_clearRow (p0 : Nat) (p1 : Int32) (p2 : Int32) (p3 : Int32) (σ : mm_M) : Option mm_M :=
  (fX9_clearRow_3  mm_fuel p0 p1 p2 p3 0 σ)
set_option maxHeartbeats 4000000 in
set_option maxRecDepth 100000 in
theorem kX9_clearRow_3 {G : mm_G} {A : Nat → Prop} {ini : Bool}  {R : mm_M}  : ∀ (a0 : Nat) (x1 : Int32) (x2 : Int32) (x3 : Int32) (x4 : Int32) (σ : mm_M), fX9_clearRow_3  mm_fuel a0 x1 x2 x3 x4 σ = some R → mm_J cd_Y G RX9 cX9_clearRow 5 none ini rmX9_clearRow A (mm_QF cd_Y G A (mm_Pv R) rmX9_clearRow.cells rmX9_clearRow.slots) 3 [(0, .ref a0), (1, .int x1), (2, .int x2), (3, .int x3), (4, .int x4)] [] σ 0 0 := by
  generalize mm_fuel = n
  induction n with
  | zero => intro a0 x1 x2 x3 x4 σ hf; cases hf
  | succ n ih =>
    intro a0 x1 x2 x3 x4 σ hf
    unfold fX9_clearRow_3 at hf
    refine mm_iload (j := 4) dX9_clearRow_3 rfl ?_
    refine mm_bipush (v := 32) dX9_clearRow_5 (by decide) ?_
    refine mm_icmp_ge (tgt := 29) dX9_clearRow_7 (by decide) (fun c1 => ?_) (fun c1 => ?_)
    · rw [if_pos c1] at hf
      cases hf
      exact mm_vret rfl dX9_clearRow_29 ⟨rfl, rfl⟩
    · rw [if_neg c1] at hf
      refine mm_aload_n (j := 0) dX9_clearRow_10 rfl rfl ?_
      refine mm_aload_n (j := 0) dX9_clearRow_11 rfl rfl ?_
      refine mm_iload_n (j := 1) dX9_clearRow_12 rfl rfl ?_
      refine mm_iload_n (j := 2) dX9_clearRow_13 rfl rfl ?_
      refine mm_iload_n (j := 3) dX9_clearRow_14 rfl rfl ?_
      refine mm_iload (j := 4) dX9_clearRow_15 rfl ?_
      obtain ⟨hs2, hf⟩ := mm_sh_s hf
      obtain ⟨q3, hq3, hf⟩ := mm_on_s hf
      refine mm_callVi cd_ok (kX9_cellAt a0 x1 x2 x3 x4 hq3) hs2 rfl (Or.inl tw_970) cdX9_cellAt tw_972 ts_36 nmX9_cellAt rfl rfl (by simp only [List.map_cons, List.map_nil, mm_rf_cat]; exact Nat.le_of_ble_eq_true rfl) dX9_clearRow_17 ⟨Nat.le_of_ble_eq_true rfl, Nat.le_of_ble_eq_true rfl⟩ ⟨Nat.le_of_ble_eq_true rfl, Nat.le_of_ble_eq_true rfl⟩ ?_
      obtain ⟨hs4, hf⟩ := mm_sh_s hf
      obtain ⟨q5, hq5, hf⟩ := mm_on_s hf
      refine mm_callVv cd_ok (kX9_clear a0 q3.1 hq5) hs4 rfl (Or.inl tw_978) cdX9_clear tw_980 ts_38 nmX9_clear rfl rfl (by simp only [List.map_cons, List.map_nil, mm_rf_cat]; exact Nat.le_of_ble_eq_true rfl) dX9_clearRow_20 ⟨Nat.le_of_ble_eq_true rfl, Nat.le_of_ble_eq_true rfl⟩ ⟨Nat.le_of_ble_eq_true rfl, Nat.le_of_ble_eq_true rfl⟩ ?_
      refine mm_iinc (j := 4) (L' := [(4, .int (x4 + 1)), (0, .ref a0), (1, .int x1), (2, .int x2), (3, .int x3)]) dX9_clearRow_23 rfl rfl (by decide) rfl ?_
      refine mm_goto (tgt := 3) dX9_clearRow_26 (by decide) ?_
      refine mm_sub [1, 2, 3, 4, 0] rfl ?_
      exact ih a0 x1 x2 x3 (x4 + 1) q5 hf
set_option maxHeartbeats 4000000 in
set_option maxRecDepth 100000 in
theorem kX9_clearRow {G : mm_G} {A : Nat → Prop} (p0 : Nat) (p1 : Int32) (p2 : Int32) (p3 : Int32) {σ : mm_M} {R : mm_M} (hf : fX9_clearRow p0 p1 p2 p3 σ = some R) : mm_C cd_Y G yX9_clearRow cX9_clearRow 5 none rmX9_clearRow A [.ref p0, .int p1, .int p2, .int p3] σ (mm_Pv R) := by
  refine mm_C.of (by decide) (Nat.le_of_ble_eq_true rfl) ?_
  unfold fX9_clearRow at hf
  have e0 : lv_args 0 [.ref p0, .int p1, .int p2, .int p3] = [(0, .ref p0), (1, .int p1), (2, .int p2), (3, .int p3)] := rfl
  rw [e0]
  generalize hini : (yX9_clearRow.name == "<init>") = ini
  clear e0
  clear hini
  refine mm_iconst (v := 0) dX9_clearRow_0 (by decide) ?_
  refine mm_istore (L' := [(4, .int 0), (0, .ref p0), (1, .int p1), (2, .int p2), (3, .int p3)]) dX9_clearRow_1 (by decide) rfl ?_
  refine mm_sub [1, 2, 3, 4, 0] rfl ?_
  exact kX9_clearRow_3  p0 p1 p2 p3 0 σ hf
theorem dX9_clearScreen_0 : decode cX9_clearScreen 0 = .ok (.iconst 1, 1) := by decide +kernel
theorem dX9_clearScreen_1 : decode cX9_clearScreen 1 = .ok (.istore_n 3, 1) := by decide +kernel
theorem dX9_clearScreen_2 : decode cX9_clearScreen 2 = .ok (.iload_n 3, 1) := by decide +kernel
theorem dX9_clearScreen_3 : decode cX9_clearScreen 3 = .ok (.bipush 15, 2) := by decide +kernel
theorem dX9_clearScreen_5 : decode cX9_clearScreen 5 = .ok (.if_icmp .gt 16, 3) := by decide +kernel
theorem dX9_clearScreen_8 : decode cX9_clearScreen 8 = .ok (.aload_n 0, 1) := by decide +kernel
theorem dX9_clearScreen_9 : decode cX9_clearScreen 9 = .ok (.iload_n 1, 1) := by decide +kernel
theorem dX9_clearScreen_10 : decode cX9_clearScreen 10 = .ok (.iload_n 2, 1) := by decide +kernel
theorem dX9_clearScreen_11 : decode cX9_clearScreen 11 = .ok (.iload_n 3, 1) := by decide +kernel
theorem dX9_clearScreen_12 : decode cX9_clearScreen 12 = .ok (.invokevirtual 132, 3) := by decide +kernel
theorem dX9_clearScreen_15 : decode cX9_clearScreen 15 = .ok (.iinc 3 1, 3) := by decide +kernel
theorem dX9_clearScreen_18 : decode cX9_clearScreen 18 = .ok (.goto (-16), 3) := by decide +kernel
theorem dX9_clearScreen_21 : decode cX9_clearScreen 21 = .ok (.return_, 1) := by decide +kernel
theorem nmX9_clearScreen : mm_nm yX9_clearScreen 2 := ⟨by decide, by decide, by decide +kernel⟩
theorem cdX9_clearScreen : mm_cd cd_Y yX9_clearScreen cX9_clearScreen 4 none := ⟨tw_997, tw_8⟩
abbrev rmX9_clearScreen : Room := { frames := 2, cells := 0, slots := 0, locals := 49 }
def fX9_clearScreen_2  : Nat → Nat → Int32 → Int32 → Int32 → mm_M → Option mm_M
  | 0 => fun _ _ _ _ _ => none
  | n + 1 => fun a0 x1 x2 x3 σ =>
  (if 15 < x3 then some (σ) else mm_sh σ a0 (.inl 9) (mm_on (fX9_clearRow a0 x1 x2 x3 σ) fun q3 => (fX9_clearScreen_2  n a0 x1 x2 (x3 + 1) q3)))
def fX9_clearScreen (p0 : Nat) (p1 : Int32) (p2 : Int32) (σ : mm_M) : Option mm_M :=
  (fX9_clearScreen_2  mm_fuel p0 p1 p2 1 σ)
set_option maxHeartbeats 4000000 in
set_option maxRecDepth 100000 in
theorem kX9_clearScreen_2 {G : mm_G} {A : Nat → Prop} {ini : Bool}  {R : mm_M}  : ∀ (a0 : Nat) (x1 : Int32) (x2 : Int32) (x3 : Int32) (σ : mm_M), fX9_clearScreen_2  mm_fuel a0 x1 x2 x3 σ = some R → mm_J cd_Y G RX9 cX9_clearScreen 4 none ini rmX9_clearScreen A (mm_QF cd_Y G A (mm_Pv R) rmX9_clearScreen.cells rmX9_clearScreen.slots) 2 [(0, .ref a0), (1, .int x1), (2, .int x2), (3, .int x3)] [] σ 0 0 := by
  generalize mm_fuel = n
  induction n with
  | zero => intro a0 x1 x2 x3 σ hf; cases hf
  | succ n ih =>
    intro a0 x1 x2 x3 σ hf
    unfold fX9_clearScreen_2 at hf
    refine mm_iload_n (j := 3) dX9_clearScreen_2 rfl rfl ?_
    refine mm_bipush (v := 15) dX9_clearScreen_3 (by decide) ?_
    refine mm_icmp_gt (tgt := 21) dX9_clearScreen_5 (by decide) (fun c1 => ?_) (fun c1 => ?_)
    · rw [if_pos c1] at hf
      cases hf
      exact mm_vret rfl dX9_clearScreen_21 ⟨rfl, rfl⟩
    · rw [if_neg c1] at hf
      refine mm_aload_n (j := 0) dX9_clearScreen_8 rfl rfl ?_
      refine mm_iload_n (j := 1) dX9_clearScreen_9 rfl rfl ?_
      refine mm_iload_n (j := 2) dX9_clearScreen_10 rfl rfl ?_
      refine mm_iload_n (j := 3) dX9_clearScreen_11 rfl rfl ?_
      obtain ⟨hs2, hf⟩ := mm_sh_s hf
      obtain ⟨q3, hq3, hf⟩ := mm_on_s hf
      refine mm_callVv cd_ok (kX9_clearRow a0 x1 x2 x3 hq3) hs2 rfl (Or.inl tw_974) cdX9_clearRow tw_976 ts_37 nmX9_clearRow rfl rfl (by simp only [List.map_cons, List.map_nil, mm_rf_cat]; exact Nat.le_of_ble_eq_true rfl) dX9_clearScreen_12 ⟨Nat.le_of_ble_eq_true rfl, Nat.le_of_ble_eq_true rfl⟩ ⟨Nat.le_of_ble_eq_true rfl, Nat.le_of_ble_eq_true rfl⟩ ?_
      refine mm_iinc (j := 3) (L' := [(3, .int (x3 + 1)), (0, .ref a0), (1, .int x1), (2, .int x2)]) dX9_clearScreen_15 rfl rfl (by decide) rfl ?_
      refine mm_goto (tgt := 2) dX9_clearScreen_18 (by decide) ?_
      refine mm_sub [1, 2, 3, 0] rfl ?_
      exact ih a0 x1 x2 (x3 + 1) q3 hf
set_option maxHeartbeats 4000000 in
set_option maxRecDepth 100000 in
theorem kX9_clearScreen {G : mm_G} {A : Nat → Prop} (p0 : Nat) (p1 : Int32) (p2 : Int32) {σ : mm_M} {R : mm_M} (hf : fX9_clearScreen p0 p1 p2 σ = some R) : mm_C cd_Y G yX9_clearScreen cX9_clearScreen 4 none rmX9_clearScreen A [.ref p0, .int p1, .int p2] σ (mm_Pv R) := by
  refine mm_C.of (by decide) (Nat.le_of_ble_eq_true rfl) ?_
  unfold fX9_clearScreen at hf
  have e0 : lv_args 0 [.ref p0, .int p1, .int p2] = [(0, .ref p0), (1, .int p1), (2, .int p2)] := rfl
  rw [e0]
  generalize hini : (yX9_clearScreen.name == "<init>") = ini
  clear e0
  clear hini
  refine mm_iconst (v := 1) dX9_clearScreen_0 (by decide) ?_
  refine mm_istore_n (L' := [(3, .int 1), (0, .ref p0), (1, .int p1), (2, .int p2)]) dX9_clearScreen_1 rfl (by decide) rfl ?_
  refine mm_sub [1, 2, 3, 0] rfl ?_
  exact kX9_clearScreen_2  p0 p1 p2 1 σ hf
theorem dX9_screenOf_0 : decode cX9_screenOf 0 = .ok (.aload_n 0, 1) := by decide +kernel
theorem dX9_screenOf_1 : decode cX9_screenOf 1 = .ok (.getfield 19, 3) := by decide +kernel
theorem dX9_screenOf_4 : decode cX9_screenOf 4 = .ok (.iload_n 1, 1) := by decide +kernel
theorem dX9_screenOf_5 : decode cX9_screenOf 5 = .ok (.iaload, 1) := by decide +kernel
theorem dX9_screenOf_6 : decode cX9_screenOf 6 = .ok (.iconst 1, 1) := by decide +kernel
theorem dX9_screenOf_7 : decode cX9_screenOf 7 = .ok (.if_icmp .ne 7, 3) := by decide +kernel
theorem dX9_screenOf_10 : decode cX9_screenOf 10 = .ok (.iconst 1, 1) := by decide +kernel
theorem dX9_screenOf_11 : decode cX9_screenOf 11 = .ok (.goto 28, 3) := by decide +kernel
theorem dX9_screenOf_14 : decode cX9_screenOf 14 = .ok (.aload_n 0, 1) := by decide +kernel
theorem dX9_screenOf_15 : decode cX9_screenOf 15 = .ok (.getfield 19, 3) := by decide +kernel
theorem dX9_screenOf_18 : decode cX9_screenOf 18 = .ok (.iload_n 1, 1) := by decide +kernel
theorem dX9_screenOf_19 : decode cX9_screenOf 19 = .ok (.iaload, 1) := by decide +kernel
theorem dX9_screenOf_20 : decode cX9_screenOf 20 = .ok (.iconst 2, 1) := by decide +kernel
theorem dX9_screenOf_21 : decode cX9_screenOf 21 = .ok (.if_icmp .eq 13, 3) := by decide +kernel
theorem dX9_screenOf_24 : decode cX9_screenOf 24 = .ok (.aload_n 0, 1) := by decide +kernel
theorem dX9_screenOf_25 : decode cX9_screenOf 25 = .ok (.getfield 19, 3) := by decide +kernel
theorem dX9_screenOf_28 : decode cX9_screenOf 28 = .ok (.iload_n 1, 1) := by decide +kernel
theorem dX9_screenOf_29 : decode cX9_screenOf 29 = .ok (.iaload, 1) := by decide +kernel
theorem dX9_screenOf_30 : decode cX9_screenOf 30 = .ok (.iconst 3, 1) := by decide +kernel
theorem dX9_screenOf_31 : decode cX9_screenOf 31 = .ok (.if_icmp .ne 7, 3) := by decide +kernel
theorem dX9_screenOf_34 : decode cX9_screenOf 34 = .ok (.iconst 0, 1) := by decide +kernel
theorem dX9_screenOf_35 : decode cX9_screenOf 35 = .ok (.goto 4, 3) := by decide +kernel
theorem dX9_screenOf_38 : decode cX9_screenOf 38 = .ok (.iconst (-1), 1) := by decide +kernel
theorem dX9_screenOf_39 : decode cX9_screenOf 39 = .ok (.ireturn, 1) := by decide +kernel
theorem nmX9_screenOf : mm_nm yX9_screenOf 1 := ⟨by decide, by decide, by decide +kernel⟩
theorem cdX9_screenOf : mm_cd cd_Y yX9_screenOf cX9_screenOf 2 (some .int) := ⟨tw_962, tw_8⟩
abbrev rmX9_screenOf : Room := { frames := 0, cells := 0, slots := 0, locals := 0 }
def fX9_screenOf (p0 : Nat) (p1 : Int32) (σ : mm_M) : Option (Int32 × mm_M) :=
  mm_sh σ p0 (.inl 9) (mm_on (mm_R σ p0 4) fun q2 => mm_ar σ q2 0 fun n3 => mm_ib p1 n3 ((if (mm_I σ q2 p1.toNatClampNeg) = 1 then some (1, σ) else mm_on (mm_R σ p0 4) fun q6 => mm_ar σ q6 0 fun n7 => mm_ib p1 n7 ((if (mm_I σ q6 p1.toNatClampNeg) = 2 then some (0, σ) else mm_on (mm_R σ p0 4) fun q10 => mm_ar σ q10 0 fun n11 => mm_ib p1 n11 ((if (mm_I σ q10 p1.toNatClampNeg) = 3 then some (0, σ) else some ((-1), σ))))))))
set_option maxHeartbeats 4000000 in
set_option maxRecDepth 100000 in
theorem kX9_screenOf {G : mm_G} {A : Nat → Prop} (p0 : Nat) (p1 : Int32) {σ : mm_M} {R : (Int32 × mm_M)} (hf : fX9_screenOf p0 p1 σ = some R) : mm_C cd_Y G yX9_screenOf cX9_screenOf 2 (some .int) rmX9_screenOf A [.ref p0, .int p1] σ (mm_Pi R.1 R.2) := by
  refine mm_C.of (by decide) (Nat.le_of_ble_eq_true rfl) ?_
  unfold fX9_screenOf at hf
  have e0 : lv_args 0 [.ref p0, .int p1] = [(0, .ref p0), (1, .int p1)] := rfl
  rw [e0]
  generalize hini : (yX9_screenOf.name == "<init>") = ini
  clear e0
  clear hini
  refine mm_aload_n (j := 0) dX9_screenOf_0 rfl rfl ?_
  obtain ⟨hs1, hf⟩ := mm_sh_s hf
  refine mm_get (c := 9) (k := 4) (v := va_rf (mm_R σ p0 4)) cd_ok ⟨_, _, _, rfl, by decide, Or.inl tw_798⟩ hs1 rfl dX9_screenOf_1 ?_
  refine mm_iload_n (j := 1) dX9_screenOf_4 rfl rfl ?_
  obtain ⟨q2, hq2, hf⟩ := mm_on_s hf
  rw [hq2, mm_rf_some]
  obtain ⟨n3, hn3, hf⟩ := mm_ar_s hf
  obtain ⟨hi4, hf⟩ := mm_ib_s hf
  refine mm_iald hn3 rfl hi4 dX9_screenOf_5 ?_
  refine mm_iconst (v := 1) dX9_screenOf_6 (by decide) ?_
  refine mm_icmp_ne (tgt := 14) dX9_screenOf_7 (by decide) (fun c5 => ?_) (fun c5 => ?_)
  · rw [if_neg c5] at hf
    refine mm_aload_n (j := 0) dX9_screenOf_14 rfl rfl ?_
    refine mm_get (c := 9) (k := 4) (v := va_rf (mm_R σ p0 4)) cd_ok ⟨_, _, _, rfl, by decide, Or.inl tw_798⟩ hs1 rfl dX9_screenOf_15 ?_
    refine mm_iload_n (j := 1) dX9_screenOf_18 rfl rfl ?_
    obtain ⟨q6, hq6, hf⟩ := mm_on_s hf
    rw [hq6, mm_rf_some]
    obtain ⟨n7, hn7, hf⟩ := mm_ar_s hf
    obtain ⟨hi8, hf⟩ := mm_ib_s hf
    refine mm_iald hn7 rfl hi8 dX9_screenOf_19 ?_
    refine mm_iconst (v := 2) dX9_screenOf_20 (by decide) ?_
    refine mm_icmp_eq (tgt := 34) dX9_screenOf_21 (by decide) (fun c9 => ?_) (fun c9 => ?_)
    · rw [if_pos c9] at hf
      refine mm_iconst (v := 0) dX9_screenOf_34 (by decide) ?_
      refine mm_goto (tgt := 39) dX9_screenOf_35 (by decide) ?_
      cases hf
      exact mm_iret rfl rfl dX9_screenOf_39 ⟨rfl, rfl⟩
    · rw [if_neg c9] at hf
      refine mm_aload_n (j := 0) dX9_screenOf_24 rfl rfl ?_
      refine mm_get (c := 9) (k := 4) (v := va_rf (mm_R σ p0 4)) cd_ok ⟨_, _, _, rfl, by decide, Or.inl tw_798⟩ hs1 rfl dX9_screenOf_25 ?_
      refine mm_iload_n (j := 1) dX9_screenOf_28 rfl rfl ?_
      obtain ⟨q10, hq10, hf⟩ := mm_on_s hf
      rw [hq10, mm_rf_some]
      obtain ⟨n11, hn11, hf⟩ := mm_ar_s hf
      obtain ⟨hi12, hf⟩ := mm_ib_s hf
      refine mm_iald hn11 rfl hi12 dX9_screenOf_29 ?_
      refine mm_iconst (v := 3) dX9_screenOf_30 (by decide) ?_
      refine mm_icmp_ne (tgt := 38) dX9_screenOf_31 (by decide) (fun c13 => ?_) (fun c13 => ?_)
      · rw [if_neg c13] at hf
        refine mm_iconst (v := (-1)) dX9_screenOf_38 (by decide) ?_
        cases hf
        exact mm_iret rfl rfl dX9_screenOf_39 ⟨rfl, rfl⟩
      · rw [if_pos c13] at hf
        refine mm_iconst (v := 0) dX9_screenOf_34 (by decide) ?_
        refine mm_goto (tgt := 39) dX9_screenOf_35 (by decide) ?_
        cases hf
        exact mm_iret rfl rfl dX9_screenOf_39 ⟨rfl, rfl⟩
  · rw [if_pos c5] at hf
    refine mm_iconst (v := 1) dX9_screenOf_10 (by decide) ?_
    refine mm_goto (tgt := 39) dX9_screenOf_11 (by decide) ?_
    cases hf
    exact mm_iret rfl rfl dX9_screenOf_39 ⟨rfl, rfl⟩
theorem dX9_put_0 : decode cX9_put 0 = .ok (.aload_n 0, 1) := by decide +kernel
theorem dX9_put_1 : decode cX9_put 1 = .ok (.iload_n 1, 1) := by decide +kernel
theorem dX9_put_2 : decode cX9_put 2 = .ok (.invokevirtual 136, 3) := by decide +kernel
theorem dX9_put_5 : decode cX9_put 5 = .ok (.istore_n 3, 1) := by decide +kernel
theorem dX9_put_6 : decode cX9_put 6 = .ok (.iload_n 3, 1) := by decide +kernel
theorem dX9_put_7 : decode cX9_put 7 = .ok (.iconst (-1), 1) := by decide +kernel
theorem dX9_put_8 : decode cX9_put 8 = .ok (.if_icmp .ne 4, 3) := by decide +kernel
theorem dX9_put_11 : decode cX9_put 11 = .ok (.return_, 1) := by decide +kernel
theorem dX9_put_12 : decode cX9_put 12 = .ok (.aload_n 0, 1) := by decide +kernel
theorem dX9_put_13 : decode cX9_put 13 = .ok (.iload_n 1, 1) := by decide +kernel
theorem dX9_put_14 : decode cX9_put 14 = .ok (.iload_n 3, 1) := by decide +kernel
theorem dX9_put_15 : decode cX9_put 15 = .ok (.aload_n 0, 1) := by decide +kernel
theorem dX9_put_16 : decode cX9_put 16 = .ok (.getfield 22, 3) := by decide +kernel
theorem dX9_put_19 : decode cX9_put 19 = .ok (.iload_n 1, 1) := by decide +kernel
theorem dX9_put_20 : decode cX9_put 20 = .ok (.iaload, 1) := by decide +kernel
theorem dX9_put_21 : decode cX9_put 21 = .ok (.aload_n 0, 1) := by decide +kernel
theorem dX9_put_22 : decode cX9_put 22 = .ok (.getfield 25, 3) := by decide +kernel
theorem dX9_put_25 : decode cX9_put 25 = .ok (.iload_n 1, 1) := by decide +kernel
theorem dX9_put_26 : decode cX9_put 26 = .ok (.iaload, 1) := by decide +kernel
theorem dX9_put_27 : decode cX9_put 27 = .ok (.bipush 32, 2) := by decide +kernel
theorem dX9_put_29 : decode cX9_put 29 = .ok (.if_icmp .ge 12, 3) := by decide +kernel
theorem dX9_put_32 : decode cX9_put 32 = .ok (.aload_n 0, 1) := by decide +kernel
theorem dX9_put_33 : decode cX9_put 33 = .ok (.getfield 25, 3) := by decide +kernel
theorem dX9_put_36 : decode cX9_put 36 = .ok (.iload_n 1, 1) := by decide +kernel
theorem dX9_put_37 : decode cX9_put 37 = .ok (.iaload, 1) := by decide +kernel
theorem dX9_put_38 : decode cX9_put 38 = .ok (.goto 5, 3) := by decide +kernel
theorem dX9_put_41 : decode cX9_put 41 = .ok (.bipush 31, 2) := by decide +kernel
theorem dX9_put_43 : decode cX9_put 43 = .ok (.invokevirtual 124, 3) := by decide +kernel
theorem dX9_put_46 : decode cX9_put 46 = .ok (.istore 4, 2) := by decide +kernel
theorem dX9_put_48 : decode cX9_put 48 = .ok (.aload_n 0, 1) := by decide +kernel
theorem dX9_put_49 : decode cX9_put 49 = .ok (.getfield 7, 3) := by decide +kernel
theorem dX9_put_52 : decode cX9_put 52 = .ok (.iload 4, 2) := by decide +kernel
theorem dX9_put_54 : decode cX9_put 54 = .ok (.iload_n 2, 1) := by decide +kernel
theorem dX9_put_55 : decode cX9_put 55 = .ok (.iastore, 1) := by decide +kernel
theorem dX9_put_56 : decode cX9_put 56 = .ok (.aload_n 0, 1) := by decide +kernel
theorem dX9_put_57 : decode cX9_put 57 = .ok (.getfield 13, 3) := by decide +kernel
theorem dX9_put_60 : decode cX9_put 60 = .ok (.iload 4, 2) := by decide +kernel
theorem dX9_put_62 : decode cX9_put 62 = .ok (.aload_n 0, 1) := by decide +kernel
theorem dX9_put_63 : decode cX9_put 63 = .ok (.getfield 28, 3) := by decide +kernel
theorem dX9_put_66 : decode cX9_put 66 = .ok (.iload_n 1, 1) := by decide +kernel
theorem dX9_put_67 : decode cX9_put 67 = .ok (.iaload, 1) := by decide +kernel
theorem dX9_put_68 : decode cX9_put 68 = .ok (.iastore, 1) := by decide +kernel
theorem dX9_put_69 : decode cX9_put 69 = .ok (.aload_n 0, 1) := by decide +kernel
theorem dX9_put_70 : decode cX9_put 70 = .ok (.getfield 25, 3) := by decide +kernel
theorem dX9_put_73 : decode cX9_put 73 = .ok (.iload_n 1, 1) := by decide +kernel
theorem dX9_put_74 : decode cX9_put 74 = .ok (.aload_n 0, 1) := by decide +kernel
theorem dX9_put_75 : decode cX9_put 75 = .ok (.getfield 25, 3) := by decide +kernel
theorem dX9_put_78 : decode cX9_put 78 = .ok (.iload_n 1, 1) := by decide +kernel
theorem dX9_put_79 : decode cX9_put 79 = .ok (.iaload, 1) := by decide +kernel
theorem dX9_put_80 : decode cX9_put 80 = .ok (.bipush 32, 2) := by decide +kernel
theorem dX9_put_82 : decode cX9_put 82 = .ok (.if_icmp .ge 14, 3) := by decide +kernel
theorem dX9_put_85 : decode cX9_put 85 = .ok (.aload_n 0, 1) := by decide +kernel
theorem dX9_put_86 : decode cX9_put 86 = .ok (.getfield 25, 3) := by decide +kernel
theorem dX9_put_89 : decode cX9_put 89 = .ok (.iload_n 1, 1) := by decide +kernel
theorem dX9_put_90 : decode cX9_put 90 = .ok (.iaload, 1) := by decide +kernel
theorem dX9_put_91 : decode cX9_put 91 = .ok (.iconst 1, 1) := by decide +kernel
theorem dX9_put_92 : decode cX9_put 92 = .ok (.iadd, 1) := by decide +kernel
theorem dX9_put_93 : decode cX9_put 93 = .ok (.goto 5, 3) := by decide +kernel
theorem dX9_put_96 : decode cX9_put 96 = .ok (.bipush 32, 2) := by decide +kernel
theorem dX9_put_98 : decode cX9_put 98 = .ok (.iastore, 1) := by decide +kernel
theorem dX9_put_99 : decode cX9_put 99 = .ok (.return_, 1) := by decide +kernel
theorem nmX9_put : mm_nm yX9_put 2 := ⟨by decide, by decide, by decide +kernel⟩
theorem cdX9_put : mm_cd cd_Y yX9_put cX9_put 5 none := ⟨tw_985, tw_8⟩
abbrev rmX9_put : Room := { frames := 1, cells := 0, slots := 0, locals := 25 }
def fX9_put_43  (a0 : Nat) (x1 : Int32) (x2 : Int32) (x3 : Int32) (y0 : Int32) (y1 : Int32) (y2 : Int32) (y3 : Int32) (y4 : Nat) (σ : mm_M) : Option mm_M :=
  mm_sh σ y4 (.inl 9) (mm_on (fX9_cellAt y4 y3 y2 y1 y0 σ) fun q13 => mm_sh q13.2 a0 (.inl 9) (mm_on (mm_R q13.2 a0 1) fun q15 => mm_ar q13.2 q15 0 fun n16 => mm_ib q13.1 n16 (mm_on (mm_R (mm_wI q13.2 q15 (q13.1.toNatClampNeg) x2) a0 7) fun q18 => mm_ar (mm_wI q13.2 q15 (q13.1.toNatClampNeg) x2) q18 0 fun n19 => mm_ib x1 n19 (mm_on (mm_R (mm_wI q13.2 q15 (q13.1.toNatClampNeg) x2) a0 2) fun q21 => mm_ar (mm_wI q13.2 q15 (q13.1.toNatClampNeg) x2) q21 0 fun n22 => mm_ib q13.1 n22 (mm_on (mm_R (mm_wI (mm_wI q13.2 q15 (q13.1.toNatClampNeg) x2) q21 (q13.1.toNatClampNeg) (mm_I (mm_wI q13.2 q15 (q13.1.toNatClampNeg) x2) q18 x1.toNatClampNeg)) a0 6) fun q24 => mm_ar (mm_wI (mm_wI q13.2 q15 (q13.1.toNatClampNeg) x2) q21 (q13.1.toNatClampNeg) (mm_I (mm_wI q13.2 q15 (q13.1.toNatClampNeg) x2) q18 x1.toNatClampNeg)) q24 0 fun n25 => mm_ib x1 n25 ((if 32 ≤ (mm_I (mm_wI (mm_wI q13.2 q15 (q13.1.toNatClampNeg) x2) q21 (q13.1.toNatClampNeg) (mm_I (mm_wI q13.2 q15 (q13.1.toNatClampNeg) x2) q18 x1.toNatClampNeg)) q24 x1.toNatClampNeg) then mm_ib x1 n25 (some (mm_wI (mm_wI (mm_wI q13.2 q15 (q13.1.toNatClampNeg) x2) q21 (q13.1.toNatClampNeg) (mm_I (mm_wI q13.2 q15 (q13.1.toNatClampNeg) x2) q18 x1.toNatClampNeg)) q24 (x1.toNatClampNeg) 32)) else mm_on (mm_R (mm_wI (mm_wI q13.2 q15 (q13.1.toNatClampNeg) x2) q21 (q13.1.toNatClampNeg) (mm_I (mm_wI q13.2 q15 (q13.1.toNatClampNeg) x2) q18 x1.toNatClampNeg)) a0 6) fun q29 => mm_ar (mm_wI (mm_wI q13.2 q15 (q13.1.toNatClampNeg) x2) q21 (q13.1.toNatClampNeg) (mm_I (mm_wI q13.2 q15 (q13.1.toNatClampNeg) x2) q18 x1.toNatClampNeg)) q29 0 fun n30 => mm_ib x1 n30 (mm_ib x1 n25 (some (mm_wI (mm_wI (mm_wI q13.2 q15 (q13.1.toNatClampNeg) x2) q21 (q13.1.toNatClampNeg) (mm_I (mm_wI q13.2 q15 (q13.1.toNatClampNeg) x2) q18 x1.toNatClampNeg)) q24 (x1.toNatClampNeg) ((mm_I (mm_wI (mm_wI q13.2 q15 (q13.1.toNatClampNeg) x2) q21 (q13.1.toNatClampNeg) (mm_I (mm_wI q13.2 q15 (q13.1.toNatClampNeg) x2) q18 x1.toNatClampNeg)) q29 x1.toNatClampNeg) + 1)))))))))))
def fX9_put (p0 : Nat) (p1 : Int32) (p2 : Int32) (σ : mm_M) : Option mm_M :=
  mm_sh σ p0 (.inl 9) (mm_on (fX9_screenOf p0 p1 σ) fun q2 => (if q2.1 = (-1) then some (q2.2) else mm_sh q2.2 p0 (.inl 9) (mm_on (mm_R q2.2 p0 5) fun q5 => mm_ar q2.2 q5 0 fun n6 => mm_ib p1 n6 (mm_on (mm_R q2.2 p0 6) fun q8 => mm_ar q2.2 q8 0 fun n9 => mm_ib p1 n9 ((if 32 ≤ (mm_I q2.2 q8 p1.toNatClampNeg) then (fX9_put_43  p0 p1 p2 q2.1 31 (mm_I q2.2 q5 p1.toNatClampNeg) q2.1 p1 p0 q2.2) else mm_on (mm_R q2.2 p0 6) fun q33 => mm_ar q2.2 q33 0 fun n34 => mm_ib p1 n34 ((fX9_put_43  p0 p1 p2 q2.1 (mm_I q2.2 q33 p1.toNatClampNeg) (mm_I q2.2 q5 p1.toNatClampNeg) q2.1 p1 p0 q2.2))))))))
set_option maxHeartbeats 4000000 in
set_option maxRecDepth 100000 in
theorem kX9_put_43 {G : mm_G} {A : Nat → Prop} {ini : Bool}  {R : mm_M}  (a0 : Nat) (x1 : Int32) (x2 : Int32) (x3 : Int32) (y0 : Int32) (y1 : Int32) (y2 : Int32) (y3 : Int32) (y4 : Nat) (σ : mm_M) (hf : fX9_put_43  a0 x1 x2 x3 y0 y1 y2 y3 y4 σ = some R) : mm_J cd_Y G RX9 cX9_put 5 none ini rmX9_put A (mm_QF cd_Y G A (mm_Pv R) rmX9_put.cells rmX9_put.slots) 43 [(0, .ref a0), (1, .int x1), (2, .int x2), (3, .int x3)] [.int y0, .int y1, .int y2, .int y3, .ref y4] σ 0 0 := by
  unfold fX9_put_43 at hf
  obtain ⟨hs12, hf⟩ := mm_sh_s hf
  obtain ⟨q13, hq13, hf⟩ := mm_on_s hf
  refine mm_callVi cd_ok (kX9_cellAt y4 y3 y2 y1 y0 hq13) hs12 rfl (Or.inl tw_970) cdX9_cellAt tw_972 ts_36 nmX9_cellAt rfl rfl (by simp only [List.map_cons, List.map_nil, mm_rf_cat]; exact Nat.le_of_ble_eq_true rfl) dX9_put_43 ⟨Nat.le_of_ble_eq_true rfl, Nat.le_of_ble_eq_true rfl⟩ ⟨Nat.le_of_ble_eq_true rfl, Nat.le_of_ble_eq_true rfl⟩ ?_
  refine mm_istore (L' := [(4, .int q13.1), (0, .ref a0), (1, .int x1), (2, .int x2), (3, .int x3)]) dX9_put_46 (by decide) rfl ?_
  refine mm_aload_n (j := 1) dX9_put_48 rfl rfl ?_
  obtain ⟨hs14, hf⟩ := mm_sh_s hf
  refine mm_get (c := 9) (k := 1) (v := va_rf (mm_R q13.2 a0 1)) cd_ok ⟨_, _, _, rfl, by decide, Or.inl tw_795⟩ hs14 rfl dX9_put_49 ?_
  refine mm_iload (j := 0) dX9_put_52 rfl ?_
  refine mm_iload_n (j := 3) dX9_put_54 rfl rfl ?_
  obtain ⟨q15, hq15, hf⟩ := mm_on_s hf
  rw [hq15, mm_rf_some]
  obtain ⟨n16, hn16, hf⟩ := mm_ar_s hf
  obtain ⟨hi17, hf⟩ := mm_ib_s hf
  refine mm_iast hn16 rfl hi17 dX9_put_55 ?_
  refine mm_aload_n (j := 1) dX9_put_56 rfl rfl ?_
  refine mm_get (c := 9) (k := 2) (v := va_rf (mm_R (mm_wI q13.2 q15 (q13.1.toNatClampNeg) x2) a0 2)) cd_ok ⟨_, _, _, rfl, by decide, Or.inl tw_796⟩ hs14 rfl dX9_put_57 ?_
  refine mm_iload (j := 0) dX9_put_60 rfl ?_
  refine mm_aload_n (j := 1) dX9_put_62 rfl rfl ?_
  refine mm_get (c := 9) (k := 7) (v := va_rf (mm_R (mm_wI q13.2 q15 (q13.1.toNatClampNeg) x2) a0 7)) cd_ok ⟨_, _, _, rfl, by decide, Or.inl tw_801⟩ hs14 rfl dX9_put_63 ?_
  refine mm_iload_n (j := 2) dX9_put_66 rfl rfl ?_
  obtain ⟨q18, hq18, hf⟩ := mm_on_s hf
  rw [hq18, mm_rf_some]
  obtain ⟨n19, hn19, hf⟩ := mm_ar_s hf
  obtain ⟨hi20, hf⟩ := mm_ib_s hf
  refine mm_iald hn19 rfl hi20 dX9_put_67 ?_
  obtain ⟨q21, hq21, hf⟩ := mm_on_s hf
  rw [hq21, mm_rf_some]
  obtain ⟨n22, hn22, hf⟩ := mm_ar_s hf
  obtain ⟨hi23, hf⟩ := mm_ib_s hf
  refine mm_iast hn22 rfl hi23 dX9_put_68 ?_
  refine mm_aload_n (j := 1) dX9_put_69 rfl rfl ?_
  refine mm_get (c := 9) (k := 6) (v := va_rf (mm_R (mm_wI (mm_wI q13.2 q15 (q13.1.toNatClampNeg) x2) q21 (q13.1.toNatClampNeg) (mm_I (mm_wI q13.2 q15 (q13.1.toNatClampNeg) x2) q18 x1.toNatClampNeg)) a0 6)) cd_ok ⟨_, _, _, rfl, by decide, Or.inl tw_800⟩ hs14 rfl dX9_put_70 ?_
  refine mm_iload_n (j := 2) dX9_put_73 rfl rfl ?_
  refine mm_aload_n (j := 1) dX9_put_74 rfl rfl ?_
  refine mm_get (c := 9) (k := 6) (v := va_rf (mm_R (mm_wI (mm_wI q13.2 q15 (q13.1.toNatClampNeg) x2) q21 (q13.1.toNatClampNeg) (mm_I (mm_wI q13.2 q15 (q13.1.toNatClampNeg) x2) q18 x1.toNatClampNeg)) a0 6)) cd_ok ⟨_, _, _, rfl, by decide, Or.inl tw_800⟩ hs14 rfl dX9_put_75 ?_
  refine mm_iload_n (j := 2) dX9_put_78 rfl rfl ?_
  obtain ⟨q24, hq24, hf⟩ := mm_on_s hf
  rw [hq24, mm_rf_some]
  obtain ⟨n25, hn25, hf⟩ := mm_ar_s hf
  obtain ⟨hi26, hf⟩ := mm_ib_s hf
  refine mm_iald hn25 rfl hi26 dX9_put_79 ?_
  refine mm_bipush (v := 32) dX9_put_80 (by decide) ?_
  refine mm_icmp_ge (tgt := 96) dX9_put_82 (by decide) (fun c27 => ?_) (fun c27 => ?_)
  · rw [if_pos c27] at hf
    refine mm_bipush (v := 32) dX9_put_96 (by decide) ?_
    obtain ⟨hi28, hf⟩ := mm_ib_s hf
    refine mm_iast hn25 rfl hi28 dX9_put_98 ?_
    cases hf
    exact mm_vret rfl dX9_put_99 ⟨rfl, rfl⟩
  · rw [if_neg c27] at hf
    refine mm_aload_n (j := 1) dX9_put_85 rfl rfl ?_
    refine mm_get (c := 9) (k := 6) (v := va_rf (mm_R (mm_wI (mm_wI q13.2 q15 (q13.1.toNatClampNeg) x2) q21 (q13.1.toNatClampNeg) (mm_I (mm_wI q13.2 q15 (q13.1.toNatClampNeg) x2) q18 x1.toNatClampNeg)) a0 6)) cd_ok ⟨_, _, _, rfl, by decide, Or.inl tw_800⟩ hs14 rfl dX9_put_86 ?_
    refine mm_iload_n (j := 2) dX9_put_89 rfl rfl ?_
    obtain ⟨q29, hq29, hf⟩ := mm_on_s hf
    rw [hq29, mm_rf_some]
    obtain ⟨n30, hn30, hf⟩ := mm_ar_s hf
    obtain ⟨hi31, hf⟩ := mm_ib_s hf
    refine mm_iald hn30 rfl hi31 dX9_put_90 ?_
    refine mm_iconst (v := 1) dX9_put_91 (by decide) ?_
    refine mm_iadd dX9_put_92 ?_
    refine mm_goto (tgt := 98) dX9_put_93 (by decide) ?_
    obtain ⟨hi32, hf⟩ := mm_ib_s hf
    refine mm_iast hn25 rfl hi32 dX9_put_98 ?_
    cases hf
    exact mm_vret rfl dX9_put_99 ⟨rfl, rfl⟩
set_option maxHeartbeats 4000000 in
set_option maxRecDepth 100000 in
theorem kX9_put {G : mm_G} {A : Nat → Prop} (p0 : Nat) (p1 : Int32) (p2 : Int32) {σ : mm_M} {R : mm_M} (hf : fX9_put p0 p1 p2 σ = some R) : mm_C cd_Y G yX9_put cX9_put 5 none rmX9_put A [.ref p0, .int p1, .int p2] σ (mm_Pv R) := by
  refine mm_C.of (by decide) (Nat.le_of_ble_eq_true rfl) ?_
  unfold fX9_put at hf
  have e0 : lv_args 0 [.ref p0, .int p1, .int p2] = [(0, .ref p0), (1, .int p1), (2, .int p2)] := rfl
  rw [e0]
  generalize hini : (yX9_put.name == "<init>") = ini
  clear e0
  clear hini
  refine mm_aload_n (j := 0) dX9_put_0 rfl rfl ?_
  refine mm_iload_n (j := 1) dX9_put_1 rfl rfl ?_
  obtain ⟨hs1, hf⟩ := mm_sh_s hf
  obtain ⟨q2, hq2, hf⟩ := mm_on_s hf
  refine mm_callVi cd_ok (kX9_screenOf p0 p1 hq2) hs1 rfl (Or.inl tw_959) cdX9_screenOf tw_961 ts_34 nmX9_screenOf rfl rfl (by simp only [List.map_cons, List.map_nil, mm_rf_cat]; exact Nat.le_of_ble_eq_true rfl) dX9_put_2 ⟨Nat.le_of_ble_eq_true rfl, Nat.le_of_ble_eq_true rfl⟩ ⟨Nat.le_of_ble_eq_true rfl, Nat.le_of_ble_eq_true rfl⟩ ?_
  refine mm_istore_n (L' := [(3, .int q2.1), (0, .ref p0), (1, .int p1), (2, .int p2)]) dX9_put_5 rfl (by decide) rfl ?_
  refine mm_iload_n (j := 0) dX9_put_6 rfl rfl ?_
  refine mm_iconst (v := (-1)) dX9_put_7 (by decide) ?_
  refine mm_icmp_ne (tgt := 12) dX9_put_8 (by decide) (fun c3 => ?_) (fun c3 => ?_)
  · rw [if_neg c3] at hf
    refine mm_aload_n (j := 1) dX9_put_12 rfl rfl ?_
    refine mm_iload_n (j := 2) dX9_put_13 rfl rfl ?_
    refine mm_iload_n (j := 0) dX9_put_14 rfl rfl ?_
    refine mm_aload_n (j := 1) dX9_put_15 rfl rfl ?_
    obtain ⟨hs4, hf⟩ := mm_sh_s hf
    refine mm_get (c := 9) (k := 5) (v := va_rf (mm_R q2.2 p0 5)) cd_ok ⟨_, _, _, rfl, by decide, Or.inl tw_799⟩ hs4 rfl dX9_put_16 ?_
    refine mm_iload_n (j := 2) dX9_put_19 rfl rfl ?_
    obtain ⟨q5, hq5, hf⟩ := mm_on_s hf
    rw [hq5, mm_rf_some]
    obtain ⟨n6, hn6, hf⟩ := mm_ar_s hf
    obtain ⟨hi7, hf⟩ := mm_ib_s hf
    refine mm_iald hn6 rfl hi7 dX9_put_20 ?_
    refine mm_aload_n (j := 1) dX9_put_21 rfl rfl ?_
    refine mm_get (c := 9) (k := 6) (v := va_rf (mm_R q2.2 p0 6)) cd_ok ⟨_, _, _, rfl, by decide, Or.inl tw_800⟩ hs4 rfl dX9_put_22 ?_
    refine mm_iload_n (j := 2) dX9_put_25 rfl rfl ?_
    obtain ⟨q8, hq8, hf⟩ := mm_on_s hf
    rw [hq8, mm_rf_some]
    obtain ⟨n9, hn9, hf⟩ := mm_ar_s hf
    obtain ⟨hi10, hf⟩ := mm_ib_s hf
    refine mm_iald hn9 rfl hi10 dX9_put_26 ?_
    refine mm_bipush (v := 32) dX9_put_27 (by decide) ?_
    refine mm_icmp_ge (tgt := 41) dX9_put_29 (by decide) (fun c11 => ?_) (fun c11 => ?_)
    · rw [if_pos c11] at hf
      refine mm_bipush (v := 31) dX9_put_41 (by decide) ?_
      refine mm_sub [1, 2, 3, 0] rfl ?_
      exact kX9_put_43  p0 p1 p2 q2.1 31 (mm_I q2.2 q5 p1.toNatClampNeg) q2.1 p1 p0 q2.2 hf
    · rw [if_neg c11] at hf
      refine mm_aload_n (j := 1) dX9_put_32 rfl rfl ?_
      refine mm_get (c := 9) (k := 6) (v := va_rf (mm_R q2.2 p0 6)) cd_ok ⟨_, _, _, rfl, by decide, Or.inl tw_800⟩ hs4 rfl dX9_put_33 ?_
      refine mm_iload_n (j := 2) dX9_put_36 rfl rfl ?_
      obtain ⟨q33, hq33, hf⟩ := mm_on_s hf
      rw [hq33, mm_rf_some]
      obtain ⟨n34, hn34, hf⟩ := mm_ar_s hf
      obtain ⟨hi35, hf⟩ := mm_ib_s hf
      refine mm_iald hn34 rfl hi35 dX9_put_37 ?_
      refine mm_goto (tgt := 43) dX9_put_38 (by decide) ?_
      refine mm_sub [1, 2, 3, 0] rfl ?_
      exact kX9_put_43  p0 p1 p2 q2.1 (mm_I q2.2 q33 p1.toNatClampNeg) (mm_I q2.2 q5 p1.toNatClampNeg) q2.1 p1 p0 q2.2 hf
  · rw [if_pos c3] at hf
    cases hf
    exact mm_vret rfl dX9_put_11 ⟨rfl, rfl⟩
theorem dX9_rowOf_0 : decode cX9_rowOf 0 = .ok (.iload_n 0, 1) := by decide +kernel
theorem dX9_rowOf_1 : decode cX9_rowOf 1 = .ok (.tableswitch 65 16 23 #[59, 47, 49, 62, 65, 51, 53, 56], 47) := by decide +kernel
theorem dX9_rowOf_48 : decode cX9_rowOf 48 = .ok (.iconst 1, 1) := by decide +kernel
theorem dX9_rowOf_49 : decode cX9_rowOf 49 = .ok (.ireturn, 1) := by decide +kernel
theorem dX9_rowOf_50 : decode cX9_rowOf 50 = .ok (.iconst 3, 1) := by decide +kernel
theorem dX9_rowOf_51 : decode cX9_rowOf 51 = .ok (.ireturn, 1) := by decide +kernel
theorem dX9_rowOf_52 : decode cX9_rowOf 52 = .ok (.iconst 5, 1) := by decide +kernel
theorem dX9_rowOf_53 : decode cX9_rowOf 53 = .ok (.ireturn, 1) := by decide +kernel
theorem dX9_rowOf_54 : decode cX9_rowOf 54 = .ok (.bipush 7, 2) := by decide +kernel
theorem dX9_rowOf_56 : decode cX9_rowOf 56 = .ok (.ireturn, 1) := by decide +kernel
theorem dX9_rowOf_57 : decode cX9_rowOf 57 = .ok (.bipush 9, 2) := by decide +kernel
theorem dX9_rowOf_59 : decode cX9_rowOf 59 = .ok (.ireturn, 1) := by decide +kernel
theorem dX9_rowOf_60 : decode cX9_rowOf 60 = .ok (.bipush 11, 2) := by decide +kernel
theorem dX9_rowOf_62 : decode cX9_rowOf 62 = .ok (.ireturn, 1) := by decide +kernel
theorem dX9_rowOf_63 : decode cX9_rowOf 63 = .ok (.bipush 12, 2) := by decide +kernel
theorem dX9_rowOf_65 : decode cX9_rowOf 65 = .ok (.ireturn, 1) := by decide +kernel
theorem dX9_rowOf_66 : decode cX9_rowOf 66 = .ok (.bipush 14, 2) := by decide +kernel
theorem dX9_rowOf_68 : decode cX9_rowOf 68 = .ok (.ireturn, 1) := by decide +kernel
theorem nmX9_rowOf : mm_nm yX9_rowOf 1 := ⟨by decide, by decide, by decide +kernel⟩
theorem cdX9_rowOf : mm_cd cd_Y yX9_rowOf cX9_rowOf 1 (some .int) := ⟨tw_965, tw_8⟩
abbrev rmX9_rowOf : Room := { frames := 0, cells := 0, slots := 0, locals := 0 }
def fX9_rowOf (p0 : Int32) : Int32 :=
  (if p0 = 16 then 11 else (if p0 = 17 then 1 else (if p0 = 18 then 3 else (if p0 = 19 then 12 else (if p0 = 21 then 5 else (if p0 = 22 then 7 else (if p0 = 23 then 9 else 14)))))))
set_option maxHeartbeats 4000000 in
set_option maxRecDepth 100000 in
theorem kX9_rowOf {G : mm_G} {A : Nat → Prop} (p0 : Int32) (σ0 : mm_M) {R : Int32} (hf : fX9_rowOf p0 = R) : mm_C cd_Y G yX9_rowOf cX9_rowOf 1 (some .int) rmX9_rowOf A [.int p0] σ0 (mm_Pi R σ0) := by
  refine mm_C.of (by decide) (Nat.le_of_ble_eq_true rfl) ?_
  unfold fX9_rowOf at hf
  have e0 : lv_args 0 [.int p0] = [(0, .int p0)] := rfl
  rw [e0]
  generalize hini : (yX9_rowOf.name == "<init>") = ini
  clear e0
  clear hini
  refine mm_iload_n (j := 0) dX9_rowOf_0 rfl rfl ?_
  by_cases c1 : p0 = 16
  · rw [if_pos c1] at hf
    refine mm_tableEq (off := 59) (tgt := 60) dX9_rowOf_1 c1 (by decide) (by decide) (by decide) (by decide) ?_
    refine mm_bipush (v := 11) dX9_rowOf_60 (by decide) ?_
    subst hf
    exact mm_iret rfl rfl dX9_rowOf_62 ⟨rfl, rfl⟩
  rw [if_neg c1] at hf
  by_cases c2 : p0 = 17
  · rw [if_pos c2] at hf
    refine mm_tableEq (off := 47) (tgt := 48) dX9_rowOf_1 c2 (by decide) (by decide) (by decide) (by decide) ?_
    refine mm_iconst (v := 1) dX9_rowOf_48 (by decide) ?_
    subst hf
    exact mm_iret rfl rfl dX9_rowOf_49 ⟨rfl, rfl⟩
  rw [if_neg c2] at hf
  by_cases c3 : p0 = 18
  · rw [if_pos c3] at hf
    refine mm_tableEq (off := 49) (tgt := 50) dX9_rowOf_1 c3 (by decide) (by decide) (by decide) (by decide) ?_
    refine mm_iconst (v := 3) dX9_rowOf_50 (by decide) ?_
    subst hf
    exact mm_iret rfl rfl dX9_rowOf_51 ⟨rfl, rfl⟩
  rw [if_neg c3] at hf
  by_cases c4 : p0 = 19
  · rw [if_pos c4] at hf
    refine mm_tableEq (off := 62) (tgt := 63) dX9_rowOf_1 c4 (by decide) (by decide) (by decide) (by decide) ?_
    refine mm_bipush (v := 12) dX9_rowOf_63 (by decide) ?_
    subst hf
    exact mm_iret rfl rfl dX9_rowOf_65 ⟨rfl, rfl⟩
  rw [if_neg c4] at hf
  by_cases c5 : p0 = 21
  · rw [if_pos c5] at hf
    refine mm_tableEq (off := 51) (tgt := 52) dX9_rowOf_1 c5 (by decide) (by decide) (by decide) (by decide) ?_
    refine mm_iconst (v := 5) dX9_rowOf_52 (by decide) ?_
    subst hf
    exact mm_iret rfl rfl dX9_rowOf_53 ⟨rfl, rfl⟩
  rw [if_neg c5] at hf
  by_cases c6 : p0 = 22
  · rw [if_pos c6] at hf
    refine mm_tableEq (off := 53) (tgt := 54) dX9_rowOf_1 c6 (by decide) (by decide) (by decide) (by decide) ?_
    refine mm_bipush (v := 7) dX9_rowOf_54 (by decide) ?_
    subst hf
    exact mm_iret rfl rfl dX9_rowOf_56 ⟨rfl, rfl⟩
  rw [if_neg c6] at hf
  by_cases c7 : p0 = 23
  · rw [if_pos c7] at hf
    refine mm_tableEq (off := 56) (tgt := 57) dX9_rowOf_1 c7 (by decide) (by decide) (by decide) (by decide) ?_
    refine mm_bipush (v := 9) dX9_rowOf_57 (by decide) ?_
    subst hf
    exact mm_iret rfl rfl dX9_rowOf_59 ⟨rfl, rfl⟩
  rw [if_neg c7] at hf
  by_cases c8 : p0 = 20
  · refine mm_tableEq (off := 65) (tgt := 66) dX9_rowOf_1 c8 (by decide) (by decide) (by decide) (by decide) ?_
    refine mm_bipush (v := 14) dX9_rowOf_66 (by decide) ?_
    subst hf
    exact mm_iret rfl rfl dX9_rowOf_68 ⟨rfl, rfl⟩
  refine mm_tableOut (tgt := 66) dX9_rowOf_1 (by have nc1 := mm_neI (k := 16) (by decide) c1; have nc2 := mm_neI (k := 17) (by decide) c2; have nc3 := mm_neI (k := 18) (by decide) c3; have nc4 := mm_neI (k := 19) (by decide) c4; have nc5 := mm_neI (k := 21) (by decide) c5; have nc6 := mm_neI (k := 22) (by decide) c6; have nc7 := mm_neI (k := 23) (by decide) c7; have nc8 := mm_neI (k := 20) (by decide) c8; omega) (by decide) ?_
  refine mm_bipush (v := 14) dX9_rowOf_66 (by decide) ?_
  subst hf
  exact mm_iret rfl rfl dX9_rowOf_68 ⟨rfl, rfl⟩
theorem dX9_toRow_0 : decode cX9_toRow 0 = .ok (.iload_n 2, 1) := by decide +kernel
theorem dX9_toRow_1 : decode cX9_toRow 1 = .ok (.istore_n 3, 1) := by decide +kernel
theorem dX9_toRow_2 : decode cX9_toRow 2 = .ok (.aload_n 0, 1) := by decide +kernel
theorem dX9_toRow_3 : decode cX9_toRow 3 = .ok (.getfield 19, 3) := by decide +kernel
theorem dX9_toRow_6 : decode cX9_toRow 6 = .ok (.iload_n 1, 1) := by decide +kernel
theorem dX9_toRow_7 : decode cX9_toRow 7 = .ok (.iaload, 1) := by decide +kernel
theorem dX9_toRow_8 : decode cX9_toRow 8 = .ok (.iconst 2, 1) := by decide +kernel
theorem dX9_toRow_9 : decode cX9_toRow 9 = .ok (.if_icmp .ne 269, 3) := by decide +kernel
theorem dX9_toRow_12 : decode cX9_toRow 12 = .ok (.aload_n 0, 1) := by decide +kernel
theorem dX9_toRow_13 : decode cX9_toRow 13 = .ok (.getfield 31, 3) := by decide +kernel
theorem dX9_toRow_16 : decode cX9_toRow 16 = .ok (.iload_n 1, 1) := by decide +kernel
theorem dX9_toRow_17 : decode cX9_toRow 17 = .ok (.iaload, 1) := by decide +kernel
theorem dX9_toRow_18 : decode cX9_toRow 18 = .ok (.istore 4, 2) := by decide +kernel
theorem dX9_toRow_20 : decode cX9_toRow 20 = .ok (.iload_n 2, 1) := by decide +kernel
theorem dX9_toRow_21 : decode cX9_toRow 21 = .ok (.iload 4, 2) := by decide +kernel
theorem dX9_toRow_23 : decode cX9_toRow 23 = .ok (.if_icmp .ge 8, 3) := by decide +kernel
theorem dX9_toRow_26 : decode cX9_toRow 26 = .ok (.iload 4, 2) := by decide +kernel
theorem dX9_toRow_28 : decode cX9_toRow 28 = .ok (.goto 4, 3) := by decide +kernel
theorem dX9_toRow_31 : decode cX9_toRow 31 = .ok (.iload_n 2, 1) := by decide +kernel
theorem dX9_toRow_32 : decode cX9_toRow 32 = .ok (.istore_n 3, 1) := by decide +kernel
theorem dX9_toRow_33 : decode cX9_toRow 33 = .ok (.iload_n 3, 1) := by decide +kernel
theorem dX9_toRow_34 : decode cX9_toRow 34 = .ok (.aload_n 0, 1) := by decide +kernel
theorem dX9_toRow_35 : decode cX9_toRow 35 = .ok (.getfield 22, 3) := by decide +kernel
theorem dX9_toRow_38 : decode cX9_toRow 38 = .ok (.iload_n 1, 1) := by decide +kernel
theorem dX9_toRow_39 : decode cX9_toRow 39 = .ok (.iaload, 1) := by decide +kernel
theorem dX9_toRow_40 : decode cX9_toRow 40 = .ok (.if_icmp .eq 238, 3) := by decide +kernel
theorem dX9_toRow_43 : decode cX9_toRow 43 = .ok (.iconst 0, 1) := by decide +kernel
theorem dX9_toRow_44 : decode cX9_toRow 44 = .ok (.istore 5, 2) := by decide +kernel
theorem dX9_toRow_46 : decode cX9_toRow 46 = .ok (.iload 5, 2) := by decide +kernel
theorem dX9_toRow_48 : decode cX9_toRow 48 = .ok (.iload 4, 2) := by decide +kernel
theorem dX9_toRow_50 : decode cX9_toRow 50 = .ok (.if_icmp .ge 137, 3) := by decide +kernel
theorem dX9_toRow_53 : decode cX9_toRow 53 = .ok (.aload_n 0, 1) := by decide +kernel
theorem dX9_toRow_54 : decode cX9_toRow 54 = .ok (.getfield 22, 3) := by decide +kernel
theorem dX9_toRow_57 : decode cX9_toRow 57 = .ok (.iload_n 1, 1) := by decide +kernel
theorem dX9_toRow_58 : decode cX9_toRow 58 = .ok (.iaload, 1) := by decide +kernel
theorem dX9_toRow_59 : decode cX9_toRow 59 = .ok (.iload 4, 2) := by decide +kernel
theorem dX9_toRow_61 : decode cX9_toRow 61 = .ok (.isub, 1) := by decide +kernel
theorem dX9_toRow_62 : decode cX9_toRow 62 = .ok (.iconst 1, 1) := by decide +kernel
theorem dX9_toRow_63 : decode cX9_toRow 63 = .ok (.iadd, 1) := by decide +kernel
theorem dX9_toRow_64 : decode cX9_toRow 64 = .ok (.iload 5, 2) := by decide +kernel
theorem dX9_toRow_66 : decode cX9_toRow 66 = .ok (.iadd, 1) := by decide +kernel
theorem dX9_toRow_67 : decode cX9_toRow 67 = .ok (.istore 6, 2) := by decide +kernel
theorem dX9_toRow_69 : decode cX9_toRow 69 = .ok (.iconst 0, 1) := by decide +kernel
theorem dX9_toRow_70 : decode cX9_toRow 70 = .ok (.istore 7, 2) := by decide +kernel
theorem dX9_toRow_72 : decode cX9_toRow 72 = .ok (.iload 7, 2) := by decide +kernel
theorem dX9_toRow_74 : decode cX9_toRow 74 = .ok (.bipush 32, 2) := by decide +kernel
theorem dX9_toRow_76 : decode cX9_toRow 76 = .ok (.if_icmp .ge 91, 3) := by decide +kernel
theorem dX9_toRow_79 : decode cX9_toRow 79 = .ok (.iload 6, 2) := by decide +kernel
theorem dX9_toRow_81 : decode cX9_toRow 81 = .ok (.iconst 1, 1) := by decide +kernel
theorem dX9_toRow_82 : decode cX9_toRow 82 = .ok (.if_icmp .lt 16, 3) := by decide +kernel
theorem dX9_toRow_85 : decode cX9_toRow 85 = .ok (.aload_n 0, 1) := by decide +kernel
theorem dX9_toRow_86 : decode cX9_toRow 86 = .ok (.iload_n 1, 1) := by decide +kernel
theorem dX9_toRow_87 : decode cX9_toRow 87 = .ok (.iconst 0, 1) := by decide +kernel
theorem dX9_toRow_88 : decode cX9_toRow 88 = .ok (.iload 6, 2) := by decide +kernel
theorem dX9_toRow_90 : decode cX9_toRow 90 = .ok (.iload 7, 2) := by decide +kernel
theorem dX9_toRow_92 : decode cX9_toRow 92 = .ok (.invokevirtual 124, 3) := by decide +kernel
theorem dX9_toRow_95 : decode cX9_toRow 95 = .ok (.goto 4, 3) := by decide +kernel
theorem dX9_toRow_98 : decode cX9_toRow 98 = .ok (.iconst (-1), 1) := by decide +kernel
theorem dX9_toRow_99 : decode cX9_toRow 99 = .ok (.istore 8, 2) := by decide +kernel
theorem dX9_toRow_101 : decode cX9_toRow 101 = .ok (.aload_n 0, 1) := by decide +kernel
theorem dX9_toRow_102 : decode cX9_toRow 102 = .ok (.getfield 111, 3) := by decide +kernel
theorem dX9_toRow_105 : decode cX9_toRow 105 = .ok (.bipush 32, 2) := by decide +kernel
theorem dX9_toRow_107 : decode cX9_toRow 107 = .ok (.iload 5, 2) := by decide +kernel
theorem dX9_toRow_109 : decode cX9_toRow 109 = .ok (.imul, 1) := by decide +kernel
theorem dX9_toRow_110 : decode cX9_toRow 110 = .ok (.iload 7, 2) := by decide +kernel
theorem dX9_toRow_112 : decode cX9_toRow 112 = .ok (.iadd, 1) := by decide +kernel
theorem dX9_toRow_113 : decode cX9_toRow 113 = .ok (.iload 8, 2) := by decide +kernel
theorem dX9_toRow_115 : decode cX9_toRow 115 = .ok (.iconst (-1), 1) := by decide +kernel
theorem dX9_toRow_116 : decode cX9_toRow 116 = .ok (.if_icmp .ne 7, 3) := by decide +kernel
theorem dX9_toRow_119 : decode cX9_toRow 119 = .ok (.iconst 0, 1) := by decide +kernel
theorem dX9_toRow_120 : decode cX9_toRow 120 = .ok (.goto 10, 3) := by decide +kernel
theorem dX9_toRow_123 : decode cX9_toRow 123 = .ok (.aload_n 0, 1) := by decide +kernel
theorem dX9_toRow_124 : decode cX9_toRow 124 = .ok (.getfield 7, 3) := by decide +kernel
theorem dX9_toRow_127 : decode cX9_toRow 127 = .ok (.iload 8, 2) := by decide +kernel
theorem dX9_toRow_129 : decode cX9_toRow 129 = .ok (.iaload, 1) := by decide +kernel
theorem dX9_toRow_130 : decode cX9_toRow 130 = .ok (.iastore, 1) := by decide +kernel
theorem dX9_toRow_131 : decode cX9_toRow 131 = .ok (.aload_n 0, 1) := by decide +kernel
theorem dX9_toRow_132 : decode cX9_toRow 132 = .ok (.getfield 114, 3) := by decide +kernel
theorem dX9_toRow_135 : decode cX9_toRow 135 = .ok (.bipush 32, 2) := by decide +kernel
theorem dX9_toRow_137 : decode cX9_toRow 137 = .ok (.iload 5, 2) := by decide +kernel
theorem dX9_toRow_139 : decode cX9_toRow 139 = .ok (.imul, 1) := by decide +kernel
theorem dX9_toRow_140 : decode cX9_toRow 140 = .ok (.iload 7, 2) := by decide +kernel
theorem dX9_toRow_142 : decode cX9_toRow 142 = .ok (.iadd, 1) := by decide +kernel
theorem dX9_toRow_143 : decode cX9_toRow 143 = .ok (.iload 8, 2) := by decide +kernel
theorem dX9_toRow_145 : decode cX9_toRow 145 = .ok (.iconst (-1), 1) := by decide +kernel
theorem dX9_toRow_146 : decode cX9_toRow 146 = .ok (.if_icmp .ne 7, 3) := by decide +kernel
theorem dX9_toRow_149 : decode cX9_toRow 149 = .ok (.iconst 0, 1) := by decide +kernel
theorem dX9_toRow_150 : decode cX9_toRow 150 = .ok (.goto 10, 3) := by decide +kernel
theorem dX9_toRow_153 : decode cX9_toRow 153 = .ok (.aload_n 0, 1) := by decide +kernel
theorem dX9_toRow_154 : decode cX9_toRow 154 = .ok (.getfield 13, 3) := by decide +kernel
theorem dX9_toRow_157 : decode cX9_toRow 157 = .ok (.iload 8, 2) := by decide +kernel
theorem dX9_toRow_159 : decode cX9_toRow 159 = .ok (.iaload, 1) := by decide +kernel
theorem dX9_toRow_160 : decode cX9_toRow 160 = .ok (.iastore, 1) := by decide +kernel
theorem dX9_toRow_161 : decode cX9_toRow 161 = .ok (.iinc 7 1, 3) := by decide +kernel
theorem dX9_toRow_164 : decode cX9_toRow 164 = .ok (.goto (-92), 3) := by decide +kernel
theorem dX9_toRow_167 : decode cX9_toRow 167 = .ok (.iload 6, 2) := by decide +kernel
theorem dX9_toRow_169 : decode cX9_toRow 169 = .ok (.iconst 1, 1) := by decide +kernel
theorem dX9_toRow_170 : decode cX9_toRow 170 = .ok (.if_icmp .lt 11, 3) := by decide +kernel
theorem dX9_toRow_173 : decode cX9_toRow 173 = .ok (.aload_n 0, 1) := by decide +kernel
theorem dX9_toRow_174 : decode cX9_toRow 174 = .ok (.iload_n 1, 1) := by decide +kernel
theorem dX9_toRow_175 : decode cX9_toRow 175 = .ok (.iconst 0, 1) := by decide +kernel
theorem dX9_toRow_176 : decode cX9_toRow 176 = .ok (.iload 6, 2) := by decide +kernel
theorem dX9_toRow_178 : decode cX9_toRow 178 = .ok (.invokevirtual 132, 3) := by decide +kernel
theorem dX9_toRow_181 : decode cX9_toRow 181 = .ok (.iinc 5 1, 3) := by decide +kernel
theorem dX9_toRow_184 : decode cX9_toRow 184 = .ok (.goto (-138), 3) := by decide +kernel
theorem dX9_toRow_187 : decode cX9_toRow 187 = .ok (.iconst 0, 1) := by decide +kernel
theorem dX9_toRow_188 : decode cX9_toRow 188 = .ok (.istore 5, 2) := by decide +kernel
theorem dX9_toRow_190 : decode cX9_toRow 190 = .ok (.iload 5, 2) := by decide +kernel
theorem dX9_toRow_192 : decode cX9_toRow 192 = .ok (.iload 4, 2) := by decide +kernel
theorem dX9_toRow_194 : decode cX9_toRow 194 = .ok (.if_icmp .ge 84, 3) := by decide +kernel
theorem dX9_toRow_197 : decode cX9_toRow 197 = .ok (.iconst 0, 1) := by decide +kernel
theorem dX9_toRow_198 : decode cX9_toRow 198 = .ok (.istore 6, 2) := by decide +kernel
theorem dX9_toRow_200 : decode cX9_toRow 200 = .ok (.iload 6, 2) := by decide +kernel
theorem dX9_toRow_202 : decode cX9_toRow 202 = .ok (.bipush 32, 2) := by decide +kernel
theorem dX9_toRow_204 : decode cX9_toRow 204 = .ok (.if_icmp .ge 68, 3) := by decide +kernel
theorem dX9_toRow_207 : decode cX9_toRow 207 = .ok (.aload_n 0, 1) := by decide +kernel
theorem dX9_toRow_208 : decode cX9_toRow 208 = .ok (.iload_n 1, 1) := by decide +kernel
theorem dX9_toRow_209 : decode cX9_toRow 209 = .ok (.iconst 0, 1) := by decide +kernel
theorem dX9_toRow_210 : decode cX9_toRow 210 = .ok (.iload_n 3, 1) := by decide +kernel
theorem dX9_toRow_211 : decode cX9_toRow 211 = .ok (.iload 4, 2) := by decide +kernel
theorem dX9_toRow_213 : decode cX9_toRow 213 = .ok (.isub, 1) := by decide +kernel
theorem dX9_toRow_214 : decode cX9_toRow 214 = .ok (.iconst 1, 1) := by decide +kernel
theorem dX9_toRow_215 : decode cX9_toRow 215 = .ok (.iadd, 1) := by decide +kernel
theorem dX9_toRow_216 : decode cX9_toRow 216 = .ok (.iload 5, 2) := by decide +kernel
theorem dX9_toRow_218 : decode cX9_toRow 218 = .ok (.iadd, 1) := by decide +kernel
theorem dX9_toRow_219 : decode cX9_toRow 219 = .ok (.iload 6, 2) := by decide +kernel
theorem dX9_toRow_221 : decode cX9_toRow 221 = .ok (.invokevirtual 124, 3) := by decide +kernel
theorem dX9_toRow_224 : decode cX9_toRow 224 = .ok (.istore 7, 2) := by decide +kernel
theorem dX9_toRow_226 : decode cX9_toRow 226 = .ok (.aload_n 0, 1) := by decide +kernel
theorem dX9_toRow_227 : decode cX9_toRow 227 = .ok (.getfield 7, 3) := by decide +kernel
theorem dX9_toRow_230 : decode cX9_toRow 230 = .ok (.iload 7, 2) := by decide +kernel
theorem dX9_toRow_232 : decode cX9_toRow 232 = .ok (.aload_n 0, 1) := by decide +kernel
theorem dX9_toRow_233 : decode cX9_toRow 233 = .ok (.getfield 111, 3) := by decide +kernel
theorem dX9_toRow_236 : decode cX9_toRow 236 = .ok (.bipush 32, 2) := by decide +kernel
theorem dX9_toRow_238 : decode cX9_toRow 238 = .ok (.iload 5, 2) := by decide +kernel
theorem dX9_toRow_240 : decode cX9_toRow 240 = .ok (.imul, 1) := by decide +kernel
theorem dX9_toRow_241 : decode cX9_toRow 241 = .ok (.iload 6, 2) := by decide +kernel
theorem dX9_toRow_243 : decode cX9_toRow 243 = .ok (.iadd, 1) := by decide +kernel
theorem dX9_toRow_244 : decode cX9_toRow 244 = .ok (.iaload, 1) := by decide +kernel
theorem dX9_toRow_245 : decode cX9_toRow 245 = .ok (.iastore, 1) := by decide +kernel
theorem dX9_toRow_246 : decode cX9_toRow 246 = .ok (.aload_n 0, 1) := by decide +kernel
theorem dX9_toRow_247 : decode cX9_toRow 247 = .ok (.getfield 13, 3) := by decide +kernel
theorem dX9_toRow_250 : decode cX9_toRow 250 = .ok (.iload 7, 2) := by decide +kernel
theorem dX9_toRow_252 : decode cX9_toRow 252 = .ok (.aload_n 0, 1) := by decide +kernel
theorem dX9_toRow_253 : decode cX9_toRow 253 = .ok (.getfield 114, 3) := by decide +kernel
theorem dX9_toRow_256 : decode cX9_toRow 256 = .ok (.bipush 32, 2) := by decide +kernel
theorem dX9_toRow_258 : decode cX9_toRow 258 = .ok (.iload 5, 2) := by decide +kernel
theorem dX9_toRow_260 : decode cX9_toRow 260 = .ok (.imul, 1) := by decide +kernel
theorem dX9_toRow_261 : decode cX9_toRow 261 = .ok (.iload 6, 2) := by decide +kernel
theorem dX9_toRow_263 : decode cX9_toRow 263 = .ok (.iadd, 1) := by decide +kernel
theorem dX9_toRow_264 : decode cX9_toRow 264 = .ok (.iaload, 1) := by decide +kernel
theorem dX9_toRow_265 : decode cX9_toRow 265 = .ok (.iastore, 1) := by decide +kernel
theorem dX9_toRow_266 : decode cX9_toRow 266 = .ok (.iinc 6 1, 3) := by decide +kernel
theorem dX9_toRow_269 : decode cX9_toRow 269 = .ok (.goto (-69), 3) := by decide +kernel
theorem dX9_toRow_272 : decode cX9_toRow 272 = .ok (.iinc 5 1, 3) := by decide +kernel
theorem dX9_toRow_275 : decode cX9_toRow 275 = .ok (.goto (-85), 3) := by decide +kernel
theorem dX9_toRow_278 : decode cX9_toRow 278 = .ok (.aload_n 0, 1) := by decide +kernel
theorem dX9_toRow_279 : decode cX9_toRow 279 = .ok (.getfield 22, 3) := by decide +kernel
theorem dX9_toRow_282 : decode cX9_toRow 282 = .ok (.iload_n 1, 1) := by decide +kernel
theorem dX9_toRow_283 : decode cX9_toRow 283 = .ok (.iload_n 3, 1) := by decide +kernel
theorem dX9_toRow_284 : decode cX9_toRow 284 = .ok (.iastore, 1) := by decide +kernel
theorem dX9_toRow_285 : decode cX9_toRow 285 = .ok (.return_, 1) := by decide +kernel
theorem nmX9_toRow : mm_nm yX9_toRow 2 := ⟨by decide, by decide, by decide +kernel⟩
theorem cdX9_toRow : mm_cd cd_Y yX9_toRow cX9_toRow 9 none := ⟨tw_969, tw_8⟩
abbrev rmX9_toRow : Room := { frames := 2, cells := 0, slots := 0, locals := 49 }
def fX9_toRow_200 (k190 : Nat → Int32 → Int32 → Int32 → Int32 → Int32 → mm_M → Option mm_M) : Nat → Nat → Int32 → Int32 → Int32 → Int32 → Int32 → Int32 → mm_M → Option mm_M
  | 0 => fun _ _ _ _ _ _ _ _ => none
  | n + 1 => fun a0 x1 x2 x3 x4 x5 x6 σ =>
  (if 32 ≤ x6 then (k190 a0 x1 x2 x3 x4 (x5 + 1) σ) else mm_sh σ a0 (.inl 9) (mm_on (fX9_cellAt a0 x1 0 (((x3 - x4) + 1) + x5) x6 σ) fun q29 => mm_sh q29.2 a0 (.inl 9) (mm_on (mm_R q29.2 a0 42) fun q31 => mm_ar q29.2 q31 0 fun n32 => mm_ib ((32 * x5) + x6) n32 (mm_on (mm_R q29.2 a0 1) fun q34 => mm_ar q29.2 q34 0 fun n35 => mm_ib q29.1 n35 (mm_on (mm_R (mm_wI q29.2 q34 (q29.1.toNatClampNeg) (mm_I q29.2 q31 ((32 * x5) + x6).toNatClampNeg)) a0 43) fun q37 => mm_ar (mm_wI q29.2 q34 (q29.1.toNatClampNeg) (mm_I q29.2 q31 ((32 * x5) + x6).toNatClampNeg)) q37 0 fun n38 => mm_ib ((32 * x5) + x6) n38 (mm_on (mm_R (mm_wI q29.2 q34 (q29.1.toNatClampNeg) (mm_I q29.2 q31 ((32 * x5) + x6).toNatClampNeg)) a0 2) fun q40 => mm_ar (mm_wI q29.2 q34 (q29.1.toNatClampNeg) (mm_I q29.2 q31 ((32 * x5) + x6).toNatClampNeg)) q40 0 fun n41 => mm_ib q29.1 n41 ((fX9_toRow_200 k190 n a0 x1 x2 x3 x4 x5 (x6 + 1) (mm_wI (mm_wI q29.2 q34 (q29.1.toNatClampNeg) (mm_I q29.2 q31 ((32 * x5) + x6).toNatClampNeg)) q40 (q29.1.toNatClampNeg) (mm_I (mm_wI q29.2 q34 (q29.1.toNatClampNeg) (mm_I q29.2 q31 ((32 * x5) + x6).toNatClampNeg)) q37 ((32 * x5) + x6).toNatClampNeg))))))))))
def fX9_toRow_190  : Nat → Nat → Int32 → Int32 → Int32 → Int32 → Int32 → mm_M → Option mm_M
  | 0 => fun _ _ _ _ _ _ _ => none
  | n + 1 => fun a0 x1 x2 x3 x4 x5 σ =>
  (if x4 ≤ x5 then mm_sh σ a0 (.inl 9) (mm_on (mm_R σ a0 5) fun q24 => mm_ar σ q24 0 fun n25 => mm_ib x1 n25 (some (mm_wI σ q24 (x1.toNatClampNeg) x3))) else (fX9_toRow_200 (fX9_toRow_190  n) mm_fuel a0 x1 x2 x3 x4 x5 0 σ))
def fX9_toRow_130 (k46 : Nat → Int32 → Int32 → Int32 → Int32 → Int32 → mm_M → Option mm_M) (k72 : Nat → Int32 → Int32 → Int32 → Int32 → Int32 → Int32 → Int32 → mm_M → Option mm_M) (a0 : Nat) (x1 : Int32) (x2 : Int32) (x3 : Int32) (x4 : Int32) (x5 : Int32) (x6 : Int32) (x7 : Int32) (x8 : Int32) (y0 : Int32) (y1 : Int32) (y2 : Option Nat) (σ : mm_M) : Option mm_M :=
  mm_on (y2) fun q57 => mm_ar σ q57 0 fun n58 => mm_ib y1 n58 (mm_sh (mm_wI σ q57 (y1.toNatClampNeg) y0) a0 (.inl 9) ((if x8 = (-1) then mm_on (mm_R (mm_wI σ q57 (y1.toNatClampNeg) y0) a0 43) fun q68 => mm_ar (mm_wI σ q57 (y1.toNatClampNeg) y0) q68 0 fun n69 => mm_ib ((32 * x5) + x7) n69 ((k72 a0 x1 x2 x3 x4 x5 x6 (x7 + 1) (mm_wI (mm_wI σ q57 (y1.toNatClampNeg) y0) q68 (((32 * x5) + x7).toNatClampNeg) 0))) else mm_on (mm_R (mm_wI σ q57 (y1.toNatClampNeg) y0) a0 2) fun q62 => mm_ar (mm_wI σ q57 (y1.toNatClampNeg) y0) q62 0 fun n63 => mm_ib x8 n63 (mm_on (mm_R (mm_wI σ q57 (y1.toNatClampNeg) y0) a0 43) fun q65 => mm_ar (mm_wI σ q57 (y1.toNatClampNeg) y0) q65 0 fun n66 => mm_ib ((32 * x5) + x7) n66 ((k72 a0 x1 x2 x3 x4 x5 x6 (x7 + 1) (mm_wI (mm_wI σ q57 (y1.toNatClampNeg) y0) q65 (((32 * x5) + x7).toNatClampNeg) (mm_I (mm_wI σ q57 (y1.toNatClampNeg) y0) q62 x8.toNatClampNeg))))))))
def fX9_toRow_99 (k46 : Nat → Int32 → Int32 → Int32 → Int32 → Int32 → mm_M → Option mm_M) (k72 : Nat → Int32 → Int32 → Int32 → Int32 → Int32 → Int32 → Int32 → mm_M → Option mm_M) (a0 : Nat) (x1 : Int32) (x2 : Int32) (x3 : Int32) (x4 : Int32) (x5 : Int32) (x6 : Int32) (x7 : Int32) (y0 : Int32) (σ : mm_M) : Option mm_M :=
  mm_sh σ a0 (.inl 9) ((if y0 = (-1) then (fX9_toRow_130 k46 k72 a0 x1 x2 x3 x4 x5 x6 x7 y0 0 ((32 * x5) + x7) (mm_R σ a0 42) σ) else mm_on (mm_R σ a0 1) fun q54 => mm_ar σ q54 0 fun n55 => mm_ib y0 n55 ((fX9_toRow_130 k46 k72 a0 x1 x2 x3 x4 x5 x6 x7 y0 (mm_I σ q54 y0.toNatClampNeg) ((32 * x5) + x7) (mm_R σ a0 42) σ))))
def fX9_toRow_72 (k46 : Nat → Int32 → Int32 → Int32 → Int32 → Int32 → mm_M → Option mm_M) : Nat → Nat → Int32 → Int32 → Int32 → Int32 → Int32 → Int32 → Int32 → mm_M → Option mm_M
  | 0 => fun _ _ _ _ _ _ _ _ _ => none
  | n + 1 => fun a0 x1 x2 x3 x4 x5 x6 x7 σ =>
  (if 32 ≤ x7 then (if x6 < 1 then (k46 a0 x1 x2 x3 x4 (x5 + 1) σ) else mm_sh σ a0 (.inl 9) (mm_on (fX9_clearRow a0 x1 0 x6 σ) fun q50 => (k46 a0 x1 x2 x3 x4 (x5 + 1) q50))) else (if x6 < 1 then (fX9_toRow_99 k46 (fX9_toRow_72 k46 n) a0 x1 x2 x3 x4 x5 x6 x7 (-1) σ) else mm_sh σ a0 (.inl 9) (mm_on (fX9_cellAt a0 x1 0 x6 x7 σ) fun q72 => (fX9_toRow_99 k46 (fX9_toRow_72 k46 n) a0 x1 x2 x3 x4 x5 x6 x7 q72.1 q72.2))))
def fX9_toRow_46  : Nat → Nat → Int32 → Int32 → Int32 → Int32 → Int32 → mm_M → Option mm_M
  | 0 => fun _ _ _ _ _ _ _ => none
  | n + 1 => fun a0 x1 x2 x3 x4 x5 σ =>
  (if x4 ≤ x5 then (fX9_toRow_190  mm_fuel a0 x1 x2 x3 x4 0 σ) else mm_sh σ a0 (.inl 9) (mm_on (mm_R σ a0 5) fun q44 => mm_ar σ q44 0 fun n45 => mm_ib x1 n45 ((fX9_toRow_72 (fX9_toRow_46  n) mm_fuel a0 x1 x2 x3 x4 x5 ((((mm_I σ q44 x1.toNatClampNeg) - x4) + 1) + x5) 0 σ))))
def fX9_toRow_32  (a0 : Nat) (x1 : Int32) (x2 : Int32) (x3 : Int32) (x4 : Int32) (y0 : Int32) (σ : mm_M) : Option mm_M :=
  mm_sh σ a0 (.inl 9) (mm_on (mm_R σ a0 5) fun q14 => mm_ar σ q14 0 fun n15 => mm_ib x1 n15 ((if y0 = (mm_I σ q14 x1.toNatClampNeg) then mm_on (mm_R σ a0 5) fun q18 => mm_ar σ q18 0 fun n19 => mm_ib x1 n19 (some (mm_wI σ q18 (x1.toNatClampNeg) y0)) else (fX9_toRow_46  mm_fuel a0 x1 x2 y0 x4 0 σ))))
def fX9_toRow (p0 : Nat) (p1 : Int32) (p2 : Int32) (σ : mm_M) : Option mm_M :=
  mm_sh σ p0 (.inl 9) (mm_on (mm_R σ p0 4) fun q2 => mm_ar σ q2 0 fun n3 => mm_ib p1 n3 ((if (mm_I σ q2 p1.toNatClampNeg) = 2 then mm_on (mm_R σ p0 8) fun q9 => mm_ar σ q9 0 fun n10 => mm_ib p1 n10 ((if (mm_I σ q9 p1.toNatClampNeg) ≤ p2 then (fX9_toRow_32  p0 p1 p2 p2 (mm_I σ q9 p1.toNatClampNeg) p2 σ) else (fX9_toRow_32  p0 p1 p2 p2 (mm_I σ q9 p1.toNatClampNeg) (mm_I σ q9 p1.toNatClampNeg) σ))) else mm_on (mm_R σ p0 5) fun q6 => mm_ar σ q6 0 fun n7 => mm_ib p1 n7 (some (mm_wI σ q6 (p1.toNatClampNeg) p2)))))
set_option maxHeartbeats 4000000 in
set_option maxRecDepth 100000 in
theorem kX9_toRow_200 {G : mm_G} {A : Nat → Prop} {ini : Bool} {k190 : Nat → Int32 → Int32 → Int32 → Int32 → Int32 → mm_M → Option mm_M} {R : mm_M} (hk190 : ∀ a0 x1 x2 x3 x4 x5 σ, k190 a0 x1 x2 x3 x4 x5 σ = some R → mm_J cd_Y G RX9 cX9_toRow 9 none ini rmX9_toRow A (mm_QF cd_Y G A (mm_Pv R) rmX9_toRow.cells rmX9_toRow.slots) 190 [(0, .ref a0), (1, .int x1), (2, .int x2), (3, .int x3), (4, .int x4), (5, .int x5)] [] σ 0 0) : ∀ (a0 : Nat) (x1 : Int32) (x2 : Int32) (x3 : Int32) (x4 : Int32) (x5 : Int32) (x6 : Int32) (σ : mm_M), fX9_toRow_200 k190 mm_fuel a0 x1 x2 x3 x4 x5 x6 σ = some R → mm_J cd_Y G RX9 cX9_toRow 9 none ini rmX9_toRow A (mm_QF cd_Y G A (mm_Pv R) rmX9_toRow.cells rmX9_toRow.slots) 200 [(0, .ref a0), (1, .int x1), (2, .int x2), (3, .int x3), (4, .int x4), (5, .int x5), (6, .int x6)] [] σ 0 0 := by
  generalize mm_fuel = n
  induction n with
  | zero => intro a0 x1 x2 x3 x4 x5 x6 σ hf; cases hf
  | succ n ih =>
    intro a0 x1 x2 x3 x4 x5 x6 σ hf
    unfold fX9_toRow_200 at hf
    refine mm_iload (j := 6) dX9_toRow_200 rfl ?_
    refine mm_bipush (v := 32) dX9_toRow_202 (by decide) ?_
    refine mm_icmp_ge (tgt := 272) dX9_toRow_204 (by decide) (fun c27 => ?_) (fun c27 => ?_)
    · rw [if_pos c27] at hf
      refine mm_iinc (j := 5) (L' := [(5, .int (x5 + 1)), (0, .ref a0), (1, .int x1), (2, .int x2), (3, .int x3), (4, .int x4), (6, .int x6)]) dX9_toRow_272 rfl rfl (by decide) rfl ?_
      refine mm_goto (tgt := 190) dX9_toRow_275 (by decide) ?_
      refine mm_sub [1, 2, 3, 4, 5, 0] rfl ?_
      exact hk190 a0 x1 x2 x3 x4 (x5 + 1) σ hf
    · rw [if_neg c27] at hf
      refine mm_aload_n (j := 0) dX9_toRow_207 rfl rfl ?_
      refine mm_iload_n (j := 1) dX9_toRow_208 rfl rfl ?_
      refine mm_iconst (v := 0) dX9_toRow_209 (by decide) ?_
      refine mm_iload_n (j := 3) dX9_toRow_210 rfl rfl ?_
      refine mm_iload (j := 4) dX9_toRow_211 rfl ?_
      refine mm_isub dX9_toRow_213 ?_
      refine mm_iconst (v := 1) dX9_toRow_214 (by decide) ?_
      refine mm_iadd dX9_toRow_215 ?_
      refine mm_iload (j := 5) dX9_toRow_216 rfl ?_
      refine mm_iadd dX9_toRow_218 ?_
      refine mm_iload (j := 6) dX9_toRow_219 rfl ?_
      obtain ⟨hs28, hf⟩ := mm_sh_s hf
      obtain ⟨q29, hq29, hf⟩ := mm_on_s hf
      refine mm_callVi cd_ok (kX9_cellAt a0 x1 0 (((x3 - x4) + 1) + x5) x6 hq29) hs28 rfl (Or.inl tw_970) cdX9_cellAt tw_972 ts_36 nmX9_cellAt rfl rfl (by simp only [List.map_cons, List.map_nil, mm_rf_cat]; exact Nat.le_of_ble_eq_true rfl) dX9_toRow_221 ⟨Nat.le_of_ble_eq_true rfl, Nat.le_of_ble_eq_true rfl⟩ ⟨Nat.le_of_ble_eq_true rfl, Nat.le_of_ble_eq_true rfl⟩ ?_
      refine mm_istore (L' := [(7, .int q29.1), (0, .ref a0), (1, .int x1), (2, .int x2), (3, .int x3), (4, .int x4), (5, .int x5), (6, .int x6)]) dX9_toRow_224 (by decide) rfl ?_
      refine mm_aload_n (j := 1) dX9_toRow_226 rfl rfl ?_
      obtain ⟨hs30, hf⟩ := mm_sh_s hf
      refine mm_get (c := 9) (k := 1) (v := va_rf (mm_R q29.2 a0 1)) cd_ok ⟨_, _, _, rfl, by decide, Or.inl tw_795⟩ hs30 rfl dX9_toRow_227 ?_
      refine mm_iload (j := 0) dX9_toRow_230 rfl ?_
      refine mm_aload_n (j := 1) dX9_toRow_232 rfl rfl ?_
      refine mm_get (c := 9) (k := 42) (v := va_rf (mm_R q29.2 a0 42)) cd_ok ⟨_, _, _, rfl, by decide, Or.inl tw_836⟩ hs30 rfl dX9_toRow_233 ?_
      refine mm_bipush (v := 32) dX9_toRow_236 (by decide) ?_
      refine mm_iload (j := 6) dX9_toRow_238 rfl ?_
      refine mm_imul dX9_toRow_240 ?_
      refine mm_iload (j := 7) dX9_toRow_241 rfl ?_
      refine mm_iadd dX9_toRow_243 ?_
      obtain ⟨q31, hq31, hf⟩ := mm_on_s hf
      rw [hq31, mm_rf_some]
      obtain ⟨n32, hn32, hf⟩ := mm_ar_s hf
      obtain ⟨hi33, hf⟩ := mm_ib_s hf
      refine mm_iald hn32 rfl hi33 dX9_toRow_244 ?_
      obtain ⟨q34, hq34, hf⟩ := mm_on_s hf
      rw [hq34, mm_rf_some]
      obtain ⟨n35, hn35, hf⟩ := mm_ar_s hf
      obtain ⟨hi36, hf⟩ := mm_ib_s hf
      refine mm_iast hn35 rfl hi36 dX9_toRow_245 ?_
      refine mm_aload_n (j := 1) dX9_toRow_246 rfl rfl ?_
      refine mm_get (c := 9) (k := 2) (v := va_rf (mm_R (mm_wI q29.2 q34 (q29.1.toNatClampNeg) (mm_I q29.2 q31 ((32 * x5) + x6).toNatClampNeg)) a0 2)) cd_ok ⟨_, _, _, rfl, by decide, Or.inl tw_796⟩ hs30 rfl dX9_toRow_247 ?_
      refine mm_iload (j := 0) dX9_toRow_250 rfl ?_
      refine mm_aload_n (j := 1) dX9_toRow_252 rfl rfl ?_
      refine mm_get (c := 9) (k := 43) (v := va_rf (mm_R (mm_wI q29.2 q34 (q29.1.toNatClampNeg) (mm_I q29.2 q31 ((32 * x5) + x6).toNatClampNeg)) a0 43)) cd_ok ⟨_, _, _, rfl, by decide, Or.inl tw_837⟩ hs30 rfl dX9_toRow_253 ?_
      refine mm_bipush (v := 32) dX9_toRow_256 (by decide) ?_
      refine mm_iload (j := 6) dX9_toRow_258 rfl ?_
      refine mm_imul dX9_toRow_260 ?_
      refine mm_iload (j := 7) dX9_toRow_261 rfl ?_
      refine mm_iadd dX9_toRow_263 ?_
      obtain ⟨q37, hq37, hf⟩ := mm_on_s hf
      rw [hq37, mm_rf_some]
      obtain ⟨n38, hn38, hf⟩ := mm_ar_s hf
      obtain ⟨hi39, hf⟩ := mm_ib_s hf
      refine mm_iald hn38 rfl hi39 dX9_toRow_264 ?_
      obtain ⟨q40, hq40, hf⟩ := mm_on_s hf
      rw [hq40, mm_rf_some]
      obtain ⟨n41, hn41, hf⟩ := mm_ar_s hf
      obtain ⟨hi42, hf⟩ := mm_ib_s hf
      refine mm_iast hn41 rfl hi42 dX9_toRow_265 ?_
      refine mm_iinc (j := 7) (L' := [(6, .int (x6 + 1)), (7, .int q29.1), (0, .ref a0), (1, .int x1), (2, .int x2), (3, .int x3), (4, .int x4), (5, .int x5)]) dX9_toRow_266 rfl rfl (by decide) rfl ?_
      refine mm_goto (tgt := 200) dX9_toRow_269 (by decide) ?_
      refine mm_sub [2, 3, 4, 5, 6, 7, 0] rfl ?_
      exact ih a0 x1 x2 x3 x4 x5 (x6 + 1) (mm_wI (mm_wI q29.2 q34 (q29.1.toNatClampNeg) (mm_I q29.2 q31 ((32 * x5) + x6).toNatClampNeg)) q40 (q29.1.toNatClampNeg) (mm_I (mm_wI q29.2 q34 (q29.1.toNatClampNeg) (mm_I q29.2 q31 ((32 * x5) + x6).toNatClampNeg)) q37 ((32 * x5) + x6).toNatClampNeg)) hf
set_option maxHeartbeats 4000000 in
set_option maxRecDepth 100000 in
theorem kX9_toRow_190 {G : mm_G} {A : Nat → Prop} {ini : Bool}  {R : mm_M}  : ∀ (a0 : Nat) (x1 : Int32) (x2 : Int32) (x3 : Int32) (x4 : Int32) (x5 : Int32) (σ : mm_M), fX9_toRow_190  mm_fuel a0 x1 x2 x3 x4 x5 σ = some R → mm_J cd_Y G RX9 cX9_toRow 9 none ini rmX9_toRow A (mm_QF cd_Y G A (mm_Pv R) rmX9_toRow.cells rmX9_toRow.slots) 190 [(0, .ref a0), (1, .int x1), (2, .int x2), (3, .int x3), (4, .int x4), (5, .int x5)] [] σ 0 0 := by
  generalize mm_fuel = n
  induction n with
  | zero => intro a0 x1 x2 x3 x4 x5 σ hf; cases hf
  | succ n ih =>
    intro a0 x1 x2 x3 x4 x5 σ hf
    unfold fX9_toRow_190 at hf
    refine mm_iload (j := 5) dX9_toRow_190 rfl ?_
    refine mm_iload (j := 4) dX9_toRow_192 rfl ?_
    refine mm_icmp_ge (tgt := 278) dX9_toRow_194 (by decide) (fun c22 => ?_) (fun c22 => ?_)
    · rw [if_pos c22] at hf
      refine mm_aload_n (j := 0) dX9_toRow_278 rfl rfl ?_
      obtain ⟨hs23, hf⟩ := mm_sh_s hf
      refine mm_get (c := 9) (k := 5) (v := va_rf (mm_R σ a0 5)) cd_ok ⟨_, _, _, rfl, by decide, Or.inl tw_799⟩ hs23 rfl dX9_toRow_279 ?_
      refine mm_iload_n (j := 1) dX9_toRow_282 rfl rfl ?_
      refine mm_iload_n (j := 3) dX9_toRow_283 rfl rfl ?_
      obtain ⟨q24, hq24, hf⟩ := mm_on_s hf
      rw [hq24, mm_rf_some]
      obtain ⟨n25, hn25, hf⟩ := mm_ar_s hf
      obtain ⟨hi26, hf⟩ := mm_ib_s hf
      refine mm_iast hn25 rfl hi26 dX9_toRow_284 ?_
      cases hf
      exact mm_vret rfl dX9_toRow_285 ⟨rfl, rfl⟩
    · rw [if_neg c22] at hf
      refine mm_iconst (v := 0) dX9_toRow_197 (by decide) ?_
      refine mm_istore (L' := [(6, .int 0), (0, .ref a0), (1, .int x1), (2, .int x2), (3, .int x3), (4, .int x4), (5, .int x5)]) dX9_toRow_198 (by decide) rfl ?_
      refine mm_sub [1, 2, 3, 4, 5, 6, 0] rfl ?_
      exact kX9_toRow_200 ih a0 x1 x2 x3 x4 x5 0 σ hf
set_option maxHeartbeats 4000000 in
set_option maxRecDepth 100000 in
theorem kX9_toRow_130 {G : mm_G} {A : Nat → Prop} {ini : Bool} {k46 : Nat → Int32 → Int32 → Int32 → Int32 → Int32 → mm_M → Option mm_M} {k72 : Nat → Int32 → Int32 → Int32 → Int32 → Int32 → Int32 → Int32 → mm_M → Option mm_M} {R : mm_M} (hk46 : ∀ a0 x1 x2 x3 x4 x5 σ, k46 a0 x1 x2 x3 x4 x5 σ = some R → mm_J cd_Y G RX9 cX9_toRow 9 none ini rmX9_toRow A (mm_QF cd_Y G A (mm_Pv R) rmX9_toRow.cells rmX9_toRow.slots) 46 [(0, .ref a0), (1, .int x1), (2, .int x2), (3, .int x3), (4, .int x4), (5, .int x5)] [] σ 0 0) (hk72 : ∀ a0 x1 x2 x3 x4 x5 x6 x7 σ, k72 a0 x1 x2 x3 x4 x5 x6 x7 σ = some R → mm_J cd_Y G RX9 cX9_toRow 9 none ini rmX9_toRow A (mm_QF cd_Y G A (mm_Pv R) rmX9_toRow.cells rmX9_toRow.slots) 72 [(0, .ref a0), (1, .int x1), (2, .int x2), (3, .int x3), (4, .int x4), (5, .int x5), (6, .int x6), (7, .int x7)] [] σ 0 0) (a0 : Nat) (x1 : Int32) (x2 : Int32) (x3 : Int32) (x4 : Int32) (x5 : Int32) (x6 : Int32) (x7 : Int32) (x8 : Int32) (y0 : Int32) (y1 : Int32) (y2 : Option Nat) (σ : mm_M) (hf : fX9_toRow_130 k46 k72 a0 x1 x2 x3 x4 x5 x6 x7 x8 y0 y1 y2 σ = some R) : mm_J cd_Y G RX9 cX9_toRow 9 none ini rmX9_toRow A (mm_QF cd_Y G A (mm_Pv R) rmX9_toRow.cells rmX9_toRow.slots) 130 [(0, .ref a0), (1, .int x1), (2, .int x2), (3, .int x3), (4, .int x4), (5, .int x5), (6, .int x6), (7, .int x7), (8, .int x8)] [.int y0, .int y1, va_rf (y2)] σ 0 0 := by
  unfold fX9_toRow_130 at hf
  obtain ⟨q57, hq57, hf⟩ := mm_on_s hf
  rw [hq57, mm_rf_some]
  obtain ⟨n58, hn58, hf⟩ := mm_ar_s hf
  obtain ⟨hi59, hf⟩ := mm_ib_s hf
  refine mm_iast hn58 rfl hi59 dX9_toRow_130 ?_
  refine mm_aload_n (j := 0) dX9_toRow_131 rfl rfl ?_
  obtain ⟨hs60, hf⟩ := mm_sh_s hf
  refine mm_get (c := 9) (k := 43) (v := va_rf (mm_R (mm_wI σ q57 (y1.toNatClampNeg) y0) a0 43)) cd_ok ⟨_, _, _, rfl, by decide, Or.inl tw_837⟩ hs60 rfl dX9_toRow_132 ?_
  refine mm_bipush (v := 32) dX9_toRow_135 (by decide) ?_
  refine mm_iload (j := 5) dX9_toRow_137 rfl ?_
  refine mm_imul dX9_toRow_139 ?_
  refine mm_iload (j := 7) dX9_toRow_140 rfl ?_
  refine mm_iadd dX9_toRow_142 ?_
  refine mm_iload (j := 8) dX9_toRow_143 rfl ?_
  refine mm_iconst (v := (-1)) dX9_toRow_145 (by decide) ?_
  refine mm_icmp_ne (tgt := 153) dX9_toRow_146 (by decide) (fun c61 => ?_) (fun c61 => ?_)
  · rw [if_neg c61] at hf
    refine mm_aload_n (j := 0) dX9_toRow_153 rfl rfl ?_
    refine mm_get (c := 9) (k := 2) (v := va_rf (mm_R (mm_wI σ q57 (y1.toNatClampNeg) y0) a0 2)) cd_ok ⟨_, _, _, rfl, by decide, Or.inl tw_796⟩ hs60 rfl dX9_toRow_154 ?_
    refine mm_iload (j := 8) dX9_toRow_157 rfl ?_
    obtain ⟨q62, hq62, hf⟩ := mm_on_s hf
    rw [hq62, mm_rf_some]
    obtain ⟨n63, hn63, hf⟩ := mm_ar_s hf
    obtain ⟨hi64, hf⟩ := mm_ib_s hf
    refine mm_iald hn63 rfl hi64 dX9_toRow_159 ?_
    obtain ⟨q65, hq65, hf⟩ := mm_on_s hf
    rw [hq65, mm_rf_some]
    obtain ⟨n66, hn66, hf⟩ := mm_ar_s hf
    obtain ⟨hi67, hf⟩ := mm_ib_s hf
    refine mm_iast hn66 rfl hi67 dX9_toRow_160 ?_
    refine mm_iinc (j := 7) (L' := [(7, .int (x7 + 1)), (0, .ref a0), (1, .int x1), (2, .int x2), (3, .int x3), (4, .int x4), (5, .int x5), (6, .int x6), (8, .int x8)]) dX9_toRow_161 rfl rfl (by decide) rfl ?_
    refine mm_goto (tgt := 72) dX9_toRow_164 (by decide) ?_
    refine mm_sub [1, 2, 3, 4, 5, 6, 7, 0] rfl ?_
    exact hk72 a0 x1 x2 x3 x4 x5 x6 (x7 + 1) (mm_wI (mm_wI σ q57 (y1.toNatClampNeg) y0) q65 (((32 * x5) + x7).toNatClampNeg) (mm_I (mm_wI σ q57 (y1.toNatClampNeg) y0) q62 x8.toNatClampNeg)) hf
  · rw [if_pos c61] at hf
    refine mm_iconst (v := 0) dX9_toRow_149 (by decide) ?_
    refine mm_goto (tgt := 160) dX9_toRow_150 (by decide) ?_
    obtain ⟨q68, hq68, hf⟩ := mm_on_s hf
    rw [hq68, mm_rf_some]
    obtain ⟨n69, hn69, hf⟩ := mm_ar_s hf
    obtain ⟨hi70, hf⟩ := mm_ib_s hf
    refine mm_iast hn69 rfl hi70 dX9_toRow_160 ?_
    refine mm_iinc (j := 7) (L' := [(7, .int (x7 + 1)), (0, .ref a0), (1, .int x1), (2, .int x2), (3, .int x3), (4, .int x4), (5, .int x5), (6, .int x6), (8, .int x8)]) dX9_toRow_161 rfl rfl (by decide) rfl ?_
    refine mm_goto (tgt := 72) dX9_toRow_164 (by decide) ?_
    refine mm_sub [1, 2, 3, 4, 5, 6, 7, 0] rfl ?_
    exact hk72 a0 x1 x2 x3 x4 x5 x6 (x7 + 1) (mm_wI (mm_wI σ q57 (y1.toNatClampNeg) y0) q68 (((32 * x5) + x7).toNatClampNeg) 0) hf
set_option maxHeartbeats 4000000 in
set_option maxRecDepth 100000 in
theorem kX9_toRow_99 {G : mm_G} {A : Nat → Prop} {ini : Bool} {k46 : Nat → Int32 → Int32 → Int32 → Int32 → Int32 → mm_M → Option mm_M} {k72 : Nat → Int32 → Int32 → Int32 → Int32 → Int32 → Int32 → Int32 → mm_M → Option mm_M} {R : mm_M} (hk46 : ∀ a0 x1 x2 x3 x4 x5 σ, k46 a0 x1 x2 x3 x4 x5 σ = some R → mm_J cd_Y G RX9 cX9_toRow 9 none ini rmX9_toRow A (mm_QF cd_Y G A (mm_Pv R) rmX9_toRow.cells rmX9_toRow.slots) 46 [(0, .ref a0), (1, .int x1), (2, .int x2), (3, .int x3), (4, .int x4), (5, .int x5)] [] σ 0 0) (hk72 : ∀ a0 x1 x2 x3 x4 x5 x6 x7 σ, k72 a0 x1 x2 x3 x4 x5 x6 x7 σ = some R → mm_J cd_Y G RX9 cX9_toRow 9 none ini rmX9_toRow A (mm_QF cd_Y G A (mm_Pv R) rmX9_toRow.cells rmX9_toRow.slots) 72 [(0, .ref a0), (1, .int x1), (2, .int x2), (3, .int x3), (4, .int x4), (5, .int x5), (6, .int x6), (7, .int x7)] [] σ 0 0) (a0 : Nat) (x1 : Int32) (x2 : Int32) (x3 : Int32) (x4 : Int32) (x5 : Int32) (x6 : Int32) (x7 : Int32) (y0 : Int32) (σ : mm_M) (hf : fX9_toRow_99 k46 k72 a0 x1 x2 x3 x4 x5 x6 x7 y0 σ = some R) : mm_J cd_Y G RX9 cX9_toRow 9 none ini rmX9_toRow A (mm_QF cd_Y G A (mm_Pv R) rmX9_toRow.cells rmX9_toRow.slots) 99 [(0, .ref a0), (1, .int x1), (2, .int x2), (3, .int x3), (4, .int x4), (5, .int x5), (6, .int x6), (7, .int x7)] [.int y0] σ 0 0 := by
  unfold fX9_toRow_99 at hf
  refine mm_istore (L' := [(8, .int y0), (0, .ref a0), (1, .int x1), (2, .int x2), (3, .int x3), (4, .int x4), (5, .int x5), (6, .int x6), (7, .int x7)]) dX9_toRow_99 (by decide) rfl ?_
  refine mm_aload_n (j := 1) dX9_toRow_101 rfl rfl ?_
  obtain ⟨hs52, hf⟩ := mm_sh_s hf
  refine mm_get (c := 9) (k := 42) (v := va_rf (mm_R σ a0 42)) cd_ok ⟨_, _, _, rfl, by decide, Or.inl tw_836⟩ hs52 rfl dX9_toRow_102 ?_
  refine mm_bipush (v := 32) dX9_toRow_105 (by decide) ?_
  refine mm_iload (j := 6) dX9_toRow_107 rfl ?_
  refine mm_imul dX9_toRow_109 ?_
  refine mm_iload (j := 8) dX9_toRow_110 rfl ?_
  refine mm_iadd dX9_toRow_112 ?_
  refine mm_iload (j := 0) dX9_toRow_113 rfl ?_
  refine mm_iconst (v := (-1)) dX9_toRow_115 (by decide) ?_
  refine mm_icmp_ne (tgt := 123) dX9_toRow_116 (by decide) (fun c53 => ?_) (fun c53 => ?_)
  · rw [if_neg c53] at hf
    refine mm_aload_n (j := 1) dX9_toRow_123 rfl rfl ?_
    refine mm_get (c := 9) (k := 1) (v := va_rf (mm_R σ a0 1)) cd_ok ⟨_, _, _, rfl, by decide, Or.inl tw_795⟩ hs52 rfl dX9_toRow_124 ?_
    refine mm_iload (j := 0) dX9_toRow_127 rfl ?_
    obtain ⟨q54, hq54, hf⟩ := mm_on_s hf
    rw [hq54, mm_rf_some]
    obtain ⟨n55, hn55, hf⟩ := mm_ar_s hf
    obtain ⟨hi56, hf⟩ := mm_ib_s hf
    refine mm_iald hn55 rfl hi56 dX9_toRow_129 ?_
    refine mm_sub [1, 2, 3, 4, 5, 6, 7, 8, 0] rfl ?_
    exact kX9_toRow_130 hk46 hk72 a0 x1 x2 x3 x4 x5 x6 x7 y0 (mm_I σ q54 y0.toNatClampNeg) ((32 * x5) + x7) (mm_R σ a0 42) σ hf
  · rw [if_pos c53] at hf
    refine mm_iconst (v := 0) dX9_toRow_119 (by decide) ?_
    refine mm_goto (tgt := 130) dX9_toRow_120 (by decide) ?_
    refine mm_sub [1, 2, 3, 4, 5, 6, 7, 8, 0] rfl ?_
    exact kX9_toRow_130 hk46 hk72 a0 x1 x2 x3 x4 x5 x6 x7 y0 0 ((32 * x5) + x7) (mm_R σ a0 42) σ hf
set_option maxHeartbeats 4000000 in
set_option maxRecDepth 100000 in
theorem kX9_toRow_72 {G : mm_G} {A : Nat → Prop} {ini : Bool} {k46 : Nat → Int32 → Int32 → Int32 → Int32 → Int32 → mm_M → Option mm_M} {R : mm_M} (hk46 : ∀ a0 x1 x2 x3 x4 x5 σ, k46 a0 x1 x2 x3 x4 x5 σ = some R → mm_J cd_Y G RX9 cX9_toRow 9 none ini rmX9_toRow A (mm_QF cd_Y G A (mm_Pv R) rmX9_toRow.cells rmX9_toRow.slots) 46 [(0, .ref a0), (1, .int x1), (2, .int x2), (3, .int x3), (4, .int x4), (5, .int x5)] [] σ 0 0) : ∀ (a0 : Nat) (x1 : Int32) (x2 : Int32) (x3 : Int32) (x4 : Int32) (x5 : Int32) (x6 : Int32) (x7 : Int32) (σ : mm_M), fX9_toRow_72 k46 mm_fuel a0 x1 x2 x3 x4 x5 x6 x7 σ = some R → mm_J cd_Y G RX9 cX9_toRow 9 none ini rmX9_toRow A (mm_QF cd_Y G A (mm_Pv R) rmX9_toRow.cells rmX9_toRow.slots) 72 [(0, .ref a0), (1, .int x1), (2, .int x2), (3, .int x3), (4, .int x4), (5, .int x5), (6, .int x6), (7, .int x7)] [] σ 0 0 := by
  generalize mm_fuel = n
  induction n with
  | zero => intro a0 x1 x2 x3 x4 x5 x6 x7 σ hf; cases hf
  | succ n ih =>
    intro a0 x1 x2 x3 x4 x5 x6 x7 σ hf
    unfold fX9_toRow_72 at hf
    refine mm_iload (j := 7) dX9_toRow_72 rfl ?_
    refine mm_bipush (v := 32) dX9_toRow_74 (by decide) ?_
    refine mm_icmp_ge (tgt := 167) dX9_toRow_76 (by decide) (fun c47 => ?_) (fun c47 => ?_)
    · rw [if_pos c47] at hf
      refine mm_iload (j := 6) dX9_toRow_167 rfl ?_
      refine mm_iconst (v := 1) dX9_toRow_169 (by decide) ?_
      refine mm_icmp_lt (tgt := 181) dX9_toRow_170 (by decide) (fun c48 => ?_) (fun c48 => ?_)
      · rw [if_pos c48] at hf
        refine mm_iinc (j := 5) (L' := [(5, .int (x5 + 1)), (0, .ref a0), (1, .int x1), (2, .int x2), (3, .int x3), (4, .int x4), (6, .int x6), (7, .int x7)]) dX9_toRow_181 rfl rfl (by decide) rfl ?_
        refine mm_goto (tgt := 46) dX9_toRow_184 (by decide) ?_
        refine mm_sub [1, 2, 3, 4, 5, 0] rfl ?_
        exact hk46 a0 x1 x2 x3 x4 (x5 + 1) σ hf
      · rw [if_neg c48] at hf
        refine mm_aload_n (j := 0) dX9_toRow_173 rfl rfl ?_
        refine mm_iload_n (j := 1) dX9_toRow_174 rfl rfl ?_
        refine mm_iconst (v := 0) dX9_toRow_175 (by decide) ?_
        refine mm_iload (j := 6) dX9_toRow_176 rfl ?_
        obtain ⟨hs49, hf⟩ := mm_sh_s hf
        obtain ⟨q50, hq50, hf⟩ := mm_on_s hf
        refine mm_callVv cd_ok (kX9_clearRow a0 x1 0 x6 hq50) hs49 rfl (Or.inl tw_974) cdX9_clearRow tw_976 ts_37 nmX9_clearRow rfl rfl (by simp only [List.map_cons, List.map_nil, mm_rf_cat]; exact Nat.le_of_ble_eq_true rfl) dX9_toRow_178 ⟨Nat.le_of_ble_eq_true rfl, Nat.le_of_ble_eq_true rfl⟩ ⟨Nat.le_of_ble_eq_true rfl, Nat.le_of_ble_eq_true rfl⟩ ?_
        refine mm_iinc (j := 5) (L' := [(5, .int (x5 + 1)), (0, .ref a0), (1, .int x1), (2, .int x2), (3, .int x3), (4, .int x4), (6, .int x6), (7, .int x7)]) dX9_toRow_181 rfl rfl (by decide) rfl ?_
        refine mm_goto (tgt := 46) dX9_toRow_184 (by decide) ?_
        refine mm_sub [1, 2, 3, 4, 5, 0] rfl ?_
        exact hk46 a0 x1 x2 x3 x4 (x5 + 1) q50 hf
    · rw [if_neg c47] at hf
      refine mm_iload (j := 6) dX9_toRow_79 rfl ?_
      refine mm_iconst (v := 1) dX9_toRow_81 (by decide) ?_
      refine mm_icmp_lt (tgt := 98) dX9_toRow_82 (by decide) (fun c51 => ?_) (fun c51 => ?_)
      · rw [if_pos c51] at hf
        refine mm_iconst (v := (-1)) dX9_toRow_98 (by decide) ?_
        refine mm_sub [0, 1, 2, 3, 4, 5, 6, 7] rfl ?_
        exact kX9_toRow_99 hk46 ih a0 x1 x2 x3 x4 x5 x6 x7 (-1) σ hf
      · rw [if_neg c51] at hf
        refine mm_aload_n (j := 0) dX9_toRow_85 rfl rfl ?_
        refine mm_iload_n (j := 1) dX9_toRow_86 rfl rfl ?_
        refine mm_iconst (v := 0) dX9_toRow_87 (by decide) ?_
        refine mm_iload (j := 6) dX9_toRow_88 rfl ?_
        refine mm_iload (j := 7) dX9_toRow_90 rfl ?_
        obtain ⟨hs71, hf⟩ := mm_sh_s hf
        obtain ⟨q72, hq72, hf⟩ := mm_on_s hf
        refine mm_callVi cd_ok (kX9_cellAt a0 x1 0 x6 x7 hq72) hs71 rfl (Or.inl tw_970) cdX9_cellAt tw_972 ts_36 nmX9_cellAt rfl rfl (by simp only [List.map_cons, List.map_nil, mm_rf_cat]; exact Nat.le_of_ble_eq_true rfl) dX9_toRow_92 ⟨Nat.le_of_ble_eq_true rfl, Nat.le_of_ble_eq_true rfl⟩ ⟨Nat.le_of_ble_eq_true rfl, Nat.le_of_ble_eq_true rfl⟩ ?_
        refine mm_goto (tgt := 99) dX9_toRow_95 (by decide) ?_
        refine mm_sub [0, 1, 2, 3, 4, 5, 6, 7] rfl ?_
        exact kX9_toRow_99 hk46 ih a0 x1 x2 x3 x4 x5 x6 x7 q72.1 q72.2 hf
set_option maxHeartbeats 4000000 in
set_option maxRecDepth 100000 in
theorem kX9_toRow_46 {G : mm_G} {A : Nat → Prop} {ini : Bool}  {R : mm_M}  : ∀ (a0 : Nat) (x1 : Int32) (x2 : Int32) (x3 : Int32) (x4 : Int32) (x5 : Int32) (σ : mm_M), fX9_toRow_46  mm_fuel a0 x1 x2 x3 x4 x5 σ = some R → mm_J cd_Y G RX9 cX9_toRow 9 none ini rmX9_toRow A (mm_QF cd_Y G A (mm_Pv R) rmX9_toRow.cells rmX9_toRow.slots) 46 [(0, .ref a0), (1, .int x1), (2, .int x2), (3, .int x3), (4, .int x4), (5, .int x5)] [] σ 0 0 := by
  generalize mm_fuel = n
  induction n with
  | zero => intro a0 x1 x2 x3 x4 x5 σ hf; cases hf
  | succ n ih =>
    intro a0 x1 x2 x3 x4 x5 σ hf
    unfold fX9_toRow_46 at hf
    refine mm_iload (j := 5) dX9_toRow_46 rfl ?_
    refine mm_iload (j := 4) dX9_toRow_48 rfl ?_
    refine mm_icmp_ge (tgt := 187) dX9_toRow_50 (by decide) (fun c21 => ?_) (fun c21 => ?_)
    · rw [if_pos c21] at hf
      refine mm_iconst (v := 0) dX9_toRow_187 (by decide) ?_
      refine mm_istore (L' := [(5, .int 0), (0, .ref a0), (1, .int x1), (2, .int x2), (3, .int x3), (4, .int x4)]) dX9_toRow_188 (by decide) rfl ?_
      refine mm_sub [1, 2, 3, 4, 5, 0] rfl ?_
      exact kX9_toRow_190  a0 x1 x2 x3 x4 0 σ hf
    · rw [if_neg c21] at hf
      refine mm_aload_n (j := 0) dX9_toRow_53 rfl rfl ?_
      obtain ⟨hs43, hf⟩ := mm_sh_s hf
      refine mm_get (c := 9) (k := 5) (v := va_rf (mm_R σ a0 5)) cd_ok ⟨_, _, _, rfl, by decide, Or.inl tw_799⟩ hs43 rfl dX9_toRow_54 ?_
      refine mm_iload_n (j := 1) dX9_toRow_57 rfl rfl ?_
      obtain ⟨q44, hq44, hf⟩ := mm_on_s hf
      rw [hq44, mm_rf_some]
      obtain ⟨n45, hn45, hf⟩ := mm_ar_s hf
      obtain ⟨hi46, hf⟩ := mm_ib_s hf
      refine mm_iald hn45 rfl hi46 dX9_toRow_58 ?_
      refine mm_iload (j := 4) dX9_toRow_59 rfl ?_
      refine mm_isub dX9_toRow_61 ?_
      refine mm_iconst (v := 1) dX9_toRow_62 (by decide) ?_
      refine mm_iadd dX9_toRow_63 ?_
      refine mm_iload (j := 5) dX9_toRow_64 rfl ?_
      refine mm_iadd dX9_toRow_66 ?_
      refine mm_istore (L' := [(6, .int ((((mm_I σ q44 x1.toNatClampNeg) - x4) + 1) + x5)), (0, .ref a0), (1, .int x1), (2, .int x2), (3, .int x3), (4, .int x4), (5, .int x5)]) dX9_toRow_67 (by decide) rfl ?_
      refine mm_iconst (v := 0) dX9_toRow_69 (by decide) ?_
      refine mm_istore (L' := [(7, .int 0), (6, .int ((((mm_I σ q44 x1.toNatClampNeg) - x4) + 1) + x5)), (0, .ref a0), (1, .int x1), (2, .int x2), (3, .int x3), (4, .int x4), (5, .int x5)]) dX9_toRow_70 (by decide) rfl ?_
      refine mm_sub [2, 3, 4, 5, 6, 7, 1, 0] rfl ?_
      exact kX9_toRow_72 ih a0 x1 x2 x3 x4 x5 ((((mm_I σ q44 x1.toNatClampNeg) - x4) + 1) + x5) 0 σ hf
set_option maxHeartbeats 4000000 in
set_option maxRecDepth 100000 in
theorem kX9_toRow_32 {G : mm_G} {A : Nat → Prop} {ini : Bool}  {R : mm_M}  (a0 : Nat) (x1 : Int32) (x2 : Int32) (x3 : Int32) (x4 : Int32) (y0 : Int32) (σ : mm_M) (hf : fX9_toRow_32  a0 x1 x2 x3 x4 y0 σ = some R) : mm_J cd_Y G RX9 cX9_toRow 9 none ini rmX9_toRow A (mm_QF cd_Y G A (mm_Pv R) rmX9_toRow.cells rmX9_toRow.slots) 32 [(0, .ref a0), (1, .int x1), (2, .int x2), (3, .int x3), (4, .int x4)] [.int y0] σ 0 0 := by
  unfold fX9_toRow_32 at hf
  refine mm_istore_n (L' := [(3, .int y0), (0, .ref a0), (1, .int x1), (2, .int x2), (4, .int x4)]) dX9_toRow_32 rfl (by decide) rfl ?_
  refine mm_iload_n (j := 0) dX9_toRow_33 rfl rfl ?_
  refine mm_aload_n (j := 1) dX9_toRow_34 rfl rfl ?_
  obtain ⟨hs13, hf⟩ := mm_sh_s hf
  refine mm_get (c := 9) (k := 5) (v := va_rf (mm_R σ a0 5)) cd_ok ⟨_, _, _, rfl, by decide, Or.inl tw_799⟩ hs13 rfl dX9_toRow_35 ?_
  refine mm_iload_n (j := 2) dX9_toRow_38 rfl rfl ?_
  obtain ⟨q14, hq14, hf⟩ := mm_on_s hf
  rw [hq14, mm_rf_some]
  obtain ⟨n15, hn15, hf⟩ := mm_ar_s hf
  obtain ⟨hi16, hf⟩ := mm_ib_s hf
  refine mm_iald hn15 rfl hi16 dX9_toRow_39 ?_
  refine mm_icmp_eq (tgt := 278) dX9_toRow_40 (by decide) (fun c17 => ?_) (fun c17 => ?_)
  · rw [if_pos c17] at hf
    refine mm_aload_n (j := 1) dX9_toRow_278 rfl rfl ?_
    refine mm_get (c := 9) (k := 5) (v := va_rf (mm_R σ a0 5)) cd_ok ⟨_, _, _, rfl, by decide, Or.inl tw_799⟩ hs13 rfl dX9_toRow_279 ?_
    refine mm_iload_n (j := 2) dX9_toRow_282 rfl rfl ?_
    refine mm_iload_n (j := 0) dX9_toRow_283 rfl rfl ?_
    obtain ⟨q18, hq18, hf⟩ := mm_on_s hf
    rw [hq18, mm_rf_some]
    obtain ⟨n19, hn19, hf⟩ := mm_ar_s hf
    obtain ⟨hi20, hf⟩ := mm_ib_s hf
    refine mm_iast hn19 rfl hi20 dX9_toRow_284 ?_
    cases hf
    exact mm_vret rfl dX9_toRow_285 ⟨rfl, rfl⟩
  · rw [if_neg c17] at hf
    refine mm_iconst (v := 0) dX9_toRow_43 (by decide) ?_
    refine mm_istore (L' := [(5, .int 0), (3, .int y0), (0, .ref a0), (1, .int x1), (2, .int x2), (4, .int x4)]) dX9_toRow_44 (by decide) rfl ?_
    refine mm_sub [2, 3, 4, 1, 5, 0] rfl ?_
    exact kX9_toRow_46  a0 x1 x2 y0 x4 0 σ hf
set_option maxHeartbeats 4000000 in
set_option maxRecDepth 100000 in
theorem kX9_toRow {G : mm_G} {A : Nat → Prop} (p0 : Nat) (p1 : Int32) (p2 : Int32) {σ : mm_M} {R : mm_M} (hf : fX9_toRow p0 p1 p2 σ = some R) : mm_C cd_Y G yX9_toRow cX9_toRow 9 none rmX9_toRow A [.ref p0, .int p1, .int p2] σ (mm_Pv R) := by
  refine mm_C.of (by decide) (Nat.le_of_ble_eq_true rfl) ?_
  unfold fX9_toRow at hf
  have e0 : lv_args 0 [.ref p0, .int p1, .int p2] = [(0, .ref p0), (1, .int p1), (2, .int p2)] := rfl
  rw [e0]
  generalize hini : (yX9_toRow.name == "<init>") = ini
  clear e0
  clear hini
  refine mm_iload_n (j := 2) dX9_toRow_0 rfl rfl ?_
  refine mm_istore_n (L' := [(3, .int p2), (0, .ref p0), (1, .int p1), (2, .int p2)]) dX9_toRow_1 rfl (by decide) rfl ?_
  refine mm_aload_n (j := 1) dX9_toRow_2 rfl rfl ?_
  obtain ⟨hs1, hf⟩ := mm_sh_s hf
  refine mm_get (c := 9) (k := 4) (v := va_rf (mm_R σ p0 4)) cd_ok ⟨_, _, _, rfl, by decide, Or.inl tw_798⟩ hs1 rfl dX9_toRow_3 ?_
  refine mm_iload_n (j := 2) dX9_toRow_6 rfl rfl ?_
  obtain ⟨q2, hq2, hf⟩ := mm_on_s hf
  rw [hq2, mm_rf_some]
  obtain ⟨n3, hn3, hf⟩ := mm_ar_s hf
  obtain ⟨hi4, hf⟩ := mm_ib_s hf
  refine mm_iald hn3 rfl hi4 dX9_toRow_7 ?_
  refine mm_iconst (v := 2) dX9_toRow_8 (by decide) ?_
  refine mm_icmp_ne (tgt := 278) dX9_toRow_9 (by decide) (fun c5 => ?_) (fun c5 => ?_)
  · rw [if_neg c5] at hf
    refine mm_aload_n (j := 1) dX9_toRow_278 rfl rfl ?_
    refine mm_get (c := 9) (k := 5) (v := va_rf (mm_R σ p0 5)) cd_ok ⟨_, _, _, rfl, by decide, Or.inl tw_799⟩ hs1 rfl dX9_toRow_279 ?_
    refine mm_iload_n (j := 2) dX9_toRow_282 rfl rfl ?_
    refine mm_iload_n (j := 0) dX9_toRow_283 rfl rfl ?_
    obtain ⟨q6, hq6, hf⟩ := mm_on_s hf
    rw [hq6, mm_rf_some]
    obtain ⟨n7, hn7, hf⟩ := mm_ar_s hf
    obtain ⟨hi8, hf⟩ := mm_ib_s hf
    refine mm_iast hn7 rfl hi8 dX9_toRow_284 ?_
    cases hf
    exact mm_vret rfl dX9_toRow_285 ⟨rfl, rfl⟩
  · rw [if_pos c5] at hf
    refine mm_aload_n (j := 1) dX9_toRow_12 rfl rfl ?_
    refine mm_get (c := 9) (k := 8) (v := va_rf (mm_R σ p0 8)) cd_ok ⟨_, _, _, rfl, by decide, Or.inl tw_802⟩ hs1 rfl dX9_toRow_13 ?_
    refine mm_iload_n (j := 2) dX9_toRow_16 rfl rfl ?_
    obtain ⟨q9, hq9, hf⟩ := mm_on_s hf
    rw [hq9, mm_rf_some]
    obtain ⟨n10, hn10, hf⟩ := mm_ar_s hf
    obtain ⟨hi11, hf⟩ := mm_ib_s hf
    refine mm_iald hn10 rfl hi11 dX9_toRow_17 ?_
    refine mm_istore (L' := [(4, .int (mm_I σ q9 p1.toNatClampNeg)), (3, .int p2), (0, .ref p0), (1, .int p1), (2, .int p2)]) dX9_toRow_18 (by decide) rfl ?_
    refine mm_iload_n (j := 4) dX9_toRow_20 rfl rfl ?_
    refine mm_iload (j := 0) dX9_toRow_21 rfl ?_
    refine mm_icmp_ge (tgt := 31) dX9_toRow_23 (by decide) (fun c12 => ?_) (fun c12 => ?_)
    · rw [if_pos c12] at hf
      refine mm_iload_n (j := 4) dX9_toRow_31 rfl rfl ?_
      refine mm_sub [2, 3, 4, 1, 0] rfl ?_
      exact kX9_toRow_32  p0 p1 p2 p2 (mm_I σ q9 p1.toNatClampNeg) p2 σ hf
    · rw [if_neg c12] at hf
      refine mm_iload (j := 0) dX9_toRow_26 rfl ?_
      refine mm_goto (tgt := 32) dX9_toRow_28 (by decide) ?_
      refine mm_sub [2, 3, 4, 1, 0] rfl ?_
      exact kX9_toRow_32  p0 p1 p2 p2 (mm_I σ q9 p1.toNatClampNeg) (mm_I σ q9 p1.toNatClampNeg) σ hf
theorem dX9_rowCode_0 : decode cX9_rowCode 0 = .ok (.aload_n 0, 1) := by decide +kernel
theorem dX9_rowCode_1 : decode cX9_rowCode 1 = .ok (.iload_n 1, 1) := by decide +kernel
theorem dX9_rowCode_2 : decode cX9_rowCode 2 = .ok (.invokevirtual 136, 3) := by decide +kernel
theorem dX9_rowCode_5 : decode cX9_rowCode 5 = .ok (.iconst (-1), 1) := by decide +kernel
theorem dX9_rowCode_6 : decode cX9_rowCode 6 = .ok (.if_icmp .ne 4, 3) := by decide +kernel
theorem dX9_rowCode_9 : decode cX9_rowCode 9 = .ok (.return_, 1) := by decide +kernel
theorem dX9_rowCode_10 : decode cX9_rowCode 10 = .ok (.aload_n 0, 1) := by decide +kernel
theorem dX9_rowCode_11 : decode cX9_rowCode 11 = .ok (.iload_n 1, 1) := by decide +kernel
theorem dX9_rowCode_12 : decode cX9_rowCode 12 = .ok (.iload_n 2, 1) := by decide +kernel
theorem dX9_rowCode_13 : decode cX9_rowCode 13 = .ok (.invokestatic 140, 3) := by decide +kernel
theorem dX9_rowCode_16 : decode cX9_rowCode 16 = .ok (.iload_n 3, 1) := by decide +kernel
theorem dX9_rowCode_17 : decode cX9_rowCode 17 = .ok (.bipush 32, 2) := by decide +kernel
theorem dX9_rowCode_19 : decode cX9_rowCode 19 = .ok (.iand, 1) := by decide +kernel
theorem dX9_rowCode_20 : decode cX9_rowCode 20 = .ok (.ifCond .le 7, 3) := by decide +kernel
theorem dX9_rowCode_23 : decode cX9_rowCode 23 = .ok (.iconst 1, 1) := by decide +kernel
theorem dX9_rowCode_24 : decode cX9_rowCode 24 = .ok (.goto 4, 3) := by decide +kernel
theorem dX9_rowCode_27 : decode cX9_rowCode 27 = .ok (.iconst 0, 1) := by decide +kernel
theorem dX9_rowCode_28 : decode cX9_rowCode 28 = .ok (.iadd, 1) := by decide +kernel
theorem dX9_rowCode_29 : decode cX9_rowCode 29 = .ok (.invokevirtual 143, 3) := by decide +kernel
theorem dX9_rowCode_32 : decode cX9_rowCode 32 = .ok (.iload_n 3, 1) := by decide +kernel
theorem dX9_rowCode_33 : decode cX9_rowCode 33 = .ok (.iconst 2, 1) := by decide +kernel
theorem dX9_rowCode_34 : decode cX9_rowCode 34 = .ok (.idiv, 1) := by decide +kernel
theorem dX9_rowCode_35 : decode cX9_rowCode 35 = .ok (.bipush 16, 2) := by decide +kernel
theorem dX9_rowCode_37 : decode cX9_rowCode 37 = .ok (.irem, 1) := by decide +kernel
theorem dX9_rowCode_38 : decode cX9_rowCode 38 = .ok (.istore 4, 2) := by decide +kernel
theorem dX9_rowCode_40 : decode cX9_rowCode 40 = .ok (.aload_n 0, 1) := by decide +kernel
theorem dX9_rowCode_41 : decode cX9_rowCode 41 = .ok (.getfield 28, 3) := by decide +kernel
theorem dX9_rowCode_44 : decode cX9_rowCode 44 = .ok (.iload_n 1, 1) := by decide +kernel
theorem dX9_rowCode_45 : decode cX9_rowCode 45 = .ok (.iload 4, 2) := by decide +kernel
theorem dX9_rowCode_47 : decode cX9_rowCode 47 = .ok (.bipush 8, 2) := by decide +kernel
theorem dX9_rowCode_49 : decode cX9_rowCode 49 = .ok (.if_icmp .ge 8, 3) := by decide +kernel
theorem dX9_rowCode_52 : decode cX9_rowCode 52 = .ok (.iload 4, 2) := by decide +kernel
theorem dX9_rowCode_54 : decode cX9_rowCode 54 = .ok (.goto 4, 3) := by decide +kernel
theorem dX9_rowCode_57 : decode cX9_rowCode 57 = .ok (.iconst 0, 1) := by decide +kernel
theorem dX9_rowCode_58 : decode cX9_rowCode 58 = .ok (.iload_n 3, 1) := by decide +kernel
theorem dX9_rowCode_59 : decode cX9_rowCode 59 = .ok (.iconst 2, 1) := by decide +kernel
theorem dX9_rowCode_60 : decode cX9_rowCode 60 = .ok (.irem, 1) := by decide +kernel
theorem dX9_rowCode_61 : decode cX9_rowCode 61 = .ok (.iconst 1, 1) := by decide +kernel
theorem dX9_rowCode_62 : decode cX9_rowCode 62 = .ok (.if_icmp .ne 8, 3) := by decide +kernel
theorem dX9_rowCode_65 : decode cX9_rowCode 65 = .ok (.bipush 8, 2) := by decide +kernel
theorem dX9_rowCode_67 : decode cX9_rowCode 67 = .ok (.goto 4, 3) := by decide +kernel
theorem dX9_rowCode_70 : decode cX9_rowCode 70 = .ok (.iconst 0, 1) := by decide +kernel
theorem dX9_rowCode_71 : decode cX9_rowCode 71 = .ok (.iadd, 1) := by decide +kernel
theorem dX9_rowCode_72 : decode cX9_rowCode 72 = .ok (.iastore, 1) := by decide +kernel
theorem dX9_rowCode_73 : decode cX9_rowCode 73 = .ok (.aload_n 0, 1) := by decide +kernel
theorem dX9_rowCode_74 : decode cX9_rowCode 74 = .ok (.getfield 25, 3) := by decide +kernel
theorem dX9_rowCode_77 : decode cX9_rowCode 77 = .ok (.iload_n 1, 1) := by decide +kernel
theorem dX9_rowCode_78 : decode cX9_rowCode 78 = .ok (.iload 4, 2) := by decide +kernel
theorem dX9_rowCode_80 : decode cX9_rowCode 80 = .ok (.bipush 8, 2) := by decide +kernel
theorem dX9_rowCode_82 : decode cX9_rowCode 82 = .ok (.if_icmp .ge 7, 3) := by decide +kernel
theorem dX9_rowCode_85 : decode cX9_rowCode 85 = .ok (.iconst 0, 1) := by decide +kernel
theorem dX9_rowCode_86 : decode cX9_rowCode 86 = .ok (.goto 10, 3) := by decide +kernel
theorem dX9_rowCode_89 : decode cX9_rowCode 89 = .ok (.iconst 4, 1) := by decide +kernel
theorem dX9_rowCode_90 : decode cX9_rowCode 90 = .ok (.iload 4, 2) := by decide +kernel
theorem dX9_rowCode_92 : decode cX9_rowCode 92 = .ok (.bipush 8, 2) := by decide +kernel
theorem dX9_rowCode_94 : decode cX9_rowCode 94 = .ok (.isub, 1) := by decide +kernel
theorem dX9_rowCode_95 : decode cX9_rowCode 95 = .ok (.imul, 1) := by decide +kernel
theorem dX9_rowCode_96 : decode cX9_rowCode 96 = .ok (.iastore, 1) := by decide +kernel
theorem dX9_rowCode_97 : decode cX9_rowCode 97 = .ok (.return_, 1) := by decide +kernel
theorem nmX9_rowCode : mm_nm yX9_rowCode 3 := ⟨by decide, by decide, by decide +kernel⟩
theorem cdX9_rowCode : mm_cd cd_Y yX9_rowCode cX9_rowCode 5 none := ⟨tw_958, tw_8⟩
abbrev rmX9_rowCode : Room := { frames := 3, cells := 0, slots := 0, locals := 77 }
def fX9_rowCode_71  (a0 : Nat) (x1 : Int32) (x2 : Int32) (x3 : Int32) (x4 : Int32) (y0 : Int32) (y1 : Int32) (y2 : Int32) (y3 : Option Nat) (σ : mm_M) : Option mm_M :=
  mm_on (y3) fun q10 => mm_ar σ q10 0 fun n11 => mm_ib y2 n11 (mm_sh (mm_wI σ q10 (y2.toNatClampNeg) (y1 + y0)) a0 (.inl 9) ((if 8 ≤ x4 then mm_on (mm_R (mm_wI σ q10 (y2.toNatClampNeg) (y1 + y0)) a0 6) fun q15 => mm_ar (mm_wI σ q10 (y2.toNatClampNeg) (y1 + y0)) q15 0 fun n16 => mm_ib x1 n16 (some (mm_wI (mm_wI σ q10 (y2.toNatClampNeg) (y1 + y0)) q15 (x1.toNatClampNeg) (4 * (x4 - 8)))) else mm_on (mm_R (mm_wI σ q10 (y2.toNatClampNeg) (y1 + y0)) a0 6) fun q18 => mm_ar (mm_wI σ q10 (y2.toNatClampNeg) (y1 + y0)) q18 0 fun n19 => mm_ib x1 n19 (some (mm_wI (mm_wI σ q10 (y2.toNatClampNeg) (y1 + y0)) q18 (x1.toNatClampNeg) 0)))))
def fX9_rowCode_58  (a0 : Nat) (x1 : Int32) (x2 : Int32) (x3 : Int32) (x4 : Int32) (y0 : Int32) (y1 : Int32) (y2 : Option Nat) (σ : mm_M) : Option mm_M :=
  (if (x3 - x3 / 2 * 2) = 1 then (fX9_rowCode_71  a0 x1 x2 x3 x4 8 y0 y1 y2 σ) else (fX9_rowCode_71  a0 x1 x2 x3 x4 0 y0 y1 y2 σ))
def fX9_rowCode_28  (a0 : Nat) (x1 : Int32) (x2 : Int32) (x3 : Int32) (y0 : Int32) (y1 : Int32) (y2 : Int32) (y3 : Nat) (σ : mm_M) : Option mm_M :=
  mm_sh σ y3 (.inl 9) (mm_on (fX9_toRow y3 y2 (y1 + y0) σ) fun q6 => mm_sh q6 a0 (.inl 9) ((if 8 ≤ ((x3 / 2) - (x3 / 2) / 16 * 16) then (fX9_rowCode_58  a0 x1 x2 x3 ((x3 / 2) - (x3 / 2) / 16 * 16) 0 x1 (mm_R q6 a0 7) q6) else (fX9_rowCode_58  a0 x1 x2 x3 ((x3 / 2) - (x3 / 2) / 16 * 16) ((x3 / 2) - (x3 / 2) / 16 * 16) x1 (mm_R q6 a0 7) q6))))
def fX9_rowCode (p0 : Nat) (p1 : Int32) (p2 : Int32) (p3 : Int32) (σ : mm_M) : Option mm_M :=
  mm_sh σ p0 (.inl 9) (mm_on (fX9_screenOf p0 p1 σ) fun q2 => (if q2.1 = (-1) then some (q2.2) else (if (p3 &&& 32) ≤ 0 then (fX9_rowCode_28  p0 p1 p2 p3 0 (fX9_rowOf p2) p1 p0 q2.2) else (fX9_rowCode_28  p0 p1 p2 p3 1 (fX9_rowOf p2) p1 p0 q2.2))))
set_option maxHeartbeats 4000000 in
set_option maxRecDepth 100000 in
theorem kX9_rowCode_71 {G : mm_G} {A : Nat → Prop} {ini : Bool}  {R : mm_M}  (a0 : Nat) (x1 : Int32) (x2 : Int32) (x3 : Int32) (x4 : Int32) (y0 : Int32) (y1 : Int32) (y2 : Int32) (y3 : Option Nat) (σ : mm_M) (hf : fX9_rowCode_71  a0 x1 x2 x3 x4 y0 y1 y2 y3 σ = some R) : mm_J cd_Y G RX9 cX9_rowCode 5 none ini rmX9_rowCode A (mm_QF cd_Y G A (mm_Pv R) rmX9_rowCode.cells rmX9_rowCode.slots) 71 [(0, .ref a0), (1, .int x1), (2, .int x2), (3, .int x3), (4, .int x4)] [.int y0, .int y1, .int y2, va_rf (y3)] σ 0 0 := by
  unfold fX9_rowCode_71 at hf
  refine mm_iadd dX9_rowCode_71 ?_
  obtain ⟨q10, hq10, hf⟩ := mm_on_s hf
  rw [hq10, mm_rf_some]
  obtain ⟨n11, hn11, hf⟩ := mm_ar_s hf
  obtain ⟨hi12, hf⟩ := mm_ib_s hf
  refine mm_iast hn11 rfl hi12 dX9_rowCode_72 ?_
  refine mm_aload_n (j := 0) dX9_rowCode_73 rfl rfl ?_
  obtain ⟨hs13, hf⟩ := mm_sh_s hf
  refine mm_get (c := 9) (k := 6) (v := va_rf (mm_R (mm_wI σ q10 (y2.toNatClampNeg) (y1 + y0)) a0 6)) cd_ok ⟨_, _, _, rfl, by decide, Or.inl tw_800⟩ hs13 rfl dX9_rowCode_74 ?_
  refine mm_iload_n (j := 1) dX9_rowCode_77 rfl rfl ?_
  refine mm_iload (j := 4) dX9_rowCode_78 rfl ?_
  refine mm_bipush (v := 8) dX9_rowCode_80 (by decide) ?_
  refine mm_icmp_ge (tgt := 89) dX9_rowCode_82 (by decide) (fun c14 => ?_) (fun c14 => ?_)
  · rw [if_pos c14] at hf
    refine mm_iconst (v := 4) dX9_rowCode_89 (by decide) ?_
    refine mm_iload (j := 4) dX9_rowCode_90 rfl ?_
    refine mm_bipush (v := 8) dX9_rowCode_92 (by decide) ?_
    refine mm_isub dX9_rowCode_94 ?_
    refine mm_imul dX9_rowCode_95 ?_
    obtain ⟨q15, hq15, hf⟩ := mm_on_s hf
    rw [hq15, mm_rf_some]
    obtain ⟨n16, hn16, hf⟩ := mm_ar_s hf
    obtain ⟨hi17, hf⟩ := mm_ib_s hf
    refine mm_iast hn16 rfl hi17 dX9_rowCode_96 ?_
    cases hf
    exact mm_vret rfl dX9_rowCode_97 ⟨rfl, rfl⟩
  · rw [if_neg c14] at hf
    refine mm_iconst (v := 0) dX9_rowCode_85 (by decide) ?_
    refine mm_goto (tgt := 96) dX9_rowCode_86 (by decide) ?_
    obtain ⟨q18, hq18, hf⟩ := mm_on_s hf
    rw [hq18, mm_rf_some]
    obtain ⟨n19, hn19, hf⟩ := mm_ar_s hf
    obtain ⟨hi20, hf⟩ := mm_ib_s hf
    refine mm_iast hn19 rfl hi20 dX9_rowCode_96 ?_
    cases hf
    exact mm_vret rfl dX9_rowCode_97 ⟨rfl, rfl⟩
set_option maxHeartbeats 4000000 in
set_option maxRecDepth 100000 in
theorem kX9_rowCode_58 {G : mm_G} {A : Nat → Prop} {ini : Bool}  {R : mm_M}  (a0 : Nat) (x1 : Int32) (x2 : Int32) (x3 : Int32) (x4 : Int32) (y0 : Int32) (y1 : Int32) (y2 : Option Nat) (σ : mm_M) (hf : fX9_rowCode_58  a0 x1 x2 x3 x4 y0 y1 y2 σ = some R) : mm_J cd_Y G RX9 cX9_rowCode 5 none ini rmX9_rowCode A (mm_QF cd_Y G A (mm_Pv R) rmX9_rowCode.cells rmX9_rowCode.slots) 58 [(0, .ref a0), (1, .int x1), (2, .int x2), (3, .int x3), (4, .int x4)] [.int y0, .int y1, va_rf (y2)] σ 0 0 := by
  unfold fX9_rowCode_58 at hf
  refine mm_iload_n (j := 3) dX9_rowCode_58 rfl rfl ?_
  refine mm_iconst (v := 2) dX9_rowCode_59 (by decide) ?_
  refine mm_irem dX9_rowCode_60 (by decide) ?_
  refine mm_iconst (v := 1) dX9_rowCode_61 (by decide) ?_
  refine mm_icmp_ne (tgt := 70) dX9_rowCode_62 (by decide) (fun c9 => ?_) (fun c9 => ?_)
  · rw [if_neg c9] at hf
    refine mm_iconst (v := 0) dX9_rowCode_70 (by decide) ?_
    refine mm_sub [0, 1, 2, 3, 4] rfl ?_
    exact kX9_rowCode_71  a0 x1 x2 x3 x4 0 y0 y1 y2 σ hf
  · rw [if_pos c9] at hf
    refine mm_bipush (v := 8) dX9_rowCode_65 (by decide) ?_
    refine mm_goto (tgt := 71) dX9_rowCode_67 (by decide) ?_
    refine mm_sub [0, 1, 2, 3, 4] rfl ?_
    exact kX9_rowCode_71  a0 x1 x2 x3 x4 8 y0 y1 y2 σ hf
set_option maxHeartbeats 4000000 in
set_option maxRecDepth 100000 in
theorem kX9_rowCode_28 {G : mm_G} {A : Nat → Prop} {ini : Bool}  {R : mm_M}  (a0 : Nat) (x1 : Int32) (x2 : Int32) (x3 : Int32) (y0 : Int32) (y1 : Int32) (y2 : Int32) (y3 : Nat) (σ : mm_M) (hf : fX9_rowCode_28  a0 x1 x2 x3 y0 y1 y2 y3 σ = some R) : mm_J cd_Y G RX9 cX9_rowCode 5 none ini rmX9_rowCode A (mm_QF cd_Y G A (mm_Pv R) rmX9_rowCode.cells rmX9_rowCode.slots) 28 [(0, .ref a0), (1, .int x1), (2, .int x2), (3, .int x3)] [.int y0, .int y1, .int y2, .ref y3] σ 0 0 := by
  unfold fX9_rowCode_28 at hf
  refine mm_iadd dX9_rowCode_28 ?_
  obtain ⟨hs5, hf⟩ := mm_sh_s hf
  obtain ⟨q6, hq6, hf⟩ := mm_on_s hf
  refine mm_callVv cd_ok (kX9_toRow y3 y2 (y1 + y0) hq6) hs5 rfl (Or.inl tw_966) cdX9_toRow tw_968 ts_35 nmX9_toRow rfl rfl (by simp only [List.map_cons, List.map_nil, mm_rf_cat]; exact Nat.le_of_ble_eq_true rfl) dX9_rowCode_29 ⟨Nat.le_of_ble_eq_true rfl, Nat.le_of_ble_eq_true rfl⟩ ⟨Nat.le_of_ble_eq_true rfl, Nat.le_of_ble_eq_true rfl⟩ ?_
  refine mm_iload_n (j := 3) dX9_rowCode_32 rfl rfl ?_
  refine mm_iconst (v := 2) dX9_rowCode_33 (by decide) ?_
  refine mm_idiv dX9_rowCode_34 (by decide) ?_
  refine mm_bipush (v := 16) dX9_rowCode_35 (by decide) ?_
  refine mm_irem dX9_rowCode_37 (by decide) ?_
  refine mm_istore (L' := [(4, .int ((x3 / 2) - (x3 / 2) / 16 * 16)), (0, .ref a0), (1, .int x1), (2, .int x2), (3, .int x3)]) dX9_rowCode_38 (by decide) rfl ?_
  refine mm_aload_n (j := 1) dX9_rowCode_40 rfl rfl ?_
  obtain ⟨hs7, hf⟩ := mm_sh_s hf
  refine mm_get (c := 9) (k := 7) (v := va_rf (mm_R q6 a0 7)) cd_ok ⟨_, _, _, rfl, by decide, Or.inl tw_801⟩ hs7 rfl dX9_rowCode_41 ?_
  refine mm_iload_n (j := 2) dX9_rowCode_44 rfl rfl ?_
  refine mm_iload (j := 0) dX9_rowCode_45 rfl ?_
  refine mm_bipush (v := 8) dX9_rowCode_47 (by decide) ?_
  refine mm_icmp_ge (tgt := 57) dX9_rowCode_49 (by decide) (fun c8 => ?_) (fun c8 => ?_)
  · rw [if_pos c8] at hf
    refine mm_iconst (v := 0) dX9_rowCode_57 (by decide) ?_
    refine mm_sub [1, 2, 3, 4, 0] rfl ?_
    exact kX9_rowCode_58  a0 x1 x2 x3 ((x3 / 2) - (x3 / 2) / 16 * 16) 0 x1 (mm_R q6 a0 7) q6 hf
  · rw [if_neg c8] at hf
    refine mm_iload (j := 0) dX9_rowCode_52 rfl ?_
    refine mm_goto (tgt := 58) dX9_rowCode_54 (by decide) ?_
    refine mm_sub [1, 2, 3, 4, 0] rfl ?_
    exact kX9_rowCode_58  a0 x1 x2 x3 ((x3 / 2) - (x3 / 2) / 16 * 16) ((x3 / 2) - (x3 / 2) / 16 * 16) x1 (mm_R q6 a0 7) q6 hf
set_option maxHeartbeats 4000000 in
set_option maxRecDepth 100000 in
theorem kX9_rowCode {G : mm_G} {A : Nat → Prop} (p0 : Nat) (p1 : Int32) (p2 : Int32) (p3 : Int32) {σ : mm_M} {R : mm_M} (hf : fX9_rowCode p0 p1 p2 p3 σ = some R) : mm_C cd_Y G yX9_rowCode cX9_rowCode 5 none rmX9_rowCode A [.ref p0, .int p1, .int p2, .int p3] σ (mm_Pv R) := by
  refine mm_C.of (by decide) (Nat.le_of_ble_eq_true rfl) ?_
  unfold fX9_rowCode at hf
  have e0 : lv_args 0 [.ref p0, .int p1, .int p2, .int p3] = [(0, .ref p0), (1, .int p1), (2, .int p2), (3, .int p3)] := rfl
  rw [e0]
  generalize hini : (yX9_rowCode.name == "<init>") = ini
  clear e0
  clear hini
  refine mm_aload_n (j := 0) dX9_rowCode_0 rfl rfl ?_
  refine mm_iload_n (j := 1) dX9_rowCode_1 rfl rfl ?_
  obtain ⟨hs1, hf⟩ := mm_sh_s hf
  obtain ⟨q2, hq2, hf⟩ := mm_on_s hf
  refine mm_callVi cd_ok (kX9_screenOf p0 p1 hq2) hs1 rfl (Or.inl tw_959) cdX9_screenOf tw_961 ts_34 nmX9_screenOf rfl rfl (by simp only [List.map_cons, List.map_nil, mm_rf_cat]; exact Nat.le_of_ble_eq_true rfl) dX9_rowCode_2 ⟨Nat.le_of_ble_eq_true rfl, Nat.le_of_ble_eq_true rfl⟩ ⟨Nat.le_of_ble_eq_true rfl, Nat.le_of_ble_eq_true rfl⟩ ?_
  refine mm_iconst (v := (-1)) dX9_rowCode_5 (by decide) ?_
  refine mm_icmp_ne (tgt := 10) dX9_rowCode_6 (by decide) (fun c3 => ?_) (fun c3 => ?_)
  · rw [if_neg c3] at hf
    refine mm_aload_n (j := 0) dX9_rowCode_10 rfl rfl ?_
    refine mm_iload_n (j := 1) dX9_rowCode_11 rfl rfl ?_
    refine mm_iload_n (j := 2) dX9_rowCode_12 rfl rfl ?_
    refine mm_callSi cd_ok (kX9_rowOf p2 _ rfl) (Or.inl tw_963) cdX9_rowOf tw_964 nmX9_rowOf rfl rfl (by simp only [List.map_cons, List.map_nil, mm_rf_cat]; exact Nat.le_of_ble_eq_true rfl) dX9_rowCode_13 ⟨Nat.le_of_ble_eq_true rfl, Nat.le_of_ble_eq_true rfl⟩ ⟨Nat.le_of_ble_eq_true rfl, Nat.le_of_ble_eq_true rfl⟩ ?_
    refine mm_iload_n (j := 3) dX9_rowCode_16 rfl rfl ?_
    refine mm_bipush (v := 32) dX9_rowCode_17 (by decide) ?_
    refine mm_iand dX9_rowCode_19 ?_
    refine mm_if_le (tgt := 27) dX9_rowCode_20 (by decide) (fun c4 => ?_) (fun c4 => ?_)
    · rw [if_pos c4] at hf
      refine mm_iconst (v := 0) dX9_rowCode_27 (by decide) ?_
      refine mm_sub [0, 1, 2, 3] rfl ?_
      exact kX9_rowCode_28  p0 p1 p2 p3 0 (fX9_rowOf p2) p1 p0 q2.2 hf
    · rw [if_neg c4] at hf
      refine mm_iconst (v := 1) dX9_rowCode_23 (by decide) ?_
      refine mm_goto (tgt := 28) dX9_rowCode_24 (by decide) ?_
      refine mm_sub [0, 1, 2, 3] rfl ?_
      exact kX9_rowCode_28  p0 p1 p2 p3 1 (fX9_rowOf p2) p1 p0 q2.2 hf
  · rw [if_pos c3] at hf
    cases hf
    exact mm_vret rfl dX9_rowCode_9 ⟨rfl, rfl⟩
theorem dX9_roll_0 : decode cX9_roll 0 = .ok (.aload_n 0, 1) := by decide +kernel
theorem dX9_roll_1 : decode cX9_roll 1 = .ok (.getfield 19, 3) := by decide +kernel
theorem dX9_roll_4 : decode cX9_roll 4 = .ok (.iload_n 1, 1) := by decide +kernel
theorem dX9_roll_5 : decode cX9_roll 5 = .ok (.iaload, 1) := by decide +kernel
theorem dX9_roll_6 : decode cX9_roll 6 = .ok (.iconst 2, 1) := by decide +kernel
theorem dX9_roll_7 : decode cX9_roll 7 = .ok (.if_icmp .ne 59, 3) := by decide +kernel
theorem dX9_roll_10 : decode cX9_roll 10 = .ok (.iconst 1, 1) := by decide +kernel
theorem dX9_roll_11 : decode cX9_roll 11 = .ok (.istore_n 3, 1) := by decide +kernel
theorem dX9_roll_12 : decode cX9_roll 12 = .ok (.iload_n 3, 1) := by decide +kernel
theorem dX9_roll_13 : decode cX9_roll 13 = .ok (.aload_n 0, 1) := by decide +kernel
theorem dX9_roll_14 : decode cX9_roll 14 = .ok (.getfield 22, 3) := by decide +kernel
theorem dX9_roll_17 : decode cX9_roll 17 = .ok (.iload_n 1, 1) := by decide +kernel
theorem dX9_roll_18 : decode cX9_roll 18 = .ok (.iaload, 1) := by decide +kernel
theorem dX9_roll_19 : decode cX9_roll 19 = .ok (.iload_n 2, 1) := by decide +kernel
theorem dX9_roll_20 : decode cX9_roll 20 = .ok (.isub, 1) := by decide +kernel
theorem dX9_roll_21 : decode cX9_roll 21 = .ok (.if_icmp .gt 16, 3) := by decide +kernel
theorem dX9_roll_24 : decode cX9_roll 24 = .ok (.aload_n 0, 1) := by decide +kernel
theorem dX9_roll_25 : decode cX9_roll 25 = .ok (.iload_n 1, 1) := by decide +kernel
theorem dX9_roll_26 : decode cX9_roll 26 = .ok (.iconst 0, 1) := by decide +kernel
theorem dX9_roll_27 : decode cX9_roll 27 = .ok (.iload_n 3, 1) := by decide +kernel
theorem dX9_roll_28 : decode cX9_roll 28 = .ok (.invokevirtual 132, 3) := by decide +kernel
theorem dX9_roll_31 : decode cX9_roll 31 = .ok (.iinc 3 1, 3) := by decide +kernel
theorem dX9_roll_34 : decode cX9_roll 34 = .ok (.goto (-22), 3) := by decide +kernel
theorem dX9_roll_37 : decode cX9_roll 37 = .ok (.aload_n 0, 1) := by decide +kernel
theorem dX9_roll_38 : decode cX9_roll 38 = .ok (.getfield 22, 3) := by decide +kernel
theorem dX9_roll_41 : decode cX9_roll 41 = .ok (.iload_n 1, 1) := by decide +kernel
theorem dX9_roll_42 : decode cX9_roll 42 = .ok (.aload_n 0, 1) := by decide +kernel
theorem dX9_roll_43 : decode cX9_roll 43 = .ok (.getfield 22, 3) := by decide +kernel
theorem dX9_roll_46 : decode cX9_roll 46 = .ok (.iload_n 1, 1) := by decide +kernel
theorem dX9_roll_47 : decode cX9_roll 47 = .ok (.iaload, 1) := by decide +kernel
theorem dX9_roll_48 : decode cX9_roll 48 = .ok (.iload_n 2, 1) := by decide +kernel
theorem dX9_roll_49 : decode cX9_roll 49 = .ok (.if_icmp .ge 7, 3) := by decide +kernel
theorem dX9_roll_52 : decode cX9_roll 52 = .ok (.iload_n 2, 1) := by decide +kernel
theorem dX9_roll_53 : decode cX9_roll 53 = .ok (.goto 9, 3) := by decide +kernel
theorem dX9_roll_56 : decode cX9_roll 56 = .ok (.aload_n 0, 1) := by decide +kernel
theorem dX9_roll_57 : decode cX9_roll 57 = .ok (.getfield 22, 3) := by decide +kernel
theorem dX9_roll_60 : decode cX9_roll 60 = .ok (.iload_n 1, 1) := by decide +kernel
theorem dX9_roll_61 : decode cX9_roll 61 = .ok (.iaload, 1) := by decide +kernel
theorem dX9_roll_62 : decode cX9_roll 62 = .ok (.iastore, 1) := by decide +kernel
theorem dX9_roll_63 : decode cX9_roll 63 = .ok (.goto 23, 3) := by decide +kernel
theorem dX9_roll_66 : decode cX9_roll 66 = .ok (.aload_n 0, 1) := by decide +kernel
theorem dX9_roll_67 : decode cX9_roll 67 = .ok (.iload_n 1, 1) := by decide +kernel
theorem dX9_roll_68 : decode cX9_roll 68 = .ok (.iconst 0, 1) := by decide +kernel
theorem dX9_roll_69 : decode cX9_roll 69 = .ok (.invokevirtual 163, 3) := by decide +kernel
theorem dX9_roll_72 : decode cX9_roll 72 = .ok (.aload_n 0, 1) := by decide +kernel
theorem dX9_roll_73 : decode cX9_roll 73 = .ok (.iload_n 1, 1) := by decide +kernel
theorem dX9_roll_74 : decode cX9_roll 74 = .ok (.iconst 1, 1) := by decide +kernel
theorem dX9_roll_75 : decode cX9_roll 75 = .ok (.invokevirtual 163, 3) := by decide +kernel
theorem dX9_roll_78 : decode cX9_roll 78 = .ok (.aload_n 0, 1) := by decide +kernel
theorem dX9_roll_79 : decode cX9_roll 79 = .ok (.getfield 22, 3) := by decide +kernel
theorem dX9_roll_82 : decode cX9_roll 82 = .ok (.iload_n 1, 1) := by decide +kernel
theorem dX9_roll_83 : decode cX9_roll 83 = .ok (.bipush 15, 2) := by decide +kernel
theorem dX9_roll_85 : decode cX9_roll 85 = .ok (.iastore, 1) := by decide +kernel
theorem dX9_roll_86 : decode cX9_roll 86 = .ok (.aload_n 0, 1) := by decide +kernel
theorem dX9_roll_87 : decode cX9_roll 87 = .ok (.getfield 19, 3) := by decide +kernel
theorem dX9_roll_90 : decode cX9_roll 90 = .ok (.iload_n 1, 1) := by decide +kernel
theorem dX9_roll_91 : decode cX9_roll 91 = .ok (.iconst 2, 1) := by decide +kernel
theorem dX9_roll_92 : decode cX9_roll 92 = .ok (.iastore, 1) := by decide +kernel
theorem dX9_roll_93 : decode cX9_roll 93 = .ok (.aload_n 0, 1) := by decide +kernel
theorem dX9_roll_94 : decode cX9_roll 94 = .ok (.getfield 31, 3) := by decide +kernel
theorem dX9_roll_97 : decode cX9_roll 97 = .ok (.iload_n 1, 1) := by decide +kernel
theorem dX9_roll_98 : decode cX9_roll 98 = .ok (.iload_n 2, 1) := by decide +kernel
theorem dX9_roll_99 : decode cX9_roll 99 = .ok (.iastore, 1) := by decide +kernel
theorem dX9_roll_100 : decode cX9_roll 100 = .ok (.aload_n 0, 1) := by decide +kernel
theorem dX9_roll_101 : decode cX9_roll 101 = .ok (.getfield 25, 3) := by decide +kernel
theorem dX9_roll_104 : decode cX9_roll 104 = .ok (.iload_n 1, 1) := by decide +kernel
theorem dX9_roll_105 : decode cX9_roll 105 = .ok (.iconst 0, 1) := by decide +kernel
theorem dX9_roll_106 : decode cX9_roll 106 = .ok (.iastore, 1) := by decide +kernel
theorem dX9_roll_107 : decode cX9_roll 107 = .ok (.aload_n 0, 1) := by decide +kernel
theorem dX9_roll_108 : decode cX9_roll 108 = .ok (.getfield 28, 3) := by decide +kernel
theorem dX9_roll_111 : decode cX9_roll 111 = .ok (.iload_n 1, 1) := by decide +kernel
theorem dX9_roll_112 : decode cX9_roll 112 = .ok (.iconst 0, 1) := by decide +kernel
theorem dX9_roll_113 : decode cX9_roll 113 = .ok (.iastore, 1) := by decide +kernel
theorem dX9_roll_114 : decode cX9_roll 114 = .ok (.return_, 1) := by decide +kernel
theorem nmX9_roll : mm_nm yX9_roll 2 := ⟨by decide, by decide, by decide +kernel⟩
theorem cdX9_roll : mm_cd cd_Y yX9_roll cX9_roll 4 none := ⟨tw_993, tw_8⟩
abbrev rmX9_roll : Room := { frames := 3, cells := 0, slots := 0, locals := 72 }
def fX9_roll_86  (a0 : Nat) (x1 : Int32) (x2 : Int32) (σ : mm_M) : Option mm_M :=
  mm_sh σ a0 (.inl 9) (mm_on (mm_R σ a0 4) fun q14 => mm_ar σ q14 0 fun n15 => mm_ib x1 n15 (mm_on (mm_R (mm_wI σ q14 (x1.toNatClampNeg) 2) a0 8) fun q17 => mm_ar (mm_wI σ q14 (x1.toNatClampNeg) 2) q17 0 fun n18 => mm_ib x1 n18 (mm_on (mm_R (mm_wI (mm_wI σ q14 (x1.toNatClampNeg) 2) q17 (x1.toNatClampNeg) x2) a0 6) fun q20 => mm_ar (mm_wI (mm_wI σ q14 (x1.toNatClampNeg) 2) q17 (x1.toNatClampNeg) x2) q20 0 fun n21 => mm_ib x1 n21 (mm_on (mm_R (mm_wI (mm_wI (mm_wI σ q14 (x1.toNatClampNeg) 2) q17 (x1.toNatClampNeg) x2) q20 (x1.toNatClampNeg) 0) a0 7) fun q23 => mm_ar (mm_wI (mm_wI (mm_wI σ q14 (x1.toNatClampNeg) 2) q17 (x1.toNatClampNeg) x2) q20 (x1.toNatClampNeg) 0) q23 0 fun n24 => mm_ib x1 n24 (some (mm_wI (mm_wI (mm_wI (mm_wI σ q14 (x1.toNatClampNeg) 2) q17 (x1.toNatClampNeg) x2) q20 (x1.toNatClampNeg) 0) q23 (x1.toNatClampNeg) 0))))))
def fX9_roll_62  (a0 : Nat) (x1 : Int32) (x2 : Int32) (x3 : Int32) (y0 : Int32) (y1 : Int32) (y2 : Nat) (σ : mm_M) : Option mm_M :=
  mm_ar σ y2 0 fun n38 => mm_ib y1 n38 ((fX9_roll_86  a0 x1 x2 (mm_wI σ y2 (y1.toNatClampNeg) y0)))
def fX9_roll_12  : Nat → Nat → Int32 → Int32 → Int32 → mm_M → Option mm_M
  | 0 => fun _ _ _ _ _ => none
  | n + 1 => fun a0 x1 x2 x3 σ =>
  mm_sh σ a0 (.inl 9) (mm_on (mm_R σ a0 5) fun q27 => mm_ar σ q27 0 fun n28 => mm_ib x1 n28 ((if ((mm_I σ q27 x1.toNatClampNeg) - x2) < x3 then mm_on (mm_R σ a0 5) fun q31 => mm_ar σ q31 0 fun n32 => mm_ib x1 n32 ((if x2 ≤ (mm_I σ q31 x1.toNatClampNeg) then mm_on (mm_R σ a0 5) fun q35 => mm_ar σ q35 0 fun n36 => mm_ib x1 n36 ((fX9_roll_62  a0 x1 x2 x3 (mm_I σ q35 x1.toNatClampNeg) x1 q31 σ)) else (fX9_roll_62  a0 x1 x2 x3 x2 x1 q31 σ))) else mm_on (fX9_clearRow a0 x1 0 x3 σ) fun q40 => (fX9_roll_12  n a0 x1 x2 (x3 + 1) q40))))
def fX9_roll (p0 : Nat) (p1 : Int32) (p2 : Int32) (σ : mm_M) : Option mm_M :=
  mm_sh σ p0 (.inl 9) (mm_on (mm_R σ p0 4) fun q2 => mm_ar σ q2 0 fun n3 => mm_ib p1 n3 ((if (mm_I σ q2 p1.toNatClampNeg) = 2 then (fX9_roll_12  mm_fuel p0 p1 p2 1 σ) else mm_on (fX9_clearScreen p0 p1 0 σ) fun q6 => mm_sh q6 p0 (.inl 9) (mm_on (fX9_clearScreen p0 p1 1 q6) fun q8 => mm_sh q8 p0 (.inl 9) (mm_on (mm_R q8 p0 5) fun q10 => mm_ar q8 q10 0 fun n11 => mm_ib p1 n11 ((fX9_roll_86  p0 p1 p2 (mm_wI q8 q10 (p1.toNatClampNeg) 15))))))))
set_option maxHeartbeats 4000000 in
set_option maxRecDepth 100000 in
theorem kX9_roll_86 {G : mm_G} {A : Nat → Prop} {ini : Bool}  {R : mm_M}  (a0 : Nat) (x1 : Int32) (x2 : Int32) (σ : mm_M) (hf : fX9_roll_86  a0 x1 x2 σ = some R) : mm_J cd_Y G RX9 cX9_roll 4 none ini rmX9_roll A (mm_QF cd_Y G A (mm_Pv R) rmX9_roll.cells rmX9_roll.slots) 86 [(0, .ref a0), (1, .int x1), (2, .int x2)] [] σ 0 0 := by
  unfold fX9_roll_86 at hf
  refine mm_aload_n (j := 0) dX9_roll_86 rfl rfl ?_
  obtain ⟨hs13, hf⟩ := mm_sh_s hf
  refine mm_get (c := 9) (k := 4) (v := va_rf (mm_R σ a0 4)) cd_ok ⟨_, _, _, rfl, by decide, Or.inl tw_798⟩ hs13 rfl dX9_roll_87 ?_
  refine mm_iload_n (j := 1) dX9_roll_90 rfl rfl ?_
  refine mm_iconst (v := 2) dX9_roll_91 (by decide) ?_
  obtain ⟨q14, hq14, hf⟩ := mm_on_s hf
  rw [hq14, mm_rf_some]
  obtain ⟨n15, hn15, hf⟩ := mm_ar_s hf
  obtain ⟨hi16, hf⟩ := mm_ib_s hf
  refine mm_iast hn15 rfl hi16 dX9_roll_92 ?_
  refine mm_aload_n (j := 0) dX9_roll_93 rfl rfl ?_
  refine mm_get (c := 9) (k := 8) (v := va_rf (mm_R (mm_wI σ q14 (x1.toNatClampNeg) 2) a0 8)) cd_ok ⟨_, _, _, rfl, by decide, Or.inl tw_802⟩ hs13 rfl dX9_roll_94 ?_
  refine mm_iload_n (j := 1) dX9_roll_97 rfl rfl ?_
  refine mm_iload_n (j := 2) dX9_roll_98 rfl rfl ?_
  obtain ⟨q17, hq17, hf⟩ := mm_on_s hf
  rw [hq17, mm_rf_some]
  obtain ⟨n18, hn18, hf⟩ := mm_ar_s hf
  obtain ⟨hi19, hf⟩ := mm_ib_s hf
  refine mm_iast hn18 rfl hi19 dX9_roll_99 ?_
  refine mm_aload_n (j := 0) dX9_roll_100 rfl rfl ?_
  refine mm_get (c := 9) (k := 6) (v := va_rf (mm_R (mm_wI (mm_wI σ q14 (x1.toNatClampNeg) 2) q17 (x1.toNatClampNeg) x2) a0 6)) cd_ok ⟨_, _, _, rfl, by decide, Or.inl tw_800⟩ hs13 rfl dX9_roll_101 ?_
  refine mm_iload_n (j := 1) dX9_roll_104 rfl rfl ?_
  refine mm_iconst (v := 0) dX9_roll_105 (by decide) ?_
  obtain ⟨q20, hq20, hf⟩ := mm_on_s hf
  rw [hq20, mm_rf_some]
  obtain ⟨n21, hn21, hf⟩ := mm_ar_s hf
  obtain ⟨hi22, hf⟩ := mm_ib_s hf
  refine mm_iast hn21 rfl hi22 dX9_roll_106 ?_
  refine mm_aload_n (j := 0) dX9_roll_107 rfl rfl ?_
  refine mm_get (c := 9) (k := 7) (v := va_rf (mm_R (mm_wI (mm_wI (mm_wI σ q14 (x1.toNatClampNeg) 2) q17 (x1.toNatClampNeg) x2) q20 (x1.toNatClampNeg) 0) a0 7)) cd_ok ⟨_, _, _, rfl, by decide, Or.inl tw_801⟩ hs13 rfl dX9_roll_108 ?_
  refine mm_iload_n (j := 1) dX9_roll_111 rfl rfl ?_
  refine mm_iconst (v := 0) dX9_roll_112 (by decide) ?_
  obtain ⟨q23, hq23, hf⟩ := mm_on_s hf
  rw [hq23, mm_rf_some]
  obtain ⟨n24, hn24, hf⟩ := mm_ar_s hf
  obtain ⟨hi25, hf⟩ := mm_ib_s hf
  refine mm_iast hn24 rfl hi25 dX9_roll_113 ?_
  cases hf
  exact mm_vret rfl dX9_roll_114 ⟨rfl, rfl⟩
set_option maxHeartbeats 4000000 in
set_option maxRecDepth 100000 in
theorem kX9_roll_62 {G : mm_G} {A : Nat → Prop} {ini : Bool}  {R : mm_M}  (a0 : Nat) (x1 : Int32) (x2 : Int32) (x3 : Int32) (y0 : Int32) (y1 : Int32) (y2 : Nat) (σ : mm_M) (hf : fX9_roll_62  a0 x1 x2 x3 y0 y1 y2 σ = some R) : mm_J cd_Y G RX9 cX9_roll 4 none ini rmX9_roll A (mm_QF cd_Y G A (mm_Pv R) rmX9_roll.cells rmX9_roll.slots) 62 [(0, .ref a0), (1, .int x1), (2, .int x2), (3, .int x3)] [.int y0, .int y1, .ref y2] σ 0 0 := by
  unfold fX9_roll_62 at hf
  obtain ⟨n38, hn38, hf⟩ := mm_ar_s hf
  obtain ⟨hi39, hf⟩ := mm_ib_s hf
  refine mm_iast hn38 rfl hi39 dX9_roll_62 ?_
  refine mm_goto (tgt := 86) dX9_roll_63 (by decide) ?_
  refine mm_sub [0, 1, 2] rfl ?_
  exact kX9_roll_86  a0 x1 x2 (mm_wI σ y2 (y1.toNatClampNeg) y0) hf
set_option maxHeartbeats 4000000 in
set_option maxRecDepth 100000 in
theorem kX9_roll_12 {G : mm_G} {A : Nat → Prop} {ini : Bool}  {R : mm_M}  : ∀ (a0 : Nat) (x1 : Int32) (x2 : Int32) (x3 : Int32) (σ : mm_M), fX9_roll_12  mm_fuel a0 x1 x2 x3 σ = some R → mm_J cd_Y G RX9 cX9_roll 4 none ini rmX9_roll A (mm_QF cd_Y G A (mm_Pv R) rmX9_roll.cells rmX9_roll.slots) 12 [(0, .ref a0), (1, .int x1), (2, .int x2), (3, .int x3)] [] σ 0 0 := by
  generalize mm_fuel = n
  induction n with
  | zero => intro a0 x1 x2 x3 σ hf; cases hf
  | succ n ih =>
    intro a0 x1 x2 x3 σ hf
    unfold fX9_roll_12 at hf
    refine mm_iload_n (j := 3) dX9_roll_12 rfl rfl ?_
    refine mm_aload_n (j := 0) dX9_roll_13 rfl rfl ?_
    obtain ⟨hs26, hf⟩ := mm_sh_s hf
    refine mm_get (c := 9) (k := 5) (v := va_rf (mm_R σ a0 5)) cd_ok ⟨_, _, _, rfl, by decide, Or.inl tw_799⟩ hs26 rfl dX9_roll_14 ?_
    refine mm_iload_n (j := 1) dX9_roll_17 rfl rfl ?_
    obtain ⟨q27, hq27, hf⟩ := mm_on_s hf
    rw [hq27, mm_rf_some]
    obtain ⟨n28, hn28, hf⟩ := mm_ar_s hf
    obtain ⟨hi29, hf⟩ := mm_ib_s hf
    refine mm_iald hn28 rfl hi29 dX9_roll_18 ?_
    refine mm_iload_n (j := 2) dX9_roll_19 rfl rfl ?_
    refine mm_isub dX9_roll_20 ?_
    refine mm_icmp_gt (tgt := 37) dX9_roll_21 (by decide) (fun c30 => ?_) (fun c30 => ?_)
    · rw [if_pos c30] at hf
      refine mm_aload_n (j := 0) dX9_roll_37 rfl rfl ?_
      refine mm_get (c := 9) (k := 5) (v := va_rf (mm_R σ a0 5)) cd_ok ⟨_, _, _, rfl, by decide, Or.inl tw_799⟩ hs26 rfl dX9_roll_38 ?_
      refine mm_iload_n (j := 1) dX9_roll_41 rfl rfl ?_
      refine mm_aload_n (j := 0) dX9_roll_42 rfl rfl ?_
      refine mm_get (c := 9) (k := 5) (v := va_rf (mm_R σ a0 5)) cd_ok ⟨_, _, _, rfl, by decide, Or.inl tw_799⟩ hs26 rfl dX9_roll_43 ?_
      refine mm_iload_n (j := 1) dX9_roll_46 rfl rfl ?_
      obtain ⟨q31, hq31, hf⟩ := mm_on_s hf
      rw [hq31, mm_rf_some]
      obtain ⟨n32, hn32, hf⟩ := mm_ar_s hf
      obtain ⟨hi33, hf⟩ := mm_ib_s hf
      refine mm_iald hn32 rfl hi33 dX9_roll_47 ?_
      refine mm_iload_n (j := 2) dX9_roll_48 rfl rfl ?_
      refine mm_icmp_ge (tgt := 56) dX9_roll_49 (by decide) (fun c34 => ?_) (fun c34 => ?_)
      · rw [if_pos c34] at hf
        refine mm_aload_n (j := 0) dX9_roll_56 rfl rfl ?_
        refine mm_get (c := 9) (k := 5) (v := va_rf (mm_R σ a0 5)) cd_ok ⟨_, _, _, rfl, by decide, Or.inl tw_799⟩ hs26 rfl dX9_roll_57 ?_
        refine mm_iload_n (j := 1) dX9_roll_60 rfl rfl ?_
        obtain ⟨q35, hq35, hf⟩ := mm_on_s hf
        rw [hq35, mm_rf_some]
        obtain ⟨n36, hn36, hf⟩ := mm_ar_s hf
        obtain ⟨hi37, hf⟩ := mm_ib_s hf
        refine mm_iald hn36 rfl hi37 dX9_roll_61 ?_
        refine mm_sub [0, 1, 2, 3] rfl ?_
        exact kX9_roll_62  a0 x1 x2 x3 (mm_I σ q35 x1.toNatClampNeg) x1 q31 σ hf
      · rw [if_neg c34] at hf
        refine mm_iload_n (j := 2) dX9_roll_52 rfl rfl ?_
        refine mm_goto (tgt := 62) dX9_roll_53 (by decide) ?_
        refine mm_sub [0, 1, 2, 3] rfl ?_
        exact kX9_roll_62  a0 x1 x2 x3 x2 x1 q31 σ hf
    · rw [if_neg c30] at hf
      refine mm_aload_n (j := 0) dX9_roll_24 rfl rfl ?_
      refine mm_iload_n (j := 1) dX9_roll_25 rfl rfl ?_
      refine mm_iconst (v := 0) dX9_roll_26 (by decide) ?_
      refine mm_iload_n (j := 3) dX9_roll_27 rfl rfl ?_
      obtain ⟨q40, hq40, hf⟩ := mm_on_s hf
      refine mm_callVv cd_ok (kX9_clearRow a0 x1 0 x3 hq40) hs26 rfl (Or.inl tw_974) cdX9_clearRow tw_976 ts_37 nmX9_clearRow rfl rfl (by simp only [List.map_cons, List.map_nil, mm_rf_cat]; exact Nat.le_of_ble_eq_true rfl) dX9_roll_28 ⟨Nat.le_of_ble_eq_true rfl, Nat.le_of_ble_eq_true rfl⟩ ⟨Nat.le_of_ble_eq_true rfl, Nat.le_of_ble_eq_true rfl⟩ ?_
      refine mm_iinc (j := 3) (L' := [(3, .int (x3 + 1)), (0, .ref a0), (1, .int x1), (2, .int x2)]) dX9_roll_31 rfl rfl (by decide) rfl ?_
      refine mm_goto (tgt := 12) dX9_roll_34 (by decide) ?_
      refine mm_sub [1, 2, 3, 0] rfl ?_
      exact ih a0 x1 x2 (x3 + 1) q40 hf
set_option maxHeartbeats 4000000 in
set_option maxRecDepth 100000 in
theorem kX9_roll {G : mm_G} {A : Nat → Prop} (p0 : Nat) (p1 : Int32) (p2 : Int32) {σ : mm_M} {R : mm_M} (hf : fX9_roll p0 p1 p2 σ = some R) : mm_C cd_Y G yX9_roll cX9_roll 4 none rmX9_roll A [.ref p0, .int p1, .int p2] σ (mm_Pv R) := by
  refine mm_C.of (by decide) (Nat.le_of_ble_eq_true rfl) ?_
  unfold fX9_roll at hf
  have e0 : lv_args 0 [.ref p0, .int p1, .int p2] = [(0, .ref p0), (1, .int p1), (2, .int p2)] := rfl
  rw [e0]
  generalize hini : (yX9_roll.name == "<init>") = ini
  clear e0
  clear hini
  refine mm_aload_n (j := 0) dX9_roll_0 rfl rfl ?_
  obtain ⟨hs1, hf⟩ := mm_sh_s hf
  refine mm_get (c := 9) (k := 4) (v := va_rf (mm_R σ p0 4)) cd_ok ⟨_, _, _, rfl, by decide, Or.inl tw_798⟩ hs1 rfl dX9_roll_1 ?_
  refine mm_iload_n (j := 1) dX9_roll_4 rfl rfl ?_
  obtain ⟨q2, hq2, hf⟩ := mm_on_s hf
  rw [hq2, mm_rf_some]
  obtain ⟨n3, hn3, hf⟩ := mm_ar_s hf
  obtain ⟨hi4, hf⟩ := mm_ib_s hf
  refine mm_iald hn3 rfl hi4 dX9_roll_5 ?_
  refine mm_iconst (v := 2) dX9_roll_6 (by decide) ?_
  refine mm_icmp_ne (tgt := 66) dX9_roll_7 (by decide) (fun c5 => ?_) (fun c5 => ?_)
  · rw [if_neg c5] at hf
    refine mm_aload_n (j := 0) dX9_roll_66 rfl rfl ?_
    refine mm_iload_n (j := 1) dX9_roll_67 rfl rfl ?_
    refine mm_iconst (v := 0) dX9_roll_68 (by decide) ?_
    obtain ⟨q6, hq6, hf⟩ := mm_on_s hf
    refine mm_callVv cd_ok (kX9_clearScreen p0 p1 0 hq6) hs1 rfl (Or.inl tw_994) cdX9_clearScreen tw_996 ts_42 nmX9_clearScreen rfl rfl (by simp only [List.map_cons, List.map_nil, mm_rf_cat]; exact Nat.le_of_ble_eq_true rfl) dX9_roll_69 ⟨Nat.le_of_ble_eq_true rfl, Nat.le_of_ble_eq_true rfl⟩ ⟨Nat.le_of_ble_eq_true rfl, Nat.le_of_ble_eq_true rfl⟩ ?_
    refine mm_aload_n (j := 0) dX9_roll_72 rfl rfl ?_
    refine mm_iload_n (j := 1) dX9_roll_73 rfl rfl ?_
    refine mm_iconst (v := 1) dX9_roll_74 (by decide) ?_
    obtain ⟨hs7, hf⟩ := mm_sh_s hf
    obtain ⟨q8, hq8, hf⟩ := mm_on_s hf
    refine mm_callVv cd_ok (kX9_clearScreen p0 p1 1 hq8) hs7 rfl (Or.inl tw_994) cdX9_clearScreen tw_996 ts_42 nmX9_clearScreen rfl rfl (by simp only [List.map_cons, List.map_nil, mm_rf_cat]; exact Nat.le_of_ble_eq_true rfl) dX9_roll_75 ⟨Nat.le_of_ble_eq_true rfl, Nat.le_of_ble_eq_true rfl⟩ ⟨Nat.le_of_ble_eq_true rfl, Nat.le_of_ble_eq_true rfl⟩ ?_
    refine mm_aload_n (j := 0) dX9_roll_78 rfl rfl ?_
    obtain ⟨hs9, hf⟩ := mm_sh_s hf
    refine mm_get (c := 9) (k := 5) (v := va_rf (mm_R q8 p0 5)) cd_ok ⟨_, _, _, rfl, by decide, Or.inl tw_799⟩ hs9 rfl dX9_roll_79 ?_
    refine mm_iload_n (j := 1) dX9_roll_82 rfl rfl ?_
    refine mm_bipush (v := 15) dX9_roll_83 (by decide) ?_
    obtain ⟨q10, hq10, hf⟩ := mm_on_s hf
    rw [hq10, mm_rf_some]
    obtain ⟨n11, hn11, hf⟩ := mm_ar_s hf
    obtain ⟨hi12, hf⟩ := mm_ib_s hf
    refine mm_iast hn11 rfl hi12 dX9_roll_85 ?_
    refine mm_sub [0, 1, 2] rfl ?_
    exact kX9_roll_86  p0 p1 p2 (mm_wI q8 q10 (p1.toNatClampNeg) 15) hf
  · rw [if_pos c5] at hf
    refine mm_iconst (v := 1) dX9_roll_10 (by decide) ?_
    refine mm_istore_n (L' := [(3, .int 1), (0, .ref p0), (1, .int p1), (2, .int p2)]) dX9_roll_11 rfl (by decide) rfl ?_
    refine mm_sub [1, 2, 3, 0] rfl ?_
    exact kX9_roll_12  p0 p1 p2 1 σ hf
theorem dX9_up_0 : decode cX9_up 0 = .ok (.aload_n 0, 1) := by decide +kernel
theorem dX9_up_1 : decode cX9_up 1 = .ok (.getfield 22, 3) := by decide +kernel
theorem dX9_up_4 : decode cX9_up 4 = .ok (.iload_n 1, 1) := by decide +kernel
theorem dX9_up_5 : decode cX9_up 5 = .ok (.iaload, 1) := by decide +kernel
theorem dX9_up_6 : decode cX9_up 6 = .ok (.aload_n 0, 1) := by decide +kernel
theorem dX9_up_7 : decode cX9_up 7 = .ok (.getfield 31, 3) := by decide +kernel
theorem dX9_up_10 : decode cX9_up 10 = .ok (.iload_n 1, 1) := by decide +kernel
theorem dX9_up_11 : decode cX9_up 11 = .ok (.iaload, 1) := by decide +kernel
theorem dX9_up_12 : decode cX9_up 12 = .ok (.isub, 1) := by decide +kernel
theorem dX9_up_13 : decode cX9_up 13 = .ok (.iconst 1, 1) := by decide +kernel
theorem dX9_up_14 : decode cX9_up 14 = .ok (.iadd, 1) := by decide +kernel
theorem dX9_up_15 : decode cX9_up 15 = .ok (.istore_n 2, 1) := by decide +kernel
theorem dX9_up_16 : decode cX9_up 16 = .ok (.iload_n 2, 1) := by decide +kernel
theorem dX9_up_17 : decode cX9_up 17 = .ok (.aload_n 0, 1) := by decide +kernel
theorem dX9_up_18 : decode cX9_up 18 = .ok (.getfield 22, 3) := by decide +kernel
theorem dX9_up_21 : decode cX9_up 21 = .ok (.iload_n 1, 1) := by decide +kernel
theorem dX9_up_22 : decode cX9_up 22 = .ok (.iaload, 1) := by decide +kernel
theorem dX9_up_23 : decode cX9_up 23 = .ok (.if_icmp .ge 84, 3) := by decide +kernel
theorem dX9_up_26 : decode cX9_up 26 = .ok (.iconst 0, 1) := by decide +kernel
theorem dX9_up_27 : decode cX9_up 27 = .ok (.istore_n 3, 1) := by decide +kernel
theorem dX9_up_28 : decode cX9_up 28 = .ok (.iload_n 3, 1) := by decide +kernel
theorem dX9_up_29 : decode cX9_up 29 = .ok (.bipush 32, 2) := by decide +kernel
theorem dX9_up_31 : decode cX9_up 31 = .ok (.if_icmp .ge 70, 3) := by decide +kernel
theorem dX9_up_34 : decode cX9_up 34 = .ok (.iload_n 2, 1) := by decide +kernel
theorem dX9_up_35 : decode cX9_up 35 = .ok (.iconst 1, 1) := by decide +kernel
theorem dX9_up_36 : decode cX9_up 36 = .ok (.if_icmp .lt 65, 3) := by decide +kernel
theorem dX9_up_39 : decode cX9_up 39 = .ok (.aload_n 0, 1) := by decide +kernel
theorem dX9_up_40 : decode cX9_up 40 = .ok (.getfield 7, 3) := by decide +kernel
theorem dX9_up_43 : decode cX9_up 43 = .ok (.aload_n 0, 1) := by decide +kernel
theorem dX9_up_44 : decode cX9_up 44 = .ok (.iload_n 1, 1) := by decide +kernel
theorem dX9_up_45 : decode cX9_up 45 = .ok (.iconst 0, 1) := by decide +kernel
theorem dX9_up_46 : decode cX9_up 46 = .ok (.iload_n 2, 1) := by decide +kernel
theorem dX9_up_47 : decode cX9_up 47 = .ok (.iload_n 3, 1) := by decide +kernel
theorem dX9_up_48 : decode cX9_up 48 = .ok (.invokevirtual 124, 3) := by decide +kernel
theorem dX9_up_51 : decode cX9_up 51 = .ok (.aload_n 0, 1) := by decide +kernel
theorem dX9_up_52 : decode cX9_up 52 = .ok (.getfield 7, 3) := by decide +kernel
theorem dX9_up_55 : decode cX9_up 55 = .ok (.aload_n 0, 1) := by decide +kernel
theorem dX9_up_56 : decode cX9_up 56 = .ok (.iload_n 1, 1) := by decide +kernel
theorem dX9_up_57 : decode cX9_up 57 = .ok (.iconst 0, 1) := by decide +kernel
theorem dX9_up_58 : decode cX9_up 58 = .ok (.iload_n 2, 1) := by decide +kernel
theorem dX9_up_59 : decode cX9_up 59 = .ok (.iconst 1, 1) := by decide +kernel
theorem dX9_up_60 : decode cX9_up 60 = .ok (.iadd, 1) := by decide +kernel
theorem dX9_up_61 : decode cX9_up 61 = .ok (.iload_n 3, 1) := by decide +kernel
theorem dX9_up_62 : decode cX9_up 62 = .ok (.invokevirtual 124, 3) := by decide +kernel
theorem dX9_up_65 : decode cX9_up 65 = .ok (.iaload, 1) := by decide +kernel
theorem dX9_up_66 : decode cX9_up 66 = .ok (.iastore, 1) := by decide +kernel
theorem dX9_up_67 : decode cX9_up 67 = .ok (.aload_n 0, 1) := by decide +kernel
theorem dX9_up_68 : decode cX9_up 68 = .ok (.getfield 13, 3) := by decide +kernel
theorem dX9_up_71 : decode cX9_up 71 = .ok (.aload_n 0, 1) := by decide +kernel
theorem dX9_up_72 : decode cX9_up 72 = .ok (.iload_n 1, 1) := by decide +kernel
theorem dX9_up_73 : decode cX9_up 73 = .ok (.iconst 0, 1) := by decide +kernel
theorem dX9_up_74 : decode cX9_up 74 = .ok (.iload_n 2, 1) := by decide +kernel
theorem dX9_up_75 : decode cX9_up 75 = .ok (.iload_n 3, 1) := by decide +kernel
theorem dX9_up_76 : decode cX9_up 76 = .ok (.invokevirtual 124, 3) := by decide +kernel
theorem dX9_up_79 : decode cX9_up 79 = .ok (.aload_n 0, 1) := by decide +kernel
theorem dX9_up_80 : decode cX9_up 80 = .ok (.getfield 13, 3) := by decide +kernel
theorem dX9_up_83 : decode cX9_up 83 = .ok (.aload_n 0, 1) := by decide +kernel
theorem dX9_up_84 : decode cX9_up 84 = .ok (.iload_n 1, 1) := by decide +kernel
theorem dX9_up_85 : decode cX9_up 85 = .ok (.iconst 0, 1) := by decide +kernel
theorem dX9_up_86 : decode cX9_up 86 = .ok (.iload_n 2, 1) := by decide +kernel
theorem dX9_up_87 : decode cX9_up 87 = .ok (.iconst 1, 1) := by decide +kernel
theorem dX9_up_88 : decode cX9_up 88 = .ok (.iadd, 1) := by decide +kernel
theorem dX9_up_89 : decode cX9_up 89 = .ok (.iload_n 3, 1) := by decide +kernel
theorem dX9_up_90 : decode cX9_up 90 = .ok (.invokevirtual 124, 3) := by decide +kernel
theorem dX9_up_93 : decode cX9_up 93 = .ok (.iaload, 1) := by decide +kernel
theorem dX9_up_94 : decode cX9_up 94 = .ok (.iastore, 1) := by decide +kernel
theorem dX9_up_95 : decode cX9_up 95 = .ok (.iinc 3 1, 3) := by decide +kernel
theorem dX9_up_98 : decode cX9_up 98 = .ok (.goto (-70), 3) := by decide +kernel
theorem dX9_up_101 : decode cX9_up 101 = .ok (.iinc 2 1, 3) := by decide +kernel
theorem dX9_up_104 : decode cX9_up 104 = .ok (.goto (-88), 3) := by decide +kernel
theorem dX9_up_107 : decode cX9_up 107 = .ok (.aload_n 0, 1) := by decide +kernel
theorem dX9_up_108 : decode cX9_up 108 = .ok (.iload_n 1, 1) := by decide +kernel
theorem dX9_up_109 : decode cX9_up 109 = .ok (.iconst 0, 1) := by decide +kernel
theorem dX9_up_110 : decode cX9_up 110 = .ok (.aload_n 0, 1) := by decide +kernel
theorem dX9_up_111 : decode cX9_up 111 = .ok (.getfield 22, 3) := by decide +kernel
theorem dX9_up_114 : decode cX9_up 114 = .ok (.iload_n 1, 1) := by decide +kernel
theorem dX9_up_115 : decode cX9_up 115 = .ok (.iaload, 1) := by decide +kernel
theorem dX9_up_116 : decode cX9_up 116 = .ok (.invokevirtual 132, 3) := by decide +kernel
theorem dX9_up_119 : decode cX9_up 119 = .ok (.aload_n 0, 1) := by decide +kernel
theorem dX9_up_120 : decode cX9_up 120 = .ok (.getfield 25, 3) := by decide +kernel
theorem dX9_up_123 : decode cX9_up 123 = .ok (.iload_n 1, 1) := by decide +kernel
theorem dX9_up_124 : decode cX9_up 124 = .ok (.iconst 0, 1) := by decide +kernel
theorem dX9_up_125 : decode cX9_up 125 = .ok (.iastore, 1) := by decide +kernel
theorem dX9_up_126 : decode cX9_up 126 = .ok (.aload_n 0, 1) := by decide +kernel
theorem dX9_up_127 : decode cX9_up 127 = .ok (.getfield 28, 3) := by decide +kernel
theorem dX9_up_130 : decode cX9_up 130 = .ok (.iload_n 1, 1) := by decide +kernel
theorem dX9_up_131 : decode cX9_up 131 = .ok (.iconst 0, 1) := by decide +kernel
theorem dX9_up_132 : decode cX9_up 132 = .ok (.iastore, 1) := by decide +kernel
theorem dX9_up_133 : decode cX9_up 133 = .ok (.return_, 1) := by decide +kernel
theorem nmX9_up : mm_nm yX9_up 1 := ⟨by decide, by decide, by decide +kernel⟩
theorem cdX9_up : mm_cd cd_Y yX9_up cX9_up 4 none := ⟨tw_1001, tw_8⟩
abbrev rmX9_up : Room := { frames := 2, cells := 0, slots := 0, locals := 49 }
def fX9_up_28 (k16 : Nat → Int32 → Int32 → mm_M → Option mm_M) : Nat → Nat → Int32 → Int32 → Int32 → mm_M → Option mm_M
  | 0 => fun _ _ _ _ _ => none
  | n + 1 => fun a0 x1 x2 x3 σ =>
  (if 32 ≤ x3 then (k16 a0 x1 (x2 + 1) σ) else (if x2 < 1 then (k16 a0 x1 (x2 + 1) σ) else mm_sh σ a0 (.inl 9) (mm_on (fX9_cellAt a0 x1 0 x2 x3 σ) fun q27 => mm_sh q27.2 a0 (.inl 9) (mm_on (fX9_cellAt a0 x1 0 (x2 + 1) x3 q27.2) fun q29 => mm_on (mm_R q27.2 a0 1) fun q30 => mm_ar q29.2 q30 0 fun n31 => mm_ib q29.1 n31 (mm_on (mm_R σ a0 1) fun q33 => mm_ar q29.2 q33 0 fun n34 => mm_ib q27.1 n34 (mm_sh (mm_wI q29.2 q33 (q27.1.toNatClampNeg) (mm_I q29.2 q30 q29.1.toNatClampNeg)) a0 (.inl 9) (mm_on (fX9_cellAt a0 x1 0 x2 x3 (mm_wI q29.2 q33 (q27.1.toNatClampNeg) (mm_I q29.2 q30 q29.1.toNatClampNeg))) fun q37 => mm_sh q37.2 a0 (.inl 9) (mm_on (fX9_cellAt a0 x1 0 (x2 + 1) x3 q37.2) fun q39 => mm_on (mm_R q37.2 a0 2) fun q40 => mm_ar q39.2 q40 0 fun n41 => mm_ib q39.1 n41 (mm_on (mm_R (mm_wI q29.2 q33 (q27.1.toNatClampNeg) (mm_I q29.2 q30 q29.1.toNatClampNeg)) a0 2) fun q43 => mm_ar q39.2 q43 0 fun n44 => mm_ib q37.1 n44 ((fX9_up_28 k16 n a0 x1 x2 (x3 + 1) (mm_wI q39.2 q43 (q37.1.toNatClampNeg) (mm_I q39.2 q40 q39.1.toNatClampNeg)))))))))))))
def fX9_up_16  : Nat → Nat → Int32 → Int32 → mm_M → Option mm_M
  | 0 => fun _ _ _ _ => none
  | n + 1 => fun a0 x1 x2 σ =>
  mm_sh σ a0 (.inl 9) (mm_on (mm_R σ a0 5) fun q9 => mm_ar σ q9 0 fun n10 => mm_ib x1 n10 ((if (mm_I σ q9 x1.toNatClampNeg) ≤ x2 then mm_on (mm_R σ a0 5) fun q13 => mm_ar σ q13 0 fun n14 => mm_ib x1 n14 (mm_on (fX9_clearRow a0 x1 0 (mm_I σ q13 x1.toNatClampNeg) σ) fun q16 => mm_sh q16 a0 (.inl 9) (mm_on (mm_R q16 a0 6) fun q18 => mm_ar q16 q18 0 fun n19 => mm_ib x1 n19 (mm_on (mm_R (mm_wI q16 q18 (x1.toNatClampNeg) 0) a0 7) fun q21 => mm_ar (mm_wI q16 q18 (x1.toNatClampNeg) 0) q21 0 fun n22 => mm_ib x1 n22 (some (mm_wI (mm_wI q16 q18 (x1.toNatClampNeg) 0) q21 (x1.toNatClampNeg) 0))))) else (fX9_up_28 (fX9_up_16  n) mm_fuel a0 x1 x2 0 σ))))
def fX9_up (p0 : Nat) (p1 : Int32) (σ : mm_M) : Option mm_M :=
  mm_sh σ p0 (.inl 9) (mm_on (mm_R σ p0 5) fun q2 => mm_ar σ q2 0 fun n3 => mm_ib p1 n3 (mm_on (mm_R σ p0 8) fun q5 => mm_ar σ q5 0 fun n6 => mm_ib p1 n6 ((fX9_up_16  mm_fuel p0 p1 (((mm_I σ q2 p1.toNatClampNeg) - (mm_I σ q5 p1.toNatClampNeg)) + 1) σ))))
set_option maxHeartbeats 4000000 in
set_option maxRecDepth 100000 in
theorem kX9_up_28 {G : mm_G} {A : Nat → Prop} {ini : Bool} {k16 : Nat → Int32 → Int32 → mm_M → Option mm_M} {R : mm_M} (hk16 : ∀ a0 x1 x2 σ, k16 a0 x1 x2 σ = some R → mm_J cd_Y G RX9 cX9_up 4 none ini rmX9_up A (mm_QF cd_Y G A (mm_Pv R) rmX9_up.cells rmX9_up.slots) 16 [(0, .ref a0), (1, .int x1), (2, .int x2)] [] σ 0 0) : ∀ (a0 : Nat) (x1 : Int32) (x2 : Int32) (x3 : Int32) (σ : mm_M), fX9_up_28 k16 mm_fuel a0 x1 x2 x3 σ = some R → mm_J cd_Y G RX9 cX9_up 4 none ini rmX9_up A (mm_QF cd_Y G A (mm_Pv R) rmX9_up.cells rmX9_up.slots) 28 [(0, .ref a0), (1, .int x1), (2, .int x2), (3, .int x3)] [] σ 0 0 := by
  generalize mm_fuel = n
  induction n with
  | zero => intro a0 x1 x2 x3 σ hf; cases hf
  | succ n ih =>
    intro a0 x1 x2 x3 σ hf
    unfold fX9_up_28 at hf
    refine mm_iload_n (j := 3) dX9_up_28 rfl rfl ?_
    refine mm_bipush (v := 32) dX9_up_29 (by decide) ?_
    refine mm_icmp_ge (tgt := 101) dX9_up_31 (by decide) (fun c24 => ?_) (fun c24 => ?_)
    · rw [if_pos c24] at hf
      refine mm_iinc (j := 2) (L' := [(2, .int (x2 + 1)), (0, .ref a0), (1, .int x1), (3, .int x3)]) dX9_up_101 rfl rfl (by decide) rfl ?_
      refine mm_goto (tgt := 16) dX9_up_104 (by decide) ?_
      refine mm_sub [1, 2, 0] rfl ?_
      exact hk16 a0 x1 (x2 + 1) σ hf
    · rw [if_neg c24] at hf
      refine mm_iload_n (j := 2) dX9_up_34 rfl rfl ?_
      refine mm_iconst (v := 1) dX9_up_35 (by decide) ?_
      refine mm_icmp_lt (tgt := 101) dX9_up_36 (by decide) (fun c25 => ?_) (fun c25 => ?_)
      · rw [if_pos c25] at hf
        refine mm_iinc (j := 2) (L' := [(2, .int (x2 + 1)), (0, .ref a0), (1, .int x1), (3, .int x3)]) dX9_up_101 rfl rfl (by decide) rfl ?_
        refine mm_goto (tgt := 16) dX9_up_104 (by decide) ?_
        refine mm_sub [1, 2, 0] rfl ?_
        exact hk16 a0 x1 (x2 + 1) σ hf
      · rw [if_neg c25] at hf
        refine mm_aload_n (j := 0) dX9_up_39 rfl rfl ?_
        obtain ⟨hs26, hf⟩ := mm_sh_s hf
        refine mm_get (c := 9) (k := 1) (v := va_rf (mm_R σ a0 1)) cd_ok ⟨_, _, _, rfl, by decide, Or.inl tw_795⟩ hs26 rfl dX9_up_40 ?_
        refine mm_aload_n (j := 0) dX9_up_43 rfl rfl ?_
        refine mm_iload_n (j := 1) dX9_up_44 rfl rfl ?_
        refine mm_iconst (v := 0) dX9_up_45 (by decide) ?_
        refine mm_iload_n (j := 2) dX9_up_46 rfl rfl ?_
        refine mm_iload_n (j := 3) dX9_up_47 rfl rfl ?_
        obtain ⟨q27, hq27, hf⟩ := mm_on_s hf
        refine mm_callVi cd_ok (kX9_cellAt a0 x1 0 x2 x3 hq27) hs26 rfl (Or.inl tw_970) cdX9_cellAt tw_972 ts_36 nmX9_cellAt rfl rfl (by simp only [List.map_cons, List.map_nil, mm_rf_cat]; exact Nat.le_of_ble_eq_true rfl) dX9_up_48 ⟨Nat.le_of_ble_eq_true rfl, Nat.le_of_ble_eq_true rfl⟩ ⟨Nat.le_of_ble_eq_true rfl, Nat.le_of_ble_eq_true rfl⟩ ?_
        refine mm_aload_n (j := 0) dX9_up_51 rfl rfl ?_
        obtain ⟨hs28, hf⟩ := mm_sh_s hf
        refine mm_get (c := 9) (k := 1) (v := va_rf (mm_R q27.2 a0 1)) cd_ok ⟨_, _, _, rfl, by decide, Or.inl tw_795⟩ hs28 rfl dX9_up_52 ?_
        refine mm_aload_n (j := 0) dX9_up_55 rfl rfl ?_
        refine mm_iload_n (j := 1) dX9_up_56 rfl rfl ?_
        refine mm_iconst (v := 0) dX9_up_57 (by decide) ?_
        refine mm_iload_n (j := 2) dX9_up_58 rfl rfl ?_
        refine mm_iconst (v := 1) dX9_up_59 (by decide) ?_
        refine mm_iadd dX9_up_60 ?_
        refine mm_iload_n (j := 3) dX9_up_61 rfl rfl ?_
        obtain ⟨q29, hq29, hf⟩ := mm_on_s hf
        refine mm_callVi cd_ok (kX9_cellAt a0 x1 0 (x2 + 1) x3 hq29) hs28 rfl (Or.inl tw_970) cdX9_cellAt tw_972 ts_36 nmX9_cellAt rfl rfl (by simp only [List.map_cons, List.map_nil, mm_rf_cat]; exact Nat.le_of_ble_eq_true rfl) dX9_up_62 ⟨Nat.le_of_ble_eq_true rfl, Nat.le_of_ble_eq_true rfl⟩ ⟨Nat.le_of_ble_eq_true rfl, Nat.le_of_ble_eq_true rfl⟩ ?_
        obtain ⟨q30, hq30, hf⟩ := mm_on_s hf
        rw [hq30, mm_rf_some]
        obtain ⟨n31, hn31, hf⟩ := mm_ar_s hf
        obtain ⟨hi32, hf⟩ := mm_ib_s hf
        refine mm_iald hn31 rfl hi32 dX9_up_65 ?_
        obtain ⟨q33, hq33, hf⟩ := mm_on_s hf
        rw [hq33, mm_rf_some]
        obtain ⟨n34, hn34, hf⟩ := mm_ar_s hf
        obtain ⟨hi35, hf⟩ := mm_ib_s hf
        refine mm_iast hn34 rfl hi35 dX9_up_66 ?_
        refine mm_aload_n (j := 0) dX9_up_67 rfl rfl ?_
        obtain ⟨hs36, hf⟩ := mm_sh_s hf
        refine mm_get (c := 9) (k := 2) (v := va_rf (mm_R (mm_wI q29.2 q33 (q27.1.toNatClampNeg) (mm_I q29.2 q30 q29.1.toNatClampNeg)) a0 2)) cd_ok ⟨_, _, _, rfl, by decide, Or.inl tw_796⟩ hs36 rfl dX9_up_68 ?_
        refine mm_aload_n (j := 0) dX9_up_71 rfl rfl ?_
        refine mm_iload_n (j := 1) dX9_up_72 rfl rfl ?_
        refine mm_iconst (v := 0) dX9_up_73 (by decide) ?_
        refine mm_iload_n (j := 2) dX9_up_74 rfl rfl ?_
        refine mm_iload_n (j := 3) dX9_up_75 rfl rfl ?_
        obtain ⟨q37, hq37, hf⟩ := mm_on_s hf
        refine mm_callVi cd_ok (kX9_cellAt a0 x1 0 x2 x3 hq37) hs36 rfl (Or.inl tw_970) cdX9_cellAt tw_972 ts_36 nmX9_cellAt rfl rfl (by simp only [List.map_cons, List.map_nil, mm_rf_cat]; exact Nat.le_of_ble_eq_true rfl) dX9_up_76 ⟨Nat.le_of_ble_eq_true rfl, Nat.le_of_ble_eq_true rfl⟩ ⟨Nat.le_of_ble_eq_true rfl, Nat.le_of_ble_eq_true rfl⟩ ?_
        refine mm_aload_n (j := 0) dX9_up_79 rfl rfl ?_
        obtain ⟨hs38, hf⟩ := mm_sh_s hf
        refine mm_get (c := 9) (k := 2) (v := va_rf (mm_R q37.2 a0 2)) cd_ok ⟨_, _, _, rfl, by decide, Or.inl tw_796⟩ hs38 rfl dX9_up_80 ?_
        refine mm_aload_n (j := 0) dX9_up_83 rfl rfl ?_
        refine mm_iload_n (j := 1) dX9_up_84 rfl rfl ?_
        refine mm_iconst (v := 0) dX9_up_85 (by decide) ?_
        refine mm_iload_n (j := 2) dX9_up_86 rfl rfl ?_
        refine mm_iconst (v := 1) dX9_up_87 (by decide) ?_
        refine mm_iadd dX9_up_88 ?_
        refine mm_iload_n (j := 3) dX9_up_89 rfl rfl ?_
        obtain ⟨q39, hq39, hf⟩ := mm_on_s hf
        refine mm_callVi cd_ok (kX9_cellAt a0 x1 0 (x2 + 1) x3 hq39) hs38 rfl (Or.inl tw_970) cdX9_cellAt tw_972 ts_36 nmX9_cellAt rfl rfl (by simp only [List.map_cons, List.map_nil, mm_rf_cat]; exact Nat.le_of_ble_eq_true rfl) dX9_up_90 ⟨Nat.le_of_ble_eq_true rfl, Nat.le_of_ble_eq_true rfl⟩ ⟨Nat.le_of_ble_eq_true rfl, Nat.le_of_ble_eq_true rfl⟩ ?_
        obtain ⟨q40, hq40, hf⟩ := mm_on_s hf
        rw [hq40, mm_rf_some]
        obtain ⟨n41, hn41, hf⟩ := mm_ar_s hf
        obtain ⟨hi42, hf⟩ := mm_ib_s hf
        refine mm_iald hn41 rfl hi42 dX9_up_93 ?_
        obtain ⟨q43, hq43, hf⟩ := mm_on_s hf
        rw [hq43, mm_rf_some]
        obtain ⟨n44, hn44, hf⟩ := mm_ar_s hf
        obtain ⟨hi45, hf⟩ := mm_ib_s hf
        refine mm_iast hn44 rfl hi45 dX9_up_94 ?_
        refine mm_iinc (j := 3) (L' := [(3, .int (x3 + 1)), (0, .ref a0), (1, .int x1), (2, .int x2)]) dX9_up_95 rfl rfl (by decide) rfl ?_
        refine mm_goto (tgt := 28) dX9_up_98 (by decide) ?_
        refine mm_sub [1, 2, 3, 0] rfl ?_
        exact ih a0 x1 x2 (x3 + 1) (mm_wI q39.2 q43 (q37.1.toNatClampNeg) (mm_I q39.2 q40 q39.1.toNatClampNeg)) hf
set_option maxHeartbeats 4000000 in
set_option maxRecDepth 100000 in
theorem kX9_up_16 {G : mm_G} {A : Nat → Prop} {ini : Bool}  {R : mm_M}  : ∀ (a0 : Nat) (x1 : Int32) (x2 : Int32) (σ : mm_M), fX9_up_16  mm_fuel a0 x1 x2 σ = some R → mm_J cd_Y G RX9 cX9_up 4 none ini rmX9_up A (mm_QF cd_Y G A (mm_Pv R) rmX9_up.cells rmX9_up.slots) 16 [(0, .ref a0), (1, .int x1), (2, .int x2)] [] σ 0 0 := by
  generalize mm_fuel = n
  induction n with
  | zero => intro a0 x1 x2 σ hf; cases hf
  | succ n ih =>
    intro a0 x1 x2 σ hf
    unfold fX9_up_16 at hf
    refine mm_iload_n (j := 2) dX9_up_16 rfl rfl ?_
    refine mm_aload_n (j := 0) dX9_up_17 rfl rfl ?_
    obtain ⟨hs8, hf⟩ := mm_sh_s hf
    refine mm_get (c := 9) (k := 5) (v := va_rf (mm_R σ a0 5)) cd_ok ⟨_, _, _, rfl, by decide, Or.inl tw_799⟩ hs8 rfl dX9_up_18 ?_
    refine mm_iload_n (j := 1) dX9_up_21 rfl rfl ?_
    obtain ⟨q9, hq9, hf⟩ := mm_on_s hf
    rw [hq9, mm_rf_some]
    obtain ⟨n10, hn10, hf⟩ := mm_ar_s hf
    obtain ⟨hi11, hf⟩ := mm_ib_s hf
    refine mm_iald hn10 rfl hi11 dX9_up_22 ?_
    refine mm_icmp_ge (tgt := 107) dX9_up_23 (by decide) (fun c12 => ?_) (fun c12 => ?_)
    · rw [if_pos c12] at hf
      refine mm_aload_n (j := 0) dX9_up_107 rfl rfl ?_
      refine mm_iload_n (j := 1) dX9_up_108 rfl rfl ?_
      refine mm_iconst (v := 0) dX9_up_109 (by decide) ?_
      refine mm_aload_n (j := 0) dX9_up_110 rfl rfl ?_
      refine mm_get (c := 9) (k := 5) (v := va_rf (mm_R σ a0 5)) cd_ok ⟨_, _, _, rfl, by decide, Or.inl tw_799⟩ hs8 rfl dX9_up_111 ?_
      refine mm_iload_n (j := 1) dX9_up_114 rfl rfl ?_
      obtain ⟨q13, hq13, hf⟩ := mm_on_s hf
      rw [hq13, mm_rf_some]
      obtain ⟨n14, hn14, hf⟩ := mm_ar_s hf
      obtain ⟨hi15, hf⟩ := mm_ib_s hf
      refine mm_iald hn14 rfl hi15 dX9_up_115 ?_
      obtain ⟨q16, hq16, hf⟩ := mm_on_s hf
      refine mm_callVv cd_ok (kX9_clearRow a0 x1 0 (mm_I σ q13 x1.toNatClampNeg) hq16) hs8 rfl (Or.inl tw_974) cdX9_clearRow tw_976 ts_37 nmX9_clearRow rfl rfl (by simp only [List.map_cons, List.map_nil, mm_rf_cat]; exact Nat.le_of_ble_eq_true rfl) dX9_up_116 ⟨Nat.le_of_ble_eq_true rfl, Nat.le_of_ble_eq_true rfl⟩ ⟨Nat.le_of_ble_eq_true rfl, Nat.le_of_ble_eq_true rfl⟩ ?_
      refine mm_aload_n (j := 0) dX9_up_119 rfl rfl ?_
      obtain ⟨hs17, hf⟩ := mm_sh_s hf
      refine mm_get (c := 9) (k := 6) (v := va_rf (mm_R q16 a0 6)) cd_ok ⟨_, _, _, rfl, by decide, Or.inl tw_800⟩ hs17 rfl dX9_up_120 ?_
      refine mm_iload_n (j := 1) dX9_up_123 rfl rfl ?_
      refine mm_iconst (v := 0) dX9_up_124 (by decide) ?_
      obtain ⟨q18, hq18, hf⟩ := mm_on_s hf
      rw [hq18, mm_rf_some]
      obtain ⟨n19, hn19, hf⟩ := mm_ar_s hf
      obtain ⟨hi20, hf⟩ := mm_ib_s hf
      refine mm_iast hn19 rfl hi20 dX9_up_125 ?_
      refine mm_aload_n (j := 0) dX9_up_126 rfl rfl ?_
      refine mm_get (c := 9) (k := 7) (v := va_rf (mm_R (mm_wI q16 q18 (x1.toNatClampNeg) 0) a0 7)) cd_ok ⟨_, _, _, rfl, by decide, Or.inl tw_801⟩ hs17 rfl dX9_up_127 ?_
      refine mm_iload_n (j := 1) dX9_up_130 rfl rfl ?_
      refine mm_iconst (v := 0) dX9_up_131 (by decide) ?_
      obtain ⟨q21, hq21, hf⟩ := mm_on_s hf
      rw [hq21, mm_rf_some]
      obtain ⟨n22, hn22, hf⟩ := mm_ar_s hf
      obtain ⟨hi23, hf⟩ := mm_ib_s hf
      refine mm_iast hn22 rfl hi23 dX9_up_132 ?_
      cases hf
      exact mm_vret rfl dX9_up_133 ⟨rfl, rfl⟩
    · rw [if_neg c12] at hf
      refine mm_iconst (v := 0) dX9_up_26 (by decide) ?_
      refine mm_istore_n (L' := [(3, .int 0), (0, .ref a0), (1, .int x1), (2, .int x2)]) dX9_up_27 rfl (by decide) rfl ?_
      refine mm_sub [1, 2, 3, 0] rfl ?_
      exact kX9_up_28 ih a0 x1 x2 0 σ hf
set_option maxHeartbeats 4000000 in
set_option maxRecDepth 100000 in
theorem kX9_up {G : mm_G} {A : Nat → Prop} (p0 : Nat) (p1 : Int32) {σ : mm_M} {R : mm_M} (hf : fX9_up p0 p1 σ = some R) : mm_C cd_Y G yX9_up cX9_up 4 none rmX9_up A [.ref p0, .int p1] σ (mm_Pv R) := by
  refine mm_C.of (by decide) (Nat.le_of_ble_eq_true rfl) ?_
  unfold fX9_up at hf
  have e0 : lv_args 0 [.ref p0, .int p1] = [(0, .ref p0), (1, .int p1)] := rfl
  rw [e0]
  generalize hini : (yX9_up.name == "<init>") = ini
  clear e0
  clear hini
  refine mm_aload_n (j := 0) dX9_up_0 rfl rfl ?_
  obtain ⟨hs1, hf⟩ := mm_sh_s hf
  refine mm_get (c := 9) (k := 5) (v := va_rf (mm_R σ p0 5)) cd_ok ⟨_, _, _, rfl, by decide, Or.inl tw_799⟩ hs1 rfl dX9_up_1 ?_
  refine mm_iload_n (j := 1) dX9_up_4 rfl rfl ?_
  obtain ⟨q2, hq2, hf⟩ := mm_on_s hf
  rw [hq2, mm_rf_some]
  obtain ⟨n3, hn3, hf⟩ := mm_ar_s hf
  obtain ⟨hi4, hf⟩ := mm_ib_s hf
  refine mm_iald hn3 rfl hi4 dX9_up_5 ?_
  refine mm_aload_n (j := 0) dX9_up_6 rfl rfl ?_
  refine mm_get (c := 9) (k := 8) (v := va_rf (mm_R σ p0 8)) cd_ok ⟨_, _, _, rfl, by decide, Or.inl tw_802⟩ hs1 rfl dX9_up_7 ?_
  refine mm_iload_n (j := 1) dX9_up_10 rfl rfl ?_
  obtain ⟨q5, hq5, hf⟩ := mm_on_s hf
  rw [hq5, mm_rf_some]
  obtain ⟨n6, hn6, hf⟩ := mm_ar_s hf
  obtain ⟨hi7, hf⟩ := mm_ib_s hf
  refine mm_iald hn6 rfl hi7 dX9_up_11 ?_
  refine mm_isub dX9_up_12 ?_
  refine mm_iconst (v := 1) dX9_up_13 (by decide) ?_
  refine mm_iadd dX9_up_14 ?_
  refine mm_istore_n (L' := [(2, .int (((mm_I σ q2 p1.toNatClampNeg) - (mm_I σ q5 p1.toNatClampNeg)) + 1)), (0, .ref p0), (1, .int p1)]) dX9_up_15 rfl (by decide) rfl ?_
  refine mm_sub [1, 2, 0] rfl ?_
  exact kX9_up_16  p0 p1 (((mm_I σ q2 p1.toNatClampNeg) - (mm_I σ q5 p1.toNatClampNeg)) + 1) σ hf
theorem dX9_cell_0 : decode cX9_cell 0 = .ok (.aload_n 0, 1) := by decide +kernel
theorem dX9_cell_1 : decode cX9_cell 1 = .ok (.iload_n 1, 1) := by decide +kernel
theorem dX9_cell_2 : decode cX9_cell 2 = .ok (.iconst 0, 1) := by decide +kernel
theorem dX9_cell_3 : decode cX9_cell 3 = .ok (.iconst 3, 1) := by decide +kernel
theorem dX9_cell_4 : decode cX9_cell 4 = .ok (.invokestatic 153, 3) := by decide +kernel
theorem dX9_cell_7 : decode cX9_cell 7 = .ok (.ifCond .eq 47, 3) := by decide +kernel
theorem dX9_cell_10 : decode cX9_cell 10 = .ok (.iload_n 2, 1) := by decide +kernel
theorem dX9_cell_11 : decode cX9_cell 11 = .ok (.iconst 0, 1) := by decide +kernel
theorem dX9_cell_12 : decode cX9_cell 12 = .ok (.iconst 1, 1) := by decide +kernel
theorem dX9_cell_13 : decode cX9_cell 13 = .ok (.invokestatic 153, 3) := by decide +kernel
theorem dX9_cell_16 : decode cX9_cell 16 = .ok (.ifCond .eq 38, 3) := by decide +kernel
theorem dX9_cell_19 : decode cX9_cell 19 = .ok (.iload_n 3, 1) := by decide +kernel
theorem dX9_cell_20 : decode cX9_cell 20 = .ok (.iconst 1, 1) := by decide +kernel
theorem dX9_cell_21 : decode cX9_cell 21 = .ok (.bipush 15, 2) := by decide +kernel
theorem dX9_cell_23 : decode cX9_cell 23 = .ok (.invokestatic 153, 3) := by decide +kernel
theorem dX9_cell_26 : decode cX9_cell 26 = .ok (.ifCond .eq 28, 3) := by decide +kernel
theorem dX9_cell_29 : decode cX9_cell 29 = .ok (.iload 4, 2) := by decide +kernel
theorem dX9_cell_31 : decode cX9_cell 31 = .ok (.iconst 0, 1) := by decide +kernel
theorem dX9_cell_32 : decode cX9_cell 32 = .ok (.bipush 31, 2) := by decide +kernel
theorem dX9_cell_34 : decode cX9_cell 34 = .ok (.invokestatic 153, 3) := by decide +kernel
theorem dX9_cell_37 : decode cX9_cell 37 = .ok (.ifCond .eq 17, 3) := by decide +kernel
theorem dX9_cell_40 : decode cX9_cell 40 = .ok (.iload 5, 2) := by decide +kernel
theorem dX9_cell_42 : decode cX9_cell 42 = .ok (.iconst 0, 1) := by decide +kernel
theorem dX9_cell_43 : decode cX9_cell 43 = .ok (.iconst 1, 1) := by decide +kernel
theorem dX9_cell_44 : decode cX9_cell 44 = .ok (.invokestatic 153, 3) := by decide +kernel
theorem dX9_cell_47 : decode cX9_cell 47 = .ok (.ifCond .eq 7, 3) := by decide +kernel
theorem dX9_cell_50 : decode cX9_cell 50 = .ok (.iconst 1, 1) := by decide +kernel
theorem dX9_cell_51 : decode cX9_cell 51 = .ok (.goto 4, 3) := by decide +kernel
theorem dX9_cell_54 : decode cX9_cell 54 = .ok (.iconst 0, 1) := by decide +kernel
theorem dX9_cell_55 : decode cX9_cell 55 = .ok (.invokevirtual 169, 3) := by decide +kernel
theorem dX9_cell_58 : decode cX9_cell 58 = .ok (.ifCond .ne 5, 3) := by decide +kernel
theorem dX9_cell_61 : decode cX9_cell 61 = .ok (.iconst 0, 1) := by decide +kernel
theorem dX9_cell_62 : decode cX9_cell 62 = .ok (.ireturn, 1) := by decide +kernel
theorem dX9_cell_63 : decode cX9_cell 63 = .ok (.aload_n 0, 1) := by decide +kernel
theorem dX9_cell_64 : decode cX9_cell 64 = .ok (.iload_n 1, 1) := by decide +kernel
theorem dX9_cell_65 : decode cX9_cell 65 = .ok (.iload_n 2, 1) := by decide +kernel
theorem dX9_cell_66 : decode cX9_cell 66 = .ok (.iload_n 3, 1) := by decide +kernel
theorem dX9_cell_67 : decode cX9_cell 67 = .ok (.iload 4, 2) := by decide +kernel
theorem dX9_cell_69 : decode cX9_cell 69 = .ok (.invokevirtual 124, 3) := by decide +kernel
theorem dX9_cell_72 : decode cX9_cell 72 = .ok (.istore 6, 2) := by decide +kernel
theorem dX9_cell_74 : decode cX9_cell 74 = .ok (.iload 5, 2) := by decide +kernel
theorem dX9_cell_76 : decode cX9_cell 76 = .ok (.ifCond .ne 13, 3) := by decide +kernel
theorem dX9_cell_79 : decode cX9_cell 79 = .ok (.aload_n 0, 1) := by decide +kernel
theorem dX9_cell_80 : decode cX9_cell 80 = .ok (.getfield 7, 3) := by decide +kernel
theorem dX9_cell_83 : decode cX9_cell 83 = .ok (.iload 6, 2) := by decide +kernel
theorem dX9_cell_85 : decode cX9_cell 85 = .ok (.iaload, 1) := by decide +kernel
theorem dX9_cell_86 : decode cX9_cell 86 = .ok (.goto 10, 3) := by decide +kernel
theorem dX9_cell_89 : decode cX9_cell 89 = .ok (.aload_n 0, 1) := by decide +kernel
theorem dX9_cell_90 : decode cX9_cell 90 = .ok (.getfield 13, 3) := by decide +kernel
theorem dX9_cell_93 : decode cX9_cell 93 = .ok (.iload 6, 2) := by decide +kernel
theorem dX9_cell_95 : decode cX9_cell 95 = .ok (.iaload, 1) := by decide +kernel
theorem dX9_cell_96 : decode cX9_cell 96 = .ok (.ireturn, 1) := by decide +kernel
theorem nmX9_cell : mm_nm yX9_cell 5 := ⟨by decide, by decide, by decide +kernel⟩
theorem cdX9_cell : mm_cd cd_Y yX9_cell cX9_cell 7 (some .int) := ⟨tw_1005, tw_8⟩
abbrev rmX9_cell : Room := { frames := 1, cells := 0, slots := 0, locals := 25 }
def fX9_cell_55  (a0 : Nat) (x1 : Int32) (x2 : Int32) (x3 : Int32) (x4 : Int32) (x5 : Int32) (y0 : Int32) (y1 : Nat) (σ : mm_M) : Option (Int32 × mm_M) :=
  mm_sh σ y1 (.inl 9) (mm_on (fX9_goes y1 y0 σ) fun q3 => (if q3.1 = 0 then some (0, q3.2) else mm_sh q3.2 a0 (.inl 9) (mm_on (fX9_cellAt a0 x1 x2 x3 x4 q3.2) fun q6 => (if x5 = 0 then mm_sh q6.2 a0 (.inl 9) (mm_on (mm_R q6.2 a0 1) fun q13 => mm_ar q6.2 q13 0 fun n14 => mm_ib q6.1 n14 (some (mm_I q6.2 q13 q6.1.toNatClampNeg, q6.2))) else mm_sh q6.2 a0 (.inl 9) (mm_on (mm_R q6.2 a0 2) fun q9 => mm_ar q6.2 q9 0 fun n10 => mm_ib q6.1 n10 (some (mm_I q6.2 q9 q6.1.toNatClampNeg, q6.2)))))))
def fX9_cell_54  (a0 : Nat) (x1 : Int32) (x2 : Int32) (x3 : Int32) (x4 : Int32) (x5 : Int32) (y0 : Nat) (σ : mm_M) : Option (Int32 × mm_M) :=
  (fX9_cell_55  a0 x1 x2 x3 x4 x5 0 y0 σ)
def fX9_cell (p0 : Nat) (p1 : Int32) (p2 : Int32) (p3 : Int32) (p4 : Int32) (p5 : Int32) (σ : mm_M) : Option (Int32 × mm_M) :=
  (if (fX9_in p1 0 3) = 0 then (fX9_cell_54  p0 p1 p2 p3 p4 p5 p0 σ) else (if (fX9_in p2 0 1) = 0 then (fX9_cell_54  p0 p1 p2 p3 p4 p5 p0 σ) else (if (fX9_in p3 1 15) = 0 then (fX9_cell_54  p0 p1 p2 p3 p4 p5 p0 σ) else (if (fX9_in p4 0 31) = 0 then (fX9_cell_54  p0 p1 p2 p3 p4 p5 p0 σ) else (if (fX9_in p5 0 1) = 0 then (fX9_cell_54  p0 p1 p2 p3 p4 p5 p0 σ) else (fX9_cell_55  p0 p1 p2 p3 p4 p5 1 p0 σ))))))
set_option maxHeartbeats 4000000 in
set_option maxRecDepth 100000 in
theorem kX9_cell_55 {G : mm_G} {A : Nat → Prop} {ini : Bool}  {R : (Int32 × mm_M)}  (a0 : Nat) (x1 : Int32) (x2 : Int32) (x3 : Int32) (x4 : Int32) (x5 : Int32) (y0 : Int32) (y1 : Nat) (σ : mm_M) (hf : fX9_cell_55  a0 x1 x2 x3 x4 x5 y0 y1 σ = some R) : mm_J cd_Y G RX9 cX9_cell 7 (some .int) ini rmX9_cell A (mm_QF cd_Y G A (mm_Pi R.1 R.2) rmX9_cell.cells rmX9_cell.slots) 55 [(0, .ref a0), (1, .int x1), (2, .int x2), (3, .int x3), (4, .int x4), (5, .int x5)] [.int y0, .ref y1] σ 0 0 := by
  unfold fX9_cell_55 at hf
  obtain ⟨hs2, hf⟩ := mm_sh_s hf
  obtain ⟨q3, hq3, hf⟩ := mm_on_s hf
  refine mm_callVi cd_ok (kX9_goes y1 y0 hq3) hs2 rfl (Or.inl tw_944) cdX9_goes tw_946 ts_31 nmX9_goes rfl rfl (by simp only [List.map_cons, List.map_nil, mm_rf_cat]; exact Nat.le_of_ble_eq_true rfl) dX9_cell_55 ⟨Nat.le_of_ble_eq_true rfl, Nat.le_of_ble_eq_true rfl⟩ ⟨Nat.le_of_ble_eq_true rfl, Nat.le_of_ble_eq_true rfl⟩ ?_
  refine mm_if_ne (tgt := 63) dX9_cell_58 (by decide) (fun c4 => ?_) (fun c4 => ?_)
  · rw [if_neg c4] at hf
    refine mm_aload_n (j := 0) dX9_cell_63 rfl rfl ?_
    refine mm_iload_n (j := 1) dX9_cell_64 rfl rfl ?_
    refine mm_iload_n (j := 2) dX9_cell_65 rfl rfl ?_
    refine mm_iload_n (j := 3) dX9_cell_66 rfl rfl ?_
    refine mm_iload (j := 4) dX9_cell_67 rfl ?_
    obtain ⟨hs5, hf⟩ := mm_sh_s hf
    obtain ⟨q6, hq6, hf⟩ := mm_on_s hf
    refine mm_callVi cd_ok (kX9_cellAt a0 x1 x2 x3 x4 hq6) hs5 rfl (Or.inl tw_970) cdX9_cellAt tw_972 ts_36 nmX9_cellAt rfl rfl (by simp only [List.map_cons, List.map_nil, mm_rf_cat]; exact Nat.le_of_ble_eq_true rfl) dX9_cell_69 ⟨Nat.le_of_ble_eq_true rfl, Nat.le_of_ble_eq_true rfl⟩ ⟨Nat.le_of_ble_eq_true rfl, Nat.le_of_ble_eq_true rfl⟩ ?_
    refine mm_istore (L' := [(6, .int q6.1), (0, .ref a0), (1, .int x1), (2, .int x2), (3, .int x3), (4, .int x4), (5, .int x5)]) dX9_cell_72 (by decide) rfl ?_
    refine mm_iload (j := 6) dX9_cell_74 rfl ?_
    refine mm_if_ne (tgt := 89) dX9_cell_76 (by decide) (fun c7 => ?_) (fun c7 => ?_)
    · rw [if_neg c7] at hf
      refine mm_aload_n (j := 1) dX9_cell_89 rfl rfl ?_
      obtain ⟨hs8, hf⟩ := mm_sh_s hf
      refine mm_get (c := 9) (k := 2) (v := va_rf (mm_R q6.2 a0 2)) cd_ok ⟨_, _, _, rfl, by decide, Or.inl tw_796⟩ hs8 rfl dX9_cell_90 ?_
      refine mm_iload (j := 0) dX9_cell_93 rfl ?_
      obtain ⟨q9, hq9, hf⟩ := mm_on_s hf
      rw [hq9, mm_rf_some]
      obtain ⟨n10, hn10, hf⟩ := mm_ar_s hf
      obtain ⟨hi11, hf⟩ := mm_ib_s hf
      refine mm_iald hn10 rfl hi11 dX9_cell_95 ?_
      cases hf
      exact mm_iret rfl rfl dX9_cell_96 ⟨rfl, rfl⟩
    · rw [if_pos c7] at hf
      refine mm_aload_n (j := 1) dX9_cell_79 rfl rfl ?_
      obtain ⟨hs12, hf⟩ := mm_sh_s hf
      refine mm_get (c := 9) (k := 1) (v := va_rf (mm_R q6.2 a0 1)) cd_ok ⟨_, _, _, rfl, by decide, Or.inl tw_795⟩ hs12 rfl dX9_cell_80 ?_
      refine mm_iload (j := 0) dX9_cell_83 rfl ?_
      obtain ⟨q13, hq13, hf⟩ := mm_on_s hf
      rw [hq13, mm_rf_some]
      obtain ⟨n14, hn14, hf⟩ := mm_ar_s hf
      obtain ⟨hi15, hf⟩ := mm_ib_s hf
      refine mm_iald hn14 rfl hi15 dX9_cell_85 ?_
      refine mm_goto (tgt := 96) dX9_cell_86 (by decide) ?_
      cases hf
      exact mm_iret rfl rfl dX9_cell_96 ⟨rfl, rfl⟩
  · rw [if_pos c4] at hf
    refine mm_iconst (v := 0) dX9_cell_61 (by decide) ?_
    cases hf
    exact mm_iret rfl rfl dX9_cell_62 ⟨rfl, rfl⟩
set_option maxHeartbeats 4000000 in
set_option maxRecDepth 100000 in
theorem kX9_cell_54 {G : mm_G} {A : Nat → Prop} {ini : Bool}  {R : (Int32 × mm_M)}  (a0 : Nat) (x1 : Int32) (x2 : Int32) (x3 : Int32) (x4 : Int32) (x5 : Int32) (y0 : Nat) (σ : mm_M) (hf : fX9_cell_54  a0 x1 x2 x3 x4 x5 y0 σ = some R) : mm_J cd_Y G RX9 cX9_cell 7 (some .int) ini rmX9_cell A (mm_QF cd_Y G A (mm_Pi R.1 R.2) rmX9_cell.cells rmX9_cell.slots) 54 [(0, .ref a0), (1, .int x1), (2, .int x2), (3, .int x3), (4, .int x4), (5, .int x5)] [.ref y0] σ 0 0 := by
  unfold fX9_cell_54 at hf
  refine mm_iconst (v := 0) dX9_cell_54 (by decide) ?_
  refine mm_sub [0, 1, 2, 3, 4, 5] rfl ?_
  exact kX9_cell_55  a0 x1 x2 x3 x4 x5 0 y0 σ hf
set_option maxHeartbeats 4000000 in
set_option maxRecDepth 100000 in
theorem kX9_cell {G : mm_G} {A : Nat → Prop} (p0 : Nat) (p1 : Int32) (p2 : Int32) (p3 : Int32) (p4 : Int32) (p5 : Int32) {σ : mm_M} {R : (Int32 × mm_M)} (hf : fX9_cell p0 p1 p2 p3 p4 p5 σ = some R) : mm_C cd_Y G yX9_cell cX9_cell 7 (some .int) rmX9_cell A [.ref p0, .int p1, .int p2, .int p3, .int p4, .int p5] σ (mm_Pi R.1 R.2) := by
  refine mm_C.of (by decide) (Nat.le_of_ble_eq_true rfl) ?_
  unfold fX9_cell at hf
  have e0 : lv_args 0 [.ref p0, .int p1, .int p2, .int p3, .int p4, .int p5] = [(0, .ref p0), (1, .int p1), (2, .int p2), (3, .int p3), (4, .int p4), (5, .int p5)] := rfl
  rw [e0]
  generalize hini : (yX9_cell.name == "<init>") = ini
  clear e0
  clear hini
  refine mm_aload_n (j := 0) dX9_cell_0 rfl rfl ?_
  refine mm_iload_n (j := 1) dX9_cell_1 rfl rfl ?_
  refine mm_iconst (v := 0) dX9_cell_2 (by decide) ?_
  refine mm_iconst (v := 3) dX9_cell_3 (by decide) ?_
  refine mm_callSi cd_ok (kX9_in p1 0 3 _ rfl) (Or.inl tw_941) cdX9_in tw_942 nmX9_in rfl rfl (by simp only [List.map_cons, List.map_nil, mm_rf_cat]; exact Nat.le_of_ble_eq_true rfl) dX9_cell_4 ⟨Nat.le_of_ble_eq_true rfl, Nat.le_of_ble_eq_true rfl⟩ ⟨Nat.le_of_ble_eq_true rfl, Nat.le_of_ble_eq_true rfl⟩ ?_
  refine mm_if_eq (tgt := 54) dX9_cell_7 (by decide) (fun c1 => ?_) (fun c1 => ?_)
  · rw [if_pos c1] at hf
    refine mm_sub [0, 1, 2, 3, 4, 5] rfl ?_
    exact kX9_cell_54  p0 p1 p2 p3 p4 p5 p0 σ hf
  · rw [if_neg c1] at hf
    refine mm_iload_n (j := 2) dX9_cell_10 rfl rfl ?_
    refine mm_iconst (v := 0) dX9_cell_11 (by decide) ?_
    refine mm_iconst (v := 1) dX9_cell_12 (by decide) ?_
    refine mm_callSi cd_ok (kX9_in p2 0 1 _ rfl) (Or.inl tw_941) cdX9_in tw_942 nmX9_in rfl rfl (by simp only [List.map_cons, List.map_nil, mm_rf_cat]; exact Nat.le_of_ble_eq_true rfl) dX9_cell_13 ⟨Nat.le_of_ble_eq_true rfl, Nat.le_of_ble_eq_true rfl⟩ ⟨Nat.le_of_ble_eq_true rfl, Nat.le_of_ble_eq_true rfl⟩ ?_
    refine mm_if_eq (tgt := 54) dX9_cell_16 (by decide) (fun c16 => ?_) (fun c16 => ?_)
    · rw [if_pos c16] at hf
      refine mm_sub [0, 1, 2, 3, 4, 5] rfl ?_
      exact kX9_cell_54  p0 p1 p2 p3 p4 p5 p0 σ hf
    · rw [if_neg c16] at hf
      refine mm_iload_n (j := 3) dX9_cell_19 rfl rfl ?_
      refine mm_iconst (v := 1) dX9_cell_20 (by decide) ?_
      refine mm_bipush (v := 15) dX9_cell_21 (by decide) ?_
      refine mm_callSi cd_ok (kX9_in p3 1 15 _ rfl) (Or.inl tw_941) cdX9_in tw_942 nmX9_in rfl rfl (by simp only [List.map_cons, List.map_nil, mm_rf_cat]; exact Nat.le_of_ble_eq_true rfl) dX9_cell_23 ⟨Nat.le_of_ble_eq_true rfl, Nat.le_of_ble_eq_true rfl⟩ ⟨Nat.le_of_ble_eq_true rfl, Nat.le_of_ble_eq_true rfl⟩ ?_
      refine mm_if_eq (tgt := 54) dX9_cell_26 (by decide) (fun c17 => ?_) (fun c17 => ?_)
      · rw [if_pos c17] at hf
        refine mm_sub [0, 1, 2, 3, 4, 5] rfl ?_
        exact kX9_cell_54  p0 p1 p2 p3 p4 p5 p0 σ hf
      · rw [if_neg c17] at hf
        refine mm_iload (j := 4) dX9_cell_29 rfl ?_
        refine mm_iconst (v := 0) dX9_cell_31 (by decide) ?_
        refine mm_bipush (v := 31) dX9_cell_32 (by decide) ?_
        refine mm_callSi cd_ok (kX9_in p4 0 31 _ rfl) (Or.inl tw_941) cdX9_in tw_942 nmX9_in rfl rfl (by simp only [List.map_cons, List.map_nil, mm_rf_cat]; exact Nat.le_of_ble_eq_true rfl) dX9_cell_34 ⟨Nat.le_of_ble_eq_true rfl, Nat.le_of_ble_eq_true rfl⟩ ⟨Nat.le_of_ble_eq_true rfl, Nat.le_of_ble_eq_true rfl⟩ ?_
        refine mm_if_eq (tgt := 54) dX9_cell_37 (by decide) (fun c18 => ?_) (fun c18 => ?_)
        · rw [if_pos c18] at hf
          refine mm_sub [0, 1, 2, 3, 4, 5] rfl ?_
          exact kX9_cell_54  p0 p1 p2 p3 p4 p5 p0 σ hf
        · rw [if_neg c18] at hf
          refine mm_iload (j := 5) dX9_cell_40 rfl ?_
          refine mm_iconst (v := 0) dX9_cell_42 (by decide) ?_
          refine mm_iconst (v := 1) dX9_cell_43 (by decide) ?_
          refine mm_callSi cd_ok (kX9_in p5 0 1 _ rfl) (Or.inl tw_941) cdX9_in tw_942 nmX9_in rfl rfl (by simp only [List.map_cons, List.map_nil, mm_rf_cat]; exact Nat.le_of_ble_eq_true rfl) dX9_cell_44 ⟨Nat.le_of_ble_eq_true rfl, Nat.le_of_ble_eq_true rfl⟩ ⟨Nat.le_of_ble_eq_true rfl, Nat.le_of_ble_eq_true rfl⟩ ?_
          refine mm_if_eq (tgt := 54) dX9_cell_47 (by decide) (fun c19 => ?_) (fun c19 => ?_)
          · rw [if_pos c19] at hf
            refine mm_sub [0, 1, 2, 3, 4, 5] rfl ?_
            exact kX9_cell_54  p0 p1 p2 p3 p4 p5 p0 σ hf
          · rw [if_neg c19] at hf
            refine mm_iconst (v := 1) dX9_cell_50 (by decide) ?_
            refine mm_goto (tgt := 55) dX9_cell_51 (by decide) ?_
            refine mm_sub [0, 1, 2, 3, 4, 5] rfl ?_
            exact kX9_cell_55  p0 p1 p2 p3 p4 p5 1 p0 σ hf
theorem dX9_state_0 : decode cX9_state 0 = .ok (.aload_n 0, 1) := by decide +kernel
theorem dX9_state_1 : decode cX9_state 1 = .ok (.iload_n 1, 1) := by decide +kernel
theorem dX9_state_2 : decode cX9_state 2 = .ok (.iconst 0, 1) := by decide +kernel
theorem dX9_state_3 : decode cX9_state 3 = .ok (.iconst 3, 1) := by decide +kernel
theorem dX9_state_4 : decode cX9_state 4 = .ok (.invokestatic 153, 3) := by decide +kernel
theorem dX9_state_7 : decode cX9_state 7 = .ok (.ifCond .eq 16, 3) := by decide +kernel
theorem dX9_state_10 : decode cX9_state 10 = .ok (.iload_n 2, 1) := by decide +kernel
theorem dX9_state_11 : decode cX9_state 11 = .ok (.iconst 0, 1) := by decide +kernel
theorem dX9_state_12 : decode cX9_state 12 = .ok (.iconst 4, 1) := by decide +kernel
theorem dX9_state_13 : decode cX9_state 13 = .ok (.invokestatic 153, 3) := by decide +kernel
theorem dX9_state_16 : decode cX9_state 16 = .ok (.ifCond .eq 7, 3) := by decide +kernel
theorem dX9_state_19 : decode cX9_state 19 = .ok (.iconst 1, 1) := by decide +kernel
theorem dX9_state_20 : decode cX9_state 20 = .ok (.goto 4, 3) := by decide +kernel
theorem dX9_state_23 : decode cX9_state 23 = .ok (.iconst 0, 1) := by decide +kernel
theorem dX9_state_24 : decode cX9_state 24 = .ok (.invokevirtual 169, 3) := by decide +kernel
theorem dX9_state_27 : decode cX9_state 27 = .ok (.ifCond .ne 5, 3) := by decide +kernel
theorem dX9_state_30 : decode cX9_state 30 = .ok (.iconst 0, 1) := by decide +kernel
theorem dX9_state_31 : decode cX9_state 31 = .ok (.ireturn, 1) := by decide +kernel
theorem dX9_state_32 : decode cX9_state 32 = .ok (.iload_n 2, 1) := by decide +kernel
theorem dX9_state_33 : decode cX9_state 33 = .ok (.ifCond .ne 12, 3) := by decide +kernel
theorem dX9_state_36 : decode cX9_state 36 = .ok (.aload_n 0, 1) := by decide +kernel
theorem dX9_state_37 : decode cX9_state 37 = .ok (.getfield 19, 3) := by decide +kernel
theorem dX9_state_40 : decode cX9_state 40 = .ok (.iload_n 1, 1) := by decide +kernel
theorem dX9_state_41 : decode cX9_state 41 = .ok (.iaload, 1) := by decide +kernel
theorem dX9_state_42 : decode cX9_state 42 = .ok (.goto 51, 3) := by decide +kernel
theorem dX9_state_45 : decode cX9_state 45 = .ok (.iload_n 2, 1) := by decide +kernel
theorem dX9_state_46 : decode cX9_state 46 = .ok (.iconst 1, 1) := by decide +kernel
theorem dX9_state_47 : decode cX9_state 47 = .ok (.if_icmp .ne 12, 3) := by decide +kernel
theorem dX9_state_50 : decode cX9_state 50 = .ok (.aload_n 0, 1) := by decide +kernel
theorem dX9_state_51 : decode cX9_state 51 = .ok (.getfield 22, 3) := by decide +kernel
theorem dX9_state_54 : decode cX9_state 54 = .ok (.iload_n 1, 1) := by decide +kernel
theorem dX9_state_55 : decode cX9_state 55 = .ok (.iaload, 1) := by decide +kernel
theorem dX9_state_56 : decode cX9_state 56 = .ok (.goto 37, 3) := by decide +kernel
theorem dX9_state_59 : decode cX9_state 59 = .ok (.iload_n 2, 1) := by decide +kernel
theorem dX9_state_60 : decode cX9_state 60 = .ok (.iconst 2, 1) := by decide +kernel
theorem dX9_state_61 : decode cX9_state 61 = .ok (.if_icmp .ne 12, 3) := by decide +kernel
theorem dX9_state_64 : decode cX9_state 64 = .ok (.aload_n 0, 1) := by decide +kernel
theorem dX9_state_65 : decode cX9_state 65 = .ok (.getfield 25, 3) := by decide +kernel
theorem dX9_state_68 : decode cX9_state 68 = .ok (.iload_n 1, 1) := by decide +kernel
theorem dX9_state_69 : decode cX9_state 69 = .ok (.iaload, 1) := by decide +kernel
theorem dX9_state_70 : decode cX9_state 70 = .ok (.goto 23, 3) := by decide +kernel
theorem dX9_state_73 : decode cX9_state 73 = .ok (.iload_n 2, 1) := by decide +kernel
theorem dX9_state_74 : decode cX9_state 74 = .ok (.iconst 3, 1) := by decide +kernel
theorem dX9_state_75 : decode cX9_state 75 = .ok (.if_icmp .ne 12, 3) := by decide +kernel
theorem dX9_state_78 : decode cX9_state 78 = .ok (.aload_n 0, 1) := by decide +kernel
theorem dX9_state_79 : decode cX9_state 79 = .ok (.getfield 28, 3) := by decide +kernel
theorem dX9_state_82 : decode cX9_state 82 = .ok (.iload_n 1, 1) := by decide +kernel
theorem dX9_state_83 : decode cX9_state 83 = .ok (.iaload, 1) := by decide +kernel
theorem dX9_state_84 : decode cX9_state 84 = .ok (.goto 9, 3) := by decide +kernel
theorem dX9_state_87 : decode cX9_state 87 = .ok (.aload_n 0, 1) := by decide +kernel
theorem dX9_state_88 : decode cX9_state 88 = .ok (.getfield 31, 3) := by decide +kernel
theorem dX9_state_91 : decode cX9_state 91 = .ok (.iload_n 1, 1) := by decide +kernel
theorem dX9_state_92 : decode cX9_state 92 = .ok (.iaload, 1) := by decide +kernel
theorem dX9_state_93 : decode cX9_state 93 = .ok (.ireturn, 1) := by decide +kernel
theorem nmX9_state : mm_nm yX9_state 2 := ⟨by decide, by decide, by decide +kernel⟩
theorem cdX9_state : mm_cd cd_Y yX9_state cX9_state 3 (some .int) := ⟨tw_1009, tw_8⟩
abbrev rmX9_state : Room := { frames := 1, cells := 0, slots := 0, locals := 22 }
def fX9_state_24  (a0 : Nat) (x1 : Int32) (x2 : Int32) (y0 : Int32) (y1 : Nat) (σ : mm_M) : Option (Int32 × mm_M) :=
  mm_sh σ y1 (.inl 9) (mm_on (fX9_goes y1 y0 σ) fun q3 => (if q3.1 = 0 then some (0, q3.2) else (if x2 = 0 then mm_sh q3.2 a0 (.inl 9) (mm_on (mm_R q3.2 a0 4) fun q26 => mm_ar q3.2 q26 0 fun n27 => mm_ib x1 n27 (some (mm_I q3.2 q26 x1.toNatClampNeg, q3.2))) else (if x2 = 1 then mm_sh q3.2 a0 (.inl 9) (mm_on (mm_R q3.2 a0 5) fun q22 => mm_ar q3.2 q22 0 fun n23 => mm_ib x1 n23 (some (mm_I q3.2 q22 x1.toNatClampNeg, q3.2))) else (if x2 = 2 then mm_sh q3.2 a0 (.inl 9) (mm_on (mm_R q3.2 a0 6) fun q18 => mm_ar q3.2 q18 0 fun n19 => mm_ib x1 n19 (some (mm_I q3.2 q18 x1.toNatClampNeg, q3.2))) else (if x2 = 3 then mm_sh q3.2 a0 (.inl 9) (mm_on (mm_R q3.2 a0 7) fun q14 => mm_ar q3.2 q14 0 fun n15 => mm_ib x1 n15 (some (mm_I q3.2 q14 x1.toNatClampNeg, q3.2))) else mm_sh q3.2 a0 (.inl 9) (mm_on (mm_R q3.2 a0 8) fun q10 => mm_ar q3.2 q10 0 fun n11 => mm_ib x1 n11 (some (mm_I q3.2 q10 x1.toNatClampNeg, q3.2)))))))))
def fX9_state_23  (a0 : Nat) (x1 : Int32) (x2 : Int32) (y0 : Nat) (σ : mm_M) : Option (Int32 × mm_M) :=
  (fX9_state_24  a0 x1 x2 0 y0 σ)
def fX9_state (p0 : Nat) (p1 : Int32) (p2 : Int32) (σ : mm_M) : Option (Int32 × mm_M) :=
  (if (fX9_in p1 0 3) = 0 then (fX9_state_23  p0 p1 p2 p0 σ) else (if (fX9_in p2 0 4) = 0 then (fX9_state_23  p0 p1 p2 p0 σ) else (fX9_state_24  p0 p1 p2 1 p0 σ)))
set_option maxHeartbeats 4000000 in
set_option maxRecDepth 100000 in
theorem kX9_state_24 {G : mm_G} {A : Nat → Prop} {ini : Bool}  {R : (Int32 × mm_M)}  (a0 : Nat) (x1 : Int32) (x2 : Int32) (y0 : Int32) (y1 : Nat) (σ : mm_M) (hf : fX9_state_24  a0 x1 x2 y0 y1 σ = some R) : mm_J cd_Y G RX9 cX9_state 3 (some .int) ini rmX9_state A (mm_QF cd_Y G A (mm_Pi R.1 R.2) rmX9_state.cells rmX9_state.slots) 24 [(0, .ref a0), (1, .int x1), (2, .int x2)] [.int y0, .ref y1] σ 0 0 := by
  unfold fX9_state_24 at hf
  obtain ⟨hs2, hf⟩ := mm_sh_s hf
  obtain ⟨q3, hq3, hf⟩ := mm_on_s hf
  refine mm_callVi cd_ok (kX9_goes y1 y0 hq3) hs2 rfl (Or.inl tw_944) cdX9_goes tw_946 ts_31 nmX9_goes rfl rfl (by simp only [List.map_cons, List.map_nil, mm_rf_cat]; exact Nat.le_of_ble_eq_true rfl) dX9_state_24 ⟨Nat.le_of_ble_eq_true rfl, Nat.le_of_ble_eq_true rfl⟩ ⟨Nat.le_of_ble_eq_true rfl, Nat.le_of_ble_eq_true rfl⟩ ?_
  refine mm_if_ne (tgt := 32) dX9_state_27 (by decide) (fun c4 => ?_) (fun c4 => ?_)
  · rw [if_neg c4] at hf
    refine mm_iload_n (j := 2) dX9_state_32 rfl rfl ?_
    refine mm_if_ne (tgt := 45) dX9_state_33 (by decide) (fun c5 => ?_) (fun c5 => ?_)
    · rw [if_neg c5] at hf
      refine mm_iload_n (j := 2) dX9_state_45 rfl rfl ?_
      refine mm_iconst (v := 1) dX9_state_46 (by decide) ?_
      refine mm_icmp_ne (tgt := 59) dX9_state_47 (by decide) (fun c6 => ?_) (fun c6 => ?_)
      · rw [if_neg c6] at hf
        refine mm_iload_n (j := 2) dX9_state_59 rfl rfl ?_
        refine mm_iconst (v := 2) dX9_state_60 (by decide) ?_
        refine mm_icmp_ne (tgt := 73) dX9_state_61 (by decide) (fun c7 => ?_) (fun c7 => ?_)
        · rw [if_neg c7] at hf
          refine mm_iload_n (j := 2) dX9_state_73 rfl rfl ?_
          refine mm_iconst (v := 3) dX9_state_74 (by decide) ?_
          refine mm_icmp_ne (tgt := 87) dX9_state_75 (by decide) (fun c8 => ?_) (fun c8 => ?_)
          · rw [if_neg c8] at hf
            refine mm_aload_n (j := 0) dX9_state_87 rfl rfl ?_
            obtain ⟨hs9, hf⟩ := mm_sh_s hf
            refine mm_get (c := 9) (k := 8) (v := va_rf (mm_R q3.2 a0 8)) cd_ok ⟨_, _, _, rfl, by decide, Or.inl tw_802⟩ hs9 rfl dX9_state_88 ?_
            refine mm_iload_n (j := 1) dX9_state_91 rfl rfl ?_
            obtain ⟨q10, hq10, hf⟩ := mm_on_s hf
            rw [hq10, mm_rf_some]
            obtain ⟨n11, hn11, hf⟩ := mm_ar_s hf
            obtain ⟨hi12, hf⟩ := mm_ib_s hf
            refine mm_iald hn11 rfl hi12 dX9_state_92 ?_
            cases hf
            exact mm_iret rfl rfl dX9_state_93 ⟨rfl, rfl⟩
          · rw [if_pos c8] at hf
            refine mm_aload_n (j := 0) dX9_state_78 rfl rfl ?_
            obtain ⟨hs13, hf⟩ := mm_sh_s hf
            refine mm_get (c := 9) (k := 7) (v := va_rf (mm_R q3.2 a0 7)) cd_ok ⟨_, _, _, rfl, by decide, Or.inl tw_801⟩ hs13 rfl dX9_state_79 ?_
            refine mm_iload_n (j := 1) dX9_state_82 rfl rfl ?_
            obtain ⟨q14, hq14, hf⟩ := mm_on_s hf
            rw [hq14, mm_rf_some]
            obtain ⟨n15, hn15, hf⟩ := mm_ar_s hf
            obtain ⟨hi16, hf⟩ := mm_ib_s hf
            refine mm_iald hn15 rfl hi16 dX9_state_83 ?_
            refine mm_goto (tgt := 93) dX9_state_84 (by decide) ?_
            cases hf
            exact mm_iret rfl rfl dX9_state_93 ⟨rfl, rfl⟩
        · rw [if_pos c7] at hf
          refine mm_aload_n (j := 0) dX9_state_64 rfl rfl ?_
          obtain ⟨hs17, hf⟩ := mm_sh_s hf
          refine mm_get (c := 9) (k := 6) (v := va_rf (mm_R q3.2 a0 6)) cd_ok ⟨_, _, _, rfl, by decide, Or.inl tw_800⟩ hs17 rfl dX9_state_65 ?_
          refine mm_iload_n (j := 1) dX9_state_68 rfl rfl ?_
          obtain ⟨q18, hq18, hf⟩ := mm_on_s hf
          rw [hq18, mm_rf_some]
          obtain ⟨n19, hn19, hf⟩ := mm_ar_s hf
          obtain ⟨hi20, hf⟩ := mm_ib_s hf
          refine mm_iald hn19 rfl hi20 dX9_state_69 ?_
          refine mm_goto (tgt := 93) dX9_state_70 (by decide) ?_
          cases hf
          exact mm_iret rfl rfl dX9_state_93 ⟨rfl, rfl⟩
      · rw [if_pos c6] at hf
        refine mm_aload_n (j := 0) dX9_state_50 rfl rfl ?_
        obtain ⟨hs21, hf⟩ := mm_sh_s hf
        refine mm_get (c := 9) (k := 5) (v := va_rf (mm_R q3.2 a0 5)) cd_ok ⟨_, _, _, rfl, by decide, Or.inl tw_799⟩ hs21 rfl dX9_state_51 ?_
        refine mm_iload_n (j := 1) dX9_state_54 rfl rfl ?_
        obtain ⟨q22, hq22, hf⟩ := mm_on_s hf
        rw [hq22, mm_rf_some]
        obtain ⟨n23, hn23, hf⟩ := mm_ar_s hf
        obtain ⟨hi24, hf⟩ := mm_ib_s hf
        refine mm_iald hn23 rfl hi24 dX9_state_55 ?_
        refine mm_goto (tgt := 93) dX9_state_56 (by decide) ?_
        cases hf
        exact mm_iret rfl rfl dX9_state_93 ⟨rfl, rfl⟩
    · rw [if_pos c5] at hf
      refine mm_aload_n (j := 0) dX9_state_36 rfl rfl ?_
      obtain ⟨hs25, hf⟩ := mm_sh_s hf
      refine mm_get (c := 9) (k := 4) (v := va_rf (mm_R q3.2 a0 4)) cd_ok ⟨_, _, _, rfl, by decide, Or.inl tw_798⟩ hs25 rfl dX9_state_37 ?_
      refine mm_iload_n (j := 1) dX9_state_40 rfl rfl ?_
      obtain ⟨q26, hq26, hf⟩ := mm_on_s hf
      rw [hq26, mm_rf_some]
      obtain ⟨n27, hn27, hf⟩ := mm_ar_s hf
      obtain ⟨hi28, hf⟩ := mm_ib_s hf
      refine mm_iald hn27 rfl hi28 dX9_state_41 ?_
      refine mm_goto (tgt := 93) dX9_state_42 (by decide) ?_
      cases hf
      exact mm_iret rfl rfl dX9_state_93 ⟨rfl, rfl⟩
  · rw [if_pos c4] at hf
    refine mm_iconst (v := 0) dX9_state_30 (by decide) ?_
    cases hf
    exact mm_iret rfl rfl dX9_state_31 ⟨rfl, rfl⟩
set_option maxHeartbeats 4000000 in
set_option maxRecDepth 100000 in
theorem kX9_state_23 {G : mm_G} {A : Nat → Prop} {ini : Bool}  {R : (Int32 × mm_M)}  (a0 : Nat) (x1 : Int32) (x2 : Int32) (y0 : Nat) (σ : mm_M) (hf : fX9_state_23  a0 x1 x2 y0 σ = some R) : mm_J cd_Y G RX9 cX9_state 3 (some .int) ini rmX9_state A (mm_QF cd_Y G A (mm_Pi R.1 R.2) rmX9_state.cells rmX9_state.slots) 23 [(0, .ref a0), (1, .int x1), (2, .int x2)] [.ref y0] σ 0 0 := by
  unfold fX9_state_23 at hf
  refine mm_iconst (v := 0) dX9_state_23 (by decide) ?_
  refine mm_sub [0, 1, 2] rfl ?_
  exact kX9_state_24  a0 x1 x2 0 y0 σ hf
set_option maxHeartbeats 4000000 in
set_option maxRecDepth 100000 in
theorem kX9_state {G : mm_G} {A : Nat → Prop} (p0 : Nat) (p1 : Int32) (p2 : Int32) {σ : mm_M} {R : (Int32 × mm_M)} (hf : fX9_state p0 p1 p2 σ = some R) : mm_C cd_Y G yX9_state cX9_state 3 (some .int) rmX9_state A [.ref p0, .int p1, .int p2] σ (mm_Pi R.1 R.2) := by
  refine mm_C.of (by decide) (Nat.le_of_ble_eq_true rfl) ?_
  unfold fX9_state at hf
  have e0 : lv_args 0 [.ref p0, .int p1, .int p2] = [(0, .ref p0), (1, .int p1), (2, .int p2)] := rfl
  rw [e0]
  generalize hini : (yX9_state.name == "<init>") = ini
  clear e0
  clear hini
  refine mm_aload_n (j := 0) dX9_state_0 rfl rfl ?_
  refine mm_iload_n (j := 1) dX9_state_1 rfl rfl ?_
  refine mm_iconst (v := 0) dX9_state_2 (by decide) ?_
  refine mm_iconst (v := 3) dX9_state_3 (by decide) ?_
  refine mm_callSi cd_ok (kX9_in p1 0 3 _ rfl) (Or.inl tw_941) cdX9_in tw_942 nmX9_in rfl rfl (by simp only [List.map_cons, List.map_nil, mm_rf_cat]; exact Nat.le_of_ble_eq_true rfl) dX9_state_4 ⟨Nat.le_of_ble_eq_true rfl, Nat.le_of_ble_eq_true rfl⟩ ⟨Nat.le_of_ble_eq_true rfl, Nat.le_of_ble_eq_true rfl⟩ ?_
  refine mm_if_eq (tgt := 23) dX9_state_7 (by decide) (fun c1 => ?_) (fun c1 => ?_)
  · rw [if_pos c1] at hf
    refine mm_sub [0, 1, 2] rfl ?_
    exact kX9_state_23  p0 p1 p2 p0 σ hf
  · rw [if_neg c1] at hf
    refine mm_iload_n (j := 2) dX9_state_10 rfl rfl ?_
    refine mm_iconst (v := 0) dX9_state_11 (by decide) ?_
    refine mm_iconst (v := 4) dX9_state_12 (by decide) ?_
    refine mm_callSi cd_ok (kX9_in p2 0 4 _ rfl) (Or.inl tw_941) cdX9_in tw_942 nmX9_in rfl rfl (by simp only [List.map_cons, List.map_nil, mm_rf_cat]; exact Nat.le_of_ble_eq_true rfl) dX9_state_13 ⟨Nat.le_of_ble_eq_true rfl, Nat.le_of_ble_eq_true rfl⟩ ⟨Nat.le_of_ble_eq_true rfl, Nat.le_of_ble_eq_true rfl⟩ ?_
    refine mm_if_eq (tgt := 23) dX9_state_16 (by decide) (fun c29 => ?_) (fun c29 => ?_)
    · rw [if_pos c29] at hf
      refine mm_sub [0, 1, 2] rfl ?_
      exact kX9_state_23  p0 p1 p2 p0 σ hf
    · rw [if_neg c29] at hf
      refine mm_iconst (v := 1) dX9_state_19 (by decide) ?_
      refine mm_goto (tgt := 24) dX9_state_20 (by decide) ?_
      refine mm_sub [0, 1, 2] rfl ?_
      exact kX9_state_24  p0 p1 p2 1 p0 σ hf
theorem dX9_channel_0 : decode cX9_channel 0 = .ok (.aload_n 0, 1) := by decide +kernel
theorem dX9_channel_1 : decode cX9_channel 1 = .ok (.iload_n 1, 1) := by decide +kernel
theorem dX9_channel_2 : decode cX9_channel 2 = .ok (.iconst 0, 1) := by decide +kernel
theorem dX9_channel_3 : decode cX9_channel 3 = .ok (.iconst 1, 1) := by decide +kernel
theorem dX9_channel_4 : decode cX9_channel 4 = .ok (.invokestatic 153, 3) := by decide +kernel
theorem dX9_channel_7 : decode cX9_channel 7 = .ok (.invokevirtual 169, 3) := by decide +kernel
theorem dX9_channel_10 : decode cX9_channel 10 = .ok (.ifCond .eq 12, 3) := by decide +kernel
theorem dX9_channel_13 : decode cX9_channel 13 = .ok (.aload_n 0, 1) := by decide +kernel
theorem dX9_channel_14 : decode cX9_channel 14 = .ok (.getfield 34, 3) := by decide +kernel
theorem dX9_channel_17 : decode cX9_channel 17 = .ok (.iload_n 1, 1) := by decide +kernel
theorem dX9_channel_18 : decode cX9_channel 18 = .ok (.iaload, 1) := by decide +kernel
theorem dX9_channel_19 : decode cX9_channel 19 = .ok (.goto 4, 3) := by decide +kernel
theorem dX9_channel_22 : decode cX9_channel 22 = .ok (.iconst 0, 1) := by decide +kernel
theorem dX9_channel_23 : decode cX9_channel 23 = .ok (.ireturn, 1) := by decide +kernel
theorem nmX9_channel : mm_nm yX9_channel 1 := ⟨by decide, by decide, by decide +kernel⟩
theorem cdX9_channel : mm_cd cd_Y yX9_channel cX9_channel 2 (some .int) := ⟨tw_1013, tw_8⟩
abbrev rmX9_channel : Room := { frames := 1, cells := 0, slots := 0, locals := 22 }
def fX9_channel (p0 : Nat) (p1 : Int32) (σ : mm_M) : Option (Int32 × mm_M) :=
  mm_sh σ p0 (.inl 9) (mm_on (fX9_goes p0 (fX9_in p1 0 1) σ) fun q2 => (if q2.1 = 0 then some (0, q2.2) else mm_sh q2.2 p0 (.inl 9) (mm_on (mm_R q2.2 p0 9) fun q5 => mm_ar q2.2 q5 0 fun n6 => mm_ib p1 n6 (some (mm_I q2.2 q5 p1.toNatClampNeg, q2.2)))))
set_option maxHeartbeats 4000000 in
set_option maxRecDepth 100000 in
theorem kX9_channel {G : mm_G} {A : Nat → Prop} (p0 : Nat) (p1 : Int32) {σ : mm_M} {R : (Int32 × mm_M)} (hf : fX9_channel p0 p1 σ = some R) : mm_C cd_Y G yX9_channel cX9_channel 2 (some .int) rmX9_channel A [.ref p0, .int p1] σ (mm_Pi R.1 R.2) := by
  refine mm_C.of (by decide) (Nat.le_of_ble_eq_true rfl) ?_
  unfold fX9_channel at hf
  have e0 : lv_args 0 [.ref p0, .int p1] = [(0, .ref p0), (1, .int p1)] := rfl
  rw [e0]
  generalize hini : (yX9_channel.name == "<init>") = ini
  clear e0
  clear hini
  refine mm_aload_n (j := 0) dX9_channel_0 rfl rfl ?_
  refine mm_iload_n (j := 1) dX9_channel_1 rfl rfl ?_
  refine mm_iconst (v := 0) dX9_channel_2 (by decide) ?_
  refine mm_iconst (v := 1) dX9_channel_3 (by decide) ?_
  refine mm_callSi cd_ok (kX9_in p1 0 1 _ rfl) (Or.inl tw_941) cdX9_in tw_942 nmX9_in rfl rfl (by simp only [List.map_cons, List.map_nil, mm_rf_cat]; exact Nat.le_of_ble_eq_true rfl) dX9_channel_4 ⟨Nat.le_of_ble_eq_true rfl, Nat.le_of_ble_eq_true rfl⟩ ⟨Nat.le_of_ble_eq_true rfl, Nat.le_of_ble_eq_true rfl⟩ ?_
  obtain ⟨hs1, hf⟩ := mm_sh_s hf
  obtain ⟨q2, hq2, hf⟩ := mm_on_s hf
  refine mm_callVi cd_ok (kX9_goes p0 (fX9_in p1 0 1) hq2) hs1 rfl (Or.inl tw_944) cdX9_goes tw_946 ts_31 nmX9_goes rfl rfl (by simp only [List.map_cons, List.map_nil, mm_rf_cat]; exact Nat.le_of_ble_eq_true rfl) dX9_channel_7 ⟨Nat.le_of_ble_eq_true rfl, Nat.le_of_ble_eq_true rfl⟩ ⟨Nat.le_of_ble_eq_true rfl, Nat.le_of_ble_eq_true rfl⟩ ?_
  refine mm_if_eq (tgt := 22) dX9_channel_10 (by decide) (fun c3 => ?_) (fun c3 => ?_)
  · rw [if_pos c3] at hf
    refine mm_iconst (v := 0) dX9_channel_22 (by decide) ?_
    cases hf
    exact mm_iret rfl rfl dX9_channel_23 ⟨rfl, rfl⟩
  · rw [if_neg c3] at hf
    refine mm_aload_n (j := 0) dX9_channel_13 rfl rfl ?_
    obtain ⟨hs4, hf⟩ := mm_sh_s hf
    refine mm_get (c := 9) (k := 9) (v := va_rf (mm_R q2.2 p0 9)) cd_ok ⟨_, _, _, rfl, by decide, Or.inl tw_803⟩ hs4 rfl dX9_channel_14 ?_
    refine mm_iload_n (j := 1) dX9_channel_17 rfl rfl ?_
    obtain ⟨q5, hq5, hf⟩ := mm_on_s hf
    rw [hq5, mm_rf_some]
    obtain ⟨n6, hn6, hf⟩ := mm_ar_s hf
    obtain ⟨hi7, hf⟩ := mm_ib_s hf
    refine mm_iald hn6 rfl hi7 dX9_channel_18 ?_
    refine mm_goto (tgt := 23) dX9_channel_19 (by decide) ?_
    cases hf
    exact mm_iret rfl rfl dX9_channel_23 ⟨rfl, rfl⟩
theorem dX9_bit_0 : decode cX9_bit 0 = .ok (.iload_n 0, 1) := by decide +kernel
theorem dX9_bit_1 : decode cX9_bit 1 = .ok (.iload_n 1, 1) := by decide +kernel
theorem dX9_bit_2 : decode cX9_bit 2 = .ok (.iconst 1, 1) := by decide +kernel
theorem dX9_bit_3 : decode cX9_bit 3 = .ok (.isub, 1) := by decide +kernel
theorem dX9_bit_4 : decode cX9_bit 4 = .ok (.ishr, 1) := by decide +kernel
theorem dX9_bit_5 : decode cX9_bit 5 = .ok (.iconst 1, 1) := by decide +kernel
theorem dX9_bit_6 : decode cX9_bit 6 = .ok (.iand, 1) := by decide +kernel
theorem dX9_bit_7 : decode cX9_bit 7 = .ok (.ireturn, 1) := by decide +kernel
theorem nmX9_bit : mm_nm yX9_bit 2 := ⟨by decide, by decide, by decide +kernel⟩
theorem cdX9_bit : mm_cd cd_Y yX9_bit cX9_bit 2 (some .int) := ⟨tw_1023, tw_8⟩
abbrev rmX9_bit : Room := { frames := 0, cells := 0, slots := 0, locals := 0 }
def fX9_bit (p0 : Int32) (p1 : Int32) : Int32 :=
  (p0 >>> (((p1 - 1) : Int32) &&& 31)) &&& 1
set_option maxHeartbeats 4000000 in
set_option maxRecDepth 100000 in
theorem kX9_bit {G : mm_G} {A : Nat → Prop} (p0 : Int32) (p1 : Int32) (σ0 : mm_M) {R : Int32} (hf : fX9_bit p0 p1 = R) : mm_C cd_Y G yX9_bit cX9_bit 2 (some .int) rmX9_bit A [.int p0, .int p1] σ0 (mm_Pi R σ0) := by
  refine mm_C.of (by decide) (Nat.le_of_ble_eq_true rfl) ?_
  unfold fX9_bit at hf
  have e0 : lv_args 0 [.int p0, .int p1] = [(0, .int p0), (1, .int p1)] := rfl
  rw [e0]
  generalize hini : (yX9_bit.name == "<init>") = ini
  clear e0
  clear hini
  refine mm_iload_n (j := 0) dX9_bit_0 rfl rfl ?_
  refine mm_iload_n (j := 1) dX9_bit_1 rfl rfl ?_
  refine mm_iconst (v := 1) dX9_bit_2 (by decide) ?_
  refine mm_isub dX9_bit_3 ?_
  refine mm_ishr dX9_bit_4 ?_
  refine mm_iconst (v := 1) dX9_bit_5 (by decide) ?_
  refine mm_iand dX9_bit_6 ?_
  subst hf
  exact mm_iret rfl rfl dX9_bit_7 ⟨rfl, rfl⟩
theorem dX9_valueOf_0 : decode cX9_valueOf 0 = .ok (.iload_n 0, 1) := by decide +kernel
theorem dX9_valueOf_1 : decode cX9_valueOf 1 = .ok (.iconst 2, 1) := by decide +kernel
theorem dX9_valueOf_2 : decode cX9_valueOf 2 = .ok (.invokestatic 180, 3) := by decide +kernel
theorem dX9_valueOf_5 : decode cX9_valueOf 5 = .ok (.iconst 2, 1) := by decide +kernel
theorem dX9_valueOf_6 : decode cX9_valueOf 6 = .ok (.iload_n 0, 1) := by decide +kernel
theorem dX9_valueOf_7 : decode cX9_valueOf 7 = .ok (.iconst 4, 1) := by decide +kernel
theorem dX9_valueOf_8 : decode cX9_valueOf 8 = .ok (.invokestatic 180, 3) := by decide +kernel
theorem dX9_valueOf_11 : decode cX9_valueOf 11 = .ok (.imul, 1) := by decide +kernel
theorem dX9_valueOf_12 : decode cX9_valueOf 12 = .ok (.iadd, 1) := by decide +kernel
theorem dX9_valueOf_13 : decode cX9_valueOf 13 = .ok (.iconst 4, 1) := by decide +kernel
theorem dX9_valueOf_14 : decode cX9_valueOf 14 = .ok (.iload_n 0, 1) := by decide +kernel
theorem dX9_valueOf_15 : decode cX9_valueOf 15 = .ok (.bipush 6, 2) := by decide +kernel
theorem dX9_valueOf_17 : decode cX9_valueOf 17 = .ok (.invokestatic 180, 3) := by decide +kernel
theorem dX9_valueOf_20 : decode cX9_valueOf 20 = .ok (.imul, 1) := by decide +kernel
theorem dX9_valueOf_21 : decode cX9_valueOf 21 = .ok (.iadd, 1) := by decide +kernel
theorem dX9_valueOf_22 : decode cX9_valueOf 22 = .ok (.bipush 8, 2) := by decide +kernel
theorem dX9_valueOf_24 : decode cX9_valueOf 24 = .ok (.iload_n 0, 1) := by decide +kernel
theorem dX9_valueOf_25 : decode cX9_valueOf 25 = .ok (.bipush 8, 2) := by decide +kernel
theorem dX9_valueOf_27 : decode cX9_valueOf 27 = .ok (.invokestatic 180, 3) := by decide +kernel
theorem dX9_valueOf_30 : decode cX9_valueOf 30 = .ok (.imul, 1) := by decide +kernel
theorem dX9_valueOf_31 : decode cX9_valueOf 31 = .ok (.iadd, 1) := by decide +kernel
theorem dX9_valueOf_32 : decode cX9_valueOf 32 = .ok (.ireturn, 1) := by decide +kernel
theorem nmX9_valueOf : mm_nm yX9_valueOf 1 := ⟨by decide, by decide, by decide +kernel⟩
theorem cdX9_valueOf : mm_cd cd_Y yX9_valueOf cX9_valueOf 1 (some .int) := ⟨tw_1026, tw_8⟩
abbrev rmX9_valueOf : Room := { frames := 1, cells := 0, slots := 0, locals := 21 }
def fX9_valueOf (p0 : Int32) : Int32 :=
  (((fX9_bit p0 2) + (2 * (fX9_bit p0 4))) + (4 * (fX9_bit p0 6))) + (8 * (fX9_bit p0 8))
set_option maxHeartbeats 4000000 in
set_option maxRecDepth 100000 in
theorem kX9_valueOf {G : mm_G} {A : Nat → Prop} (p0 : Int32) (σ0 : mm_M) {R : Int32} (hf : fX9_valueOf p0 = R) : mm_C cd_Y G yX9_valueOf cX9_valueOf 1 (some .int) rmX9_valueOf A [.int p0] σ0 (mm_Pi R σ0) := by
  refine mm_C.of (by decide) (Nat.le_of_ble_eq_true rfl) ?_
  unfold fX9_valueOf at hf
  have e0 : lv_args 0 [.int p0] = [(0, .int p0)] := rfl
  rw [e0]
  generalize hini : (yX9_valueOf.name == "<init>") = ini
  clear e0
  clear hini
  refine mm_iload_n (j := 0) dX9_valueOf_0 rfl rfl ?_
  refine mm_iconst (v := 2) dX9_valueOf_1 (by decide) ?_
  refine mm_callSi cd_ok (kX9_bit p0 2 _ rfl) (Or.inl tw_1021) cdX9_bit tw_1022 nmX9_bit rfl rfl (by simp only [List.map_cons, List.map_nil, mm_rf_cat]; exact Nat.le_of_ble_eq_true rfl) dX9_valueOf_2 ⟨Nat.le_of_ble_eq_true rfl, Nat.le_of_ble_eq_true rfl⟩ ⟨Nat.le_of_ble_eq_true rfl, Nat.le_of_ble_eq_true rfl⟩ ?_
  refine mm_iconst (v := 2) dX9_valueOf_5 (by decide) ?_
  refine mm_iload_n (j := 0) dX9_valueOf_6 rfl rfl ?_
  refine mm_iconst (v := 4) dX9_valueOf_7 (by decide) ?_
  refine mm_callSi cd_ok (kX9_bit p0 4 _ rfl) (Or.inl tw_1021) cdX9_bit tw_1022 nmX9_bit rfl rfl (by simp only [List.map_cons, List.map_nil, mm_rf_cat]; exact Nat.le_of_ble_eq_true rfl) dX9_valueOf_8 ⟨Nat.le_of_ble_eq_true rfl, Nat.le_of_ble_eq_true rfl⟩ ⟨Nat.le_of_ble_eq_true rfl, Nat.le_of_ble_eq_true rfl⟩ ?_
  refine mm_imul dX9_valueOf_11 ?_
  refine mm_iadd dX9_valueOf_12 ?_
  refine mm_iconst (v := 4) dX9_valueOf_13 (by decide) ?_
  refine mm_iload_n (j := 0) dX9_valueOf_14 rfl rfl ?_
  refine mm_bipush (v := 6) dX9_valueOf_15 (by decide) ?_
  refine mm_callSi cd_ok (kX9_bit p0 6 _ rfl) (Or.inl tw_1021) cdX9_bit tw_1022 nmX9_bit rfl rfl (by simp only [List.map_cons, List.map_nil, mm_rf_cat]; exact Nat.le_of_ble_eq_true rfl) dX9_valueOf_17 ⟨Nat.le_of_ble_eq_true rfl, Nat.le_of_ble_eq_true rfl⟩ ⟨Nat.le_of_ble_eq_true rfl, Nat.le_of_ble_eq_true rfl⟩ ?_
  refine mm_imul dX9_valueOf_20 ?_
  refine mm_iadd dX9_valueOf_21 ?_
  refine mm_bipush (v := 8) dX9_valueOf_22 (by decide) ?_
  refine mm_iload_n (j := 0) dX9_valueOf_24 rfl rfl ?_
  refine mm_bipush (v := 8) dX9_valueOf_25 (by decide) ?_
  refine mm_callSi cd_ok (kX9_bit p0 8 _ rfl) (Or.inl tw_1021) cdX9_bit tw_1022 nmX9_bit rfl rfl (by simp only [List.map_cons, List.map_nil, mm_rf_cat]; exact Nat.le_of_ble_eq_true rfl) dX9_valueOf_27 ⟨Nat.le_of_ble_eq_true rfl, Nat.le_of_ble_eq_true rfl⟩ ⟨Nat.le_of_ble_eq_true rfl, Nat.le_of_ble_eq_true rfl⟩ ?_
  refine mm_imul dX9_valueOf_30 ?_
  refine mm_iadd dX9_valueOf_31 ?_
  subst hf
  exact mm_iret rfl rfl dX9_valueOf_32 ⟨rfl, rfl⟩
theorem dX9_guard_0 : decode cX9_guard 0 = .ok (.iload_n 0, 1) := by decide +kernel
theorem dX9_guard_1 : decode cX9_guard 1 = .ok (.sipush 255, 3) := by decide +kernel
theorem dX9_guard_4 : decode cX9_guard 4 = .ok (.iand, 1) := by decide +kernel
theorem dX9_guard_5 : decode cX9_guard 5 = .ok (.istore_n 1, 1) := by decide +kernel
theorem dX9_guard_6 : decode cX9_guard 6 = .ok (.iconst 1, 1) := by decide +kernel
theorem dX9_guard_7 : decode cX9_guard 7 = .ok (.iload_n 1, 1) := by decide +kernel
theorem dX9_guard_8 : decode cX9_guard 8 = .ok (.bipush 8, 2) := by decide +kernel
theorem dX9_guard_10 : decode cX9_guard 10 = .ok (.invokestatic 180, 3) := by decide +kernel
theorem dX9_guard_13 : decode cX9_guard 13 = .ok (.iload_n 1, 1) := by decide +kernel
theorem dX9_guard_14 : decode cX9_guard 14 = .ok (.bipush 6, 2) := by decide +kernel
theorem dX9_guard_16 : decode cX9_guard 16 = .ok (.invokestatic 180, 3) := by decide +kernel
theorem dX9_guard_19 : decode cX9_guard 19 = .ok (.iadd, 1) := by decide +kernel
theorem dX9_guard_20 : decode cX9_guard 20 = .ok (.iload_n 1, 1) := by decide +kernel
theorem dX9_guard_21 : decode cX9_guard 21 = .ok (.iconst 2, 1) := by decide +kernel
theorem dX9_guard_22 : decode cX9_guard 22 = .ok (.invokestatic 180, 3) := by decide +kernel
theorem dX9_guard_25 : decode cX9_guard 25 = .ok (.iadd, 1) := by decide +kernel
theorem dX9_guard_26 : decode cX9_guard 26 = .ok (.iload_n 1, 1) := by decide +kernel
theorem dX9_guard_27 : decode cX9_guard 27 = .ok (.iconst 1, 1) := by decide +kernel
theorem dX9_guard_28 : decode cX9_guard 28 = .ok (.invokestatic 180, 3) := by decide +kernel
theorem dX9_guard_31 : decode cX9_guard 31 = .ok (.iadd, 1) := by decide +kernel
theorem dX9_guard_32 : decode cX9_guard 32 = .ok (.iconst 2, 1) := by decide +kernel
theorem dX9_guard_33 : decode cX9_guard 33 = .ok (.irem, 1) := by decide +kernel
theorem dX9_guard_34 : decode cX9_guard 34 = .ok (.isub, 1) := by decide +kernel
theorem dX9_guard_35 : decode cX9_guard 35 = .ok (.istore_n 2, 1) := by decide +kernel
theorem dX9_guard_36 : decode cX9_guard 36 = .ok (.iconst 1, 1) := by decide +kernel
theorem dX9_guard_37 : decode cX9_guard 37 = .ok (.iload_n 1, 1) := by decide +kernel
theorem dX9_guard_38 : decode cX9_guard 38 = .ok (.bipush 8, 2) := by decide +kernel
theorem dX9_guard_40 : decode cX9_guard 40 = .ok (.invokestatic 180, 3) := by decide +kernel
theorem dX9_guard_43 : decode cX9_guard 43 = .ok (.iload_n 1, 1) := by decide +kernel
theorem dX9_guard_44 : decode cX9_guard 44 = .ok (.iconst 4, 1) := by decide +kernel
theorem dX9_guard_45 : decode cX9_guard 45 = .ok (.invokestatic 180, 3) := by decide +kernel
theorem dX9_guard_48 : decode cX9_guard 48 = .ok (.iadd, 1) := by decide +kernel
theorem dX9_guard_49 : decode cX9_guard 49 = .ok (.iload_n 1, 1) := by decide +kernel
theorem dX9_guard_50 : decode cX9_guard 50 = .ok (.iconst 3, 1) := by decide +kernel
theorem dX9_guard_51 : decode cX9_guard 51 = .ok (.invokestatic 180, 3) := by decide +kernel
theorem dX9_guard_54 : decode cX9_guard 54 = .ok (.iadd, 1) := by decide +kernel
theorem dX9_guard_55 : decode cX9_guard 55 = .ok (.iload_n 1, 1) := by decide +kernel
theorem dX9_guard_56 : decode cX9_guard 56 = .ok (.iconst 2, 1) := by decide +kernel
theorem dX9_guard_57 : decode cX9_guard 57 = .ok (.invokestatic 180, 3) := by decide +kernel
theorem dX9_guard_60 : decode cX9_guard 60 = .ok (.iadd, 1) := by decide +kernel
theorem dX9_guard_61 : decode cX9_guard 61 = .ok (.iconst 2, 1) := by decide +kernel
theorem dX9_guard_62 : decode cX9_guard 62 = .ok (.irem, 1) := by decide +kernel
theorem dX9_guard_63 : decode cX9_guard 63 = .ok (.isub, 1) := by decide +kernel
theorem dX9_guard_64 : decode cX9_guard 64 = .ok (.istore_n 3, 1) := by decide +kernel
theorem dX9_guard_65 : decode cX9_guard 65 = .ok (.iconst 1, 1) := by decide +kernel
theorem dX9_guard_66 : decode cX9_guard 66 = .ok (.iload_n 1, 1) := by decide +kernel
theorem dX9_guard_67 : decode cX9_guard 67 = .ok (.bipush 6, 2) := by decide +kernel
theorem dX9_guard_69 : decode cX9_guard 69 = .ok (.invokestatic 180, 3) := by decide +kernel
theorem dX9_guard_72 : decode cX9_guard 72 = .ok (.iload_n 1, 1) := by decide +kernel
theorem dX9_guard_73 : decode cX9_guard 73 = .ok (.iconst 5, 1) := by decide +kernel
theorem dX9_guard_74 : decode cX9_guard 74 = .ok (.invokestatic 180, 3) := by decide +kernel
theorem dX9_guard_77 : decode cX9_guard 77 = .ok (.iadd, 1) := by decide +kernel
theorem dX9_guard_78 : decode cX9_guard 78 = .ok (.iload_n 1, 1) := by decide +kernel
theorem dX9_guard_79 : decode cX9_guard 79 = .ok (.iconst 4, 1) := by decide +kernel
theorem dX9_guard_80 : decode cX9_guard 80 = .ok (.invokestatic 180, 3) := by decide +kernel
theorem dX9_guard_83 : decode cX9_guard 83 = .ok (.iadd, 1) := by decide +kernel
theorem dX9_guard_84 : decode cX9_guard 84 = .ok (.iload_n 1, 1) := by decide +kernel
theorem dX9_guard_85 : decode cX9_guard 85 = .ok (.iconst 2, 1) := by decide +kernel
theorem dX9_guard_86 : decode cX9_guard 86 = .ok (.invokestatic 180, 3) := by decide +kernel
theorem dX9_guard_89 : decode cX9_guard 89 = .ok (.iadd, 1) := by decide +kernel
theorem dX9_guard_90 : decode cX9_guard 90 = .ok (.iconst 2, 1) := by decide +kernel
theorem dX9_guard_91 : decode cX9_guard 91 = .ok (.irem, 1) := by decide +kernel
theorem dX9_guard_92 : decode cX9_guard 92 = .ok (.isub, 1) := by decide +kernel
theorem dX9_guard_93 : decode cX9_guard 93 = .ok (.istore 4, 2) := by decide +kernel
theorem dX9_guard_95 : decode cX9_guard 95 = .ok (.iconst 4, 1) := by decide +kernel
theorem dX9_guard_96 : decode cX9_guard 96 = .ok (.iload_n 2, 1) := by decide +kernel
theorem dX9_guard_97 : decode cX9_guard 97 = .ok (.imul, 1) := by decide +kernel
theorem dX9_guard_98 : decode cX9_guard 98 = .ok (.iconst 2, 1) := by decide +kernel
theorem dX9_guard_99 : decode cX9_guard 99 = .ok (.iload_n 3, 1) := by decide +kernel
theorem dX9_guard_100 : decode cX9_guard 100 = .ok (.imul, 1) := by decide +kernel
theorem dX9_guard_101 : decode cX9_guard 101 = .ok (.iadd, 1) := by decide +kernel
theorem dX9_guard_102 : decode cX9_guard 102 = .ok (.iload 4, 2) := by decide +kernel
theorem dX9_guard_104 : decode cX9_guard 104 = .ok (.iadd, 1) := by decide +kernel
theorem dX9_guard_105 : decode cX9_guard 105 = .ok (.istore 5, 2) := by decide +kernel
theorem dX9_guard_107 : decode cX9_guard 107 = .ok (.iload_n 1, 1) := by decide +kernel
theorem dX9_guard_108 : decode cX9_guard 108 = .ok (.invokestatic 173, 3) := by decide +kernel
theorem dX9_guard_111 : decode cX9_guard 111 = .ok (.ifCond .eq 17, 3) := by decide +kernel
theorem dX9_guard_114 : decode cX9_guard 114 = .ok (.iload 5, 2) := by decide +kernel
theorem dX9_guard_116 : decode cX9_guard 116 = .ok (.ifCond .ne 10, 3) := by decide +kernel
theorem dX9_guard_119 : decode cX9_guard 119 = .ok (.iload_n 1, 1) := by decide +kernel
theorem dX9_guard_120 : decode cX9_guard 120 = .ok (.invokestatic 184, 3) := by decide +kernel
theorem dX9_guard_123 : decode cX9_guard 123 = .ok (.goto 4, 3) := by decide +kernel
theorem dX9_guard_126 : decode cX9_guard 126 = .ok (.iconst (-1), 1) := by decide +kernel
theorem dX9_guard_127 : decode cX9_guard 127 = .ok (.ireturn, 1) := by decide +kernel
theorem dX9_guard_128 : decode cX9_guard 128 = .ok (.iload 5, 2) := by decide +kernel
theorem dX9_guard_130 : decode cX9_guard 130 = .ok (.ifCond .ne 8, 3) := by decide +kernel
theorem dX9_guard_133 : decode cX9_guard 133 = .ok (.bipush 7, 2) := by decide +kernel
theorem dX9_guard_135 : decode cX9_guard 135 = .ok (.goto 67, 3) := by decide +kernel
theorem dX9_guard_138 : decode cX9_guard 138 = .ok (.iload 5, 2) := by decide +kernel
theorem dX9_guard_140 : decode cX9_guard 140 = .ok (.iconst 1, 1) := by decide +kernel
theorem dX9_guard_141 : decode cX9_guard 141 = .ok (.if_icmp .ne 7, 3) := by decide +kernel
theorem dX9_guard_144 : decode cX9_guard 144 = .ok (.iconst 5, 1) := by decide +kernel
theorem dX9_guard_145 : decode cX9_guard 145 = .ok (.goto 57, 3) := by decide +kernel
theorem dX9_guard_148 : decode cX9_guard 148 = .ok (.iload 5, 2) := by decide +kernel
theorem dX9_guard_150 : decode cX9_guard 150 = .ok (.iconst 2, 1) := by decide +kernel
theorem dX9_guard_151 : decode cX9_guard 151 = .ok (.if_icmp .ne 7, 3) := by decide +kernel
theorem dX9_guard_154 : decode cX9_guard 154 = .ok (.iconst 3, 1) := by decide +kernel
theorem dX9_guard_155 : decode cX9_guard 155 = .ok (.goto 47, 3) := by decide +kernel
theorem dX9_guard_158 : decode cX9_guard 158 = .ok (.iload 5, 2) := by decide +kernel
theorem dX9_guard_160 : decode cX9_guard 160 = .ok (.iconst 3, 1) := by decide +kernel
theorem dX9_guard_161 : decode cX9_guard 161 = .ok (.if_icmp .ne 7, 3) := by decide +kernel
theorem dX9_guard_164 : decode cX9_guard 164 = .ok (.iconst 4, 1) := by decide +kernel
theorem dX9_guard_165 : decode cX9_guard 165 = .ok (.goto 37, 3) := by decide +kernel
theorem dX9_guard_168 : decode cX9_guard 168 = .ok (.iload 5, 2) := by decide +kernel
theorem dX9_guard_170 : decode cX9_guard 170 = .ok (.iconst 4, 1) := by decide +kernel
theorem dX9_guard_171 : decode cX9_guard 171 = .ok (.if_icmp .ne 7, 3) := by decide +kernel
theorem dX9_guard_174 : decode cX9_guard 174 = .ok (.iconst 1, 1) := by decide +kernel
theorem dX9_guard_175 : decode cX9_guard 175 = .ok (.goto 27, 3) := by decide +kernel
theorem dX9_guard_178 : decode cX9_guard 178 = .ok (.iload 5, 2) := by decide +kernel
theorem dX9_guard_180 : decode cX9_guard 180 = .ok (.iconst 5, 1) := by decide +kernel
theorem dX9_guard_181 : decode cX9_guard 181 = .ok (.if_icmp .ne 8, 3) := by decide +kernel
theorem dX9_guard_184 : decode cX9_guard 184 = .ok (.bipush 6, 2) := by decide +kernel
theorem dX9_guard_186 : decode cX9_guard 186 = .ok (.goto 16, 3) := by decide +kernel
theorem dX9_guard_189 : decode cX9_guard 189 = .ok (.iload 5, 2) := by decide +kernel
theorem dX9_guard_191 : decode cX9_guard 191 = .ok (.bipush 6, 2) := by decide +kernel
theorem dX9_guard_193 : decode cX9_guard 193 = .ok (.if_icmp .ne 8, 3) := by decide +kernel
theorem dX9_guard_196 : decode cX9_guard 196 = .ok (.bipush 8, 2) := by decide +kernel
theorem dX9_guard_198 : decode cX9_guard 198 = .ok (.goto 4, 3) := by decide +kernel
theorem dX9_guard_201 : decode cX9_guard 201 = .ok (.iconst 2, 1) := by decide +kernel
theorem dX9_guard_202 : decode cX9_guard 202 = .ok (.istore 6, 2) := by decide +kernel
theorem dX9_guard_204 : decode cX9_guard 204 = .ok (.bipush 16, 2) := by decide +kernel
theorem dX9_guard_206 : decode cX9_guard 206 = .ok (.iload_n 1, 1) := by decide +kernel
theorem dX9_guard_207 : decode cX9_guard 207 = .ok (.iconst 1, 1) := by decide +kernel
theorem dX9_guard_208 : decode cX9_guard 208 = .ok (.iload 6, 2) := by decide +kernel
theorem dX9_guard_210 : decode cX9_guard 210 = .ok (.iconst 1, 1) := by decide +kernel
theorem dX9_guard_211 : decode cX9_guard 211 = .ok (.isub, 1) := by decide +kernel
theorem dX9_guard_212 : decode cX9_guard 212 = .ok (.ishl, 1) := by decide +kernel
theorem dX9_guard_213 : decode cX9_guard 213 = .ok (.ixor, 1) := by decide +kernel
theorem dX9_guard_214 : decode cX9_guard 214 = .ok (.invokestatic 184, 3) := by decide +kernel
theorem dX9_guard_217 : decode cX9_guard 217 = .ok (.iadd, 1) := by decide +kernel
theorem dX9_guard_218 : decode cX9_guard 218 = .ok (.ireturn, 1) := by decide +kernel
theorem nmX9_guard : mm_nm yX9_guard 1 := ⟨by decide, by decide, by decide +kernel⟩
theorem cdX9_guard : mm_cd cd_Y yX9_guard cX9_guard 7 (some .int) := ⟨tw_1020, tw_8⟩
abbrev rmX9_guard : Room := { frames := 2, cells := 0, slots := 0, locals := 41 }
def fX9_guard_202  (x0 : Int32) (x1 : Int32) (x2 : Int32) (x3 : Int32) (x4 : Int32) (x5 : Int32) (y0 : Int32) (σ : mm_M) : Option (Int32 × mm_M) :=
  some (16 + (fX9_valueOf (x1 ^^^ ((1 : Int32) <<< (((y0 - 1) : Int32) &&& 31)))), σ)
def fX9_guard (p0 : Int32) (σ : mm_M) : Option (Int32 × mm_M) :=
  mm_on (fX9_isOdd (p0 &&& 255) σ) fun q1 => (if q1.1 = 0 then (if (((4 * (1 - (((((fX9_bit (p0 &&& 255) 8) + (fX9_bit (p0 &&& 255) 6)) + (fX9_bit (p0 &&& 255) 2)) + (fX9_bit (p0 &&& 255) 1)) - ((((fX9_bit (p0 &&& 255) 8) + (fX9_bit (p0 &&& 255) 6)) + (fX9_bit (p0 &&& 255) 2)) + (fX9_bit (p0 &&& 255) 1)) / 2 * 2))) + (2 * (1 - (((((fX9_bit (p0 &&& 255) 8) + (fX9_bit (p0 &&& 255) 4)) + (fX9_bit (p0 &&& 255) 3)) + (fX9_bit (p0 &&& 255) 2)) - ((((fX9_bit (p0 &&& 255) 8) + (fX9_bit (p0 &&& 255) 4)) + (fX9_bit (p0 &&& 255) 3)) + (fX9_bit (p0 &&& 255) 2)) / 2 * 2)))) + (1 - (((((fX9_bit (p0 &&& 255) 6) + (fX9_bit (p0 &&& 255) 5)) + (fX9_bit (p0 &&& 255) 4)) + (fX9_bit (p0 &&& 255) 2)) - ((((fX9_bit (p0 &&& 255) 6) + (fX9_bit (p0 &&& 255) 5)) + (fX9_bit (p0 &&& 255) 4)) + (fX9_bit (p0 &&& 255) 2)) / 2 * 2))) = 0 then (fX9_guard_202  p0 (p0 &&& 255) (1 - (((((fX9_bit (p0 &&& 255) 8) + (fX9_bit (p0 &&& 255) 6)) + (fX9_bit (p0 &&& 255) 2)) + (fX9_bit (p0 &&& 255) 1)) - ((((fX9_bit (p0 &&& 255) 8) + (fX9_bit (p0 &&& 255) 6)) + (fX9_bit (p0 &&& 255) 2)) + (fX9_bit (p0 &&& 255) 1)) / 2 * 2)) (1 - (((((fX9_bit (p0 &&& 255) 8) + (fX9_bit (p0 &&& 255) 4)) + (fX9_bit (p0 &&& 255) 3)) + (fX9_bit (p0 &&& 255) 2)) - ((((fX9_bit (p0 &&& 255) 8) + (fX9_bit (p0 &&& 255) 4)) + (fX9_bit (p0 &&& 255) 3)) + (fX9_bit (p0 &&& 255) 2)) / 2 * 2)) (1 - (((((fX9_bit (p0 &&& 255) 6) + (fX9_bit (p0 &&& 255) 5)) + (fX9_bit (p0 &&& 255) 4)) + (fX9_bit (p0 &&& 255) 2)) - ((((fX9_bit (p0 &&& 255) 6) + (fX9_bit (p0 &&& 255) 5)) + (fX9_bit (p0 &&& 255) 4)) + (fX9_bit (p0 &&& 255) 2)) / 2 * 2)) (((4 * (1 - (((((fX9_bit (p0 &&& 255) 8) + (fX9_bit (p0 &&& 255) 6)) + (fX9_bit (p0 &&& 255) 2)) + (fX9_bit (p0 &&& 255) 1)) - ((((fX9_bit (p0 &&& 255) 8) + (fX9_bit (p0 &&& 255) 6)) + (fX9_bit (p0 &&& 255) 2)) + (fX9_bit (p0 &&& 255) 1)) / 2 * 2))) + (2 * (1 - (((((fX9_bit (p0 &&& 255) 8) + (fX9_bit (p0 &&& 255) 4)) + (fX9_bit (p0 &&& 255) 3)) + (fX9_bit (p0 &&& 255) 2)) - ((((fX9_bit (p0 &&& 255) 8) + (fX9_bit (p0 &&& 255) 4)) + (fX9_bit (p0 &&& 255) 3)) + (fX9_bit (p0 &&& 255) 2)) / 2 * 2)))) + (1 - (((((fX9_bit (p0 &&& 255) 6) + (fX9_bit (p0 &&& 255) 5)) + (fX9_bit (p0 &&& 255) 4)) + (fX9_bit (p0 &&& 255) 2)) - ((((fX9_bit (p0 &&& 255) 6) + (fX9_bit (p0 &&& 255) 5)) + (fX9_bit (p0 &&& 255) 4)) + (fX9_bit (p0 &&& 255) 2)) / 2 * 2))) 7 q1.2) else (if (((4 * (1 - (((((fX9_bit (p0 &&& 255) 8) + (fX9_bit (p0 &&& 255) 6)) + (fX9_bit (p0 &&& 255) 2)) + (fX9_bit (p0 &&& 255) 1)) - ((((fX9_bit (p0 &&& 255) 8) + (fX9_bit (p0 &&& 255) 6)) + (fX9_bit (p0 &&& 255) 2)) + (fX9_bit (p0 &&& 255) 1)) / 2 * 2))) + (2 * (1 - (((((fX9_bit (p0 &&& 255) 8) + (fX9_bit (p0 &&& 255) 4)) + (fX9_bit (p0 &&& 255) 3)) + (fX9_bit (p0 &&& 255) 2)) - ((((fX9_bit (p0 &&& 255) 8) + (fX9_bit (p0 &&& 255) 4)) + (fX9_bit (p0 &&& 255) 3)) + (fX9_bit (p0 &&& 255) 2)) / 2 * 2)))) + (1 - (((((fX9_bit (p0 &&& 255) 6) + (fX9_bit (p0 &&& 255) 5)) + (fX9_bit (p0 &&& 255) 4)) + (fX9_bit (p0 &&& 255) 2)) - ((((fX9_bit (p0 &&& 255) 6) + (fX9_bit (p0 &&& 255) 5)) + (fX9_bit (p0 &&& 255) 4)) + (fX9_bit (p0 &&& 255) 2)) / 2 * 2))) = 1 then (fX9_guard_202  p0 (p0 &&& 255) (1 - (((((fX9_bit (p0 &&& 255) 8) + (fX9_bit (p0 &&& 255) 6)) + (fX9_bit (p0 &&& 255) 2)) + (fX9_bit (p0 &&& 255) 1)) - ((((fX9_bit (p0 &&& 255) 8) + (fX9_bit (p0 &&& 255) 6)) + (fX9_bit (p0 &&& 255) 2)) + (fX9_bit (p0 &&& 255) 1)) / 2 * 2)) (1 - (((((fX9_bit (p0 &&& 255) 8) + (fX9_bit (p0 &&& 255) 4)) + (fX9_bit (p0 &&& 255) 3)) + (fX9_bit (p0 &&& 255) 2)) - ((((fX9_bit (p0 &&& 255) 8) + (fX9_bit (p0 &&& 255) 4)) + (fX9_bit (p0 &&& 255) 3)) + (fX9_bit (p0 &&& 255) 2)) / 2 * 2)) (1 - (((((fX9_bit (p0 &&& 255) 6) + (fX9_bit (p0 &&& 255) 5)) + (fX9_bit (p0 &&& 255) 4)) + (fX9_bit (p0 &&& 255) 2)) - ((((fX9_bit (p0 &&& 255) 6) + (fX9_bit (p0 &&& 255) 5)) + (fX9_bit (p0 &&& 255) 4)) + (fX9_bit (p0 &&& 255) 2)) / 2 * 2)) (((4 * (1 - (((((fX9_bit (p0 &&& 255) 8) + (fX9_bit (p0 &&& 255) 6)) + (fX9_bit (p0 &&& 255) 2)) + (fX9_bit (p0 &&& 255) 1)) - ((((fX9_bit (p0 &&& 255) 8) + (fX9_bit (p0 &&& 255) 6)) + (fX9_bit (p0 &&& 255) 2)) + (fX9_bit (p0 &&& 255) 1)) / 2 * 2))) + (2 * (1 - (((((fX9_bit (p0 &&& 255) 8) + (fX9_bit (p0 &&& 255) 4)) + (fX9_bit (p0 &&& 255) 3)) + (fX9_bit (p0 &&& 255) 2)) - ((((fX9_bit (p0 &&& 255) 8) + (fX9_bit (p0 &&& 255) 4)) + (fX9_bit (p0 &&& 255) 3)) + (fX9_bit (p0 &&& 255) 2)) / 2 * 2)))) + (1 - (((((fX9_bit (p0 &&& 255) 6) + (fX9_bit (p0 &&& 255) 5)) + (fX9_bit (p0 &&& 255) 4)) + (fX9_bit (p0 &&& 255) 2)) - ((((fX9_bit (p0 &&& 255) 6) + (fX9_bit (p0 &&& 255) 5)) + (fX9_bit (p0 &&& 255) 4)) + (fX9_bit (p0 &&& 255) 2)) / 2 * 2))) 5 q1.2) else (if (((4 * (1 - (((((fX9_bit (p0 &&& 255) 8) + (fX9_bit (p0 &&& 255) 6)) + (fX9_bit (p0 &&& 255) 2)) + (fX9_bit (p0 &&& 255) 1)) - ((((fX9_bit (p0 &&& 255) 8) + (fX9_bit (p0 &&& 255) 6)) + (fX9_bit (p0 &&& 255) 2)) + (fX9_bit (p0 &&& 255) 1)) / 2 * 2))) + (2 * (1 - (((((fX9_bit (p0 &&& 255) 8) + (fX9_bit (p0 &&& 255) 4)) + (fX9_bit (p0 &&& 255) 3)) + (fX9_bit (p0 &&& 255) 2)) - ((((fX9_bit (p0 &&& 255) 8) + (fX9_bit (p0 &&& 255) 4)) + (fX9_bit (p0 &&& 255) 3)) + (fX9_bit (p0 &&& 255) 2)) / 2 * 2)))) + (1 - (((((fX9_bit (p0 &&& 255) 6) + (fX9_bit (p0 &&& 255) 5)) + (fX9_bit (p0 &&& 255) 4)) + (fX9_bit (p0 &&& 255) 2)) - ((((fX9_bit (p0 &&& 255) 6) + (fX9_bit (p0 &&& 255) 5)) + (fX9_bit (p0 &&& 255) 4)) + (fX9_bit (p0 &&& 255) 2)) / 2 * 2))) = 2 then (fX9_guard_202  p0 (p0 &&& 255) (1 - (((((fX9_bit (p0 &&& 255) 8) + (fX9_bit (p0 &&& 255) 6)) + (fX9_bit (p0 &&& 255) 2)) + (fX9_bit (p0 &&& 255) 1)) - ((((fX9_bit (p0 &&& 255) 8) + (fX9_bit (p0 &&& 255) 6)) + (fX9_bit (p0 &&& 255) 2)) + (fX9_bit (p0 &&& 255) 1)) / 2 * 2)) (1 - (((((fX9_bit (p0 &&& 255) 8) + (fX9_bit (p0 &&& 255) 4)) + (fX9_bit (p0 &&& 255) 3)) + (fX9_bit (p0 &&& 255) 2)) - ((((fX9_bit (p0 &&& 255) 8) + (fX9_bit (p0 &&& 255) 4)) + (fX9_bit (p0 &&& 255) 3)) + (fX9_bit (p0 &&& 255) 2)) / 2 * 2)) (1 - (((((fX9_bit (p0 &&& 255) 6) + (fX9_bit (p0 &&& 255) 5)) + (fX9_bit (p0 &&& 255) 4)) + (fX9_bit (p0 &&& 255) 2)) - ((((fX9_bit (p0 &&& 255) 6) + (fX9_bit (p0 &&& 255) 5)) + (fX9_bit (p0 &&& 255) 4)) + (fX9_bit (p0 &&& 255) 2)) / 2 * 2)) (((4 * (1 - (((((fX9_bit (p0 &&& 255) 8) + (fX9_bit (p0 &&& 255) 6)) + (fX9_bit (p0 &&& 255) 2)) + (fX9_bit (p0 &&& 255) 1)) - ((((fX9_bit (p0 &&& 255) 8) + (fX9_bit (p0 &&& 255) 6)) + (fX9_bit (p0 &&& 255) 2)) + (fX9_bit (p0 &&& 255) 1)) / 2 * 2))) + (2 * (1 - (((((fX9_bit (p0 &&& 255) 8) + (fX9_bit (p0 &&& 255) 4)) + (fX9_bit (p0 &&& 255) 3)) + (fX9_bit (p0 &&& 255) 2)) - ((((fX9_bit (p0 &&& 255) 8) + (fX9_bit (p0 &&& 255) 4)) + (fX9_bit (p0 &&& 255) 3)) + (fX9_bit (p0 &&& 255) 2)) / 2 * 2)))) + (1 - (((((fX9_bit (p0 &&& 255) 6) + (fX9_bit (p0 &&& 255) 5)) + (fX9_bit (p0 &&& 255) 4)) + (fX9_bit (p0 &&& 255) 2)) - ((((fX9_bit (p0 &&& 255) 6) + (fX9_bit (p0 &&& 255) 5)) + (fX9_bit (p0 &&& 255) 4)) + (fX9_bit (p0 &&& 255) 2)) / 2 * 2))) 3 q1.2) else (if (((4 * (1 - (((((fX9_bit (p0 &&& 255) 8) + (fX9_bit (p0 &&& 255) 6)) + (fX9_bit (p0 &&& 255) 2)) + (fX9_bit (p0 &&& 255) 1)) - ((((fX9_bit (p0 &&& 255) 8) + (fX9_bit (p0 &&& 255) 6)) + (fX9_bit (p0 &&& 255) 2)) + (fX9_bit (p0 &&& 255) 1)) / 2 * 2))) + (2 * (1 - (((((fX9_bit (p0 &&& 255) 8) + (fX9_bit (p0 &&& 255) 4)) + (fX9_bit (p0 &&& 255) 3)) + (fX9_bit (p0 &&& 255) 2)) - ((((fX9_bit (p0 &&& 255) 8) + (fX9_bit (p0 &&& 255) 4)) + (fX9_bit (p0 &&& 255) 3)) + (fX9_bit (p0 &&& 255) 2)) / 2 * 2)))) + (1 - (((((fX9_bit (p0 &&& 255) 6) + (fX9_bit (p0 &&& 255) 5)) + (fX9_bit (p0 &&& 255) 4)) + (fX9_bit (p0 &&& 255) 2)) - ((((fX9_bit (p0 &&& 255) 6) + (fX9_bit (p0 &&& 255) 5)) + (fX9_bit (p0 &&& 255) 4)) + (fX9_bit (p0 &&& 255) 2)) / 2 * 2))) = 3 then (fX9_guard_202  p0 (p0 &&& 255) (1 - (((((fX9_bit (p0 &&& 255) 8) + (fX9_bit (p0 &&& 255) 6)) + (fX9_bit (p0 &&& 255) 2)) + (fX9_bit (p0 &&& 255) 1)) - ((((fX9_bit (p0 &&& 255) 8) + (fX9_bit (p0 &&& 255) 6)) + (fX9_bit (p0 &&& 255) 2)) + (fX9_bit (p0 &&& 255) 1)) / 2 * 2)) (1 - (((((fX9_bit (p0 &&& 255) 8) + (fX9_bit (p0 &&& 255) 4)) + (fX9_bit (p0 &&& 255) 3)) + (fX9_bit (p0 &&& 255) 2)) - ((((fX9_bit (p0 &&& 255) 8) + (fX9_bit (p0 &&& 255) 4)) + (fX9_bit (p0 &&& 255) 3)) + (fX9_bit (p0 &&& 255) 2)) / 2 * 2)) (1 - (((((fX9_bit (p0 &&& 255) 6) + (fX9_bit (p0 &&& 255) 5)) + (fX9_bit (p0 &&& 255) 4)) + (fX9_bit (p0 &&& 255) 2)) - ((((fX9_bit (p0 &&& 255) 6) + (fX9_bit (p0 &&& 255) 5)) + (fX9_bit (p0 &&& 255) 4)) + (fX9_bit (p0 &&& 255) 2)) / 2 * 2)) (((4 * (1 - (((((fX9_bit (p0 &&& 255) 8) + (fX9_bit (p0 &&& 255) 6)) + (fX9_bit (p0 &&& 255) 2)) + (fX9_bit (p0 &&& 255) 1)) - ((((fX9_bit (p0 &&& 255) 8) + (fX9_bit (p0 &&& 255) 6)) + (fX9_bit (p0 &&& 255) 2)) + (fX9_bit (p0 &&& 255) 1)) / 2 * 2))) + (2 * (1 - (((((fX9_bit (p0 &&& 255) 8) + (fX9_bit (p0 &&& 255) 4)) + (fX9_bit (p0 &&& 255) 3)) + (fX9_bit (p0 &&& 255) 2)) - ((((fX9_bit (p0 &&& 255) 8) + (fX9_bit (p0 &&& 255) 4)) + (fX9_bit (p0 &&& 255) 3)) + (fX9_bit (p0 &&& 255) 2)) / 2 * 2)))) + (1 - (((((fX9_bit (p0 &&& 255) 6) + (fX9_bit (p0 &&& 255) 5)) + (fX9_bit (p0 &&& 255) 4)) + (fX9_bit (p0 &&& 255) 2)) - ((((fX9_bit (p0 &&& 255) 6) + (fX9_bit (p0 &&& 255) 5)) + (fX9_bit (p0 &&& 255) 4)) + (fX9_bit (p0 &&& 255) 2)) / 2 * 2))) 4 q1.2) else (if (((4 * (1 - (((((fX9_bit (p0 &&& 255) 8) + (fX9_bit (p0 &&& 255) 6)) + (fX9_bit (p0 &&& 255) 2)) + (fX9_bit (p0 &&& 255) 1)) - ((((fX9_bit (p0 &&& 255) 8) + (fX9_bit (p0 &&& 255) 6)) + (fX9_bit (p0 &&& 255) 2)) + (fX9_bit (p0 &&& 255) 1)) / 2 * 2))) + (2 * (1 - (((((fX9_bit (p0 &&& 255) 8) + (fX9_bit (p0 &&& 255) 4)) + (fX9_bit (p0 &&& 255) 3)) + (fX9_bit (p0 &&& 255) 2)) - ((((fX9_bit (p0 &&& 255) 8) + (fX9_bit (p0 &&& 255) 4)) + (fX9_bit (p0 &&& 255) 3)) + (fX9_bit (p0 &&& 255) 2)) / 2 * 2)))) + (1 - (((((fX9_bit (p0 &&& 255) 6) + (fX9_bit (p0 &&& 255) 5)) + (fX9_bit (p0 &&& 255) 4)) + (fX9_bit (p0 &&& 255) 2)) - ((((fX9_bit (p0 &&& 255) 6) + (fX9_bit (p0 &&& 255) 5)) + (fX9_bit (p0 &&& 255) 4)) + (fX9_bit (p0 &&& 255) 2)) / 2 * 2))) = 4 then (fX9_guard_202  p0 (p0 &&& 255) (1 - (((((fX9_bit (p0 &&& 255) 8) + (fX9_bit (p0 &&& 255) 6)) + (fX9_bit (p0 &&& 255) 2)) + (fX9_bit (p0 &&& 255) 1)) - ((((fX9_bit (p0 &&& 255) 8) + (fX9_bit (p0 &&& 255) 6)) + (fX9_bit (p0 &&& 255) 2)) + (fX9_bit (p0 &&& 255) 1)) / 2 * 2)) (1 - (((((fX9_bit (p0 &&& 255) 8) + (fX9_bit (p0 &&& 255) 4)) + (fX9_bit (p0 &&& 255) 3)) + (fX9_bit (p0 &&& 255) 2)) - ((((fX9_bit (p0 &&& 255) 8) + (fX9_bit (p0 &&& 255) 4)) + (fX9_bit (p0 &&& 255) 3)) + (fX9_bit (p0 &&& 255) 2)) / 2 * 2)) (1 - (((((fX9_bit (p0 &&& 255) 6) + (fX9_bit (p0 &&& 255) 5)) + (fX9_bit (p0 &&& 255) 4)) + (fX9_bit (p0 &&& 255) 2)) - ((((fX9_bit (p0 &&& 255) 6) + (fX9_bit (p0 &&& 255) 5)) + (fX9_bit (p0 &&& 255) 4)) + (fX9_bit (p0 &&& 255) 2)) / 2 * 2)) (((4 * (1 - (((((fX9_bit (p0 &&& 255) 8) + (fX9_bit (p0 &&& 255) 6)) + (fX9_bit (p0 &&& 255) 2)) + (fX9_bit (p0 &&& 255) 1)) - ((((fX9_bit (p0 &&& 255) 8) + (fX9_bit (p0 &&& 255) 6)) + (fX9_bit (p0 &&& 255) 2)) + (fX9_bit (p0 &&& 255) 1)) / 2 * 2))) + (2 * (1 - (((((fX9_bit (p0 &&& 255) 8) + (fX9_bit (p0 &&& 255) 4)) + (fX9_bit (p0 &&& 255) 3)) + (fX9_bit (p0 &&& 255) 2)) - ((((fX9_bit (p0 &&& 255) 8) + (fX9_bit (p0 &&& 255) 4)) + (fX9_bit (p0 &&& 255) 3)) + (fX9_bit (p0 &&& 255) 2)) / 2 * 2)))) + (1 - (((((fX9_bit (p0 &&& 255) 6) + (fX9_bit (p0 &&& 255) 5)) + (fX9_bit (p0 &&& 255) 4)) + (fX9_bit (p0 &&& 255) 2)) - ((((fX9_bit (p0 &&& 255) 6) + (fX9_bit (p0 &&& 255) 5)) + (fX9_bit (p0 &&& 255) 4)) + (fX9_bit (p0 &&& 255) 2)) / 2 * 2))) 1 q1.2) else (if (((4 * (1 - (((((fX9_bit (p0 &&& 255) 8) + (fX9_bit (p0 &&& 255) 6)) + (fX9_bit (p0 &&& 255) 2)) + (fX9_bit (p0 &&& 255) 1)) - ((((fX9_bit (p0 &&& 255) 8) + (fX9_bit (p0 &&& 255) 6)) + (fX9_bit (p0 &&& 255) 2)) + (fX9_bit (p0 &&& 255) 1)) / 2 * 2))) + (2 * (1 - (((((fX9_bit (p0 &&& 255) 8) + (fX9_bit (p0 &&& 255) 4)) + (fX9_bit (p0 &&& 255) 3)) + (fX9_bit (p0 &&& 255) 2)) - ((((fX9_bit (p0 &&& 255) 8) + (fX9_bit (p0 &&& 255) 4)) + (fX9_bit (p0 &&& 255) 3)) + (fX9_bit (p0 &&& 255) 2)) / 2 * 2)))) + (1 - (((((fX9_bit (p0 &&& 255) 6) + (fX9_bit (p0 &&& 255) 5)) + (fX9_bit (p0 &&& 255) 4)) + (fX9_bit (p0 &&& 255) 2)) - ((((fX9_bit (p0 &&& 255) 6) + (fX9_bit (p0 &&& 255) 5)) + (fX9_bit (p0 &&& 255) 4)) + (fX9_bit (p0 &&& 255) 2)) / 2 * 2))) = 5 then (fX9_guard_202  p0 (p0 &&& 255) (1 - (((((fX9_bit (p0 &&& 255) 8) + (fX9_bit (p0 &&& 255) 6)) + (fX9_bit (p0 &&& 255) 2)) + (fX9_bit (p0 &&& 255) 1)) - ((((fX9_bit (p0 &&& 255) 8) + (fX9_bit (p0 &&& 255) 6)) + (fX9_bit (p0 &&& 255) 2)) + (fX9_bit (p0 &&& 255) 1)) / 2 * 2)) (1 - (((((fX9_bit (p0 &&& 255) 8) + (fX9_bit (p0 &&& 255) 4)) + (fX9_bit (p0 &&& 255) 3)) + (fX9_bit (p0 &&& 255) 2)) - ((((fX9_bit (p0 &&& 255) 8) + (fX9_bit (p0 &&& 255) 4)) + (fX9_bit (p0 &&& 255) 3)) + (fX9_bit (p0 &&& 255) 2)) / 2 * 2)) (1 - (((((fX9_bit (p0 &&& 255) 6) + (fX9_bit (p0 &&& 255) 5)) + (fX9_bit (p0 &&& 255) 4)) + (fX9_bit (p0 &&& 255) 2)) - ((((fX9_bit (p0 &&& 255) 6) + (fX9_bit (p0 &&& 255) 5)) + (fX9_bit (p0 &&& 255) 4)) + (fX9_bit (p0 &&& 255) 2)) / 2 * 2)) (((4 * (1 - (((((fX9_bit (p0 &&& 255) 8) + (fX9_bit (p0 &&& 255) 6)) + (fX9_bit (p0 &&& 255) 2)) + (fX9_bit (p0 &&& 255) 1)) - ((((fX9_bit (p0 &&& 255) 8) + (fX9_bit (p0 &&& 255) 6)) + (fX9_bit (p0 &&& 255) 2)) + (fX9_bit (p0 &&& 255) 1)) / 2 * 2))) + (2 * (1 - (((((fX9_bit (p0 &&& 255) 8) + (fX9_bit (p0 &&& 255) 4)) + (fX9_bit (p0 &&& 255) 3)) + (fX9_bit (p0 &&& 255) 2)) - ((((fX9_bit (p0 &&& 255) 8) + (fX9_bit (p0 &&& 255) 4)) + (fX9_bit (p0 &&& 255) 3)) + (fX9_bit (p0 &&& 255) 2)) / 2 * 2)))) + (1 - (((((fX9_bit (p0 &&& 255) 6) + (fX9_bit (p0 &&& 255) 5)) + (fX9_bit (p0 &&& 255) 4)) + (fX9_bit (p0 &&& 255) 2)) - ((((fX9_bit (p0 &&& 255) 6) + (fX9_bit (p0 &&& 255) 5)) + (fX9_bit (p0 &&& 255) 4)) + (fX9_bit (p0 &&& 255) 2)) / 2 * 2))) 6 q1.2) else (if (((4 * (1 - (((((fX9_bit (p0 &&& 255) 8) + (fX9_bit (p0 &&& 255) 6)) + (fX9_bit (p0 &&& 255) 2)) + (fX9_bit (p0 &&& 255) 1)) - ((((fX9_bit (p0 &&& 255) 8) + (fX9_bit (p0 &&& 255) 6)) + (fX9_bit (p0 &&& 255) 2)) + (fX9_bit (p0 &&& 255) 1)) / 2 * 2))) + (2 * (1 - (((((fX9_bit (p0 &&& 255) 8) + (fX9_bit (p0 &&& 255) 4)) + (fX9_bit (p0 &&& 255) 3)) + (fX9_bit (p0 &&& 255) 2)) - ((((fX9_bit (p0 &&& 255) 8) + (fX9_bit (p0 &&& 255) 4)) + (fX9_bit (p0 &&& 255) 3)) + (fX9_bit (p0 &&& 255) 2)) / 2 * 2)))) + (1 - (((((fX9_bit (p0 &&& 255) 6) + (fX9_bit (p0 &&& 255) 5)) + (fX9_bit (p0 &&& 255) 4)) + (fX9_bit (p0 &&& 255) 2)) - ((((fX9_bit (p0 &&& 255) 6) + (fX9_bit (p0 &&& 255) 5)) + (fX9_bit (p0 &&& 255) 4)) + (fX9_bit (p0 &&& 255) 2)) / 2 * 2))) = 6 then (fX9_guard_202  p0 (p0 &&& 255) (1 - (((((fX9_bit (p0 &&& 255) 8) + (fX9_bit (p0 &&& 255) 6)) + (fX9_bit (p0 &&& 255) 2)) + (fX9_bit (p0 &&& 255) 1)) - ((((fX9_bit (p0 &&& 255) 8) + (fX9_bit (p0 &&& 255) 6)) + (fX9_bit (p0 &&& 255) 2)) + (fX9_bit (p0 &&& 255) 1)) / 2 * 2)) (1 - (((((fX9_bit (p0 &&& 255) 8) + (fX9_bit (p0 &&& 255) 4)) + (fX9_bit (p0 &&& 255) 3)) + (fX9_bit (p0 &&& 255) 2)) - ((((fX9_bit (p0 &&& 255) 8) + (fX9_bit (p0 &&& 255) 4)) + (fX9_bit (p0 &&& 255) 3)) + (fX9_bit (p0 &&& 255) 2)) / 2 * 2)) (1 - (((((fX9_bit (p0 &&& 255) 6) + (fX9_bit (p0 &&& 255) 5)) + (fX9_bit (p0 &&& 255) 4)) + (fX9_bit (p0 &&& 255) 2)) - ((((fX9_bit (p0 &&& 255) 6) + (fX9_bit (p0 &&& 255) 5)) + (fX9_bit (p0 &&& 255) 4)) + (fX9_bit (p0 &&& 255) 2)) / 2 * 2)) (((4 * (1 - (((((fX9_bit (p0 &&& 255) 8) + (fX9_bit (p0 &&& 255) 6)) + (fX9_bit (p0 &&& 255) 2)) + (fX9_bit (p0 &&& 255) 1)) - ((((fX9_bit (p0 &&& 255) 8) + (fX9_bit (p0 &&& 255) 6)) + (fX9_bit (p0 &&& 255) 2)) + (fX9_bit (p0 &&& 255) 1)) / 2 * 2))) + (2 * (1 - (((((fX9_bit (p0 &&& 255) 8) + (fX9_bit (p0 &&& 255) 4)) + (fX9_bit (p0 &&& 255) 3)) + (fX9_bit (p0 &&& 255) 2)) - ((((fX9_bit (p0 &&& 255) 8) + (fX9_bit (p0 &&& 255) 4)) + (fX9_bit (p0 &&& 255) 3)) + (fX9_bit (p0 &&& 255) 2)) / 2 * 2)))) + (1 - (((((fX9_bit (p0 &&& 255) 6) + (fX9_bit (p0 &&& 255) 5)) + (fX9_bit (p0 &&& 255) 4)) + (fX9_bit (p0 &&& 255) 2)) - ((((fX9_bit (p0 &&& 255) 6) + (fX9_bit (p0 &&& 255) 5)) + (fX9_bit (p0 &&& 255) 4)) + (fX9_bit (p0 &&& 255) 2)) / 2 * 2))) 8 q1.2) else (fX9_guard_202  p0 (p0 &&& 255) (1 - (((((fX9_bit (p0 &&& 255) 8) + (fX9_bit (p0 &&& 255) 6)) + (fX9_bit (p0 &&& 255) 2)) + (fX9_bit (p0 &&& 255) 1)) - ((((fX9_bit (p0 &&& 255) 8) + (fX9_bit (p0 &&& 255) 6)) + (fX9_bit (p0 &&& 255) 2)) + (fX9_bit (p0 &&& 255) 1)) / 2 * 2)) (1 - (((((fX9_bit (p0 &&& 255) 8) + (fX9_bit (p0 &&& 255) 4)) + (fX9_bit (p0 &&& 255) 3)) + (fX9_bit (p0 &&& 255) 2)) - ((((fX9_bit (p0 &&& 255) 8) + (fX9_bit (p0 &&& 255) 4)) + (fX9_bit (p0 &&& 255) 3)) + (fX9_bit (p0 &&& 255) 2)) / 2 * 2)) (1 - (((((fX9_bit (p0 &&& 255) 6) + (fX9_bit (p0 &&& 255) 5)) + (fX9_bit (p0 &&& 255) 4)) + (fX9_bit (p0 &&& 255) 2)) - ((((fX9_bit (p0 &&& 255) 6) + (fX9_bit (p0 &&& 255) 5)) + (fX9_bit (p0 &&& 255) 4)) + (fX9_bit (p0 &&& 255) 2)) / 2 * 2)) (((4 * (1 - (((((fX9_bit (p0 &&& 255) 8) + (fX9_bit (p0 &&& 255) 6)) + (fX9_bit (p0 &&& 255) 2)) + (fX9_bit (p0 &&& 255) 1)) - ((((fX9_bit (p0 &&& 255) 8) + (fX9_bit (p0 &&& 255) 6)) + (fX9_bit (p0 &&& 255) 2)) + (fX9_bit (p0 &&& 255) 1)) / 2 * 2))) + (2 * (1 - (((((fX9_bit (p0 &&& 255) 8) + (fX9_bit (p0 &&& 255) 4)) + (fX9_bit (p0 &&& 255) 3)) + (fX9_bit (p0 &&& 255) 2)) - ((((fX9_bit (p0 &&& 255) 8) + (fX9_bit (p0 &&& 255) 4)) + (fX9_bit (p0 &&& 255) 3)) + (fX9_bit (p0 &&& 255) 2)) / 2 * 2)))) + (1 - (((((fX9_bit (p0 &&& 255) 6) + (fX9_bit (p0 &&& 255) 5)) + (fX9_bit (p0 &&& 255) 4)) + (fX9_bit (p0 &&& 255) 2)) - ((((fX9_bit (p0 &&& 255) 6) + (fX9_bit (p0 &&& 255) 5)) + (fX9_bit (p0 &&& 255) 4)) + (fX9_bit (p0 &&& 255) 2)) / 2 * 2))) 2 q1.2)))))))) else (if (((4 * (1 - (((((fX9_bit (p0 &&& 255) 8) + (fX9_bit (p0 &&& 255) 6)) + (fX9_bit (p0 &&& 255) 2)) + (fX9_bit (p0 &&& 255) 1)) - ((((fX9_bit (p0 &&& 255) 8) + (fX9_bit (p0 &&& 255) 6)) + (fX9_bit (p0 &&& 255) 2)) + (fX9_bit (p0 &&& 255) 1)) / 2 * 2))) + (2 * (1 - (((((fX9_bit (p0 &&& 255) 8) + (fX9_bit (p0 &&& 255) 4)) + (fX9_bit (p0 &&& 255) 3)) + (fX9_bit (p0 &&& 255) 2)) - ((((fX9_bit (p0 &&& 255) 8) + (fX9_bit (p0 &&& 255) 4)) + (fX9_bit (p0 &&& 255) 3)) + (fX9_bit (p0 &&& 255) 2)) / 2 * 2)))) + (1 - (((((fX9_bit (p0 &&& 255) 6) + (fX9_bit (p0 &&& 255) 5)) + (fX9_bit (p0 &&& 255) 4)) + (fX9_bit (p0 &&& 255) 2)) - ((((fX9_bit (p0 &&& 255) 6) + (fX9_bit (p0 &&& 255) 5)) + (fX9_bit (p0 &&& 255) 4)) + (fX9_bit (p0 &&& 255) 2)) / 2 * 2))) = 0 then some (fX9_valueOf (p0 &&& 255), q1.2) else some ((-1), q1.2)))
set_option maxHeartbeats 4000000 in
set_option maxRecDepth 100000 in
theorem kX9_guard_202 {G : mm_G} {A : Nat → Prop} {ini : Bool}  {R : (Int32 × mm_M)}  (x0 : Int32) (x1 : Int32) (x2 : Int32) (x3 : Int32) (x4 : Int32) (x5 : Int32) (y0 : Int32) (σ : mm_M) (hf : fX9_guard_202  x0 x1 x2 x3 x4 x5 y0 σ = some R) : mm_J cd_Y G RX9 cX9_guard 7 (some .int) ini rmX9_guard A (mm_QF cd_Y G A (mm_Pi R.1 R.2) rmX9_guard.cells rmX9_guard.slots) 202 [(0, .int x0), (1, .int x1), (2, .int x2), (3, .int x3), (4, .int x4), (5, .int x5)] [.int y0] σ 0 0 := by
  unfold fX9_guard_202 at hf
  refine mm_istore (L' := [(6, .int y0), (0, .int x0), (1, .int x1), (2, .int x2), (3, .int x3), (4, .int x4), (5, .int x5)]) dX9_guard_202 (by decide) rfl ?_
  refine mm_bipush (v := 16) dX9_guard_204 (by decide) ?_
  refine mm_iload_n (j := 2) dX9_guard_206 rfl rfl ?_
  refine mm_iconst (v := 1) dX9_guard_207 (by decide) ?_
  refine mm_iload (j := 0) dX9_guard_208 rfl ?_
  refine mm_iconst (v := 1) dX9_guard_210 (by decide) ?_
  refine mm_isub dX9_guard_211 ?_
  refine mm_ishl dX9_guard_212 ?_
  refine mm_ixor dX9_guard_213 ?_
  refine mm_callSi cd_ok (kX9_valueOf (x1 ^^^ ((1 : Int32) <<< (((y0 - 1) : Int32) &&& 31))) _ rfl) (Or.inl tw_1024) cdX9_valueOf tw_1025 nmX9_valueOf rfl rfl (by simp only [List.map_cons, List.map_nil, mm_rf_cat]; exact Nat.le_of_ble_eq_true rfl) dX9_guard_214 ⟨Nat.le_of_ble_eq_true rfl, Nat.le_of_ble_eq_true rfl⟩ ⟨Nat.le_of_ble_eq_true rfl, Nat.le_of_ble_eq_true rfl⟩ ?_
  refine mm_iadd dX9_guard_217 ?_
  cases hf
  exact mm_iret rfl rfl dX9_guard_218 ⟨rfl, rfl⟩
set_option maxHeartbeats 4000000 in
set_option maxRecDepth 100000 in
theorem kX9_guard {G : mm_G} {A : Nat → Prop} (p0 : Int32) {σ : mm_M} {R : (Int32 × mm_M)} (hf : fX9_guard p0 σ = some R) : mm_C cd_Y G yX9_guard cX9_guard 7 (some .int) rmX9_guard A [.int p0] σ (mm_Pi R.1 R.2) := by
  refine mm_C.of (by decide) (Nat.le_of_ble_eq_true rfl) ?_
  unfold fX9_guard at hf
  have e0 : lv_args 0 [.int p0] = [(0, .int p0)] := rfl
  rw [e0]
  generalize hini : (yX9_guard.name == "<init>") = ini
  clear e0
  clear hini
  refine mm_iload_n (j := 0) dX9_guard_0 rfl rfl ?_
  refine mm_sipush (v := 255) dX9_guard_1 (by decide) ?_
  refine mm_iand dX9_guard_4 ?_
  refine mm_istore_n (L' := [(1, .int (p0 &&& 255)), (0, .int p0)]) dX9_guard_5 rfl (by decide) rfl ?_
  refine mm_iconst (v := 1) dX9_guard_6 (by decide) ?_
  refine mm_iload_n (j := 0) dX9_guard_7 rfl rfl ?_
  refine mm_bipush (v := 8) dX9_guard_8 (by decide) ?_
  refine mm_callSi cd_ok (kX9_bit (p0 &&& 255) 8 _ rfl) (Or.inl tw_1021) cdX9_bit tw_1022 nmX9_bit rfl rfl (by simp only [List.map_cons, List.map_nil, mm_rf_cat]; exact Nat.le_of_ble_eq_true rfl) dX9_guard_10 ⟨Nat.le_of_ble_eq_true rfl, Nat.le_of_ble_eq_true rfl⟩ ⟨Nat.le_of_ble_eq_true rfl, Nat.le_of_ble_eq_true rfl⟩ ?_
  refine mm_iload_n (j := 0) dX9_guard_13 rfl rfl ?_
  refine mm_bipush (v := 6) dX9_guard_14 (by decide) ?_
  refine mm_callSi cd_ok (kX9_bit (p0 &&& 255) 6 _ rfl) (Or.inl tw_1021) cdX9_bit tw_1022 nmX9_bit rfl rfl (by simp only [List.map_cons, List.map_nil, mm_rf_cat]; exact Nat.le_of_ble_eq_true rfl) dX9_guard_16 ⟨Nat.le_of_ble_eq_true rfl, Nat.le_of_ble_eq_true rfl⟩ ⟨Nat.le_of_ble_eq_true rfl, Nat.le_of_ble_eq_true rfl⟩ ?_
  refine mm_iadd dX9_guard_19 ?_
  refine mm_iload_n (j := 0) dX9_guard_20 rfl rfl ?_
  refine mm_iconst (v := 2) dX9_guard_21 (by decide) ?_
  refine mm_callSi cd_ok (kX9_bit (p0 &&& 255) 2 _ rfl) (Or.inl tw_1021) cdX9_bit tw_1022 nmX9_bit rfl rfl (by simp only [List.map_cons, List.map_nil, mm_rf_cat]; exact Nat.le_of_ble_eq_true rfl) dX9_guard_22 ⟨Nat.le_of_ble_eq_true rfl, Nat.le_of_ble_eq_true rfl⟩ ⟨Nat.le_of_ble_eq_true rfl, Nat.le_of_ble_eq_true rfl⟩ ?_
  refine mm_iadd dX9_guard_25 ?_
  refine mm_iload_n (j := 0) dX9_guard_26 rfl rfl ?_
  refine mm_iconst (v := 1) dX9_guard_27 (by decide) ?_
  refine mm_callSi cd_ok (kX9_bit (p0 &&& 255) 1 _ rfl) (Or.inl tw_1021) cdX9_bit tw_1022 nmX9_bit rfl rfl (by simp only [List.map_cons, List.map_nil, mm_rf_cat]; exact Nat.le_of_ble_eq_true rfl) dX9_guard_28 ⟨Nat.le_of_ble_eq_true rfl, Nat.le_of_ble_eq_true rfl⟩ ⟨Nat.le_of_ble_eq_true rfl, Nat.le_of_ble_eq_true rfl⟩ ?_
  refine mm_iadd dX9_guard_31 ?_
  refine mm_iconst (v := 2) dX9_guard_32 (by decide) ?_
  refine mm_irem dX9_guard_33 (by decide) ?_
  refine mm_isub dX9_guard_34 ?_
  refine mm_istore_n (L' := [(2, .int (1 - (((((fX9_bit (p0 &&& 255) 8) + (fX9_bit (p0 &&& 255) 6)) + (fX9_bit (p0 &&& 255) 2)) + (fX9_bit (p0 &&& 255) 1)) - ((((fX9_bit (p0 &&& 255) 8) + (fX9_bit (p0 &&& 255) 6)) + (fX9_bit (p0 &&& 255) 2)) + (fX9_bit (p0 &&& 255) 1)) / 2 * 2))), (1, .int (p0 &&& 255)), (0, .int p0)]) dX9_guard_35 rfl (by decide) rfl ?_
  refine mm_iconst (v := 1) dX9_guard_36 (by decide) ?_
  refine mm_iload_n (j := 1) dX9_guard_37 rfl rfl ?_
  refine mm_bipush (v := 8) dX9_guard_38 (by decide) ?_
  refine mm_callSi cd_ok (kX9_bit (p0 &&& 255) 8 _ rfl) (Or.inl tw_1021) cdX9_bit tw_1022 nmX9_bit rfl rfl (by simp only [List.map_cons, List.map_nil, mm_rf_cat]; exact Nat.le_of_ble_eq_true rfl) dX9_guard_40 ⟨Nat.le_of_ble_eq_true rfl, Nat.le_of_ble_eq_true rfl⟩ ⟨Nat.le_of_ble_eq_true rfl, Nat.le_of_ble_eq_true rfl⟩ ?_
  refine mm_iload_n (j := 1) dX9_guard_43 rfl rfl ?_
  refine mm_iconst (v := 4) dX9_guard_44 (by decide) ?_
  refine mm_callSi cd_ok (kX9_bit (p0 &&& 255) 4 _ rfl) (Or.inl tw_1021) cdX9_bit tw_1022 nmX9_bit rfl rfl (by simp only [List.map_cons, List.map_nil, mm_rf_cat]; exact Nat.le_of_ble_eq_true rfl) dX9_guard_45 ⟨Nat.le_of_ble_eq_true rfl, Nat.le_of_ble_eq_true rfl⟩ ⟨Nat.le_of_ble_eq_true rfl, Nat.le_of_ble_eq_true rfl⟩ ?_
  refine mm_iadd dX9_guard_48 ?_
  refine mm_iload_n (j := 1) dX9_guard_49 rfl rfl ?_
  refine mm_iconst (v := 3) dX9_guard_50 (by decide) ?_
  refine mm_callSi cd_ok (kX9_bit (p0 &&& 255) 3 _ rfl) (Or.inl tw_1021) cdX9_bit tw_1022 nmX9_bit rfl rfl (by simp only [List.map_cons, List.map_nil, mm_rf_cat]; exact Nat.le_of_ble_eq_true rfl) dX9_guard_51 ⟨Nat.le_of_ble_eq_true rfl, Nat.le_of_ble_eq_true rfl⟩ ⟨Nat.le_of_ble_eq_true rfl, Nat.le_of_ble_eq_true rfl⟩ ?_
  refine mm_iadd dX9_guard_54 ?_
  refine mm_iload_n (j := 1) dX9_guard_55 rfl rfl ?_
  refine mm_iconst (v := 2) dX9_guard_56 (by decide) ?_
  refine mm_callSi cd_ok (kX9_bit (p0 &&& 255) 2 _ rfl) (Or.inl tw_1021) cdX9_bit tw_1022 nmX9_bit rfl rfl (by simp only [List.map_cons, List.map_nil, mm_rf_cat]; exact Nat.le_of_ble_eq_true rfl) dX9_guard_57 ⟨Nat.le_of_ble_eq_true rfl, Nat.le_of_ble_eq_true rfl⟩ ⟨Nat.le_of_ble_eq_true rfl, Nat.le_of_ble_eq_true rfl⟩ ?_
  refine mm_iadd dX9_guard_60 ?_
  refine mm_iconst (v := 2) dX9_guard_61 (by decide) ?_
  refine mm_irem dX9_guard_62 (by decide) ?_
  refine mm_isub dX9_guard_63 ?_
  refine mm_istore_n (L' := [(3, .int (1 - (((((fX9_bit (p0 &&& 255) 8) + (fX9_bit (p0 &&& 255) 4)) + (fX9_bit (p0 &&& 255) 3)) + (fX9_bit (p0 &&& 255) 2)) - ((((fX9_bit (p0 &&& 255) 8) + (fX9_bit (p0 &&& 255) 4)) + (fX9_bit (p0 &&& 255) 3)) + (fX9_bit (p0 &&& 255) 2)) / 2 * 2))), (2, .int (1 - (((((fX9_bit (p0 &&& 255) 8) + (fX9_bit (p0 &&& 255) 6)) + (fX9_bit (p0 &&& 255) 2)) + (fX9_bit (p0 &&& 255) 1)) - ((((fX9_bit (p0 &&& 255) 8) + (fX9_bit (p0 &&& 255) 6)) + (fX9_bit (p0 &&& 255) 2)) + (fX9_bit (p0 &&& 255) 1)) / 2 * 2))), (1, .int (p0 &&& 255)), (0, .int p0)]) dX9_guard_64 rfl (by decide) rfl ?_
  refine mm_iconst (v := 1) dX9_guard_65 (by decide) ?_
  refine mm_iload_n (j := 2) dX9_guard_66 rfl rfl ?_
  refine mm_bipush (v := 6) dX9_guard_67 (by decide) ?_
  refine mm_callSi cd_ok (kX9_bit (p0 &&& 255) 6 _ rfl) (Or.inl tw_1021) cdX9_bit tw_1022 nmX9_bit rfl rfl (by simp only [List.map_cons, List.map_nil, mm_rf_cat]; exact Nat.le_of_ble_eq_true rfl) dX9_guard_69 ⟨Nat.le_of_ble_eq_true rfl, Nat.le_of_ble_eq_true rfl⟩ ⟨Nat.le_of_ble_eq_true rfl, Nat.le_of_ble_eq_true rfl⟩ ?_
  refine mm_iload_n (j := 2) dX9_guard_72 rfl rfl ?_
  refine mm_iconst (v := 5) dX9_guard_73 (by decide) ?_
  refine mm_callSi cd_ok (kX9_bit (p0 &&& 255) 5 _ rfl) (Or.inl tw_1021) cdX9_bit tw_1022 nmX9_bit rfl rfl (by simp only [List.map_cons, List.map_nil, mm_rf_cat]; exact Nat.le_of_ble_eq_true rfl) dX9_guard_74 ⟨Nat.le_of_ble_eq_true rfl, Nat.le_of_ble_eq_true rfl⟩ ⟨Nat.le_of_ble_eq_true rfl, Nat.le_of_ble_eq_true rfl⟩ ?_
  refine mm_iadd dX9_guard_77 ?_
  refine mm_iload_n (j := 2) dX9_guard_78 rfl rfl ?_
  refine mm_iconst (v := 4) dX9_guard_79 (by decide) ?_
  refine mm_callSi cd_ok (kX9_bit (p0 &&& 255) 4 _ rfl) (Or.inl tw_1021) cdX9_bit tw_1022 nmX9_bit rfl rfl (by simp only [List.map_cons, List.map_nil, mm_rf_cat]; exact Nat.le_of_ble_eq_true rfl) dX9_guard_80 ⟨Nat.le_of_ble_eq_true rfl, Nat.le_of_ble_eq_true rfl⟩ ⟨Nat.le_of_ble_eq_true rfl, Nat.le_of_ble_eq_true rfl⟩ ?_
  refine mm_iadd dX9_guard_83 ?_
  refine mm_iload_n (j := 2) dX9_guard_84 rfl rfl ?_
  refine mm_iconst (v := 2) dX9_guard_85 (by decide) ?_
  refine mm_callSi cd_ok (kX9_bit (p0 &&& 255) 2 _ rfl) (Or.inl tw_1021) cdX9_bit tw_1022 nmX9_bit rfl rfl (by simp only [List.map_cons, List.map_nil, mm_rf_cat]; exact Nat.le_of_ble_eq_true rfl) dX9_guard_86 ⟨Nat.le_of_ble_eq_true rfl, Nat.le_of_ble_eq_true rfl⟩ ⟨Nat.le_of_ble_eq_true rfl, Nat.le_of_ble_eq_true rfl⟩ ?_
  refine mm_iadd dX9_guard_89 ?_
  refine mm_iconst (v := 2) dX9_guard_90 (by decide) ?_
  refine mm_irem dX9_guard_91 (by decide) ?_
  refine mm_isub dX9_guard_92 ?_
  refine mm_istore (L' := [(4, .int (1 - (((((fX9_bit (p0 &&& 255) 6) + (fX9_bit (p0 &&& 255) 5)) + (fX9_bit (p0 &&& 255) 4)) + (fX9_bit (p0 &&& 255) 2)) - ((((fX9_bit (p0 &&& 255) 6) + (fX9_bit (p0 &&& 255) 5)) + (fX9_bit (p0 &&& 255) 4)) + (fX9_bit (p0 &&& 255) 2)) / 2 * 2))), (3, .int (1 - (((((fX9_bit (p0 &&& 255) 8) + (fX9_bit (p0 &&& 255) 4)) + (fX9_bit (p0 &&& 255) 3)) + (fX9_bit (p0 &&& 255) 2)) - ((((fX9_bit (p0 &&& 255) 8) + (fX9_bit (p0 &&& 255) 4)) + (fX9_bit (p0 &&& 255) 3)) + (fX9_bit (p0 &&& 255) 2)) / 2 * 2))), (2, .int (1 - (((((fX9_bit (p0 &&& 255) 8) + (fX9_bit (p0 &&& 255) 6)) + (fX9_bit (p0 &&& 255) 2)) + (fX9_bit (p0 &&& 255) 1)) - ((((fX9_bit (p0 &&& 255) 8) + (fX9_bit (p0 &&& 255) 6)) + (fX9_bit (p0 &&& 255) 2)) + (fX9_bit (p0 &&& 255) 1)) / 2 * 2))), (1, .int (p0 &&& 255)), (0, .int p0)]) dX9_guard_93 (by decide) rfl ?_
  refine mm_iconst (v := 4) dX9_guard_95 (by decide) ?_
  refine mm_iload_n (j := 2) dX9_guard_96 rfl rfl ?_
  refine mm_imul dX9_guard_97 ?_
  refine mm_iconst (v := 2) dX9_guard_98 (by decide) ?_
  refine mm_iload_n (j := 1) dX9_guard_99 rfl rfl ?_
  refine mm_imul dX9_guard_100 ?_
  refine mm_iadd dX9_guard_101 ?_
  refine mm_iload (j := 0) dX9_guard_102 rfl ?_
  refine mm_iadd dX9_guard_104 ?_
  refine mm_istore (L' := [(5, .int (((4 * (1 - (((((fX9_bit (p0 &&& 255) 8) + (fX9_bit (p0 &&& 255) 6)) + (fX9_bit (p0 &&& 255) 2)) + (fX9_bit (p0 &&& 255) 1)) - ((((fX9_bit (p0 &&& 255) 8) + (fX9_bit (p0 &&& 255) 6)) + (fX9_bit (p0 &&& 255) 2)) + (fX9_bit (p0 &&& 255) 1)) / 2 * 2))) + (2 * (1 - (((((fX9_bit (p0 &&& 255) 8) + (fX9_bit (p0 &&& 255) 4)) + (fX9_bit (p0 &&& 255) 3)) + (fX9_bit (p0 &&& 255) 2)) - ((((fX9_bit (p0 &&& 255) 8) + (fX9_bit (p0 &&& 255) 4)) + (fX9_bit (p0 &&& 255) 3)) + (fX9_bit (p0 &&& 255) 2)) / 2 * 2)))) + (1 - (((((fX9_bit (p0 &&& 255) 6) + (fX9_bit (p0 &&& 255) 5)) + (fX9_bit (p0 &&& 255) 4)) + (fX9_bit (p0 &&& 255) 2)) - ((((fX9_bit (p0 &&& 255) 6) + (fX9_bit (p0 &&& 255) 5)) + (fX9_bit (p0 &&& 255) 4)) + (fX9_bit (p0 &&& 255) 2)) / 2 * 2)))), (4, .int (1 - (((((fX9_bit (p0 &&& 255) 6) + (fX9_bit (p0 &&& 255) 5)) + (fX9_bit (p0 &&& 255) 4)) + (fX9_bit (p0 &&& 255) 2)) - ((((fX9_bit (p0 &&& 255) 6) + (fX9_bit (p0 &&& 255) 5)) + (fX9_bit (p0 &&& 255) 4)) + (fX9_bit (p0 &&& 255) 2)) / 2 * 2))), (3, .int (1 - (((((fX9_bit (p0 &&& 255) 8) + (fX9_bit (p0 &&& 255) 4)) + (fX9_bit (p0 &&& 255) 3)) + (fX9_bit (p0 &&& 255) 2)) - ((((fX9_bit (p0 &&& 255) 8) + (fX9_bit (p0 &&& 255) 4)) + (fX9_bit (p0 &&& 255) 3)) + (fX9_bit (p0 &&& 255) 2)) / 2 * 2))), (2, .int (1 - (((((fX9_bit (p0 &&& 255) 8) + (fX9_bit (p0 &&& 255) 6)) + (fX9_bit (p0 &&& 255) 2)) + (fX9_bit (p0 &&& 255) 1)) - ((((fX9_bit (p0 &&& 255) 8) + (fX9_bit (p0 &&& 255) 6)) + (fX9_bit (p0 &&& 255) 2)) + (fX9_bit (p0 &&& 255) 1)) / 2 * 2))), (1, .int (p0 &&& 255)), (0, .int p0)]) dX9_guard_105 (by decide) rfl ?_
  refine mm_iload_n (j := 4) dX9_guard_107 rfl rfl ?_
  obtain ⟨q1, hq1, hf⟩ := mm_on_s hf
  refine mm_callSi cd_ok (kX9_isOdd (p0 &&& 255) hq1) (Or.inl tw_948) cdX9_isOdd tw_949 nmX9_isOdd rfl rfl (by simp only [List.map_cons, List.map_nil, mm_rf_cat]; exact Nat.le_of_ble_eq_true rfl) dX9_guard_108 ⟨Nat.le_of_ble_eq_true rfl, Nat.le_of_ble_eq_true rfl⟩ ⟨Nat.le_of_ble_eq_true rfl, Nat.le_of_ble_eq_true rfl⟩ ?_
  refine mm_if_eq (tgt := 128) dX9_guard_111 (by decide) (fun c2 => ?_) (fun c2 => ?_)
  · rw [if_pos c2] at hf
    refine mm_iload (j := 0) dX9_guard_128 rfl ?_
    refine mm_if_ne (tgt := 138) dX9_guard_130 (by decide) (fun c3 => ?_) (fun c3 => ?_)
    · rw [if_neg c3] at hf
      refine mm_iload (j := 0) dX9_guard_138 rfl ?_
      refine mm_iconst (v := 1) dX9_guard_140 (by decide) ?_
      refine mm_icmp_ne (tgt := 148) dX9_guard_141 (by decide) (fun c4 => ?_) (fun c4 => ?_)
      · rw [if_neg c4] at hf
        refine mm_iload (j := 0) dX9_guard_148 rfl ?_
        refine mm_iconst (v := 2) dX9_guard_150 (by decide) ?_
        refine mm_icmp_ne (tgt := 158) dX9_guard_151 (by decide) (fun c5 => ?_) (fun c5 => ?_)
        · rw [if_neg c5] at hf
          refine mm_iload (j := 0) dX9_guard_158 rfl ?_
          refine mm_iconst (v := 3) dX9_guard_160 (by decide) ?_
          refine mm_icmp_ne (tgt := 168) dX9_guard_161 (by decide) (fun c6 => ?_) (fun c6 => ?_)
          · rw [if_neg c6] at hf
            refine mm_iload (j := 0) dX9_guard_168 rfl ?_
            refine mm_iconst (v := 4) dX9_guard_170 (by decide) ?_
            refine mm_icmp_ne (tgt := 178) dX9_guard_171 (by decide) (fun c7 => ?_) (fun c7 => ?_)
            · rw [if_neg c7] at hf
              refine mm_iload (j := 0) dX9_guard_178 rfl ?_
              refine mm_iconst (v := 5) dX9_guard_180 (by decide) ?_
              refine mm_icmp_ne (tgt := 189) dX9_guard_181 (by decide) (fun c8 => ?_) (fun c8 => ?_)
              · rw [if_neg c8] at hf
                refine mm_iload (j := 0) dX9_guard_189 rfl ?_
                refine mm_bipush (v := 6) dX9_guard_191 (by decide) ?_
                refine mm_icmp_ne (tgt := 201) dX9_guard_193 (by decide) (fun c9 => ?_) (fun c9 => ?_)
                · rw [if_neg c9] at hf
                  refine mm_iconst (v := 2) dX9_guard_201 (by decide) ?_
                  refine mm_sub [5, 4, 3, 2, 1, 0] rfl ?_
                  exact kX9_guard_202  p0 (p0 &&& 255) (1 - (((((fX9_bit (p0 &&& 255) 8) + (fX9_bit (p0 &&& 255) 6)) + (fX9_bit (p0 &&& 255) 2)) + (fX9_bit (p0 &&& 255) 1)) - ((((fX9_bit (p0 &&& 255) 8) + (fX9_bit (p0 &&& 255) 6)) + (fX9_bit (p0 &&& 255) 2)) + (fX9_bit (p0 &&& 255) 1)) / 2 * 2)) (1 - (((((fX9_bit (p0 &&& 255) 8) + (fX9_bit (p0 &&& 255) 4)) + (fX9_bit (p0 &&& 255) 3)) + (fX9_bit (p0 &&& 255) 2)) - ((((fX9_bit (p0 &&& 255) 8) + (fX9_bit (p0 &&& 255) 4)) + (fX9_bit (p0 &&& 255) 3)) + (fX9_bit (p0 &&& 255) 2)) / 2 * 2)) (1 - (((((fX9_bit (p0 &&& 255) 6) + (fX9_bit (p0 &&& 255) 5)) + (fX9_bit (p0 &&& 255) 4)) + (fX9_bit (p0 &&& 255) 2)) - ((((fX9_bit (p0 &&& 255) 6) + (fX9_bit (p0 &&& 255) 5)) + (fX9_bit (p0 &&& 255) 4)) + (fX9_bit (p0 &&& 255) 2)) / 2 * 2)) (((4 * (1 - (((((fX9_bit (p0 &&& 255) 8) + (fX9_bit (p0 &&& 255) 6)) + (fX9_bit (p0 &&& 255) 2)) + (fX9_bit (p0 &&& 255) 1)) - ((((fX9_bit (p0 &&& 255) 8) + (fX9_bit (p0 &&& 255) 6)) + (fX9_bit (p0 &&& 255) 2)) + (fX9_bit (p0 &&& 255) 1)) / 2 * 2))) + (2 * (1 - (((((fX9_bit (p0 &&& 255) 8) + (fX9_bit (p0 &&& 255) 4)) + (fX9_bit (p0 &&& 255) 3)) + (fX9_bit (p0 &&& 255) 2)) - ((((fX9_bit (p0 &&& 255) 8) + (fX9_bit (p0 &&& 255) 4)) + (fX9_bit (p0 &&& 255) 3)) + (fX9_bit (p0 &&& 255) 2)) / 2 * 2)))) + (1 - (((((fX9_bit (p0 &&& 255) 6) + (fX9_bit (p0 &&& 255) 5)) + (fX9_bit (p0 &&& 255) 4)) + (fX9_bit (p0 &&& 255) 2)) - ((((fX9_bit (p0 &&& 255) 6) + (fX9_bit (p0 &&& 255) 5)) + (fX9_bit (p0 &&& 255) 4)) + (fX9_bit (p0 &&& 255) 2)) / 2 * 2))) 2 q1.2 hf
                · rw [if_pos c9] at hf
                  refine mm_bipush (v := 8) dX9_guard_196 (by decide) ?_
                  refine mm_goto (tgt := 202) dX9_guard_198 (by decide) ?_
                  refine mm_sub [5, 4, 3, 2, 1, 0] rfl ?_
                  exact kX9_guard_202  p0 (p0 &&& 255) (1 - (((((fX9_bit (p0 &&& 255) 8) + (fX9_bit (p0 &&& 255) 6)) + (fX9_bit (p0 &&& 255) 2)) + (fX9_bit (p0 &&& 255) 1)) - ((((fX9_bit (p0 &&& 255) 8) + (fX9_bit (p0 &&& 255) 6)) + (fX9_bit (p0 &&& 255) 2)) + (fX9_bit (p0 &&& 255) 1)) / 2 * 2)) (1 - (((((fX9_bit (p0 &&& 255) 8) + (fX9_bit (p0 &&& 255) 4)) + (fX9_bit (p0 &&& 255) 3)) + (fX9_bit (p0 &&& 255) 2)) - ((((fX9_bit (p0 &&& 255) 8) + (fX9_bit (p0 &&& 255) 4)) + (fX9_bit (p0 &&& 255) 3)) + (fX9_bit (p0 &&& 255) 2)) / 2 * 2)) (1 - (((((fX9_bit (p0 &&& 255) 6) + (fX9_bit (p0 &&& 255) 5)) + (fX9_bit (p0 &&& 255) 4)) + (fX9_bit (p0 &&& 255) 2)) - ((((fX9_bit (p0 &&& 255) 6) + (fX9_bit (p0 &&& 255) 5)) + (fX9_bit (p0 &&& 255) 4)) + (fX9_bit (p0 &&& 255) 2)) / 2 * 2)) (((4 * (1 - (((((fX9_bit (p0 &&& 255) 8) + (fX9_bit (p0 &&& 255) 6)) + (fX9_bit (p0 &&& 255) 2)) + (fX9_bit (p0 &&& 255) 1)) - ((((fX9_bit (p0 &&& 255) 8) + (fX9_bit (p0 &&& 255) 6)) + (fX9_bit (p0 &&& 255) 2)) + (fX9_bit (p0 &&& 255) 1)) / 2 * 2))) + (2 * (1 - (((((fX9_bit (p0 &&& 255) 8) + (fX9_bit (p0 &&& 255) 4)) + (fX9_bit (p0 &&& 255) 3)) + (fX9_bit (p0 &&& 255) 2)) - ((((fX9_bit (p0 &&& 255) 8) + (fX9_bit (p0 &&& 255) 4)) + (fX9_bit (p0 &&& 255) 3)) + (fX9_bit (p0 &&& 255) 2)) / 2 * 2)))) + (1 - (((((fX9_bit (p0 &&& 255) 6) + (fX9_bit (p0 &&& 255) 5)) + (fX9_bit (p0 &&& 255) 4)) + (fX9_bit (p0 &&& 255) 2)) - ((((fX9_bit (p0 &&& 255) 6) + (fX9_bit (p0 &&& 255) 5)) + (fX9_bit (p0 &&& 255) 4)) + (fX9_bit (p0 &&& 255) 2)) / 2 * 2))) 8 q1.2 hf
              · rw [if_pos c8] at hf
                refine mm_bipush (v := 6) dX9_guard_184 (by decide) ?_
                refine mm_goto (tgt := 202) dX9_guard_186 (by decide) ?_
                refine mm_sub [5, 4, 3, 2, 1, 0] rfl ?_
                exact kX9_guard_202  p0 (p0 &&& 255) (1 - (((((fX9_bit (p0 &&& 255) 8) + (fX9_bit (p0 &&& 255) 6)) + (fX9_bit (p0 &&& 255) 2)) + (fX9_bit (p0 &&& 255) 1)) - ((((fX9_bit (p0 &&& 255) 8) + (fX9_bit (p0 &&& 255) 6)) + (fX9_bit (p0 &&& 255) 2)) + (fX9_bit (p0 &&& 255) 1)) / 2 * 2)) (1 - (((((fX9_bit (p0 &&& 255) 8) + (fX9_bit (p0 &&& 255) 4)) + (fX9_bit (p0 &&& 255) 3)) + (fX9_bit (p0 &&& 255) 2)) - ((((fX9_bit (p0 &&& 255) 8) + (fX9_bit (p0 &&& 255) 4)) + (fX9_bit (p0 &&& 255) 3)) + (fX9_bit (p0 &&& 255) 2)) / 2 * 2)) (1 - (((((fX9_bit (p0 &&& 255) 6) + (fX9_bit (p0 &&& 255) 5)) + (fX9_bit (p0 &&& 255) 4)) + (fX9_bit (p0 &&& 255) 2)) - ((((fX9_bit (p0 &&& 255) 6) + (fX9_bit (p0 &&& 255) 5)) + (fX9_bit (p0 &&& 255) 4)) + (fX9_bit (p0 &&& 255) 2)) / 2 * 2)) (((4 * (1 - (((((fX9_bit (p0 &&& 255) 8) + (fX9_bit (p0 &&& 255) 6)) + (fX9_bit (p0 &&& 255) 2)) + (fX9_bit (p0 &&& 255) 1)) - ((((fX9_bit (p0 &&& 255) 8) + (fX9_bit (p0 &&& 255) 6)) + (fX9_bit (p0 &&& 255) 2)) + (fX9_bit (p0 &&& 255) 1)) / 2 * 2))) + (2 * (1 - (((((fX9_bit (p0 &&& 255) 8) + (fX9_bit (p0 &&& 255) 4)) + (fX9_bit (p0 &&& 255) 3)) + (fX9_bit (p0 &&& 255) 2)) - ((((fX9_bit (p0 &&& 255) 8) + (fX9_bit (p0 &&& 255) 4)) + (fX9_bit (p0 &&& 255) 3)) + (fX9_bit (p0 &&& 255) 2)) / 2 * 2)))) + (1 - (((((fX9_bit (p0 &&& 255) 6) + (fX9_bit (p0 &&& 255) 5)) + (fX9_bit (p0 &&& 255) 4)) + (fX9_bit (p0 &&& 255) 2)) - ((((fX9_bit (p0 &&& 255) 6) + (fX9_bit (p0 &&& 255) 5)) + (fX9_bit (p0 &&& 255) 4)) + (fX9_bit (p0 &&& 255) 2)) / 2 * 2))) 6 q1.2 hf
            · rw [if_pos c7] at hf
              refine mm_iconst (v := 1) dX9_guard_174 (by decide) ?_
              refine mm_goto (tgt := 202) dX9_guard_175 (by decide) ?_
              refine mm_sub [5, 4, 3, 2, 1, 0] rfl ?_
              exact kX9_guard_202  p0 (p0 &&& 255) (1 - (((((fX9_bit (p0 &&& 255) 8) + (fX9_bit (p0 &&& 255) 6)) + (fX9_bit (p0 &&& 255) 2)) + (fX9_bit (p0 &&& 255) 1)) - ((((fX9_bit (p0 &&& 255) 8) + (fX9_bit (p0 &&& 255) 6)) + (fX9_bit (p0 &&& 255) 2)) + (fX9_bit (p0 &&& 255) 1)) / 2 * 2)) (1 - (((((fX9_bit (p0 &&& 255) 8) + (fX9_bit (p0 &&& 255) 4)) + (fX9_bit (p0 &&& 255) 3)) + (fX9_bit (p0 &&& 255) 2)) - ((((fX9_bit (p0 &&& 255) 8) + (fX9_bit (p0 &&& 255) 4)) + (fX9_bit (p0 &&& 255) 3)) + (fX9_bit (p0 &&& 255) 2)) / 2 * 2)) (1 - (((((fX9_bit (p0 &&& 255) 6) + (fX9_bit (p0 &&& 255) 5)) + (fX9_bit (p0 &&& 255) 4)) + (fX9_bit (p0 &&& 255) 2)) - ((((fX9_bit (p0 &&& 255) 6) + (fX9_bit (p0 &&& 255) 5)) + (fX9_bit (p0 &&& 255) 4)) + (fX9_bit (p0 &&& 255) 2)) / 2 * 2)) (((4 * (1 - (((((fX9_bit (p0 &&& 255) 8) + (fX9_bit (p0 &&& 255) 6)) + (fX9_bit (p0 &&& 255) 2)) + (fX9_bit (p0 &&& 255) 1)) - ((((fX9_bit (p0 &&& 255) 8) + (fX9_bit (p0 &&& 255) 6)) + (fX9_bit (p0 &&& 255) 2)) + (fX9_bit (p0 &&& 255) 1)) / 2 * 2))) + (2 * (1 - (((((fX9_bit (p0 &&& 255) 8) + (fX9_bit (p0 &&& 255) 4)) + (fX9_bit (p0 &&& 255) 3)) + (fX9_bit (p0 &&& 255) 2)) - ((((fX9_bit (p0 &&& 255) 8) + (fX9_bit (p0 &&& 255) 4)) + (fX9_bit (p0 &&& 255) 3)) + (fX9_bit (p0 &&& 255) 2)) / 2 * 2)))) + (1 - (((((fX9_bit (p0 &&& 255) 6) + (fX9_bit (p0 &&& 255) 5)) + (fX9_bit (p0 &&& 255) 4)) + (fX9_bit (p0 &&& 255) 2)) - ((((fX9_bit (p0 &&& 255) 6) + (fX9_bit (p0 &&& 255) 5)) + (fX9_bit (p0 &&& 255) 4)) + (fX9_bit (p0 &&& 255) 2)) / 2 * 2))) 1 q1.2 hf
          · rw [if_pos c6] at hf
            refine mm_iconst (v := 4) dX9_guard_164 (by decide) ?_
            refine mm_goto (tgt := 202) dX9_guard_165 (by decide) ?_
            refine mm_sub [5, 4, 3, 2, 1, 0] rfl ?_
            exact kX9_guard_202  p0 (p0 &&& 255) (1 - (((((fX9_bit (p0 &&& 255) 8) + (fX9_bit (p0 &&& 255) 6)) + (fX9_bit (p0 &&& 255) 2)) + (fX9_bit (p0 &&& 255) 1)) - ((((fX9_bit (p0 &&& 255) 8) + (fX9_bit (p0 &&& 255) 6)) + (fX9_bit (p0 &&& 255) 2)) + (fX9_bit (p0 &&& 255) 1)) / 2 * 2)) (1 - (((((fX9_bit (p0 &&& 255) 8) + (fX9_bit (p0 &&& 255) 4)) + (fX9_bit (p0 &&& 255) 3)) + (fX9_bit (p0 &&& 255) 2)) - ((((fX9_bit (p0 &&& 255) 8) + (fX9_bit (p0 &&& 255) 4)) + (fX9_bit (p0 &&& 255) 3)) + (fX9_bit (p0 &&& 255) 2)) / 2 * 2)) (1 - (((((fX9_bit (p0 &&& 255) 6) + (fX9_bit (p0 &&& 255) 5)) + (fX9_bit (p0 &&& 255) 4)) + (fX9_bit (p0 &&& 255) 2)) - ((((fX9_bit (p0 &&& 255) 6) + (fX9_bit (p0 &&& 255) 5)) + (fX9_bit (p0 &&& 255) 4)) + (fX9_bit (p0 &&& 255) 2)) / 2 * 2)) (((4 * (1 - (((((fX9_bit (p0 &&& 255) 8) + (fX9_bit (p0 &&& 255) 6)) + (fX9_bit (p0 &&& 255) 2)) + (fX9_bit (p0 &&& 255) 1)) - ((((fX9_bit (p0 &&& 255) 8) + (fX9_bit (p0 &&& 255) 6)) + (fX9_bit (p0 &&& 255) 2)) + (fX9_bit (p0 &&& 255) 1)) / 2 * 2))) + (2 * (1 - (((((fX9_bit (p0 &&& 255) 8) + (fX9_bit (p0 &&& 255) 4)) + (fX9_bit (p0 &&& 255) 3)) + (fX9_bit (p0 &&& 255) 2)) - ((((fX9_bit (p0 &&& 255) 8) + (fX9_bit (p0 &&& 255) 4)) + (fX9_bit (p0 &&& 255) 3)) + (fX9_bit (p0 &&& 255) 2)) / 2 * 2)))) + (1 - (((((fX9_bit (p0 &&& 255) 6) + (fX9_bit (p0 &&& 255) 5)) + (fX9_bit (p0 &&& 255) 4)) + (fX9_bit (p0 &&& 255) 2)) - ((((fX9_bit (p0 &&& 255) 6) + (fX9_bit (p0 &&& 255) 5)) + (fX9_bit (p0 &&& 255) 4)) + (fX9_bit (p0 &&& 255) 2)) / 2 * 2))) 4 q1.2 hf
        · rw [if_pos c5] at hf
          refine mm_iconst (v := 3) dX9_guard_154 (by decide) ?_
          refine mm_goto (tgt := 202) dX9_guard_155 (by decide) ?_
          refine mm_sub [5, 4, 3, 2, 1, 0] rfl ?_
          exact kX9_guard_202  p0 (p0 &&& 255) (1 - (((((fX9_bit (p0 &&& 255) 8) + (fX9_bit (p0 &&& 255) 6)) + (fX9_bit (p0 &&& 255) 2)) + (fX9_bit (p0 &&& 255) 1)) - ((((fX9_bit (p0 &&& 255) 8) + (fX9_bit (p0 &&& 255) 6)) + (fX9_bit (p0 &&& 255) 2)) + (fX9_bit (p0 &&& 255) 1)) / 2 * 2)) (1 - (((((fX9_bit (p0 &&& 255) 8) + (fX9_bit (p0 &&& 255) 4)) + (fX9_bit (p0 &&& 255) 3)) + (fX9_bit (p0 &&& 255) 2)) - ((((fX9_bit (p0 &&& 255) 8) + (fX9_bit (p0 &&& 255) 4)) + (fX9_bit (p0 &&& 255) 3)) + (fX9_bit (p0 &&& 255) 2)) / 2 * 2)) (1 - (((((fX9_bit (p0 &&& 255) 6) + (fX9_bit (p0 &&& 255) 5)) + (fX9_bit (p0 &&& 255) 4)) + (fX9_bit (p0 &&& 255) 2)) - ((((fX9_bit (p0 &&& 255) 6) + (fX9_bit (p0 &&& 255) 5)) + (fX9_bit (p0 &&& 255) 4)) + (fX9_bit (p0 &&& 255) 2)) / 2 * 2)) (((4 * (1 - (((((fX9_bit (p0 &&& 255) 8) + (fX9_bit (p0 &&& 255) 6)) + (fX9_bit (p0 &&& 255) 2)) + (fX9_bit (p0 &&& 255) 1)) - ((((fX9_bit (p0 &&& 255) 8) + (fX9_bit (p0 &&& 255) 6)) + (fX9_bit (p0 &&& 255) 2)) + (fX9_bit (p0 &&& 255) 1)) / 2 * 2))) + (2 * (1 - (((((fX9_bit (p0 &&& 255) 8) + (fX9_bit (p0 &&& 255) 4)) + (fX9_bit (p0 &&& 255) 3)) + (fX9_bit (p0 &&& 255) 2)) - ((((fX9_bit (p0 &&& 255) 8) + (fX9_bit (p0 &&& 255) 4)) + (fX9_bit (p0 &&& 255) 3)) + (fX9_bit (p0 &&& 255) 2)) / 2 * 2)))) + (1 - (((((fX9_bit (p0 &&& 255) 6) + (fX9_bit (p0 &&& 255) 5)) + (fX9_bit (p0 &&& 255) 4)) + (fX9_bit (p0 &&& 255) 2)) - ((((fX9_bit (p0 &&& 255) 6) + (fX9_bit (p0 &&& 255) 5)) + (fX9_bit (p0 &&& 255) 4)) + (fX9_bit (p0 &&& 255) 2)) / 2 * 2))) 3 q1.2 hf
      · rw [if_pos c4] at hf
        refine mm_iconst (v := 5) dX9_guard_144 (by decide) ?_
        refine mm_goto (tgt := 202) dX9_guard_145 (by decide) ?_
        refine mm_sub [5, 4, 3, 2, 1, 0] rfl ?_
        exact kX9_guard_202  p0 (p0 &&& 255) (1 - (((((fX9_bit (p0 &&& 255) 8) + (fX9_bit (p0 &&& 255) 6)) + (fX9_bit (p0 &&& 255) 2)) + (fX9_bit (p0 &&& 255) 1)) - ((((fX9_bit (p0 &&& 255) 8) + (fX9_bit (p0 &&& 255) 6)) + (fX9_bit (p0 &&& 255) 2)) + (fX9_bit (p0 &&& 255) 1)) / 2 * 2)) (1 - (((((fX9_bit (p0 &&& 255) 8) + (fX9_bit (p0 &&& 255) 4)) + (fX9_bit (p0 &&& 255) 3)) + (fX9_bit (p0 &&& 255) 2)) - ((((fX9_bit (p0 &&& 255) 8) + (fX9_bit (p0 &&& 255) 4)) + (fX9_bit (p0 &&& 255) 3)) + (fX9_bit (p0 &&& 255) 2)) / 2 * 2)) (1 - (((((fX9_bit (p0 &&& 255) 6) + (fX9_bit (p0 &&& 255) 5)) + (fX9_bit (p0 &&& 255) 4)) + (fX9_bit (p0 &&& 255) 2)) - ((((fX9_bit (p0 &&& 255) 6) + (fX9_bit (p0 &&& 255) 5)) + (fX9_bit (p0 &&& 255) 4)) + (fX9_bit (p0 &&& 255) 2)) / 2 * 2)) (((4 * (1 - (((((fX9_bit (p0 &&& 255) 8) + (fX9_bit (p0 &&& 255) 6)) + (fX9_bit (p0 &&& 255) 2)) + (fX9_bit (p0 &&& 255) 1)) - ((((fX9_bit (p0 &&& 255) 8) + (fX9_bit (p0 &&& 255) 6)) + (fX9_bit (p0 &&& 255) 2)) + (fX9_bit (p0 &&& 255) 1)) / 2 * 2))) + (2 * (1 - (((((fX9_bit (p0 &&& 255) 8) + (fX9_bit (p0 &&& 255) 4)) + (fX9_bit (p0 &&& 255) 3)) + (fX9_bit (p0 &&& 255) 2)) - ((((fX9_bit (p0 &&& 255) 8) + (fX9_bit (p0 &&& 255) 4)) + (fX9_bit (p0 &&& 255) 3)) + (fX9_bit (p0 &&& 255) 2)) / 2 * 2)))) + (1 - (((((fX9_bit (p0 &&& 255) 6) + (fX9_bit (p0 &&& 255) 5)) + (fX9_bit (p0 &&& 255) 4)) + (fX9_bit (p0 &&& 255) 2)) - ((((fX9_bit (p0 &&& 255) 6) + (fX9_bit (p0 &&& 255) 5)) + (fX9_bit (p0 &&& 255) 4)) + (fX9_bit (p0 &&& 255) 2)) / 2 * 2))) 5 q1.2 hf
    · rw [if_pos c3] at hf
      refine mm_bipush (v := 7) dX9_guard_133 (by decide) ?_
      refine mm_goto (tgt := 202) dX9_guard_135 (by decide) ?_
      refine mm_sub [5, 4, 3, 2, 1, 0] rfl ?_
      exact kX9_guard_202  p0 (p0 &&& 255) (1 - (((((fX9_bit (p0 &&& 255) 8) + (fX9_bit (p0 &&& 255) 6)) + (fX9_bit (p0 &&& 255) 2)) + (fX9_bit (p0 &&& 255) 1)) - ((((fX9_bit (p0 &&& 255) 8) + (fX9_bit (p0 &&& 255) 6)) + (fX9_bit (p0 &&& 255) 2)) + (fX9_bit (p0 &&& 255) 1)) / 2 * 2)) (1 - (((((fX9_bit (p0 &&& 255) 8) + (fX9_bit (p0 &&& 255) 4)) + (fX9_bit (p0 &&& 255) 3)) + (fX9_bit (p0 &&& 255) 2)) - ((((fX9_bit (p0 &&& 255) 8) + (fX9_bit (p0 &&& 255) 4)) + (fX9_bit (p0 &&& 255) 3)) + (fX9_bit (p0 &&& 255) 2)) / 2 * 2)) (1 - (((((fX9_bit (p0 &&& 255) 6) + (fX9_bit (p0 &&& 255) 5)) + (fX9_bit (p0 &&& 255) 4)) + (fX9_bit (p0 &&& 255) 2)) - ((((fX9_bit (p0 &&& 255) 6) + (fX9_bit (p0 &&& 255) 5)) + (fX9_bit (p0 &&& 255) 4)) + (fX9_bit (p0 &&& 255) 2)) / 2 * 2)) (((4 * (1 - (((((fX9_bit (p0 &&& 255) 8) + (fX9_bit (p0 &&& 255) 6)) + (fX9_bit (p0 &&& 255) 2)) + (fX9_bit (p0 &&& 255) 1)) - ((((fX9_bit (p0 &&& 255) 8) + (fX9_bit (p0 &&& 255) 6)) + (fX9_bit (p0 &&& 255) 2)) + (fX9_bit (p0 &&& 255) 1)) / 2 * 2))) + (2 * (1 - (((((fX9_bit (p0 &&& 255) 8) + (fX9_bit (p0 &&& 255) 4)) + (fX9_bit (p0 &&& 255) 3)) + (fX9_bit (p0 &&& 255) 2)) - ((((fX9_bit (p0 &&& 255) 8) + (fX9_bit (p0 &&& 255) 4)) + (fX9_bit (p0 &&& 255) 3)) + (fX9_bit (p0 &&& 255) 2)) / 2 * 2)))) + (1 - (((((fX9_bit (p0 &&& 255) 6) + (fX9_bit (p0 &&& 255) 5)) + (fX9_bit (p0 &&& 255) 4)) + (fX9_bit (p0 &&& 255) 2)) - ((((fX9_bit (p0 &&& 255) 6) + (fX9_bit (p0 &&& 255) 5)) + (fX9_bit (p0 &&& 255) 4)) + (fX9_bit (p0 &&& 255) 2)) / 2 * 2))) 7 q1.2 hf
  · rw [if_neg c2] at hf
    refine mm_iload (j := 0) dX9_guard_114 rfl ?_
    refine mm_if_ne (tgt := 126) dX9_guard_116 (by decide) (fun c10 => ?_) (fun c10 => ?_)
    · rw [if_neg c10] at hf
      refine mm_iconst (v := (-1)) dX9_guard_126 (by decide) ?_
      cases hf
      exact mm_iret rfl rfl dX9_guard_127 ⟨rfl, rfl⟩
    · rw [if_pos c10] at hf
      refine mm_iload_n (j := 4) dX9_guard_119 rfl rfl ?_
      refine mm_callSi cd_ok (kX9_valueOf (p0 &&& 255) _ rfl) (Or.inl tw_1024) cdX9_valueOf tw_1025 nmX9_valueOf rfl rfl (by simp only [List.map_cons, List.map_nil, mm_rf_cat]; exact Nat.le_of_ble_eq_true rfl) dX9_guard_120 ⟨Nat.le_of_ble_eq_true rfl, Nat.le_of_ble_eq_true rfl⟩ ⟨Nat.le_of_ble_eq_true rfl, Nat.le_of_ble_eq_true rfl⟩ ?_
      refine mm_goto (tgt := 127) dX9_guard_123 (by decide) ?_
      cases hf
      exact mm_iret rfl rfl dX9_guard_127 ⟨rfl, rfl⟩
theorem dX9_guarded_0 : decode cX9_guarded 0 = .ok (.aload_n 0, 1) := by decide +kernel
theorem dX9_guarded_1 : decode cX9_guarded 1 = .ok (.iconst 0, 1) := by decide +kernel
theorem dX9_guarded_2 : decode cX9_guarded 2 = .ok (.putfield 120, 3) := by decide +kernel
theorem dX9_guarded_5 : decode cX9_guarded 5 = .ok (.iload_n 1, 1) := by decide +kernel
theorem dX9_guarded_6 : decode cX9_guarded 6 = .ok (.invokestatic 187, 3) := by decide +kernel
theorem dX9_guarded_9 : decode cX9_guarded 9 = .ok (.ireturn, 1) := by decide +kernel
theorem nmX9_guarded : mm_nm yX9_guarded 1 := ⟨by decide, by decide, by decide +kernel⟩
theorem cdX9_guarded : mm_cd cd_Y yX9_guarded cX9_guarded 2 (some .int) := ⟨tw_1017, tw_8⟩
abbrev rmX9_guarded : Room := { frames := 3, cells := 0, slots := 0, locals := 67 }
def fX9_guarded (p0 : Nat) (p1 : Int32) (σ : mm_M) : Option (Int32 × mm_M) :=
  mm_sh σ p0 (.inl 9) (mm_on (fX9_guard p1 (mm_wI σ p0 0 0)) fun q2 => some (q2.1, q2.2))
set_option maxHeartbeats 4000000 in
set_option maxRecDepth 100000 in
theorem kX9_guarded {G : mm_G} {A : Nat → Prop} (p0 : Nat) (p1 : Int32) {σ : mm_M} {R : (Int32 × mm_M)} (hf : fX9_guarded p0 p1 σ = some R) : mm_C cd_Y G yX9_guarded cX9_guarded 2 (some .int) rmX9_guarded A [.ref p0, .int p1] σ (mm_Pi R.1 R.2) := by
  refine mm_C.of (by decide) (Nat.le_of_ble_eq_true rfl) ?_
  unfold fX9_guarded at hf
  have e0 : lv_args 0 [.ref p0, .int p1] = [(0, .ref p0), (1, .int p1)] := rfl
  rw [e0]
  generalize hini : (yX9_guarded.name == "<init>") = ini
  clear e0
  clear hini
  refine mm_aload_n (j := 0) dX9_guarded_0 rfl rfl ?_
  refine mm_iconst (v := 0) dX9_guarded_1 (by decide) ?_
  obtain ⟨hs1, hf⟩ := mm_sh_s hf
  refine mm_putI (c := 9) (k := 0) cd_ok ⟨_, _, _, rfl, by decide, rfl, Or.inl tw_794⟩ hs1 rfl rfl rfl dX9_guarded_2 ?_
  refine mm_iload_n (j := 1) dX9_guarded_5 rfl rfl ?_
  obtain ⟨q2, hq2, hf⟩ := mm_on_s hf
  refine mm_callSi cd_ok (kX9_guard p1 hq2) (Or.inl tw_1018) cdX9_guard tw_1019 nmX9_guard rfl rfl (by simp only [List.map_cons, List.map_nil, mm_rf_cat]; exact Nat.le_of_ble_eq_true rfl) dX9_guarded_6 ⟨Nat.le_of_ble_eq_true rfl, Nat.le_of_ble_eq_true rfl⟩ ⟨Nat.le_of_ble_eq_true rfl, Nat.le_of_ble_eq_true rfl⟩ ?_
  cases hf
  exact mm_iret rfl rfl dX9_guarded_9 ⟨rfl, rfl⟩
theorem dX9_feed_0 : decode cX9_feed 0 = .ok (.aload_n 0, 1) := by decide +kernel
theorem dX9_feed_1 : decode cX9_feed 1 = .ok (.aload_n 0, 1) := by decide +kernel
theorem dX9_feed_2 : decode cX9_feed 2 = .ok (.getfield 190, 3) := by decide +kernel
theorem dX9_feed_5 : decode cX9_feed 5 = .ok (.bipush 20, 2) := by decide +kernel
theorem dX9_feed_7 : decode cX9_feed 7 = .ok (.iadd, 1) := by decide +kernel
theorem dX9_feed_8 : decode cX9_feed 8 = .ok (.bipush 60, 2) := by decide +kernel
theorem dX9_feed_10 : decode cX9_feed 10 = .ok (.if_icmp .gt 7, 3) := by decide +kernel
theorem dX9_feed_13 : decode cX9_feed 13 = .ok (.iconst 1, 1) := by decide +kernel
theorem dX9_feed_14 : decode cX9_feed 14 = .ok (.goto 4, 3) := by decide +kernel
theorem dX9_feed_17 : decode cX9_feed 17 = .ok (.iconst 0, 1) := by decide +kernel
theorem dX9_feed_18 : decode cX9_feed 18 = .ok (.invokevirtual 169, 3) := by decide +kernel
theorem dX9_feed_21 : decode cX9_feed 21 = .ok (.ifCond .ne 5, 3) := by decide +kernel
theorem dX9_feed_24 : decode cX9_feed 24 = .ok (.iconst 0, 1) := by decide +kernel
theorem dX9_feed_25 : decode cX9_feed 25 = .ok (.ireturn, 1) := by decide +kernel
theorem dX9_feed_26 : decode cX9_feed 26 = .ok (.iconst 0, 1) := by decide +kernel
theorem dX9_feed_27 : decode cX9_feed 27 = .ok (.istore 6, 2) := by decide +kernel
theorem dX9_feed_29 : decode cX9_feed 29 = .ok (.iload 6, 2) := by decide +kernel
theorem dX9_feed_31 : decode cX9_feed 31 = .ok (.bipush 20, 2) := by decide +kernel
theorem dX9_feed_33 : decode cX9_feed 33 = .ok (.if_icmp .ge 90, 3) := by decide +kernel
theorem dX9_feed_36 : decode cX9_feed 36 = .ok (.iload 6, 2) := by decide +kernel
theorem dX9_feed_38 : decode cX9_feed 38 = .ok (.iconst 4, 1) := by decide +kernel
theorem dX9_feed_39 : decode cX9_feed 39 = .ok (.if_icmp .ge 7, 3) := by decide +kernel
theorem dX9_feed_42 : decode cX9_feed 42 = .ok (.iload_n 1, 1) := by decide +kernel
theorem dX9_feed_43 : decode cX9_feed 43 = .ok (.goto 39, 3) := by decide +kernel
theorem dX9_feed_46 : decode cX9_feed 46 = .ok (.iload 6, 2) := by decide +kernel
theorem dX9_feed_48 : decode cX9_feed 48 = .ok (.bipush 8, 2) := by decide +kernel
theorem dX9_feed_50 : decode cX9_feed 50 = .ok (.if_icmp .ge 7, 3) := by decide +kernel
theorem dX9_feed_53 : decode cX9_feed 53 = .ok (.iload_n 2, 1) := by decide +kernel
theorem dX9_feed_54 : decode cX9_feed 54 = .ok (.goto 28, 3) := by decide +kernel
theorem dX9_feed_57 : decode cX9_feed 57 = .ok (.iload 6, 2) := by decide +kernel
theorem dX9_feed_59 : decode cX9_feed 59 = .ok (.bipush 12, 2) := by decide +kernel
theorem dX9_feed_61 : decode cX9_feed 61 = .ok (.if_icmp .ge 7, 3) := by decide +kernel
theorem dX9_feed_64 : decode cX9_feed 64 = .ok (.iload_n 3, 1) := by decide +kernel
theorem dX9_feed_65 : decode cX9_feed 65 = .ok (.goto 17, 3) := by decide +kernel
theorem dX9_feed_68 : decode cX9_feed 68 = .ok (.iload 6, 2) := by decide +kernel
theorem dX9_feed_70 : decode cX9_feed 70 = .ok (.bipush 16, 2) := by decide +kernel
theorem dX9_feed_72 : decode cX9_feed 72 = .ok (.if_icmp .ge 8, 3) := by decide +kernel
theorem dX9_feed_75 : decode cX9_feed 75 = .ok (.iload 4, 2) := by decide +kernel
theorem dX9_feed_77 : decode cX9_feed 77 = .ok (.goto 5, 3) := by decide +kernel
theorem dX9_feed_80 : decode cX9_feed 80 = .ok (.iload 5, 2) := by decide +kernel
theorem dX9_feed_82 : decode cX9_feed 82 = .ok (.istore 7, 2) := by decide +kernel
theorem dX9_feed_84 : decode cX9_feed 84 = .ok (.aload_n 0, 1) := by decide +kernel
theorem dX9_feed_85 : decode cX9_feed 85 = .ok (.getfield 40, 3) := by decide +kernel
theorem dX9_feed_88 : decode cX9_feed 88 = .ok (.aload_n 0, 1) := by decide +kernel
theorem dX9_feed_89 : decode cX9_feed 89 = .ok (.getfield 190, 3) := by decide +kernel
theorem dX9_feed_92 : decode cX9_feed 92 = .ok (.iload 7, 2) := by decide +kernel
theorem dX9_feed_94 : decode cX9_feed 94 = .ok (.bipush 24, 2) := by decide +kernel
theorem dX9_feed_96 : decode cX9_feed 96 = .ok (.bipush 8, 2) := by decide +kernel
theorem dX9_feed_98 : decode cX9_feed 98 = .ok (.iload 6, 2) := by decide +kernel
theorem dX9_feed_100 : decode cX9_feed 100 = .ok (.iconst 4, 1) := by decide +kernel
theorem dX9_feed_101 : decode cX9_feed 101 = .ok (.irem, 1) := by decide +kernel
theorem dX9_feed_102 : decode cX9_feed 102 = .ok (.imul, 1) := by decide +kernel
theorem dX9_feed_103 : decode cX9_feed 103 = .ok (.isub, 1) := by decide +kernel
theorem dX9_feed_104 : decode cX9_feed 104 = .ok (.ishr, 1) := by decide +kernel
theorem dX9_feed_105 : decode cX9_feed 105 = .ok (.i2b, 1) := by decide +kernel
theorem dX9_feed_106 : decode cX9_feed 106 = .ok (.bastore, 1) := by decide +kernel
theorem dX9_feed_107 : decode cX9_feed 107 = .ok (.aload_n 0, 1) := by decide +kernel
theorem dX9_feed_108 : decode cX9_feed 108 = .ok (.dup, 1) := by decide +kernel
theorem dX9_feed_109 : decode cX9_feed 109 = .ok (.getfield 190, 3) := by decide +kernel
theorem dX9_feed_112 : decode cX9_feed 112 = .ok (.iconst 1, 1) := by decide +kernel
theorem dX9_feed_113 : decode cX9_feed 113 = .ok (.iadd, 1) := by decide +kernel
theorem dX9_feed_114 : decode cX9_feed 114 = .ok (.putfield 190, 3) := by decide +kernel
theorem dX9_feed_117 : decode cX9_feed 117 = .ok (.iinc 6 1, 3) := by decide +kernel
theorem dX9_feed_120 : decode cX9_feed 120 = .ok (.goto (-91), 3) := by decide +kernel
theorem dX9_feed_123 : decode cX9_feed 123 = .ok (.aload_n 0, 1) := by decide +kernel
theorem dX9_feed_124 : decode cX9_feed 124 = .ok (.getfield 190, 3) := by decide +kernel
theorem dX9_feed_127 : decode cX9_feed 127 = .ok (.ireturn, 1) := by decide +kernel
theorem nmX9_feed : mm_nm yX9_feed 5 := ⟨by decide, by decide, by decide +kernel⟩
theorem cdX9_feed : mm_cd cd_Y yX9_feed cX9_feed 8 (some .int) := ⟨tw_1030, tw_8⟩
abbrev rmX9_feed : Room := { frames := 1, cells := 0, slots := 0, locals := 21 }
def fX9_feed_82 (k29 : Nat → Int32 → Int32 → Int32 → Int32 → Int32 → Int32 → mm_M → Option (Int32 × mm_M)) (a0 : Nat) (x1 : Int32) (x2 : Int32) (x3 : Int32) (x4 : Int32) (x5 : Int32) (x6 : Int32) (y0 : Int32) (σ : mm_M) : Option (Int32 × mm_M) :=
  mm_sh σ a0 (.inl 9) (mm_on (mm_R σ a0 11) fun q13 => mm_ar σ q13 2 fun n14 => mm_ib (mm_I σ a0 12) n14 ((k29 a0 x1 x2 x3 x4 x5 (x6 + 1) (mm_wI (mm_wI σ q13 ((mm_I σ a0 12).toNatClampNeg) (((y0 >>> (((24 - (8 * (x6 - x6 / 4 * 4))) : Int32) &&& 31)).toInt8.toInt32).toInt8.toInt32)) a0 12 ((mm_I (mm_wI σ q13 ((mm_I σ a0 12).toNatClampNeg) (((y0 >>> (((24 - (8 * (x6 - x6 / 4 * 4))) : Int32) &&& 31)).toInt8.toInt32).toInt8.toInt32)) a0 12) + 1)))))
def fX9_feed_29  : Nat → Nat → Int32 → Int32 → Int32 → Int32 → Int32 → Int32 → mm_M → Option (Int32 × mm_M)
  | 0 => fun _ _ _ _ _ _ _ _ => none
  | n + 1 => fun a0 x1 x2 x3 x4 x5 x6 σ =>
  (if 20 ≤ x6 then mm_sh σ a0 (.inl 9) (some (mm_I σ a0 12, σ)) else (if 4 ≤ x6 then (if 8 ≤ x6 then (if 12 ≤ x6 then (if 16 ≤ x6 then (fX9_feed_82 (fX9_feed_29  n) a0 x1 x2 x3 x4 x5 x6 x5 σ) else (fX9_feed_82 (fX9_feed_29  n) a0 x1 x2 x3 x4 x5 x6 x4 σ)) else (fX9_feed_82 (fX9_feed_29  n) a0 x1 x2 x3 x4 x5 x6 x3 σ)) else (fX9_feed_82 (fX9_feed_29  n) a0 x1 x2 x3 x4 x5 x6 x2 σ)) else (fX9_feed_82 (fX9_feed_29  n) a0 x1 x2 x3 x4 x5 x6 x1 σ)))
def fX9_feed_18  (a0 : Nat) (x1 : Int32) (x2 : Int32) (x3 : Int32) (x4 : Int32) (x5 : Int32) (y0 : Int32) (y1 : Nat) (σ : mm_M) : Option (Int32 × mm_M) :=
  mm_sh σ y1 (.inl 9) (mm_on (fX9_goes y1 y0 σ) fun q4 => (if q4.1 = 0 then some (0, q4.2) else (fX9_feed_29  mm_fuel a0 x1 x2 x3 x4 x5 0 q4.2)))
def fX9_feed (p0 : Nat) (p1 : Int32) (p2 : Int32) (p3 : Int32) (p4 : Int32) (p5 : Int32) (σ : mm_M) : Option (Int32 × mm_M) :=
  mm_sh σ p0 (.inl 9) ((if 60 < ((mm_I σ p0 12) + 20) then (fX9_feed_18  p0 p1 p2 p3 p4 p5 0 p0 σ) else (fX9_feed_18  p0 p1 p2 p3 p4 p5 1 p0 σ)))
set_option maxHeartbeats 4000000 in
set_option maxRecDepth 100000 in
theorem kX9_feed_82 {G : mm_G} {A : Nat → Prop} {ini : Bool} {k29 : Nat → Int32 → Int32 → Int32 → Int32 → Int32 → Int32 → mm_M → Option (Int32 × mm_M)} {R : (Int32 × mm_M)} (hk29 : ∀ a0 x1 x2 x3 x4 x5 x6 σ, k29 a0 x1 x2 x3 x4 x5 x6 σ = some R → mm_J cd_Y G RX9 cX9_feed 8 (some .int) ini rmX9_feed A (mm_QF cd_Y G A (mm_Pi R.1 R.2) rmX9_feed.cells rmX9_feed.slots) 29 [(0, .ref a0), (1, .int x1), (2, .int x2), (3, .int x3), (4, .int x4), (5, .int x5), (6, .int x6)] [] σ 0 0) (a0 : Nat) (x1 : Int32) (x2 : Int32) (x3 : Int32) (x4 : Int32) (x5 : Int32) (x6 : Int32) (y0 : Int32) (σ : mm_M) (hf : fX9_feed_82 k29 a0 x1 x2 x3 x4 x5 x6 y0 σ = some R) : mm_J cd_Y G RX9 cX9_feed 8 (some .int) ini rmX9_feed A (mm_QF cd_Y G A (mm_Pi R.1 R.2) rmX9_feed.cells rmX9_feed.slots) 82 [(0, .ref a0), (1, .int x1), (2, .int x2), (3, .int x3), (4, .int x4), (5, .int x5), (6, .int x6)] [.int y0] σ 0 0 := by
  unfold fX9_feed_82 at hf
  refine mm_istore (L' := [(7, .int y0), (0, .ref a0), (1, .int x1), (2, .int x2), (3, .int x3), (4, .int x4), (5, .int x5), (6, .int x6)]) dX9_feed_82 (by decide) rfl ?_
  refine mm_aload_n (j := 1) dX9_feed_84 rfl rfl ?_
  obtain ⟨hs12, hf⟩ := mm_sh_s hf
  refine mm_get (c := 9) (k := 11) (v := va_rf (mm_R σ a0 11)) cd_ok ⟨_, _, _, rfl, by decide, Or.inl tw_805⟩ hs12 rfl dX9_feed_85 ?_
  refine mm_aload_n (j := 1) dX9_feed_88 rfl rfl ?_
  refine mm_get (c := 9) (k := 12) (v := .int (mm_I σ a0 12)) cd_ok ⟨_, _, _, rfl, by decide, Or.inl tw_806⟩ hs12 rfl dX9_feed_89 ?_
  refine mm_iload (j := 0) dX9_feed_92 rfl ?_
  refine mm_bipush (v := 24) dX9_feed_94 (by decide) ?_
  refine mm_bipush (v := 8) dX9_feed_96 (by decide) ?_
  refine mm_iload (j := 7) dX9_feed_98 rfl ?_
  refine mm_iconst (v := 4) dX9_feed_100 (by decide) ?_
  refine mm_irem dX9_feed_101 (by decide) ?_
  refine mm_imul dX9_feed_102 ?_
  refine mm_isub dX9_feed_103 ?_
  refine mm_ishr dX9_feed_104 ?_
  refine mm_i2b dX9_feed_105 ?_
  obtain ⟨q13, hq13, hf⟩ := mm_on_s hf
  rw [hq13, mm_rf_some]
  obtain ⟨n14, hn14, hf⟩ := mm_ar_s hf
  obtain ⟨hi15, hf⟩ := mm_ib_s hf
  refine mm_bast hn14 rfl hi15 dX9_feed_106 ?_
  refine mm_aload_n (j := 1) dX9_feed_107 rfl rfl ?_
  refine mm_dup dX9_feed_108 rfl ?_
  refine mm_get (c := 9) (k := 12) (v := .int (mm_I (mm_wI σ q13 ((mm_I σ a0 12).toNatClampNeg) (((y0 >>> (((24 - (8 * (x6 - x6 / 4 * 4))) : Int32) &&& 31)).toInt8.toInt32).toInt8.toInt32)) a0 12)) cd_ok ⟨_, _, _, rfl, by decide, Or.inl tw_806⟩ hs12 rfl dX9_feed_109 ?_
  refine mm_iconst (v := 1) dX9_feed_112 (by decide) ?_
  refine mm_iadd dX9_feed_113 ?_
  refine mm_putI (c := 9) (k := 12) cd_ok ⟨_, _, _, rfl, by decide, rfl, Or.inl tw_806⟩ hs12 rfl rfl rfl dX9_feed_114 ?_
  refine mm_iinc (j := 7) (L' := [(6, .int (x6 + 1)), (7, .int y0), (0, .ref a0), (1, .int x1), (2, .int x2), (3, .int x3), (4, .int x4), (5, .int x5)]) dX9_feed_117 rfl rfl (by decide) rfl ?_
  refine mm_goto (tgt := 29) dX9_feed_120 (by decide) ?_
  refine mm_sub [2, 3, 4, 5, 6, 7, 0] rfl ?_
  exact hk29 a0 x1 x2 x3 x4 x5 (x6 + 1) (mm_wI (mm_wI σ q13 ((mm_I σ a0 12).toNatClampNeg) (((y0 >>> (((24 - (8 * (x6 - x6 / 4 * 4))) : Int32) &&& 31)).toInt8.toInt32).toInt8.toInt32)) a0 12 ((mm_I (mm_wI σ q13 ((mm_I σ a0 12).toNatClampNeg) (((y0 >>> (((24 - (8 * (x6 - x6 / 4 * 4))) : Int32) &&& 31)).toInt8.toInt32).toInt8.toInt32)) a0 12) + 1)) hf
set_option maxHeartbeats 4000000 in
set_option maxRecDepth 100000 in
theorem kX9_feed_29 {G : mm_G} {A : Nat → Prop} {ini : Bool}  {R : (Int32 × mm_M)}  : ∀ (a0 : Nat) (x1 : Int32) (x2 : Int32) (x3 : Int32) (x4 : Int32) (x5 : Int32) (x6 : Int32) (σ : mm_M), fX9_feed_29  mm_fuel a0 x1 x2 x3 x4 x5 x6 σ = some R → mm_J cd_Y G RX9 cX9_feed 8 (some .int) ini rmX9_feed A (mm_QF cd_Y G A (mm_Pi R.1 R.2) rmX9_feed.cells rmX9_feed.slots) 29 [(0, .ref a0), (1, .int x1), (2, .int x2), (3, .int x3), (4, .int x4), (5, .int x5), (6, .int x6)] [] σ 0 0 := by
  generalize mm_fuel = n
  induction n with
  | zero => intro a0 x1 x2 x3 x4 x5 x6 σ hf; cases hf
  | succ n ih =>
    intro a0 x1 x2 x3 x4 x5 x6 σ hf
    unfold fX9_feed_29 at hf
    refine mm_iload (j := 6) dX9_feed_29 rfl ?_
    refine mm_bipush (v := 20) dX9_feed_31 (by decide) ?_
    refine mm_icmp_ge (tgt := 123) dX9_feed_33 (by decide) (fun c6 => ?_) (fun c6 => ?_)
    · rw [if_pos c6] at hf
      refine mm_aload_n (j := 0) dX9_feed_123 rfl rfl ?_
      obtain ⟨hs7, hf⟩ := mm_sh_s hf
      refine mm_get (c := 9) (k := 12) (v := .int (mm_I σ a0 12)) cd_ok ⟨_, _, _, rfl, by decide, Or.inl tw_806⟩ hs7 rfl dX9_feed_124 ?_
      cases hf
      exact mm_iret rfl rfl dX9_feed_127 ⟨rfl, rfl⟩
    · rw [if_neg c6] at hf
      refine mm_iload (j := 6) dX9_feed_36 rfl ?_
      refine mm_iconst (v := 4) dX9_feed_38 (by decide) ?_
      refine mm_icmp_ge (tgt := 46) dX9_feed_39 (by decide) (fun c8 => ?_) (fun c8 => ?_)
      · rw [if_pos c8] at hf
        refine mm_iload (j := 6) dX9_feed_46 rfl ?_
        refine mm_bipush (v := 8) dX9_feed_48 (by decide) ?_
        refine mm_icmp_ge (tgt := 57) dX9_feed_50 (by decide) (fun c9 => ?_) (fun c9 => ?_)
        · rw [if_pos c9] at hf
          refine mm_iload (j := 6) dX9_feed_57 rfl ?_
          refine mm_bipush (v := 12) dX9_feed_59 (by decide) ?_
          refine mm_icmp_ge (tgt := 68) dX9_feed_61 (by decide) (fun c10 => ?_) (fun c10 => ?_)
          · rw [if_pos c10] at hf
            refine mm_iload (j := 6) dX9_feed_68 rfl ?_
            refine mm_bipush (v := 16) dX9_feed_70 (by decide) ?_
            refine mm_icmp_ge (tgt := 80) dX9_feed_72 (by decide) (fun c11 => ?_) (fun c11 => ?_)
            · rw [if_pos c11] at hf
              refine mm_iload (j := 5) dX9_feed_80 rfl ?_
              refine mm_sub [0, 1, 2, 3, 4, 5, 6] rfl ?_
              exact kX9_feed_82 ih a0 x1 x2 x3 x4 x5 x6 x5 σ hf
            · rw [if_neg c11] at hf
              refine mm_iload (j := 4) dX9_feed_75 rfl ?_
              refine mm_goto (tgt := 82) dX9_feed_77 (by decide) ?_
              refine mm_sub [0, 1, 2, 3, 4, 5, 6] rfl ?_
              exact kX9_feed_82 ih a0 x1 x2 x3 x4 x5 x6 x4 σ hf
          · rw [if_neg c10] at hf
            refine mm_iload_n (j := 3) dX9_feed_64 rfl rfl ?_
            refine mm_goto (tgt := 82) dX9_feed_65 (by decide) ?_
            refine mm_sub [0, 1, 2, 3, 4, 5, 6] rfl ?_
            exact kX9_feed_82 ih a0 x1 x2 x3 x4 x5 x6 x3 σ hf
        · rw [if_neg c9] at hf
          refine mm_iload_n (j := 2) dX9_feed_53 rfl rfl ?_
          refine mm_goto (tgt := 82) dX9_feed_54 (by decide) ?_
          refine mm_sub [0, 1, 2, 3, 4, 5, 6] rfl ?_
          exact kX9_feed_82 ih a0 x1 x2 x3 x4 x5 x6 x2 σ hf
      · rw [if_neg c8] at hf
        refine mm_iload_n (j := 1) dX9_feed_42 rfl rfl ?_
        refine mm_goto (tgt := 82) dX9_feed_43 (by decide) ?_
        refine mm_sub [0, 1, 2, 3, 4, 5, 6] rfl ?_
        exact kX9_feed_82 ih a0 x1 x2 x3 x4 x5 x6 x1 σ hf
set_option maxHeartbeats 4000000 in
set_option maxRecDepth 100000 in
theorem kX9_feed_18 {G : mm_G} {A : Nat → Prop} {ini : Bool}  {R : (Int32 × mm_M)}  (a0 : Nat) (x1 : Int32) (x2 : Int32) (x3 : Int32) (x4 : Int32) (x5 : Int32) (y0 : Int32) (y1 : Nat) (σ : mm_M) (hf : fX9_feed_18  a0 x1 x2 x3 x4 x5 y0 y1 σ = some R) : mm_J cd_Y G RX9 cX9_feed 8 (some .int) ini rmX9_feed A (mm_QF cd_Y G A (mm_Pi R.1 R.2) rmX9_feed.cells rmX9_feed.slots) 18 [(0, .ref a0), (1, .int x1), (2, .int x2), (3, .int x3), (4, .int x4), (5, .int x5)] [.int y0, .ref y1] σ 0 0 := by
  unfold fX9_feed_18 at hf
  obtain ⟨hs3, hf⟩ := mm_sh_s hf
  obtain ⟨q4, hq4, hf⟩ := mm_on_s hf
  refine mm_callVi cd_ok (kX9_goes y1 y0 hq4) hs3 rfl (Or.inl tw_944) cdX9_goes tw_946 ts_31 nmX9_goes rfl rfl (by simp only [List.map_cons, List.map_nil, mm_rf_cat]; exact Nat.le_of_ble_eq_true rfl) dX9_feed_18 ⟨Nat.le_of_ble_eq_true rfl, Nat.le_of_ble_eq_true rfl⟩ ⟨Nat.le_of_ble_eq_true rfl, Nat.le_of_ble_eq_true rfl⟩ ?_
  refine mm_if_ne (tgt := 26) dX9_feed_21 (by decide) (fun c5 => ?_) (fun c5 => ?_)
  · rw [if_neg c5] at hf
    refine mm_iconst (v := 0) dX9_feed_26 (by decide) ?_
    refine mm_istore (L' := [(6, .int 0), (0, .ref a0), (1, .int x1), (2, .int x2), (3, .int x3), (4, .int x4), (5, .int x5)]) dX9_feed_27 (by decide) rfl ?_
    refine mm_sub [1, 2, 3, 4, 5, 6, 0] rfl ?_
    exact kX9_feed_29  a0 x1 x2 x3 x4 x5 0 q4.2 hf
  · rw [if_pos c5] at hf
    refine mm_iconst (v := 0) dX9_feed_24 (by decide) ?_
    cases hf
    exact mm_iret rfl rfl dX9_feed_25 ⟨rfl, rfl⟩
set_option maxHeartbeats 4000000 in
set_option maxRecDepth 100000 in
theorem kX9_feed {G : mm_G} {A : Nat → Prop} (p0 : Nat) (p1 : Int32) (p2 : Int32) (p3 : Int32) (p4 : Int32) (p5 : Int32) {σ : mm_M} {R : (Int32 × mm_M)} (hf : fX9_feed p0 p1 p2 p3 p4 p5 σ = some R) : mm_C cd_Y G yX9_feed cX9_feed 8 (some .int) rmX9_feed A [.ref p0, .int p1, .int p2, .int p3, .int p4, .int p5] σ (mm_Pi R.1 R.2) := by
  refine mm_C.of (by decide) (Nat.le_of_ble_eq_true rfl) ?_
  unfold fX9_feed at hf
  have e0 : lv_args 0 [.ref p0, .int p1, .int p2, .int p3, .int p4, .int p5] = [(0, .ref p0), (1, .int p1), (2, .int p2), (3, .int p3), (4, .int p4), (5, .int p5)] := rfl
  rw [e0]
  generalize hini : (yX9_feed.name == "<init>") = ini
  clear e0
  clear hini
  refine mm_aload_n (j := 0) dX9_feed_0 rfl rfl ?_
  refine mm_aload_n (j := 0) dX9_feed_1 rfl rfl ?_
  obtain ⟨hs1, hf⟩ := mm_sh_s hf
  refine mm_get (c := 9) (k := 12) (v := .int (mm_I σ p0 12)) cd_ok ⟨_, _, _, rfl, by decide, Or.inl tw_806⟩ hs1 rfl dX9_feed_2 ?_
  refine mm_bipush (v := 20) dX9_feed_5 (by decide) ?_
  refine mm_iadd dX9_feed_7 ?_
  refine mm_bipush (v := 60) dX9_feed_8 (by decide) ?_
  refine mm_icmp_gt (tgt := 17) dX9_feed_10 (by decide) (fun c2 => ?_) (fun c2 => ?_)
  · rw [if_pos c2] at hf
    refine mm_iconst (v := 0) dX9_feed_17 (by decide) ?_
    refine mm_sub [0, 1, 2, 3, 4, 5] rfl ?_
    exact kX9_feed_18  p0 p1 p2 p3 p4 p5 0 p0 σ hf
  · rw [if_neg c2] at hf
    refine mm_iconst (v := 1) dX9_feed_13 (by decide) ?_
    refine mm_goto (tgt := 18) dX9_feed_14 (by decide) ?_
    refine mm_sub [0, 1, 2, 3, 4, 5] rfl ?_
    exact kX9_feed_18  p0 p1 p2 p3 p4 p5 1 p0 σ hf
theorem dX9_value_0 : decode cX9_value 0 = .ok (.aload_n 0, 1) := by decide +kernel
theorem dX9_value_1 : decode cX9_value 1 = .ok (.getfield 40, 3) := by decide +kernel
theorem dX9_value_4 : decode cX9_value 4 = .ok (.iload_n 1, 1) := by decide +kernel
theorem dX9_value_5 : decode cX9_value 5 = .ok (.baload, 1) := by decide +kernel
theorem dX9_value_6 : decode cX9_value 6 = .ok (.invokestatic 187, 3) := by decide +kernel
theorem dX9_value_9 : decode cX9_value 9 = .ok (.istore_n 2, 1) := by decide +kernel
theorem dX9_value_10 : decode cX9_value 10 = .ok (.iload_n 2, 1) := by decide +kernel
theorem dX9_value_11 : decode cX9_value 11 = .ok (.iconst (-1), 1) := by decide +kernel
theorem dX9_value_12 : decode cX9_value 12 = .ok (.if_icmp .ne 7, 3) := by decide +kernel
theorem dX9_value_15 : decode cX9_value 15 = .ok (.iconst (-1), 1) := by decide +kernel
theorem dX9_value_16 : decode cX9_value 16 = .ok (.goto 7, 3) := by decide +kernel
theorem dX9_value_19 : decode cX9_value 19 = .ok (.iload_n 2, 1) := by decide +kernel
theorem dX9_value_20 : decode cX9_value 20 = .ok (.bipush 15, 2) := by decide +kernel
theorem dX9_value_22 : decode cX9_value 22 = .ok (.iand, 1) := by decide +kernel
theorem dX9_value_23 : decode cX9_value 23 = .ok (.ireturn, 1) := by decide +kernel
theorem nmX9_value : mm_nm yX9_value 1 := ⟨by decide, by decide, by decide +kernel⟩
theorem cdX9_value : mm_cd cd_Y yX9_value cX9_value 3 (some .int) := ⟨tw_1038, tw_8⟩
abbrev rmX9_value : Room := { frames := 3, cells := 0, slots := 0, locals := 67 }
def fX9_value (p0 : Nat) (p1 : Int32) (σ : mm_M) : Option (Int32 × mm_M) :=
  mm_sh σ p0 (.inl 9) (mm_on (mm_R σ p0 11) fun q2 => mm_ar σ q2 2 fun n3 => mm_ib p1 n3 (mm_on (fX9_guard (mm_I σ q2 p1.toNatClampNeg) σ) fun q5 => (if q5.1 = (-1) then some ((-1), q5.2) else some (q5.1 &&& 15, q5.2))))
set_option maxHeartbeats 4000000 in
set_option maxRecDepth 100000 in
theorem kX9_value {G : mm_G} {A : Nat → Prop} (p0 : Nat) (p1 : Int32) {σ : mm_M} {R : (Int32 × mm_M)} (hf : fX9_value p0 p1 σ = some R) : mm_C cd_Y G yX9_value cX9_value 3 (some .int) rmX9_value A [.ref p0, .int p1] σ (mm_Pi R.1 R.2) := by
  refine mm_C.of (by decide) (Nat.le_of_ble_eq_true rfl) ?_
  unfold fX9_value at hf
  have e0 : lv_args 0 [.ref p0, .int p1] = [(0, .ref p0), (1, .int p1)] := rfl
  rw [e0]
  generalize hini : (yX9_value.name == "<init>") = ini
  clear e0
  clear hini
  refine mm_aload_n (j := 0) dX9_value_0 rfl rfl ?_
  obtain ⟨hs1, hf⟩ := mm_sh_s hf
  refine mm_get (c := 9) (k := 11) (v := va_rf (mm_R σ p0 11)) cd_ok ⟨_, _, _, rfl, by decide, Or.inl tw_805⟩ hs1 rfl dX9_value_1 ?_
  refine mm_iload_n (j := 1) dX9_value_4 rfl rfl ?_
  obtain ⟨q2, hq2, hf⟩ := mm_on_s hf
  rw [hq2, mm_rf_some]
  obtain ⟨n3, hn3, hf⟩ := mm_ar_s hf
  obtain ⟨hi4, hf⟩ := mm_ib_s hf
  refine mm_bald hn3 rfl hi4 dX9_value_5 ?_
  obtain ⟨q5, hq5, hf⟩ := mm_on_s hf
  refine mm_callSi cd_ok (kX9_guard (mm_I σ q2 p1.toNatClampNeg) hq5) (Or.inl tw_1018) cdX9_guard tw_1019 nmX9_guard rfl rfl (by simp only [List.map_cons, List.map_nil, mm_rf_cat]; exact Nat.le_of_ble_eq_true rfl) dX9_value_6 ⟨Nat.le_of_ble_eq_true rfl, Nat.le_of_ble_eq_true rfl⟩ ⟨Nat.le_of_ble_eq_true rfl, Nat.le_of_ble_eq_true rfl⟩ ?_
  refine mm_istore_n (L' := [(2, .int q5.1), (0, .ref p0), (1, .int p1)]) dX9_value_9 rfl (by decide) rfl ?_
  refine mm_iload_n (j := 0) dX9_value_10 rfl rfl ?_
  refine mm_iconst (v := (-1)) dX9_value_11 (by decide) ?_
  refine mm_icmp_ne (tgt := 19) dX9_value_12 (by decide) (fun c6 => ?_) (fun c6 => ?_)
  · rw [if_neg c6] at hf
    refine mm_iload_n (j := 0) dX9_value_19 rfl rfl ?_
    refine mm_bipush (v := 15) dX9_value_20 (by decide) ?_
    refine mm_iand dX9_value_22 ?_
    cases hf
    exact mm_iret rfl rfl dX9_value_23 ⟨rfl, rfl⟩
  · rw [if_pos c6] at hf
    refine mm_iconst (v := (-1)) dX9_value_15 (by decide) ?_
    refine mm_goto (tgt := 23) dX9_value_16 (by decide) ?_
    cases hf
    exact mm_iret rfl rfl dX9_value_23 ⟨rfl, rfl⟩
theorem dX9_mag_0 : decode cX9_mag 0 = .ok (.iload_n 0, 1) := by decide +kernel
theorem dX9_mag_1 : decode cX9_mag 1 = .ok (.bipush 8, 2) := by decide +kernel
theorem dX9_mag_3 : decode cX9_mag 3 = .ok (.irem, 1) := by decide +kernel
theorem dX9_mag_4 : decode cX9_mag 4 = .ok (.ifCond .ne 8, 3) := by decide +kernel
theorem dX9_mag_7 : decode cX9_mag 7 = .ok (.bipush 8, 2) := by decide +kernel
theorem dX9_mag_9 : decode cX9_mag 9 = .ok (.goto 7, 3) := by decide +kernel
theorem dX9_mag_12 : decode cX9_mag 12 = .ok (.iload_n 0, 1) := by decide +kernel
theorem dX9_mag_13 : decode cX9_mag 13 = .ok (.bipush 8, 2) := by decide +kernel
theorem dX9_mag_15 : decode cX9_mag 15 = .ok (.irem, 1) := by decide +kernel
theorem dX9_mag_16 : decode cX9_mag 16 = .ok (.ireturn, 1) := by decide +kernel
theorem nmX9_mag : mm_nm yX9_mag 1 := ⟨by decide, by decide, by decide +kernel⟩
theorem cdX9_mag : mm_cd cd_Y yX9_mag cX9_mag 1 (some .int) := ⟨tw_1041, tw_8⟩
abbrev rmX9_mag : Room := { frames := 0, cells := 0, slots := 0, locals := 0 }
def fX9_mag (p0 : Int32) : Int32 :=
  (if (p0 - p0 / 8 * 8) = 0 then 8 else p0 - p0 / 8 * 8)
set_option maxHeartbeats 4000000 in
set_option maxRecDepth 100000 in
theorem kX9_mag {G : mm_G} {A : Nat → Prop} (p0 : Int32) (σ0 : mm_M) {R : Int32} (hf : fX9_mag p0 = R) : mm_C cd_Y G yX9_mag cX9_mag 1 (some .int) rmX9_mag A [.int p0] σ0 (mm_Pi R σ0) := by
  refine mm_C.of (by decide) (Nat.le_of_ble_eq_true rfl) ?_
  unfold fX9_mag at hf
  have e0 : lv_args 0 [.int p0] = [(0, .int p0)] := rfl
  rw [e0]
  generalize hini : (yX9_mag.name == "<init>") = ini
  clear e0
  clear hini
  refine mm_iload_n (j := 0) dX9_mag_0 rfl rfl ?_
  refine mm_bipush (v := 8) dX9_mag_1 (by decide) ?_
  refine mm_irem dX9_mag_3 (by decide) ?_
  refine mm_if_ne (tgt := 12) dX9_mag_4 (by decide) (fun c1 => ?_) (fun c1 => ?_)
  · rw [if_neg c1] at hf
    refine mm_iload_n (j := 0) dX9_mag_12 rfl rfl ?_
    refine mm_bipush (v := 8) dX9_mag_13 (by decide) ?_
    refine mm_irem dX9_mag_15 (by decide) ?_
    subst hf
    exact mm_iret rfl rfl dX9_mag_16 ⟨rfl, rfl⟩
  · rw [if_pos c1] at hf
    refine mm_bipush (v := 8) dX9_mag_7 (by decide) ?_
    refine mm_goto (tgt := 16) dX9_mag_9 (by decide) ?_
    subst hf
    exact mm_iret rfl rfl dX9_mag_16 ⟨rfl, rfl⟩
theorem dX9_text_0 : decode cX9_text 0 = .ok (.sipush 1000, 3) := by decide +kernel
theorem dX9_text_3 : decode cX9_text 3 = .ok (.iload_n 1, 1) := by decide +kernel
theorem dX9_text_4 : decode cX9_text 4 = .ok (.imul, 1) := by decide +kernel
theorem dX9_text_5 : decode cX9_text 5 = .ok (.bipush 40, 2) := by decide +kernel
theorem dX9_text_7 : decode cX9_text 7 = .ok (.iload_n 2, 1) := by decide +kernel
theorem dX9_text_8 : decode cX9_text 8 = .ok (.imul, 1) := by decide +kernel
theorem dX9_text_9 : decode cX9_text 9 = .ok (.iadd, 1) := by decide +kernel
theorem dX9_text_10 : decode cX9_text 10 = .ok (.istore 6, 2) := by decide +kernel
theorem dX9_text_12 : decode cX9_text 12 = .ok (.aload_n 0, 1) := by decide +kernel
theorem dX9_text_13 : decode cX9_text 13 = .ok (.getfield 75, 3) := by decide +kernel
theorem dX9_text_16 : decode cX9_text 16 = .ok (.bipush 25, 2) := by decide +kernel
theorem dX9_text_18 : decode cX9_text 18 = .ok (.iload_n 1, 1) := by decide +kernel
theorem dX9_text_19 : decode cX9_text 19 = .ok (.imul, 1) := by decide +kernel
theorem dX9_text_20 : decode cX9_text 20 = .ok (.iload_n 2, 1) := by decide +kernel
theorem dX9_text_21 : decode cX9_text 21 = .ok (.iadd, 1) := by decide +kernel
theorem dX9_text_22 : decode cX9_text 22 = .ok (.baload, 1) := by decide +kernel
theorem dX9_text_23 : decode cX9_text 23 = .ok (.istore 7, 2) := by decide +kernel
theorem dX9_text_25 : decode cX9_text 25 = .ok (.iconst 0, 1) := by decide +kernel
theorem dX9_text_26 : decode cX9_text 26 = .ok (.istore 8, 2) := by decide +kernel
theorem dX9_text_28 : decode cX9_text 28 = .ok (.iload 8, 2) := by decide +kernel
theorem dX9_text_30 : decode cX9_text 30 = .ok (.iload 5, 2) := by decide +kernel
theorem dX9_text_32 : decode cX9_text 32 = .ok (.if_icmp .ge 74, 3) := by decide +kernel
theorem dX9_text_35 : decode cX9_text 35 = .ok (.aload_n 0, 1) := by decide +kernel
theorem dX9_text_36 : decode cX9_text 36 = .ok (.getfield 40, 3) := by decide +kernel
theorem dX9_text_39 : decode cX9_text 39 = .ok (.iload_n 3, 1) := by decide +kernel
theorem dX9_text_40 : decode cX9_text 40 = .ok (.iload 8, 2) := by decide +kernel
theorem dX9_text_42 : decode cX9_text 42 = .ok (.iadd, 1) := by decide +kernel
theorem dX9_text_43 : decode cX9_text 43 = .ok (.baload, 1) := by decide +kernel
theorem dX9_text_44 : decode cX9_text 44 = .ok (.sipush 255, 3) := by decide +kernel
theorem dX9_text_47 : decode cX9_text 47 = .ok (.iand, 1) := by decide +kernel
theorem dX9_text_48 : decode cX9_text 48 = .ok (.istore 9, 2) := by decide +kernel
theorem dX9_text_50 : decode cX9_text 50 = .ok (.iload 9, 2) := by decide +kernel
theorem dX9_text_52 : decode cX9_text 52 = .ok (.invokestatic 173, 3) := by decide +kernel
theorem dX9_text_55 : decode cX9_text 55 = .ok (.ifCond .eq 25, 3) := by decide +kernel
theorem dX9_text_58 : decode cX9_text 58 = .ok (.aload_n 0, 1) := by decide +kernel
theorem dX9_text_59 : decode cX9_text 59 = .ok (.getfield 72, 3) := by decide +kernel
theorem dX9_text_62 : decode cX9_text 62 = .ok (.iload 6, 2) := by decide +kernel
theorem dX9_text_64 : decode cX9_text 64 = .ok (.iload 4, 2) := by decide +kernel
theorem dX9_text_66 : decode cX9_text 66 = .ok (.iadd, 1) := by decide +kernel
theorem dX9_text_67 : decode cX9_text 67 = .ok (.iload 8, 2) := by decide +kernel
theorem dX9_text_69 : decode cX9_text 69 = .ok (.iadd, 1) := by decide +kernel
theorem dX9_text_70 : decode cX9_text 70 = .ok (.iload 9, 2) := by decide +kernel
theorem dX9_text_72 : decode cX9_text 72 = .ok (.bipush 127, 2) := by decide +kernel
theorem dX9_text_74 : decode cX9_text 74 = .ok (.iand, 1) := by decide +kernel
theorem dX9_text_75 : decode cX9_text 75 = .ok (.i2b, 1) := by decide +kernel
theorem dX9_text_76 : decode cX9_text 76 = .ok (.bastore, 1) := by decide +kernel
theorem dX9_text_77 : decode cX9_text 77 = .ok (.goto 23, 3) := by decide +kernel
theorem dX9_text_80 : decode cX9_text 80 = .ok (.iload 7, 2) := by decide +kernel
theorem dX9_text_82 : decode cX9_text 82 = .ok (.ifCond .ne 18, 3) := by decide +kernel
theorem dX9_text_85 : decode cX9_text 85 = .ok (.aload_n 0, 1) := by decide +kernel
theorem dX9_text_86 : decode cX9_text 86 = .ok (.getfield 72, 3) := by decide +kernel
theorem dX9_text_89 : decode cX9_text 89 = .ok (.iload 6, 2) := by decide +kernel
theorem dX9_text_91 : decode cX9_text 91 = .ok (.iload 4, 2) := by decide +kernel
theorem dX9_text_93 : decode cX9_text 93 = .ok (.iadd, 1) := by decide +kernel
theorem dX9_text_94 : decode cX9_text 94 = .ok (.iload 8, 2) := by decide +kernel
theorem dX9_text_96 : decode cX9_text 96 = .ok (.iadd, 1) := by decide +kernel
theorem dX9_text_97 : decode cX9_text 97 = .ok (.bipush 32, 2) := by decide +kernel
theorem dX9_text_99 : decode cX9_text 99 = .ok (.bastore, 1) := by decide +kernel
theorem dX9_text_100 : decode cX9_text 100 = .ok (.iinc 8 1, 3) := by decide +kernel
theorem dX9_text_103 : decode cX9_text 103 = .ok (.goto (-75), 3) := by decide +kernel
theorem dX9_text_106 : decode cX9_text 106 = .ok (.aload_n 0, 1) := by decide +kernel
theorem dX9_text_107 : decode cX9_text 107 = .ok (.getfield 75, 3) := by decide +kernel
theorem dX9_text_110 : decode cX9_text 110 = .ok (.bipush 25, 2) := by decide +kernel
theorem dX9_text_112 : decode cX9_text 112 = .ok (.iload_n 1, 1) := by decide +kernel
theorem dX9_text_113 : decode cX9_text 113 = .ok (.imul, 1) := by decide +kernel
theorem dX9_text_114 : decode cX9_text 114 = .ok (.iload_n 2, 1) := by decide +kernel
theorem dX9_text_115 : decode cX9_text 115 = .ok (.iadd, 1) := by decide +kernel
theorem dX9_text_116 : decode cX9_text 116 = .ok (.iconst 1, 1) := by decide +kernel
theorem dX9_text_117 : decode cX9_text 117 = .ok (.bastore, 1) := by decide +kernel
theorem dX9_text_118 : decode cX9_text 118 = .ok (.return_, 1) := by decide +kernel
theorem nmX9_text : mm_nm yX9_text 5 := ⟨by decide, by decide, by decide +kernel⟩
theorem cdX9_text : mm_cd cd_Y yX9_text cX9_text 10 none := ⟨tw_1068, tw_8⟩
abbrev rmX9_text : Room := { frames := 1, cells := 0, slots := 0, locals := 22 }
def fX9_text_28  : Nat → Nat → Int32 → Int32 → Int32 → Int32 → Int32 → Int32 → Int32 → Int32 → mm_M → Option mm_M
  | 0 => fun _ _ _ _ _ _ _ _ _ _ => none
  | n + 1 => fun a0 x1 x2 x3 x4 x5 x6 x7 x8 σ =>
  (if x5 ≤ x8 then mm_sh σ a0 (.inl 9) (mm_on (mm_R σ a0 24) fun q7 => mm_ar σ q7 1 fun n8 => mm_ib ((25 * x1) + x2) n8 (some (mm_wI σ q7 (((25 * x1) + x2).toNatClampNeg) (vp_nar .boolean 1)))) else mm_sh σ a0 (.inl 9) (mm_on (mm_R σ a0 11) fun q11 => mm_ar σ q11 2 fun n12 => mm_ib (x3 + x8) n12 (mm_on (fX9_isOdd ((mm_I σ q11 (x3 + x8).toNatClampNeg) &&& 255) σ) fun q14 => (if q14.1 = 0 then (if x7 = 0 then mm_sh q14.2 a0 (.inl 9) (mm_on (mm_R q14.2 a0 23) fun q18 => mm_ar q14.2 q18 2 fun n19 => mm_ib ((x6 + x4) + x8) n19 ((fX9_text_28  n a0 x1 x2 x3 x4 x5 x6 x7 (x8 + 1) (mm_wI q14.2 q18 (((x6 + x4) + x8).toNatClampNeg) ((32 : Int32).toInt8.toInt32))))) else (fX9_text_28  n a0 x1 x2 x3 x4 x5 x6 x7 (x8 + 1) q14.2)) else mm_sh q14.2 a0 (.inl 9) (mm_on (mm_R q14.2 a0 23) fun q22 => mm_ar q14.2 q22 2 fun n23 => mm_ib ((x6 + x4) + x8) n23 ((fX9_text_28  n a0 x1 x2 x3 x4 x5 x6 x7 (x8 + 1) (mm_wI q14.2 q22 (((x6 + x4) + x8).toNatClampNeg) (((((mm_I σ q11 (x3 + x8).toNatClampNeg) &&& 255) &&& 127).toInt8.toInt32).toInt8.toInt32)))))))))
def fX9_text (p0 : Nat) (p1 : Int32) (p2 : Int32) (p3 : Int32) (p4 : Int32) (p5 : Int32) (σ : mm_M) : Option mm_M :=
  mm_sh σ p0 (.inl 9) (mm_on (mm_R σ p0 24) fun q2 => mm_ar σ q2 1 fun n3 => mm_ib ((25 * p1) + p2) n3 ((fX9_text_28  mm_fuel p0 p1 p2 p3 p4 p5 ((1000 * p1) + (40 * p2)) (mm_I σ q2 ((25 * p1) + p2).toNatClampNeg) 0 σ)))
set_option maxHeartbeats 4000000 in
set_option maxRecDepth 100000 in
theorem kX9_text_28 {G : mm_G} {A : Nat → Prop} {ini : Bool}  {R : mm_M}  : ∀ (a0 : Nat) (x1 : Int32) (x2 : Int32) (x3 : Int32) (x4 : Int32) (x5 : Int32) (x6 : Int32) (x7 : Int32) (x8 : Int32) (σ : mm_M), fX9_text_28  mm_fuel a0 x1 x2 x3 x4 x5 x6 x7 x8 σ = some R → mm_J cd_Y G RX9 cX9_text 10 none ini rmX9_text A (mm_QF cd_Y G A (mm_Pv R) rmX9_text.cells rmX9_text.slots) 28 [(0, .ref a0), (1, .int x1), (2, .int x2), (3, .int x3), (4, .int x4), (5, .int x5), (6, .int x6), (7, .int x7), (8, .int x8)] [] σ 0 0 := by
  generalize mm_fuel = n
  induction n with
  | zero => intro a0 x1 x2 x3 x4 x5 x6 x7 x8 σ hf; cases hf
  | succ n ih =>
    intro a0 x1 x2 x3 x4 x5 x6 x7 x8 σ hf
    unfold fX9_text_28 at hf
    refine mm_iload (j := 8) dX9_text_28 rfl ?_
    refine mm_iload (j := 5) dX9_text_30 rfl ?_
    refine mm_icmp_ge (tgt := 106) dX9_text_32 (by decide) (fun c5 => ?_) (fun c5 => ?_)
    · rw [if_pos c5] at hf
      refine mm_aload_n (j := 0) dX9_text_106 rfl rfl ?_
      obtain ⟨hs6, hf⟩ := mm_sh_s hf
      refine mm_get (c := 9) (k := 24) (v := va_rf (mm_R σ a0 24)) cd_ok ⟨_, _, _, rfl, by decide, Or.inl tw_818⟩ hs6 rfl dX9_text_107 ?_
      refine mm_bipush (v := 25) dX9_text_110 (by decide) ?_
      refine mm_iload_n (j := 1) dX9_text_112 rfl rfl ?_
      refine mm_imul dX9_text_113 ?_
      refine mm_iload_n (j := 2) dX9_text_114 rfl rfl ?_
      refine mm_iadd dX9_text_115 ?_
      refine mm_iconst (v := 1) dX9_text_116 (by decide) ?_
      obtain ⟨q7, hq7, hf⟩ := mm_on_s hf
      rw [hq7, mm_rf_some]
      obtain ⟨n8, hn8, hf⟩ := mm_ar_s hf
      obtain ⟨hi9, hf⟩ := mm_ib_s hf
      refine mm_zast hn8 rfl hi9 dX9_text_117 ?_
      cases hf
      exact mm_vret rfl dX9_text_118 ⟨rfl, rfl⟩
    · rw [if_neg c5] at hf
      refine mm_aload_n (j := 0) dX9_text_35 rfl rfl ?_
      obtain ⟨hs10, hf⟩ := mm_sh_s hf
      refine mm_get (c := 9) (k := 11) (v := va_rf (mm_R σ a0 11)) cd_ok ⟨_, _, _, rfl, by decide, Or.inl tw_805⟩ hs10 rfl dX9_text_36 ?_
      refine mm_iload_n (j := 3) dX9_text_39 rfl rfl ?_
      refine mm_iload (j := 8) dX9_text_40 rfl ?_
      refine mm_iadd dX9_text_42 ?_
      obtain ⟨q11, hq11, hf⟩ := mm_on_s hf
      rw [hq11, mm_rf_some]
      obtain ⟨n12, hn12, hf⟩ := mm_ar_s hf
      obtain ⟨hi13, hf⟩ := mm_ib_s hf
      refine mm_bald hn12 rfl hi13 dX9_text_43 ?_
      refine mm_sipush (v := 255) dX9_text_44 (by decide) ?_
      refine mm_iand dX9_text_47 ?_
      refine mm_istore (L' := [(9, .int ((mm_I σ q11 (x3 + x8).toNatClampNeg) &&& 255)), (0, .ref a0), (1, .int x1), (2, .int x2), (3, .int x3), (4, .int x4), (5, .int x5), (6, .int x6), (7, .int x7), (8, .int x8)]) dX9_text_48 (by decide) rfl ?_
      refine mm_iload (j := 0) dX9_text_50 rfl ?_
      obtain ⟨q14, hq14, hf⟩ := mm_on_s hf
      refine mm_callSi cd_ok (kX9_isOdd ((mm_I σ q11 (x3 + x8).toNatClampNeg) &&& 255) hq14) (Or.inl tw_948) cdX9_isOdd tw_949 nmX9_isOdd rfl rfl (by simp only [List.map_cons, List.map_nil, mm_rf_cat]; exact Nat.le_of_ble_eq_true rfl) dX9_text_52 ⟨Nat.le_of_ble_eq_true rfl, Nat.le_of_ble_eq_true rfl⟩ ⟨Nat.le_of_ble_eq_true rfl, Nat.le_of_ble_eq_true rfl⟩ ?_
      refine mm_if_eq (tgt := 80) dX9_text_55 (by decide) (fun c15 => ?_) (fun c15 => ?_)
      · rw [if_pos c15] at hf
        refine mm_iload (j := 8) dX9_text_80 rfl ?_
        refine mm_if_ne (tgt := 100) dX9_text_82 (by decide) (fun c16 => ?_) (fun c16 => ?_)
        · rw [if_neg c16] at hf
          refine mm_iinc (j := 9) (L' := [(8, .int (x8 + 1)), (9, .int ((mm_I σ q11 (x3 + x8).toNatClampNeg) &&& 255)), (0, .ref a0), (1, .int x1), (2, .int x2), (3, .int x3), (4, .int x4), (5, .int x5), (6, .int x6), (7, .int x7)]) dX9_text_100 rfl rfl (by decide) rfl ?_
          refine mm_goto (tgt := 28) dX9_text_103 (by decide) ?_
          refine mm_sub [2, 3, 4, 5, 6, 7, 8, 9, 0] rfl ?_
          exact ih a0 x1 x2 x3 x4 x5 x6 x7 (x8 + 1) q14.2 hf
        · rw [if_pos c16] at hf
          refine mm_aload_n (j := 1) dX9_text_85 rfl rfl ?_
          obtain ⟨hs17, hf⟩ := mm_sh_s hf
          refine mm_get (c := 9) (k := 23) (v := va_rf (mm_R q14.2 a0 23)) cd_ok ⟨_, _, _, rfl, by decide, Or.inl tw_817⟩ hs17 rfl dX9_text_86 ?_
          refine mm_iload (j := 7) dX9_text_89 rfl ?_
          refine mm_iload (j := 5) dX9_text_91 rfl ?_
          refine mm_iadd dX9_text_93 ?_
          refine mm_iload (j := 9) dX9_text_94 rfl ?_
          refine mm_iadd dX9_text_96 ?_
          refine mm_bipush (v := 32) dX9_text_97 (by decide) ?_
          obtain ⟨q18, hq18, hf⟩ := mm_on_s hf
          rw [hq18, mm_rf_some]
          obtain ⟨n19, hn19, hf⟩ := mm_ar_s hf
          obtain ⟨hi20, hf⟩ := mm_ib_s hf
          refine mm_bast hn19 rfl hi20 dX9_text_99 ?_
          refine mm_iinc (j := 9) (L' := [(8, .int (x8 + 1)), (9, .int ((mm_I σ q11 (x3 + x8).toNatClampNeg) &&& 255)), (0, .ref a0), (1, .int x1), (2, .int x2), (3, .int x3), (4, .int x4), (5, .int x5), (6, .int x6), (7, .int x7)]) dX9_text_100 rfl rfl (by decide) rfl ?_
          refine mm_goto (tgt := 28) dX9_text_103 (by decide) ?_
          refine mm_sub [2, 3, 4, 5, 6, 7, 8, 9, 0] rfl ?_
          exact ih a0 x1 x2 x3 x4 x5 x6 x7 (x8 + 1) (mm_wI q14.2 q18 (((x6 + x4) + x8).toNatClampNeg) ((32 : Int32).toInt8.toInt32)) hf
      · rw [if_neg c15] at hf
        refine mm_aload_n (j := 1) dX9_text_58 rfl rfl ?_
        obtain ⟨hs21, hf⟩ := mm_sh_s hf
        refine mm_get (c := 9) (k := 23) (v := va_rf (mm_R q14.2 a0 23)) cd_ok ⟨_, _, _, rfl, by decide, Or.inl tw_817⟩ hs21 rfl dX9_text_59 ?_
        refine mm_iload (j := 7) dX9_text_62 rfl ?_
        refine mm_iload (j := 5) dX9_text_64 rfl ?_
        refine mm_iadd dX9_text_66 ?_
        refine mm_iload (j := 9) dX9_text_67 rfl ?_
        refine mm_iadd dX9_text_69 ?_
        refine mm_iload (j := 0) dX9_text_70 rfl ?_
        refine mm_bipush (v := 127) dX9_text_72 (by decide) ?_
        refine mm_iand dX9_text_74 ?_
        refine mm_i2b dX9_text_75 ?_
        obtain ⟨q22, hq22, hf⟩ := mm_on_s hf
        rw [hq22, mm_rf_some]
        obtain ⟨n23, hn23, hf⟩ := mm_ar_s hf
        obtain ⟨hi24, hf⟩ := mm_ib_s hf
        refine mm_bast hn23 rfl hi24 dX9_text_76 ?_
        refine mm_goto (tgt := 100) dX9_text_77 (by decide) ?_
        refine mm_iinc (j := 9) (L' := [(8, .int (x8 + 1)), (9, .int ((mm_I σ q11 (x3 + x8).toNatClampNeg) &&& 255)), (0, .ref a0), (1, .int x1), (2, .int x2), (3, .int x3), (4, .int x4), (5, .int x5), (6, .int x6), (7, .int x7)]) dX9_text_100 rfl rfl (by decide) rfl ?_
        refine mm_goto (tgt := 28) dX9_text_103 (by decide) ?_
        refine mm_sub [2, 3, 4, 5, 6, 7, 8, 9, 0] rfl ?_
        exact ih a0 x1 x2 x3 x4 x5 x6 x7 (x8 + 1) (mm_wI q14.2 q22 (((x6 + x4) + x8).toNatClampNeg) (((((mm_I σ q11 (x3 + x8).toNatClampNeg) &&& 255) &&& 127).toInt8.toInt32).toInt8.toInt32)) hf
set_option maxHeartbeats 4000000 in
set_option maxRecDepth 100000 in
theorem kX9_text {G : mm_G} {A : Nat → Prop} (p0 : Nat) (p1 : Int32) (p2 : Int32) (p3 : Int32) (p4 : Int32) (p5 : Int32) {σ : mm_M} {R : mm_M} (hf : fX9_text p0 p1 p2 p3 p4 p5 σ = some R) : mm_C cd_Y G yX9_text cX9_text 10 none rmX9_text A [.ref p0, .int p1, .int p2, .int p3, .int p4, .int p5] σ (mm_Pv R) := by
  refine mm_C.of (by decide) (Nat.le_of_ble_eq_true rfl) ?_
  unfold fX9_text at hf
  have e0 : lv_args 0 [.ref p0, .int p1, .int p2, .int p3, .int p4, .int p5] = [(0, .ref p0), (1, .int p1), (2, .int p2), (3, .int p3), (4, .int p4), (5, .int p5)] := rfl
  rw [e0]
  generalize hini : (yX9_text.name == "<init>") = ini
  clear e0
  clear hini
  refine mm_sipush (v := 1000) dX9_text_0 (by decide) ?_
  refine mm_iload_n (j := 1) dX9_text_3 rfl rfl ?_
  refine mm_imul dX9_text_4 ?_
  refine mm_bipush (v := 40) dX9_text_5 (by decide) ?_
  refine mm_iload_n (j := 2) dX9_text_7 rfl rfl ?_
  refine mm_imul dX9_text_8 ?_
  refine mm_iadd dX9_text_9 ?_
  refine mm_istore (L' := [(6, .int ((1000 * p1) + (40 * p2))), (0, .ref p0), (1, .int p1), (2, .int p2), (3, .int p3), (4, .int p4), (5, .int p5)]) dX9_text_10 (by decide) rfl ?_
  refine mm_aload_n (j := 1) dX9_text_12 rfl rfl ?_
  obtain ⟨hs1, hf⟩ := mm_sh_s hf
  refine mm_get (c := 9) (k := 24) (v := va_rf (mm_R σ p0 24)) cd_ok ⟨_, _, _, rfl, by decide, Or.inl tw_818⟩ hs1 rfl dX9_text_13 ?_
  refine mm_bipush (v := 25) dX9_text_16 (by decide) ?_
  refine mm_iload_n (j := 2) dX9_text_18 rfl rfl ?_
  refine mm_imul dX9_text_19 ?_
  refine mm_iload_n (j := 3) dX9_text_20 rfl rfl ?_
  refine mm_iadd dX9_text_21 ?_
  obtain ⟨q2, hq2, hf⟩ := mm_on_s hf
  rw [hq2, mm_rf_some]
  obtain ⟨n3, hn3, hf⟩ := mm_ar_s hf
  obtain ⟨hi4, hf⟩ := mm_ib_s hf
  refine mm_zald hn3 rfl hi4 dX9_text_22 ?_
  refine mm_istore (L' := [(7, .int (mm_I σ q2 ((25 * p1) + p2).toNatClampNeg)), (6, .int ((1000 * p1) + (40 * p2))), (0, .ref p0), (1, .int p1), (2, .int p2), (3, .int p3), (4, .int p4), (5, .int p5)]) dX9_text_23 (by decide) rfl ?_
  refine mm_iconst (v := 0) dX9_text_25 (by decide) ?_
  refine mm_istore (L' := [(8, .int 0), (7, .int (mm_I σ q2 ((25 * p1) + p2).toNatClampNeg)), (6, .int ((1000 * p1) + (40 * p2))), (0, .ref p0), (1, .int p1), (2, .int p2), (3, .int p3), (4, .int p4), (5, .int p5)]) dX9_text_26 (by decide) rfl ?_
  refine mm_sub [3, 4, 5, 6, 7, 8, 2, 1, 0] rfl ?_
  exact kX9_text_28  p0 p1 p2 p3 p4 p5 ((1000 * p1) + (40 * p2)) (mm_I σ q2 ((25 * p1) + p2).toNatClampNeg) 0 σ hf
theorem dX9_close_0 : decode cX9_close 0 = .ok (.aload_n 0, 1) := by decide +kernel
theorem dX9_close_1 : decode cX9_close 1 = .ok (.getfield 84, 3) := by decide +kernel
theorem dX9_close_4 : decode cX9_close 4 = .ok (.iload_n 1, 1) := by decide +kernel
theorem dX9_close_5 : decode cX9_close 5 = .ok (.iaload, 1) := by decide +kernel
theorem dX9_close_6 : decode cX9_close 6 = .ok (.istore_n 2, 1) := by decide +kernel
theorem dX9_close_7 : decode cX9_close 7 = .ok (.iload_n 2, 1) := by decide +kernel
theorem dX9_close_8 : decode cX9_close 8 = .ok (.iconst (-1), 1) := by decide +kernel
theorem dX9_close_9 : decode cX9_close 9 = .ok (.if_icmp .ne 4, 3) := by decide +kernel
theorem dX9_close_12 : decode cX9_close 12 = .ok (.return_, 1) := by decide +kernel
theorem dX9_close_13 : decode cX9_close 13 = .ok (.aload_n 0, 1) := by decide +kernel
theorem dX9_close_14 : decode cX9_close 14 = .ok (.getfield 84, 3) := by decide +kernel
theorem dX9_close_17 : decode cX9_close 17 = .ok (.iload_n 1, 1) := by decide +kernel
theorem dX9_close_18 : decode cX9_close 18 = .ok (.iconst (-1), 1) := by decide +kernel
theorem dX9_close_19 : decode cX9_close 19 = .ok (.iastore, 1) := by decide +kernel
theorem dX9_close_20 : decode cX9_close 20 = .ok (.aload_n 0, 1) := by decide +kernel
theorem dX9_close_21 : decode cX9_close 21 = .ok (.getfield 66, 3) := by decide +kernel
theorem dX9_close_24 : decode cX9_close 24 = .ok (.iload_n 2, 1) := by decide +kernel
theorem dX9_close_25 : decode cX9_close 25 = .ok (.dup2, 1) := by decide +kernel
theorem dX9_close_26 : decode cX9_close 26 = .ok (.iaload, 1) := by decide +kernel
theorem dX9_close_27 : decode cX9_close 27 = .ok (.iconst 1, 1) := by decide +kernel
theorem dX9_close_28 : decode cX9_close 28 = .ok (.iadd, 1) := by decide +kernel
theorem dX9_close_29 : decode cX9_close 29 = .ok (.iastore, 1) := by decide +kernel
theorem dX9_close_30 : decode cX9_close 30 = .ok (.aload_n 0, 1) := by decide +kernel
theorem dX9_close_31 : decode cX9_close 31 = .ok (.getfield 193, 3) := by decide +kernel
theorem dX9_close_34 : decode cX9_close 34 = .ok (.ifCond .eq 98, 3) := by decide +kernel
theorem dX9_close_37 : decode cX9_close 37 = .ok (.aload_n 0, 1) := by decide +kernel
theorem dX9_close_38 : decode cX9_close 38 = .ok (.getfield 54, 3) := by decide +kernel
theorem dX9_close_41 : decode cX9_close 41 = .ok (.iload_n 2, 1) := by decide +kernel
theorem dX9_close_42 : decode cX9_close 42 = .ok (.iaload, 1) := by decide +kernel
theorem dX9_close_43 : decode cX9_close 43 = .ok (.aload_n 0, 1) := by decide +kernel
theorem dX9_close_44 : decode cX9_close 44 = .ok (.getfield 197, 3) := by decide +kernel
theorem dX9_close_47 : decode cX9_close 47 = .ok (.if_icmp .ne 85, 3) := by decide +kernel
theorem dX9_close_50 : decode cX9_close 50 = .ok (.aload_n 0, 1) := by decide +kernel
theorem dX9_close_51 : decode cX9_close 51 = .ok (.getfield 57, 3) := by decide +kernel
theorem dX9_close_54 : decode cX9_close 54 = .ok (.iload_n 2, 1) := by decide +kernel
theorem dX9_close_55 : decode cX9_close 55 = .ok (.iaload, 1) := by decide +kernel
theorem dX9_close_56 : decode cX9_close 56 = .ok (.aload_n 0, 1) := by decide +kernel
theorem dX9_close_57 : decode cX9_close 57 = .ok (.getfield 200, 3) := by decide +kernel
theorem dX9_close_60 : decode cX9_close 60 = .ok (.if_icmp .ne 72, 3) := by decide +kernel
theorem dX9_close_63 : decode cX9_close 63 = .ok (.aload_n 0, 1) := by decide +kernel
theorem dX9_close_64 : decode cX9_close 64 = .ok (.iconst 1, 1) := by decide +kernel
theorem dX9_close_65 : decode cX9_close 65 = .ok (.putfield 203, 3) := by decide +kernel
theorem dX9_close_68 : decode cX9_close 68 = .ok (.iconst 0, 1) := by decide +kernel
theorem dX9_close_69 : decode cX9_close 69 = .ok (.istore_n 3, 1) := by decide +kernel
theorem dX9_close_70 : decode cX9_close 70 = .ok (.iload_n 3, 1) := by decide +kernel
theorem dX9_close_71 : decode cX9_close 71 = .ok (.sipush 1000, 3) := by decide +kernel
theorem dX9_close_74 : decode cX9_close 74 = .ok (.if_icmp .ge 27, 3) := by decide +kernel
theorem dX9_close_77 : decode cX9_close 77 = .ok (.aload_n 0, 1) := by decide +kernel
theorem dX9_close_78 : decode cX9_close 78 = .ok (.getfield 87, 3) := by decide +kernel
theorem dX9_close_81 : decode cX9_close 81 = .ok (.iload_n 3, 1) := by decide +kernel
theorem dX9_close_82 : decode cX9_close 82 = .ok (.aload_n 0, 1) := by decide +kernel
theorem dX9_close_83 : decode cX9_close 83 = .ok (.getfield 72, 3) := by decide +kernel
theorem dX9_close_86 : decode cX9_close 86 = .ok (.sipush 1000, 3) := by decide +kernel
theorem dX9_close_89 : decode cX9_close 89 = .ok (.iload_n 2, 1) := by decide +kernel
theorem dX9_close_90 : decode cX9_close 90 = .ok (.imul, 1) := by decide +kernel
theorem dX9_close_91 : decode cX9_close 91 = .ok (.iload_n 3, 1) := by decide +kernel
theorem dX9_close_92 : decode cX9_close 92 = .ok (.iadd, 1) := by decide +kernel
theorem dX9_close_93 : decode cX9_close 93 = .ok (.baload, 1) := by decide +kernel
theorem dX9_close_94 : decode cX9_close 94 = .ok (.bastore, 1) := by decide +kernel
theorem dX9_close_95 : decode cX9_close 95 = .ok (.iinc 3 1, 3) := by decide +kernel
theorem dX9_close_98 : decode cX9_close 98 = .ok (.goto (-28), 3) := by decide +kernel
theorem dX9_close_101 : decode cX9_close 101 = .ok (.iconst 0, 1) := by decide +kernel
theorem dX9_close_102 : decode cX9_close 102 = .ok (.istore_n 3, 1) := by decide +kernel
theorem dX9_close_103 : decode cX9_close 103 = .ok (.iload_n 3, 1) := by decide +kernel
theorem dX9_close_104 : decode cX9_close 104 = .ok (.bipush 25, 2) := by decide +kernel
theorem dX9_close_106 : decode cX9_close 106 = .ok (.if_icmp .ge 26, 3) := by decide +kernel
theorem dX9_close_109 : decode cX9_close 109 = .ok (.aload_n 0, 1) := by decide +kernel
theorem dX9_close_110 : decode cX9_close 110 = .ok (.getfield 90, 3) := by decide +kernel
theorem dX9_close_113 : decode cX9_close 113 = .ok (.iload_n 3, 1) := by decide +kernel
theorem dX9_close_114 : decode cX9_close 114 = .ok (.aload_n 0, 1) := by decide +kernel
theorem dX9_close_115 : decode cX9_close 115 = .ok (.getfield 75, 3) := by decide +kernel
theorem dX9_close_118 : decode cX9_close 118 = .ok (.bipush 25, 2) := by decide +kernel
theorem dX9_close_120 : decode cX9_close 120 = .ok (.iload_n 2, 1) := by decide +kernel
theorem dX9_close_121 : decode cX9_close 121 = .ok (.imul, 1) := by decide +kernel
theorem dX9_close_122 : decode cX9_close 122 = .ok (.iload_n 3, 1) := by decide +kernel
theorem dX9_close_123 : decode cX9_close 123 = .ok (.iadd, 1) := by decide +kernel
theorem dX9_close_124 : decode cX9_close 124 = .ok (.baload, 1) := by decide +kernel
theorem dX9_close_125 : decode cX9_close 125 = .ok (.bastore, 1) := by decide +kernel
theorem dX9_close_126 : decode cX9_close 126 = .ok (.iinc 3 1, 3) := by decide +kernel
theorem dX9_close_129 : decode cX9_close 129 = .ok (.goto (-26), 3) := by decide +kernel
theorem dX9_close_132 : decode cX9_close 132 = .ok (.return_, 1) := by decide +kernel
theorem nmX9_close : mm_nm yX9_close 1 := ⟨by decide, by decide, by decide +kernel⟩
theorem cdX9_close : mm_cd cd_Y yX9_close cX9_close 4 none := ⟨tw_1049, tw_8⟩
abbrev rmX9_close : Room := { frames := 0, cells := 0, slots := 0, locals := 0 }
def fX9_close_103  : Nat → Nat → Int32 → Int32 → Int32 → mm_M → Option mm_M
  | 0 => fun _ _ _ _ _ => none
  | n + 1 => fun a0 x1 x2 x3 σ =>
  (if 25 ≤ x3 then some (σ) else mm_sh σ a0 (.inl 9) (mm_on (mm_R σ a0 24) fun q25 => mm_ar σ q25 1 fun n26 => mm_ib ((25 * x2) + x3) n26 (mm_on (mm_R σ a0 33) fun q28 => mm_ar σ q28 1 fun n29 => mm_ib x3 n29 ((fX9_close_103  n a0 x1 x2 (x3 + 1) (mm_wI σ q28 (x3.toNatClampNeg) (vp_nar .boolean (mm_I σ q25 ((25 * x2) + x3).toNatClampNeg))))))))
def fX9_close_70  : Nat → Nat → Int32 → Int32 → Int32 → mm_M → Option mm_M
  | 0 => fun _ _ _ _ _ => none
  | n + 1 => fun a0 x1 x2 x3 σ =>
  (if 1000 ≤ x3 then (fX9_close_103  mm_fuel a0 x1 x2 0 σ) else mm_sh σ a0 (.inl 9) (mm_on (mm_R σ a0 23) fun q32 => mm_ar σ q32 2 fun n33 => mm_ib ((1000 * x2) + x3) n33 (mm_on (mm_R σ a0 32) fun q35 => mm_ar σ q35 2 fun n36 => mm_ib x3 n36 ((fX9_close_70  n a0 x1 x2 (x3 + 1) (mm_wI σ q35 (x3.toNatClampNeg) ((mm_I σ q32 ((1000 * x2) + x3).toNatClampNeg).toInt8.toInt32)))))))
def fX9_close (p0 : Nat) (p1 : Int32) (σ : mm_M) : Option mm_M :=
  mm_sh σ p0 (.inl 9) (mm_on (mm_R σ p0 27) fun q2 => mm_ar σ q2 0 fun n3 => mm_ib p1 n3 ((if (mm_I σ q2 p1.toNatClampNeg) = (-1) then some (σ) else mm_on (mm_R σ p0 27) fun q6 => mm_ar σ q6 0 fun n7 => mm_ib p1 n7 (mm_on (mm_R (mm_wI σ q6 (p1.toNatClampNeg) (-1)) p0 21) fun q9 => mm_ar (mm_wI σ q6 (p1.toNatClampNeg) (-1)) q9 0 fun n10 => mm_ib (mm_I σ q2 p1.toNatClampNeg) n10 (mm_ib (mm_I σ q2 p1.toNatClampNeg) n10 ((if (mm_I (mm_wI (mm_wI σ q6 (p1.toNatClampNeg) (-1)) q9 ((mm_I σ q2 p1.toNatClampNeg).toNatClampNeg) ((mm_I (mm_wI σ q6 (p1.toNatClampNeg) (-1)) q9 (mm_I σ q2 p1.toNatClampNeg).toNatClampNeg) + 1)) p0 28) = 0 then some (mm_wI (mm_wI σ q6 (p1.toNatClampNeg) (-1)) q9 ((mm_I σ q2 p1.toNatClampNeg).toNatClampNeg) ((mm_I (mm_wI σ q6 (p1.toNatClampNeg) (-1)) q9 (mm_I σ q2 p1.toNatClampNeg).toNatClampNeg) + 1)) else mm_on (mm_R (mm_wI (mm_wI σ q6 (p1.toNatClampNeg) (-1)) q9 ((mm_I σ q2 p1.toNatClampNeg).toNatClampNeg) ((mm_I (mm_wI σ q6 (p1.toNatClampNeg) (-1)) q9 (mm_I σ q2 p1.toNatClampNeg).toNatClampNeg) + 1)) p0 17) fun q14 => mm_ar (mm_wI (mm_wI σ q6 (p1.toNatClampNeg) (-1)) q9 ((mm_I σ q2 p1.toNatClampNeg).toNatClampNeg) ((mm_I (mm_wI σ q6 (p1.toNatClampNeg) (-1)) q9 (mm_I σ q2 p1.toNatClampNeg).toNatClampNeg) + 1)) q14 0 fun n15 => mm_ib (mm_I σ q2 p1.toNatClampNeg) n15 ((if (mm_I (mm_wI (mm_wI σ q6 (p1.toNatClampNeg) (-1)) q9 ((mm_I σ q2 p1.toNatClampNeg).toNatClampNeg) ((mm_I (mm_wI σ q6 (p1.toNatClampNeg) (-1)) q9 (mm_I σ q2 p1.toNatClampNeg).toNatClampNeg) + 1)) q14 (mm_I σ q2 p1.toNatClampNeg).toNatClampNeg) = (mm_I (mm_wI (mm_wI σ q6 (p1.toNatClampNeg) (-1)) q9 ((mm_I σ q2 p1.toNatClampNeg).toNatClampNeg) ((mm_I (mm_wI σ q6 (p1.toNatClampNeg) (-1)) q9 (mm_I σ q2 p1.toNatClampNeg).toNatClampNeg) + 1)) p0 29) then mm_on (mm_R (mm_wI (mm_wI σ q6 (p1.toNatClampNeg) (-1)) q9 ((mm_I σ q2 p1.toNatClampNeg).toNatClampNeg) ((mm_I (mm_wI σ q6 (p1.toNatClampNeg) (-1)) q9 (mm_I σ q2 p1.toNatClampNeg).toNatClampNeg) + 1)) p0 18) fun q18 => mm_ar (mm_wI (mm_wI σ q6 (p1.toNatClampNeg) (-1)) q9 ((mm_I σ q2 p1.toNatClampNeg).toNatClampNeg) ((mm_I (mm_wI σ q6 (p1.toNatClampNeg) (-1)) q9 (mm_I σ q2 p1.toNatClampNeg).toNatClampNeg) + 1)) q18 0 fun n19 => mm_ib (mm_I σ q2 p1.toNatClampNeg) n19 ((if (mm_I (mm_wI (mm_wI σ q6 (p1.toNatClampNeg) (-1)) q9 ((mm_I σ q2 p1.toNatClampNeg).toNatClampNeg) ((mm_I (mm_wI σ q6 (p1.toNatClampNeg) (-1)) q9 (mm_I σ q2 p1.toNatClampNeg).toNatClampNeg) + 1)) q18 (mm_I σ q2 p1.toNatClampNeg).toNatClampNeg) = (mm_I (mm_wI (mm_wI σ q6 (p1.toNatClampNeg) (-1)) q9 ((mm_I σ q2 p1.toNatClampNeg).toNatClampNeg) ((mm_I (mm_wI σ q6 (p1.toNatClampNeg) (-1)) q9 (mm_I σ q2 p1.toNatClampNeg).toNatClampNeg) + 1)) p0 30) then (fX9_close_70  mm_fuel p0 p1 (mm_I σ q2 p1.toNatClampNeg) 0 (mm_wI (mm_wI (mm_wI σ q6 (p1.toNatClampNeg) (-1)) q9 ((mm_I σ q2 p1.toNatClampNeg).toNatClampNeg) ((mm_I (mm_wI σ q6 (p1.toNatClampNeg) (-1)) q9 (mm_I σ q2 p1.toNatClampNeg).toNatClampNeg) + 1)) p0 31 1)) else some (mm_wI (mm_wI σ q6 (p1.toNatClampNeg) (-1)) q9 ((mm_I σ q2 p1.toNatClampNeg).toNatClampNeg) ((mm_I (mm_wI σ q6 (p1.toNatClampNeg) (-1)) q9 (mm_I σ q2 p1.toNatClampNeg).toNatClampNeg) + 1)))) else some (mm_wI (mm_wI σ q6 (p1.toNatClampNeg) (-1)) q9 ((mm_I σ q2 p1.toNatClampNeg).toNatClampNeg) ((mm_I (mm_wI σ q6 (p1.toNatClampNeg) (-1)) q9 (mm_I σ q2 p1.toNatClampNeg).toNatClampNeg) + 1)))))))))))
set_option maxHeartbeats 4000000 in
set_option maxRecDepth 100000 in
theorem kX9_close_103 {G : mm_G} {A : Nat → Prop} {ini : Bool}  {R : mm_M}  : ∀ (a0 : Nat) (x1 : Int32) (x2 : Int32) (x3 : Int32) (σ : mm_M), fX9_close_103  mm_fuel a0 x1 x2 x3 σ = some R → mm_J cd_Y G RX9 cX9_close 4 none ini rmX9_close A (mm_QF cd_Y G A (mm_Pv R) rmX9_close.cells rmX9_close.slots) 103 [(0, .ref a0), (1, .int x1), (2, .int x2), (3, .int x3)] [] σ 0 0 := by
  generalize mm_fuel = n
  induction n with
  | zero => intro a0 x1 x2 x3 σ hf; cases hf
  | succ n ih =>
    intro a0 x1 x2 x3 σ hf
    unfold fX9_close_103 at hf
    refine mm_iload_n (j := 3) dX9_close_103 rfl rfl ?_
    refine mm_bipush (v := 25) dX9_close_104 (by decide) ?_
    refine mm_icmp_ge (tgt := 132) dX9_close_106 (by decide) (fun c23 => ?_) (fun c23 => ?_)
    · rw [if_pos c23] at hf
      cases hf
      exact mm_vret rfl dX9_close_132 ⟨rfl, rfl⟩
    · rw [if_neg c23] at hf
      refine mm_aload_n (j := 0) dX9_close_109 rfl rfl ?_
      obtain ⟨hs24, hf⟩ := mm_sh_s hf
      refine mm_get (c := 9) (k := 33) (v := va_rf (mm_R σ a0 33)) cd_ok ⟨_, _, _, rfl, by decide, Or.inl tw_827⟩ hs24 rfl dX9_close_110 ?_
      refine mm_iload_n (j := 3) dX9_close_113 rfl rfl ?_
      refine mm_aload_n (j := 0) dX9_close_114 rfl rfl ?_
      refine mm_get (c := 9) (k := 24) (v := va_rf (mm_R σ a0 24)) cd_ok ⟨_, _, _, rfl, by decide, Or.inl tw_818⟩ hs24 rfl dX9_close_115 ?_
      refine mm_bipush (v := 25) dX9_close_118 (by decide) ?_
      refine mm_iload_n (j := 2) dX9_close_120 rfl rfl ?_
      refine mm_imul dX9_close_121 ?_
      refine mm_iload_n (j := 3) dX9_close_122 rfl rfl ?_
      refine mm_iadd dX9_close_123 ?_
      obtain ⟨q25, hq25, hf⟩ := mm_on_s hf
      rw [hq25, mm_rf_some]
      obtain ⟨n26, hn26, hf⟩ := mm_ar_s hf
      obtain ⟨hi27, hf⟩ := mm_ib_s hf
      refine mm_zald hn26 rfl hi27 dX9_close_124 ?_
      obtain ⟨q28, hq28, hf⟩ := mm_on_s hf
      rw [hq28, mm_rf_some]
      obtain ⟨n29, hn29, hf⟩ := mm_ar_s hf
      obtain ⟨hi30, hf⟩ := mm_ib_s hf
      refine mm_zast hn29 rfl hi30 dX9_close_125 ?_
      refine mm_iinc (j := 3) (L' := [(3, .int (x3 + 1)), (0, .ref a0), (1, .int x1), (2, .int x2)]) dX9_close_126 rfl rfl (by decide) rfl ?_
      refine mm_goto (tgt := 103) dX9_close_129 (by decide) ?_
      refine mm_sub [1, 2, 3, 0] rfl ?_
      exact ih a0 x1 x2 (x3 + 1) (mm_wI σ q28 (x3.toNatClampNeg) (vp_nar .boolean (mm_I σ q25 ((25 * x2) + x3).toNatClampNeg))) hf
set_option maxHeartbeats 4000000 in
set_option maxRecDepth 100000 in
theorem kX9_close_70 {G : mm_G} {A : Nat → Prop} {ini : Bool}  {R : mm_M}  : ∀ (a0 : Nat) (x1 : Int32) (x2 : Int32) (x3 : Int32) (σ : mm_M), fX9_close_70  mm_fuel a0 x1 x2 x3 σ = some R → mm_J cd_Y G RX9 cX9_close 4 none ini rmX9_close A (mm_QF cd_Y G A (mm_Pv R) rmX9_close.cells rmX9_close.slots) 70 [(0, .ref a0), (1, .int x1), (2, .int x2), (3, .int x3)] [] σ 0 0 := by
  generalize mm_fuel = n
  induction n with
  | zero => intro a0 x1 x2 x3 σ hf; cases hf
  | succ n ih =>
    intro a0 x1 x2 x3 σ hf
    unfold fX9_close_70 at hf
    refine mm_iload_n (j := 3) dX9_close_70 rfl rfl ?_
    refine mm_sipush (v := 1000) dX9_close_71 (by decide) ?_
    refine mm_icmp_ge (tgt := 101) dX9_close_74 (by decide) (fun c22 => ?_) (fun c22 => ?_)
    · rw [if_pos c22] at hf
      refine mm_iconst (v := 0) dX9_close_101 (by decide) ?_
      refine mm_istore_n (L' := [(3, .int 0), (0, .ref a0), (1, .int x1), (2, .int x2)]) dX9_close_102 rfl (by decide) rfl ?_
      refine mm_sub [1, 2, 3, 0] rfl ?_
      exact kX9_close_103  a0 x1 x2 0 σ hf
    · rw [if_neg c22] at hf
      refine mm_aload_n (j := 0) dX9_close_77 rfl rfl ?_
      obtain ⟨hs31, hf⟩ := mm_sh_s hf
      refine mm_get (c := 9) (k := 32) (v := va_rf (mm_R σ a0 32)) cd_ok ⟨_, _, _, rfl, by decide, Or.inl tw_826⟩ hs31 rfl dX9_close_78 ?_
      refine mm_iload_n (j := 3) dX9_close_81 rfl rfl ?_
      refine mm_aload_n (j := 0) dX9_close_82 rfl rfl ?_
      refine mm_get (c := 9) (k := 23) (v := va_rf (mm_R σ a0 23)) cd_ok ⟨_, _, _, rfl, by decide, Or.inl tw_817⟩ hs31 rfl dX9_close_83 ?_
      refine mm_sipush (v := 1000) dX9_close_86 (by decide) ?_
      refine mm_iload_n (j := 2) dX9_close_89 rfl rfl ?_
      refine mm_imul dX9_close_90 ?_
      refine mm_iload_n (j := 3) dX9_close_91 rfl rfl ?_
      refine mm_iadd dX9_close_92 ?_
      obtain ⟨q32, hq32, hf⟩ := mm_on_s hf
      rw [hq32, mm_rf_some]
      obtain ⟨n33, hn33, hf⟩ := mm_ar_s hf
      obtain ⟨hi34, hf⟩ := mm_ib_s hf
      refine mm_bald hn33 rfl hi34 dX9_close_93 ?_
      obtain ⟨q35, hq35, hf⟩ := mm_on_s hf
      rw [hq35, mm_rf_some]
      obtain ⟨n36, hn36, hf⟩ := mm_ar_s hf
      obtain ⟨hi37, hf⟩ := mm_ib_s hf
      refine mm_bast hn36 rfl hi37 dX9_close_94 ?_
      refine mm_iinc (j := 3) (L' := [(3, .int (x3 + 1)), (0, .ref a0), (1, .int x1), (2, .int x2)]) dX9_close_95 rfl rfl (by decide) rfl ?_
      refine mm_goto (tgt := 70) dX9_close_98 (by decide) ?_
      refine mm_sub [1, 2, 3, 0] rfl ?_
      exact ih a0 x1 x2 (x3 + 1) (mm_wI σ q35 (x3.toNatClampNeg) ((mm_I σ q32 ((1000 * x2) + x3).toNatClampNeg).toInt8.toInt32)) hf
set_option maxHeartbeats 4000000 in
set_option maxRecDepth 100000 in
theorem kX9_close {G : mm_G} {A : Nat → Prop} (p0 : Nat) (p1 : Int32) {σ : mm_M} {R : mm_M} (hf : fX9_close p0 p1 σ = some R) : mm_C cd_Y G yX9_close cX9_close 4 none rmX9_close A [.ref p0, .int p1] σ (mm_Pv R) := by
  refine mm_C.of (by decide) (Nat.le_of_ble_eq_true rfl) ?_
  unfold fX9_close at hf
  have e0 : lv_args 0 [.ref p0, .int p1] = [(0, .ref p0), (1, .int p1)] := rfl
  rw [e0]
  generalize hini : (yX9_close.name == "<init>") = ini
  clear e0
  clear hini
  refine mm_aload_n (j := 0) dX9_close_0 rfl rfl ?_
  obtain ⟨hs1, hf⟩ := mm_sh_s hf
  refine mm_get (c := 9) (k := 27) (v := va_rf (mm_R σ p0 27)) cd_ok ⟨_, _, _, rfl, by decide, Or.inl tw_821⟩ hs1 rfl dX9_close_1 ?_
  refine mm_iload_n (j := 1) dX9_close_4 rfl rfl ?_
  obtain ⟨q2, hq2, hf⟩ := mm_on_s hf
  rw [hq2, mm_rf_some]
  obtain ⟨n3, hn3, hf⟩ := mm_ar_s hf
  obtain ⟨hi4, hf⟩ := mm_ib_s hf
  refine mm_iald hn3 rfl hi4 dX9_close_5 ?_
  refine mm_istore_n (L' := [(2, .int (mm_I σ q2 p1.toNatClampNeg)), (0, .ref p0), (1, .int p1)]) dX9_close_6 rfl (by decide) rfl ?_
  refine mm_iload_n (j := 0) dX9_close_7 rfl rfl ?_
  refine mm_iconst (v := (-1)) dX9_close_8 (by decide) ?_
  refine mm_icmp_ne (tgt := 13) dX9_close_9 (by decide) (fun c5 => ?_) (fun c5 => ?_)
  · rw [if_neg c5] at hf
    refine mm_aload_n (j := 1) dX9_close_13 rfl rfl ?_
    refine mm_get (c := 9) (k := 27) (v := va_rf (mm_R σ p0 27)) cd_ok ⟨_, _, _, rfl, by decide, Or.inl tw_821⟩ hs1 rfl dX9_close_14 ?_
    refine mm_iload_n (j := 2) dX9_close_17 rfl rfl ?_
    refine mm_iconst (v := (-1)) dX9_close_18 (by decide) ?_
    obtain ⟨q6, hq6, hf⟩ := mm_on_s hf
    rw [hq6, mm_rf_some]
    obtain ⟨n7, hn7, hf⟩ := mm_ar_s hf
    obtain ⟨hi8, hf⟩ := mm_ib_s hf
    refine mm_iast hn7 rfl hi8 dX9_close_19 ?_
    refine mm_aload_n (j := 1) dX9_close_20 rfl rfl ?_
    refine mm_get (c := 9) (k := 21) (v := va_rf (mm_R (mm_wI σ q6 (p1.toNatClampNeg) (-1)) p0 21)) cd_ok ⟨_, _, _, rfl, by decide, Or.inl tw_815⟩ hs1 rfl dX9_close_21 ?_
    refine mm_iload_n (j := 0) dX9_close_24 rfl rfl ?_
    refine mm_dup2 dX9_close_25 rfl (mm_rf_cat _) ?_
    obtain ⟨q9, hq9, hf⟩ := mm_on_s hf
    rw [hq9, mm_rf_some]
    obtain ⟨n10, hn10, hf⟩ := mm_ar_s hf
    obtain ⟨hi11, hf⟩ := mm_ib_s hf
    refine mm_iald hn10 rfl hi11 dX9_close_26 ?_
    refine mm_iconst (v := 1) dX9_close_27 (by decide) ?_
    refine mm_iadd dX9_close_28 ?_
    obtain ⟨hi12, hf⟩ := mm_ib_s hf
    refine mm_iast hn10 rfl hi12 dX9_close_29 ?_
    refine mm_aload_n (j := 1) dX9_close_30 rfl rfl ?_
    refine mm_get (c := 9) (k := 28) (v := .int (mm_I (mm_wI (mm_wI σ q6 (p1.toNatClampNeg) (-1)) q9 ((mm_I σ q2 p1.toNatClampNeg).toNatClampNeg) ((mm_I (mm_wI σ q6 (p1.toNatClampNeg) (-1)) q9 (mm_I σ q2 p1.toNatClampNeg).toNatClampNeg) + 1)) p0 28)) cd_ok ⟨_, _, _, rfl, by decide, Or.inl tw_822⟩ hs1 rfl dX9_close_31 ?_
    refine mm_if_eq (tgt := 132) dX9_close_34 (by decide) (fun c13 => ?_) (fun c13 => ?_)
    · rw [if_pos c13] at hf
      cases hf
      exact mm_vret rfl dX9_close_132 ⟨rfl, rfl⟩
    · rw [if_neg c13] at hf
      refine mm_aload_n (j := 1) dX9_close_37 rfl rfl ?_
      refine mm_get (c := 9) (k := 17) (v := va_rf (mm_R (mm_wI (mm_wI σ q6 (p1.toNatClampNeg) (-1)) q9 ((mm_I σ q2 p1.toNatClampNeg).toNatClampNeg) ((mm_I (mm_wI σ q6 (p1.toNatClampNeg) (-1)) q9 (mm_I σ q2 p1.toNatClampNeg).toNatClampNeg) + 1)) p0 17)) cd_ok ⟨_, _, _, rfl, by decide, Or.inl tw_811⟩ hs1 rfl dX9_close_38 ?_
      refine mm_iload_n (j := 0) dX9_close_41 rfl rfl ?_
      obtain ⟨q14, hq14, hf⟩ := mm_on_s hf
      rw [hq14, mm_rf_some]
      obtain ⟨n15, hn15, hf⟩ := mm_ar_s hf
      obtain ⟨hi16, hf⟩ := mm_ib_s hf
      refine mm_iald hn15 rfl hi16 dX9_close_42 ?_
      refine mm_aload_n (j := 1) dX9_close_43 rfl rfl ?_
      refine mm_get (c := 9) (k := 29) (v := .int (mm_I (mm_wI (mm_wI σ q6 (p1.toNatClampNeg) (-1)) q9 ((mm_I σ q2 p1.toNatClampNeg).toNatClampNeg) ((mm_I (mm_wI σ q6 (p1.toNatClampNeg) (-1)) q9 (mm_I σ q2 p1.toNatClampNeg).toNatClampNeg) + 1)) p0 29)) cd_ok ⟨_, _, _, rfl, by decide, Or.inl tw_823⟩ hs1 rfl dX9_close_44 ?_
      refine mm_icmp_ne (tgt := 132) dX9_close_47 (by decide) (fun c17 => ?_) (fun c17 => ?_)
      · rw [if_neg c17] at hf
        cases hf
        exact mm_vret rfl dX9_close_132 ⟨rfl, rfl⟩
      · rw [if_pos c17] at hf
        refine mm_aload_n (j := 1) dX9_close_50 rfl rfl ?_
        refine mm_get (c := 9) (k := 18) (v := va_rf (mm_R (mm_wI (mm_wI σ q6 (p1.toNatClampNeg) (-1)) q9 ((mm_I σ q2 p1.toNatClampNeg).toNatClampNeg) ((mm_I (mm_wI σ q6 (p1.toNatClampNeg) (-1)) q9 (mm_I σ q2 p1.toNatClampNeg).toNatClampNeg) + 1)) p0 18)) cd_ok ⟨_, _, _, rfl, by decide, Or.inl tw_812⟩ hs1 rfl dX9_close_51 ?_
        refine mm_iload_n (j := 0) dX9_close_54 rfl rfl ?_
        obtain ⟨q18, hq18, hf⟩ := mm_on_s hf
        rw [hq18, mm_rf_some]
        obtain ⟨n19, hn19, hf⟩ := mm_ar_s hf
        obtain ⟨hi20, hf⟩ := mm_ib_s hf
        refine mm_iald hn19 rfl hi20 dX9_close_55 ?_
        refine mm_aload_n (j := 1) dX9_close_56 rfl rfl ?_
        refine mm_get (c := 9) (k := 30) (v := .int (mm_I (mm_wI (mm_wI σ q6 (p1.toNatClampNeg) (-1)) q9 ((mm_I σ q2 p1.toNatClampNeg).toNatClampNeg) ((mm_I (mm_wI σ q6 (p1.toNatClampNeg) (-1)) q9 (mm_I σ q2 p1.toNatClampNeg).toNatClampNeg) + 1)) p0 30)) cd_ok ⟨_, _, _, rfl, by decide, Or.inl tw_824⟩ hs1 rfl dX9_close_57 ?_
        refine mm_icmp_ne (tgt := 132) dX9_close_60 (by decide) (fun c21 => ?_) (fun c21 => ?_)
        · rw [if_neg c21] at hf
          cases hf
          exact mm_vret rfl dX9_close_132 ⟨rfl, rfl⟩
        · rw [if_pos c21] at hf
          refine mm_aload_n (j := 1) dX9_close_63 rfl rfl ?_
          refine mm_iconst (v := 1) dX9_close_64 (by decide) ?_
          refine mm_putI (c := 9) (k := 31) cd_ok ⟨_, _, _, rfl, by decide, rfl, Or.inl tw_825⟩ hs1 rfl rfl rfl dX9_close_65 ?_
          refine mm_iconst (v := 0) dX9_close_68 (by decide) ?_
          refine mm_istore_n (L' := [(3, .int 0), (2, .int (mm_I σ q2 p1.toNatClampNeg)), (0, .ref p0), (1, .int p1)]) dX9_close_69 rfl (by decide) rfl ?_
          refine mm_sub [2, 3, 1, 0] rfl ?_
          exact kX9_close_70  p0 p1 (mm_I σ q2 p1.toNatClampNeg) 0 (mm_wI (mm_wI (mm_wI σ q6 (p1.toNatClampNeg) (-1)) q9 ((mm_I σ q2 p1.toNatClampNeg).toNatClampNeg) ((mm_I (mm_wI σ q6 (p1.toNatClampNeg) (-1)) q9 (mm_I σ q2 p1.toNatClampNeg).toNatClampNeg) + 1)) p0 31 1) hf
  · rw [if_pos c5] at hf
    cases hf
    exact mm_vret rfl dX9_close_12 ⟨rfl, rfl⟩
theorem dX9_emptyRows_0 : decode cX9_emptyRows 0 = .ok (.iload_n 2, 1) := by decide +kernel
theorem dX9_emptyRows_1 : decode cX9_emptyRows 1 = .ok (.istore_n 3, 1) := by decide +kernel
theorem dX9_emptyRows_2 : decode cX9_emptyRows 2 = .ok (.iload_n 3, 1) := by decide +kernel
theorem dX9_emptyRows_3 : decode cX9_emptyRows 3 = .ok (.bipush 25, 2) := by decide +kernel
theorem dX9_emptyRows_5 : decode cX9_emptyRows 5 = .ok (.if_icmp .ge 21, 3) := by decide +kernel
theorem dX9_emptyRows_8 : decode cX9_emptyRows 8 = .ok (.aload_n 0, 1) := by decide +kernel
theorem dX9_emptyRows_9 : decode cX9_emptyRows 9 = .ok (.getfield 75, 3) := by decide +kernel
theorem dX9_emptyRows_12 : decode cX9_emptyRows 12 = .ok (.bipush 25, 2) := by decide +kernel
theorem dX9_emptyRows_14 : decode cX9_emptyRows 14 = .ok (.iload_n 1, 1) := by decide +kernel
theorem dX9_emptyRows_15 : decode cX9_emptyRows 15 = .ok (.imul, 1) := by decide +kernel
theorem dX9_emptyRows_16 : decode cX9_emptyRows 16 = .ok (.iload_n 3, 1) := by decide +kernel
theorem dX9_emptyRows_17 : decode cX9_emptyRows 17 = .ok (.iadd, 1) := by decide +kernel
theorem dX9_emptyRows_18 : decode cX9_emptyRows 18 = .ok (.iconst 0, 1) := by decide +kernel
theorem dX9_emptyRows_19 : decode cX9_emptyRows 19 = .ok (.bastore, 1) := by decide +kernel
theorem dX9_emptyRows_20 : decode cX9_emptyRows 20 = .ok (.iinc 3 1, 3) := by decide +kernel
theorem dX9_emptyRows_23 : decode cX9_emptyRows 23 = .ok (.goto (-21), 3) := by decide +kernel
theorem dX9_emptyRows_26 : decode cX9_emptyRows 26 = .ok (.iconst 0, 1) := by decide +kernel
theorem dX9_emptyRows_27 : decode cX9_emptyRows 27 = .ok (.istore_n 3, 1) := by decide +kernel
theorem dX9_emptyRows_28 : decode cX9_emptyRows 28 = .ok (.iload_n 3, 1) := by decide +kernel
theorem dX9_emptyRows_29 : decode cX9_emptyRows 29 = .ok (.bipush 6, 2) := by decide +kernel
theorem dX9_emptyRows_31 : decode cX9_emptyRows 31 = .ok (.if_icmp .ge 21, 3) := by decide +kernel
theorem dX9_emptyRows_34 : decode cX9_emptyRows 34 = .ok (.aload_n 0, 1) := by decide +kernel
theorem dX9_emptyRows_35 : decode cX9_emptyRows 35 = .ok (.getfield 81, 3) := by decide +kernel
theorem dX9_emptyRows_38 : decode cX9_emptyRows 38 = .ok (.bipush 6, 2) := by decide +kernel
theorem dX9_emptyRows_40 : decode cX9_emptyRows 40 = .ok (.iload_n 1, 1) := by decide +kernel
theorem dX9_emptyRows_41 : decode cX9_emptyRows 41 = .ok (.imul, 1) := by decide +kernel
theorem dX9_emptyRows_42 : decode cX9_emptyRows 42 = .ok (.iload_n 3, 1) := by decide +kernel
theorem dX9_emptyRows_43 : decode cX9_emptyRows 43 = .ok (.iadd, 1) := by decide +kernel
theorem dX9_emptyRows_44 : decode cX9_emptyRows 44 = .ok (.iconst 0, 1) := by decide +kernel
theorem dX9_emptyRows_45 : decode cX9_emptyRows 45 = .ok (.bastore, 1) := by decide +kernel
theorem dX9_emptyRows_46 : decode cX9_emptyRows 46 = .ok (.iinc 3 1, 3) := by decide +kernel
theorem dX9_emptyRows_49 : decode cX9_emptyRows 49 = .ok (.goto (-21), 3) := by decide +kernel
theorem dX9_emptyRows_52 : decode cX9_emptyRows 52 = .ok (.return_, 1) := by decide +kernel
theorem nmX9_emptyRows : mm_nm yX9_emptyRows 2 := ⟨by decide, by decide, by decide +kernel⟩
theorem cdX9_emptyRows : mm_cd cd_Y yX9_emptyRows cX9_emptyRows 4 none := ⟨tw_1064, tw_8⟩
abbrev rmX9_emptyRows : Room := { frames := 0, cells := 0, slots := 0, locals := 0 }
def fX9_emptyRows_28  : Nat → Nat → Int32 → Int32 → Int32 → mm_M → Option mm_M
  | 0 => fun _ _ _ _ _ => none
  | n + 1 => fun a0 x1 x2 x3 σ =>
  (if 6 ≤ x3 then some (σ) else mm_sh σ a0 (.inl 9) (mm_on (mm_R σ a0 26) fun q4 => mm_ar σ q4 1 fun n5 => mm_ib ((6 * x1) + x3) n5 ((fX9_emptyRows_28  n a0 x1 x2 (x3 + 1) (mm_wI σ q4 (((6 * x1) + x3).toNatClampNeg) (vp_nar .boolean 0))))))
def fX9_emptyRows_2  : Nat → Nat → Int32 → Int32 → Int32 → mm_M → Option mm_M
  | 0 => fun _ _ _ _ _ => none
  | n + 1 => fun a0 x1 x2 x3 σ =>
  (if 25 ≤ x3 then (fX9_emptyRows_28  mm_fuel a0 x1 x2 0 σ) else mm_sh σ a0 (.inl 9) (mm_on (mm_R σ a0 24) fun q8 => mm_ar σ q8 1 fun n9 => mm_ib ((25 * x1) + x3) n9 ((fX9_emptyRows_2  n a0 x1 x2 (x3 + 1) (mm_wI σ q8 (((25 * x1) + x3).toNatClampNeg) (vp_nar .boolean 0))))))
def fX9_emptyRows (p0 : Nat) (p1 : Int32) (p2 : Int32) (σ : mm_M) : Option mm_M :=
  (fX9_emptyRows_2  mm_fuel p0 p1 p2 p2 σ)
set_option maxHeartbeats 4000000 in
set_option maxRecDepth 100000 in
theorem kX9_emptyRows_28 {G : mm_G} {A : Nat → Prop} {ini : Bool}  {R : mm_M}  : ∀ (a0 : Nat) (x1 : Int32) (x2 : Int32) (x3 : Int32) (σ : mm_M), fX9_emptyRows_28  mm_fuel a0 x1 x2 x3 σ = some R → mm_J cd_Y G RX9 cX9_emptyRows 4 none ini rmX9_emptyRows A (mm_QF cd_Y G A (mm_Pv R) rmX9_emptyRows.cells rmX9_emptyRows.slots) 28 [(0, .ref a0), (1, .int x1), (2, .int x2), (3, .int x3)] [] σ 0 0 := by
  generalize mm_fuel = n
  induction n with
  | zero => intro a0 x1 x2 x3 σ hf; cases hf
  | succ n ih =>
    intro a0 x1 x2 x3 σ hf
    unfold fX9_emptyRows_28 at hf
    refine mm_iload_n (j := 3) dX9_emptyRows_28 rfl rfl ?_
    refine mm_bipush (v := 6) dX9_emptyRows_29 (by decide) ?_
    refine mm_icmp_ge (tgt := 52) dX9_emptyRows_31 (by decide) (fun c2 => ?_) (fun c2 => ?_)
    · rw [if_pos c2] at hf
      cases hf
      exact mm_vret rfl dX9_emptyRows_52 ⟨rfl, rfl⟩
    · rw [if_neg c2] at hf
      refine mm_aload_n (j := 0) dX9_emptyRows_34 rfl rfl ?_
      obtain ⟨hs3, hf⟩ := mm_sh_s hf
      refine mm_get (c := 9) (k := 26) (v := va_rf (mm_R σ a0 26)) cd_ok ⟨_, _, _, rfl, by decide, Or.inl tw_820⟩ hs3 rfl dX9_emptyRows_35 ?_
      refine mm_bipush (v := 6) dX9_emptyRows_38 (by decide) ?_
      refine mm_iload_n (j := 1) dX9_emptyRows_40 rfl rfl ?_
      refine mm_imul dX9_emptyRows_41 ?_
      refine mm_iload_n (j := 3) dX9_emptyRows_42 rfl rfl ?_
      refine mm_iadd dX9_emptyRows_43 ?_
      refine mm_iconst (v := 0) dX9_emptyRows_44 (by decide) ?_
      obtain ⟨q4, hq4, hf⟩ := mm_on_s hf
      rw [hq4, mm_rf_some]
      obtain ⟨n5, hn5, hf⟩ := mm_ar_s hf
      obtain ⟨hi6, hf⟩ := mm_ib_s hf
      refine mm_zast hn5 rfl hi6 dX9_emptyRows_45 ?_
      refine mm_iinc (j := 3) (L' := [(3, .int (x3 + 1)), (0, .ref a0), (1, .int x1), (2, .int x2)]) dX9_emptyRows_46 rfl rfl (by decide) rfl ?_
      refine mm_goto (tgt := 28) dX9_emptyRows_49 (by decide) ?_
      refine mm_sub [1, 2, 3, 0] rfl ?_
      exact ih a0 x1 x2 (x3 + 1) (mm_wI σ q4 (((6 * x1) + x3).toNatClampNeg) (vp_nar .boolean 0)) hf
set_option maxHeartbeats 4000000 in
set_option maxRecDepth 100000 in
theorem kX9_emptyRows_2 {G : mm_G} {A : Nat → Prop} {ini : Bool}  {R : mm_M}  : ∀ (a0 : Nat) (x1 : Int32) (x2 : Int32) (x3 : Int32) (σ : mm_M), fX9_emptyRows_2  mm_fuel a0 x1 x2 x3 σ = some R → mm_J cd_Y G RX9 cX9_emptyRows 4 none ini rmX9_emptyRows A (mm_QF cd_Y G A (mm_Pv R) rmX9_emptyRows.cells rmX9_emptyRows.slots) 2 [(0, .ref a0), (1, .int x1), (2, .int x2), (3, .int x3)] [] σ 0 0 := by
  generalize mm_fuel = n
  induction n with
  | zero => intro a0 x1 x2 x3 σ hf; cases hf
  | succ n ih =>
    intro a0 x1 x2 x3 σ hf
    unfold fX9_emptyRows_2 at hf
    refine mm_iload_n (j := 3) dX9_emptyRows_2 rfl rfl ?_
    refine mm_bipush (v := 25) dX9_emptyRows_3 (by decide) ?_
    refine mm_icmp_ge (tgt := 26) dX9_emptyRows_5 (by decide) (fun c1 => ?_) (fun c1 => ?_)
    · rw [if_pos c1] at hf
      refine mm_iconst (v := 0) dX9_emptyRows_26 (by decide) ?_
      refine mm_istore_n (L' := [(3, .int 0), (0, .ref a0), (1, .int x1), (2, .int x2)]) dX9_emptyRows_27 rfl (by decide) rfl ?_
      refine mm_sub [1, 2, 3, 0] rfl ?_
      exact kX9_emptyRows_28  a0 x1 x2 0 σ hf
    · rw [if_neg c1] at hf
      refine mm_aload_n (j := 0) dX9_emptyRows_8 rfl rfl ?_
      obtain ⟨hs7, hf⟩ := mm_sh_s hf
      refine mm_get (c := 9) (k := 24) (v := va_rf (mm_R σ a0 24)) cd_ok ⟨_, _, _, rfl, by decide, Or.inl tw_818⟩ hs7 rfl dX9_emptyRows_9 ?_
      refine mm_bipush (v := 25) dX9_emptyRows_12 (by decide) ?_
      refine mm_iload_n (j := 1) dX9_emptyRows_14 rfl rfl ?_
      refine mm_imul dX9_emptyRows_15 ?_
      refine mm_iload_n (j := 3) dX9_emptyRows_16 rfl rfl ?_
      refine mm_iadd dX9_emptyRows_17 ?_
      refine mm_iconst (v := 0) dX9_emptyRows_18 (by decide) ?_
      obtain ⟨q8, hq8, hf⟩ := mm_on_s hf
      rw [hq8, mm_rf_some]
      obtain ⟨n9, hn9, hf⟩ := mm_ar_s hf
      obtain ⟨hi10, hf⟩ := mm_ib_s hf
      refine mm_zast hn9 rfl hi10 dX9_emptyRows_19 ?_
      refine mm_iinc (j := 3) (L' := [(3, .int (x3 + 1)), (0, .ref a0), (1, .int x1), (2, .int x2)]) dX9_emptyRows_20 rfl rfl (by decide) rfl ?_
      refine mm_goto (tgt := 2) dX9_emptyRows_23 (by decide) ?_
      refine mm_sub [1, 2, 3, 0] rfl ?_
      exact ih a0 x1 x2 (x3 + 1) (mm_wI σ q8 (((25 * x1) + x3).toNatClampNeg) (vp_nar .boolean 0)) hf
set_option maxHeartbeats 4000000 in
set_option maxRecDepth 100000 in
theorem kX9_emptyRows {G : mm_G} {A : Nat → Prop} (p0 : Nat) (p1 : Int32) (p2 : Int32) {σ : mm_M} {R : mm_M} (hf : fX9_emptyRows p0 p1 p2 σ = some R) : mm_C cd_Y G yX9_emptyRows cX9_emptyRows 4 none rmX9_emptyRows A [.ref p0, .int p1, .int p2] σ (mm_Pv R) := by
  refine mm_C.of (by decide) (Nat.le_of_ble_eq_true rfl) ?_
  unfold fX9_emptyRows at hf
  have e0 : lv_args 0 [.ref p0, .int p1, .int p2] = [(0, .ref p0), (1, .int p1), (2, .int p2)] := rfl
  rw [e0]
  generalize hini : (yX9_emptyRows.name == "<init>") = ini
  clear e0
  clear hini
  refine mm_iload_n (j := 2) dX9_emptyRows_0 rfl rfl ?_
  refine mm_istore_n (L' := [(3, .int p2), (0, .ref p0), (1, .int p1), (2, .int p2)]) dX9_emptyRows_1 rfl (by decide) rfl ?_
  refine mm_sub [1, 2, 3, 0] rfl ?_
  exact kX9_emptyRows_2  p0 p1 p2 p2 σ hf
