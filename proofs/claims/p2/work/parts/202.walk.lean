theorem dX9_placeOf_0 : decode cX9_placeOf 0 = .ok (.iconst 0, 1) := by decide +kernel
theorem dX9_placeOf_1 : decode cX9_placeOf 1 = .ok (.istore_n 2, 1) := by decide +kernel
theorem dX9_placeOf_2 : decode cX9_placeOf 2 = .ok (.iload_n 2, 1) := by decide +kernel
theorem dX9_placeOf_3 : decode cX9_placeOf 3 = .ok (.aload_n 0, 1) := by decide +kernel
theorem dX9_placeOf_4 : decode cX9_placeOf 4 = .ok (.getfield 206, 3) := by decide +kernel
theorem dX9_placeOf_7 : decode cX9_placeOf 7 = .ok (.if_icmp .ge 21, 3) := by decide +kernel
theorem dX9_placeOf_10 : decode cX9_placeOf 10 = .ok (.aload_n 0, 1) := by decide +kernel
theorem dX9_placeOf_11 : decode cX9_placeOf 11 = .ok (.getfield 47, 3) := by decide +kernel
theorem dX9_placeOf_14 : decode cX9_placeOf 14 = .ok (.iload_n 2, 1) := by decide +kernel
theorem dX9_placeOf_15 : decode cX9_placeOf 15 = .ok (.iaload, 1) := by decide +kernel
theorem dX9_placeOf_16 : decode cX9_placeOf 16 = .ok (.iload_n 1, 1) := by decide +kernel
theorem dX9_placeOf_17 : decode cX9_placeOf 17 = .ok (.if_icmp .ne 5, 3) := by decide +kernel
theorem dX9_placeOf_20 : decode cX9_placeOf 20 = .ok (.iload_n 2, 1) := by decide +kernel
theorem dX9_placeOf_21 : decode cX9_placeOf 21 = .ok (.ireturn, 1) := by decide +kernel
theorem dX9_placeOf_22 : decode cX9_placeOf 22 = .ok (.iinc 2 1, 3) := by decide +kernel
theorem dX9_placeOf_25 : decode cX9_placeOf 25 = .ok (.goto (-23), 3) := by decide +kernel
theorem dX9_placeOf_28 : decode cX9_placeOf 28 = .ok (.iconst (-1), 1) := by decide +kernel
theorem dX9_placeOf_29 : decode cX9_placeOf 29 = .ok (.ireturn, 1) := by decide +kernel
theorem nmX9_placeOf : mm_nm yX9_placeOf 1 := ⟨by decide, by decide, by decide +kernel⟩
theorem cdX9_placeOf : mm_cd cd_Y yX9_placeOf cX9_placeOf 3 (some .int) := ⟨tw_1104, tw_8⟩
abbrev rmX9_placeOf : Room := { frames := 0, cells := 0, slots := 0, locals := 0 }
def fX9_placeOf_2  : Nat → Nat → Int32 → Int32 → mm_M → Option (Int32 × mm_M)
  | 0 => fun _ _ _ _ => none
  | n + 1 => fun a0 x1 x2 σ =>
  mm_sh σ a0 (.inl 9) ((if (mm_I σ a0 14) ≤ x2 then some ((-1), σ) else mm_on (mm_R σ a0 15) fun q3 => mm_ar σ q3 0 fun n4 => mm_ib x2 n4 ((if (mm_I σ q3 x2.toNatClampNeg) = x1 then some (x2, σ) else (fX9_placeOf_2  n a0 x1 (x2 + 1) σ)))))
def fX9_placeOf (p0 : Nat) (p1 : Int32) (σ : mm_M) : Option (Int32 × mm_M) :=
  (fX9_placeOf_2  mm_fuel p0 p1 0 σ)
set_option maxHeartbeats 4000000 in
set_option maxRecDepth 100000 in
theorem kX9_placeOf_2 {G : mm_G} {A : Nat → Prop} {ini : Bool}  {R : (Int32 × mm_M)}  : ∀ (a0 : Nat) (x1 : Int32) (x2 : Int32) (σ : mm_M), fX9_placeOf_2  mm_fuel a0 x1 x2 σ = some R → mm_J cd_Y G RX9 cX9_placeOf 3 (some .int) ini rmX9_placeOf A (mm_QF cd_Y G A (mm_Pi R.1 R.2) rmX9_placeOf.cells rmX9_placeOf.slots) 2 [(0, .ref a0), (1, .int x1), (2, .int x2)] [] σ 0 0 := by
  generalize mm_fuel = n
  induction n with
  | zero => intro a0 x1 x2 σ hf; cases hf
  | succ n ih =>
    intro a0 x1 x2 σ hf
    unfold fX9_placeOf_2 at hf
    refine mm_iload_n (j := 2) dX9_placeOf_2 rfl rfl ?_
    refine mm_aload_n (j := 0) dX9_placeOf_3 rfl rfl ?_
    obtain ⟨hs1, hf⟩ := mm_sh_s hf
    refine mm_get (c := 9) (k := 14) (v := .int (mm_I σ a0 14)) cd_ok ⟨_, _, _, rfl, by decide, Or.inl tw_808⟩ hs1 rfl dX9_placeOf_4 ?_
    refine mm_icmp_ge (tgt := 28) dX9_placeOf_7 (by decide) (fun c2 => ?_) (fun c2 => ?_)
    · rw [if_pos c2] at hf
      refine mm_iconst (v := (-1)) dX9_placeOf_28 (by decide) ?_
      cases hf
      exact mm_iret rfl rfl dX9_placeOf_29 ⟨rfl, rfl⟩
    · rw [if_neg c2] at hf
      refine mm_aload_n (j := 0) dX9_placeOf_10 rfl rfl ?_
      refine mm_get (c := 9) (k := 15) (v := va_rf (mm_R σ a0 15)) cd_ok ⟨_, _, _, rfl, by decide, Or.inl tw_809⟩ hs1 rfl dX9_placeOf_11 ?_
      refine mm_iload_n (j := 2) dX9_placeOf_14 rfl rfl ?_
      obtain ⟨q3, hq3, hf⟩ := mm_on_s hf
      rw [hq3, mm_rf_some]
      obtain ⟨n4, hn4, hf⟩ := mm_ar_s hf
      obtain ⟨hi5, hf⟩ := mm_ib_s hf
      refine mm_iald hn4 rfl hi5 dX9_placeOf_15 ?_
      refine mm_iload_n (j := 1) dX9_placeOf_16 rfl rfl ?_
      refine mm_icmp_ne (tgt := 22) dX9_placeOf_17 (by decide) (fun c6 => ?_) (fun c6 => ?_)
      · rw [if_neg c6] at hf
        refine mm_iinc (j := 2) (L' := [(2, .int (x2 + 1)), (0, .ref a0), (1, .int x1)]) dX9_placeOf_22 rfl rfl (by decide) rfl ?_
        refine mm_goto (tgt := 2) dX9_placeOf_25 (by decide) ?_
        refine mm_sub [1, 2, 0] rfl ?_
        exact ih a0 x1 (x2 + 1) σ hf
      · rw [if_pos c6] at hf
        refine mm_iload_n (j := 2) dX9_placeOf_20 rfl rfl ?_
        cases hf
        exact mm_iret rfl rfl dX9_placeOf_21 ⟨rfl, rfl⟩
set_option maxHeartbeats 4000000 in
set_option maxRecDepth 100000 in
theorem kX9_placeOf {G : mm_G} {A : Nat → Prop} (p0 : Nat) (p1 : Int32) {σ : mm_M} {R : (Int32 × mm_M)} (hf : fX9_placeOf p0 p1 σ = some R) : mm_C cd_Y G yX9_placeOf cX9_placeOf 3 (some .int) rmX9_placeOf A [.ref p0, .int p1] σ (mm_Pi R.1 R.2) := by
  refine mm_C.of (by decide) (Nat.le_of_ble_eq_true rfl) ?_
  unfold fX9_placeOf at hf
  have e0 : lv_args 0 [.ref p0, .int p1] = [(0, .ref p0), (1, .int p1)] := rfl
  rw [e0]
  generalize hini : (yX9_placeOf.name == "<init>") = ini
  clear e0
  clear hini
  refine mm_iconst (v := 0) dX9_placeOf_0 (by decide) ?_
  refine mm_istore_n (L' := [(2, .int 0), (0, .ref p0), (1, .int p1)]) dX9_placeOf_1 rfl (by decide) rfl ?_
  refine mm_sub [1, 2, 0] rfl ?_
  exact kX9_placeOf_2  p0 p1 0 σ hf
theorem dX9_takeOut_0 : decode cX9_takeOut 0 = .ok (.aload_n 0, 1) := by decide +kernel
theorem dX9_takeOut_1 : decode cX9_takeOut 1 = .ok (.dup, 1) := by decide +kernel
theorem dX9_takeOut_2 : decode cX9_takeOut 2 = .ok (.getfield 206, 3) := by decide +kernel
theorem dX9_takeOut_5 : decode cX9_takeOut 5 = .ok (.iconst 1, 1) := by decide +kernel
theorem dX9_takeOut_6 : decode cX9_takeOut 6 = .ok (.isub, 1) := by decide +kernel
theorem dX9_takeOut_7 : decode cX9_takeOut 7 = .ok (.putfield 206, 3) := by decide +kernel
theorem dX9_takeOut_10 : decode cX9_takeOut 10 = .ok (.iload_n 1, 1) := by decide +kernel
theorem dX9_takeOut_11 : decode cX9_takeOut 11 = .ok (.istore_n 2, 1) := by decide +kernel
theorem dX9_takeOut_12 : decode cX9_takeOut 12 = .ok (.iload_n 2, 1) := by decide +kernel
theorem dX9_takeOut_13 : decode cX9_takeOut 13 = .ok (.aload_n 0, 1) := by decide +kernel
theorem dX9_takeOut_14 : decode cX9_takeOut 14 = .ok (.getfield 206, 3) := by decide +kernel
theorem dX9_takeOut_17 : decode cX9_takeOut 17 = .ok (.if_icmp .ge 23, 3) := by decide +kernel
theorem dX9_takeOut_20 : decode cX9_takeOut 20 = .ok (.aload_n 0, 1) := by decide +kernel
theorem dX9_takeOut_21 : decode cX9_takeOut 21 = .ok (.getfield 47, 3) := by decide +kernel
theorem dX9_takeOut_24 : decode cX9_takeOut 24 = .ok (.iload_n 2, 1) := by decide +kernel
theorem dX9_takeOut_25 : decode cX9_takeOut 25 = .ok (.aload_n 0, 1) := by decide +kernel
theorem dX9_takeOut_26 : decode cX9_takeOut 26 = .ok (.getfield 47, 3) := by decide +kernel
theorem dX9_takeOut_29 : decode cX9_takeOut 29 = .ok (.iload_n 2, 1) := by decide +kernel
theorem dX9_takeOut_30 : decode cX9_takeOut 30 = .ok (.iconst 1, 1) := by decide +kernel
theorem dX9_takeOut_31 : decode cX9_takeOut 31 = .ok (.iadd, 1) := by decide +kernel
theorem dX9_takeOut_32 : decode cX9_takeOut 32 = .ok (.iaload, 1) := by decide +kernel
theorem dX9_takeOut_33 : decode cX9_takeOut 33 = .ok (.iastore, 1) := by decide +kernel
theorem dX9_takeOut_34 : decode cX9_takeOut 34 = .ok (.iinc 2 1, 3) := by decide +kernel
theorem dX9_takeOut_37 : decode cX9_takeOut 37 = .ok (.goto (-25), 3) := by decide +kernel
theorem dX9_takeOut_40 : decode cX9_takeOut 40 = .ok (.return_, 1) := by decide +kernel
theorem nmX9_takeOut : mm_nm yX9_takeOut 1 := ⟨by decide, by decide, by decide +kernel⟩
theorem cdX9_takeOut : mm_cd cd_Y yX9_takeOut cX9_takeOut 3 none := ⟨tw_1060, tw_8⟩
abbrev rmX9_takeOut : Room := { frames := 0, cells := 0, slots := 0, locals := 0 }
def fX9_takeOut_12  : Nat → Nat → Int32 → Int32 → mm_M → Option mm_M
  | 0 => fun _ _ _ _ => none
  | n + 1 => fun a0 x1 x2 σ =>
  mm_sh σ a0 (.inl 9) ((if (mm_I σ a0 14) ≤ x2 then some (σ) else mm_on (mm_R σ a0 15) fun q4 => mm_ar σ q4 0 fun n5 => mm_ib (x2 + 1) n5 (mm_ib x2 n5 ((fX9_takeOut_12  n a0 x1 (x2 + 1) (mm_wI σ q4 (x2.toNatClampNeg) (mm_I σ q4 (x2 + 1).toNatClampNeg)))))))
def fX9_takeOut (p0 : Nat) (p1 : Int32) (σ : mm_M) : Option mm_M :=
  mm_sh σ p0 (.inl 9) ((fX9_takeOut_12  mm_fuel p0 p1 p1 (mm_wI σ p0 14 ((mm_I σ p0 14) - 1))))
set_option maxHeartbeats 4000000 in
set_option maxRecDepth 100000 in
theorem kX9_takeOut_12 {G : mm_G} {A : Nat → Prop} {ini : Bool}  {R : mm_M}  : ∀ (a0 : Nat) (x1 : Int32) (x2 : Int32) (σ : mm_M), fX9_takeOut_12  mm_fuel a0 x1 x2 σ = some R → mm_J cd_Y G RX9 cX9_takeOut 3 none ini rmX9_takeOut A (mm_QF cd_Y G A (mm_Pv R) rmX9_takeOut.cells rmX9_takeOut.slots) 12 [(0, .ref a0), (1, .int x1), (2, .int x2)] [] σ 0 0 := by
  generalize mm_fuel = n
  induction n with
  | zero => intro a0 x1 x2 σ hf; cases hf
  | succ n ih =>
    intro a0 x1 x2 σ hf
    unfold fX9_takeOut_12 at hf
    refine mm_iload_n (j := 2) dX9_takeOut_12 rfl rfl ?_
    refine mm_aload_n (j := 0) dX9_takeOut_13 rfl rfl ?_
    obtain ⟨hs2, hf⟩ := mm_sh_s hf
    refine mm_get (c := 9) (k := 14) (v := .int (mm_I σ a0 14)) cd_ok ⟨_, _, _, rfl, by decide, Or.inl tw_808⟩ hs2 rfl dX9_takeOut_14 ?_
    refine mm_icmp_ge (tgt := 40) dX9_takeOut_17 (by decide) (fun c3 => ?_) (fun c3 => ?_)
    · rw [if_pos c3] at hf
      cases hf
      exact mm_vret rfl dX9_takeOut_40 ⟨rfl, rfl⟩
    · rw [if_neg c3] at hf
      refine mm_aload_n (j := 0) dX9_takeOut_20 rfl rfl ?_
      refine mm_get (c := 9) (k := 15) (v := va_rf (mm_R σ a0 15)) cd_ok ⟨_, _, _, rfl, by decide, Or.inl tw_809⟩ hs2 rfl dX9_takeOut_21 ?_
      refine mm_iload_n (j := 2) dX9_takeOut_24 rfl rfl ?_
      refine mm_aload_n (j := 0) dX9_takeOut_25 rfl rfl ?_
      refine mm_get (c := 9) (k := 15) (v := va_rf (mm_R σ a0 15)) cd_ok ⟨_, _, _, rfl, by decide, Or.inl tw_809⟩ hs2 rfl dX9_takeOut_26 ?_
      refine mm_iload_n (j := 2) dX9_takeOut_29 rfl rfl ?_
      refine mm_iconst (v := 1) dX9_takeOut_30 (by decide) ?_
      refine mm_iadd dX9_takeOut_31 ?_
      obtain ⟨q4, hq4, hf⟩ := mm_on_s hf
      rw [hq4, mm_rf_some]
      obtain ⟨n5, hn5, hf⟩ := mm_ar_s hf
      obtain ⟨hi6, hf⟩ := mm_ib_s hf
      refine mm_iald hn5 rfl hi6 dX9_takeOut_32 ?_
      obtain ⟨hi7, hf⟩ := mm_ib_s hf
      refine mm_iast hn5 rfl hi7 dX9_takeOut_33 ?_
      refine mm_iinc (j := 2) (L' := [(2, .int (x2 + 1)), (0, .ref a0), (1, .int x1)]) dX9_takeOut_34 rfl rfl (by decide) rfl ?_
      refine mm_goto (tgt := 12) dX9_takeOut_37 (by decide) ?_
      refine mm_sub [1, 2, 0] rfl ?_
      exact ih a0 x1 (x2 + 1) (mm_wI σ q4 (x2.toNatClampNeg) (mm_I σ q4 (x2 + 1).toNatClampNeg)) hf
set_option maxHeartbeats 4000000 in
set_option maxRecDepth 100000 in
theorem kX9_takeOut {G : mm_G} {A : Nat → Prop} (p0 : Nat) (p1 : Int32) {σ : mm_M} {R : mm_M} (hf : fX9_takeOut p0 p1 σ = some R) : mm_C cd_Y G yX9_takeOut cX9_takeOut 3 none rmX9_takeOut A [.ref p0, .int p1] σ (mm_Pv R) := by
  refine mm_C.of (by decide) (Nat.le_of_ble_eq_true rfl) ?_
  unfold fX9_takeOut at hf
  have e0 : lv_args 0 [.ref p0, .int p1] = [(0, .ref p0), (1, .int p1)] := rfl
  rw [e0]
  generalize hini : (yX9_takeOut.name == "<init>") = ini
  clear e0
  clear hini
  refine mm_aload_n (j := 0) dX9_takeOut_0 rfl rfl ?_
  refine mm_dup dX9_takeOut_1 rfl ?_
  obtain ⟨hs1, hf⟩ := mm_sh_s hf
  refine mm_get (c := 9) (k := 14) (v := .int (mm_I σ p0 14)) cd_ok ⟨_, _, _, rfl, by decide, Or.inl tw_808⟩ hs1 rfl dX9_takeOut_2 ?_
  refine mm_iconst (v := 1) dX9_takeOut_5 (by decide) ?_
  refine mm_isub dX9_takeOut_6 ?_
  refine mm_putI (c := 9) (k := 14) cd_ok ⟨_, _, _, rfl, by decide, rfl, Or.inl tw_808⟩ hs1 rfl rfl rfl dX9_takeOut_7 ?_
  refine mm_iload_n (j := 1) dX9_takeOut_10 rfl rfl ?_
  refine mm_istore_n (L' := [(2, .int p1), (0, .ref p0), (1, .int p1)]) dX9_takeOut_11 rfl (by decide) rfl ?_
  refine mm_sub [1, 2, 0] rfl ?_
  exact kX9_takeOut_12  p0 p1 p1 (mm_wI σ p0 14 ((mm_I σ p0 14) - 1)) hf
theorem dX9_pageFor_0 : decode cX9_pageFor 0 = .ok (.iconst 0, 1) := by decide +kernel
theorem dX9_pageFor_1 : decode cX9_pageFor 1 = .ok (.istore 4, 2) := by decide +kernel
theorem dX9_pageFor_3 : decode cX9_pageFor 3 = .ok (.iload 4, 2) := by decide +kernel
theorem dX9_pageFor_5 : decode cX9_pageFor 5 = .ok (.aload_n 0, 1) := by decide +kernel
theorem dX9_pageFor_6 : decode cX9_pageFor 6 = .ok (.getfield 206, 3) := by decide +kernel
theorem dX9_pageFor_9 : decode cX9_pageFor 9 = .ok (.if_icmp .ge 60, 3) := by decide +kernel
theorem dX9_pageFor_12 : decode cX9_pageFor 12 = .ok (.aload_n 0, 1) := by decide +kernel
theorem dX9_pageFor_13 : decode cX9_pageFor 13 = .ok (.getfield 47, 3) := by decide +kernel
theorem dX9_pageFor_16 : decode cX9_pageFor 16 = .ok (.iload 4, 2) := by decide +kernel
theorem dX9_pageFor_18 : decode cX9_pageFor 18 = .ok (.iaload, 1) := by decide +kernel
theorem dX9_pageFor_19 : decode cX9_pageFor 19 = .ok (.istore 5, 2) := by decide +kernel
theorem dX9_pageFor_21 : decode cX9_pageFor 21 = .ok (.aload_n 0, 1) := by decide +kernel
theorem dX9_pageFor_22 : decode cX9_pageFor 22 = .ok (.getfield 54, 3) := by decide +kernel
theorem dX9_pageFor_25 : decode cX9_pageFor 25 = .ok (.iload 5, 2) := by decide +kernel
theorem dX9_pageFor_27 : decode cX9_pageFor 27 = .ok (.iaload, 1) := by decide +kernel
theorem dX9_pageFor_28 : decode cX9_pageFor 28 = .ok (.iload_n 1, 1) := by decide +kernel
theorem dX9_pageFor_29 : decode cX9_pageFor 29 = .ok (.if_icmp .ne 34, 3) := by decide +kernel
theorem dX9_pageFor_32 : decode cX9_pageFor 32 = .ok (.aload_n 0, 1) := by decide +kernel
theorem dX9_pageFor_33 : decode cX9_pageFor 33 = .ok (.getfield 57, 3) := by decide +kernel
theorem dX9_pageFor_36 : decode cX9_pageFor 36 = .ok (.iload 5, 2) := by decide +kernel
theorem dX9_pageFor_38 : decode cX9_pageFor 38 = .ok (.iaload, 1) := by decide +kernel
theorem dX9_pageFor_39 : decode cX9_pageFor 39 = .ok (.iload_n 2, 1) := by decide +kernel
theorem dX9_pageFor_40 : decode cX9_pageFor 40 = .ok (.if_icmp .ne 23, 3) := by decide +kernel
theorem dX9_pageFor_43 : decode cX9_pageFor 43 = .ok (.aload_n 0, 1) := by decide +kernel
theorem dX9_pageFor_44 : decode cX9_pageFor 44 = .ok (.getfield 60, 3) := by decide +kernel
theorem dX9_pageFor_47 : decode cX9_pageFor 47 = .ok (.iload 5, 2) := by decide +kernel
theorem dX9_pageFor_49 : decode cX9_pageFor 49 = .ok (.iaload, 1) := by decide +kernel
theorem dX9_pageFor_50 : decode cX9_pageFor 50 = .ok (.iload_n 3, 1) := by decide +kernel
theorem dX9_pageFor_51 : decode cX9_pageFor 51 = .ok (.if_icmp .ne 12, 3) := by decide +kernel
theorem dX9_pageFor_54 : decode cX9_pageFor 54 = .ok (.aload_n 0, 1) := by decide +kernel
theorem dX9_pageFor_55 : decode cX9_pageFor 55 = .ok (.iload 4, 2) := by decide +kernel
theorem dX9_pageFor_57 : decode cX9_pageFor 57 = .ok (.invokevirtual 209, 3) := by decide +kernel
theorem dX9_pageFor_60 : decode cX9_pageFor 60 = .ok (.iload 5, 2) := by decide +kernel
theorem dX9_pageFor_62 : decode cX9_pageFor 62 = .ok (.ireturn, 1) := by decide +kernel
theorem dX9_pageFor_63 : decode cX9_pageFor 63 = .ok (.iinc 4 1, 3) := by decide +kernel
theorem dX9_pageFor_66 : decode cX9_pageFor 66 = .ok (.goto (-63), 3) := by decide +kernel
theorem dX9_pageFor_69 : decode cX9_pageFor 69 = .ok (.aload_n 0, 1) := by decide +kernel
theorem dX9_pageFor_70 : decode cX9_pageFor 70 = .ok (.getfield 206, 3) := by decide +kernel
theorem dX9_pageFor_73 : decode cX9_pageFor 73 = .ok (.bipush 20, 2) := by decide +kernel
theorem dX9_pageFor_75 : decode cX9_pageFor 75 = .ok (.if_icmp .ne 70, 3) := by decide +kernel
theorem dX9_pageFor_78 : decode cX9_pageFor 78 = .ok (.aload_n 0, 1) := by decide +kernel
theorem dX9_pageFor_79 : decode cX9_pageFor 79 = .ok (.getfield 47, 3) := by decide +kernel
theorem dX9_pageFor_82 : decode cX9_pageFor 82 = .ok (.iconst 0, 1) := by decide +kernel
theorem dX9_pageFor_83 : decode cX9_pageFor 83 = .ok (.iaload, 1) := by decide +kernel
theorem dX9_pageFor_84 : decode cX9_pageFor 84 = .ok (.istore 4, 2) := by decide +kernel
theorem dX9_pageFor_86 : decode cX9_pageFor 86 = .ok (.aload_n 0, 1) := by decide +kernel
theorem dX9_pageFor_87 : decode cX9_pageFor 87 = .ok (.iconst 0, 1) := by decide +kernel
theorem dX9_pageFor_88 : decode cX9_pageFor 88 = .ok (.invokevirtual 209, 3) := by decide +kernel
theorem dX9_pageFor_91 : decode cX9_pageFor 91 = .ok (.aload_n 0, 1) := by decide +kernel
theorem dX9_pageFor_92 : decode cX9_pageFor 92 = .ok (.getfield 50, 3) := by decide +kernel
theorem dX9_pageFor_95 : decode cX9_pageFor 95 = .ok (.iload 4, 2) := by decide +kernel
theorem dX9_pageFor_97 : decode cX9_pageFor 97 = .ok (.iconst 0, 1) := by decide +kernel
theorem dX9_pageFor_98 : decode cX9_pageFor 98 = .ok (.bastore, 1) := by decide +kernel
theorem dX9_pageFor_99 : decode cX9_pageFor 99 = .ok (.iconst 1, 1) := by decide +kernel
theorem dX9_pageFor_100 : decode cX9_pageFor 100 = .ok (.istore 5, 2) := by decide +kernel
theorem dX9_pageFor_102 : decode cX9_pageFor 102 = .ok (.iload 5, 2) := by decide +kernel
theorem dX9_pageFor_104 : decode cX9_pageFor 104 = .ok (.bipush 9, 2) := by decide +kernel
theorem dX9_pageFor_106 : decode cX9_pageFor 106 = .ok (.if_icmp .ge 39, 3) := by decide +kernel
theorem dX9_pageFor_109 : decode cX9_pageFor 109 = .ok (.aload_n 0, 1) := by decide +kernel
theorem dX9_pageFor_110 : decode cX9_pageFor 110 = .ok (.getfield 84, 3) := by decide +kernel
theorem dX9_pageFor_113 : decode cX9_pageFor 113 = .ok (.iload 5, 2) := by decide +kernel
theorem dX9_pageFor_115 : decode cX9_pageFor 115 = .ok (.aload_n 0, 1) := by decide +kernel
theorem dX9_pageFor_116 : decode cX9_pageFor 116 = .ok (.getfield 84, 3) := by decide +kernel
theorem dX9_pageFor_119 : decode cX9_pageFor 119 = .ok (.iload 5, 2) := by decide +kernel
theorem dX9_pageFor_121 : decode cX9_pageFor 121 = .ok (.iaload, 1) := by decide +kernel
theorem dX9_pageFor_122 : decode cX9_pageFor 122 = .ok (.iload 4, 2) := by decide +kernel
theorem dX9_pageFor_124 : decode cX9_pageFor 124 = .ok (.if_icmp .ne 7, 3) := by decide +kernel
theorem dX9_pageFor_127 : decode cX9_pageFor 127 = .ok (.iconst (-1), 1) := by decide +kernel
theorem dX9_pageFor_128 : decode cX9_pageFor 128 = .ok (.goto 10, 3) := by decide +kernel
theorem dX9_pageFor_131 : decode cX9_pageFor 131 = .ok (.aload_n 0, 1) := by decide +kernel
theorem dX9_pageFor_132 : decode cX9_pageFor 132 = .ok (.getfield 84, 3) := by decide +kernel
theorem dX9_pageFor_135 : decode cX9_pageFor 135 = .ok (.iload 5, 2) := by decide +kernel
theorem dX9_pageFor_137 : decode cX9_pageFor 137 = .ok (.iaload, 1) := by decide +kernel
theorem dX9_pageFor_138 : decode cX9_pageFor 138 = .ok (.iastore, 1) := by decide +kernel
theorem dX9_pageFor_139 : decode cX9_pageFor 139 = .ok (.iinc 5 1, 3) := by decide +kernel
theorem dX9_pageFor_142 : decode cX9_pageFor 142 = .ok (.goto (-40), 3) := by decide +kernel
theorem dX9_pageFor_145 : decode cX9_pageFor 145 = .ok (.iconst 0, 1) := by decide +kernel
theorem dX9_pageFor_146 : decode cX9_pageFor 146 = .ok (.istore 4, 2) := by decide +kernel
theorem dX9_pageFor_148 : decode cX9_pageFor 148 = .ok (.aload_n 0, 1) := by decide +kernel
theorem dX9_pageFor_149 : decode cX9_pageFor 149 = .ok (.getfield 50, 3) := by decide +kernel
theorem dX9_pageFor_152 : decode cX9_pageFor 152 = .ok (.iload 4, 2) := by decide +kernel
theorem dX9_pageFor_154 : decode cX9_pageFor 154 = .ok (.baload, 1) := by decide +kernel
theorem dX9_pageFor_155 : decode cX9_pageFor 155 = .ok (.ifCond .eq 9, 3) := by decide +kernel
theorem dX9_pageFor_158 : decode cX9_pageFor 158 = .ok (.iinc 4 1, 3) := by decide +kernel
theorem dX9_pageFor_161 : decode cX9_pageFor 161 = .ok (.goto (-13), 3) := by decide +kernel
theorem dX9_pageFor_164 : decode cX9_pageFor 164 = .ok (.aload_n 0, 1) := by decide +kernel
theorem dX9_pageFor_165 : decode cX9_pageFor 165 = .ok (.getfield 50, 3) := by decide +kernel
theorem dX9_pageFor_168 : decode cX9_pageFor 168 = .ok (.iload 4, 2) := by decide +kernel
theorem dX9_pageFor_170 : decode cX9_pageFor 170 = .ok (.iconst 1, 1) := by decide +kernel
theorem dX9_pageFor_171 : decode cX9_pageFor 171 = .ok (.bastore, 1) := by decide +kernel
theorem dX9_pageFor_172 : decode cX9_pageFor 172 = .ok (.aload_n 0, 1) := by decide +kernel
theorem dX9_pageFor_173 : decode cX9_pageFor 173 = .ok (.getfield 54, 3) := by decide +kernel
theorem dX9_pageFor_176 : decode cX9_pageFor 176 = .ok (.iload 4, 2) := by decide +kernel
theorem dX9_pageFor_178 : decode cX9_pageFor 178 = .ok (.iload_n 1, 1) := by decide +kernel
theorem dX9_pageFor_179 : decode cX9_pageFor 179 = .ok (.iastore, 1) := by decide +kernel
theorem dX9_pageFor_180 : decode cX9_pageFor 180 = .ok (.aload_n 0, 1) := by decide +kernel
theorem dX9_pageFor_181 : decode cX9_pageFor 181 = .ok (.getfield 57, 3) := by decide +kernel
theorem dX9_pageFor_184 : decode cX9_pageFor 184 = .ok (.iload 4, 2) := by decide +kernel
theorem dX9_pageFor_186 : decode cX9_pageFor 186 = .ok (.iload_n 2, 1) := by decide +kernel
theorem dX9_pageFor_187 : decode cX9_pageFor 187 = .ok (.iastore, 1) := by decide +kernel
theorem dX9_pageFor_188 : decode cX9_pageFor 188 = .ok (.aload_n 0, 1) := by decide +kernel
theorem dX9_pageFor_189 : decode cX9_pageFor 189 = .ok (.getfield 60, 3) := by decide +kernel
theorem dX9_pageFor_192 : decode cX9_pageFor 192 = .ok (.iload 4, 2) := by decide +kernel
theorem dX9_pageFor_194 : decode cX9_pageFor 194 = .ok (.iload_n 3, 1) := by decide +kernel
theorem dX9_pageFor_195 : decode cX9_pageFor 195 = .ok (.iastore, 1) := by decide +kernel
theorem dX9_pageFor_196 : decode cX9_pageFor 196 = .ok (.aload_n 0, 1) := by decide +kernel
theorem dX9_pageFor_197 : decode cX9_pageFor 197 = .ok (.getfield 66, 3) := by decide +kernel
theorem dX9_pageFor_200 : decode cX9_pageFor 200 = .ok (.iload 4, 2) := by decide +kernel
theorem dX9_pageFor_202 : decode cX9_pageFor 202 = .ok (.iconst 0, 1) := by decide +kernel
theorem dX9_pageFor_203 : decode cX9_pageFor 203 = .ok (.iastore, 1) := by decide +kernel
theorem dX9_pageFor_204 : decode cX9_pageFor 204 = .ok (.aload_n 0, 1) := by decide +kernel
theorem dX9_pageFor_205 : decode cX9_pageFor 205 = .ok (.getfield 69, 3) := by decide +kernel
theorem dX9_pageFor_208 : decode cX9_pageFor 208 = .ok (.iload 4, 2) := by decide +kernel
theorem dX9_pageFor_210 : decode cX9_pageFor 210 = .ok (.iconst 0, 1) := by decide +kernel
theorem dX9_pageFor_211 : decode cX9_pageFor 211 = .ok (.iastore, 1) := by decide +kernel
theorem dX9_pageFor_212 : decode cX9_pageFor 212 = .ok (.aload_n 0, 1) := by decide +kernel
theorem dX9_pageFor_213 : decode cX9_pageFor 213 = .ok (.iload 4, 2) := by decide +kernel
theorem dX9_pageFor_215 : decode cX9_pageFor 215 = .ok (.iconst 0, 1) := by decide +kernel
theorem dX9_pageFor_216 : decode cX9_pageFor 216 = .ok (.invokevirtual 212, 3) := by decide +kernel
theorem dX9_pageFor_219 : decode cX9_pageFor 219 = .ok (.iload 4, 2) := by decide +kernel
theorem dX9_pageFor_221 : decode cX9_pageFor 221 = .ok (.ireturn, 1) := by decide +kernel
theorem nmX9_pageFor : mm_nm yX9_pageFor 3 := ⟨by decide, by decide, by decide +kernel⟩
theorem cdX9_pageFor : mm_cd cd_Y yX9_pageFor cX9_pageFor 6 (some .int) := ⟨tw_1056, tw_8⟩
abbrev rmX9_pageFor : Room := { frames := 1, cells := 0, slots := 0, locals := 23 }
def fX9_pageFor_148  : Nat → Nat → Int32 → Int32 → Int32 → Int32 → mm_M → Option (Int32 × mm_M)
  | 0 => fun _ _ _ _ _ _ => none
  | n + 1 => fun a0 x1 x2 x3 x4 σ =>
  mm_sh σ a0 (.inl 9) (mm_on (mm_R σ a0 16) fun q5 => mm_ar σ q5 1 fun n6 => mm_ib x4 n6 ((if (mm_I σ q5 x4.toNatClampNeg) = 0 then mm_on (mm_R σ a0 16) fun q9 => mm_ar σ q9 1 fun n10 => mm_ib x4 n10 (mm_on (mm_R (mm_wI σ q9 (x4.toNatClampNeg) (vp_nar .boolean 1)) a0 17) fun q12 => mm_ar (mm_wI σ q9 (x4.toNatClampNeg) (vp_nar .boolean 1)) q12 0 fun n13 => mm_ib x4 n13 (mm_on (mm_R (mm_wI (mm_wI σ q9 (x4.toNatClampNeg) (vp_nar .boolean 1)) q12 (x4.toNatClampNeg) x1) a0 18) fun q15 => mm_ar (mm_wI (mm_wI σ q9 (x4.toNatClampNeg) (vp_nar .boolean 1)) q12 (x4.toNatClampNeg) x1) q15 0 fun n16 => mm_ib x4 n16 (mm_on (mm_R (mm_wI (mm_wI (mm_wI σ q9 (x4.toNatClampNeg) (vp_nar .boolean 1)) q12 (x4.toNatClampNeg) x1) q15 (x4.toNatClampNeg) x2) a0 19) fun q18 => mm_ar (mm_wI (mm_wI (mm_wI σ q9 (x4.toNatClampNeg) (vp_nar .boolean 1)) q12 (x4.toNatClampNeg) x1) q15 (x4.toNatClampNeg) x2) q18 0 fun n19 => mm_ib x4 n19 (mm_on (mm_R (mm_wI (mm_wI (mm_wI (mm_wI σ q9 (x4.toNatClampNeg) (vp_nar .boolean 1)) q12 (x4.toNatClampNeg) x1) q15 (x4.toNatClampNeg) x2) q18 (x4.toNatClampNeg) x3) a0 21) fun q21 => mm_ar (mm_wI (mm_wI (mm_wI (mm_wI σ q9 (x4.toNatClampNeg) (vp_nar .boolean 1)) q12 (x4.toNatClampNeg) x1) q15 (x4.toNatClampNeg) x2) q18 (x4.toNatClampNeg) x3) q21 0 fun n22 => mm_ib x4 n22 (mm_on (mm_R (mm_wI (mm_wI (mm_wI (mm_wI (mm_wI σ q9 (x4.toNatClampNeg) (vp_nar .boolean 1)) q12 (x4.toNatClampNeg) x1) q15 (x4.toNatClampNeg) x2) q18 (x4.toNatClampNeg) x3) q21 (x4.toNatClampNeg) 0) a0 22) fun q24 => mm_ar (mm_wI (mm_wI (mm_wI (mm_wI (mm_wI σ q9 (x4.toNatClampNeg) (vp_nar .boolean 1)) q12 (x4.toNatClampNeg) x1) q15 (x4.toNatClampNeg) x2) q18 (x4.toNatClampNeg) x3) q21 (x4.toNatClampNeg) 0) q24 0 fun n25 => mm_ib x4 n25 (mm_on (fX9_emptyRows a0 x4 0 (mm_wI (mm_wI (mm_wI (mm_wI (mm_wI (mm_wI σ q9 (x4.toNatClampNeg) (vp_nar .boolean 1)) q12 (x4.toNatClampNeg) x1) q15 (x4.toNatClampNeg) x2) q18 (x4.toNatClampNeg) x3) q21 (x4.toNatClampNeg) 0) q24 (x4.toNatClampNeg) 0)) fun q27 => some (x4, q27))))))) else (fX9_pageFor_148  n a0 x1 x2 x3 (x4 + 1) σ))))
def fX9_pageFor_102  : Nat → Nat → Int32 → Int32 → Int32 → Int32 → Int32 → mm_M → Option (Int32 × mm_M)
  | 0 => fun _ _ _ _ _ _ _ => none
  | n + 1 => fun a0 x1 x2 x3 x4 x5 σ =>
  (if 9 ≤ x5 then (fX9_pageFor_148  mm_fuel a0 x1 x2 x3 0 σ) else mm_sh σ a0 (.inl 9) (mm_on (mm_R σ a0 27) fun q38 => mm_ar σ q38 0 fun n39 => mm_ib x5 n39 ((if (mm_I σ q38 x5.toNatClampNeg) = x4 then mm_ib x5 n39 ((fX9_pageFor_102  n a0 x1 x2 x3 x4 (x5 + 1) (mm_wI σ q38 (x5.toNatClampNeg) (-1)))) else mm_on (mm_R σ a0 27) fun q42 => mm_ar σ q42 0 fun n43 => mm_ib x5 n43 (mm_ib x5 n39 ((fX9_pageFor_102  n a0 x1 x2 x3 x4 (x5 + 1) (mm_wI σ q38 (x5.toNatClampNeg) (mm_I σ q42 x5.toNatClampNeg)))))))))
def fX9_pageFor_3  : Nat → Nat → Int32 → Int32 → Int32 → Int32 → mm_M → Option (Int32 × mm_M)
  | 0 => fun _ _ _ _ _ _ => none
  | n + 1 => fun a0 x1 x2 x3 x4 σ =>
  mm_sh σ a0 (.inl 9) ((if (mm_I σ a0 14) ≤ x4 then (if (mm_I σ a0 14) = 20 then mm_on (mm_R σ a0 15) fun q28 => mm_ar σ q28 0 fun n29 => mm_ib 0 n29 (mm_on (fX9_takeOut a0 0 σ) fun q31 => mm_sh q31 a0 (.inl 9) (mm_on (mm_R q31 a0 16) fun q33 => mm_ar q31 q33 1 fun n34 => mm_ib (mm_I σ q28 (0 : Int32).toNatClampNeg) n34 ((fX9_pageFor_102  mm_fuel a0 x1 x2 x3 (mm_I σ q28 (0 : Int32).toNatClampNeg) 1 (mm_wI q31 q33 ((mm_I σ q28 (0 : Int32).toNatClampNeg).toNatClampNeg) (vp_nar .boolean 0)))))) else (fX9_pageFor_148  mm_fuel a0 x1 x2 x3 0 σ)) else mm_on (mm_R σ a0 15) fun q47 => mm_ar σ q47 0 fun n48 => mm_ib x4 n48 (mm_on (mm_R σ a0 17) fun q50 => mm_ar σ q50 0 fun n51 => mm_ib (mm_I σ q47 x4.toNatClampNeg) n51 ((if (mm_I σ q50 (mm_I σ q47 x4.toNatClampNeg).toNatClampNeg) = x1 then mm_on (mm_R σ a0 18) fun q54 => mm_ar σ q54 0 fun n55 => mm_ib (mm_I σ q47 x4.toNatClampNeg) n55 ((if (mm_I σ q54 (mm_I σ q47 x4.toNatClampNeg).toNatClampNeg) = x2 then mm_on (mm_R σ a0 19) fun q58 => mm_ar σ q58 0 fun n59 => mm_ib (mm_I σ q47 x4.toNatClampNeg) n59 ((if (mm_I σ q58 (mm_I σ q47 x4.toNatClampNeg).toNatClampNeg) = x3 then mm_on (fX9_takeOut a0 x4 σ) fun q62 => some (mm_I σ q47 x4.toNatClampNeg, q62) else (fX9_pageFor_3  n a0 x1 x2 x3 (x4 + 1) σ))) else (fX9_pageFor_3  n a0 x1 x2 x3 (x4 + 1) σ))) else (fX9_pageFor_3  n a0 x1 x2 x3 (x4 + 1) σ))))))
def fX9_pageFor (p0 : Nat) (p1 : Int32) (p2 : Int32) (p3 : Int32) (σ : mm_M) : Option (Int32 × mm_M) :=
  (fX9_pageFor_3  mm_fuel p0 p1 p2 p3 0 σ)
set_option maxHeartbeats 4000000 in
set_option maxRecDepth 100000 in
theorem kX9_pageFor_148 {G : mm_G} {A : Nat → Prop} {ini : Bool}  {R : (Int32 × mm_M)}  : ∀ (a0 : Nat) (x1 : Int32) (x2 : Int32) (x3 : Int32) (x4 : Int32) (σ : mm_M), fX9_pageFor_148  mm_fuel a0 x1 x2 x3 x4 σ = some R → mm_J cd_Y G RX9 cX9_pageFor 6 (some .int) ini rmX9_pageFor A (mm_QF cd_Y G A (mm_Pi R.1 R.2) rmX9_pageFor.cells rmX9_pageFor.slots) 148 [(0, .ref a0), (1, .int x1), (2, .int x2), (3, .int x3), (4, .int x4)] [] σ 0 0 := by
  generalize mm_fuel = n
  induction n with
  | zero => intro a0 x1 x2 x3 x4 σ hf; cases hf
  | succ n ih =>
    intro a0 x1 x2 x3 x4 σ hf
    unfold fX9_pageFor_148 at hf
    refine mm_aload_n (j := 0) dX9_pageFor_148 rfl rfl ?_
    obtain ⟨hs4, hf⟩ := mm_sh_s hf
    refine mm_get (c := 9) (k := 16) (v := va_rf (mm_R σ a0 16)) cd_ok ⟨_, _, _, rfl, by decide, Or.inl tw_810⟩ hs4 rfl dX9_pageFor_149 ?_
    refine mm_iload (j := 4) dX9_pageFor_152 rfl ?_
    obtain ⟨q5, hq5, hf⟩ := mm_on_s hf
    rw [hq5, mm_rf_some]
    obtain ⟨n6, hn6, hf⟩ := mm_ar_s hf
    obtain ⟨hi7, hf⟩ := mm_ib_s hf
    refine mm_zald hn6 rfl hi7 dX9_pageFor_154 ?_
    refine mm_if_eq (tgt := 164) dX9_pageFor_155 (by decide) (fun c8 => ?_) (fun c8 => ?_)
    · rw [if_pos c8] at hf
      refine mm_aload_n (j := 0) dX9_pageFor_164 rfl rfl ?_
      refine mm_get (c := 9) (k := 16) (v := va_rf (mm_R σ a0 16)) cd_ok ⟨_, _, _, rfl, by decide, Or.inl tw_810⟩ hs4 rfl dX9_pageFor_165 ?_
      refine mm_iload (j := 4) dX9_pageFor_168 rfl ?_
      refine mm_iconst (v := 1) dX9_pageFor_170 (by decide) ?_
      obtain ⟨q9, hq9, hf⟩ := mm_on_s hf
      rw [hq9, mm_rf_some]
      obtain ⟨n10, hn10, hf⟩ := mm_ar_s hf
      obtain ⟨hi11, hf⟩ := mm_ib_s hf
      refine mm_zast hn10 rfl hi11 dX9_pageFor_171 ?_
      refine mm_aload_n (j := 0) dX9_pageFor_172 rfl rfl ?_
      refine mm_get (c := 9) (k := 17) (v := va_rf (mm_R (mm_wI σ q9 (x4.toNatClampNeg) (vp_nar .boolean 1)) a0 17)) cd_ok ⟨_, _, _, rfl, by decide, Or.inl tw_811⟩ hs4 rfl dX9_pageFor_173 ?_
      refine mm_iload (j := 4) dX9_pageFor_176 rfl ?_
      refine mm_iload_n (j := 1) dX9_pageFor_178 rfl rfl ?_
      obtain ⟨q12, hq12, hf⟩ := mm_on_s hf
      rw [hq12, mm_rf_some]
      obtain ⟨n13, hn13, hf⟩ := mm_ar_s hf
      obtain ⟨hi14, hf⟩ := mm_ib_s hf
      refine mm_iast hn13 rfl hi14 dX9_pageFor_179 ?_
      refine mm_aload_n (j := 0) dX9_pageFor_180 rfl rfl ?_
      refine mm_get (c := 9) (k := 18) (v := va_rf (mm_R (mm_wI (mm_wI σ q9 (x4.toNatClampNeg) (vp_nar .boolean 1)) q12 (x4.toNatClampNeg) x1) a0 18)) cd_ok ⟨_, _, _, rfl, by decide, Or.inl tw_812⟩ hs4 rfl dX9_pageFor_181 ?_
      refine mm_iload (j := 4) dX9_pageFor_184 rfl ?_
      refine mm_iload_n (j := 2) dX9_pageFor_186 rfl rfl ?_
      obtain ⟨q15, hq15, hf⟩ := mm_on_s hf
      rw [hq15, mm_rf_some]
      obtain ⟨n16, hn16, hf⟩ := mm_ar_s hf
      obtain ⟨hi17, hf⟩ := mm_ib_s hf
      refine mm_iast hn16 rfl hi17 dX9_pageFor_187 ?_
      refine mm_aload_n (j := 0) dX9_pageFor_188 rfl rfl ?_
      refine mm_get (c := 9) (k := 19) (v := va_rf (mm_R (mm_wI (mm_wI (mm_wI σ q9 (x4.toNatClampNeg) (vp_nar .boolean 1)) q12 (x4.toNatClampNeg) x1) q15 (x4.toNatClampNeg) x2) a0 19)) cd_ok ⟨_, _, _, rfl, by decide, Or.inl tw_813⟩ hs4 rfl dX9_pageFor_189 ?_
      refine mm_iload (j := 4) dX9_pageFor_192 rfl ?_
      refine mm_iload_n (j := 3) dX9_pageFor_194 rfl rfl ?_
      obtain ⟨q18, hq18, hf⟩ := mm_on_s hf
      rw [hq18, mm_rf_some]
      obtain ⟨n19, hn19, hf⟩ := mm_ar_s hf
      obtain ⟨hi20, hf⟩ := mm_ib_s hf
      refine mm_iast hn19 rfl hi20 dX9_pageFor_195 ?_
      refine mm_aload_n (j := 0) dX9_pageFor_196 rfl rfl ?_
      refine mm_get (c := 9) (k := 21) (v := va_rf (mm_R (mm_wI (mm_wI (mm_wI (mm_wI σ q9 (x4.toNatClampNeg) (vp_nar .boolean 1)) q12 (x4.toNatClampNeg) x1) q15 (x4.toNatClampNeg) x2) q18 (x4.toNatClampNeg) x3) a0 21)) cd_ok ⟨_, _, _, rfl, by decide, Or.inl tw_815⟩ hs4 rfl dX9_pageFor_197 ?_
      refine mm_iload (j := 4) dX9_pageFor_200 rfl ?_
      refine mm_iconst (v := 0) dX9_pageFor_202 (by decide) ?_
      obtain ⟨q21, hq21, hf⟩ := mm_on_s hf
      rw [hq21, mm_rf_some]
      obtain ⟨n22, hn22, hf⟩ := mm_ar_s hf
      obtain ⟨hi23, hf⟩ := mm_ib_s hf
      refine mm_iast hn22 rfl hi23 dX9_pageFor_203 ?_
      refine mm_aload_n (j := 0) dX9_pageFor_204 rfl rfl ?_
      refine mm_get (c := 9) (k := 22) (v := va_rf (mm_R (mm_wI (mm_wI (mm_wI (mm_wI (mm_wI σ q9 (x4.toNatClampNeg) (vp_nar .boolean 1)) q12 (x4.toNatClampNeg) x1) q15 (x4.toNatClampNeg) x2) q18 (x4.toNatClampNeg) x3) q21 (x4.toNatClampNeg) 0) a0 22)) cd_ok ⟨_, _, _, rfl, by decide, Or.inl tw_816⟩ hs4 rfl dX9_pageFor_205 ?_
      refine mm_iload (j := 4) dX9_pageFor_208 rfl ?_
      refine mm_iconst (v := 0) dX9_pageFor_210 (by decide) ?_
      obtain ⟨q24, hq24, hf⟩ := mm_on_s hf
      rw [hq24, mm_rf_some]
      obtain ⟨n25, hn25, hf⟩ := mm_ar_s hf
      obtain ⟨hi26, hf⟩ := mm_ib_s hf
      refine mm_iast hn25 rfl hi26 dX9_pageFor_211 ?_
      refine mm_aload_n (j := 0) dX9_pageFor_212 rfl rfl ?_
      refine mm_iload (j := 4) dX9_pageFor_213 rfl ?_
      refine mm_iconst (v := 0) dX9_pageFor_215 (by decide) ?_
      obtain ⟨q27, hq27, hf⟩ := mm_on_s hf
      refine mm_callVv cd_ok (kX9_emptyRows a0 x4 0 hq27) hs4 rfl (Or.inl tw_1061) cdX9_emptyRows tw_1063 ts_49 nmX9_emptyRows rfl rfl (by simp only [List.map_cons, List.map_nil, mm_rf_cat]; exact Nat.le_of_ble_eq_true rfl) dX9_pageFor_216 ⟨Nat.le_of_ble_eq_true rfl, Nat.le_of_ble_eq_true rfl⟩ ⟨Nat.le_of_ble_eq_true rfl, Nat.le_of_ble_eq_true rfl⟩ ?_
      refine mm_iload (j := 4) dX9_pageFor_219 rfl ?_
      cases hf
      exact mm_iret rfl rfl dX9_pageFor_221 ⟨rfl, rfl⟩
    · rw [if_neg c8] at hf
      refine mm_iinc (j := 4) (L' := [(4, .int (x4 + 1)), (0, .ref a0), (1, .int x1), (2, .int x2), (3, .int x3)]) dX9_pageFor_158 rfl rfl (by decide) rfl ?_
      refine mm_goto (tgt := 148) dX9_pageFor_161 (by decide) ?_
      refine mm_sub [1, 2, 3, 4, 0] rfl ?_
      exact ih a0 x1 x2 x3 (x4 + 1) σ hf
set_option maxHeartbeats 4000000 in
set_option maxRecDepth 100000 in
theorem kX9_pageFor_102 {G : mm_G} {A : Nat → Prop} {ini : Bool}  {R : (Int32 × mm_M)}  : ∀ (a0 : Nat) (x1 : Int32) (x2 : Int32) (x3 : Int32) (x4 : Int32) (x5 : Int32) (σ : mm_M), fX9_pageFor_102  mm_fuel a0 x1 x2 x3 x4 x5 σ = some R → mm_J cd_Y G RX9 cX9_pageFor 6 (some .int) ini rmX9_pageFor A (mm_QF cd_Y G A (mm_Pi R.1 R.2) rmX9_pageFor.cells rmX9_pageFor.slots) 102 [(0, .ref a0), (1, .int x1), (2, .int x2), (3, .int x3), (4, .int x4), (5, .int x5)] [] σ 0 0 := by
  generalize mm_fuel = n
  induction n with
  | zero => intro a0 x1 x2 x3 x4 x5 σ hf; cases hf
  | succ n ih =>
    intro a0 x1 x2 x3 x4 x5 σ hf
    unfold fX9_pageFor_102 at hf
    refine mm_iload (j := 5) dX9_pageFor_102 rfl ?_
    refine mm_bipush (v := 9) dX9_pageFor_104 (by decide) ?_
    refine mm_icmp_ge (tgt := 145) dX9_pageFor_106 (by decide) (fun c36 => ?_) (fun c36 => ?_)
    · rw [if_pos c36] at hf
      refine mm_iconst (v := 0) dX9_pageFor_145 (by decide) ?_
      refine mm_istore (L' := [(4, .int 0), (0, .ref a0), (1, .int x1), (2, .int x2), (3, .int x3), (5, .int x5)]) dX9_pageFor_146 (by decide) rfl ?_
      refine mm_sub [1, 2, 3, 4, 0] rfl ?_
      exact kX9_pageFor_148  a0 x1 x2 x3 0 σ hf
    · rw [if_neg c36] at hf
      refine mm_aload_n (j := 0) dX9_pageFor_109 rfl rfl ?_
      obtain ⟨hs37, hf⟩ := mm_sh_s hf
      refine mm_get (c := 9) (k := 27) (v := va_rf (mm_R σ a0 27)) cd_ok ⟨_, _, _, rfl, by decide, Or.inl tw_821⟩ hs37 rfl dX9_pageFor_110 ?_
      refine mm_iload (j := 5) dX9_pageFor_113 rfl ?_
      refine mm_aload_n (j := 0) dX9_pageFor_115 rfl rfl ?_
      refine mm_get (c := 9) (k := 27) (v := va_rf (mm_R σ a0 27)) cd_ok ⟨_, _, _, rfl, by decide, Or.inl tw_821⟩ hs37 rfl dX9_pageFor_116 ?_
      refine mm_iload (j := 5) dX9_pageFor_119 rfl ?_
      obtain ⟨q38, hq38, hf⟩ := mm_on_s hf
      rw [hq38, mm_rf_some]
      obtain ⟨n39, hn39, hf⟩ := mm_ar_s hf
      obtain ⟨hi40, hf⟩ := mm_ib_s hf
      refine mm_iald hn39 rfl hi40 dX9_pageFor_121 ?_
      refine mm_iload (j := 4) dX9_pageFor_122 rfl ?_
      refine mm_icmp_ne (tgt := 131) dX9_pageFor_124 (by decide) (fun c41 => ?_) (fun c41 => ?_)
      · rw [if_neg c41] at hf
        refine mm_aload_n (j := 0) dX9_pageFor_131 rfl rfl ?_
        refine mm_get (c := 9) (k := 27) (v := va_rf (mm_R σ a0 27)) cd_ok ⟨_, _, _, rfl, by decide, Or.inl tw_821⟩ hs37 rfl dX9_pageFor_132 ?_
        refine mm_iload (j := 5) dX9_pageFor_135 rfl ?_
        obtain ⟨q42, hq42, hf⟩ := mm_on_s hf
        rw [hq42, mm_rf_some]
        obtain ⟨n43, hn43, hf⟩ := mm_ar_s hf
        obtain ⟨hi44, hf⟩ := mm_ib_s hf
        refine mm_iald hn43 rfl hi44 dX9_pageFor_137 ?_
        obtain ⟨hi45, hf⟩ := mm_ib_s hf
        refine mm_iast hn39 rfl hi45 dX9_pageFor_138 ?_
        refine mm_iinc (j := 5) (L' := [(5, .int (x5 + 1)), (0, .ref a0), (1, .int x1), (2, .int x2), (3, .int x3), (4, .int x4)]) dX9_pageFor_139 rfl rfl (by decide) rfl ?_
        refine mm_goto (tgt := 102) dX9_pageFor_142 (by decide) ?_
        refine mm_sub [1, 2, 3, 4, 5, 0] rfl ?_
        exact ih a0 x1 x2 x3 x4 (x5 + 1) (mm_wI σ q38 (x5.toNatClampNeg) (mm_I σ q42 x5.toNatClampNeg)) hf
      · rw [if_pos c41] at hf
        refine mm_iconst (v := (-1)) dX9_pageFor_127 (by decide) ?_
        refine mm_goto (tgt := 138) dX9_pageFor_128 (by decide) ?_
        obtain ⟨hi46, hf⟩ := mm_ib_s hf
        refine mm_iast hn39 rfl hi46 dX9_pageFor_138 ?_
        refine mm_iinc (j := 5) (L' := [(5, .int (x5 + 1)), (0, .ref a0), (1, .int x1), (2, .int x2), (3, .int x3), (4, .int x4)]) dX9_pageFor_139 rfl rfl (by decide) rfl ?_
        refine mm_goto (tgt := 102) dX9_pageFor_142 (by decide) ?_
        refine mm_sub [1, 2, 3, 4, 5, 0] rfl ?_
        exact ih a0 x1 x2 x3 x4 (x5 + 1) (mm_wI σ q38 (x5.toNatClampNeg) (-1)) hf
set_option maxHeartbeats 4000000 in
set_option maxRecDepth 100000 in
theorem kX9_pageFor_3 {G : mm_G} {A : Nat → Prop} {ini : Bool}  {R : (Int32 × mm_M)}  : ∀ (a0 : Nat) (x1 : Int32) (x2 : Int32) (x3 : Int32) (x4 : Int32) (σ : mm_M), fX9_pageFor_3  mm_fuel a0 x1 x2 x3 x4 σ = some R → mm_J cd_Y G RX9 cX9_pageFor 6 (some .int) ini rmX9_pageFor A (mm_QF cd_Y G A (mm_Pi R.1 R.2) rmX9_pageFor.cells rmX9_pageFor.slots) 3 [(0, .ref a0), (1, .int x1), (2, .int x2), (3, .int x3), (4, .int x4)] [] σ 0 0 := by
  generalize mm_fuel = n
  induction n with
  | zero => intro a0 x1 x2 x3 x4 σ hf; cases hf
  | succ n ih =>
    intro a0 x1 x2 x3 x4 σ hf
    unfold fX9_pageFor_3 at hf
    refine mm_iload (j := 4) dX9_pageFor_3 rfl ?_
    refine mm_aload_n (j := 0) dX9_pageFor_5 rfl rfl ?_
    obtain ⟨hs1, hf⟩ := mm_sh_s hf
    refine mm_get (c := 9) (k := 14) (v := .int (mm_I σ a0 14)) cd_ok ⟨_, _, _, rfl, by decide, Or.inl tw_808⟩ hs1 rfl dX9_pageFor_6 ?_
    refine mm_icmp_ge (tgt := 69) dX9_pageFor_9 (by decide) (fun c2 => ?_) (fun c2 => ?_)
    · rw [if_pos c2] at hf
      refine mm_aload_n (j := 0) dX9_pageFor_69 rfl rfl ?_
      refine mm_get (c := 9) (k := 14) (v := .int (mm_I σ a0 14)) cd_ok ⟨_, _, _, rfl, by decide, Or.inl tw_808⟩ hs1 rfl dX9_pageFor_70 ?_
      refine mm_bipush (v := 20) dX9_pageFor_73 (by decide) ?_
      refine mm_icmp_ne (tgt := 145) dX9_pageFor_75 (by decide) (fun c3 => ?_) (fun c3 => ?_)
      · rw [if_neg c3] at hf
        refine mm_iconst (v := 0) dX9_pageFor_145 (by decide) ?_
        refine mm_istore (L' := [(4, .int 0), (0, .ref a0), (1, .int x1), (2, .int x2), (3, .int x3)]) dX9_pageFor_146 (by decide) rfl ?_
        refine mm_sub [1, 2, 3, 4, 0] rfl ?_
        exact kX9_pageFor_148  a0 x1 x2 x3 0 σ hf
      · rw [if_pos c3] at hf
        refine mm_aload_n (j := 0) dX9_pageFor_78 rfl rfl ?_
        refine mm_get (c := 9) (k := 15) (v := va_rf (mm_R σ a0 15)) cd_ok ⟨_, _, _, rfl, by decide, Or.inl tw_809⟩ hs1 rfl dX9_pageFor_79 ?_
        refine mm_iconst (v := 0) dX9_pageFor_82 (by decide) ?_
        obtain ⟨q28, hq28, hf⟩ := mm_on_s hf
        rw [hq28, mm_rf_some]
        obtain ⟨n29, hn29, hf⟩ := mm_ar_s hf
        obtain ⟨hi30, hf⟩ := mm_ib_s hf
        refine mm_iald hn29 rfl hi30 dX9_pageFor_83 ?_
        refine mm_istore (L' := [(4, .int (mm_I σ q28 (0 : Int32).toNatClampNeg)), (0, .ref a0), (1, .int x1), (2, .int x2), (3, .int x3)]) dX9_pageFor_84 (by decide) rfl ?_
        refine mm_aload_n (j := 1) dX9_pageFor_86 rfl rfl ?_
        refine mm_iconst (v := 0) dX9_pageFor_87 (by decide) ?_
        obtain ⟨q31, hq31, hf⟩ := mm_on_s hf
        refine mm_callVv cd_ok (kX9_takeOut a0 0 hq31) hs1 rfl (Or.inl tw_1057) cdX9_takeOut tw_1059 ts_48 nmX9_takeOut rfl rfl (by simp only [List.map_cons, List.map_nil, mm_rf_cat]; exact Nat.le_of_ble_eq_true rfl) dX9_pageFor_88 ⟨Nat.le_of_ble_eq_true rfl, Nat.le_of_ble_eq_true rfl⟩ ⟨Nat.le_of_ble_eq_true rfl, Nat.le_of_ble_eq_true rfl⟩ ?_
        refine mm_aload_n (j := 1) dX9_pageFor_91 rfl rfl ?_
        obtain ⟨hs32, hf⟩ := mm_sh_s hf
        refine mm_get (c := 9) (k := 16) (v := va_rf (mm_R q31 a0 16)) cd_ok ⟨_, _, _, rfl, by decide, Or.inl tw_810⟩ hs32 rfl dX9_pageFor_92 ?_
        refine mm_iload (j := 0) dX9_pageFor_95 rfl ?_
        refine mm_iconst (v := 0) dX9_pageFor_97 (by decide) ?_
        obtain ⟨q33, hq33, hf⟩ := mm_on_s hf
        rw [hq33, mm_rf_some]
        obtain ⟨n34, hn34, hf⟩ := mm_ar_s hf
        obtain ⟨hi35, hf⟩ := mm_ib_s hf
        refine mm_zast hn34 rfl hi35 dX9_pageFor_98 ?_
        refine mm_iconst (v := 1) dX9_pageFor_99 (by decide) ?_
        refine mm_istore (L' := [(5, .int 1), (4, .int (mm_I σ q28 (0 : Int32).toNatClampNeg)), (0, .ref a0), (1, .int x1), (2, .int x2), (3, .int x3)]) dX9_pageFor_100 (by decide) rfl ?_
        refine mm_sub [2, 3, 4, 5, 1, 0] rfl ?_
        exact kX9_pageFor_102  a0 x1 x2 x3 (mm_I σ q28 (0 : Int32).toNatClampNeg) 1 (mm_wI q31 q33 ((mm_I σ q28 (0 : Int32).toNatClampNeg).toNatClampNeg) (vp_nar .boolean 0)) hf
    · rw [if_neg c2] at hf
      refine mm_aload_n (j := 0) dX9_pageFor_12 rfl rfl ?_
      refine mm_get (c := 9) (k := 15) (v := va_rf (mm_R σ a0 15)) cd_ok ⟨_, _, _, rfl, by decide, Or.inl tw_809⟩ hs1 rfl dX9_pageFor_13 ?_
      refine mm_iload (j := 4) dX9_pageFor_16 rfl ?_
      obtain ⟨q47, hq47, hf⟩ := mm_on_s hf
      rw [hq47, mm_rf_some]
      obtain ⟨n48, hn48, hf⟩ := mm_ar_s hf
      obtain ⟨hi49, hf⟩ := mm_ib_s hf
      refine mm_iald hn48 rfl hi49 dX9_pageFor_18 ?_
      refine mm_istore (L' := [(5, .int (mm_I σ q47 x4.toNatClampNeg)), (0, .ref a0), (1, .int x1), (2, .int x2), (3, .int x3), (4, .int x4)]) dX9_pageFor_19 (by decide) rfl ?_
      refine mm_aload_n (j := 1) dX9_pageFor_21 rfl rfl ?_
      refine mm_get (c := 9) (k := 17) (v := va_rf (mm_R σ a0 17)) cd_ok ⟨_, _, _, rfl, by decide, Or.inl tw_811⟩ hs1 rfl dX9_pageFor_22 ?_
      refine mm_iload (j := 0) dX9_pageFor_25 rfl ?_
      obtain ⟨q50, hq50, hf⟩ := mm_on_s hf
      rw [hq50, mm_rf_some]
      obtain ⟨n51, hn51, hf⟩ := mm_ar_s hf
      obtain ⟨hi52, hf⟩ := mm_ib_s hf
      refine mm_iald hn51 rfl hi52 dX9_pageFor_27 ?_
      refine mm_iload_n (j := 2) dX9_pageFor_28 rfl rfl ?_
      refine mm_icmp_ne (tgt := 63) dX9_pageFor_29 (by decide) (fun c53 => ?_) (fun c53 => ?_)
      · rw [if_neg c53] at hf
        refine mm_iinc (j := 5) (L' := [(4, .int (x4 + 1)), (5, .int (mm_I σ q47 x4.toNatClampNeg)), (0, .ref a0), (1, .int x1), (2, .int x2), (3, .int x3)]) dX9_pageFor_63 rfl rfl (by decide) rfl ?_
        refine mm_goto (tgt := 3) dX9_pageFor_66 (by decide) ?_
        refine mm_sub [2, 3, 4, 5, 0] rfl ?_
        exact ih a0 x1 x2 x3 (x4 + 1) σ hf
      · rw [if_pos c53] at hf
        refine mm_aload_n (j := 1) dX9_pageFor_32 rfl rfl ?_
        refine mm_get (c := 9) (k := 18) (v := va_rf (mm_R σ a0 18)) cd_ok ⟨_, _, _, rfl, by decide, Or.inl tw_812⟩ hs1 rfl dX9_pageFor_33 ?_
        refine mm_iload (j := 0) dX9_pageFor_36 rfl ?_
        obtain ⟨q54, hq54, hf⟩ := mm_on_s hf
        rw [hq54, mm_rf_some]
        obtain ⟨n55, hn55, hf⟩ := mm_ar_s hf
        obtain ⟨hi56, hf⟩ := mm_ib_s hf
        refine mm_iald hn55 rfl hi56 dX9_pageFor_38 ?_
        refine mm_iload_n (j := 3) dX9_pageFor_39 rfl rfl ?_
        refine mm_icmp_ne (tgt := 63) dX9_pageFor_40 (by decide) (fun c57 => ?_) (fun c57 => ?_)
        · rw [if_neg c57] at hf
          refine mm_iinc (j := 5) (L' := [(4, .int (x4 + 1)), (5, .int (mm_I σ q47 x4.toNatClampNeg)), (0, .ref a0), (1, .int x1), (2, .int x2), (3, .int x3)]) dX9_pageFor_63 rfl rfl (by decide) rfl ?_
          refine mm_goto (tgt := 3) dX9_pageFor_66 (by decide) ?_
          refine mm_sub [2, 3, 4, 5, 0] rfl ?_
          exact ih a0 x1 x2 x3 (x4 + 1) σ hf
        · rw [if_pos c57] at hf
          refine mm_aload_n (j := 1) dX9_pageFor_43 rfl rfl ?_
          refine mm_get (c := 9) (k := 19) (v := va_rf (mm_R σ a0 19)) cd_ok ⟨_, _, _, rfl, by decide, Or.inl tw_813⟩ hs1 rfl dX9_pageFor_44 ?_
          refine mm_iload (j := 0) dX9_pageFor_47 rfl ?_
          obtain ⟨q58, hq58, hf⟩ := mm_on_s hf
          rw [hq58, mm_rf_some]
          obtain ⟨n59, hn59, hf⟩ := mm_ar_s hf
          obtain ⟨hi60, hf⟩ := mm_ib_s hf
          refine mm_iald hn59 rfl hi60 dX9_pageFor_49 ?_
          refine mm_iload_n (j := 4) dX9_pageFor_50 rfl rfl ?_
          refine mm_icmp_ne (tgt := 63) dX9_pageFor_51 (by decide) (fun c61 => ?_) (fun c61 => ?_)
          · rw [if_neg c61] at hf
            refine mm_iinc (j := 5) (L' := [(4, .int (x4 + 1)), (5, .int (mm_I σ q47 x4.toNatClampNeg)), (0, .ref a0), (1, .int x1), (2, .int x2), (3, .int x3)]) dX9_pageFor_63 rfl rfl (by decide) rfl ?_
            refine mm_goto (tgt := 3) dX9_pageFor_66 (by decide) ?_
            refine mm_sub [2, 3, 4, 5, 0] rfl ?_
            exact ih a0 x1 x2 x3 (x4 + 1) σ hf
          · rw [if_pos c61] at hf
            refine mm_aload_n (j := 1) dX9_pageFor_54 rfl rfl ?_
            refine mm_iload (j := 5) dX9_pageFor_55 rfl ?_
            obtain ⟨q62, hq62, hf⟩ := mm_on_s hf
            refine mm_callVv cd_ok (kX9_takeOut a0 x4 hq62) hs1 rfl (Or.inl tw_1057) cdX9_takeOut tw_1059 ts_48 nmX9_takeOut rfl rfl (by simp only [List.map_cons, List.map_nil, mm_rf_cat]; exact Nat.le_of_ble_eq_true rfl) dX9_pageFor_57 ⟨Nat.le_of_ble_eq_true rfl, Nat.le_of_ble_eq_true rfl⟩ ⟨Nat.le_of_ble_eq_true rfl, Nat.le_of_ble_eq_true rfl⟩ ?_
            refine mm_iload (j := 0) dX9_pageFor_60 rfl ?_
            cases hf
            exact mm_iret rfl rfl dX9_pageFor_62 ⟨rfl, rfl⟩
set_option maxHeartbeats 4000000 in
set_option maxRecDepth 100000 in
theorem kX9_pageFor {G : mm_G} {A : Nat → Prop} (p0 : Nat) (p1 : Int32) (p2 : Int32) (p3 : Int32) {σ : mm_M} {R : (Int32 × mm_M)} (hf : fX9_pageFor p0 p1 p2 p3 σ = some R) : mm_C cd_Y G yX9_pageFor cX9_pageFor 6 (some .int) rmX9_pageFor A [.ref p0, .int p1, .int p2, .int p3] σ (mm_Pi R.1 R.2) := by
  refine mm_C.of (by decide) (Nat.le_of_ble_eq_true rfl) ?_
  unfold fX9_pageFor at hf
  have e0 : lv_args 0 [.ref p0, .int p1, .int p2, .int p3] = [(0, .ref p0), (1, .int p1), (2, .int p2), (3, .int p3)] := rfl
  rw [e0]
  generalize hini : (yX9_pageFor.name == "<init>") = ini
  clear e0
  clear hini
  refine mm_iconst (v := 0) dX9_pageFor_0 (by decide) ?_
  refine mm_istore (L' := [(4, .int 0), (0, .ref p0), (1, .int p1), (2, .int p2), (3, .int p3)]) dX9_pageFor_1 (by decide) rfl ?_
  refine mm_sub [1, 2, 3, 4, 0] rfl ?_
  exact kX9_pageFor_3  p0 p1 p2 p3 0 σ hf
theorem dX9_subcodeOf_0 : decode cX9_subcodeOf 0 = .ok (.iload_n 0, 1) := by decide +kernel
theorem dX9_subcodeOf_1 : decode cX9_subcodeOf 1 = .ok (.bipush 16, 2) := by decide +kernel
theorem dX9_subcodeOf_3 : decode cX9_subcodeOf 3 = .ok (.iload_n 1, 1) := by decide +kernel
theorem dX9_subcodeOf_4 : decode cX9_subcodeOf 4 = .ok (.bipush 8, 2) := by decide +kernel
theorem dX9_subcodeOf_6 : decode cX9_subcodeOf 6 = .ok (.irem, 1) := by decide +kernel
theorem dX9_subcodeOf_7 : decode cX9_subcodeOf 7 = .ok (.imul, 1) := by decide +kernel
theorem dX9_subcodeOf_8 : decode cX9_subcodeOf 8 = .ok (.iadd, 1) := by decide +kernel
theorem dX9_subcodeOf_9 : decode cX9_subcodeOf 9 = .ok (.sipush 128, 3) := by decide +kernel
theorem dX9_subcodeOf_12 : decode cX9_subcodeOf 12 = .ok (.iload_n 2, 1) := by decide +kernel
theorem dX9_subcodeOf_13 : decode cX9_subcodeOf 13 = .ok (.imul, 1) := by decide +kernel
theorem dX9_subcodeOf_14 : decode cX9_subcodeOf 14 = .ok (.iadd, 1) := by decide +kernel
theorem dX9_subcodeOf_15 : decode cX9_subcodeOf 15 = .ok (.sipush 2048, 3) := by decide +kernel
theorem dX9_subcodeOf_18 : decode cX9_subcodeOf 18 = .ok (.iload_n 3, 1) := by decide +kernel
theorem dX9_subcodeOf_19 : decode cX9_subcodeOf 19 = .ok (.iconst 4, 1) := by decide +kernel
theorem dX9_subcodeOf_20 : decode cX9_subcodeOf 20 = .ok (.irem, 1) := by decide +kernel
theorem dX9_subcodeOf_21 : decode cX9_subcodeOf 21 = .ok (.imul, 1) := by decide +kernel
theorem dX9_subcodeOf_22 : decode cX9_subcodeOf 22 = .ok (.iadd, 1) := by decide +kernel
theorem dX9_subcodeOf_23 : decode cX9_subcodeOf 23 = .ok (.ireturn, 1) := by decide +kernel
theorem nmX9_subcodeOf : mm_nm yX9_subcodeOf 4 := ⟨by decide, by decide, by decide +kernel⟩
theorem cdX9_subcodeOf : mm_cd cd_Y yX9_subcodeOf cX9_subcodeOf 4 (some .int) := ⟨tw_1052, tw_8⟩
abbrev rmX9_subcodeOf : Room := { frames := 0, cells := 0, slots := 0, locals := 0 }
def fX9_subcodeOf (p0 : Int32) (p1 : Int32) (p2 : Int32) (p3 : Int32) : Int32 :=
  ((p0 + (16 * (p1 - p1 / 8 * 8))) + (128 * p2)) + (2048 * (p3 - p3 / 4 * 4))
set_option maxHeartbeats 4000000 in
set_option maxRecDepth 100000 in
theorem kX9_subcodeOf {G : mm_G} {A : Nat → Prop} (p0 : Int32) (p1 : Int32) (p2 : Int32) (p3 : Int32) (σ0 : mm_M) {R : Int32} (hf : fX9_subcodeOf p0 p1 p2 p3 = R) : mm_C cd_Y G yX9_subcodeOf cX9_subcodeOf 4 (some .int) rmX9_subcodeOf A [.int p0, .int p1, .int p2, .int p3] σ0 (mm_Pi R σ0) := by
  refine mm_C.of (by decide) (Nat.le_of_ble_eq_true rfl) ?_
  unfold fX9_subcodeOf at hf
  have e0 : lv_args 0 [.int p0, .int p1, .int p2, .int p3] = [(0, .int p0), (1, .int p1), (2, .int p2), (3, .int p3)] := rfl
  rw [e0]
  generalize hini : (yX9_subcodeOf.name == "<init>") = ini
  clear e0
  clear hini
  refine mm_iload_n (j := 0) dX9_subcodeOf_0 rfl rfl ?_
  refine mm_bipush (v := 16) dX9_subcodeOf_1 (by decide) ?_
  refine mm_iload_n (j := 1) dX9_subcodeOf_3 rfl rfl ?_
  refine mm_bipush (v := 8) dX9_subcodeOf_4 (by decide) ?_
  refine mm_irem dX9_subcodeOf_6 (by decide) ?_
  refine mm_imul dX9_subcodeOf_7 ?_
  refine mm_iadd dX9_subcodeOf_8 ?_
  refine mm_sipush (v := 128) dX9_subcodeOf_9 (by decide) ?_
  refine mm_iload_n (j := 2) dX9_subcodeOf_12 rfl rfl ?_
  refine mm_imul dX9_subcodeOf_13 ?_
  refine mm_iadd dX9_subcodeOf_14 ?_
  refine mm_sipush (v := 2048) dX9_subcodeOf_15 (by decide) ?_
  refine mm_iload_n (j := 3) dX9_subcodeOf_18 rfl rfl ?_
  refine mm_iconst (v := 4) dX9_subcodeOf_19 (by decide) ?_
  refine mm_irem dX9_subcodeOf_20 (by decide) ?_
  refine mm_imul dX9_subcodeOf_21 ?_
  refine mm_iadd dX9_subcodeOf_22 ?_
  subst hf
  exact mm_iret rfl rfl dX9_subcodeOf_23 ⟨rfl, rfl⟩
theorem dX9_header_0 : decode cX9_header 0 = .ok (.iconst 2, 1) := by decide +kernel
theorem dX9_header_1 : decode cX9_header 1 = .ok (.istore_n 2, 1) := by decide +kernel
theorem dX9_header_2 : decode cX9_header 2 = .ok (.iload_n 2, 1) := by decide +kernel
theorem dX9_header_3 : decode cX9_header 3 = .ok (.bipush 10, 2) := by decide +kernel
theorem dX9_header_5 : decode cX9_header 5 = .ok (.if_icmp .ge 29, 3) := by decide +kernel
theorem dX9_header_8 : decode cX9_header 8 = .ok (.aload_n 0, 1) := by decide +kernel
theorem dX9_header_9 : decode cX9_header 9 = .ok (.iload_n 2, 1) := by decide +kernel
theorem dX9_header_10 : decode cX9_header 10 = .ok (.invokevirtual 215, 3) := by decide +kernel
theorem dX9_header_13 : decode cX9_header 13 = .ok (.iconst (-1), 1) := by decide +kernel
theorem dX9_header_14 : decode cX9_header 14 = .ok (.if_icmp .ne 14, 3) := by decide +kernel
theorem dX9_header_17 : decode cX9_header 17 = .ok (.aload_n 0, 1) := by decide +kernel
theorem dX9_header_18 : decode cX9_header 18 = .ok (.getfield 44, 3) := by decide +kernel
theorem dX9_header_21 : decode cX9_header 21 = .ok (.iconst 1, 1) := by decide +kernel
theorem dX9_header_22 : decode cX9_header 22 = .ok (.dup2, 1) := by decide +kernel
theorem dX9_header_23 : decode cX9_header 23 = .ok (.iaload, 1) := by decide +kernel
theorem dX9_header_24 : decode cX9_header 24 = .ok (.iconst 1, 1) := by decide +kernel
theorem dX9_header_25 : decode cX9_header 25 = .ok (.iadd, 1) := by decide +kernel
theorem dX9_header_26 : decode cX9_header 26 = .ok (.iastore, 1) := by decide +kernel
theorem dX9_header_27 : decode cX9_header 27 = .ok (.return_, 1) := by decide +kernel
theorem dX9_header_28 : decode cX9_header 28 = .ok (.iinc 2 1, 3) := by decide +kernel
theorem dX9_header_31 : decode cX9_header 31 = .ok (.goto (-29), 3) := by decide +kernel
theorem dX9_header_34 : decode cX9_header 34 = .ok (.aload_n 0, 1) := by decide +kernel
theorem dX9_header_35 : decode cX9_header 35 = .ok (.iconst 5, 1) := by decide +kernel
theorem dX9_header_36 : decode cX9_header 36 = .ok (.invokevirtual 215, 3) := by decide +kernel
theorem dX9_header_39 : decode cX9_header 39 = .ok (.istore_n 2, 1) := by decide +kernel
theorem dX9_header_40 : decode cX9_header 40 = .ok (.aload_n 0, 1) := by decide +kernel
theorem dX9_header_41 : decode cX9_header 41 = .ok (.bipush 7, 2) := by decide +kernel
theorem dX9_header_43 : decode cX9_header 43 = .ok (.invokevirtual 215, 3) := by decide +kernel
theorem dX9_header_46 : decode cX9_header 46 = .ok (.istore_n 3, 1) := by decide +kernel
theorem dX9_header_47 : decode cX9_header 47 = .ok (.aload_n 0, 1) := by decide +kernel
theorem dX9_header_48 : decode cX9_header 48 = .ok (.bipush 9, 2) := by decide +kernel
theorem dX9_header_50 : decode cX9_header 50 = .ok (.invokevirtual 215, 3) := by decide +kernel
theorem dX9_header_53 : decode cX9_header 53 = .ok (.iconst 2, 1) := by decide +kernel
theorem dX9_header_54 : decode cX9_header 54 = .ok (.irem, 1) := by decide +kernel
theorem dX9_header_55 : decode cX9_header 55 = .ok (.iconst 1, 1) := by decide +kernel
theorem dX9_header_56 : decode cX9_header 56 = .ok (.if_icmp .ne 7, 3) := by decide +kernel
theorem dX9_header_59 : decode cX9_header 59 = .ok (.iconst 1, 1) := by decide +kernel
theorem dX9_header_60 : decode cX9_header 60 = .ok (.goto 4, 3) := by decide +kernel
theorem dX9_header_63 : decode cX9_header 63 = .ok (.iconst 0, 1) := by decide +kernel
theorem dX9_header_64 : decode cX9_header 64 = .ok (.istore 4, 2) := by decide +kernel
theorem dX9_header_66 : decode cX9_header 66 = .ok (.iconst 1, 1) := by decide +kernel
theorem dX9_header_67 : decode cX9_header 67 = .ok (.istore 5, 2) := by decide +kernel
theorem dX9_header_69 : decode cX9_header 69 = .ok (.iload 5, 2) := by decide +kernel
theorem dX9_header_71 : decode cX9_header 71 = .ok (.bipush 9, 2) := by decide +kernel
theorem dX9_header_73 : decode cX9_header 73 = .ok (.if_icmp .ge 26, 3) := by decide +kernel
theorem dX9_header_76 : decode cX9_header 76 = .ok (.iload 4, 2) := by decide +kernel
theorem dX9_header_78 : decode cX9_header 78 = .ok (.ifCond .ne 9, 3) := by decide +kernel
theorem dX9_header_81 : decode cX9_header 81 = .ok (.iload 5, 2) := by decide +kernel
theorem dX9_header_83 : decode cX9_header 83 = .ok (.iload_n 1, 1) := by decide +kernel
theorem dX9_header_84 : decode cX9_header 84 = .ok (.if_icmp .ne 9, 3) := by decide +kernel
theorem dX9_header_87 : decode cX9_header 87 = .ok (.aload_n 0, 1) := by decide +kernel
theorem dX9_header_88 : decode cX9_header 88 = .ok (.iload 5, 2) := by decide +kernel
theorem dX9_header_90 : decode cX9_header 90 = .ok (.invokevirtual 218, 3) := by decide +kernel
theorem dX9_header_93 : decode cX9_header 93 = .ok (.iinc 5 1, 3) := by decide +kernel
theorem dX9_header_96 : decode cX9_header 96 = .ok (.goto (-27), 3) := by decide +kernel
theorem dX9_header_99 : decode cX9_header 99 = .ok (.bipush 16, 2) := by decide +kernel
theorem dX9_header_101 : decode cX9_header 101 = .ok (.aload_n 0, 1) := by decide +kernel
theorem dX9_header_102 : decode cX9_header 102 = .ok (.iconst 3, 1) := by decide +kernel
theorem dX9_header_103 : decode cX9_header 103 = .ok (.invokevirtual 215, 3) := by decide +kernel
theorem dX9_header_106 : decode cX9_header 106 = .ok (.imul, 1) := by decide +kernel
theorem dX9_header_107 : decode cX9_header 107 = .ok (.aload_n 0, 1) := by decide +kernel
theorem dX9_header_108 : decode cX9_header 108 = .ok (.iconst 2, 1) := by decide +kernel
theorem dX9_header_109 : decode cX9_header 109 = .ok (.invokevirtual 215, 3) := by decide +kernel
theorem dX9_header_112 : decode cX9_header 112 = .ok (.iadd, 1) := by decide +kernel
theorem dX9_header_113 : decode cX9_header 113 = .ok (.istore 5, 2) := by decide +kernel
theorem dX9_header_115 : decode cX9_header 115 = .ok (.iload 5, 2) := by decide +kernel
theorem dX9_header_117 : decode cX9_header 117 = .ok (.sipush 255, 3) := by decide +kernel
theorem dX9_header_120 : decode cX9_header 120 = .ok (.if_icmp .ne 4, 3) := by decide +kernel
theorem dX9_header_123 : decode cX9_header 123 = .ok (.return_, 1) := by decide +kernel
theorem dX9_header_124 : decode cX9_header 124 = .ok (.aload_n 0, 1) := by decide +kernel
theorem dX9_header_125 : decode cX9_header 125 = .ok (.iload_n 1, 1) := by decide +kernel
theorem dX9_header_126 : decode cX9_header 126 = .ok (.iload 5, 2) := by decide +kernel
theorem dX9_header_128 : decode cX9_header 128 = .ok (.aload_n 0, 1) := by decide +kernel
theorem dX9_header_129 : decode cX9_header 129 = .ok (.iconst 4, 1) := by decide +kernel
theorem dX9_header_130 : decode cX9_header 130 = .ok (.invokevirtual 215, 3) := by decide +kernel
theorem dX9_header_133 : decode cX9_header 133 = .ok (.iload_n 2, 1) := by decide +kernel
theorem dX9_header_134 : decode cX9_header 134 = .ok (.aload_n 0, 1) := by decide +kernel
theorem dX9_header_135 : decode cX9_header 135 = .ok (.bipush 6, 2) := by decide +kernel
theorem dX9_header_137 : decode cX9_header 137 = .ok (.invokevirtual 215, 3) := by decide +kernel
theorem dX9_header_140 : decode cX9_header 140 = .ok (.iload_n 3, 1) := by decide +kernel
theorem dX9_header_141 : decode cX9_header 141 = .ok (.invokestatic 221, 3) := by decide +kernel
theorem dX9_header_144 : decode cX9_header 144 = .ok (.invokevirtual 224, 3) := by decide +kernel
theorem dX9_header_147 : decode cX9_header 147 = .ok (.istore 6, 2) := by decide +kernel
theorem dX9_header_149 : decode cX9_header 149 = .ok (.aload_n 0, 1) := by decide +kernel
theorem dX9_header_150 : decode cX9_header 150 = .ok (.getfield 47, 3) := by decide +kernel
theorem dX9_header_153 : decode cX9_header 153 = .ok (.aload_n 0, 1) := by decide +kernel
theorem dX9_header_154 : decode cX9_header 154 = .ok (.getfield 206, 3) := by decide +kernel
theorem dX9_header_157 : decode cX9_header 157 = .ok (.iload 6, 2) := by decide +kernel
theorem dX9_header_159 : decode cX9_header 159 = .ok (.iastore, 1) := by decide +kernel
theorem dX9_header_160 : decode cX9_header 160 = .ok (.aload_n 0, 1) := by decide +kernel
theorem dX9_header_161 : decode cX9_header 161 = .ok (.dup, 1) := by decide +kernel
theorem dX9_header_162 : decode cX9_header 162 = .ok (.getfield 206, 3) := by decide +kernel
theorem dX9_header_165 : decode cX9_header 165 = .ok (.iconst 1, 1) := by decide +kernel
theorem dX9_header_166 : decode cX9_header 166 = .ok (.iadd, 1) := by decide +kernel
theorem dX9_header_167 : decode cX9_header 167 = .ok (.putfield 206, 3) := by decide +kernel
theorem dX9_header_170 : decode cX9_header 170 = .ok (.aload_n 0, 1) := by decide +kernel
theorem dX9_header_171 : decode cX9_header 171 = .ok (.getfield 84, 3) := by decide +kernel
theorem dX9_header_174 : decode cX9_header 174 = .ok (.iload_n 1, 1) := by decide +kernel
theorem dX9_header_175 : decode cX9_header 175 = .ok (.iload 6, 2) := by decide +kernel
theorem dX9_header_177 : decode cX9_header 177 = .ok (.iastore, 1) := by decide +kernel
theorem dX9_header_178 : decode cX9_header 178 = .ok (.aload_n 0, 1) := by decide +kernel
theorem dX9_header_179 : decode cX9_header 179 = .ok (.getfield 69, 3) := by decide +kernel
theorem dX9_header_182 : decode cX9_header 182 = .ok (.iload 6, 2) := by decide +kernel
theorem dX9_header_184 : decode cX9_header 184 = .ok (.dup2, 1) := by decide +kernel
theorem dX9_header_185 : decode cX9_header 185 = .ok (.iaload, 1) := by decide +kernel
theorem dX9_header_186 : decode cX9_header 186 = .ok (.iconst 1, 1) := by decide +kernel
theorem dX9_header_187 : decode cX9_header 187 = .ok (.iadd, 1) := by decide +kernel
theorem dX9_header_188 : decode cX9_header 188 = .ok (.iastore, 1) := by decide +kernel
theorem dX9_header_189 : decode cX9_header 189 = .ok (.aload_n 0, 1) := by decide +kernel
theorem dX9_header_190 : decode cX9_header 190 = .ok (.getfield 63, 3) := by decide +kernel
theorem dX9_header_193 : decode cX9_header 193 = .ok (.iload 6, 2) := by decide +kernel
theorem dX9_header_195 : decode cX9_header 195 = .ok (.iload_n 2, 1) := by decide +kernel
theorem dX9_header_196 : decode cX9_header 196 = .ok (.bipush 8, 2) := by decide +kernel
theorem dX9_header_198 : decode cX9_header 198 = .ok (.if_icmp .lt 7, 3) := by decide +kernel
theorem dX9_header_201 : decode cX9_header 201 = .ok (.iconst 1, 1) := by decide +kernel
theorem dX9_header_202 : decode cX9_header 202 = .ok (.goto 4, 3) := by decide +kernel
theorem dX9_header_205 : decode cX9_header 205 = .ok (.iconst 0, 1) := by decide +kernel
theorem dX9_header_206 : decode cX9_header 206 = .ok (.iload_n 3, 1) := by decide +kernel
theorem dX9_header_207 : decode cX9_header 207 = .ok (.iconst 4, 1) := by decide +kernel
theorem dX9_header_208 : decode cX9_header 208 = .ok (.idiv, 1) := by decide +kernel
theorem dX9_header_209 : decode cX9_header 209 = .ok (.iconst 2, 1) := by decide +kernel
theorem dX9_header_210 : decode cX9_header 210 = .ok (.irem, 1) := by decide +kernel
theorem dX9_header_211 : decode cX9_header 211 = .ok (.iconst 1, 1) := by decide +kernel
theorem dX9_header_212 : decode cX9_header 212 = .ok (.if_icmp .ne 7, 3) := by decide +kernel
theorem dX9_header_215 : decode cX9_header 215 = .ok (.iconst 2, 1) := by decide +kernel
theorem dX9_header_216 : decode cX9_header 216 = .ok (.goto 4, 3) := by decide +kernel
theorem dX9_header_219 : decode cX9_header 219 = .ok (.iconst 0, 1) := by decide +kernel
theorem dX9_header_220 : decode cX9_header 220 = .ok (.iadd, 1) := by decide +kernel
theorem dX9_header_221 : decode cX9_header 221 = .ok (.iload_n 3, 1) := by decide +kernel
theorem dX9_header_222 : decode cX9_header 222 = .ok (.bipush 8, 2) := by decide +kernel
theorem dX9_header_224 : decode cX9_header 224 = .ok (.if_icmp .lt 7, 3) := by decide +kernel
theorem dX9_header_227 : decode cX9_header 227 = .ok (.iconst 4, 1) := by decide +kernel
theorem dX9_header_228 : decode cX9_header 228 = .ok (.goto 4, 3) := by decide +kernel
theorem dX9_header_231 : decode cX9_header 231 = .ok (.iconst 0, 1) := by decide +kernel
theorem dX9_header_232 : decode cX9_header 232 = .ok (.iadd, 1) := by decide +kernel
theorem dX9_header_233 : decode cX9_header 233 = .ok (.iload 4, 2) := by decide +kernel
theorem dX9_header_235 : decode cX9_header 235 = .ok (.ifCond .eq 8, 3) := by decide +kernel
theorem dX9_header_238 : decode cX9_header 238 = .ok (.bipush 8, 2) := by decide +kernel
theorem dX9_header_240 : decode cX9_header 240 = .ok (.goto 4, 3) := by decide +kernel
theorem dX9_header_243 : decode cX9_header 243 = .ok (.iconst 0, 1) := by decide +kernel
theorem dX9_header_244 : decode cX9_header 244 = .ok (.iadd, 1) := by decide +kernel
theorem dX9_header_245 : decode cX9_header 245 = .ok (.iastore, 1) := by decide +kernel
theorem dX9_header_246 : decode cX9_header 246 = .ok (.iload_n 2, 1) := by decide +kernel
theorem dX9_header_247 : decode cX9_header 247 = .ok (.bipush 8, 2) := by decide +kernel
theorem dX9_header_249 : decode cX9_header 249 = .ok (.if_icmp .lt 10, 3) := by decide +kernel
theorem dX9_header_252 : decode cX9_header 252 = .ok (.aload_n 0, 1) := by decide +kernel
theorem dX9_header_253 : decode cX9_header 253 = .ok (.iload 6, 2) := by decide +kernel
theorem dX9_header_255 : decode cX9_header 255 = .ok (.iconst 1, 1) := by decide +kernel
theorem dX9_header_256 : decode cX9_header 256 = .ok (.invokevirtual 212, 3) := by decide +kernel
theorem dX9_header_259 : decode cX9_header 259 = .ok (.aload_n 0, 1) := by decide +kernel
theorem dX9_header_260 : decode cX9_header 260 = .ok (.iload 6, 2) := by decide +kernel
theorem dX9_header_262 : decode cX9_header 262 = .ok (.iconst 0, 1) := by decide +kernel
theorem dX9_header_263 : decode cX9_header 263 = .ok (.bipush 10, 2) := by decide +kernel
theorem dX9_header_265 : decode cX9_header 265 = .ok (.bipush 8, 2) := by decide +kernel
theorem dX9_header_267 : decode cX9_header 267 = .ok (.bipush 32, 2) := by decide +kernel
theorem dX9_header_269 : decode cX9_header 269 = .ok (.invokevirtual 228, 3) := by decide +kernel
theorem dX9_header_272 : decode cX9_header 272 = .ok (.iconst 0, 1) := by decide +kernel
theorem dX9_header_273 : decode cX9_header 273 = .ok (.istore 7, 2) := by decide +kernel
theorem dX9_header_275 : decode cX9_header 275 = .ok (.iload 7, 2) := by decide +kernel
theorem dX9_header_277 : decode cX9_header 277 = .ok (.bipush 8, 2) := by decide +kernel
theorem dX9_header_279 : decode cX9_header 279 = .ok (.if_icmp .ge 25, 3) := by decide +kernel
theorem dX9_header_282 : decode cX9_header 282 = .ok (.aload_n 0, 1) := by decide +kernel
theorem dX9_header_283 : decode cX9_header 283 = .ok (.getfield 72, 3) := by decide +kernel
theorem dX9_header_286 : decode cX9_header 286 = .ok (.sipush 1000, 3) := by decide +kernel
theorem dX9_header_289 : decode cX9_header 289 = .ok (.iload 6, 2) := by decide +kernel
theorem dX9_header_291 : decode cX9_header 291 = .ok (.imul, 1) := by decide +kernel
theorem dX9_header_292 : decode cX9_header 292 = .ok (.iload 7, 2) := by decide +kernel
theorem dX9_header_294 : decode cX9_header 294 = .ok (.iadd, 1) := by decide +kernel
theorem dX9_header_295 : decode cX9_header 295 = .ok (.bipush 32, 2) := by decide +kernel
theorem dX9_header_297 : decode cX9_header 297 = .ok (.bastore, 1) := by decide +kernel
theorem dX9_header_298 : decode cX9_header 298 = .ok (.iinc 7 1, 3) := by decide +kernel
theorem dX9_header_301 : decode cX9_header 301 = .ok (.goto (-26), 3) := by decide +kernel
theorem dX9_header_304 : decode cX9_header 304 = .ok (.return_, 1) := by decide +kernel
theorem nmX9_header : mm_nm yX9_header 1 := ⟨by decide, by decide, by decide +kernel⟩
theorem cdX9_header : mm_cd cd_Y yX9_header cX9_header 8 none := ⟨tw_1045, tw_8⟩
abbrev rmX9_header : Room := { frames := 4, cells := 0, slots := 0, locals := 89 }
def fX9_header_275  : Nat → Nat → Int32 → Int32 → Int32 → Int32 → Int32 → Int32 → Int32 → mm_M → Option mm_M
  | 0 => fun _ _ _ _ _ _ _ _ _ => none
  | n + 1 => fun a0 x1 x2 x3 x4 x5 x6 x7 σ =>
  (if 8 ≤ x7 then some (σ) else mm_sh σ a0 (.inl 9) (mm_on (mm_R σ a0 23) fun q44 => mm_ar σ q44 2 fun n45 => mm_ib ((1000 * x6) + x7) n45 ((fX9_header_275  n a0 x1 x2 x3 x4 x5 x6 (x7 + 1) (mm_wI σ q44 (((1000 * x6) + x7).toNatClampNeg) ((32 : Int32).toInt8.toInt32))))))
def fX9_header_259  (a0 : Nat) (x1 : Int32) (x2 : Int32) (x3 : Int32) (x4 : Int32) (x5 : Int32) (x6 : Int32) (σ : mm_M) : Option mm_M :=
  mm_sh σ a0 (.inl 9) (mm_on (fX9_text a0 x6 0 10 8 32 σ) fun q41 => (fX9_header_275  mm_fuel a0 x1 x2 x3 x4 x5 x6 0 q41))
def fX9_header_244  (a0 : Nat) (x1 : Int32) (x2 : Int32) (x3 : Int32) (x4 : Int32) (x5 : Int32) (x6 : Int32) (y0 : Int32) (y1 : Int32) (y2 : Int32) (y3 : Option Nat) (σ : mm_M) : Option mm_M :=
  mm_on (y3) fun q36 => mm_ar σ q36 0 fun n37 => mm_ib y2 n37 ((if x2 < 8 then (fX9_header_259  a0 x1 x2 x3 x4 x5 x6 (mm_wI σ q36 (y2.toNatClampNeg) (y1 + y0))) else mm_sh (mm_wI σ q36 (y2.toNatClampNeg) (y1 + y0)) a0 (.inl 9) (mm_on (fX9_emptyRows a0 x6 1 (mm_wI σ q36 (y2.toNatClampNeg) (y1 + y0))) fun q48 => (fX9_header_259  a0 x1 x2 x3 x4 x5 x6 q48))))
def fX9_header_232  (a0 : Nat) (x1 : Int32) (x2 : Int32) (x3 : Int32) (x4 : Int32) (x5 : Int32) (x6 : Int32) (y0 : Int32) (y1 : Int32) (y2 : Int32) (y3 : Option Nat) (σ : mm_M) : Option mm_M :=
  (if x4 = 0 then (fX9_header_244  a0 x1 x2 x3 x4 x5 x6 0 (y1 + y0) y2 y3 σ) else (fX9_header_244  a0 x1 x2 x3 x4 x5 x6 8 (y1 + y0) y2 y3 σ))
def fX9_header_220  (a0 : Nat) (x1 : Int32) (x2 : Int32) (x3 : Int32) (x4 : Int32) (x5 : Int32) (x6 : Int32) (y0 : Int32) (y1 : Int32) (y2 : Int32) (y3 : Option Nat) (σ : mm_M) : Option mm_M :=
  (if x3 < 8 then (fX9_header_232  a0 x1 x2 x3 x4 x5 x6 0 (y1 + y0) y2 y3 σ) else (fX9_header_232  a0 x1 x2 x3 x4 x5 x6 4 (y1 + y0) y2 y3 σ))
def fX9_header_206  (a0 : Nat) (x1 : Int32) (x2 : Int32) (x3 : Int32) (x4 : Int32) (x5 : Int32) (x6 : Int32) (y0 : Int32) (y1 : Int32) (y2 : Option Nat) (σ : mm_M) : Option mm_M :=
  (if ((x3 / 4) - (x3 / 4) / 2 * 2) = 1 then (fX9_header_220  a0 x1 x2 x3 x4 x5 x6 2 y0 y1 y2 σ) else (fX9_header_220  a0 x1 x2 x3 x4 x5 x6 0 y0 y1 y2 σ))
def fX9_header_87 (k69 : Nat → Int32 → Int32 → Int32 → Int32 → Int32 → mm_M → Option mm_M) (a0 : Nat) (x1 : Int32) (x2 : Int32) (x3 : Int32) (x4 : Int32) (x5 : Int32) (σ : mm_M) : Option mm_M :=
  mm_sh σ a0 (.inl 9) (mm_on (fX9_close a0 x5 σ) fun q51 => (k69 a0 x1 x2 x3 x4 (x5 + 1) q51))
def fX9_header_69  : Nat → Nat → Int32 → Int32 → Int32 → Int32 → Int32 → mm_M → Option mm_M
  | 0 => fun _ _ _ _ _ _ _ => none
  | n + 1 => fun a0 x1 x2 x3 x4 x5 σ =>
  (if 9 ≤ x5 then mm_sh σ a0 (.inl 9) (mm_on (fX9_value a0 3 σ) fun q11 => mm_sh q11.2 a0 (.inl 9) (mm_on (fX9_value a0 2 q11.2) fun q13 => (if ((16 * q11.1) + q13.1) = 255 then some (q13.2) else mm_sh q13.2 a0 (.inl 9) (mm_on (fX9_value a0 4 q13.2) fun q16 => mm_sh q16.2 a0 (.inl 9) (mm_on (fX9_value a0 6 q16.2) fun q18 => mm_sh q18.2 a0 (.inl 9) (mm_on (fX9_pageFor a0 x1 ((16 * q11.1) + q13.1) (fX9_subcodeOf q16.1 x2 q18.1 x3) q18.2) fun q20 => mm_sh q20.2 a0 (.inl 9) (mm_on (mm_R q20.2 a0 15) fun q22 => mm_ar q20.2 q22 0 fun n23 => mm_ib (mm_I q20.2 a0 14) n23 (mm_on (mm_R (mm_wI (mm_wI q20.2 q22 ((mm_I q20.2 a0 14).toNatClampNeg) q20.1) a0 14 ((mm_I (mm_wI q20.2 q22 ((mm_I q20.2 a0 14).toNatClampNeg) q20.1) a0 14) + 1)) a0 27) fun q25 => mm_ar (mm_wI (mm_wI q20.2 q22 ((mm_I q20.2 a0 14).toNatClampNeg) q20.1) a0 14 ((mm_I (mm_wI q20.2 q22 ((mm_I q20.2 a0 14).toNatClampNeg) q20.1) a0 14) + 1)) q25 0 fun n26 => mm_ib x1 n26 (mm_on (mm_R (mm_wI (mm_wI (mm_wI q20.2 q22 ((mm_I q20.2 a0 14).toNatClampNeg) q20.1) a0 14 ((mm_I (mm_wI q20.2 q22 ((mm_I q20.2 a0 14).toNatClampNeg) q20.1) a0 14) + 1)) q25 (x1.toNatClampNeg) q20.1) a0 22) fun q28 => mm_ar (mm_wI (mm_wI (mm_wI q20.2 q22 ((mm_I q20.2 a0 14).toNatClampNeg) q20.1) a0 14 ((mm_I (mm_wI q20.2 q22 ((mm_I q20.2 a0 14).toNatClampNeg) q20.1) a0 14) + 1)) q25 (x1.toNatClampNeg) q20.1) q28 0 fun n29 => mm_ib q20.1 n29 (mm_ib q20.1 n29 ((if x2 < 8 then (fX9_header_206  a0 x1 x2 x3 x4 ((16 * q11.1) + q13.1) q20.1 0 q20.1 (mm_R (mm_wI (mm_wI (mm_wI (mm_wI q20.2 q22 ((mm_I q20.2 a0 14).toNatClampNeg) q20.1) a0 14 ((mm_I (mm_wI q20.2 q22 ((mm_I q20.2 a0 14).toNatClampNeg) q20.1) a0 14) + 1)) q25 (x1.toNatClampNeg) q20.1) q28 (q20.1.toNatClampNeg) ((mm_I (mm_wI (mm_wI (mm_wI q20.2 q22 ((mm_I q20.2 a0 14).toNatClampNeg) q20.1) a0 14 ((mm_I (mm_wI q20.2 q22 ((mm_I q20.2 a0 14).toNatClampNeg) q20.1) a0 14) + 1)) q25 (x1.toNatClampNeg) q20.1) q28 q20.1.toNatClampNeg) + 1)) a0 20) (mm_wI (mm_wI (mm_wI (mm_wI q20.2 q22 ((mm_I q20.2 a0 14).toNatClampNeg) q20.1) a0 14 ((mm_I (mm_wI q20.2 q22 ((mm_I q20.2 a0 14).toNatClampNeg) q20.1) a0 14) + 1)) q25 (x1.toNatClampNeg) q20.1) q28 (q20.1.toNatClampNeg) ((mm_I (mm_wI (mm_wI (mm_wI q20.2 q22 ((mm_I q20.2 a0 14).toNatClampNeg) q20.1) a0 14 ((mm_I (mm_wI q20.2 q22 ((mm_I q20.2 a0 14).toNatClampNeg) q20.1) a0 14) + 1)) q25 (x1.toNatClampNeg) q20.1) q28 q20.1.toNatClampNeg) + 1))) else (fX9_header_206  a0 x1 x2 x3 x4 ((16 * q11.1) + q13.1) q20.1 1 q20.1 (mm_R (mm_wI (mm_wI (mm_wI (mm_wI q20.2 q22 ((mm_I q20.2 a0 14).toNatClampNeg) q20.1) a0 14 ((mm_I (mm_wI q20.2 q22 ((mm_I q20.2 a0 14).toNatClampNeg) q20.1) a0 14) + 1)) q25 (x1.toNatClampNeg) q20.1) q28 (q20.1.toNatClampNeg) ((mm_I (mm_wI (mm_wI (mm_wI q20.2 q22 ((mm_I q20.2 a0 14).toNatClampNeg) q20.1) a0 14 ((mm_I (mm_wI q20.2 q22 ((mm_I q20.2 a0 14).toNatClampNeg) q20.1) a0 14) + 1)) q25 (x1.toNatClampNeg) q20.1) q28 q20.1.toNatClampNeg) + 1)) a0 20) (mm_wI (mm_wI (mm_wI (mm_wI q20.2 q22 ((mm_I q20.2 a0 14).toNatClampNeg) q20.1) a0 14 ((mm_I (mm_wI q20.2 q22 ((mm_I q20.2 a0 14).toNatClampNeg) q20.1) a0 14) + 1)) q25 (x1.toNatClampNeg) q20.1) q28 (q20.1.toNatClampNeg) ((mm_I (mm_wI (mm_wI (mm_wI q20.2 q22 ((mm_I q20.2 a0 14).toNatClampNeg) q20.1) a0 14 ((mm_I (mm_wI q20.2 q22 ((mm_I q20.2 a0 14).toNatClampNeg) q20.1) a0 14) + 1)) q25 (x1.toNatClampNeg) q20.1) q28 q20.1.toNatClampNeg) + 1))))))))))))))) else (if x4 = 0 then (if x5 = x1 then (fX9_header_87 (fX9_header_69  n) a0 x1 x2 x3 x4 x5 σ) else (fX9_header_69  n a0 x1 x2 x3 x4 (x5 + 1) σ)) else (fX9_header_87 (fX9_header_69  n) a0 x1 x2 x3 x4 x5 σ)))
def fX9_header_2  : Nat → Nat → Int32 → Int32 → mm_M → Option mm_M
  | 0 => fun _ _ _ _ => none
  | n + 1 => fun a0 x1 x2 σ =>
  (if 10 ≤ x2 then mm_sh σ a0 (.inl 9) (mm_on (fX9_value a0 5 σ) fun q3 => mm_sh q3.2 a0 (.inl 9) (mm_on (fX9_value a0 7 q3.2) fun q5 => mm_sh q5.2 a0 (.inl 9) (mm_on (fX9_value a0 9 q5.2) fun q7 => (if (q7.1 - q7.1 / 2 * 2) = 1 then (fX9_header_69  mm_fuel a0 x1 q3.1 q5.1 1 1 q7.2) else (fX9_header_69  mm_fuel a0 x1 q3.1 q5.1 0 1 q7.2))))) else mm_sh σ a0 (.inl 9) (mm_on (fX9_value a0 x2 σ) fun q54 => (if q54.1 = (-1) then mm_sh q54.2 a0 (.inl 9) (mm_on (mm_R q54.2 a0 13) fun q57 => mm_ar q54.2 q57 0 fun n58 => mm_ib 1 n58 (mm_ib 1 n58 (some (mm_wI q54.2 q57 ((1 : Int32).toNatClampNeg) ((mm_I q54.2 q57 (1 : Int32).toNatClampNeg) + 1))))) else (fX9_header_2  n a0 x1 (x2 + 1) q54.2))))
def fX9_header (p0 : Nat) (p1 : Int32) (σ : mm_M) : Option mm_M :=
  (fX9_header_2  mm_fuel p0 p1 2 σ)
set_option maxHeartbeats 4000000 in
set_option maxRecDepth 100000 in
theorem kX9_header_275 {G : mm_G} {A : Nat → Prop} {ini : Bool}  {R : mm_M}  : ∀ (a0 : Nat) (x1 : Int32) (x2 : Int32) (x3 : Int32) (x4 : Int32) (x5 : Int32) (x6 : Int32) (x7 : Int32) (σ : mm_M), fX9_header_275  mm_fuel a0 x1 x2 x3 x4 x5 x6 x7 σ = some R → mm_J cd_Y G RX9 cX9_header 8 none ini rmX9_header A (mm_QF cd_Y G A (mm_Pv R) rmX9_header.cells rmX9_header.slots) 275 [(0, .ref a0), (1, .int x1), (2, .int x2), (3, .int x3), (4, .int x4), (5, .int x5), (6, .int x6), (7, .int x7)] [] σ 0 0 := by
  generalize mm_fuel = n
  induction n with
  | zero => intro a0 x1 x2 x3 x4 x5 x6 x7 σ hf; cases hf
  | succ n ih =>
    intro a0 x1 x2 x3 x4 x5 x6 x7 σ hf
    unfold fX9_header_275 at hf
    refine mm_iload (j := 7) dX9_header_275 rfl ?_
    refine mm_bipush (v := 8) dX9_header_277 (by decide) ?_
    refine mm_icmp_ge (tgt := 304) dX9_header_279 (by decide) (fun c42 => ?_) (fun c42 => ?_)
    · rw [if_pos c42] at hf
      cases hf
      exact mm_vret rfl dX9_header_304 ⟨rfl, rfl⟩
    · rw [if_neg c42] at hf
      refine mm_aload_n (j := 0) dX9_header_282 rfl rfl ?_
      obtain ⟨hs43, hf⟩ := mm_sh_s hf
      refine mm_get (c := 9) (k := 23) (v := va_rf (mm_R σ a0 23)) cd_ok ⟨_, _, _, rfl, by decide, Or.inl tw_817⟩ hs43 rfl dX9_header_283 ?_
      refine mm_sipush (v := 1000) dX9_header_286 (by decide) ?_
      refine mm_iload (j := 6) dX9_header_289 rfl ?_
      refine mm_imul dX9_header_291 ?_
      refine mm_iload (j := 7) dX9_header_292 rfl ?_
      refine mm_iadd dX9_header_294 ?_
      refine mm_bipush (v := 32) dX9_header_295 (by decide) ?_
      obtain ⟨q44, hq44, hf⟩ := mm_on_s hf
      rw [hq44, mm_rf_some]
      obtain ⟨n45, hn45, hf⟩ := mm_ar_s hf
      obtain ⟨hi46, hf⟩ := mm_ib_s hf
      refine mm_bast hn45 rfl hi46 dX9_header_297 ?_
      refine mm_iinc (j := 7) (L' := [(7, .int (x7 + 1)), (0, .ref a0), (1, .int x1), (2, .int x2), (3, .int x3), (4, .int x4), (5, .int x5), (6, .int x6)]) dX9_header_298 rfl rfl (by decide) rfl ?_
      refine mm_goto (tgt := 275) dX9_header_301 (by decide) ?_
      refine mm_sub [1, 2, 3, 4, 5, 6, 7, 0] rfl ?_
      exact ih a0 x1 x2 x3 x4 x5 x6 (x7 + 1) (mm_wI σ q44 (((1000 * x6) + x7).toNatClampNeg) ((32 : Int32).toInt8.toInt32)) hf
set_option maxHeartbeats 4000000 in
set_option maxRecDepth 100000 in
theorem kX9_header_259 {G : mm_G} {A : Nat → Prop} {ini : Bool}  {R : mm_M}  (a0 : Nat) (x1 : Int32) (x2 : Int32) (x3 : Int32) (x4 : Int32) (x5 : Int32) (x6 : Int32) (σ : mm_M) (hf : fX9_header_259  a0 x1 x2 x3 x4 x5 x6 σ = some R) : mm_J cd_Y G RX9 cX9_header 8 none ini rmX9_header A (mm_QF cd_Y G A (mm_Pv R) rmX9_header.cells rmX9_header.slots) 259 [(0, .ref a0), (1, .int x1), (2, .int x2), (3, .int x3), (4, .int x4), (5, .int x5), (6, .int x6)] [] σ 0 0 := by
  unfold fX9_header_259 at hf
  refine mm_aload_n (j := 0) dX9_header_259 rfl rfl ?_
  refine mm_iload (j := 6) dX9_header_260 rfl ?_
  refine mm_iconst (v := 0) dX9_header_262 (by decide) ?_
  refine mm_bipush (v := 10) dX9_header_263 (by decide) ?_
  refine mm_bipush (v := 8) dX9_header_265 (by decide) ?_
  refine mm_bipush (v := 32) dX9_header_267 (by decide) ?_
  obtain ⟨hs40, hf⟩ := mm_sh_s hf
  obtain ⟨q41, hq41, hf⟩ := mm_on_s hf
  refine mm_callVv cd_ok (kX9_text a0 x6 0 10 8 32 hq41) hs40 rfl (Or.inl tw_1065) cdX9_text tw_1067 ts_50 nmX9_text rfl rfl (by simp only [List.map_cons, List.map_nil, mm_rf_cat]; exact Nat.le_of_ble_eq_true rfl) dX9_header_269 ⟨Nat.le_of_ble_eq_true rfl, Nat.le_of_ble_eq_true rfl⟩ ⟨Nat.le_of_ble_eq_true rfl, Nat.le_of_ble_eq_true rfl⟩ ?_
  refine mm_iconst (v := 0) dX9_header_272 (by decide) ?_
  refine mm_istore (L' := [(7, .int 0), (0, .ref a0), (1, .int x1), (2, .int x2), (3, .int x3), (4, .int x4), (5, .int x5), (6, .int x6)]) dX9_header_273 (by decide) rfl ?_
  refine mm_sub [1, 2, 3, 4, 5, 6, 7, 0] rfl ?_
  exact kX9_header_275  a0 x1 x2 x3 x4 x5 x6 0 q41 hf
set_option maxHeartbeats 4000000 in
set_option maxRecDepth 100000 in
theorem kX9_header_244 {G : mm_G} {A : Nat → Prop} {ini : Bool}  {R : mm_M}  (a0 : Nat) (x1 : Int32) (x2 : Int32) (x3 : Int32) (x4 : Int32) (x5 : Int32) (x6 : Int32) (y0 : Int32) (y1 : Int32) (y2 : Int32) (y3 : Option Nat) (σ : mm_M) (hf : fX9_header_244  a0 x1 x2 x3 x4 x5 x6 y0 y1 y2 y3 σ = some R) : mm_J cd_Y G RX9 cX9_header 8 none ini rmX9_header A (mm_QF cd_Y G A (mm_Pv R) rmX9_header.cells rmX9_header.slots) 244 [(0, .ref a0), (1, .int x1), (2, .int x2), (3, .int x3), (4, .int x4), (5, .int x5), (6, .int x6)] [.int y0, .int y1, .int y2, va_rf (y3)] σ 0 0 := by
  unfold fX9_header_244 at hf
  refine mm_iadd dX9_header_244 ?_
  obtain ⟨q36, hq36, hf⟩ := mm_on_s hf
  rw [hq36, mm_rf_some]
  obtain ⟨n37, hn37, hf⟩ := mm_ar_s hf
  obtain ⟨hi38, hf⟩ := mm_ib_s hf
  refine mm_iast hn37 rfl hi38 dX9_header_245 ?_
  refine mm_iload_n (j := 2) dX9_header_246 rfl rfl ?_
  refine mm_bipush (v := 8) dX9_header_247 (by decide) ?_
  refine mm_icmp_lt (tgt := 259) dX9_header_249 (by decide) (fun c39 => ?_) (fun c39 => ?_)
  · rw [if_pos c39] at hf
    refine mm_sub [0, 1, 2, 3, 4, 5, 6] rfl ?_
    exact kX9_header_259  a0 x1 x2 x3 x4 x5 x6 (mm_wI σ q36 (y2.toNatClampNeg) (y1 + y0)) hf
  · rw [if_neg c39] at hf
    refine mm_aload_n (j := 0) dX9_header_252 rfl rfl ?_
    refine mm_iload (j := 6) dX9_header_253 rfl ?_
    refine mm_iconst (v := 1) dX9_header_255 (by decide) ?_
    obtain ⟨hs47, hf⟩ := mm_sh_s hf
    obtain ⟨q48, hq48, hf⟩ := mm_on_s hf
    refine mm_callVv cd_ok (kX9_emptyRows a0 x6 1 hq48) hs47 rfl (Or.inl tw_1061) cdX9_emptyRows tw_1063 ts_49 nmX9_emptyRows rfl rfl (by simp only [List.map_cons, List.map_nil, mm_rf_cat]; exact Nat.le_of_ble_eq_true rfl) dX9_header_256 ⟨Nat.le_of_ble_eq_true rfl, Nat.le_of_ble_eq_true rfl⟩ ⟨Nat.le_of_ble_eq_true rfl, Nat.le_of_ble_eq_true rfl⟩ ?_
    refine mm_sub [0, 1, 2, 3, 4, 5, 6] rfl ?_
    exact kX9_header_259  a0 x1 x2 x3 x4 x5 x6 q48 hf
set_option maxHeartbeats 4000000 in
set_option maxRecDepth 100000 in
theorem kX9_header_232 {G : mm_G} {A : Nat → Prop} {ini : Bool}  {R : mm_M}  (a0 : Nat) (x1 : Int32) (x2 : Int32) (x3 : Int32) (x4 : Int32) (x5 : Int32) (x6 : Int32) (y0 : Int32) (y1 : Int32) (y2 : Int32) (y3 : Option Nat) (σ : mm_M) (hf : fX9_header_232  a0 x1 x2 x3 x4 x5 x6 y0 y1 y2 y3 σ = some R) : mm_J cd_Y G RX9 cX9_header 8 none ini rmX9_header A (mm_QF cd_Y G A (mm_Pv R) rmX9_header.cells rmX9_header.slots) 232 [(0, .ref a0), (1, .int x1), (2, .int x2), (3, .int x3), (4, .int x4), (5, .int x5), (6, .int x6)] [.int y0, .int y1, .int y2, va_rf (y3)] σ 0 0 := by
  unfold fX9_header_232 at hf
  refine mm_iadd dX9_header_232 ?_
  refine mm_iload (j := 4) dX9_header_233 rfl ?_
  refine mm_if_eq (tgt := 243) dX9_header_235 (by decide) (fun c35 => ?_) (fun c35 => ?_)
  · rw [if_pos c35] at hf
    refine mm_iconst (v := 0) dX9_header_243 (by decide) ?_
    refine mm_sub [0, 1, 2, 3, 4, 5, 6] rfl ?_
    exact kX9_header_244  a0 x1 x2 x3 x4 x5 x6 0 (y1 + y0) y2 y3 σ hf
  · rw [if_neg c35] at hf
    refine mm_bipush (v := 8) dX9_header_238 (by decide) ?_
    refine mm_goto (tgt := 244) dX9_header_240 (by decide) ?_
    refine mm_sub [0, 1, 2, 3, 4, 5, 6] rfl ?_
    exact kX9_header_244  a0 x1 x2 x3 x4 x5 x6 8 (y1 + y0) y2 y3 σ hf
set_option maxHeartbeats 4000000 in
set_option maxRecDepth 100000 in
theorem kX9_header_220 {G : mm_G} {A : Nat → Prop} {ini : Bool}  {R : mm_M}  (a0 : Nat) (x1 : Int32) (x2 : Int32) (x3 : Int32) (x4 : Int32) (x5 : Int32) (x6 : Int32) (y0 : Int32) (y1 : Int32) (y2 : Int32) (y3 : Option Nat) (σ : mm_M) (hf : fX9_header_220  a0 x1 x2 x3 x4 x5 x6 y0 y1 y2 y3 σ = some R) : mm_J cd_Y G RX9 cX9_header 8 none ini rmX9_header A (mm_QF cd_Y G A (mm_Pv R) rmX9_header.cells rmX9_header.slots) 220 [(0, .ref a0), (1, .int x1), (2, .int x2), (3, .int x3), (4, .int x4), (5, .int x5), (6, .int x6)] [.int y0, .int y1, .int y2, va_rf (y3)] σ 0 0 := by
  unfold fX9_header_220 at hf
  refine mm_iadd dX9_header_220 ?_
  refine mm_iload_n (j := 3) dX9_header_221 rfl rfl ?_
  refine mm_bipush (v := 8) dX9_header_222 (by decide) ?_
  refine mm_icmp_lt (tgt := 231) dX9_header_224 (by decide) (fun c34 => ?_) (fun c34 => ?_)
  · rw [if_pos c34] at hf
    refine mm_iconst (v := 0) dX9_header_231 (by decide) ?_
    refine mm_sub [0, 1, 2, 3, 4, 5, 6] rfl ?_
    exact kX9_header_232  a0 x1 x2 x3 x4 x5 x6 0 (y1 + y0) y2 y3 σ hf
  · rw [if_neg c34] at hf
    refine mm_iconst (v := 4) dX9_header_227 (by decide) ?_
    refine mm_goto (tgt := 232) dX9_header_228 (by decide) ?_
    refine mm_sub [0, 1, 2, 3, 4, 5, 6] rfl ?_
    exact kX9_header_232  a0 x1 x2 x3 x4 x5 x6 4 (y1 + y0) y2 y3 σ hf
set_option maxHeartbeats 4000000 in
set_option maxRecDepth 100000 in
theorem kX9_header_206 {G : mm_G} {A : Nat → Prop} {ini : Bool}  {R : mm_M}  (a0 : Nat) (x1 : Int32) (x2 : Int32) (x3 : Int32) (x4 : Int32) (x5 : Int32) (x6 : Int32) (y0 : Int32) (y1 : Int32) (y2 : Option Nat) (σ : mm_M) (hf : fX9_header_206  a0 x1 x2 x3 x4 x5 x6 y0 y1 y2 σ = some R) : mm_J cd_Y G RX9 cX9_header 8 none ini rmX9_header A (mm_QF cd_Y G A (mm_Pv R) rmX9_header.cells rmX9_header.slots) 206 [(0, .ref a0), (1, .int x1), (2, .int x2), (3, .int x3), (4, .int x4), (5, .int x5), (6, .int x6)] [.int y0, .int y1, va_rf (y2)] σ 0 0 := by
  unfold fX9_header_206 at hf
  refine mm_iload_n (j := 3) dX9_header_206 rfl rfl ?_
  refine mm_iconst (v := 4) dX9_header_207 (by decide) ?_
  refine mm_idiv dX9_header_208 (by decide) ?_
  refine mm_iconst (v := 2) dX9_header_209 (by decide) ?_
  refine mm_irem dX9_header_210 (by decide) ?_
  refine mm_iconst (v := 1) dX9_header_211 (by decide) ?_
  refine mm_icmp_ne (tgt := 219) dX9_header_212 (by decide) (fun c33 => ?_) (fun c33 => ?_)
  · rw [if_neg c33] at hf
    refine mm_iconst (v := 0) dX9_header_219 (by decide) ?_
    refine mm_sub [0, 1, 2, 3, 4, 5, 6] rfl ?_
    exact kX9_header_220  a0 x1 x2 x3 x4 x5 x6 0 y0 y1 y2 σ hf
  · rw [if_pos c33] at hf
    refine mm_iconst (v := 2) dX9_header_215 (by decide) ?_
    refine mm_goto (tgt := 220) dX9_header_216 (by decide) ?_
    refine mm_sub [0, 1, 2, 3, 4, 5, 6] rfl ?_
    exact kX9_header_220  a0 x1 x2 x3 x4 x5 x6 2 y0 y1 y2 σ hf
set_option maxHeartbeats 4000000 in
set_option maxRecDepth 100000 in
theorem kX9_header_87 {G : mm_G} {A : Nat → Prop} {ini : Bool} {k69 : Nat → Int32 → Int32 → Int32 → Int32 → Int32 → mm_M → Option mm_M} {R : mm_M} (hk69 : ∀ a0 x1 x2 x3 x4 x5 σ, k69 a0 x1 x2 x3 x4 x5 σ = some R → mm_J cd_Y G RX9 cX9_header 8 none ini rmX9_header A (mm_QF cd_Y G A (mm_Pv R) rmX9_header.cells rmX9_header.slots) 69 [(0, .ref a0), (1, .int x1), (2, .int x2), (3, .int x3), (4, .int x4), (5, .int x5)] [] σ 0 0) (a0 : Nat) (x1 : Int32) (x2 : Int32) (x3 : Int32) (x4 : Int32) (x5 : Int32) (σ : mm_M) (hf : fX9_header_87 k69 a0 x1 x2 x3 x4 x5 σ = some R) : mm_J cd_Y G RX9 cX9_header 8 none ini rmX9_header A (mm_QF cd_Y G A (mm_Pv R) rmX9_header.cells rmX9_header.slots) 87 [(0, .ref a0), (1, .int x1), (2, .int x2), (3, .int x3), (4, .int x4), (5, .int x5)] [] σ 0 0 := by
  unfold fX9_header_87 at hf
  refine mm_aload_n (j := 0) dX9_header_87 rfl rfl ?_
  refine mm_iload (j := 5) dX9_header_88 rfl ?_
  obtain ⟨hs50, hf⟩ := mm_sh_s hf
  obtain ⟨q51, hq51, hf⟩ := mm_on_s hf
  refine mm_callVv cd_ok (kX9_close a0 x5 hq51) hs50 rfl (Or.inl tw_1046) cdX9_close tw_1048 ts_46 nmX9_close rfl rfl (by simp only [List.map_cons, List.map_nil, mm_rf_cat]; exact Nat.le_of_ble_eq_true rfl) dX9_header_90 ⟨Nat.le_of_ble_eq_true rfl, Nat.le_of_ble_eq_true rfl⟩ ⟨Nat.le_of_ble_eq_true rfl, Nat.le_of_ble_eq_true rfl⟩ ?_
  refine mm_iinc (j := 5) (L' := [(5, .int (x5 + 1)), (0, .ref a0), (1, .int x1), (2, .int x2), (3, .int x3), (4, .int x4)]) dX9_header_93 rfl rfl (by decide) rfl ?_
  refine mm_goto (tgt := 69) dX9_header_96 (by decide) ?_
  refine mm_sub [1, 2, 3, 4, 5, 0] rfl ?_
  exact hk69 a0 x1 x2 x3 x4 (x5 + 1) q51 hf
set_option maxHeartbeats 4000000 in
set_option maxRecDepth 100000 in
theorem kX9_header_69 {G : mm_G} {A : Nat → Prop} {ini : Bool}  {R : mm_M}  : ∀ (a0 : Nat) (x1 : Int32) (x2 : Int32) (x3 : Int32) (x4 : Int32) (x5 : Int32) (σ : mm_M), fX9_header_69  mm_fuel a0 x1 x2 x3 x4 x5 σ = some R → mm_J cd_Y G RX9 cX9_header 8 none ini rmX9_header A (mm_QF cd_Y G A (mm_Pv R) rmX9_header.cells rmX9_header.slots) 69 [(0, .ref a0), (1, .int x1), (2, .int x2), (3, .int x3), (4, .int x4), (5, .int x5)] [] σ 0 0 := by
  generalize mm_fuel = n
  induction n with
  | zero => intro a0 x1 x2 x3 x4 x5 σ hf; cases hf
  | succ n ih =>
    intro a0 x1 x2 x3 x4 x5 σ hf
    unfold fX9_header_69 at hf
    refine mm_iload (j := 5) dX9_header_69 rfl ?_
    refine mm_bipush (v := 9) dX9_header_71 (by decide) ?_
    refine mm_icmp_ge (tgt := 99) dX9_header_73 (by decide) (fun c9 => ?_) (fun c9 => ?_)
    · rw [if_pos c9] at hf
      refine mm_bipush (v := 16) dX9_header_99 (by decide) ?_
      refine mm_aload_n (j := 0) dX9_header_101 rfl rfl ?_
      refine mm_iconst (v := 3) dX9_header_102 (by decide) ?_
      obtain ⟨hs10, hf⟩ := mm_sh_s hf
      obtain ⟨q11, hq11, hf⟩ := mm_on_s hf
      refine mm_callVi cd_ok (kX9_value a0 3 hq11) hs10 rfl (Or.inl tw_1035) cdX9_value tw_1037 ts_44 nmX9_value rfl rfl (by simp only [List.map_cons, List.map_nil, mm_rf_cat]; exact Nat.le_of_ble_eq_true rfl) dX9_header_103 ⟨Nat.le_of_ble_eq_true rfl, Nat.le_of_ble_eq_true rfl⟩ ⟨Nat.le_of_ble_eq_true rfl, Nat.le_of_ble_eq_true rfl⟩ ?_
      refine mm_imul dX9_header_106 ?_
      refine mm_aload_n (j := 0) dX9_header_107 rfl rfl ?_
      refine mm_iconst (v := 2) dX9_header_108 (by decide) ?_
      obtain ⟨hs12, hf⟩ := mm_sh_s hf
      obtain ⟨q13, hq13, hf⟩ := mm_on_s hf
      refine mm_callVi cd_ok (kX9_value a0 2 hq13) hs12 rfl (Or.inl tw_1035) cdX9_value tw_1037 ts_44 nmX9_value rfl rfl (by simp only [List.map_cons, List.map_nil, mm_rf_cat]; exact Nat.le_of_ble_eq_true rfl) dX9_header_109 ⟨Nat.le_of_ble_eq_true rfl, Nat.le_of_ble_eq_true rfl⟩ ⟨Nat.le_of_ble_eq_true rfl, Nat.le_of_ble_eq_true rfl⟩ ?_
      refine mm_iadd dX9_header_112 ?_
      refine mm_istore (L' := [(5, .int ((16 * q11.1) + q13.1)), (0, .ref a0), (1, .int x1), (2, .int x2), (3, .int x3), (4, .int x4)]) dX9_header_113 (by decide) rfl ?_
      refine mm_iload (j := 0) dX9_header_115 rfl ?_
      refine mm_sipush (v := 255) dX9_header_117 (by decide) ?_
      refine mm_icmp_ne (tgt := 124) dX9_header_120 (by decide) (fun c14 => ?_) (fun c14 => ?_)
      · rw [if_neg c14] at hf
        refine mm_aload_n (j := 1) dX9_header_124 rfl rfl ?_
        refine mm_iload_n (j := 2) dX9_header_125 rfl rfl ?_
        refine mm_iload (j := 0) dX9_header_126 rfl ?_
        refine mm_aload_n (j := 1) dX9_header_128 rfl rfl ?_
        refine mm_iconst (v := 4) dX9_header_129 (by decide) ?_
        obtain ⟨hs15, hf⟩ := mm_sh_s hf
        obtain ⟨q16, hq16, hf⟩ := mm_on_s hf
        refine mm_callVi cd_ok (kX9_value a0 4 hq16) hs15 rfl (Or.inl tw_1035) cdX9_value tw_1037 ts_44 nmX9_value rfl rfl (by simp only [List.map_cons, List.map_nil, mm_rf_cat]; exact Nat.le_of_ble_eq_true rfl) dX9_header_130 ⟨Nat.le_of_ble_eq_true rfl, Nat.le_of_ble_eq_true rfl⟩ ⟨Nat.le_of_ble_eq_true rfl, Nat.le_of_ble_eq_true rfl⟩ ?_
        refine mm_iload_n (j := 3) dX9_header_133 rfl rfl ?_
        refine mm_aload_n (j := 1) dX9_header_134 rfl rfl ?_
        refine mm_bipush (v := 6) dX9_header_135 (by decide) ?_
        obtain ⟨hs17, hf⟩ := mm_sh_s hf
        obtain ⟨q18, hq18, hf⟩ := mm_on_s hf
        refine mm_callVi cd_ok (kX9_value a0 6 hq18) hs17 rfl (Or.inl tw_1035) cdX9_value tw_1037 ts_44 nmX9_value rfl rfl (by simp only [List.map_cons, List.map_nil, mm_rf_cat]; exact Nat.le_of_ble_eq_true rfl) dX9_header_137 ⟨Nat.le_of_ble_eq_true rfl, Nat.le_of_ble_eq_true rfl⟩ ⟨Nat.le_of_ble_eq_true rfl, Nat.le_of_ble_eq_true rfl⟩ ?_
        refine mm_iload_n (j := 4) dX9_header_140 rfl rfl ?_
        refine mm_callSi cd_ok (kX9_subcodeOf q16.1 x2 q18.1 x3 _ rfl) (Or.inl tw_1050) cdX9_subcodeOf tw_1051 nmX9_subcodeOf rfl rfl (by simp only [List.map_cons, List.map_nil, mm_rf_cat]; exact Nat.le_of_ble_eq_true rfl) dX9_header_141 ⟨Nat.le_of_ble_eq_true rfl, Nat.le_of_ble_eq_true rfl⟩ ⟨Nat.le_of_ble_eq_true rfl, Nat.le_of_ble_eq_true rfl⟩ ?_
        obtain ⟨hs19, hf⟩ := mm_sh_s hf
        obtain ⟨q20, hq20, hf⟩ := mm_on_s hf
        refine mm_callVi cd_ok (kX9_pageFor a0 x1 ((16 * q11.1) + q13.1) (fX9_subcodeOf q16.1 x2 q18.1 x3) hq20) hs19 rfl (Or.inl tw_1053) cdX9_pageFor tw_1055 ts_47 nmX9_pageFor rfl rfl (by simp only [List.map_cons, List.map_nil, mm_rf_cat]; exact Nat.le_of_ble_eq_true rfl) dX9_header_144 ⟨Nat.le_of_ble_eq_true rfl, Nat.le_of_ble_eq_true rfl⟩ ⟨Nat.le_of_ble_eq_true rfl, Nat.le_of_ble_eq_true rfl⟩ ?_
        refine mm_istore (L' := [(6, .int q20.1), (5, .int ((16 * q11.1) + q13.1)), (0, .ref a0), (1, .int x1), (2, .int x2), (3, .int x3), (4, .int x4)]) dX9_header_147 (by decide) rfl ?_
        refine mm_aload_n (j := 2) dX9_header_149 rfl rfl ?_
        obtain ⟨hs21, hf⟩ := mm_sh_s hf
        refine mm_get (c := 9) (k := 15) (v := va_rf (mm_R q20.2 a0 15)) cd_ok ⟨_, _, _, rfl, by decide, Or.inl tw_809⟩ hs21 rfl dX9_header_150 ?_
        refine mm_aload_n (j := 2) dX9_header_153 rfl rfl ?_
        refine mm_get (c := 9) (k := 14) (v := .int (mm_I q20.2 a0 14)) cd_ok ⟨_, _, _, rfl, by decide, Or.inl tw_808⟩ hs21 rfl dX9_header_154 ?_
        refine mm_iload (j := 0) dX9_header_157 rfl ?_
        obtain ⟨q22, hq22, hf⟩ := mm_on_s hf
        rw [hq22, mm_rf_some]
        obtain ⟨n23, hn23, hf⟩ := mm_ar_s hf
        obtain ⟨hi24, hf⟩ := mm_ib_s hf
        refine mm_iast hn23 rfl hi24 dX9_header_159 ?_
        refine mm_aload_n (j := 2) dX9_header_160 rfl rfl ?_
        refine mm_dup dX9_header_161 rfl ?_
        refine mm_get (c := 9) (k := 14) (v := .int (mm_I (mm_wI q20.2 q22 ((mm_I q20.2 a0 14).toNatClampNeg) q20.1) a0 14)) cd_ok ⟨_, _, _, rfl, by decide, Or.inl tw_808⟩ hs21 rfl dX9_header_162 ?_
        refine mm_iconst (v := 1) dX9_header_165 (by decide) ?_
        refine mm_iadd dX9_header_166 ?_
        refine mm_putI (c := 9) (k := 14) cd_ok ⟨_, _, _, rfl, by decide, rfl, Or.inl tw_808⟩ hs21 rfl rfl rfl dX9_header_167 ?_
        refine mm_aload_n (j := 2) dX9_header_170 rfl rfl ?_
        refine mm_get (c := 9) (k := 27) (v := va_rf (mm_R (mm_wI (mm_wI q20.2 q22 ((mm_I q20.2 a0 14).toNatClampNeg) q20.1) a0 14 ((mm_I (mm_wI q20.2 q22 ((mm_I q20.2 a0 14).toNatClampNeg) q20.1) a0 14) + 1)) a0 27)) cd_ok ⟨_, _, _, rfl, by decide, Or.inl tw_821⟩ hs21 rfl dX9_header_171 ?_
        refine mm_iload_n (j := 3) dX9_header_174 rfl rfl ?_
        refine mm_iload (j := 0) dX9_header_175 rfl ?_
        obtain ⟨q25, hq25, hf⟩ := mm_on_s hf
        rw [hq25, mm_rf_some]
        obtain ⟨n26, hn26, hf⟩ := mm_ar_s hf
        obtain ⟨hi27, hf⟩ := mm_ib_s hf
        refine mm_iast hn26 rfl hi27 dX9_header_177 ?_
        refine mm_aload_n (j := 2) dX9_header_178 rfl rfl ?_
        refine mm_get (c := 9) (k := 22) (v := va_rf (mm_R (mm_wI (mm_wI (mm_wI q20.2 q22 ((mm_I q20.2 a0 14).toNatClampNeg) q20.1) a0 14 ((mm_I (mm_wI q20.2 q22 ((mm_I q20.2 a0 14).toNatClampNeg) q20.1) a0 14) + 1)) q25 (x1.toNatClampNeg) q20.1) a0 22)) cd_ok ⟨_, _, _, rfl, by decide, Or.inl tw_816⟩ hs21 rfl dX9_header_179 ?_
        refine mm_iload (j := 0) dX9_header_182 rfl ?_
        refine mm_dup2 dX9_header_184 rfl (mm_rf_cat _) ?_
        obtain ⟨q28, hq28, hf⟩ := mm_on_s hf
        rw [hq28, mm_rf_some]
        obtain ⟨n29, hn29, hf⟩ := mm_ar_s hf
        obtain ⟨hi30, hf⟩ := mm_ib_s hf
        refine mm_iald hn29 rfl hi30 dX9_header_185 ?_
        refine mm_iconst (v := 1) dX9_header_186 (by decide) ?_
        refine mm_iadd dX9_header_187 ?_
        obtain ⟨hi31, hf⟩ := mm_ib_s hf
        refine mm_iast hn29 rfl hi31 dX9_header_188 ?_
        refine mm_aload_n (j := 2) dX9_header_189 rfl rfl ?_
        refine mm_get (c := 9) (k := 20) (v := va_rf (mm_R (mm_wI (mm_wI (mm_wI (mm_wI q20.2 q22 ((mm_I q20.2 a0 14).toNatClampNeg) q20.1) a0 14 ((mm_I (mm_wI q20.2 q22 ((mm_I q20.2 a0 14).toNatClampNeg) q20.1) a0 14) + 1)) q25 (x1.toNatClampNeg) q20.1) q28 (q20.1.toNatClampNeg) ((mm_I (mm_wI (mm_wI (mm_wI q20.2 q22 ((mm_I q20.2 a0 14).toNatClampNeg) q20.1) a0 14 ((mm_I (mm_wI q20.2 q22 ((mm_I q20.2 a0 14).toNatClampNeg) q20.1) a0 14) + 1)) q25 (x1.toNatClampNeg) q20.1) q28 q20.1.toNatClampNeg) + 1)) a0 20)) cd_ok ⟨_, _, _, rfl, by decide, Or.inl tw_814⟩ hs21 rfl dX9_header_190 ?_
        refine mm_iload (j := 0) dX9_header_193 rfl ?_
        refine mm_iload_n (j := 4) dX9_header_195 rfl rfl ?_
        refine mm_bipush (v := 8) dX9_header_196 (by decide) ?_
        refine mm_icmp_lt (tgt := 205) dX9_header_198 (by decide) (fun c32 => ?_) (fun c32 => ?_)
        · rw [if_pos c32] at hf
          refine mm_iconst (v := 0) dX9_header_205 (by decide) ?_
          refine mm_sub [2, 3, 4, 5, 6, 1, 0] rfl ?_
          exact kX9_header_206  a0 x1 x2 x3 x4 ((16 * q11.1) + q13.1) q20.1 0 q20.1 (mm_R (mm_wI (mm_wI (mm_wI (mm_wI q20.2 q22 ((mm_I q20.2 a0 14).toNatClampNeg) q20.1) a0 14 ((mm_I (mm_wI q20.2 q22 ((mm_I q20.2 a0 14).toNatClampNeg) q20.1) a0 14) + 1)) q25 (x1.toNatClampNeg) q20.1) q28 (q20.1.toNatClampNeg) ((mm_I (mm_wI (mm_wI (mm_wI q20.2 q22 ((mm_I q20.2 a0 14).toNatClampNeg) q20.1) a0 14 ((mm_I (mm_wI q20.2 q22 ((mm_I q20.2 a0 14).toNatClampNeg) q20.1) a0 14) + 1)) q25 (x1.toNatClampNeg) q20.1) q28 q20.1.toNatClampNeg) + 1)) a0 20) (mm_wI (mm_wI (mm_wI (mm_wI q20.2 q22 ((mm_I q20.2 a0 14).toNatClampNeg) q20.1) a0 14 ((mm_I (mm_wI q20.2 q22 ((mm_I q20.2 a0 14).toNatClampNeg) q20.1) a0 14) + 1)) q25 (x1.toNatClampNeg) q20.1) q28 (q20.1.toNatClampNeg) ((mm_I (mm_wI (mm_wI (mm_wI q20.2 q22 ((mm_I q20.2 a0 14).toNatClampNeg) q20.1) a0 14 ((mm_I (mm_wI q20.2 q22 ((mm_I q20.2 a0 14).toNatClampNeg) q20.1) a0 14) + 1)) q25 (x1.toNatClampNeg) q20.1) q28 q20.1.toNatClampNeg) + 1)) hf
        · rw [if_neg c32] at hf
          refine mm_iconst (v := 1) dX9_header_201 (by decide) ?_
          refine mm_goto (tgt := 206) dX9_header_202 (by decide) ?_
          refine mm_sub [2, 3, 4, 5, 6, 1, 0] rfl ?_
          exact kX9_header_206  a0 x1 x2 x3 x4 ((16 * q11.1) + q13.1) q20.1 1 q20.1 (mm_R (mm_wI (mm_wI (mm_wI (mm_wI q20.2 q22 ((mm_I q20.2 a0 14).toNatClampNeg) q20.1) a0 14 ((mm_I (mm_wI q20.2 q22 ((mm_I q20.2 a0 14).toNatClampNeg) q20.1) a0 14) + 1)) q25 (x1.toNatClampNeg) q20.1) q28 (q20.1.toNatClampNeg) ((mm_I (mm_wI (mm_wI (mm_wI q20.2 q22 ((mm_I q20.2 a0 14).toNatClampNeg) q20.1) a0 14 ((mm_I (mm_wI q20.2 q22 ((mm_I q20.2 a0 14).toNatClampNeg) q20.1) a0 14) + 1)) q25 (x1.toNatClampNeg) q20.1) q28 q20.1.toNatClampNeg) + 1)) a0 20) (mm_wI (mm_wI (mm_wI (mm_wI q20.2 q22 ((mm_I q20.2 a0 14).toNatClampNeg) q20.1) a0 14 ((mm_I (mm_wI q20.2 q22 ((mm_I q20.2 a0 14).toNatClampNeg) q20.1) a0 14) + 1)) q25 (x1.toNatClampNeg) q20.1) q28 (q20.1.toNatClampNeg) ((mm_I (mm_wI (mm_wI (mm_wI q20.2 q22 ((mm_I q20.2 a0 14).toNatClampNeg) q20.1) a0 14 ((mm_I (mm_wI q20.2 q22 ((mm_I q20.2 a0 14).toNatClampNeg) q20.1) a0 14) + 1)) q25 (x1.toNatClampNeg) q20.1) q28 q20.1.toNatClampNeg) + 1)) hf
      · rw [if_pos c14] at hf
        cases hf
        exact mm_vret rfl dX9_header_123 ⟨rfl, rfl⟩
    · rw [if_neg c9] at hf
      refine mm_iload (j := 4) dX9_header_76 rfl ?_
      refine mm_if_ne (tgt := 87) dX9_header_78 (by decide) (fun c49 => ?_) (fun c49 => ?_)
      · rw [if_neg c49] at hf
        refine mm_sub [0, 1, 2, 3, 4, 5] rfl ?_
        exact kX9_header_87 ih a0 x1 x2 x3 x4 x5 σ hf
      · rw [if_pos c49] at hf
        refine mm_iload (j := 5) dX9_header_81 rfl ?_
        refine mm_iload_n (j := 1) dX9_header_83 rfl rfl ?_
        refine mm_icmp_ne (tgt := 93) dX9_header_84 (by decide) (fun c52 => ?_) (fun c52 => ?_)
        · rw [if_neg c52] at hf
          refine mm_iinc (j := 5) (L' := [(5, .int (x5 + 1)), (0, .ref a0), (1, .int x1), (2, .int x2), (3, .int x3), (4, .int x4)]) dX9_header_93 rfl rfl (by decide) rfl ?_
          refine mm_goto (tgt := 69) dX9_header_96 (by decide) ?_
          refine mm_sub [1, 2, 3, 4, 5, 0] rfl ?_
          exact ih a0 x1 x2 x3 x4 (x5 + 1) σ hf
        · rw [if_pos c52] at hf
          refine mm_sub [0, 1, 2, 3, 4, 5] rfl ?_
          exact kX9_header_87 ih a0 x1 x2 x3 x4 x5 σ hf
set_option maxHeartbeats 4000000 in
set_option maxRecDepth 100000 in
theorem kX9_header_2 {G : mm_G} {A : Nat → Prop} {ini : Bool}  {R : mm_M}  : ∀ (a0 : Nat) (x1 : Int32) (x2 : Int32) (σ : mm_M), fX9_header_2  mm_fuel a0 x1 x2 σ = some R → mm_J cd_Y G RX9 cX9_header 8 none ini rmX9_header A (mm_QF cd_Y G A (mm_Pv R) rmX9_header.cells rmX9_header.slots) 2 [(0, .ref a0), (1, .int x1), (2, .int x2)] [] σ 0 0 := by
  generalize mm_fuel = n
  induction n with
  | zero => intro a0 x1 x2 σ hf; cases hf
  | succ n ih =>
    intro a0 x1 x2 σ hf
    unfold fX9_header_2 at hf
    refine mm_iload_n (j := 2) dX9_header_2 rfl rfl ?_
    refine mm_bipush (v := 10) dX9_header_3 (by decide) ?_
    refine mm_icmp_ge (tgt := 34) dX9_header_5 (by decide) (fun c1 => ?_) (fun c1 => ?_)
    · rw [if_pos c1] at hf
      refine mm_aload_n (j := 0) dX9_header_34 rfl rfl ?_
      refine mm_iconst (v := 5) dX9_header_35 (by decide) ?_
      obtain ⟨hs2, hf⟩ := mm_sh_s hf
      obtain ⟨q3, hq3, hf⟩ := mm_on_s hf
      refine mm_callVi cd_ok (kX9_value a0 5 hq3) hs2 rfl (Or.inl tw_1035) cdX9_value tw_1037 ts_44 nmX9_value rfl rfl (by simp only [List.map_cons, List.map_nil, mm_rf_cat]; exact Nat.le_of_ble_eq_true rfl) dX9_header_36 ⟨Nat.le_of_ble_eq_true rfl, Nat.le_of_ble_eq_true rfl⟩ ⟨Nat.le_of_ble_eq_true rfl, Nat.le_of_ble_eq_true rfl⟩ ?_
      refine mm_istore_n (L' := [(2, .int q3.1), (0, .ref a0), (1, .int x1)]) dX9_header_39 rfl (by decide) rfl ?_
      refine mm_aload_n (j := 1) dX9_header_40 rfl rfl ?_
      refine mm_bipush (v := 7) dX9_header_41 (by decide) ?_
      obtain ⟨hs4, hf⟩ := mm_sh_s hf
      obtain ⟨q5, hq5, hf⟩ := mm_on_s hf
      refine mm_callVi cd_ok (kX9_value a0 7 hq5) hs4 rfl (Or.inl tw_1035) cdX9_value tw_1037 ts_44 nmX9_value rfl rfl (by simp only [List.map_cons, List.map_nil, mm_rf_cat]; exact Nat.le_of_ble_eq_true rfl) dX9_header_43 ⟨Nat.le_of_ble_eq_true rfl, Nat.le_of_ble_eq_true rfl⟩ ⟨Nat.le_of_ble_eq_true rfl, Nat.le_of_ble_eq_true rfl⟩ ?_
      refine mm_istore_n (L' := [(3, .int q5.1), (2, .int q3.1), (0, .ref a0), (1, .int x1)]) dX9_header_46 rfl (by decide) rfl ?_
      refine mm_aload_n (j := 2) dX9_header_47 rfl rfl ?_
      refine mm_bipush (v := 9) dX9_header_48 (by decide) ?_
      obtain ⟨hs6, hf⟩ := mm_sh_s hf
      obtain ⟨q7, hq7, hf⟩ := mm_on_s hf
      refine mm_callVi cd_ok (kX9_value a0 9 hq7) hs6 rfl (Or.inl tw_1035) cdX9_value tw_1037 ts_44 nmX9_value rfl rfl (by simp only [List.map_cons, List.map_nil, mm_rf_cat]; exact Nat.le_of_ble_eq_true rfl) dX9_header_50 ⟨Nat.le_of_ble_eq_true rfl, Nat.le_of_ble_eq_true rfl⟩ ⟨Nat.le_of_ble_eq_true rfl, Nat.le_of_ble_eq_true rfl⟩ ?_
      refine mm_iconst (v := 2) dX9_header_53 (by decide) ?_
      refine mm_irem dX9_header_54 (by decide) ?_
      refine mm_iconst (v := 1) dX9_header_55 (by decide) ?_
      refine mm_icmp_ne (tgt := 63) dX9_header_56 (by decide) (fun c8 => ?_) (fun c8 => ?_)
      · rw [if_neg c8] at hf
        refine mm_iconst (v := 0) dX9_header_63 (by decide) ?_
        refine mm_istore (L' := [(4, .int 0), (3, .int q5.1), (2, .int q3.1), (0, .ref a0), (1, .int x1)]) dX9_header_64 (by decide) rfl ?_
        refine mm_iconst (v := 1) dX9_header_66 (by decide) ?_
        refine mm_istore (L' := [(5, .int 1), (4, .int 0), (3, .int q5.1), (2, .int q3.1), (0, .ref a0), (1, .int x1)]) dX9_header_67 (by decide) rfl ?_
        refine mm_sub [4, 5, 3, 2, 1, 0] rfl ?_
        exact kX9_header_69  a0 x1 q3.1 q5.1 0 1 q7.2 hf
      · rw [if_pos c8] at hf
        refine mm_iconst (v := 1) dX9_header_59 (by decide) ?_
        refine mm_goto (tgt := 64) dX9_header_60 (by decide) ?_
        refine mm_istore (L' := [(4, .int 1), (3, .int q5.1), (2, .int q3.1), (0, .ref a0), (1, .int x1)]) dX9_header_64 (by decide) rfl ?_
        refine mm_iconst (v := 1) dX9_header_66 (by decide) ?_
        refine mm_istore (L' := [(5, .int 1), (4, .int 1), (3, .int q5.1), (2, .int q3.1), (0, .ref a0), (1, .int x1)]) dX9_header_67 (by decide) rfl ?_
        refine mm_sub [4, 5, 3, 2, 1, 0] rfl ?_
        exact kX9_header_69  a0 x1 q3.1 q5.1 1 1 q7.2 hf
    · rw [if_neg c1] at hf
      refine mm_aload_n (j := 0) dX9_header_8 rfl rfl ?_
      refine mm_iload_n (j := 2) dX9_header_9 rfl rfl ?_
      obtain ⟨hs53, hf⟩ := mm_sh_s hf
      obtain ⟨q54, hq54, hf⟩ := mm_on_s hf
      refine mm_callVi cd_ok (kX9_value a0 x2 hq54) hs53 rfl (Or.inl tw_1035) cdX9_value tw_1037 ts_44 nmX9_value rfl rfl (by simp only [List.map_cons, List.map_nil, mm_rf_cat]; exact Nat.le_of_ble_eq_true rfl) dX9_header_10 ⟨Nat.le_of_ble_eq_true rfl, Nat.le_of_ble_eq_true rfl⟩ ⟨Nat.le_of_ble_eq_true rfl, Nat.le_of_ble_eq_true rfl⟩ ?_
      refine mm_iconst (v := (-1)) dX9_header_13 (by decide) ?_
      refine mm_icmp_ne (tgt := 28) dX9_header_14 (by decide) (fun c55 => ?_) (fun c55 => ?_)
      · rw [if_neg c55] at hf
        refine mm_iinc (j := 2) (L' := [(2, .int (x2 + 1)), (0, .ref a0), (1, .int x1)]) dX9_header_28 rfl rfl (by decide) rfl ?_
        refine mm_goto (tgt := 2) dX9_header_31 (by decide) ?_
        refine mm_sub [1, 2, 0] rfl ?_
        exact ih a0 x1 (x2 + 1) q54.2 hf
      · rw [if_pos c55] at hf
        refine mm_aload_n (j := 0) dX9_header_17 rfl rfl ?_
        obtain ⟨hs56, hf⟩ := mm_sh_s hf
        refine mm_get (c := 9) (k := 13) (v := va_rf (mm_R q54.2 a0 13)) cd_ok ⟨_, _, _, rfl, by decide, Or.inl tw_807⟩ hs56 rfl dX9_header_18 ?_
        refine mm_iconst (v := 1) dX9_header_21 (by decide) ?_
        refine mm_dup2 dX9_header_22 rfl (mm_rf_cat _) ?_
        obtain ⟨q57, hq57, hf⟩ := mm_on_s hf
        rw [hq57, mm_rf_some]
        obtain ⟨n58, hn58, hf⟩ := mm_ar_s hf
        obtain ⟨hi59, hf⟩ := mm_ib_s hf
        refine mm_iald hn58 rfl hi59 dX9_header_23 ?_
        refine mm_iconst (v := 1) dX9_header_24 (by decide) ?_
        refine mm_iadd dX9_header_25 ?_
        obtain ⟨hi60, hf⟩ := mm_ib_s hf
        refine mm_iast hn58 rfl hi60 dX9_header_26 ?_
        cases hf
        exact mm_vret rfl dX9_header_27 ⟨rfl, rfl⟩
set_option maxHeartbeats 4000000 in
set_option maxRecDepth 100000 in
theorem kX9_header {G : mm_G} {A : Nat → Prop} (p0 : Nat) (p1 : Int32) {σ : mm_M} {R : mm_M} (hf : fX9_header p0 p1 σ = some R) : mm_C cd_Y G yX9_header cX9_header 8 none rmX9_header A [.ref p0, .int p1] σ (mm_Pv R) := by
  refine mm_C.of (by decide) (Nat.le_of_ble_eq_true rfl) ?_
  unfold fX9_header at hf
  have e0 : lv_args 0 [.ref p0, .int p1] = [(0, .ref p0), (1, .int p1)] := rfl
  rw [e0]
  generalize hini : (yX9_header.name == "<init>") = ini
  clear e0
  clear hini
  refine mm_iconst (v := 2) dX9_header_0 (by decide) ?_
  refine mm_istore_n (L' := [(2, .int 2), (0, .ref p0), (1, .int p1)]) dX9_header_1 rfl (by decide) rfl ?_
  refine mm_sub [1, 2, 0] rfl ?_
  exact kX9_header_2  p0 p1 2 σ hf
theorem dX9_linkPacket_0 : decode cX9_linkPacket 0 = .ok (.aload_n 0, 1) := by decide +kernel
theorem dX9_linkPacket_1 : decode cX9_linkPacket 1 = .ok (.iconst 2, 1) := by decide +kernel
theorem dX9_linkPacket_2 : decode cX9_linkPacket 2 = .ok (.invokevirtual 215, 3) := by decide +kernel
theorem dX9_linkPacket_5 : decode cX9_linkPacket 5 = .ok (.ifCond .eq 4, 3) := by decide +kernel
theorem dX9_linkPacket_8 : decode cX9_linkPacket 8 = .ok (.return_, 1) := by decide +kernel
theorem dX9_linkPacket_9 : decode cX9_linkPacket 9 = .ok (.iconst 0, 1) := by decide +kernel
theorem dX9_linkPacket_10 : decode cX9_linkPacket 10 = .ok (.istore_n 3, 1) := by decide +kernel
theorem dX9_linkPacket_11 : decode cX9_linkPacket 11 = .ok (.iload_n 3, 1) := by decide +kernel
theorem dX9_linkPacket_12 : decode cX9_linkPacket 12 = .ok (.bipush 6, 2) := by decide +kernel
theorem dX9_linkPacket_14 : decode cX9_linkPacket 14 = .ok (.if_icmp .ge 198, 3) := by decide +kernel
theorem dX9_linkPacket_17 : decode cX9_linkPacket 17 = .ok (.iconst 1, 1) := by decide +kernel
theorem dX9_linkPacket_18 : decode cX9_linkPacket 18 = .ok (.istore 4, 2) := by decide +kernel
theorem dX9_linkPacket_20 : decode cX9_linkPacket 20 = .ok (.iconst 0, 1) := by decide +kernel
theorem dX9_linkPacket_21 : decode cX9_linkPacket 21 = .ok (.istore 5, 2) := by decide +kernel
theorem dX9_linkPacket_23 : decode cX9_linkPacket 23 = .ok (.iload 5, 2) := by decide +kernel
theorem dX9_linkPacket_25 : decode cX9_linkPacket 25 = .ok (.bipush 6, 2) := by decide +kernel
theorem dX9_linkPacket_27 : decode cX9_linkPacket 27 = .ok (.if_icmp .ge 38, 3) := by decide +kernel
theorem dX9_linkPacket_30 : decode cX9_linkPacket 30 = .ok (.iload 4, 2) := by decide +kernel
theorem dX9_linkPacket_32 : decode cX9_linkPacket 32 = .ok (.ifCond .eq 24, 3) := by decide +kernel
theorem dX9_linkPacket_35 : decode cX9_linkPacket 35 = .ok (.aload_n 0, 1) := by decide +kernel
theorem dX9_linkPacket_36 : decode cX9_linkPacket 36 = .ok (.iconst 3, 1) := by decide +kernel
theorem dX9_linkPacket_37 : decode cX9_linkPacket 37 = .ok (.bipush 6, 2) := by decide +kernel
theorem dX9_linkPacket_39 : decode cX9_linkPacket 39 = .ok (.iload_n 3, 1) := by decide +kernel
theorem dX9_linkPacket_40 : decode cX9_linkPacket 40 = .ok (.imul, 1) := by decide +kernel
theorem dX9_linkPacket_41 : decode cX9_linkPacket 41 = .ok (.iadd, 1) := by decide +kernel
theorem dX9_linkPacket_42 : decode cX9_linkPacket 42 = .ok (.iload 5, 2) := by decide +kernel
theorem dX9_linkPacket_44 : decode cX9_linkPacket 44 = .ok (.iadd, 1) := by decide +kernel
theorem dX9_linkPacket_45 : decode cX9_linkPacket 45 = .ok (.invokevirtual 215, 3) := by decide +kernel
theorem dX9_linkPacket_48 : decode cX9_linkPacket 48 = .ok (.iconst (-1), 1) := by decide +kernel
theorem dX9_linkPacket_49 : decode cX9_linkPacket 49 = .ok (.if_icmp .eq 7, 3) := by decide +kernel
theorem dX9_linkPacket_52 : decode cX9_linkPacket 52 = .ok (.iconst 1, 1) := by decide +kernel
theorem dX9_linkPacket_53 : decode cX9_linkPacket 53 = .ok (.goto 4, 3) := by decide +kernel
theorem dX9_linkPacket_56 : decode cX9_linkPacket 56 = .ok (.iconst 0, 1) := by decide +kernel
theorem dX9_linkPacket_57 : decode cX9_linkPacket 57 = .ok (.istore 4, 2) := by decide +kernel
theorem dX9_linkPacket_59 : decode cX9_linkPacket 59 = .ok (.iinc 5 1, 3) := by decide +kernel
theorem dX9_linkPacket_62 : decode cX9_linkPacket 62 = .ok (.goto (-39), 3) := by decide +kernel
theorem dX9_linkPacket_65 : decode cX9_linkPacket 65 = .ok (.iload 4, 2) := by decide +kernel
theorem dX9_linkPacket_67 : decode cX9_linkPacket 67 = .ok (.ifCond .eq 139, 3) := by decide +kernel
theorem dX9_linkPacket_70 : decode cX9_linkPacket 70 = .ok (.iconst 3, 1) := by decide +kernel
theorem dX9_linkPacket_71 : decode cX9_linkPacket 71 = .ok (.bipush 6, 2) := by decide +kernel
theorem dX9_linkPacket_73 : decode cX9_linkPacket 73 = .ok (.iload_n 3, 1) := by decide +kernel
theorem dX9_linkPacket_74 : decode cX9_linkPacket 74 = .ok (.imul, 1) := by decide +kernel
theorem dX9_linkPacket_75 : decode cX9_linkPacket 75 = .ok (.iadd, 1) := by decide +kernel
theorem dX9_linkPacket_76 : decode cX9_linkPacket 76 = .ok (.istore 5, 2) := by decide +kernel
theorem dX9_linkPacket_78 : decode cX9_linkPacket 78 = .ok (.aload_n 0, 1) := by decide +kernel
theorem dX9_linkPacket_79 : decode cX9_linkPacket 79 = .ok (.iload 5, 2) := by decide +kernel
theorem dX9_linkPacket_81 : decode cX9_linkPacket 81 = .ok (.iconst 3, 1) := by decide +kernel
theorem dX9_linkPacket_82 : decode cX9_linkPacket 82 = .ok (.iadd, 1) := by decide +kernel
theorem dX9_linkPacket_83 : decode cX9_linkPacket 83 = .ok (.invokevirtual 215, 3) := by decide +kernel
theorem dX9_linkPacket_86 : decode cX9_linkPacket 86 = .ok (.istore 6, 2) := by decide +kernel
theorem dX9_linkPacket_88 : decode cX9_linkPacket 88 = .ok (.aload_n 0, 1) := by decide +kernel
theorem dX9_linkPacket_89 : decode cX9_linkPacket 89 = .ok (.iload 5, 2) := by decide +kernel
theorem dX9_linkPacket_91 : decode cX9_linkPacket 91 = .ok (.iconst 5, 1) := by decide +kernel
theorem dX9_linkPacket_92 : decode cX9_linkPacket 92 = .ok (.iadd, 1) := by decide +kernel
theorem dX9_linkPacket_93 : decode cX9_linkPacket 93 = .ok (.invokevirtual 215, 3) := by decide +kernel
theorem dX9_linkPacket_96 : decode cX9_linkPacket 96 = .ok (.istore 7, 2) := by decide +kernel
theorem dX9_linkPacket_98 : decode cX9_linkPacket 98 = .ok (.bipush 6, 2) := by decide +kernel
theorem dX9_linkPacket_100 : decode cX9_linkPacket 100 = .ok (.iload_n 2, 1) := by decide +kernel
theorem dX9_linkPacket_101 : decode cX9_linkPacket 101 = .ok (.imul, 1) := by decide +kernel
theorem dX9_linkPacket_102 : decode cX9_linkPacket 102 = .ok (.iload_n 3, 1) := by decide +kernel
theorem dX9_linkPacket_103 : decode cX9_linkPacket 103 = .ok (.iadd, 1) := by decide +kernel
theorem dX9_linkPacket_104 : decode cX9_linkPacket 104 = .ok (.istore 8, 2) := by decide +kernel
theorem dX9_linkPacket_106 : decode cX9_linkPacket 106 = .ok (.aload_n 0, 1) := by decide +kernel
theorem dX9_linkPacket_107 : decode cX9_linkPacket 107 = .ok (.getfield 81, 3) := by decide +kernel
theorem dX9_linkPacket_110 : decode cX9_linkPacket 110 = .ok (.iload 8, 2) := by decide +kernel
theorem dX9_linkPacket_112 : decode cX9_linkPacket 112 = .ok (.iconst 1, 1) := by decide +kernel
theorem dX9_linkPacket_113 : decode cX9_linkPacket 113 = .ok (.bastore, 1) := by decide +kernel
theorem dX9_linkPacket_114 : decode cX9_linkPacket 114 = .ok (.aload_n 0, 1) := by decide +kernel
theorem dX9_linkPacket_115 : decode cX9_linkPacket 115 = .ok (.getfield 78, 3) := by decide +kernel
theorem dX9_linkPacket_118 : decode cX9_linkPacket 118 = .ok (.iconst 3, 1) := by decide +kernel
theorem dX9_linkPacket_119 : decode cX9_linkPacket 119 = .ok (.iload 8, 2) := by decide +kernel
theorem dX9_linkPacket_121 : decode cX9_linkPacket 121 = .ok (.imul, 1) := by decide +kernel
theorem dX9_linkPacket_122 : decode cX9_linkPacket 122 = .ok (.iload_n 1, 1) := by decide +kernel
theorem dX9_linkPacket_123 : decode cX9_linkPacket 123 = .ok (.bipush 8, 2) := by decide +kernel
theorem dX9_linkPacket_125 : decode cX9_linkPacket 125 = .ok (.irem, 1) := by decide +kernel
theorem dX9_linkPacket_126 : decode cX9_linkPacket 126 = .ok (.iload 6, 2) := by decide +kernel
theorem dX9_linkPacket_128 : decode cX9_linkPacket 128 = .ok (.bipush 8, 2) := by decide +kernel
theorem dX9_linkPacket_130 : decode cX9_linkPacket 130 = .ok (.idiv, 1) := by decide +kernel
theorem dX9_linkPacket_131 : decode cX9_linkPacket 131 = .ok (.iconst 2, 1) := by decide +kernel
theorem dX9_linkPacket_132 : decode cX9_linkPacket 132 = .ok (.iload 7, 2) := by decide +kernel
theorem dX9_linkPacket_134 : decode cX9_linkPacket 134 = .ok (.iconst 4, 1) := by decide +kernel
theorem dX9_linkPacket_135 : decode cX9_linkPacket 135 = .ok (.idiv, 1) := by decide +kernel
theorem dX9_linkPacket_136 : decode cX9_linkPacket 136 = .ok (.imul, 1) := by decide +kernel
theorem dX9_linkPacket_137 : decode cX9_linkPacket 137 = .ok (.iadd, 1) := by decide +kernel
theorem dX9_linkPacket_138 : decode cX9_linkPacket 138 = .ok (.ixor, 1) := by decide +kernel
theorem dX9_linkPacket_139 : decode cX9_linkPacket 139 = .ok (.invokestatic 232, 3) := by decide +kernel
theorem dX9_linkPacket_142 : decode cX9_linkPacket 142 = .ok (.iastore, 1) := by decide +kernel
theorem dX9_linkPacket_143 : decode cX9_linkPacket 143 = .ok (.aload_n 0, 1) := by decide +kernel
theorem dX9_linkPacket_144 : decode cX9_linkPacket 144 = .ok (.getfield 78, 3) := by decide +kernel
theorem dX9_linkPacket_147 : decode cX9_linkPacket 147 = .ok (.iconst 3, 1) := by decide +kernel
theorem dX9_linkPacket_148 : decode cX9_linkPacket 148 = .ok (.iload 8, 2) := by decide +kernel
theorem dX9_linkPacket_150 : decode cX9_linkPacket 150 = .ok (.imul, 1) := by decide +kernel
theorem dX9_linkPacket_151 : decode cX9_linkPacket 151 = .ok (.iconst 1, 1) := by decide +kernel
theorem dX9_linkPacket_152 : decode cX9_linkPacket 152 = .ok (.iadd, 1) := by decide +kernel
theorem dX9_linkPacket_153 : decode cX9_linkPacket 153 = .ok (.bipush 16, 2) := by decide +kernel
theorem dX9_linkPacket_155 : decode cX9_linkPacket 155 = .ok (.aload_n 0, 1) := by decide +kernel
theorem dX9_linkPacket_156 : decode cX9_linkPacket 156 = .ok (.iload 5, 2) := by decide +kernel
theorem dX9_linkPacket_158 : decode cX9_linkPacket 158 = .ok (.iconst 1, 1) := by decide +kernel
theorem dX9_linkPacket_159 : decode cX9_linkPacket 159 = .ok (.iadd, 1) := by decide +kernel
theorem dX9_linkPacket_160 : decode cX9_linkPacket 160 = .ok (.invokevirtual 215, 3) := by decide +kernel
theorem dX9_linkPacket_163 : decode cX9_linkPacket 163 = .ok (.imul, 1) := by decide +kernel
theorem dX9_linkPacket_164 : decode cX9_linkPacket 164 = .ok (.aload_n 0, 1) := by decide +kernel
theorem dX9_linkPacket_165 : decode cX9_linkPacket 165 = .ok (.iload 5, 2) := by decide +kernel
theorem dX9_linkPacket_167 : decode cX9_linkPacket 167 = .ok (.invokevirtual 215, 3) := by decide +kernel
theorem dX9_linkPacket_170 : decode cX9_linkPacket 170 = .ok (.iadd, 1) := by decide +kernel
theorem dX9_linkPacket_171 : decode cX9_linkPacket 171 = .ok (.iastore, 1) := by decide +kernel
theorem dX9_linkPacket_172 : decode cX9_linkPacket 172 = .ok (.aload_n 0, 1) := by decide +kernel
theorem dX9_linkPacket_173 : decode cX9_linkPacket 173 = .ok (.getfield 78, 3) := by decide +kernel
theorem dX9_linkPacket_176 : decode cX9_linkPacket 176 = .ok (.iconst 3, 1) := by decide +kernel
theorem dX9_linkPacket_177 : decode cX9_linkPacket 177 = .ok (.iload 8, 2) := by decide +kernel
theorem dX9_linkPacket_179 : decode cX9_linkPacket 179 = .ok (.imul, 1) := by decide +kernel
theorem dX9_linkPacket_180 : decode cX9_linkPacket 180 = .ok (.iconst 2, 1) := by decide +kernel
theorem dX9_linkPacket_181 : decode cX9_linkPacket 181 = .ok (.iadd, 1) := by decide +kernel
theorem dX9_linkPacket_182 : decode cX9_linkPacket 182 = .ok (.aload_n 0, 1) := by decide +kernel
theorem dX9_linkPacket_183 : decode cX9_linkPacket 183 = .ok (.iload 5, 2) := by decide +kernel
theorem dX9_linkPacket_185 : decode cX9_linkPacket 185 = .ok (.iconst 2, 1) := by decide +kernel
theorem dX9_linkPacket_186 : decode cX9_linkPacket 186 = .ok (.iadd, 1) := by decide +kernel
theorem dX9_linkPacket_187 : decode cX9_linkPacket 187 = .ok (.invokevirtual 215, 3) := by decide +kernel
theorem dX9_linkPacket_190 : decode cX9_linkPacket 190 = .ok (.iload 6, 2) := by decide +kernel
theorem dX9_linkPacket_192 : decode cX9_linkPacket 192 = .ok (.aload_n 0, 1) := by decide +kernel
theorem dX9_linkPacket_193 : decode cX9_linkPacket 193 = .ok (.iload 5, 2) := by decide +kernel
theorem dX9_linkPacket_195 : decode cX9_linkPacket 195 = .ok (.iconst 4, 1) := by decide +kernel
theorem dX9_linkPacket_196 : decode cX9_linkPacket 196 = .ok (.iadd, 1) := by decide +kernel
theorem dX9_linkPacket_197 : decode cX9_linkPacket 197 = .ok (.invokevirtual 215, 3) := by decide +kernel
theorem dX9_linkPacket_200 : decode cX9_linkPacket 200 = .ok (.iload 7, 2) := by decide +kernel
theorem dX9_linkPacket_202 : decode cX9_linkPacket 202 = .ok (.invokestatic 221, 3) := by decide +kernel
theorem dX9_linkPacket_205 : decode cX9_linkPacket 205 = .ok (.iastore, 1) := by decide +kernel
theorem dX9_linkPacket_206 : decode cX9_linkPacket 206 = .ok (.iinc 3 1, 3) := by decide +kernel
theorem dX9_linkPacket_209 : decode cX9_linkPacket 209 = .ok (.goto (-198), 3) := by decide +kernel
theorem dX9_linkPacket_212 : decode cX9_linkPacket 212 = .ok (.return_, 1) := by decide +kernel
theorem nmX9_linkPacket : mm_nm yX9_linkPacket 2 := ⟨by decide, by decide, by decide +kernel⟩
theorem cdX9_linkPacket : mm_cd cd_Y yX9_linkPacket cX9_linkPacket 9 none := ⟨tw_1072, tw_8⟩
abbrev rmX9_linkPacket : Room := { frames := 4, cells := 0, slots := 0, locals := 89 }
def fX9_linkPacket_23 (k11 : Nat → Int32 → Int32 → Int32 → mm_M → Option mm_M) : Nat → Nat → Int32 → Int32 → Int32 → Int32 → Int32 → mm_M → Option mm_M
  | 0 => fun _ _ _ _ _ _ _ => none
  | n + 1 => fun a0 x1 x2 x3 x4 x5 σ =>
  (if 6 ≤ x5 then (if x4 = 0 then (k11 a0 x1 x2 (x3 + 1) σ) else mm_sh σ a0 (.inl 9) (mm_on (fX9_value a0 ((3 + (6 * x3)) + 3) σ) fun q8 => mm_sh q8.2 a0 (.inl 9) (mm_on (fX9_value a0 ((3 + (6 * x3)) + 5) q8.2) fun q10 => mm_sh q10.2 a0 (.inl 9) (mm_on (mm_R q10.2 a0 26) fun q12 => mm_ar q10.2 q12 1 fun n13 => mm_ib ((6 * x2) + x3) n13 (mm_on (mm_R (mm_wI q10.2 q12 (((6 * x2) + x3).toNatClampNeg) (vp_nar .boolean 1)) a0 25) fun q15 => mm_ar (mm_wI q10.2 q12 (((6 * x2) + x3).toNatClampNeg) (vp_nar .boolean 1)) q15 0 fun n16 => mm_ib (3 * ((6 * x2) + x3)) n16 (mm_on (fX9_value a0 ((3 + (6 * x3)) + 1) (mm_wI (mm_wI q10.2 q12 (((6 * x2) + x3).toNatClampNeg) (vp_nar .boolean 1)) q15 ((3 * ((6 * x2) + x3)).toNatClampNeg) (fX9_mag ((x1 - x1 / 8 * 8) ^^^ ((q8.1 / 8) + (2 * (q10.1 / 4))))))) fun q18 => mm_sh q18.2 a0 (.inl 9) (mm_on (fX9_value a0 (3 + (6 * x3)) q18.2) fun q20 => mm_on (mm_R (mm_wI (mm_wI q10.2 q12 (((6 * x2) + x3).toNatClampNeg) (vp_nar .boolean 1)) q15 ((3 * ((6 * x2) + x3)).toNatClampNeg) (fX9_mag ((x1 - x1 / 8 * 8) ^^^ ((q8.1 / 8) + (2 * (q10.1 / 4)))))) a0 25) fun q21 => mm_ar q20.2 q21 0 fun n22 => mm_ib ((3 * ((6 * x2) + x3)) + 1) n22 (mm_sh (mm_wI q20.2 q21 (((3 * ((6 * x2) + x3)) + 1).toNatClampNeg) ((16 * q18.1) + q20.1)) a0 (.inl 9) (mm_on (fX9_value a0 ((3 + (6 * x3)) + 2) (mm_wI q20.2 q21 (((3 * ((6 * x2) + x3)) + 1).toNatClampNeg) ((16 * q18.1) + q20.1))) fun q25 => mm_sh q25.2 a0 (.inl 9) (mm_on (fX9_value a0 ((3 + (6 * x3)) + 4) q25.2) fun q27 => mm_on (mm_R (mm_wI q20.2 q21 (((3 * ((6 * x2) + x3)) + 1).toNatClampNeg) ((16 * q18.1) + q20.1)) a0 25) fun q28 => mm_ar q27.2 q28 0 fun n29 => mm_ib ((3 * ((6 * x2) + x3)) + 2) n29 ((k11 a0 x1 x2 (x3 + 1) (mm_wI q27.2 q28 (((3 * ((6 * x2) + x3)) + 2).toNatClampNeg) (fX9_subcodeOf q25.1 q8.1 q27.1 q10.1)))))))))))))) else (if x4 = 0 then (fX9_linkPacket_23 k11 n a0 x1 x2 x3 0 (x5 + 1) σ) else mm_sh σ a0 (.inl 9) (mm_on (fX9_value a0 ((3 + (6 * x3)) + x5) σ) fun q33 => (if q33.1 = (-1) then (fX9_linkPacket_23 k11 n a0 x1 x2 x3 0 (x5 + 1) q33.2) else (fX9_linkPacket_23 k11 n a0 x1 x2 x3 1 (x5 + 1) q33.2)))))
def fX9_linkPacket_11  : Nat → Nat → Int32 → Int32 → Int32 → mm_M → Option mm_M
  | 0 => fun _ _ _ _ _ => none
  | n + 1 => fun a0 x1 x2 x3 σ =>
  (if 6 ≤ x3 then some (σ) else (fX9_linkPacket_23 (fX9_linkPacket_11  n) mm_fuel a0 x1 x2 x3 1 0 σ))
def fX9_linkPacket (p0 : Nat) (p1 : Int32) (p2 : Int32) (σ : mm_M) : Option mm_M :=
  mm_sh σ p0 (.inl 9) (mm_on (fX9_value p0 2 σ) fun q2 => (if q2.1 = 0 then (fX9_linkPacket_11  mm_fuel p0 p1 p2 0 q2.2) else some (q2.2)))
set_option maxHeartbeats 4000000 in
set_option maxRecDepth 100000 in
theorem kX9_linkPacket_23 {G : mm_G} {A : Nat → Prop} {ini : Bool} {k11 : Nat → Int32 → Int32 → Int32 → mm_M → Option mm_M} {R : mm_M} (hk11 : ∀ a0 x1 x2 x3 σ, k11 a0 x1 x2 x3 σ = some R → mm_J cd_Y G RX9 cX9_linkPacket 9 none ini rmX9_linkPacket A (mm_QF cd_Y G A (mm_Pv R) rmX9_linkPacket.cells rmX9_linkPacket.slots) 11 [(0, .ref a0), (1, .int x1), (2, .int x2), (3, .int x3)] [] σ 0 0) : ∀ (a0 : Nat) (x1 : Int32) (x2 : Int32) (x3 : Int32) (x4 : Int32) (x5 : Int32) (σ : mm_M), fX9_linkPacket_23 k11 mm_fuel a0 x1 x2 x3 x4 x5 σ = some R → mm_J cd_Y G RX9 cX9_linkPacket 9 none ini rmX9_linkPacket A (mm_QF cd_Y G A (mm_Pv R) rmX9_linkPacket.cells rmX9_linkPacket.slots) 23 [(0, .ref a0), (1, .int x1), (2, .int x2), (3, .int x3), (4, .int x4), (5, .int x5)] [] σ 0 0 := by
  generalize mm_fuel = n
  induction n with
  | zero => intro a0 x1 x2 x3 x4 x5 σ hf; cases hf
  | succ n ih =>
    intro a0 x1 x2 x3 x4 x5 σ hf
    unfold fX9_linkPacket_23 at hf
    refine mm_iload (j := 5) dX9_linkPacket_23 rfl ?_
    refine mm_bipush (v := 6) dX9_linkPacket_25 (by decide) ?_
    refine mm_icmp_ge (tgt := 65) dX9_linkPacket_27 (by decide) (fun c5 => ?_) (fun c5 => ?_)
    · rw [if_pos c5] at hf
      refine mm_iload (j := 4) dX9_linkPacket_65 rfl ?_
      refine mm_if_eq (tgt := 206) dX9_linkPacket_67 (by decide) (fun c6 => ?_) (fun c6 => ?_)
      · rw [if_pos c6] at hf
        refine mm_iinc (j := 3) (L' := [(3, .int (x3 + 1)), (0, .ref a0), (1, .int x1), (2, .int x2), (4, .int x4), (5, .int x5)]) dX9_linkPacket_206 rfl rfl (by decide) rfl ?_
        refine mm_goto (tgt := 11) dX9_linkPacket_209 (by decide) ?_
        refine mm_sub [1, 2, 3, 0] rfl ?_
        exact hk11 a0 x1 x2 (x3 + 1) σ hf
      · rw [if_neg c6] at hf
        refine mm_iconst (v := 3) dX9_linkPacket_70 (by decide) ?_
        refine mm_bipush (v := 6) dX9_linkPacket_71 (by decide) ?_
        refine mm_iload_n (j := 3) dX9_linkPacket_73 rfl rfl ?_
        refine mm_imul dX9_linkPacket_74 ?_
        refine mm_iadd dX9_linkPacket_75 ?_
        refine mm_istore (L' := [(5, .int (3 + (6 * x3))), (0, .ref a0), (1, .int x1), (2, .int x2), (3, .int x3), (4, .int x4)]) dX9_linkPacket_76 (by decide) rfl ?_
        refine mm_aload_n (j := 1) dX9_linkPacket_78 rfl rfl ?_
        refine mm_iload (j := 0) dX9_linkPacket_79 rfl ?_
        refine mm_iconst (v := 3) dX9_linkPacket_81 (by decide) ?_
        refine mm_iadd dX9_linkPacket_82 ?_
        obtain ⟨hs7, hf⟩ := mm_sh_s hf
        obtain ⟨q8, hq8, hf⟩ := mm_on_s hf
        refine mm_callVi cd_ok (kX9_value a0 ((3 + (6 * x3)) + 3) hq8) hs7 rfl (Or.inl tw_1035) cdX9_value tw_1037 ts_44 nmX9_value rfl rfl (by simp only [List.map_cons, List.map_nil, mm_rf_cat]; exact Nat.le_of_ble_eq_true rfl) dX9_linkPacket_83 ⟨Nat.le_of_ble_eq_true rfl, Nat.le_of_ble_eq_true rfl⟩ ⟨Nat.le_of_ble_eq_true rfl, Nat.le_of_ble_eq_true rfl⟩ ?_
        refine mm_istore (L' := [(6, .int q8.1), (5, .int (3 + (6 * x3))), (0, .ref a0), (1, .int x1), (2, .int x2), (3, .int x3), (4, .int x4)]) dX9_linkPacket_86 (by decide) rfl ?_
        refine mm_aload_n (j := 2) dX9_linkPacket_88 rfl rfl ?_
        refine mm_iload (j := 1) dX9_linkPacket_89 rfl ?_
        refine mm_iconst (v := 5) dX9_linkPacket_91 (by decide) ?_
        refine mm_iadd dX9_linkPacket_92 ?_
        obtain ⟨hs9, hf⟩ := mm_sh_s hf
        obtain ⟨q10, hq10, hf⟩ := mm_on_s hf
        refine mm_callVi cd_ok (kX9_value a0 ((3 + (6 * x3)) + 5) hq10) hs9 rfl (Or.inl tw_1035) cdX9_value tw_1037 ts_44 nmX9_value rfl rfl (by simp only [List.map_cons, List.map_nil, mm_rf_cat]; exact Nat.le_of_ble_eq_true rfl) dX9_linkPacket_93 ⟨Nat.le_of_ble_eq_true rfl, Nat.le_of_ble_eq_true rfl⟩ ⟨Nat.le_of_ble_eq_true rfl, Nat.le_of_ble_eq_true rfl⟩ ?_
        refine mm_istore (L' := [(7, .int q10.1), (6, .int q8.1), (5, .int (3 + (6 * x3))), (0, .ref a0), (1, .int x1), (2, .int x2), (3, .int x3), (4, .int x4)]) dX9_linkPacket_96 (by decide) rfl ?_
        refine mm_bipush (v := 6) dX9_linkPacket_98 (by decide) ?_
        refine mm_iload_n (j := 5) dX9_linkPacket_100 rfl rfl ?_
        refine mm_imul dX9_linkPacket_101 ?_
        refine mm_iload_n (j := 6) dX9_linkPacket_102 rfl rfl ?_
        refine mm_iadd dX9_linkPacket_103 ?_
        refine mm_istore (L' := [(8, .int ((6 * x2) + x3)), (7, .int q10.1), (6, .int q8.1), (5, .int (3 + (6 * x3))), (0, .ref a0), (1, .int x1), (2, .int x2), (3, .int x3), (4, .int x4)]) dX9_linkPacket_104 (by decide) rfl ?_
        refine mm_aload_n (j := 4) dX9_linkPacket_106 rfl rfl ?_
        obtain ⟨hs11, hf⟩ := mm_sh_s hf
        refine mm_get (c := 9) (k := 26) (v := va_rf (mm_R q10.2 a0 26)) cd_ok ⟨_, _, _, rfl, by decide, Or.inl tw_820⟩ hs11 rfl dX9_linkPacket_107 ?_
        refine mm_iload (j := 0) dX9_linkPacket_110 rfl ?_
        refine mm_iconst (v := 1) dX9_linkPacket_112 (by decide) ?_
        obtain ⟨q12, hq12, hf⟩ := mm_on_s hf
        rw [hq12, mm_rf_some]
        obtain ⟨n13, hn13, hf⟩ := mm_ar_s hf
        obtain ⟨hi14, hf⟩ := mm_ib_s hf
        refine mm_zast hn13 rfl hi14 dX9_linkPacket_113 ?_
        refine mm_aload_n (j := 4) dX9_linkPacket_114 rfl rfl ?_
        refine mm_get (c := 9) (k := 25) (v := va_rf (mm_R (mm_wI q10.2 q12 (((6 * x2) + x3).toNatClampNeg) (vp_nar .boolean 1)) a0 25)) cd_ok ⟨_, _, _, rfl, by decide, Or.inl tw_819⟩ hs11 rfl dX9_linkPacket_115 ?_
        refine mm_iconst (v := 3) dX9_linkPacket_118 (by decide) ?_
        refine mm_iload (j := 0) dX9_linkPacket_119 rfl ?_
        refine mm_imul dX9_linkPacket_121 ?_
        refine mm_iload_n (j := 5) dX9_linkPacket_122 rfl rfl ?_
        refine mm_bipush (v := 8) dX9_linkPacket_123 (by decide) ?_
        refine mm_irem dX9_linkPacket_125 (by decide) ?_
        refine mm_iload (j := 2) dX9_linkPacket_126 rfl ?_
        refine mm_bipush (v := 8) dX9_linkPacket_128 (by decide) ?_
        refine mm_idiv dX9_linkPacket_130 (by decide) ?_
        refine mm_iconst (v := 2) dX9_linkPacket_131 (by decide) ?_
        refine mm_iload (j := 1) dX9_linkPacket_132 rfl ?_
        refine mm_iconst (v := 4) dX9_linkPacket_134 (by decide) ?_
        refine mm_idiv dX9_linkPacket_135 (by decide) ?_
        refine mm_imul dX9_linkPacket_136 ?_
        refine mm_iadd dX9_linkPacket_137 ?_
        refine mm_ixor dX9_linkPacket_138 ?_
        refine mm_callSi cd_ok (kX9_mag ((x1 - x1 / 8 * 8) ^^^ ((q8.1 / 8) + (2 * (q10.1 / 4)))) _ rfl) (Or.inl tw_1039) cdX9_mag tw_1040 nmX9_mag rfl rfl (by simp only [List.map_cons, List.map_nil, mm_rf_cat]; exact Nat.le_of_ble_eq_true rfl) dX9_linkPacket_139 ⟨Nat.le_of_ble_eq_true rfl, Nat.le_of_ble_eq_true rfl⟩ ⟨Nat.le_of_ble_eq_true rfl, Nat.le_of_ble_eq_true rfl⟩ ?_
        obtain ⟨q15, hq15, hf⟩ := mm_on_s hf
        rw [hq15, mm_rf_some]
        obtain ⟨n16, hn16, hf⟩ := mm_ar_s hf
        obtain ⟨hi17, hf⟩ := mm_ib_s hf
        refine mm_iast hn16 rfl hi17 dX9_linkPacket_142 ?_
        refine mm_aload_n (j := 4) dX9_linkPacket_143 rfl rfl ?_
        refine mm_get (c := 9) (k := 25) (v := va_rf (mm_R (mm_wI (mm_wI q10.2 q12 (((6 * x2) + x3).toNatClampNeg) (vp_nar .boolean 1)) q15 ((3 * ((6 * x2) + x3)).toNatClampNeg) (fX9_mag ((x1 - x1 / 8 * 8) ^^^ ((q8.1 / 8) + (2 * (q10.1 / 4)))))) a0 25)) cd_ok ⟨_, _, _, rfl, by decide, Or.inl tw_819⟩ hs11 rfl dX9_linkPacket_144 ?_
        refine mm_iconst (v := 3) dX9_linkPacket_147 (by decide) ?_
        refine mm_iload (j := 0) dX9_linkPacket_148 rfl ?_
        refine mm_imul dX9_linkPacket_150 ?_
        refine mm_iconst (v := 1) dX9_linkPacket_151 (by decide) ?_
        refine mm_iadd dX9_linkPacket_152 ?_
        refine mm_bipush (v := 16) dX9_linkPacket_153 (by decide) ?_
        refine mm_aload_n (j := 4) dX9_linkPacket_155 rfl rfl ?_
        refine mm_iload (j := 3) dX9_linkPacket_156 rfl ?_
        refine mm_iconst (v := 1) dX9_linkPacket_158 (by decide) ?_
        refine mm_iadd dX9_linkPacket_159 ?_
        obtain ⟨q18, hq18, hf⟩ := mm_on_s hf
        refine mm_callVi cd_ok (kX9_value a0 ((3 + (6 * x3)) + 1) hq18) hs11 rfl (Or.inl tw_1035) cdX9_value tw_1037 ts_44 nmX9_value rfl rfl (by simp only [List.map_cons, List.map_nil, mm_rf_cat]; exact Nat.le_of_ble_eq_true rfl) dX9_linkPacket_160 ⟨Nat.le_of_ble_eq_true rfl, Nat.le_of_ble_eq_true rfl⟩ ⟨Nat.le_of_ble_eq_true rfl, Nat.le_of_ble_eq_true rfl⟩ ?_
        refine mm_imul dX9_linkPacket_163 ?_
        refine mm_aload_n (j := 4) dX9_linkPacket_164 rfl rfl ?_
        refine mm_iload (j := 3) dX9_linkPacket_165 rfl ?_
        obtain ⟨hs19, hf⟩ := mm_sh_s hf
        obtain ⟨q20, hq20, hf⟩ := mm_on_s hf
        refine mm_callVi cd_ok (kX9_value a0 (3 + (6 * x3)) hq20) hs19 rfl (Or.inl tw_1035) cdX9_value tw_1037 ts_44 nmX9_value rfl rfl (by simp only [List.map_cons, List.map_nil, mm_rf_cat]; exact Nat.le_of_ble_eq_true rfl) dX9_linkPacket_167 ⟨Nat.le_of_ble_eq_true rfl, Nat.le_of_ble_eq_true rfl⟩ ⟨Nat.le_of_ble_eq_true rfl, Nat.le_of_ble_eq_true rfl⟩ ?_
        refine mm_iadd dX9_linkPacket_170 ?_
        obtain ⟨q21, hq21, hf⟩ := mm_on_s hf
        rw [hq21, mm_rf_some]
        obtain ⟨n22, hn22, hf⟩ := mm_ar_s hf
        obtain ⟨hi23, hf⟩ := mm_ib_s hf
        refine mm_iast hn22 rfl hi23 dX9_linkPacket_171 ?_
        refine mm_aload_n (j := 4) dX9_linkPacket_172 rfl rfl ?_
        obtain ⟨hs24, hf⟩ := mm_sh_s hf
        refine mm_get (c := 9) (k := 25) (v := va_rf (mm_R (mm_wI q20.2 q21 (((3 * ((6 * x2) + x3)) + 1).toNatClampNeg) ((16 * q18.1) + q20.1)) a0 25)) cd_ok ⟨_, _, _, rfl, by decide, Or.inl tw_819⟩ hs24 rfl dX9_linkPacket_173 ?_
        refine mm_iconst (v := 3) dX9_linkPacket_176 (by decide) ?_
        refine mm_iload (j := 0) dX9_linkPacket_177 rfl ?_
        refine mm_imul dX9_linkPacket_179 ?_
        refine mm_iconst (v := 2) dX9_linkPacket_180 (by decide) ?_
        refine mm_iadd dX9_linkPacket_181 ?_
        refine mm_aload_n (j := 4) dX9_linkPacket_182 rfl rfl ?_
        refine mm_iload (j := 3) dX9_linkPacket_183 rfl ?_
        refine mm_iconst (v := 2) dX9_linkPacket_185 (by decide) ?_
        refine mm_iadd dX9_linkPacket_186 ?_
        obtain ⟨q25, hq25, hf⟩ := mm_on_s hf
        refine mm_callVi cd_ok (kX9_value a0 ((3 + (6 * x3)) + 2) hq25) hs24 rfl (Or.inl tw_1035) cdX9_value tw_1037 ts_44 nmX9_value rfl rfl (by simp only [List.map_cons, List.map_nil, mm_rf_cat]; exact Nat.le_of_ble_eq_true rfl) dX9_linkPacket_187 ⟨Nat.le_of_ble_eq_true rfl, Nat.le_of_ble_eq_true rfl⟩ ⟨Nat.le_of_ble_eq_true rfl, Nat.le_of_ble_eq_true rfl⟩ ?_
        refine mm_iload (j := 2) dX9_linkPacket_190 rfl ?_
        refine mm_aload_n (j := 4) dX9_linkPacket_192 rfl rfl ?_
        refine mm_iload (j := 3) dX9_linkPacket_193 rfl ?_
        refine mm_iconst (v := 4) dX9_linkPacket_195 (by decide) ?_
        refine mm_iadd dX9_linkPacket_196 ?_
        obtain ⟨hs26, hf⟩ := mm_sh_s hf
        obtain ⟨q27, hq27, hf⟩ := mm_on_s hf
        refine mm_callVi cd_ok (kX9_value a0 ((3 + (6 * x3)) + 4) hq27) hs26 rfl (Or.inl tw_1035) cdX9_value tw_1037 ts_44 nmX9_value rfl rfl (by simp only [List.map_cons, List.map_nil, mm_rf_cat]; exact Nat.le_of_ble_eq_true rfl) dX9_linkPacket_197 ⟨Nat.le_of_ble_eq_true rfl, Nat.le_of_ble_eq_true rfl⟩ ⟨Nat.le_of_ble_eq_true rfl, Nat.le_of_ble_eq_true rfl⟩ ?_
        refine mm_iload (j := 1) dX9_linkPacket_200 rfl ?_
        refine mm_callSi cd_ok (kX9_subcodeOf q25.1 q8.1 q27.1 q10.1 _ rfl) (Or.inl tw_1050) cdX9_subcodeOf tw_1051 nmX9_subcodeOf rfl rfl (by simp only [List.map_cons, List.map_nil, mm_rf_cat]; exact Nat.le_of_ble_eq_true rfl) dX9_linkPacket_202 ⟨Nat.le_of_ble_eq_true rfl, Nat.le_of_ble_eq_true rfl⟩ ⟨Nat.le_of_ble_eq_true rfl, Nat.le_of_ble_eq_true rfl⟩ ?_
        obtain ⟨q28, hq28, hf⟩ := mm_on_s hf
        rw [hq28, mm_rf_some]
        obtain ⟨n29, hn29, hf⟩ := mm_ar_s hf
        obtain ⟨hi30, hf⟩ := mm_ib_s hf
        refine mm_iast hn29 rfl hi30 dX9_linkPacket_205 ?_
        refine mm_iinc (j := 7) (L' := [(3, .int (x3 + 1)), (8, .int ((6 * x2) + x3)), (7, .int q10.1), (6, .int q8.1), (5, .int (3 + (6 * x3))), (0, .ref a0), (1, .int x1), (2, .int x2), (4, .int x4)]) dX9_linkPacket_206 rfl rfl (by decide) rfl ?_
        refine mm_goto (tgt := 11) dX9_linkPacket_209 (by decide) ?_
        refine mm_sub [5, 6, 7, 0] rfl ?_
        exact hk11 a0 x1 x2 (x3 + 1) (mm_wI q27.2 q28 (((3 * ((6 * x2) + x3)) + 2).toNatClampNeg) (fX9_subcodeOf q25.1 q8.1 q27.1 q10.1)) hf
    · rw [if_neg c5] at hf
      refine mm_iload (j := 4) dX9_linkPacket_30 rfl ?_
      refine mm_if_eq (tgt := 56) dX9_linkPacket_32 (by decide) (fun c31 => ?_) (fun c31 => ?_)
      · rw [if_pos c31] at hf
        refine mm_iconst (v := 0) dX9_linkPacket_56 (by decide) ?_
        refine mm_istore (L' := [(4, .int 0), (0, .ref a0), (1, .int x1), (2, .int x2), (3, .int x3), (5, .int x5)]) dX9_linkPacket_57 (by decide) rfl ?_
        refine mm_iinc (j := 5) (L' := [(5, .int (x5 + 1)), (4, .int 0), (0, .ref a0), (1, .int x1), (2, .int x2), (3, .int x3)]) dX9_linkPacket_59 rfl rfl (by decide) rfl ?_
        refine mm_goto (tgt := 23) dX9_linkPacket_62 (by decide) ?_
        refine mm_sub [2, 3, 4, 5, 1, 0] rfl ?_
        exact ih a0 x1 x2 x3 0 (x5 + 1) σ hf
      · rw [if_neg c31] at hf
        refine mm_aload_n (j := 0) dX9_linkPacket_35 rfl rfl ?_
        refine mm_iconst (v := 3) dX9_linkPacket_36 (by decide) ?_
        refine mm_bipush (v := 6) dX9_linkPacket_37 (by decide) ?_
        refine mm_iload_n (j := 3) dX9_linkPacket_39 rfl rfl ?_
        refine mm_imul dX9_linkPacket_40 ?_
        refine mm_iadd dX9_linkPacket_41 ?_
        refine mm_iload (j := 5) dX9_linkPacket_42 rfl ?_
        refine mm_iadd dX9_linkPacket_44 ?_
        obtain ⟨hs32, hf⟩ := mm_sh_s hf
        obtain ⟨q33, hq33, hf⟩ := mm_on_s hf
        refine mm_callVi cd_ok (kX9_value a0 ((3 + (6 * x3)) + x5) hq33) hs32 rfl (Or.inl tw_1035) cdX9_value tw_1037 ts_44 nmX9_value rfl rfl (by simp only [List.map_cons, List.map_nil, mm_rf_cat]; exact Nat.le_of_ble_eq_true rfl) dX9_linkPacket_45 ⟨Nat.le_of_ble_eq_true rfl, Nat.le_of_ble_eq_true rfl⟩ ⟨Nat.le_of_ble_eq_true rfl, Nat.le_of_ble_eq_true rfl⟩ ?_
        refine mm_iconst (v := (-1)) dX9_linkPacket_48 (by decide) ?_
        refine mm_icmp_eq (tgt := 56) dX9_linkPacket_49 (by decide) (fun c34 => ?_) (fun c34 => ?_)
        · rw [if_pos c34] at hf
          refine mm_iconst (v := 0) dX9_linkPacket_56 (by decide) ?_
          refine mm_istore (L' := [(4, .int 0), (0, .ref a0), (1, .int x1), (2, .int x2), (3, .int x3), (5, .int x5)]) dX9_linkPacket_57 (by decide) rfl ?_
          refine mm_iinc (j := 5) (L' := [(5, .int (x5 + 1)), (4, .int 0), (0, .ref a0), (1, .int x1), (2, .int x2), (3, .int x3)]) dX9_linkPacket_59 rfl rfl (by decide) rfl ?_
          refine mm_goto (tgt := 23) dX9_linkPacket_62 (by decide) ?_
          refine mm_sub [2, 3, 4, 5, 1, 0] rfl ?_
          exact ih a0 x1 x2 x3 0 (x5 + 1) q33.2 hf
        · rw [if_neg c34] at hf
          refine mm_iconst (v := 1) dX9_linkPacket_52 (by decide) ?_
          refine mm_goto (tgt := 57) dX9_linkPacket_53 (by decide) ?_
          refine mm_istore (L' := [(4, .int 1), (0, .ref a0), (1, .int x1), (2, .int x2), (3, .int x3), (5, .int x5)]) dX9_linkPacket_57 (by decide) rfl ?_
          refine mm_iinc (j := 5) (L' := [(5, .int (x5 + 1)), (4, .int 1), (0, .ref a0), (1, .int x1), (2, .int x2), (3, .int x3)]) dX9_linkPacket_59 rfl rfl (by decide) rfl ?_
          refine mm_goto (tgt := 23) dX9_linkPacket_62 (by decide) ?_
          refine mm_sub [2, 3, 4, 5, 1, 0] rfl ?_
          exact ih a0 x1 x2 x3 1 (x5 + 1) q33.2 hf
set_option maxHeartbeats 4000000 in
set_option maxRecDepth 100000 in
theorem kX9_linkPacket_11 {G : mm_G} {A : Nat → Prop} {ini : Bool}  {R : mm_M}  : ∀ (a0 : Nat) (x1 : Int32) (x2 : Int32) (x3 : Int32) (σ : mm_M), fX9_linkPacket_11  mm_fuel a0 x1 x2 x3 σ = some R → mm_J cd_Y G RX9 cX9_linkPacket 9 none ini rmX9_linkPacket A (mm_QF cd_Y G A (mm_Pv R) rmX9_linkPacket.cells rmX9_linkPacket.slots) 11 [(0, .ref a0), (1, .int x1), (2, .int x2), (3, .int x3)] [] σ 0 0 := by
  generalize mm_fuel = n
  induction n with
  | zero => intro a0 x1 x2 x3 σ hf; cases hf
  | succ n ih =>
    intro a0 x1 x2 x3 σ hf
    unfold fX9_linkPacket_11 at hf
    refine mm_iload_n (j := 3) dX9_linkPacket_11 rfl rfl ?_
    refine mm_bipush (v := 6) dX9_linkPacket_12 (by decide) ?_
    refine mm_icmp_ge (tgt := 212) dX9_linkPacket_14 (by decide) (fun c4 => ?_) (fun c4 => ?_)
    · rw [if_pos c4] at hf
      cases hf
      exact mm_vret rfl dX9_linkPacket_212 ⟨rfl, rfl⟩
    · rw [if_neg c4] at hf
      refine mm_iconst (v := 1) dX9_linkPacket_17 (by decide) ?_
      refine mm_istore (L' := [(4, .int 1), (0, .ref a0), (1, .int x1), (2, .int x2), (3, .int x3)]) dX9_linkPacket_18 (by decide) rfl ?_
      refine mm_iconst (v := 0) dX9_linkPacket_20 (by decide) ?_
      refine mm_istore (L' := [(5, .int 0), (4, .int 1), (0, .ref a0), (1, .int x1), (2, .int x2), (3, .int x3)]) dX9_linkPacket_21 (by decide) rfl ?_
      refine mm_sub [2, 3, 4, 5, 1, 0] rfl ?_
      exact kX9_linkPacket_23 ih a0 x1 x2 x3 1 0 σ hf
set_option maxHeartbeats 4000000 in
set_option maxRecDepth 100000 in
theorem kX9_linkPacket {G : mm_G} {A : Nat → Prop} (p0 : Nat) (p1 : Int32) (p2 : Int32) {σ : mm_M} {R : mm_M} (hf : fX9_linkPacket p0 p1 p2 σ = some R) : mm_C cd_Y G yX9_linkPacket cX9_linkPacket 9 none rmX9_linkPacket A [.ref p0, .int p1, .int p2] σ (mm_Pv R) := by
  refine mm_C.of (by decide) (Nat.le_of_ble_eq_true rfl) ?_
  unfold fX9_linkPacket at hf
  have e0 : lv_args 0 [.ref p0, .int p1, .int p2] = [(0, .ref p0), (1, .int p1), (2, .int p2)] := rfl
  rw [e0]
  generalize hini : (yX9_linkPacket.name == "<init>") = ini
  clear e0
  clear hini
  refine mm_aload_n (j := 0) dX9_linkPacket_0 rfl rfl ?_
  refine mm_iconst (v := 2) dX9_linkPacket_1 (by decide) ?_
  obtain ⟨hs1, hf⟩ := mm_sh_s hf
  obtain ⟨q2, hq2, hf⟩ := mm_on_s hf
  refine mm_callVi cd_ok (kX9_value p0 2 hq2) hs1 rfl (Or.inl tw_1035) cdX9_value tw_1037 ts_44 nmX9_value rfl rfl (by simp only [List.map_cons, List.map_nil, mm_rf_cat]; exact Nat.le_of_ble_eq_true rfl) dX9_linkPacket_2 ⟨Nat.le_of_ble_eq_true rfl, Nat.le_of_ble_eq_true rfl⟩ ⟨Nat.le_of_ble_eq_true rfl, Nat.le_of_ble_eq_true rfl⟩ ?_
  refine mm_if_eq (tgt := 9) dX9_linkPacket_5 (by decide) (fun c3 => ?_) (fun c3 => ?_)
  · rw [if_pos c3] at hf
    refine mm_iconst (v := 0) dX9_linkPacket_9 (by decide) ?_
    refine mm_istore_n (L' := [(3, .int 0), (0, .ref p0), (1, .int p1), (2, .int p2)]) dX9_linkPacket_10 rfl (by decide) rfl ?_
    refine mm_sub [1, 2, 3, 0] rfl ?_
    exact kX9_linkPacket_11  p0 p1 p2 0 q2.2 hf
  · rw [if_neg c3] at hf
    cases hf
    exact mm_vret rfl dX9_linkPacket_8 ⟨rfl, rfl⟩
theorem dX9_packet_0 : decode cX9_packet 0 = .ok (.aload_n 0, 1) := by decide +kernel
theorem dX9_packet_1 : decode cX9_packet 1 = .ok (.aload_n 0, 1) := by decide +kernel
theorem dX9_packet_2 : decode cX9_packet 2 = .ok (.getfield 190, 3) := by decide +kernel
theorem dX9_packet_5 : decode cX9_packet 5 = .ok (.bipush 42, 2) := by decide +kernel
theorem dX9_packet_7 : decode cX9_packet 7 = .ok (.if_icmp .lt 7, 3) := by decide +kernel
theorem dX9_packet_10 : decode cX9_packet 10 = .ok (.iconst 1, 1) := by decide +kernel
theorem dX9_packet_11 : decode cX9_packet 11 = .ok (.goto 4, 3) := by decide +kernel
theorem dX9_packet_14 : decode cX9_packet 14 = .ok (.iconst 0, 1) := by decide +kernel
theorem dX9_packet_15 : decode cX9_packet 15 = .ok (.invokevirtual 169, 3) := by decide +kernel
theorem dX9_packet_18 : decode cX9_packet 18 = .ok (.ifCond .ne 5, 3) := by decide +kernel
theorem dX9_packet_21 : decode cX9_packet 21 = .ok (.iconst 0, 1) := by decide +kernel
theorem dX9_packet_22 : decode cX9_packet 22 = .ok (.ireturn, 1) := by decide +kernel
theorem dX9_packet_23 : decode cX9_packet 23 = .ok (.aload_n 0, 1) := by decide +kernel
theorem dX9_packet_24 : decode cX9_packet 24 = .ok (.iconst 0, 1) := by decide +kernel
theorem dX9_packet_25 : decode cX9_packet 25 = .ok (.putfield 190, 3) := by decide +kernel
theorem dX9_packet_28 : decode cX9_packet 28 = .ok (.aload_n 0, 1) := by decide +kernel
theorem dX9_packet_29 : decode cX9_packet 29 = .ok (.iconst 0, 1) := by decide +kernel
theorem dX9_packet_30 : decode cX9_packet 30 = .ok (.invokevirtual 215, 3) := by decide +kernel
theorem dX9_packet_33 : decode cX9_packet 33 = .ok (.istore_n 1, 1) := by decide +kernel
theorem dX9_packet_34 : decode cX9_packet 34 = .ok (.aload_n 0, 1) := by decide +kernel
theorem dX9_packet_35 : decode cX9_packet 35 = .ok (.iconst 1, 1) := by decide +kernel
theorem dX9_packet_36 : decode cX9_packet 36 = .ok (.invokevirtual 215, 3) := by decide +kernel
theorem dX9_packet_39 : decode cX9_packet 39 = .ok (.istore_n 2, 1) := by decide +kernel
theorem dX9_packet_40 : decode cX9_packet 40 = .ok (.iload_n 1, 1) := by decide +kernel
theorem dX9_packet_41 : decode cX9_packet 41 = .ok (.iconst (-1), 1) := by decide +kernel
theorem dX9_packet_42 : decode cX9_packet 42 = .ok (.if_icmp .eq 8, 3) := by decide +kernel
theorem dX9_packet_45 : decode cX9_packet 45 = .ok (.iload_n 2, 1) := by decide +kernel
theorem dX9_packet_46 : decode cX9_packet 46 = .ok (.iconst (-1), 1) := by decide +kernel
theorem dX9_packet_47 : decode cX9_packet 47 = .ok (.if_icmp .ne 15, 3) := by decide +kernel
theorem dX9_packet_50 : decode cX9_packet 50 = .ok (.aload_n 0, 1) := by decide +kernel
theorem dX9_packet_51 : decode cX9_packet 51 = .ok (.getfield 44, 3) := by decide +kernel
theorem dX9_packet_54 : decode cX9_packet 54 = .ok (.iconst 0, 1) := by decide +kernel
theorem dX9_packet_55 : decode cX9_packet 55 = .ok (.dup2, 1) := by decide +kernel
theorem dX9_packet_56 : decode cX9_packet 56 = .ok (.iaload, 1) := by decide +kernel
theorem dX9_packet_57 : decode cX9_packet 57 = .ok (.iconst 1, 1) := by decide +kernel
theorem dX9_packet_58 : decode cX9_packet 58 = .ok (.iadd, 1) := by decide +kernel
theorem dX9_packet_59 : decode cX9_packet 59 = .ok (.iastore, 1) := by decide +kernel
theorem dX9_packet_60 : decode cX9_packet 60 = .ok (.iconst (-1), 1) := by decide +kernel
theorem dX9_packet_61 : decode cX9_packet 61 = .ok (.ireturn, 1) := by decide +kernel
theorem dX9_packet_62 : decode cX9_packet 62 = .ok (.iload_n 1, 1) := by decide +kernel
theorem dX9_packet_63 : decode cX9_packet 63 = .ok (.invokestatic 232, 3) := by decide +kernel
theorem dX9_packet_66 : decode cX9_packet 66 = .ok (.istore_n 3, 1) := by decide +kernel
theorem dX9_packet_67 : decode cX9_packet 67 = .ok (.iload_n 1, 1) := by decide +kernel
theorem dX9_packet_68 : decode cX9_packet 68 = .ok (.bipush 8, 2) := by decide +kernel
theorem dX9_packet_70 : decode cX9_packet 70 = .ok (.idiv, 1) := by decide +kernel
theorem dX9_packet_71 : decode cX9_packet 71 = .ok (.iconst 2, 1) := by decide +kernel
theorem dX9_packet_72 : decode cX9_packet 72 = .ok (.iload_n 2, 1) := by decide +kernel
theorem dX9_packet_73 : decode cX9_packet 73 = .ok (.imul, 1) := by decide +kernel
theorem dX9_packet_74 : decode cX9_packet 74 = .ok (.iadd, 1) := by decide +kernel
theorem dX9_packet_75 : decode cX9_packet 75 = .ok (.istore 4, 2) := by decide +kernel
theorem dX9_packet_77 : decode cX9_packet 77 = .ok (.iload 4, 2) := by decide +kernel
theorem dX9_packet_79 : decode cX9_packet 79 = .ok (.ifCond .ne 11, 3) := by decide +kernel
theorem dX9_packet_82 : decode cX9_packet 82 = .ok (.aload_n 0, 1) := by decide +kernel
theorem dX9_packet_83 : decode cX9_packet 83 = .ok (.iload_n 3, 1) := by decide +kernel
theorem dX9_packet_84 : decode cX9_packet 84 = .ok (.invokevirtual 235, 3) := by decide +kernel
theorem dX9_packet_87 : decode cX9_packet 87 = .ok (.goto 73, 3) := by decide +kernel
theorem dX9_packet_90 : decode cX9_packet 90 = .ok (.iload 4, 2) := by decide +kernel
theorem dX9_packet_92 : decode cX9_packet 92 = .ok (.bipush 24, 2) := by decide +kernel
theorem dX9_packet_94 : decode cX9_packet 94 = .ok (.if_icmp .le 10, 3) := by decide +kernel
theorem dX9_packet_97 : decode cX9_packet 97 = .ok (.iload 4, 2) := by decide +kernel
theorem dX9_packet_99 : decode cX9_packet 99 = .ok (.bipush 27, 2) := by decide +kernel
theorem dX9_packet_101 : decode cX9_packet 101 = .ok (.if_icmp .ne 59, 3) := by decide +kernel
theorem dX9_packet_104 : decode cX9_packet 104 = .ok (.aload_n 0, 1) := by decide +kernel
theorem dX9_packet_105 : decode cX9_packet 105 = .ok (.getfield 84, 3) := by decide +kernel
theorem dX9_packet_108 : decode cX9_packet 108 = .ok (.iload_n 3, 1) := by decide +kernel
theorem dX9_packet_109 : decode cX9_packet 109 = .ok (.iaload, 1) := by decide +kernel
theorem dX9_packet_110 : decode cX9_packet 110 = .ok (.istore 5, 2) := by decide +kernel
theorem dX9_packet_112 : decode cX9_packet 112 = .ok (.iload 5, 2) := by decide +kernel
theorem dX9_packet_114 : decode cX9_packet 114 = .ok (.iconst (-1), 1) := by decide +kernel
theorem dX9_packet_115 : decode cX9_packet 115 = .ok (.if_icmp .ne 16, 3) := by decide +kernel
theorem dX9_packet_118 : decode cX9_packet 118 = .ok (.aload_n 0, 1) := by decide +kernel
theorem dX9_packet_119 : decode cX9_packet 119 = .ok (.getfield 44, 3) := by decide +kernel
theorem dX9_packet_122 : decode cX9_packet 122 = .ok (.iconst 2, 1) := by decide +kernel
theorem dX9_packet_123 : decode cX9_packet 123 = .ok (.dup2, 1) := by decide +kernel
theorem dX9_packet_124 : decode cX9_packet 124 = .ok (.iaload, 1) := by decide +kernel
theorem dX9_packet_125 : decode cX9_packet 125 = .ok (.iconst 1, 1) := by decide +kernel
theorem dX9_packet_126 : decode cX9_packet 126 = .ok (.iadd, 1) := by decide +kernel
theorem dX9_packet_127 : decode cX9_packet 127 = .ok (.iastore, 1) := by decide +kernel
theorem dX9_packet_128 : decode cX9_packet 128 = .ok (.goto 32, 3) := by decide +kernel
theorem dX9_packet_131 : decode cX9_packet 131 = .ok (.iload 4, 2) := by decide +kernel
theorem dX9_packet_133 : decode cX9_packet 133 = .ok (.bipush 27, 2) := by decide +kernel
theorem dX9_packet_135 : decode cX9_packet 135 = .ok (.if_icmp .ne 13, 3) := by decide +kernel
theorem dX9_packet_138 : decode cX9_packet 138 = .ok (.aload_n 0, 1) := by decide +kernel
theorem dX9_packet_139 : decode cX9_packet 139 = .ok (.iload_n 3, 1) := by decide +kernel
theorem dX9_packet_140 : decode cX9_packet 140 = .ok (.iload 5, 2) := by decide +kernel
theorem dX9_packet_142 : decode cX9_packet 142 = .ok (.invokevirtual 238, 3) := by decide +kernel
theorem dX9_packet_145 : decode cX9_packet 145 = .ok (.goto 15, 3) := by decide +kernel
theorem dX9_packet_148 : decode cX9_packet 148 = .ok (.aload_n 0, 1) := by decide +kernel
theorem dX9_packet_149 : decode cX9_packet 149 = .ok (.iload 5, 2) := by decide +kernel
theorem dX9_packet_151 : decode cX9_packet 151 = .ok (.iload 4, 2) := by decide +kernel
theorem dX9_packet_153 : decode cX9_packet 153 = .ok (.iconst 2, 1) := by decide +kernel
theorem dX9_packet_154 : decode cX9_packet 154 = .ok (.iconst 0, 1) := by decide +kernel
theorem dX9_packet_155 : decode cX9_packet 155 = .ok (.bipush 40, 2) := by decide +kernel
theorem dX9_packet_157 : decode cX9_packet 157 = .ok (.invokevirtual 228, 3) := by decide +kernel
theorem dX9_packet_160 : decode cX9_packet 160 = .ok (.iload 4, 2) := by decide +kernel
theorem dX9_packet_162 : decode cX9_packet 162 = .ok (.ireturn, 1) := by decide +kernel
theorem nmX9_packet : mm_nm yX9_packet 0 := ⟨by decide, by decide, by decide +kernel⟩
theorem cdX9_packet : mm_cd cd_Y yX9_packet cX9_packet 6 (some .int) := ⟨tw_1034, tw_8⟩
abbrev rmX9_packet : Room := { frames := 5, cells := 0, slots := 0, locals := 117 }
def fX9_packet_50  (a0 : Nat) (x1 : Int32) (x2 : Int32) (σ : mm_M) : Option (Int32 × mm_M) :=
  mm_sh σ a0 (.inl 9) (mm_on (mm_R σ a0 13) fun q12 => mm_ar σ q12 0 fun n13 => mm_ib 0 n13 (mm_ib 0 n13 (some ((-1), mm_wI σ q12 ((0 : Int32).toNatClampNeg) ((mm_I σ q12 (0 : Int32).toNatClampNeg) + 1)))))
def fX9_packet_104  (a0 : Nat) (x1 : Int32) (x2 : Int32) (x3 : Int32) (x4 : Int32) (σ : mm_M) : Option (Int32 × mm_M) :=
  mm_sh σ a0 (.inl 9) (mm_on (mm_R σ a0 27) fun q20 => mm_ar σ q20 0 fun n21 => mm_ib x3 n21 ((if (mm_I σ q20 x3.toNatClampNeg) = (-1) then mm_on (mm_R σ a0 13) fun q27 => mm_ar σ q27 0 fun n28 => mm_ib 2 n28 (mm_ib 2 n28 (some (x4, mm_wI σ q27 ((2 : Int32).toNatClampNeg) ((mm_I σ q27 (2 : Int32).toNatClampNeg) + 1)))) else (if x4 = 27 then mm_on (fX9_linkPacket a0 x3 (mm_I σ q20 x3.toNatClampNeg) σ) fun q26 => some (x4, q26) else mm_on (fX9_text a0 (mm_I σ q20 x3.toNatClampNeg) x4 2 0 40 σ) fun q25 => some (x4, q25)))))
def fX9_packet_15  (a0 : Nat) (y0 : Int32) (y1 : Nat) (σ : mm_M) : Option (Int32 × mm_M) :=
  mm_sh σ y1 (.inl 9) (mm_on (fX9_goes y1 y0 σ) fun q4 => (if q4.1 = 0 then some (0, q4.2) else mm_sh q4.2 a0 (.inl 9) (mm_on (fX9_value a0 0 (mm_wI q4.2 a0 12 0)) fun q7 => mm_sh q7.2 a0 (.inl 9) (mm_on (fX9_value a0 1 q7.2) fun q9 => (if q7.1 = (-1) then (fX9_packet_50  a0 q7.1 q9.1 q9.2) else (if q9.1 = (-1) then (fX9_packet_50  a0 q7.1 q9.1 q9.2) else (if ((q7.1 / 8) + (2 * q9.1)) = 0 then mm_sh q9.2 a0 (.inl 9) (mm_on (fX9_header a0 (fX9_mag q7.1) q9.2) fun q33 => some ((q7.1 / 8) + (2 * q9.1), q33)) else (if ((q7.1 / 8) + (2 * q9.1)) ≤ 24 then (fX9_packet_104  a0 q7.1 q9.1 (fX9_mag q7.1) ((q7.1 / 8) + (2 * q9.1)) q9.2) else (if ((q7.1 / 8) + (2 * q9.1)) = 27 then (fX9_packet_104  a0 q7.1 q9.1 (fX9_mag q7.1) ((q7.1 / 8) + (2 * q9.1)) q9.2) else some ((q7.1 / 8) + (2 * q9.1), q9.2))))))))))
def fX9_packet (p0 : Nat) (σ : mm_M) : Option (Int32 × mm_M) :=
  mm_sh σ p0 (.inl 9) ((if (mm_I σ p0 12) < 42 then (fX9_packet_15  p0 0 p0 σ) else (fX9_packet_15  p0 1 p0 σ)))
set_option maxHeartbeats 4000000 in
set_option maxRecDepth 100000 in
theorem kX9_packet_50 {G : mm_G} {A : Nat → Prop} {ini : Bool}  {R : (Int32 × mm_M)}  (a0 : Nat) (x1 : Int32) (x2 : Int32) (σ : mm_M) (hf : fX9_packet_50  a0 x1 x2 σ = some R) : mm_J cd_Y G RX9 cX9_packet 6 (some .int) ini rmX9_packet A (mm_QF cd_Y G A (mm_Pi R.1 R.2) rmX9_packet.cells rmX9_packet.slots) 50 [(0, .ref a0), (1, .int x1), (2, .int x2)] [] σ 0 0 := by
  unfold fX9_packet_50 at hf
  refine mm_aload_n (j := 0) dX9_packet_50 rfl rfl ?_
  obtain ⟨hs11, hf⟩ := mm_sh_s hf
  refine mm_get (c := 9) (k := 13) (v := va_rf (mm_R σ a0 13)) cd_ok ⟨_, _, _, rfl, by decide, Or.inl tw_807⟩ hs11 rfl dX9_packet_51 ?_
  refine mm_iconst (v := 0) dX9_packet_54 (by decide) ?_
  refine mm_dup2 dX9_packet_55 rfl (mm_rf_cat _) ?_
  obtain ⟨q12, hq12, hf⟩ := mm_on_s hf
  rw [hq12, mm_rf_some]
  obtain ⟨n13, hn13, hf⟩ := mm_ar_s hf
  obtain ⟨hi14, hf⟩ := mm_ib_s hf
  refine mm_iald hn13 rfl hi14 dX9_packet_56 ?_
  refine mm_iconst (v := 1) dX9_packet_57 (by decide) ?_
  refine mm_iadd dX9_packet_58 ?_
  obtain ⟨hi15, hf⟩ := mm_ib_s hf
  refine mm_iast hn13 rfl hi15 dX9_packet_59 ?_
  refine mm_iconst (v := (-1)) dX9_packet_60 (by decide) ?_
  cases hf
  exact mm_iret rfl rfl dX9_packet_61 ⟨rfl, rfl⟩
set_option maxHeartbeats 4000000 in
set_option maxRecDepth 100000 in
theorem kX9_packet_104 {G : mm_G} {A : Nat → Prop} {ini : Bool}  {R : (Int32 × mm_M)}  (a0 : Nat) (x1 : Int32) (x2 : Int32) (x3 : Int32) (x4 : Int32) (σ : mm_M) (hf : fX9_packet_104  a0 x1 x2 x3 x4 σ = some R) : mm_J cd_Y G RX9 cX9_packet 6 (some .int) ini rmX9_packet A (mm_QF cd_Y G A (mm_Pi R.1 R.2) rmX9_packet.cells rmX9_packet.slots) 104 [(0, .ref a0), (1, .int x1), (2, .int x2), (3, .int x3), (4, .int x4)] [] σ 0 0 := by
  unfold fX9_packet_104 at hf
  refine mm_aload_n (j := 0) dX9_packet_104 rfl rfl ?_
  obtain ⟨hs19, hf⟩ := mm_sh_s hf
  refine mm_get (c := 9) (k := 27) (v := va_rf (mm_R σ a0 27)) cd_ok ⟨_, _, _, rfl, by decide, Or.inl tw_821⟩ hs19 rfl dX9_packet_105 ?_
  refine mm_iload_n (j := 3) dX9_packet_108 rfl rfl ?_
  obtain ⟨q20, hq20, hf⟩ := mm_on_s hf
  rw [hq20, mm_rf_some]
  obtain ⟨n21, hn21, hf⟩ := mm_ar_s hf
  obtain ⟨hi22, hf⟩ := mm_ib_s hf
  refine mm_iald hn21 rfl hi22 dX9_packet_109 ?_
  refine mm_istore (L' := [(5, .int (mm_I σ q20 x3.toNatClampNeg)), (0, .ref a0), (1, .int x1), (2, .int x2), (3, .int x3), (4, .int x4)]) dX9_packet_110 (by decide) rfl ?_
  refine mm_iload (j := 0) dX9_packet_112 rfl ?_
  refine mm_iconst (v := (-1)) dX9_packet_114 (by decide) ?_
  refine mm_icmp_ne (tgt := 131) dX9_packet_115 (by decide) (fun c23 => ?_) (fun c23 => ?_)
  · rw [if_neg c23] at hf
    refine mm_iload (j := 5) dX9_packet_131 rfl ?_
    refine mm_bipush (v := 27) dX9_packet_133 (by decide) ?_
    refine mm_icmp_ne (tgt := 148) dX9_packet_135 (by decide) (fun c24 => ?_) (fun c24 => ?_)
    · rw [if_neg c24] at hf
      refine mm_aload_n (j := 1) dX9_packet_148 rfl rfl ?_
      refine mm_iload (j := 0) dX9_packet_149 rfl ?_
      refine mm_iload (j := 5) dX9_packet_151 rfl ?_
      refine mm_iconst (v := 2) dX9_packet_153 (by decide) ?_
      refine mm_iconst (v := 0) dX9_packet_154 (by decide) ?_
      refine mm_bipush (v := 40) dX9_packet_155 (by decide) ?_
      obtain ⟨q25, hq25, hf⟩ := mm_on_s hf
      refine mm_callVv cd_ok (kX9_text a0 (mm_I σ q20 x3.toNatClampNeg) x4 2 0 40 hq25) hs19 rfl (Or.inl tw_1065) cdX9_text tw_1067 ts_50 nmX9_text rfl rfl (by simp only [List.map_cons, List.map_nil, mm_rf_cat]; exact Nat.le_of_ble_eq_true rfl) dX9_packet_157 ⟨Nat.le_of_ble_eq_true rfl, Nat.le_of_ble_eq_true rfl⟩ ⟨Nat.le_of_ble_eq_true rfl, Nat.le_of_ble_eq_true rfl⟩ ?_
      refine mm_iload (j := 5) dX9_packet_160 rfl ?_
      cases hf
      exact mm_iret rfl rfl dX9_packet_162 ⟨rfl, rfl⟩
    · rw [if_pos c24] at hf
      refine mm_aload_n (j := 1) dX9_packet_138 rfl rfl ?_
      refine mm_iload_n (j := 4) dX9_packet_139 rfl rfl ?_
      refine mm_iload (j := 0) dX9_packet_140 rfl ?_
      obtain ⟨q26, hq26, hf⟩ := mm_on_s hf
      refine mm_callVv cd_ok (kX9_linkPacket a0 x3 (mm_I σ q20 x3.toNatClampNeg) hq26) hs19 rfl (Or.inl tw_1069) cdX9_linkPacket tw_1071 ts_51 nmX9_linkPacket rfl rfl (by simp only [List.map_cons, List.map_nil, mm_rf_cat]; exact Nat.le_of_ble_eq_true rfl) dX9_packet_142 ⟨Nat.le_of_ble_eq_true rfl, Nat.le_of_ble_eq_true rfl⟩ ⟨Nat.le_of_ble_eq_true rfl, Nat.le_of_ble_eq_true rfl⟩ ?_
      refine mm_goto (tgt := 160) dX9_packet_145 (by decide) ?_
      refine mm_iload (j := 5) dX9_packet_160 rfl ?_
      cases hf
      exact mm_iret rfl rfl dX9_packet_162 ⟨rfl, rfl⟩
  · rw [if_pos c23] at hf
    refine mm_aload_n (j := 1) dX9_packet_118 rfl rfl ?_
    refine mm_get (c := 9) (k := 13) (v := va_rf (mm_R σ a0 13)) cd_ok ⟨_, _, _, rfl, by decide, Or.inl tw_807⟩ hs19 rfl dX9_packet_119 ?_
    refine mm_iconst (v := 2) dX9_packet_122 (by decide) ?_
    refine mm_dup2 dX9_packet_123 rfl (mm_rf_cat _) ?_
    obtain ⟨q27, hq27, hf⟩ := mm_on_s hf
    rw [hq27, mm_rf_some]
    obtain ⟨n28, hn28, hf⟩ := mm_ar_s hf
    obtain ⟨hi29, hf⟩ := mm_ib_s hf
    refine mm_iald hn28 rfl hi29 dX9_packet_124 ?_
    refine mm_iconst (v := 1) dX9_packet_125 (by decide) ?_
    refine mm_iadd dX9_packet_126 ?_
    obtain ⟨hi30, hf⟩ := mm_ib_s hf
    refine mm_iast hn28 rfl hi30 dX9_packet_127 ?_
    refine mm_goto (tgt := 160) dX9_packet_128 (by decide) ?_
    refine mm_iload (j := 5) dX9_packet_160 rfl ?_
    cases hf
    exact mm_iret rfl rfl dX9_packet_162 ⟨rfl, rfl⟩
set_option maxHeartbeats 4000000 in
set_option maxRecDepth 100000 in
theorem kX9_packet_15 {G : mm_G} {A : Nat → Prop} {ini : Bool}  {R : (Int32 × mm_M)}  (a0 : Nat) (y0 : Int32) (y1 : Nat) (σ : mm_M) (hf : fX9_packet_15  a0 y0 y1 σ = some R) : mm_J cd_Y G RX9 cX9_packet 6 (some .int) ini rmX9_packet A (mm_QF cd_Y G A (mm_Pi R.1 R.2) rmX9_packet.cells rmX9_packet.slots) 15 [(0, .ref a0)] [.int y0, .ref y1] σ 0 0 := by
  unfold fX9_packet_15 at hf
  obtain ⟨hs3, hf⟩ := mm_sh_s hf
  obtain ⟨q4, hq4, hf⟩ := mm_on_s hf
  refine mm_callVi cd_ok (kX9_goes y1 y0 hq4) hs3 rfl (Or.inl tw_944) cdX9_goes tw_946 ts_31 nmX9_goes rfl rfl (by simp only [List.map_cons, List.map_nil, mm_rf_cat]; exact Nat.le_of_ble_eq_true rfl) dX9_packet_15 ⟨Nat.le_of_ble_eq_true rfl, Nat.le_of_ble_eq_true rfl⟩ ⟨Nat.le_of_ble_eq_true rfl, Nat.le_of_ble_eq_true rfl⟩ ?_
  refine mm_if_ne (tgt := 23) dX9_packet_18 (by decide) (fun c5 => ?_) (fun c5 => ?_)
  · rw [if_neg c5] at hf
    refine mm_aload_n (j := 0) dX9_packet_23 rfl rfl ?_
    refine mm_iconst (v := 0) dX9_packet_24 (by decide) ?_
    obtain ⟨hs6, hf⟩ := mm_sh_s hf
    refine mm_putI (c := 9) (k := 12) cd_ok ⟨_, _, _, rfl, by decide, rfl, Or.inl tw_806⟩ hs6 rfl rfl rfl dX9_packet_25 ?_
    refine mm_aload_n (j := 0) dX9_packet_28 rfl rfl ?_
    refine mm_iconst (v := 0) dX9_packet_29 (by decide) ?_
    obtain ⟨q7, hq7, hf⟩ := mm_on_s hf
    refine mm_callVi cd_ok (kX9_value a0 0 hq7) hs6 rfl (Or.inl tw_1035) cdX9_value tw_1037 ts_44 nmX9_value rfl rfl (by simp only [List.map_cons, List.map_nil, mm_rf_cat]; exact Nat.le_of_ble_eq_true rfl) dX9_packet_30 ⟨Nat.le_of_ble_eq_true rfl, Nat.le_of_ble_eq_true rfl⟩ ⟨Nat.le_of_ble_eq_true rfl, Nat.le_of_ble_eq_true rfl⟩ ?_
    refine mm_istore_n (L' := [(1, .int q7.1), (0, .ref a0)]) dX9_packet_33 rfl (by decide) rfl ?_
    refine mm_aload_n (j := 1) dX9_packet_34 rfl rfl ?_
    refine mm_iconst (v := 1) dX9_packet_35 (by decide) ?_
    obtain ⟨hs8, hf⟩ := mm_sh_s hf
    obtain ⟨q9, hq9, hf⟩ := mm_on_s hf
    refine mm_callVi cd_ok (kX9_value a0 1 hq9) hs8 rfl (Or.inl tw_1035) cdX9_value tw_1037 ts_44 nmX9_value rfl rfl (by simp only [List.map_cons, List.map_nil, mm_rf_cat]; exact Nat.le_of_ble_eq_true rfl) dX9_packet_36 ⟨Nat.le_of_ble_eq_true rfl, Nat.le_of_ble_eq_true rfl⟩ ⟨Nat.le_of_ble_eq_true rfl, Nat.le_of_ble_eq_true rfl⟩ ?_
    refine mm_istore_n (L' := [(2, .int q9.1), (1, .int q7.1), (0, .ref a0)]) dX9_packet_39 rfl (by decide) rfl ?_
    refine mm_iload_n (j := 1) dX9_packet_40 rfl rfl ?_
    refine mm_iconst (v := (-1)) dX9_packet_41 (by decide) ?_
    refine mm_icmp_eq (tgt := 50) dX9_packet_42 (by decide) (fun c10 => ?_) (fun c10 => ?_)
    · rw [if_pos c10] at hf
      refine mm_sub [2, 1, 0] rfl ?_
      exact kX9_packet_50  a0 q7.1 q9.1 q9.2 hf
    · rw [if_neg c10] at hf
      refine mm_iload_n (j := 0) dX9_packet_45 rfl rfl ?_
      refine mm_iconst (v := (-1)) dX9_packet_46 (by decide) ?_
      refine mm_icmp_ne (tgt := 62) dX9_packet_47 (by decide) (fun c16 => ?_) (fun c16 => ?_)
      · rw [if_neg c16] at hf
        refine mm_iload_n (j := 1) dX9_packet_62 rfl rfl ?_
        refine mm_callSi cd_ok (kX9_mag q7.1 _ rfl) (Or.inl tw_1039) cdX9_mag tw_1040 nmX9_mag rfl rfl (by simp only [List.map_cons, List.map_nil, mm_rf_cat]; exact Nat.le_of_ble_eq_true rfl) dX9_packet_63 ⟨Nat.le_of_ble_eq_true rfl, Nat.le_of_ble_eq_true rfl⟩ ⟨Nat.le_of_ble_eq_true rfl, Nat.le_of_ble_eq_true rfl⟩ ?_
        refine mm_istore_n (L' := [(3, .int (fX9_mag q7.1)), (2, .int q9.1), (1, .int q7.1), (0, .ref a0)]) dX9_packet_66 rfl (by decide) rfl ?_
        refine mm_iload_n (j := 2) dX9_packet_67 rfl rfl ?_
        refine mm_bipush (v := 8) dX9_packet_68 (by decide) ?_
        refine mm_idiv dX9_packet_70 (by decide) ?_
        refine mm_iconst (v := 2) dX9_packet_71 (by decide) ?_
        refine mm_iload_n (j := 1) dX9_packet_72 rfl rfl ?_
        refine mm_imul dX9_packet_73 ?_
        refine mm_iadd dX9_packet_74 ?_
        refine mm_istore (L' := [(4, .int ((q7.1 / 8) + (2 * q9.1))), (3, .int (fX9_mag q7.1)), (2, .int q9.1), (1, .int q7.1), (0, .ref a0)]) dX9_packet_75 (by decide) rfl ?_
        refine mm_iload (j := 0) dX9_packet_77 rfl ?_
        refine mm_if_ne (tgt := 90) dX9_packet_79 (by decide) (fun c17 => ?_) (fun c17 => ?_)
        · rw [if_neg c17] at hf
          refine mm_iload (j := 0) dX9_packet_90 rfl ?_
          refine mm_bipush (v := 24) dX9_packet_92 (by decide) ?_
          refine mm_icmp_le (tgt := 104) dX9_packet_94 (by decide) (fun c18 => ?_) (fun c18 => ?_)
          · rw [if_pos c18] at hf
            refine mm_sub [4, 3, 2, 1, 0] rfl ?_
            exact kX9_packet_104  a0 q7.1 q9.1 (fX9_mag q7.1) ((q7.1 / 8) + (2 * q9.1)) q9.2 hf
          · rw [if_neg c18] at hf
            refine mm_iload (j := 0) dX9_packet_97 rfl ?_
            refine mm_bipush (v := 27) dX9_packet_99 (by decide) ?_
            refine mm_icmp_ne (tgt := 160) dX9_packet_101 (by decide) (fun c31 => ?_) (fun c31 => ?_)
            · rw [if_neg c31] at hf
              refine mm_iload (j := 0) dX9_packet_160 rfl ?_
              cases hf
              exact mm_iret rfl rfl dX9_packet_162 ⟨rfl, rfl⟩
            · rw [if_pos c31] at hf
              refine mm_sub [4, 3, 2, 1, 0] rfl ?_
              exact kX9_packet_104  a0 q7.1 q9.1 (fX9_mag q7.1) ((q7.1 / 8) + (2 * q9.1)) q9.2 hf
        · rw [if_pos c17] at hf
          refine mm_aload_n (j := 4) dX9_packet_82 rfl rfl ?_
          refine mm_iload_n (j := 1) dX9_packet_83 rfl rfl ?_
          obtain ⟨hs32, hf⟩ := mm_sh_s hf
          obtain ⟨q33, hq33, hf⟩ := mm_on_s hf
          refine mm_callVv cd_ok (kX9_header a0 (fX9_mag q7.1) hq33) hs32 rfl (Or.inl tw_1042) cdX9_header tw_1044 ts_45 nmX9_header rfl rfl (by simp only [List.map_cons, List.map_nil, mm_rf_cat]; exact Nat.le_of_ble_eq_true rfl) dX9_packet_84 ⟨Nat.le_of_ble_eq_true rfl, Nat.le_of_ble_eq_true rfl⟩ ⟨Nat.le_of_ble_eq_true rfl, Nat.le_of_ble_eq_true rfl⟩ ?_
          refine mm_goto (tgt := 160) dX9_packet_87 (by decide) ?_
          refine mm_iload (j := 0) dX9_packet_160 rfl ?_
          cases hf
          exact mm_iret rfl rfl dX9_packet_162 ⟨rfl, rfl⟩
      · rw [if_pos c16] at hf
        refine mm_sub [2, 1, 0] rfl ?_
        exact kX9_packet_50  a0 q7.1 q9.1 q9.2 hf
  · rw [if_pos c5] at hf
    refine mm_iconst (v := 0) dX9_packet_21 (by decide) ?_
    cases hf
    exact mm_iret rfl rfl dX9_packet_22 ⟨rfl, rfl⟩
set_option maxHeartbeats 4000000 in
set_option maxRecDepth 100000 in
theorem kX9_packet {G : mm_G} {A : Nat → Prop} (p0 : Nat) {σ : mm_M} {R : (Int32 × mm_M)} (hf : fX9_packet p0 σ = some R) : mm_C cd_Y G yX9_packet cX9_packet 6 (some .int) rmX9_packet A [.ref p0] σ (mm_Pi R.1 R.2) := by
  refine mm_C.of (by decide) (Nat.le_of_ble_eq_true rfl) ?_
  unfold fX9_packet at hf
  have e0 : lv_args 0 [.ref p0] = [(0, .ref p0)] := rfl
  rw [e0]
  generalize hini : (yX9_packet.name == "<init>") = ini
  clear e0
  clear hini
  refine mm_aload_n (j := 0) dX9_packet_0 rfl rfl ?_
  refine mm_aload_n (j := 0) dX9_packet_1 rfl rfl ?_
  obtain ⟨hs1, hf⟩ := mm_sh_s hf
  refine mm_get (c := 9) (k := 12) (v := .int (mm_I σ p0 12)) cd_ok ⟨_, _, _, rfl, by decide, Or.inl tw_806⟩ hs1 rfl dX9_packet_2 ?_
  refine mm_bipush (v := 42) dX9_packet_5 (by decide) ?_
  refine mm_icmp_lt (tgt := 14) dX9_packet_7 (by decide) (fun c2 => ?_) (fun c2 => ?_)
  · rw [if_pos c2] at hf
    refine mm_iconst (v := 0) dX9_packet_14 (by decide) ?_
    refine mm_sub [0] rfl ?_
    exact kX9_packet_15  p0 0 p0 σ hf
  · rw [if_neg c2] at hf
    refine mm_iconst (v := 1) dX9_packet_10 (by decide) ?_
    refine mm_goto (tgt := 15) dX9_packet_11 (by decide) ?_
    refine mm_sub [0] rfl ?_
    exact kX9_packet_15  p0 1 p0 σ hf
theorem dX9_nothing_0 : decode cX9_nothing 0 = .ok (.aload_n 0, 1) := by decide +kernel
theorem dX9_nothing_1 : decode cX9_nothing 1 = .ok (.iload_n 1, 1) := by decide +kernel
theorem dX9_nothing_2 : decode cX9_nothing 2 = .ok (.iconst 0, 1) := by decide +kernel
theorem dX9_nothing_3 : decode cX9_nothing 3 = .ok (.iconst 2, 1) := by decide +kernel
theorem dX9_nothing_4 : decode cX9_nothing 4 = .ok (.invokestatic 153, 3) := by decide +kernel
theorem dX9_nothing_7 : decode cX9_nothing 7 = .ok (.invokevirtual 169, 3) := by decide +kernel
theorem dX9_nothing_10 : decode cX9_nothing 10 = .ok (.ifCond .eq 12, 3) := by decide +kernel
theorem dX9_nothing_13 : decode cX9_nothing 13 = .ok (.aload_n 0, 1) := by decide +kernel
theorem dX9_nothing_14 : decode cX9_nothing 14 = .ok (.getfield 44, 3) := by decide +kernel
theorem dX9_nothing_17 : decode cX9_nothing 17 = .ok (.iload_n 1, 1) := by decide +kernel
theorem dX9_nothing_18 : decode cX9_nothing 18 = .ok (.iaload, 1) := by decide +kernel
theorem dX9_nothing_19 : decode cX9_nothing 19 = .ok (.goto 4, 3) := by decide +kernel
theorem dX9_nothing_22 : decode cX9_nothing 22 = .ok (.iconst 0, 1) := by decide +kernel
theorem dX9_nothing_23 : decode cX9_nothing 23 = .ok (.ireturn, 1) := by decide +kernel
theorem nmX9_nothing : mm_nm yX9_nothing 1 := ⟨by decide, by decide, by decide +kernel⟩
theorem cdX9_nothing : mm_cd cd_Y yX9_nothing cX9_nothing 2 (some .int) := ⟨tw_1076, tw_8⟩
abbrev rmX9_nothing : Room := { frames := 1, cells := 0, slots := 0, locals := 22 }
def fX9_nothing (p0 : Nat) (p1 : Int32) (σ : mm_M) : Option (Int32 × mm_M) :=
  mm_sh σ p0 (.inl 9) (mm_on (fX9_goes p0 (fX9_in p1 0 2) σ) fun q2 => (if q2.1 = 0 then some (0, q2.2) else mm_sh q2.2 p0 (.inl 9) (mm_on (mm_R q2.2 p0 13) fun q5 => mm_ar q2.2 q5 0 fun n6 => mm_ib p1 n6 (some (mm_I q2.2 q5 p1.toNatClampNeg, q2.2)))))
set_option maxHeartbeats 4000000 in
set_option maxRecDepth 100000 in
theorem kX9_nothing {G : mm_G} {A : Nat → Prop} (p0 : Nat) (p1 : Int32) {σ : mm_M} {R : (Int32 × mm_M)} (hf : fX9_nothing p0 p1 σ = some R) : mm_C cd_Y G yX9_nothing cX9_nothing 2 (some .int) rmX9_nothing A [.ref p0, .int p1] σ (mm_Pi R.1 R.2) := by
  refine mm_C.of (by decide) (Nat.le_of_ble_eq_true rfl) ?_
  unfold fX9_nothing at hf
  have e0 : lv_args 0 [.ref p0, .int p1] = [(0, .ref p0), (1, .int p1)] := rfl
  rw [e0]
  generalize hini : (yX9_nothing.name == "<init>") = ini
  clear e0
  clear hini
  refine mm_aload_n (j := 0) dX9_nothing_0 rfl rfl ?_
  refine mm_iload_n (j := 1) dX9_nothing_1 rfl rfl ?_
  refine mm_iconst (v := 0) dX9_nothing_2 (by decide) ?_
  refine mm_iconst (v := 2) dX9_nothing_3 (by decide) ?_
  refine mm_callSi cd_ok (kX9_in p1 0 2 _ rfl) (Or.inl tw_941) cdX9_in tw_942 nmX9_in rfl rfl (by simp only [List.map_cons, List.map_nil, mm_rf_cat]; exact Nat.le_of_ble_eq_true rfl) dX9_nothing_4 ⟨Nat.le_of_ble_eq_true rfl, Nat.le_of_ble_eq_true rfl⟩ ⟨Nat.le_of_ble_eq_true rfl, Nat.le_of_ble_eq_true rfl⟩ ?_
  obtain ⟨hs1, hf⟩ := mm_sh_s hf
  obtain ⟨q2, hq2, hf⟩ := mm_on_s hf
  refine mm_callVi cd_ok (kX9_goes p0 (fX9_in p1 0 2) hq2) hs1 rfl (Or.inl tw_944) cdX9_goes tw_946 ts_31 nmX9_goes rfl rfl (by simp only [List.map_cons, List.map_nil, mm_rf_cat]; exact Nat.le_of_ble_eq_true rfl) dX9_nothing_7 ⟨Nat.le_of_ble_eq_true rfl, Nat.le_of_ble_eq_true rfl⟩ ⟨Nat.le_of_ble_eq_true rfl, Nat.le_of_ble_eq_true rfl⟩ ?_
  refine mm_if_eq (tgt := 22) dX9_nothing_10 (by decide) (fun c3 => ?_) (fun c3 => ?_)
  · rw [if_pos c3] at hf
    refine mm_iconst (v := 0) dX9_nothing_22 (by decide) ?_
    cases hf
    exact mm_iret rfl rfl dX9_nothing_23 ⟨rfl, rfl⟩
  · rw [if_neg c3] at hf
    refine mm_aload_n (j := 0) dX9_nothing_13 rfl rfl ?_
    obtain ⟨hs4, hf⟩ := mm_sh_s hf
    refine mm_get (c := 9) (k := 13) (v := va_rf (mm_R q2.2 p0 13)) cd_ok ⟨_, _, _, rfl, by decide, Or.inl tw_807⟩ hs4 rfl dX9_nothing_14 ?_
    refine mm_iload_n (j := 1) dX9_nothing_17 rfl rfl ?_
    obtain ⟨q5, hq5, hf⟩ := mm_on_s hf
    rw [hq5, mm_rf_some]
    obtain ⟨n6, hn6, hf⟩ := mm_ar_s hf
    obtain ⟨hi7, hf⟩ := mm_ib_s hf
    refine mm_iald hn6 rfl hi7 dX9_nothing_18 ?_
    refine mm_goto (tgt := 23) dX9_nothing_19 (by decide) ?_
    cases hf
    exact mm_iret rfl rfl dX9_nothing_23 ⟨rfl, rfl⟩
theorem dX9_pages_0 : decode cX9_pages 0 = .ok (.aload_n 0, 1) := by decide +kernel
theorem dX9_pages_1 : decode cX9_pages 1 = .ok (.iconst 0, 1) := by decide +kernel
theorem dX9_pages_2 : decode cX9_pages 2 = .ok (.putfield 120, 3) := by decide +kernel
theorem dX9_pages_5 : decode cX9_pages 5 = .ok (.aload_n 0, 1) := by decide +kernel
theorem dX9_pages_6 : decode cX9_pages 6 = .ok (.getfield 206, 3) := by decide +kernel
theorem dX9_pages_9 : decode cX9_pages 9 = .ok (.ireturn, 1) := by decide +kernel
theorem nmX9_pages : mm_nm yX9_pages 0 := ⟨by decide, by decide, by decide +kernel⟩
theorem cdX9_pages : mm_cd cd_Y yX9_pages cX9_pages 1 (some .int) := ⟨tw_1080, tw_8⟩
abbrev rmX9_pages : Room := { frames := 0, cells := 0, slots := 0, locals := 0 }
def fX9_pages (p0 : Nat) (σ : mm_M) : Option (Int32 × mm_M) :=
  mm_sh σ p0 (.inl 9) (some (mm_I (mm_wI σ p0 0 0) p0 14, mm_wI σ p0 0 0))
set_option maxHeartbeats 4000000 in
set_option maxRecDepth 100000 in
theorem kX9_pages {G : mm_G} {A : Nat → Prop} (p0 : Nat) {σ : mm_M} {R : (Int32 × mm_M)} (hf : fX9_pages p0 σ = some R) : mm_C cd_Y G yX9_pages cX9_pages 1 (some .int) rmX9_pages A [.ref p0] σ (mm_Pi R.1 R.2) := by
  refine mm_C.of (by decide) (Nat.le_of_ble_eq_true rfl) ?_
  unfold fX9_pages at hf
  have e0 : lv_args 0 [.ref p0] = [(0, .ref p0)] := rfl
  rw [e0]
  generalize hini : (yX9_pages.name == "<init>") = ini
  clear e0
  clear hini
  refine mm_aload_n (j := 0) dX9_pages_0 rfl rfl ?_
  refine mm_iconst (v := 0) dX9_pages_1 (by decide) ?_
  obtain ⟨hs1, hf⟩ := mm_sh_s hf
  refine mm_putI (c := 9) (k := 0) cd_ok ⟨_, _, _, rfl, by decide, rfl, Or.inl tw_794⟩ hs1 rfl rfl rfl dX9_pages_2 ?_
  refine mm_aload_n (j := 0) dX9_pages_5 rfl rfl ?_
  refine mm_get (c := 9) (k := 14) (v := .int (mm_I (mm_wI σ p0 0 0) p0 14)) cd_ok ⟨_, _, _, rfl, by decide, Or.inl tw_808⟩ hs1 rfl dX9_pages_6 ?_
  cases hf
  exact mm_iret rfl rfl dX9_pages_9 ⟨rfl, rfl⟩
theorem dX9_find_0 : decode cX9_find 0 = .ok (.aload_n 0, 1) := by decide +kernel
theorem dX9_find_1 : decode cX9_find 1 = .ok (.iconst 0, 1) := by decide +kernel
theorem dX9_find_2 : decode cX9_find 2 = .ok (.putfield 120, 3) := by decide +kernel
theorem dX9_find_5 : decode cX9_find 5 = .ok (.iconst (-1), 1) := by decide +kernel
theorem dX9_find_6 : decode cX9_find 6 = .ok (.istore 4, 2) := by decide +kernel
theorem dX9_find_8 : decode cX9_find 8 = .ok (.iconst 0, 1) := by decide +kernel
theorem dX9_find_9 : decode cX9_find 9 = .ok (.istore 5, 2) := by decide +kernel
theorem dX9_find_11 : decode cX9_find 11 = .ok (.iload 5, 2) := by decide +kernel
theorem dX9_find_13 : decode cX9_find 13 = .ok (.aload_n 0, 1) := by decide +kernel
theorem dX9_find_14 : decode cX9_find 14 = .ok (.getfield 206, 3) := by decide +kernel
theorem dX9_find_17 : decode cX9_find 17 = .ok (.if_icmp .ge 65, 3) := by decide +kernel
theorem dX9_find_20 : decode cX9_find 20 = .ok (.aload_n 0, 1) := by decide +kernel
theorem dX9_find_21 : decode cX9_find 21 = .ok (.getfield 47, 3) := by decide +kernel
theorem dX9_find_24 : decode cX9_find 24 = .ok (.iload 5, 2) := by decide +kernel
theorem dX9_find_26 : decode cX9_find 26 = .ok (.iaload, 1) := by decide +kernel
theorem dX9_find_27 : decode cX9_find 27 = .ok (.istore 6, 2) := by decide +kernel
theorem dX9_find_29 : decode cX9_find 29 = .ok (.aload_n 0, 1) := by decide +kernel
theorem dX9_find_30 : decode cX9_find 30 = .ok (.getfield 54, 3) := by decide +kernel
theorem dX9_find_33 : decode cX9_find 33 = .ok (.iload 6, 2) := by decide +kernel
theorem dX9_find_35 : decode cX9_find 35 = .ok (.iaload, 1) := by decide +kernel
theorem dX9_find_36 : decode cX9_find 36 = .ok (.iload_n 1, 1) := by decide +kernel
theorem dX9_find_37 : decode cX9_find 37 = .ok (.if_icmp .ne 35, 3) := by decide +kernel
theorem dX9_find_40 : decode cX9_find 40 = .ok (.aload_n 0, 1) := by decide +kernel
theorem dX9_find_41 : decode cX9_find 41 = .ok (.getfield 57, 3) := by decide +kernel
theorem dX9_find_44 : decode cX9_find 44 = .ok (.iload 6, 2) := by decide +kernel
theorem dX9_find_46 : decode cX9_find 46 = .ok (.iaload, 1) := by decide +kernel
theorem dX9_find_47 : decode cX9_find 47 = .ok (.iload_n 2, 1) := by decide +kernel
theorem dX9_find_48 : decode cX9_find 48 = .ok (.if_icmp .ne 24, 3) := by decide +kernel
theorem dX9_find_51 : decode cX9_find 51 = .ok (.iload_n 3, 1) := by decide +kernel
theorem dX9_find_52 : decode cX9_find 52 = .ok (.iconst (-1), 1) := by decide +kernel
theorem dX9_find_53 : decode cX9_find 53 = .ok (.if_icmp .eq 14, 3) := by decide +kernel
theorem dX9_find_56 : decode cX9_find 56 = .ok (.aload_n 0, 1) := by decide +kernel
theorem dX9_find_57 : decode cX9_find 57 = .ok (.getfield 60, 3) := by decide +kernel
theorem dX9_find_60 : decode cX9_find 60 = .ok (.iload 6, 2) := by decide +kernel
theorem dX9_find_62 : decode cX9_find 62 = .ok (.iaload, 1) := by decide +kernel
theorem dX9_find_63 : decode cX9_find 63 = .ok (.iload_n 3, 1) := by decide +kernel
theorem dX9_find_64 : decode cX9_find 64 = .ok (.if_icmp .ne 8, 3) := by decide +kernel
theorem dX9_find_67 : decode cX9_find 67 = .ok (.iload 5, 2) := by decide +kernel
theorem dX9_find_69 : decode cX9_find 69 = .ok (.goto 5, 3) := by decide +kernel
theorem dX9_find_72 : decode cX9_find 72 = .ok (.iload 4, 2) := by decide +kernel
theorem dX9_find_74 : decode cX9_find 74 = .ok (.istore 4, 2) := by decide +kernel
theorem dX9_find_76 : decode cX9_find 76 = .ok (.iinc 5 1, 3) := by decide +kernel
theorem dX9_find_79 : decode cX9_find 79 = .ok (.goto (-68), 3) := by decide +kernel
theorem dX9_find_82 : decode cX9_find 82 = .ok (.iload 4, 2) := by decide +kernel
theorem dX9_find_84 : decode cX9_find 84 = .ok (.ireturn, 1) := by decide +kernel
theorem nmX9_find : mm_nm yX9_find 3 := ⟨by decide, by decide, by decide +kernel⟩
theorem cdX9_find : mm_cd cd_Y yX9_find cX9_find 7 (some .int) := ⟨tw_1084, tw_8⟩
abbrev rmX9_find : Room := { frames := 0, cells := 0, slots := 0, locals := 0 }
def fX9_find_67 (k11 : Nat → Int32 → Int32 → Int32 → Int32 → Int32 → mm_M → Option (Int32 × mm_M)) (a0 : Nat) (x1 : Int32) (x2 : Int32) (x3 : Int32) (x4 : Int32) (x5 : Int32) (x6 : Int32) (σ : mm_M) : Option (Int32 × mm_M) :=
  (k11 a0 x1 x2 x3 x5 (x5 + 1) σ)
def fX9_find_11  : Nat → Nat → Int32 → Int32 → Int32 → Int32 → Int32 → mm_M → Option (Int32 × mm_M)
  | 0 => fun _ _ _ _ _ _ _ => none
  | n + 1 => fun a0 x1 x2 x3 x4 x5 σ =>
  mm_sh σ a0 (.inl 9) ((if (mm_I σ a0 14) ≤ x5 then some (x4, σ) else mm_on (mm_R σ a0 15) fun q4 => mm_ar σ q4 0 fun n5 => mm_ib x5 n5 (mm_on (mm_R σ a0 17) fun q7 => mm_ar σ q7 0 fun n8 => mm_ib (mm_I σ q4 x5.toNatClampNeg) n8 ((if (mm_I σ q7 (mm_I σ q4 x5.toNatClampNeg).toNatClampNeg) = x1 then mm_on (mm_R σ a0 18) fun q11 => mm_ar σ q11 0 fun n12 => mm_ib (mm_I σ q4 x5.toNatClampNeg) n12 ((if (mm_I σ q11 (mm_I σ q4 x5.toNatClampNeg).toNatClampNeg) = x2 then (if x3 = (-1) then (fX9_find_67 (fX9_find_11  n) a0 x1 x2 x3 x4 x5 (mm_I σ q4 x5.toNatClampNeg) σ) else mm_on (mm_R σ a0 19) fun q16 => mm_ar σ q16 0 fun n17 => mm_ib (mm_I σ q4 x5.toNatClampNeg) n17 ((if (mm_I σ q16 (mm_I σ q4 x5.toNatClampNeg).toNatClampNeg) = x3 then (fX9_find_67 (fX9_find_11  n) a0 x1 x2 x3 x4 x5 (mm_I σ q4 x5.toNatClampNeg) σ) else (fX9_find_11  n a0 x1 x2 x3 x4 (x5 + 1) σ)))) else (fX9_find_11  n a0 x1 x2 x3 x4 (x5 + 1) σ))) else (fX9_find_11  n a0 x1 x2 x3 x4 (x5 + 1) σ))))))
def fX9_find (p0 : Nat) (p1 : Int32) (p2 : Int32) (p3 : Int32) (σ : mm_M) : Option (Int32 × mm_M) :=
  mm_sh σ p0 (.inl 9) ((fX9_find_11  mm_fuel p0 p1 p2 p3 (-1) 0 (mm_wI σ p0 0 0)))
set_option maxHeartbeats 4000000 in
set_option maxRecDepth 100000 in
theorem kX9_find_67 {G : mm_G} {A : Nat → Prop} {ini : Bool} {k11 : Nat → Int32 → Int32 → Int32 → Int32 → Int32 → mm_M → Option (Int32 × mm_M)} {R : (Int32 × mm_M)} (hk11 : ∀ a0 x1 x2 x3 x4 x5 σ, k11 a0 x1 x2 x3 x4 x5 σ = some R → mm_J cd_Y G RX9 cX9_find 7 (some .int) ini rmX9_find A (mm_QF cd_Y G A (mm_Pi R.1 R.2) rmX9_find.cells rmX9_find.slots) 11 [(0, .ref a0), (1, .int x1), (2, .int x2), (3, .int x3), (4, .int x4), (5, .int x5)] [] σ 0 0) (a0 : Nat) (x1 : Int32) (x2 : Int32) (x3 : Int32) (x4 : Int32) (x5 : Int32) (x6 : Int32) (σ : mm_M) (hf : fX9_find_67 k11 a0 x1 x2 x3 x4 x5 x6 σ = some R) : mm_J cd_Y G RX9 cX9_find 7 (some .int) ini rmX9_find A (mm_QF cd_Y G A (mm_Pi R.1 R.2) rmX9_find.cells rmX9_find.slots) 67 [(0, .ref a0), (1, .int x1), (2, .int x2), (3, .int x3), (4, .int x4), (5, .int x5), (6, .int x6)] [] σ 0 0 := by
  unfold fX9_find_67 at hf
  refine mm_iload (j := 5) dX9_find_67 rfl ?_
  refine mm_goto (tgt := 74) dX9_find_69 (by decide) ?_
  refine mm_istore (L' := [(4, .int x5), (0, .ref a0), (1, .int x1), (2, .int x2), (3, .int x3), (5, .int x5), (6, .int x6)]) dX9_find_74 (by decide) rfl ?_
  refine mm_iinc (j := 5) (L' := [(5, .int (x5 + 1)), (4, .int x5), (0, .ref a0), (1, .int x1), (2, .int x2), (3, .int x3), (6, .int x6)]) dX9_find_76 rfl rfl (by decide) rfl ?_
  refine mm_goto (tgt := 11) dX9_find_79 (by decide) ?_
  refine mm_sub [2, 3, 4, 5, 1, 0] rfl ?_
  exact hk11 a0 x1 x2 x3 x5 (x5 + 1) σ hf
set_option maxHeartbeats 4000000 in
set_option maxRecDepth 100000 in
theorem kX9_find_11 {G : mm_G} {A : Nat → Prop} {ini : Bool}  {R : (Int32 × mm_M)}  : ∀ (a0 : Nat) (x1 : Int32) (x2 : Int32) (x3 : Int32) (x4 : Int32) (x5 : Int32) (σ : mm_M), fX9_find_11  mm_fuel a0 x1 x2 x3 x4 x5 σ = some R → mm_J cd_Y G RX9 cX9_find 7 (some .int) ini rmX9_find A (mm_QF cd_Y G A (mm_Pi R.1 R.2) rmX9_find.cells rmX9_find.slots) 11 [(0, .ref a0), (1, .int x1), (2, .int x2), (3, .int x3), (4, .int x4), (5, .int x5)] [] σ 0 0 := by
  generalize mm_fuel = n
  induction n with
  | zero => intro a0 x1 x2 x3 x4 x5 σ hf; cases hf
  | succ n ih =>
    intro a0 x1 x2 x3 x4 x5 σ hf
    unfold fX9_find_11 at hf
    refine mm_iload (j := 5) dX9_find_11 rfl ?_
    refine mm_aload_n (j := 0) dX9_find_13 rfl rfl ?_
    obtain ⟨hs2, hf⟩ := mm_sh_s hf
    refine mm_get (c := 9) (k := 14) (v := .int (mm_I σ a0 14)) cd_ok ⟨_, _, _, rfl, by decide, Or.inl tw_808⟩ hs2 rfl dX9_find_14 ?_
    refine mm_icmp_ge (tgt := 82) dX9_find_17 (by decide) (fun c3 => ?_) (fun c3 => ?_)
    · rw [if_pos c3] at hf
      refine mm_iload (j := 4) dX9_find_82 rfl ?_
      cases hf
      exact mm_iret rfl rfl dX9_find_84 ⟨rfl, rfl⟩
    · rw [if_neg c3] at hf
      refine mm_aload_n (j := 0) dX9_find_20 rfl rfl ?_
      refine mm_get (c := 9) (k := 15) (v := va_rf (mm_R σ a0 15)) cd_ok ⟨_, _, _, rfl, by decide, Or.inl tw_809⟩ hs2 rfl dX9_find_21 ?_
      refine mm_iload (j := 5) dX9_find_24 rfl ?_
      obtain ⟨q4, hq4, hf⟩ := mm_on_s hf
      rw [hq4, mm_rf_some]
      obtain ⟨n5, hn5, hf⟩ := mm_ar_s hf
      obtain ⟨hi6, hf⟩ := mm_ib_s hf
      refine mm_iald hn5 rfl hi6 dX9_find_26 ?_
      refine mm_istore (L' := [(6, .int (mm_I σ q4 x5.toNatClampNeg)), (0, .ref a0), (1, .int x1), (2, .int x2), (3, .int x3), (4, .int x4), (5, .int x5)]) dX9_find_27 (by decide) rfl ?_
      refine mm_aload_n (j := 1) dX9_find_29 rfl rfl ?_
      refine mm_get (c := 9) (k := 17) (v := va_rf (mm_R σ a0 17)) cd_ok ⟨_, _, _, rfl, by decide, Or.inl tw_811⟩ hs2 rfl dX9_find_30 ?_
      refine mm_iload (j := 0) dX9_find_33 rfl ?_
      obtain ⟨q7, hq7, hf⟩ := mm_on_s hf
      rw [hq7, mm_rf_some]
      obtain ⟨n8, hn8, hf⟩ := mm_ar_s hf
      obtain ⟨hi9, hf⟩ := mm_ib_s hf
      refine mm_iald hn8 rfl hi9 dX9_find_35 ?_
      refine mm_iload_n (j := 2) dX9_find_36 rfl rfl ?_
      refine mm_icmp_ne (tgt := 72) dX9_find_37 (by decide) (fun c10 => ?_) (fun c10 => ?_)
      · rw [if_neg c10] at hf
        refine mm_iload (j := 5) dX9_find_72 rfl ?_
        refine mm_istore (L' := [(4, .int x4), (6, .int (mm_I σ q4 x5.toNatClampNeg)), (0, .ref a0), (1, .int x1), (2, .int x2), (3, .int x3), (5, .int x5)]) dX9_find_74 (by decide) rfl ?_
        refine mm_iinc (j := 6) (L' := [(5, .int (x5 + 1)), (4, .int x4), (6, .int (mm_I σ q4 x5.toNatClampNeg)), (0, .ref a0), (1, .int x1), (2, .int x2), (3, .int x3)]) dX9_find_76 rfl rfl (by decide) rfl ?_
        refine mm_goto (tgt := 11) dX9_find_79 (by decide) ?_
        refine mm_sub [3, 4, 5, 6, 1, 0] rfl ?_
        exact ih a0 x1 x2 x3 x4 (x5 + 1) σ hf
      · rw [if_pos c10] at hf
        refine mm_aload_n (j := 1) dX9_find_40 rfl rfl ?_
        refine mm_get (c := 9) (k := 18) (v := va_rf (mm_R σ a0 18)) cd_ok ⟨_, _, _, rfl, by decide, Or.inl tw_812⟩ hs2 rfl dX9_find_41 ?_
        refine mm_iload (j := 0) dX9_find_44 rfl ?_
        obtain ⟨q11, hq11, hf⟩ := mm_on_s hf
        rw [hq11, mm_rf_some]
        obtain ⟨n12, hn12, hf⟩ := mm_ar_s hf
        obtain ⟨hi13, hf⟩ := mm_ib_s hf
        refine mm_iald hn12 rfl hi13 dX9_find_46 ?_
        refine mm_iload_n (j := 3) dX9_find_47 rfl rfl ?_
        refine mm_icmp_ne (tgt := 72) dX9_find_48 (by decide) (fun c14 => ?_) (fun c14 => ?_)
        · rw [if_neg c14] at hf
          refine mm_iload (j := 5) dX9_find_72 rfl ?_
          refine mm_istore (L' := [(4, .int x4), (6, .int (mm_I σ q4 x5.toNatClampNeg)), (0, .ref a0), (1, .int x1), (2, .int x2), (3, .int x3), (5, .int x5)]) dX9_find_74 (by decide) rfl ?_
          refine mm_iinc (j := 6) (L' := [(5, .int (x5 + 1)), (4, .int x4), (6, .int (mm_I σ q4 x5.toNatClampNeg)), (0, .ref a0), (1, .int x1), (2, .int x2), (3, .int x3)]) dX9_find_76 rfl rfl (by decide) rfl ?_
          refine mm_goto (tgt := 11) dX9_find_79 (by decide) ?_
          refine mm_sub [3, 4, 5, 6, 1, 0] rfl ?_
          exact ih a0 x1 x2 x3 x4 (x5 + 1) σ hf
        · rw [if_pos c14] at hf
          refine mm_iload_n (j := 4) dX9_find_51 rfl rfl ?_
          refine mm_iconst (v := (-1)) dX9_find_52 (by decide) ?_
          refine mm_icmp_eq (tgt := 67) dX9_find_53 (by decide) (fun c15 => ?_) (fun c15 => ?_)
          · rw [if_pos c15] at hf
            refine mm_sub [1, 2, 3, 4, 5, 6, 0] rfl ?_
            exact kX9_find_67 ih a0 x1 x2 x3 x4 x5 (mm_I σ q4 x5.toNatClampNeg) σ hf
          · rw [if_neg c15] at hf
            refine mm_aload_n (j := 1) dX9_find_56 rfl rfl ?_
            refine mm_get (c := 9) (k := 19) (v := va_rf (mm_R σ a0 19)) cd_ok ⟨_, _, _, rfl, by decide, Or.inl tw_813⟩ hs2 rfl dX9_find_57 ?_
            refine mm_iload (j := 0) dX9_find_60 rfl ?_
            obtain ⟨q16, hq16, hf⟩ := mm_on_s hf
            rw [hq16, mm_rf_some]
            obtain ⟨n17, hn17, hf⟩ := mm_ar_s hf
            obtain ⟨hi18, hf⟩ := mm_ib_s hf
            refine mm_iald hn17 rfl hi18 dX9_find_62 ?_
            refine mm_iload_n (j := 4) dX9_find_63 rfl rfl ?_
            refine mm_icmp_ne (tgt := 72) dX9_find_64 (by decide) (fun c19 => ?_) (fun c19 => ?_)
            · rw [if_neg c19] at hf
              refine mm_iload (j := 5) dX9_find_72 rfl ?_
              refine mm_istore (L' := [(4, .int x4), (6, .int (mm_I σ q4 x5.toNatClampNeg)), (0, .ref a0), (1, .int x1), (2, .int x2), (3, .int x3), (5, .int x5)]) dX9_find_74 (by decide) rfl ?_
              refine mm_iinc (j := 6) (L' := [(5, .int (x5 + 1)), (4, .int x4), (6, .int (mm_I σ q4 x5.toNatClampNeg)), (0, .ref a0), (1, .int x1), (2, .int x2), (3, .int x3)]) dX9_find_76 rfl rfl (by decide) rfl ?_
              refine mm_goto (tgt := 11) dX9_find_79 (by decide) ?_
              refine mm_sub [3, 4, 5, 6, 1, 0] rfl ?_
              exact ih a0 x1 x2 x3 x4 (x5 + 1) σ hf
            · rw [if_pos c19] at hf
              refine mm_sub [1, 2, 3, 4, 5, 6, 0] rfl ?_
              exact kX9_find_67 ih a0 x1 x2 x3 x4 x5 (mm_I σ q4 x5.toNatClampNeg) σ hf
set_option maxHeartbeats 4000000 in
set_option maxRecDepth 100000 in
theorem kX9_find {G : mm_G} {A : Nat → Prop} (p0 : Nat) (p1 : Int32) (p2 : Int32) (p3 : Int32) {σ : mm_M} {R : (Int32 × mm_M)} (hf : fX9_find p0 p1 p2 p3 σ = some R) : mm_C cd_Y G yX9_find cX9_find 7 (some .int) rmX9_find A [.ref p0, .int p1, .int p2, .int p3] σ (mm_Pi R.1 R.2) := by
  refine mm_C.of (by decide) (Nat.le_of_ble_eq_true rfl) ?_
  unfold fX9_find at hf
  have e0 : lv_args 0 [.ref p0, .int p1, .int p2, .int p3] = [(0, .ref p0), (1, .int p1), (2, .int p2), (3, .int p3)] := rfl
  rw [e0]
  generalize hini : (yX9_find.name == "<init>") = ini
  clear e0
  clear hini
  refine mm_aload_n (j := 0) dX9_find_0 rfl rfl ?_
  refine mm_iconst (v := 0) dX9_find_1 (by decide) ?_
  obtain ⟨hs1, hf⟩ := mm_sh_s hf
  refine mm_putI (c := 9) (k := 0) cd_ok ⟨_, _, _, rfl, by decide, rfl, Or.inl tw_794⟩ hs1 rfl rfl rfl dX9_find_2 ?_
  refine mm_iconst (v := (-1)) dX9_find_5 (by decide) ?_
  refine mm_istore (L' := [(4, .int (-1)), (0, .ref p0), (1, .int p1), (2, .int p2), (3, .int p3)]) dX9_find_6 (by decide) rfl ?_
  refine mm_iconst (v := 0) dX9_find_8 (by decide) ?_
  refine mm_istore (L' := [(5, .int 0), (4, .int (-1)), (0, .ref p0), (1, .int p1), (2, .int p2), (3, .int p3)]) dX9_find_9 (by decide) rfl ?_
  refine mm_sub [2, 3, 4, 5, 1, 0] rfl ?_
  exact kX9_find_11  p0 p1 p2 p3 (-1) 0 (mm_wI σ p0 0 0) hf
theorem dX9_page_0 : decode cX9_page 0 = .ok (.aload_n 0, 1) := by decide +kernel
theorem dX9_page_1 : decode cX9_page 1 = .ok (.iload_n 1, 1) := by decide +kernel
theorem dX9_page_2 : decode cX9_page 2 = .ok (.iconst 0, 1) := by decide +kernel
theorem dX9_page_3 : decode cX9_page 3 = .ok (.aload_n 0, 1) := by decide +kernel
theorem dX9_page_4 : decode cX9_page 4 = .ok (.getfield 206, 3) := by decide +kernel
theorem dX9_page_7 : decode cX9_page 7 = .ok (.iconst 1, 1) := by decide +kernel
theorem dX9_page_8 : decode cX9_page 8 = .ok (.isub, 1) := by decide +kernel
theorem dX9_page_9 : decode cX9_page 9 = .ok (.invokestatic 153, 3) := by decide +kernel
theorem dX9_page_12 : decode cX9_page 12 = .ok (.ifCond .eq 17, 3) := by decide +kernel
theorem dX9_page_15 : decode cX9_page 15 = .ok (.iload_n 2, 1) := by decide +kernel
theorem dX9_page_16 : decode cX9_page 16 = .ok (.iconst 0, 1) := by decide +kernel
theorem dX9_page_17 : decode cX9_page 17 = .ok (.bipush 6, 2) := by decide +kernel
theorem dX9_page_19 : decode cX9_page 19 = .ok (.invokestatic 153, 3) := by decide +kernel
theorem dX9_page_22 : decode cX9_page 22 = .ok (.ifCond .eq 7, 3) := by decide +kernel
theorem dX9_page_25 : decode cX9_page 25 = .ok (.iconst 1, 1) := by decide +kernel
theorem dX9_page_26 : decode cX9_page 26 = .ok (.goto 4, 3) := by decide +kernel
theorem dX9_page_29 : decode cX9_page 29 = .ok (.iconst 0, 1) := by decide +kernel
theorem dX9_page_30 : decode cX9_page 30 = .ok (.invokevirtual 169, 3) := by decide +kernel
theorem dX9_page_33 : decode cX9_page 33 = .ok (.ifCond .ne 5, 3) := by decide +kernel
theorem dX9_page_36 : decode cX9_page 36 = .ok (.iconst 0, 1) := by decide +kernel
theorem dX9_page_37 : decode cX9_page 37 = .ok (.ireturn, 1) := by decide +kernel
theorem dX9_page_38 : decode cX9_page 38 = .ok (.aload_n 0, 1) := by decide +kernel
theorem dX9_page_39 : decode cX9_page 39 = .ok (.getfield 47, 3) := by decide +kernel
theorem dX9_page_42 : decode cX9_page 42 = .ok (.iload_n 1, 1) := by decide +kernel
theorem dX9_page_43 : decode cX9_page 43 = .ok (.iaload, 1) := by decide +kernel
theorem dX9_page_44 : decode cX9_page 44 = .ok (.istore_n 3, 1) := by decide +kernel
theorem dX9_page_45 : decode cX9_page 45 = .ok (.iload_n 2, 1) := by decide +kernel
theorem dX9_page_46 : decode cX9_page 46 = .ok (.tableswitch 94 0 5 #[38, 45, 52, 59, 66, 87], 38) := by decide +kernel
theorem dX9_page_84 : decode cX9_page 84 = .ok (.aload_n 0, 1) := by decide +kernel
theorem dX9_page_85 : decode cX9_page 85 = .ok (.getfield 54, 3) := by decide +kernel
theorem dX9_page_88 : decode cX9_page 88 = .ok (.iload_n 3, 1) := by decide +kernel
theorem dX9_page_89 : decode cX9_page 89 = .ok (.iaload, 1) := by decide +kernel
theorem dX9_page_90 : decode cX9_page 90 = .ok (.ireturn, 1) := by decide +kernel
theorem dX9_page_91 : decode cX9_page 91 = .ok (.aload_n 0, 1) := by decide +kernel
theorem dX9_page_92 : decode cX9_page 92 = .ok (.getfield 57, 3) := by decide +kernel
theorem dX9_page_95 : decode cX9_page 95 = .ok (.iload_n 3, 1) := by decide +kernel
theorem dX9_page_96 : decode cX9_page 96 = .ok (.iaload, 1) := by decide +kernel
theorem dX9_page_97 : decode cX9_page 97 = .ok (.ireturn, 1) := by decide +kernel
theorem dX9_page_98 : decode cX9_page 98 = .ok (.aload_n 0, 1) := by decide +kernel
theorem dX9_page_99 : decode cX9_page 99 = .ok (.getfield 60, 3) := by decide +kernel
theorem dX9_page_102 : decode cX9_page 102 = .ok (.iload_n 3, 1) := by decide +kernel
theorem dX9_page_103 : decode cX9_page 103 = .ok (.iaload, 1) := by decide +kernel
theorem dX9_page_104 : decode cX9_page 104 = .ok (.ireturn, 1) := by decide +kernel
theorem dX9_page_105 : decode cX9_page 105 = .ok (.aload_n 0, 1) := by decide +kernel
theorem dX9_page_106 : decode cX9_page 106 = .ok (.getfield 63, 3) := by decide +kernel
theorem dX9_page_109 : decode cX9_page 109 = .ok (.iload_n 3, 1) := by decide +kernel
theorem dX9_page_110 : decode cX9_page 110 = .ok (.iaload, 1) := by decide +kernel
theorem dX9_page_111 : decode cX9_page 111 = .ok (.ireturn, 1) := by decide +kernel
theorem dX9_page_112 : decode cX9_page 112 = .ok (.aload_n 0, 1) := by decide +kernel
theorem dX9_page_113 : decode cX9_page 113 = .ok (.getfield 84, 3) := by decide +kernel
theorem dX9_page_116 : decode cX9_page 116 = .ok (.aload_n 0, 1) := by decide +kernel
theorem dX9_page_117 : decode cX9_page 117 = .ok (.getfield 54, 3) := by decide +kernel
theorem dX9_page_120 : decode cX9_page 120 = .ok (.iload_n 3, 1) := by decide +kernel
theorem dX9_page_121 : decode cX9_page 121 = .ok (.iaload, 1) := by decide +kernel
theorem dX9_page_122 : decode cX9_page 122 = .ok (.iaload, 1) := by decide +kernel
theorem dX9_page_123 : decode cX9_page 123 = .ok (.iload_n 3, 1) := by decide +kernel
theorem dX9_page_124 : decode cX9_page 124 = .ok (.if_icmp .ne 7, 3) := by decide +kernel
theorem dX9_page_127 : decode cX9_page 127 = .ok (.iconst 1, 1) := by decide +kernel
theorem dX9_page_128 : decode cX9_page 128 = .ok (.goto 4, 3) := by decide +kernel
theorem dX9_page_131 : decode cX9_page 131 = .ok (.iconst 0, 1) := by decide +kernel
theorem dX9_page_132 : decode cX9_page 132 = .ok (.ireturn, 1) := by decide +kernel
theorem dX9_page_133 : decode cX9_page 133 = .ok (.aload_n 0, 1) := by decide +kernel
theorem dX9_page_134 : decode cX9_page 134 = .ok (.getfield 66, 3) := by decide +kernel
theorem dX9_page_137 : decode cX9_page 137 = .ok (.iload_n 3, 1) := by decide +kernel
theorem dX9_page_138 : decode cX9_page 138 = .ok (.iaload, 1) := by decide +kernel
theorem dX9_page_139 : decode cX9_page 139 = .ok (.ireturn, 1) := by decide +kernel
theorem dX9_page_140 : decode cX9_page 140 = .ok (.aload_n 0, 1) := by decide +kernel
theorem dX9_page_141 : decode cX9_page 141 = .ok (.getfield 69, 3) := by decide +kernel
theorem dX9_page_144 : decode cX9_page 144 = .ok (.iload_n 3, 1) := by decide +kernel
theorem dX9_page_145 : decode cX9_page 145 = .ok (.iaload, 1) := by decide +kernel
theorem dX9_page_146 : decode cX9_page 146 = .ok (.ireturn, 1) := by decide +kernel
theorem nmX9_page : mm_nm yX9_page 2 := ⟨by decide, by decide, by decide +kernel⟩
theorem cdX9_page : mm_cd cd_Y yX9_page cX9_page 4 (some .int) := ⟨tw_1088, tw_8⟩
abbrev rmX9_page : Room := { frames := 1, cells := 0, slots := 0, locals := 22 }
def fX9_page_30  (a0 : Nat) (x1 : Int32) (x2 : Int32) (y0 : Int32) (y1 : Nat) (σ : mm_M) : Option (Int32 × mm_M) :=
  mm_sh σ y1 (.inl 9) (mm_on (fX9_goes y1 y0 σ) fun q4 => (if q4.1 = 0 then some (0, q4.2) else mm_sh q4.2 a0 (.inl 9) (mm_on (mm_R q4.2 a0 15) fun q7 => mm_ar q4.2 q7 0 fun n8 => mm_ib x1 n8 ((if x2 = 0 then mm_on (mm_R q4.2 a0 17) fun q11 => mm_ar q4.2 q11 0 fun n12 => mm_ib (mm_I q4.2 q7 x1.toNatClampNeg) n12 (some (mm_I q4.2 q11 (mm_I q4.2 q7 x1.toNatClampNeg).toNatClampNeg, q4.2)) else (if x2 = 1 then mm_on (mm_R q4.2 a0 18) fun q15 => mm_ar q4.2 q15 0 fun n16 => mm_ib (mm_I q4.2 q7 x1.toNatClampNeg) n16 (some (mm_I q4.2 q15 (mm_I q4.2 q7 x1.toNatClampNeg).toNatClampNeg, q4.2)) else (if x2 = 2 then mm_on (mm_R q4.2 a0 19) fun q19 => mm_ar q4.2 q19 0 fun n20 => mm_ib (mm_I q4.2 q7 x1.toNatClampNeg) n20 (some (mm_I q4.2 q19 (mm_I q4.2 q7 x1.toNatClampNeg).toNatClampNeg, q4.2)) else (if x2 = 3 then mm_on (mm_R q4.2 a0 20) fun q23 => mm_ar q4.2 q23 0 fun n24 => mm_ib (mm_I q4.2 q7 x1.toNatClampNeg) n24 (some (mm_I q4.2 q23 (mm_I q4.2 q7 x1.toNatClampNeg).toNatClampNeg, q4.2)) else (if x2 = 4 then mm_on (mm_R q4.2 a0 17) fun q27 => mm_ar q4.2 q27 0 fun n28 => mm_ib (mm_I q4.2 q7 x1.toNatClampNeg) n28 (mm_on (mm_R q4.2 a0 27) fun q30 => mm_ar q4.2 q30 0 fun n31 => mm_ib (mm_I q4.2 q27 (mm_I q4.2 q7 x1.toNatClampNeg).toNatClampNeg) n31 ((if (mm_I q4.2 q30 (mm_I q4.2 q27 (mm_I q4.2 q7 x1.toNatClampNeg).toNatClampNeg).toNatClampNeg) = (mm_I q4.2 q7 x1.toNatClampNeg) then some (1, q4.2) else some (0, q4.2)))) else (if x2 = 5 then mm_on (mm_R q4.2 a0 21) fun q35 => mm_ar q4.2 q35 0 fun n36 => mm_ib (mm_I q4.2 q7 x1.toNatClampNeg) n36 (some (mm_I q4.2 q35 (mm_I q4.2 q7 x1.toNatClampNeg).toNatClampNeg, q4.2)) else mm_on (mm_R q4.2 a0 22) fun q38 => mm_ar q4.2 q38 0 fun n39 => mm_ib (mm_I q4.2 q7 x1.toNatClampNeg) n39 (some (mm_I q4.2 q38 (mm_I q4.2 q7 x1.toNatClampNeg).toNatClampNeg, q4.2))))))))))))
def fX9_page_29  (a0 : Nat) (x1 : Int32) (x2 : Int32) (y0 : Nat) (σ : mm_M) : Option (Int32 × mm_M) :=
  (fX9_page_30  a0 x1 x2 0 y0 σ)
def fX9_page (p0 : Nat) (p1 : Int32) (p2 : Int32) (σ : mm_M) : Option (Int32 × mm_M) :=
  mm_sh σ p0 (.inl 9) ((if (fX9_in p1 0 ((mm_I σ p0 14) - 1)) = 0 then (fX9_page_29  p0 p1 p2 p0 σ) else (if (fX9_in p2 0 6) = 0 then (fX9_page_29  p0 p1 p2 p0 σ) else (fX9_page_30  p0 p1 p2 1 p0 σ))))
set_option maxHeartbeats 4000000 in
set_option maxRecDepth 100000 in
theorem kX9_page_30 {G : mm_G} {A : Nat → Prop} {ini : Bool}  {R : (Int32 × mm_M)}  (a0 : Nat) (x1 : Int32) (x2 : Int32) (y0 : Int32) (y1 : Nat) (σ : mm_M) (hf : fX9_page_30  a0 x1 x2 y0 y1 σ = some R) : mm_J cd_Y G RX9 cX9_page 4 (some .int) ini rmX9_page A (mm_QF cd_Y G A (mm_Pi R.1 R.2) rmX9_page.cells rmX9_page.slots) 30 [(0, .ref a0), (1, .int x1), (2, .int x2)] [.int y0, .ref y1] σ 0 0 := by
  unfold fX9_page_30 at hf
  obtain ⟨hs3, hf⟩ := mm_sh_s hf
  obtain ⟨q4, hq4, hf⟩ := mm_on_s hf
  refine mm_callVi cd_ok (kX9_goes y1 y0 hq4) hs3 rfl (Or.inl tw_944) cdX9_goes tw_946 ts_31 nmX9_goes rfl rfl (by simp only [List.map_cons, List.map_nil, mm_rf_cat]; exact Nat.le_of_ble_eq_true rfl) dX9_page_30 ⟨Nat.le_of_ble_eq_true rfl, Nat.le_of_ble_eq_true rfl⟩ ⟨Nat.le_of_ble_eq_true rfl, Nat.le_of_ble_eq_true rfl⟩ ?_
  refine mm_if_ne (tgt := 38) dX9_page_33 (by decide) (fun c5 => ?_) (fun c5 => ?_)
  · rw [if_neg c5] at hf
    refine mm_aload_n (j := 0) dX9_page_38 rfl rfl ?_
    obtain ⟨hs6, hf⟩ := mm_sh_s hf
    refine mm_get (c := 9) (k := 15) (v := va_rf (mm_R q4.2 a0 15)) cd_ok ⟨_, _, _, rfl, by decide, Or.inl tw_809⟩ hs6 rfl dX9_page_39 ?_
    refine mm_iload_n (j := 1) dX9_page_42 rfl rfl ?_
    obtain ⟨q7, hq7, hf⟩ := mm_on_s hf
    rw [hq7, mm_rf_some]
    obtain ⟨n8, hn8, hf⟩ := mm_ar_s hf
    obtain ⟨hi9, hf⟩ := mm_ib_s hf
    refine mm_iald hn8 rfl hi9 dX9_page_43 ?_
    refine mm_istore_n (L' := [(3, .int (mm_I q4.2 q7 x1.toNatClampNeg)), (0, .ref a0), (1, .int x1), (2, .int x2)]) dX9_page_44 rfl (by decide) rfl ?_
    refine mm_iload_n (j := 3) dX9_page_45 rfl rfl ?_
    by_cases c10 : x2 = 0
    · rw [if_pos c10] at hf
      refine mm_tableEq (off := 38) (tgt := 84) dX9_page_46 c10 (by decide) (by decide) (by decide) (by decide) ?_
      refine mm_aload_n (j := 1) dX9_page_84 rfl rfl ?_
      refine mm_get (c := 9) (k := 17) (v := va_rf (mm_R q4.2 a0 17)) cd_ok ⟨_, _, _, rfl, by decide, Or.inl tw_811⟩ hs6 rfl dX9_page_85 ?_
      refine mm_iload_n (j := 0) dX9_page_88 rfl rfl ?_
      obtain ⟨q11, hq11, hf⟩ := mm_on_s hf
      rw [hq11, mm_rf_some]
      obtain ⟨n12, hn12, hf⟩ := mm_ar_s hf
      obtain ⟨hi13, hf⟩ := mm_ib_s hf
      refine mm_iald hn12 rfl hi13 dX9_page_89 ?_
      cases hf
      exact mm_iret rfl rfl dX9_page_90 ⟨rfl, rfl⟩
    rw [if_neg c10] at hf
    by_cases c14 : x2 = 1
    · rw [if_pos c14] at hf
      refine mm_tableEq (off := 45) (tgt := 91) dX9_page_46 c14 (by decide) (by decide) (by decide) (by decide) ?_
      refine mm_aload_n (j := 1) dX9_page_91 rfl rfl ?_
      refine mm_get (c := 9) (k := 18) (v := va_rf (mm_R q4.2 a0 18)) cd_ok ⟨_, _, _, rfl, by decide, Or.inl tw_812⟩ hs6 rfl dX9_page_92 ?_
      refine mm_iload_n (j := 0) dX9_page_95 rfl rfl ?_
      obtain ⟨q15, hq15, hf⟩ := mm_on_s hf
      rw [hq15, mm_rf_some]
      obtain ⟨n16, hn16, hf⟩ := mm_ar_s hf
      obtain ⟨hi17, hf⟩ := mm_ib_s hf
      refine mm_iald hn16 rfl hi17 dX9_page_96 ?_
      cases hf
      exact mm_iret rfl rfl dX9_page_97 ⟨rfl, rfl⟩
    rw [if_neg c14] at hf
    by_cases c18 : x2 = 2
    · rw [if_pos c18] at hf
      refine mm_tableEq (off := 52) (tgt := 98) dX9_page_46 c18 (by decide) (by decide) (by decide) (by decide) ?_
      refine mm_aload_n (j := 1) dX9_page_98 rfl rfl ?_
      refine mm_get (c := 9) (k := 19) (v := va_rf (mm_R q4.2 a0 19)) cd_ok ⟨_, _, _, rfl, by decide, Or.inl tw_813⟩ hs6 rfl dX9_page_99 ?_
      refine mm_iload_n (j := 0) dX9_page_102 rfl rfl ?_
      obtain ⟨q19, hq19, hf⟩ := mm_on_s hf
      rw [hq19, mm_rf_some]
      obtain ⟨n20, hn20, hf⟩ := mm_ar_s hf
      obtain ⟨hi21, hf⟩ := mm_ib_s hf
      refine mm_iald hn20 rfl hi21 dX9_page_103 ?_
      cases hf
      exact mm_iret rfl rfl dX9_page_104 ⟨rfl, rfl⟩
    rw [if_neg c18] at hf
    by_cases c22 : x2 = 3
    · rw [if_pos c22] at hf
      refine mm_tableEq (off := 59) (tgt := 105) dX9_page_46 c22 (by decide) (by decide) (by decide) (by decide) ?_
      refine mm_aload_n (j := 1) dX9_page_105 rfl rfl ?_
      refine mm_get (c := 9) (k := 20) (v := va_rf (mm_R q4.2 a0 20)) cd_ok ⟨_, _, _, rfl, by decide, Or.inl tw_814⟩ hs6 rfl dX9_page_106 ?_
      refine mm_iload_n (j := 0) dX9_page_109 rfl rfl ?_
      obtain ⟨q23, hq23, hf⟩ := mm_on_s hf
      rw [hq23, mm_rf_some]
      obtain ⟨n24, hn24, hf⟩ := mm_ar_s hf
      obtain ⟨hi25, hf⟩ := mm_ib_s hf
      refine mm_iald hn24 rfl hi25 dX9_page_110 ?_
      cases hf
      exact mm_iret rfl rfl dX9_page_111 ⟨rfl, rfl⟩
    rw [if_neg c22] at hf
    by_cases c26 : x2 = 4
    · rw [if_pos c26] at hf
      refine mm_tableEq (off := 66) (tgt := 112) dX9_page_46 c26 (by decide) (by decide) (by decide) (by decide) ?_
      refine mm_aload_n (j := 1) dX9_page_112 rfl rfl ?_
      refine mm_get (c := 9) (k := 27) (v := va_rf (mm_R q4.2 a0 27)) cd_ok ⟨_, _, _, rfl, by decide, Or.inl tw_821⟩ hs6 rfl dX9_page_113 ?_
      refine mm_aload_n (j := 1) dX9_page_116 rfl rfl ?_
      refine mm_get (c := 9) (k := 17) (v := va_rf (mm_R q4.2 a0 17)) cd_ok ⟨_, _, _, rfl, by decide, Or.inl tw_811⟩ hs6 rfl dX9_page_117 ?_
      refine mm_iload_n (j := 0) dX9_page_120 rfl rfl ?_
      obtain ⟨q27, hq27, hf⟩ := mm_on_s hf
      rw [hq27, mm_rf_some]
      obtain ⟨n28, hn28, hf⟩ := mm_ar_s hf
      obtain ⟨hi29, hf⟩ := mm_ib_s hf
      refine mm_iald hn28 rfl hi29 dX9_page_121 ?_
      obtain ⟨q30, hq30, hf⟩ := mm_on_s hf
      rw [hq30, mm_rf_some]
      obtain ⟨n31, hn31, hf⟩ := mm_ar_s hf
      obtain ⟨hi32, hf⟩ := mm_ib_s hf
      refine mm_iald hn31 rfl hi32 dX9_page_122 ?_
      refine mm_iload_n (j := 0) dX9_page_123 rfl rfl ?_
      refine mm_icmp_ne (tgt := 131) dX9_page_124 (by decide) (fun c33 => ?_) (fun c33 => ?_)
      · rw [if_neg c33] at hf
        refine mm_iconst (v := 0) dX9_page_131 (by decide) ?_
        cases hf
        exact mm_iret rfl rfl dX9_page_132 ⟨rfl, rfl⟩
      · rw [if_pos c33] at hf
        refine mm_iconst (v := 1) dX9_page_127 (by decide) ?_
        refine mm_goto (tgt := 132) dX9_page_128 (by decide) ?_
        cases hf
        exact mm_iret rfl rfl dX9_page_132 ⟨rfl, rfl⟩
    rw [if_neg c26] at hf
    by_cases c34 : x2 = 5
    · rw [if_pos c34] at hf
      refine mm_tableEq (off := 87) (tgt := 133) dX9_page_46 c34 (by decide) (by decide) (by decide) (by decide) ?_
      refine mm_aload_n (j := 1) dX9_page_133 rfl rfl ?_
      refine mm_get (c := 9) (k := 21) (v := va_rf (mm_R q4.2 a0 21)) cd_ok ⟨_, _, _, rfl, by decide, Or.inl tw_815⟩ hs6 rfl dX9_page_134 ?_
      refine mm_iload_n (j := 0) dX9_page_137 rfl rfl ?_
      obtain ⟨q35, hq35, hf⟩ := mm_on_s hf
      rw [hq35, mm_rf_some]
      obtain ⟨n36, hn36, hf⟩ := mm_ar_s hf
      obtain ⟨hi37, hf⟩ := mm_ib_s hf
      refine mm_iald hn36 rfl hi37 dX9_page_138 ?_
      cases hf
      exact mm_iret rfl rfl dX9_page_139 ⟨rfl, rfl⟩
    rw [if_neg c34] at hf
    refine mm_tableOut (tgt := 140) dX9_page_46 (by have nc10 := mm_neI (k := 0) (by decide) c10; have nc14 := mm_neI (k := 1) (by decide) c14; have nc18 := mm_neI (k := 2) (by decide) c18; have nc22 := mm_neI (k := 3) (by decide) c22; have nc26 := mm_neI (k := 4) (by decide) c26; have nc34 := mm_neI (k := 5) (by decide) c34; omega) (by decide) ?_
    refine mm_aload_n (j := 1) dX9_page_140 rfl rfl ?_
    refine mm_get (c := 9) (k := 22) (v := va_rf (mm_R q4.2 a0 22)) cd_ok ⟨_, _, _, rfl, by decide, Or.inl tw_816⟩ hs6 rfl dX9_page_141 ?_
    refine mm_iload_n (j := 0) dX9_page_144 rfl rfl ?_
    obtain ⟨q38, hq38, hf⟩ := mm_on_s hf
    rw [hq38, mm_rf_some]
    obtain ⟨n39, hn39, hf⟩ := mm_ar_s hf
    obtain ⟨hi40, hf⟩ := mm_ib_s hf
    refine mm_iald hn39 rfl hi40 dX9_page_145 ?_
    cases hf
    exact mm_iret rfl rfl dX9_page_146 ⟨rfl, rfl⟩
  · rw [if_pos c5] at hf
    refine mm_iconst (v := 0) dX9_page_36 (by decide) ?_
    cases hf
    exact mm_iret rfl rfl dX9_page_37 ⟨rfl, rfl⟩
set_option maxHeartbeats 4000000 in
set_option maxRecDepth 100000 in
theorem kX9_page_29 {G : mm_G} {A : Nat → Prop} {ini : Bool}  {R : (Int32 × mm_M)}  (a0 : Nat) (x1 : Int32) (x2 : Int32) (y0 : Nat) (σ : mm_M) (hf : fX9_page_29  a0 x1 x2 y0 σ = some R) : mm_J cd_Y G RX9 cX9_page 4 (some .int) ini rmX9_page A (mm_QF cd_Y G A (mm_Pi R.1 R.2) rmX9_page.cells rmX9_page.slots) 29 [(0, .ref a0), (1, .int x1), (2, .int x2)] [.ref y0] σ 0 0 := by
  unfold fX9_page_29 at hf
  refine mm_iconst (v := 0) dX9_page_29 (by decide) ?_
  refine mm_sub [0, 1, 2] rfl ?_
  exact kX9_page_30  a0 x1 x2 0 y0 σ hf
set_option maxHeartbeats 4000000 in
set_option maxRecDepth 100000 in
theorem kX9_page {G : mm_G} {A : Nat → Prop} (p0 : Nat) (p1 : Int32) (p2 : Int32) {σ : mm_M} {R : (Int32 × mm_M)} (hf : fX9_page p0 p1 p2 σ = some R) : mm_C cd_Y G yX9_page cX9_page 4 (some .int) rmX9_page A [.ref p0, .int p1, .int p2] σ (mm_Pi R.1 R.2) := by
  refine mm_C.of (by decide) (Nat.le_of_ble_eq_true rfl) ?_
  unfold fX9_page at hf
  have e0 : lv_args 0 [.ref p0, .int p1, .int p2] = [(0, .ref p0), (1, .int p1), (2, .int p2)] := rfl
  rw [e0]
  generalize hini : (yX9_page.name == "<init>") = ini
  clear e0
  clear hini
  refine mm_aload_n (j := 0) dX9_page_0 rfl rfl ?_
  refine mm_iload_n (j := 1) dX9_page_1 rfl rfl ?_
  refine mm_iconst (v := 0) dX9_page_2 (by decide) ?_
  refine mm_aload_n (j := 0) dX9_page_3 rfl rfl ?_
  obtain ⟨hs1, hf⟩ := mm_sh_s hf
  refine mm_get (c := 9) (k := 14) (v := .int (mm_I σ p0 14)) cd_ok ⟨_, _, _, rfl, by decide, Or.inl tw_808⟩ hs1 rfl dX9_page_4 ?_
  refine mm_iconst (v := 1) dX9_page_7 (by decide) ?_
  refine mm_isub dX9_page_8 ?_
  refine mm_callSi cd_ok (kX9_in p1 0 ((mm_I σ p0 14) - 1) _ rfl) (Or.inl tw_941) cdX9_in tw_942 nmX9_in rfl rfl (by simp only [List.map_cons, List.map_nil, mm_rf_cat]; exact Nat.le_of_ble_eq_true rfl) dX9_page_9 ⟨Nat.le_of_ble_eq_true rfl, Nat.le_of_ble_eq_true rfl⟩ ⟨Nat.le_of_ble_eq_true rfl, Nat.le_of_ble_eq_true rfl⟩ ?_
  refine mm_if_eq (tgt := 29) dX9_page_12 (by decide) (fun c2 => ?_) (fun c2 => ?_)
  · rw [if_pos c2] at hf
    refine mm_sub [0, 1, 2] rfl ?_
    exact kX9_page_29  p0 p1 p2 p0 σ hf
  · rw [if_neg c2] at hf
    refine mm_iload_n (j := 2) dX9_page_15 rfl rfl ?_
    refine mm_iconst (v := 0) dX9_page_16 (by decide) ?_
    refine mm_bipush (v := 6) dX9_page_17 (by decide) ?_
    refine mm_callSi cd_ok (kX9_in p2 0 6 _ rfl) (Or.inl tw_941) cdX9_in tw_942 nmX9_in rfl rfl (by simp only [List.map_cons, List.map_nil, mm_rf_cat]; exact Nat.le_of_ble_eq_true rfl) dX9_page_19 ⟨Nat.le_of_ble_eq_true rfl, Nat.le_of_ble_eq_true rfl⟩ ⟨Nat.le_of_ble_eq_true rfl, Nat.le_of_ble_eq_true rfl⟩ ?_
    refine mm_if_eq (tgt := 29) dX9_page_22 (by decide) (fun c41 => ?_) (fun c41 => ?_)
    · rw [if_pos c41] at hf
      refine mm_sub [0, 1, 2] rfl ?_
      exact kX9_page_29  p0 p1 p2 p0 σ hf
    · rw [if_neg c41] at hf
      refine mm_iconst (v := 1) dX9_page_25 (by decide) ?_
      refine mm_goto (tgt := 30) dX9_page_26 (by decide) ?_
      refine mm_sub [0, 1, 2] rfl ?_
      exact kX9_page_30  p0 p1 p2 1 p0 σ hf
theorem dX9_sign_0 : decode cX9_sign 0 = .ok (.aload_n 0, 1) := by decide +kernel
theorem dX9_sign_1 : decode cX9_sign 1 = .ok (.iload_n 1, 1) := by decide +kernel
theorem dX9_sign_2 : decode cX9_sign 2 = .ok (.iconst 0, 1) := by decide +kernel
theorem dX9_sign_3 : decode cX9_sign 3 = .ok (.aload_n 0, 1) := by decide +kernel
theorem dX9_sign_4 : decode cX9_sign 4 = .ok (.getfield 206, 3) := by decide +kernel
theorem dX9_sign_7 : decode cX9_sign 7 = .ok (.iconst 1, 1) := by decide +kernel
theorem dX9_sign_8 : decode cX9_sign 8 = .ok (.isub, 1) := by decide +kernel
theorem dX9_sign_9 : decode cX9_sign 9 = .ok (.invokestatic 153, 3) := by decide +kernel
theorem dX9_sign_12 : decode cX9_sign 12 = .ok (.ifCond .eq 27, 3) := by decide +kernel
theorem dX9_sign_15 : decode cX9_sign 15 = .ok (.iload_n 2, 1) := by decide +kernel
theorem dX9_sign_16 : decode cX9_sign 16 = .ok (.iconst 0, 1) := by decide +kernel
theorem dX9_sign_17 : decode cX9_sign 17 = .ok (.bipush 24, 2) := by decide +kernel
theorem dX9_sign_19 : decode cX9_sign 19 = .ok (.invokestatic 153, 3) := by decide +kernel
theorem dX9_sign_22 : decode cX9_sign 22 = .ok (.ifCond .eq 17, 3) := by decide +kernel
theorem dX9_sign_25 : decode cX9_sign 25 = .ok (.iload_n 3, 1) := by decide +kernel
theorem dX9_sign_26 : decode cX9_sign 26 = .ok (.iconst 0, 1) := by decide +kernel
theorem dX9_sign_27 : decode cX9_sign 27 = .ok (.bipush 39, 2) := by decide +kernel
theorem dX9_sign_29 : decode cX9_sign 29 = .ok (.invokestatic 153, 3) := by decide +kernel
theorem dX9_sign_32 : decode cX9_sign 32 = .ok (.ifCond .eq 7, 3) := by decide +kernel
theorem dX9_sign_35 : decode cX9_sign 35 = .ok (.iconst 1, 1) := by decide +kernel
theorem dX9_sign_36 : decode cX9_sign 36 = .ok (.goto 4, 3) := by decide +kernel
theorem dX9_sign_39 : decode cX9_sign 39 = .ok (.iconst 0, 1) := by decide +kernel
theorem dX9_sign_40 : decode cX9_sign 40 = .ok (.invokevirtual 169, 3) := by decide +kernel
theorem dX9_sign_43 : decode cX9_sign 43 = .ok (.ifCond .ne 5, 3) := by decide +kernel
theorem dX9_sign_46 : decode cX9_sign 46 = .ok (.iconst 0, 1) := by decide +kernel
theorem dX9_sign_47 : decode cX9_sign 47 = .ok (.ireturn, 1) := by decide +kernel
theorem dX9_sign_48 : decode cX9_sign 48 = .ok (.aload_n 0, 1) := by decide +kernel
theorem dX9_sign_49 : decode cX9_sign 49 = .ok (.getfield 47, 3) := by decide +kernel
theorem dX9_sign_52 : decode cX9_sign 52 = .ok (.iload_n 1, 1) := by decide +kernel
theorem dX9_sign_53 : decode cX9_sign 53 = .ok (.iaload, 1) := by decide +kernel
theorem dX9_sign_54 : decode cX9_sign 54 = .ok (.istore 4, 2) := by decide +kernel
theorem dX9_sign_56 : decode cX9_sign 56 = .ok (.aload_n 0, 1) := by decide +kernel
theorem dX9_sign_57 : decode cX9_sign 57 = .ok (.getfield 75, 3) := by decide +kernel
theorem dX9_sign_60 : decode cX9_sign 60 = .ok (.bipush 25, 2) := by decide +kernel
theorem dX9_sign_62 : decode cX9_sign 62 = .ok (.iload 4, 2) := by decide +kernel
theorem dX9_sign_64 : decode cX9_sign 64 = .ok (.imul, 1) := by decide +kernel
theorem dX9_sign_65 : decode cX9_sign 65 = .ok (.iload_n 2, 1) := by decide +kernel
theorem dX9_sign_66 : decode cX9_sign 66 = .ok (.iadd, 1) := by decide +kernel
theorem dX9_sign_67 : decode cX9_sign 67 = .ok (.baload, 1) := by decide +kernel
theorem dX9_sign_68 : decode cX9_sign 68 = .ok (.ifCond .eq 24, 3) := by decide +kernel
theorem dX9_sign_71 : decode cX9_sign 71 = .ok (.aload_n 0, 1) := by decide +kernel
theorem dX9_sign_72 : decode cX9_sign 72 = .ok (.getfield 72, 3) := by decide +kernel
theorem dX9_sign_75 : decode cX9_sign 75 = .ok (.sipush 1000, 3) := by decide +kernel
theorem dX9_sign_78 : decode cX9_sign 78 = .ok (.iload 4, 2) := by decide +kernel
theorem dX9_sign_80 : decode cX9_sign 80 = .ok (.imul, 1) := by decide +kernel
theorem dX9_sign_81 : decode cX9_sign 81 = .ok (.bipush 40, 2) := by decide +kernel
theorem dX9_sign_83 : decode cX9_sign 83 = .ok (.iload_n 2, 1) := by decide +kernel
theorem dX9_sign_84 : decode cX9_sign 84 = .ok (.imul, 1) := by decide +kernel
theorem dX9_sign_85 : decode cX9_sign 85 = .ok (.iadd, 1) := by decide +kernel
theorem dX9_sign_86 : decode cX9_sign 86 = .ok (.iload_n 3, 1) := by decide +kernel
theorem dX9_sign_87 : decode cX9_sign 87 = .ok (.iadd, 1) := by decide +kernel
theorem dX9_sign_88 : decode cX9_sign 88 = .ok (.baload, 1) := by decide +kernel
theorem dX9_sign_89 : decode cX9_sign 89 = .ok (.goto 4, 3) := by decide +kernel
theorem dX9_sign_92 : decode cX9_sign 92 = .ok (.iconst 0, 1) := by decide +kernel
theorem dX9_sign_93 : decode cX9_sign 93 = .ok (.ireturn, 1) := by decide +kernel
theorem nmX9_sign : mm_nm yX9_sign 3 := ⟨by decide, by decide, by decide +kernel⟩
theorem cdX9_sign : mm_cd cd_Y yX9_sign cX9_sign 5 (some .int) := ⟨tw_1092, tw_8⟩
abbrev rmX9_sign : Room := { frames := 1, cells := 0, slots := 0, locals := 22 }
def fX9_sign_40  (a0 : Nat) (x1 : Int32) (x2 : Int32) (x3 : Int32) (y0 : Int32) (y1 : Nat) (σ : mm_M) : Option (Int32 × mm_M) :=
  mm_sh σ y1 (.inl 9) (mm_on (fX9_goes y1 y0 σ) fun q4 => (if q4.1 = 0 then some (0, q4.2) else mm_sh q4.2 a0 (.inl 9) (mm_on (mm_R q4.2 a0 15) fun q7 => mm_ar q4.2 q7 0 fun n8 => mm_ib x1 n8 (mm_on (mm_R q4.2 a0 24) fun q10 => mm_ar q4.2 q10 1 fun n11 => mm_ib ((25 * (mm_I q4.2 q7 x1.toNatClampNeg)) + x2) n11 ((if (mm_I q4.2 q10 ((25 * (mm_I q4.2 q7 x1.toNatClampNeg)) + x2).toNatClampNeg) = 0 then some (0, q4.2) else mm_on (mm_R q4.2 a0 23) fun q14 => mm_ar q4.2 q14 2 fun n15 => mm_ib (((1000 * (mm_I q4.2 q7 x1.toNatClampNeg)) + (40 * x2)) + x3) n15 (some (mm_I q4.2 q14 (((1000 * (mm_I q4.2 q7 x1.toNatClampNeg)) + (40 * x2)) + x3).toNatClampNeg, q4.2))))))))
def fX9_sign_39  (a0 : Nat) (x1 : Int32) (x2 : Int32) (x3 : Int32) (y0 : Nat) (σ : mm_M) : Option (Int32 × mm_M) :=
  (fX9_sign_40  a0 x1 x2 x3 0 y0 σ)
def fX9_sign (p0 : Nat) (p1 : Int32) (p2 : Int32) (p3 : Int32) (σ : mm_M) : Option (Int32 × mm_M) :=
  mm_sh σ p0 (.inl 9) ((if (fX9_in p1 0 ((mm_I σ p0 14) - 1)) = 0 then (fX9_sign_39  p0 p1 p2 p3 p0 σ) else (if (fX9_in p2 0 24) = 0 then (fX9_sign_39  p0 p1 p2 p3 p0 σ) else (if (fX9_in p3 0 39) = 0 then (fX9_sign_39  p0 p1 p2 p3 p0 σ) else (fX9_sign_40  p0 p1 p2 p3 1 p0 σ)))))
set_option maxHeartbeats 4000000 in
set_option maxRecDepth 100000 in
theorem kX9_sign_40 {G : mm_G} {A : Nat → Prop} {ini : Bool}  {R : (Int32 × mm_M)}  (a0 : Nat) (x1 : Int32) (x2 : Int32) (x3 : Int32) (y0 : Int32) (y1 : Nat) (σ : mm_M) (hf : fX9_sign_40  a0 x1 x2 x3 y0 y1 σ = some R) : mm_J cd_Y G RX9 cX9_sign 5 (some .int) ini rmX9_sign A (mm_QF cd_Y G A (mm_Pi R.1 R.2) rmX9_sign.cells rmX9_sign.slots) 40 [(0, .ref a0), (1, .int x1), (2, .int x2), (3, .int x3)] [.int y0, .ref y1] σ 0 0 := by
  unfold fX9_sign_40 at hf
  obtain ⟨hs3, hf⟩ := mm_sh_s hf
  obtain ⟨q4, hq4, hf⟩ := mm_on_s hf
  refine mm_callVi cd_ok (kX9_goes y1 y0 hq4) hs3 rfl (Or.inl tw_944) cdX9_goes tw_946 ts_31 nmX9_goes rfl rfl (by simp only [List.map_cons, List.map_nil, mm_rf_cat]; exact Nat.le_of_ble_eq_true rfl) dX9_sign_40 ⟨Nat.le_of_ble_eq_true rfl, Nat.le_of_ble_eq_true rfl⟩ ⟨Nat.le_of_ble_eq_true rfl, Nat.le_of_ble_eq_true rfl⟩ ?_
  refine mm_if_ne (tgt := 48) dX9_sign_43 (by decide) (fun c5 => ?_) (fun c5 => ?_)
  · rw [if_neg c5] at hf
    refine mm_aload_n (j := 0) dX9_sign_48 rfl rfl ?_
    obtain ⟨hs6, hf⟩ := mm_sh_s hf
    refine mm_get (c := 9) (k := 15) (v := va_rf (mm_R q4.2 a0 15)) cd_ok ⟨_, _, _, rfl, by decide, Or.inl tw_809⟩ hs6 rfl dX9_sign_49 ?_
    refine mm_iload_n (j := 1) dX9_sign_52 rfl rfl ?_
    obtain ⟨q7, hq7, hf⟩ := mm_on_s hf
    rw [hq7, mm_rf_some]
    obtain ⟨n8, hn8, hf⟩ := mm_ar_s hf
    obtain ⟨hi9, hf⟩ := mm_ib_s hf
    refine mm_iald hn8 rfl hi9 dX9_sign_53 ?_
    refine mm_istore (L' := [(4, .int (mm_I q4.2 q7 x1.toNatClampNeg)), (0, .ref a0), (1, .int x1), (2, .int x2), (3, .int x3)]) dX9_sign_54 (by decide) rfl ?_
    refine mm_aload_n (j := 1) dX9_sign_56 rfl rfl ?_
    refine mm_get (c := 9) (k := 24) (v := va_rf (mm_R q4.2 a0 24)) cd_ok ⟨_, _, _, rfl, by decide, Or.inl tw_818⟩ hs6 rfl dX9_sign_57 ?_
    refine mm_bipush (v := 25) dX9_sign_60 (by decide) ?_
    refine mm_iload (j := 0) dX9_sign_62 rfl ?_
    refine mm_imul dX9_sign_64 ?_
    refine mm_iload_n (j := 3) dX9_sign_65 rfl rfl ?_
    refine mm_iadd dX9_sign_66 ?_
    obtain ⟨q10, hq10, hf⟩ := mm_on_s hf
    rw [hq10, mm_rf_some]
    obtain ⟨n11, hn11, hf⟩ := mm_ar_s hf
    obtain ⟨hi12, hf⟩ := mm_ib_s hf
    refine mm_zald hn11 rfl hi12 dX9_sign_67 ?_
    refine mm_if_eq (tgt := 92) dX9_sign_68 (by decide) (fun c13 => ?_) (fun c13 => ?_)
    · rw [if_pos c13] at hf
      refine mm_iconst (v := 0) dX9_sign_92 (by decide) ?_
      cases hf
      exact mm_iret rfl rfl dX9_sign_93 ⟨rfl, rfl⟩
    · rw [if_neg c13] at hf
      refine mm_aload_n (j := 1) dX9_sign_71 rfl rfl ?_
      refine mm_get (c := 9) (k := 23) (v := va_rf (mm_R q4.2 a0 23)) cd_ok ⟨_, _, _, rfl, by decide, Or.inl tw_817⟩ hs6 rfl dX9_sign_72 ?_
      refine mm_sipush (v := 1000) dX9_sign_75 (by decide) ?_
      refine mm_iload (j := 0) dX9_sign_78 rfl ?_
      refine mm_imul dX9_sign_80 ?_
      refine mm_bipush (v := 40) dX9_sign_81 (by decide) ?_
      refine mm_iload_n (j := 3) dX9_sign_83 rfl rfl ?_
      refine mm_imul dX9_sign_84 ?_
      refine mm_iadd dX9_sign_85 ?_
      refine mm_iload_n (j := 4) dX9_sign_86 rfl rfl ?_
      refine mm_iadd dX9_sign_87 ?_
      obtain ⟨q14, hq14, hf⟩ := mm_on_s hf
      rw [hq14, mm_rf_some]
      obtain ⟨n15, hn15, hf⟩ := mm_ar_s hf
      obtain ⟨hi16, hf⟩ := mm_ib_s hf
      refine mm_bald hn15 rfl hi16 dX9_sign_88 ?_
      refine mm_goto (tgt := 93) dX9_sign_89 (by decide) ?_
      cases hf
      exact mm_iret rfl rfl dX9_sign_93 ⟨rfl, rfl⟩
  · rw [if_pos c5] at hf
    refine mm_iconst (v := 0) dX9_sign_46 (by decide) ?_
    cases hf
    exact mm_iret rfl rfl dX9_sign_47 ⟨rfl, rfl⟩
set_option maxHeartbeats 4000000 in
set_option maxRecDepth 100000 in
theorem kX9_sign_39 {G : mm_G} {A : Nat → Prop} {ini : Bool}  {R : (Int32 × mm_M)}  (a0 : Nat) (x1 : Int32) (x2 : Int32) (x3 : Int32) (y0 : Nat) (σ : mm_M) (hf : fX9_sign_39  a0 x1 x2 x3 y0 σ = some R) : mm_J cd_Y G RX9 cX9_sign 5 (some .int) ini rmX9_sign A (mm_QF cd_Y G A (mm_Pi R.1 R.2) rmX9_sign.cells rmX9_sign.slots) 39 [(0, .ref a0), (1, .int x1), (2, .int x2), (3, .int x3)] [.ref y0] σ 0 0 := by
  unfold fX9_sign_39 at hf
  refine mm_iconst (v := 0) dX9_sign_39 (by decide) ?_
  refine mm_sub [0, 1, 2, 3] rfl ?_
  exact kX9_sign_40  a0 x1 x2 x3 0 y0 σ hf
set_option maxHeartbeats 4000000 in
set_option maxRecDepth 100000 in
theorem kX9_sign {G : mm_G} {A : Nat → Prop} (p0 : Nat) (p1 : Int32) (p2 : Int32) (p3 : Int32) {σ : mm_M} {R : (Int32 × mm_M)} (hf : fX9_sign p0 p1 p2 p3 σ = some R) : mm_C cd_Y G yX9_sign cX9_sign 5 (some .int) rmX9_sign A [.ref p0, .int p1, .int p2, .int p3] σ (mm_Pi R.1 R.2) := by
  refine mm_C.of (by decide) (Nat.le_of_ble_eq_true rfl) ?_
  unfold fX9_sign at hf
  have e0 : lv_args 0 [.ref p0, .int p1, .int p2, .int p3] = [(0, .ref p0), (1, .int p1), (2, .int p2), (3, .int p3)] := rfl
  rw [e0]
  generalize hini : (yX9_sign.name == "<init>") = ini
  clear e0
  clear hini
  refine mm_aload_n (j := 0) dX9_sign_0 rfl rfl ?_
  refine mm_iload_n (j := 1) dX9_sign_1 rfl rfl ?_
  refine mm_iconst (v := 0) dX9_sign_2 (by decide) ?_
  refine mm_aload_n (j := 0) dX9_sign_3 rfl rfl ?_
  obtain ⟨hs1, hf⟩ := mm_sh_s hf
  refine mm_get (c := 9) (k := 14) (v := .int (mm_I σ p0 14)) cd_ok ⟨_, _, _, rfl, by decide, Or.inl tw_808⟩ hs1 rfl dX9_sign_4 ?_
  refine mm_iconst (v := 1) dX9_sign_7 (by decide) ?_
  refine mm_isub dX9_sign_8 ?_
  refine mm_callSi cd_ok (kX9_in p1 0 ((mm_I σ p0 14) - 1) _ rfl) (Or.inl tw_941) cdX9_in tw_942 nmX9_in rfl rfl (by simp only [List.map_cons, List.map_nil, mm_rf_cat]; exact Nat.le_of_ble_eq_true rfl) dX9_sign_9 ⟨Nat.le_of_ble_eq_true rfl, Nat.le_of_ble_eq_true rfl⟩ ⟨Nat.le_of_ble_eq_true rfl, Nat.le_of_ble_eq_true rfl⟩ ?_
  refine mm_if_eq (tgt := 39) dX9_sign_12 (by decide) (fun c2 => ?_) (fun c2 => ?_)
  · rw [if_pos c2] at hf
    refine mm_sub [0, 1, 2, 3] rfl ?_
    exact kX9_sign_39  p0 p1 p2 p3 p0 σ hf
  · rw [if_neg c2] at hf
    refine mm_iload_n (j := 2) dX9_sign_15 rfl rfl ?_
    refine mm_iconst (v := 0) dX9_sign_16 (by decide) ?_
    refine mm_bipush (v := 24) dX9_sign_17 (by decide) ?_
    refine mm_callSi cd_ok (kX9_in p2 0 24 _ rfl) (Or.inl tw_941) cdX9_in tw_942 nmX9_in rfl rfl (by simp only [List.map_cons, List.map_nil, mm_rf_cat]; exact Nat.le_of_ble_eq_true rfl) dX9_sign_19 ⟨Nat.le_of_ble_eq_true rfl, Nat.le_of_ble_eq_true rfl⟩ ⟨Nat.le_of_ble_eq_true rfl, Nat.le_of_ble_eq_true rfl⟩ ?_
    refine mm_if_eq (tgt := 39) dX9_sign_22 (by decide) (fun c17 => ?_) (fun c17 => ?_)
    · rw [if_pos c17] at hf
      refine mm_sub [0, 1, 2, 3] rfl ?_
      exact kX9_sign_39  p0 p1 p2 p3 p0 σ hf
    · rw [if_neg c17] at hf
      refine mm_iload_n (j := 3) dX9_sign_25 rfl rfl ?_
      refine mm_iconst (v := 0) dX9_sign_26 (by decide) ?_
      refine mm_bipush (v := 39) dX9_sign_27 (by decide) ?_
      refine mm_callSi cd_ok (kX9_in p3 0 39 _ rfl) (Or.inl tw_941) cdX9_in tw_942 nmX9_in rfl rfl (by simp only [List.map_cons, List.map_nil, mm_rf_cat]; exact Nat.le_of_ble_eq_true rfl) dX9_sign_29 ⟨Nat.le_of_ble_eq_true rfl, Nat.le_of_ble_eq_true rfl⟩ ⟨Nat.le_of_ble_eq_true rfl, Nat.le_of_ble_eq_true rfl⟩ ?_
      refine mm_if_eq (tgt := 39) dX9_sign_32 (by decide) (fun c18 => ?_) (fun c18 => ?_)
      · rw [if_pos c18] at hf
        refine mm_sub [0, 1, 2, 3] rfl ?_
        exact kX9_sign_39  p0 p1 p2 p3 p0 σ hf
      · rw [if_neg c18] at hf
        refine mm_iconst (v := 1) dX9_sign_35 (by decide) ?_
        refine mm_goto (tgt := 40) dX9_sign_36 (by decide) ?_
        refine mm_sub [0, 1, 2, 3] rfl ?_
        exact kX9_sign_40  p0 p1 p2 p3 1 p0 σ hf
theorem dX9_link_0 : decode cX9_link 0 = .ok (.aload_n 0, 1) := by decide +kernel
theorem dX9_link_1 : decode cX9_link 1 = .ok (.iload_n 1, 1) := by decide +kernel
theorem dX9_link_2 : decode cX9_link 2 = .ok (.iconst 0, 1) := by decide +kernel
theorem dX9_link_3 : decode cX9_link 3 = .ok (.aload_n 0, 1) := by decide +kernel
theorem dX9_link_4 : decode cX9_link 4 = .ok (.getfield 206, 3) := by decide +kernel
theorem dX9_link_7 : decode cX9_link 7 = .ok (.iconst 1, 1) := by decide +kernel
theorem dX9_link_8 : decode cX9_link 8 = .ok (.isub, 1) := by decide +kernel
theorem dX9_link_9 : decode cX9_link 9 = .ok (.invokestatic 153, 3) := by decide +kernel
theorem dX9_link_12 : decode cX9_link 12 = .ok (.ifCond .eq 25, 3) := by decide +kernel
theorem dX9_link_15 : decode cX9_link 15 = .ok (.iload_n 2, 1) := by decide +kernel
theorem dX9_link_16 : decode cX9_link 16 = .ok (.iconst 0, 1) := by decide +kernel
theorem dX9_link_17 : decode cX9_link 17 = .ok (.iconst 5, 1) := by decide +kernel
theorem dX9_link_18 : decode cX9_link 18 = .ok (.invokestatic 153, 3) := by decide +kernel
theorem dX9_link_21 : decode cX9_link 21 = .ok (.ifCond .eq 16, 3) := by decide +kernel
theorem dX9_link_24 : decode cX9_link 24 = .ok (.iload_n 3, 1) := by decide +kernel
theorem dX9_link_25 : decode cX9_link 25 = .ok (.iconst 0, 1) := by decide +kernel
theorem dX9_link_26 : decode cX9_link 26 = .ok (.iconst 2, 1) := by decide +kernel
theorem dX9_link_27 : decode cX9_link 27 = .ok (.invokestatic 153, 3) := by decide +kernel
theorem dX9_link_30 : decode cX9_link 30 = .ok (.ifCond .eq 7, 3) := by decide +kernel
theorem dX9_link_33 : decode cX9_link 33 = .ok (.iconst 1, 1) := by decide +kernel
theorem dX9_link_34 : decode cX9_link 34 = .ok (.goto 4, 3) := by decide +kernel
theorem dX9_link_37 : decode cX9_link 37 = .ok (.iconst 0, 1) := by decide +kernel
theorem dX9_link_38 : decode cX9_link 38 = .ok (.invokevirtual 169, 3) := by decide +kernel
theorem dX9_link_41 : decode cX9_link 41 = .ok (.ifCond .ne 5, 3) := by decide +kernel
theorem dX9_link_44 : decode cX9_link 44 = .ok (.iconst 0, 1) := by decide +kernel
theorem dX9_link_45 : decode cX9_link 45 = .ok (.ireturn, 1) := by decide +kernel
theorem dX9_link_46 : decode cX9_link 46 = .ok (.bipush 6, 2) := by decide +kernel
theorem dX9_link_48 : decode cX9_link 48 = .ok (.aload_n 0, 1) := by decide +kernel
theorem dX9_link_49 : decode cX9_link 49 = .ok (.getfield 47, 3) := by decide +kernel
theorem dX9_link_52 : decode cX9_link 52 = .ok (.iload_n 1, 1) := by decide +kernel
theorem dX9_link_53 : decode cX9_link 53 = .ok (.iaload, 1) := by decide +kernel
theorem dX9_link_54 : decode cX9_link 54 = .ok (.imul, 1) := by decide +kernel
theorem dX9_link_55 : decode cX9_link 55 = .ok (.iload_n 2, 1) := by decide +kernel
theorem dX9_link_56 : decode cX9_link 56 = .ok (.iadd, 1) := by decide +kernel
theorem dX9_link_57 : decode cX9_link 57 = .ok (.istore 4, 2) := by decide +kernel
theorem dX9_link_59 : decode cX9_link 59 = .ok (.aload_n 0, 1) := by decide +kernel
theorem dX9_link_60 : decode cX9_link 60 = .ok (.getfield 81, 3) := by decide +kernel
theorem dX9_link_63 : decode cX9_link 63 = .ok (.iload 4, 2) := by decide +kernel
theorem dX9_link_65 : decode cX9_link 65 = .ok (.baload, 1) := by decide +kernel
theorem dX9_link_66 : decode cX9_link 66 = .ok (.ifCond .eq 17, 3) := by decide +kernel
theorem dX9_link_69 : decode cX9_link 69 = .ok (.aload_n 0, 1) := by decide +kernel
theorem dX9_link_70 : decode cX9_link 70 = .ok (.getfield 78, 3) := by decide +kernel
theorem dX9_link_73 : decode cX9_link 73 = .ok (.iconst 3, 1) := by decide +kernel
theorem dX9_link_74 : decode cX9_link 74 = .ok (.iload 4, 2) := by decide +kernel
theorem dX9_link_76 : decode cX9_link 76 = .ok (.imul, 1) := by decide +kernel
theorem dX9_link_77 : decode cX9_link 77 = .ok (.iload_n 3, 1) := by decide +kernel
theorem dX9_link_78 : decode cX9_link 78 = .ok (.iadd, 1) := by decide +kernel
theorem dX9_link_79 : decode cX9_link 79 = .ok (.iaload, 1) := by decide +kernel
theorem dX9_link_80 : decode cX9_link 80 = .ok (.goto 4, 3) := by decide +kernel
theorem dX9_link_83 : decode cX9_link 83 = .ok (.iconst (-1), 1) := by decide +kernel
theorem dX9_link_84 : decode cX9_link 84 = .ok (.ireturn, 1) := by decide +kernel
theorem nmX9_link : mm_nm yX9_link 3 := ⟨by decide, by decide, by decide +kernel⟩
theorem cdX9_link : mm_cd cd_Y yX9_link cX9_link 5 (some .int) := ⟨tw_1096, tw_8⟩
abbrev rmX9_link : Room := { frames := 1, cells := 0, slots := 0, locals := 22 }
def fX9_link_38  (a0 : Nat) (x1 : Int32) (x2 : Int32) (x3 : Int32) (y0 : Int32) (y1 : Nat) (σ : mm_M) : Option (Int32 × mm_M) :=
  mm_sh σ y1 (.inl 9) (mm_on (fX9_goes y1 y0 σ) fun q4 => (if q4.1 = 0 then some (0, q4.2) else mm_sh q4.2 a0 (.inl 9) (mm_on (mm_R q4.2 a0 15) fun q7 => mm_ar q4.2 q7 0 fun n8 => mm_ib x1 n8 (mm_on (mm_R q4.2 a0 26) fun q10 => mm_ar q4.2 q10 1 fun n11 => mm_ib ((6 * (mm_I q4.2 q7 x1.toNatClampNeg)) + x2) n11 ((if (mm_I q4.2 q10 ((6 * (mm_I q4.2 q7 x1.toNatClampNeg)) + x2).toNatClampNeg) = 0 then some ((-1), q4.2) else mm_on (mm_R q4.2 a0 25) fun q14 => mm_ar q4.2 q14 0 fun n15 => mm_ib ((3 * ((6 * (mm_I q4.2 q7 x1.toNatClampNeg)) + x2)) + x3) n15 (some (mm_I q4.2 q14 ((3 * ((6 * (mm_I q4.2 q7 x1.toNatClampNeg)) + x2)) + x3).toNatClampNeg, q4.2))))))))
def fX9_link_37  (a0 : Nat) (x1 : Int32) (x2 : Int32) (x3 : Int32) (y0 : Nat) (σ : mm_M) : Option (Int32 × mm_M) :=
  (fX9_link_38  a0 x1 x2 x3 0 y0 σ)
def fX9_link (p0 : Nat) (p1 : Int32) (p2 : Int32) (p3 : Int32) (σ : mm_M) : Option (Int32 × mm_M) :=
  mm_sh σ p0 (.inl 9) ((if (fX9_in p1 0 ((mm_I σ p0 14) - 1)) = 0 then (fX9_link_37  p0 p1 p2 p3 p0 σ) else (if (fX9_in p2 0 5) = 0 then (fX9_link_37  p0 p1 p2 p3 p0 σ) else (if (fX9_in p3 0 2) = 0 then (fX9_link_37  p0 p1 p2 p3 p0 σ) else (fX9_link_38  p0 p1 p2 p3 1 p0 σ)))))
set_option maxHeartbeats 4000000 in
set_option maxRecDepth 100000 in
theorem kX9_link_38 {G : mm_G} {A : Nat → Prop} {ini : Bool}  {R : (Int32 × mm_M)}  (a0 : Nat) (x1 : Int32) (x2 : Int32) (x3 : Int32) (y0 : Int32) (y1 : Nat) (σ : mm_M) (hf : fX9_link_38  a0 x1 x2 x3 y0 y1 σ = some R) : mm_J cd_Y G RX9 cX9_link 5 (some .int) ini rmX9_link A (mm_QF cd_Y G A (mm_Pi R.1 R.2) rmX9_link.cells rmX9_link.slots) 38 [(0, .ref a0), (1, .int x1), (2, .int x2), (3, .int x3)] [.int y0, .ref y1] σ 0 0 := by
  unfold fX9_link_38 at hf
  obtain ⟨hs3, hf⟩ := mm_sh_s hf
  obtain ⟨q4, hq4, hf⟩ := mm_on_s hf
  refine mm_callVi cd_ok (kX9_goes y1 y0 hq4) hs3 rfl (Or.inl tw_944) cdX9_goes tw_946 ts_31 nmX9_goes rfl rfl (by simp only [List.map_cons, List.map_nil, mm_rf_cat]; exact Nat.le_of_ble_eq_true rfl) dX9_link_38 ⟨Nat.le_of_ble_eq_true rfl, Nat.le_of_ble_eq_true rfl⟩ ⟨Nat.le_of_ble_eq_true rfl, Nat.le_of_ble_eq_true rfl⟩ ?_
  refine mm_if_ne (tgt := 46) dX9_link_41 (by decide) (fun c5 => ?_) (fun c5 => ?_)
  · rw [if_neg c5] at hf
    refine mm_bipush (v := 6) dX9_link_46 (by decide) ?_
    refine mm_aload_n (j := 0) dX9_link_48 rfl rfl ?_
    obtain ⟨hs6, hf⟩ := mm_sh_s hf
    refine mm_get (c := 9) (k := 15) (v := va_rf (mm_R q4.2 a0 15)) cd_ok ⟨_, _, _, rfl, by decide, Or.inl tw_809⟩ hs6 rfl dX9_link_49 ?_
    refine mm_iload_n (j := 1) dX9_link_52 rfl rfl ?_
    obtain ⟨q7, hq7, hf⟩ := mm_on_s hf
    rw [hq7, mm_rf_some]
    obtain ⟨n8, hn8, hf⟩ := mm_ar_s hf
    obtain ⟨hi9, hf⟩ := mm_ib_s hf
    refine mm_iald hn8 rfl hi9 dX9_link_53 ?_
    refine mm_imul dX9_link_54 ?_
    refine mm_iload_n (j := 2) dX9_link_55 rfl rfl ?_
    refine mm_iadd dX9_link_56 ?_
    refine mm_istore (L' := [(4, .int ((6 * (mm_I q4.2 q7 x1.toNatClampNeg)) + x2)), (0, .ref a0), (1, .int x1), (2, .int x2), (3, .int x3)]) dX9_link_57 (by decide) rfl ?_
    refine mm_aload_n (j := 1) dX9_link_59 rfl rfl ?_
    refine mm_get (c := 9) (k := 26) (v := va_rf (mm_R q4.2 a0 26)) cd_ok ⟨_, _, _, rfl, by decide, Or.inl tw_820⟩ hs6 rfl dX9_link_60 ?_
    refine mm_iload (j := 0) dX9_link_63 rfl ?_
    obtain ⟨q10, hq10, hf⟩ := mm_on_s hf
    rw [hq10, mm_rf_some]
    obtain ⟨n11, hn11, hf⟩ := mm_ar_s hf
    obtain ⟨hi12, hf⟩ := mm_ib_s hf
    refine mm_zald hn11 rfl hi12 dX9_link_65 ?_
    refine mm_if_eq (tgt := 83) dX9_link_66 (by decide) (fun c13 => ?_) (fun c13 => ?_)
    · rw [if_pos c13] at hf
      refine mm_iconst (v := (-1)) dX9_link_83 (by decide) ?_
      cases hf
      exact mm_iret rfl rfl dX9_link_84 ⟨rfl, rfl⟩
    · rw [if_neg c13] at hf
      refine mm_aload_n (j := 1) dX9_link_69 rfl rfl ?_
      refine mm_get (c := 9) (k := 25) (v := va_rf (mm_R q4.2 a0 25)) cd_ok ⟨_, _, _, rfl, by decide, Or.inl tw_819⟩ hs6 rfl dX9_link_70 ?_
      refine mm_iconst (v := 3) dX9_link_73 (by decide) ?_
      refine mm_iload (j := 0) dX9_link_74 rfl ?_
      refine mm_imul dX9_link_76 ?_
      refine mm_iload_n (j := 4) dX9_link_77 rfl rfl ?_
      refine mm_iadd dX9_link_78 ?_
      obtain ⟨q14, hq14, hf⟩ := mm_on_s hf
      rw [hq14, mm_rf_some]
      obtain ⟨n15, hn15, hf⟩ := mm_ar_s hf
      obtain ⟨hi16, hf⟩ := mm_ib_s hf
      refine mm_iald hn15 rfl hi16 dX9_link_79 ?_
      refine mm_goto (tgt := 84) dX9_link_80 (by decide) ?_
      cases hf
      exact mm_iret rfl rfl dX9_link_84 ⟨rfl, rfl⟩
  · rw [if_pos c5] at hf
    refine mm_iconst (v := 0) dX9_link_44 (by decide) ?_
    cases hf
    exact mm_iret rfl rfl dX9_link_45 ⟨rfl, rfl⟩
set_option maxHeartbeats 4000000 in
set_option maxRecDepth 100000 in
theorem kX9_link_37 {G : mm_G} {A : Nat → Prop} {ini : Bool}  {R : (Int32 × mm_M)}  (a0 : Nat) (x1 : Int32) (x2 : Int32) (x3 : Int32) (y0 : Nat) (σ : mm_M) (hf : fX9_link_37  a0 x1 x2 x3 y0 σ = some R) : mm_J cd_Y G RX9 cX9_link 5 (some .int) ini rmX9_link A (mm_QF cd_Y G A (mm_Pi R.1 R.2) rmX9_link.cells rmX9_link.slots) 37 [(0, .ref a0), (1, .int x1), (2, .int x2), (3, .int x3)] [.ref y0] σ 0 0 := by
  unfold fX9_link_37 at hf
  refine mm_iconst (v := 0) dX9_link_37 (by decide) ?_
  refine mm_sub [0, 1, 2, 3] rfl ?_
  exact kX9_link_38  a0 x1 x2 x3 0 y0 σ hf
set_option maxHeartbeats 4000000 in
set_option maxRecDepth 100000 in
theorem kX9_link {G : mm_G} {A : Nat → Prop} (p0 : Nat) (p1 : Int32) (p2 : Int32) (p3 : Int32) {σ : mm_M} {R : (Int32 × mm_M)} (hf : fX9_link p0 p1 p2 p3 σ = some R) : mm_C cd_Y G yX9_link cX9_link 5 (some .int) rmX9_link A [.ref p0, .int p1, .int p2, .int p3] σ (mm_Pi R.1 R.2) := by
  refine mm_C.of (by decide) (Nat.le_of_ble_eq_true rfl) ?_
  unfold fX9_link at hf
  have e0 : lv_args 0 [.ref p0, .int p1, .int p2, .int p3] = [(0, .ref p0), (1, .int p1), (2, .int p2), (3, .int p3)] := rfl
  rw [e0]
  generalize hini : (yX9_link.name == "<init>") = ini
  clear e0
  clear hini
  refine mm_aload_n (j := 0) dX9_link_0 rfl rfl ?_
  refine mm_iload_n (j := 1) dX9_link_1 rfl rfl ?_
  refine mm_iconst (v := 0) dX9_link_2 (by decide) ?_
  refine mm_aload_n (j := 0) dX9_link_3 rfl rfl ?_
  obtain ⟨hs1, hf⟩ := mm_sh_s hf
  refine mm_get (c := 9) (k := 14) (v := .int (mm_I σ p0 14)) cd_ok ⟨_, _, _, rfl, by decide, Or.inl tw_808⟩ hs1 rfl dX9_link_4 ?_
  refine mm_iconst (v := 1) dX9_link_7 (by decide) ?_
  refine mm_isub dX9_link_8 ?_
  refine mm_callSi cd_ok (kX9_in p1 0 ((mm_I σ p0 14) - 1) _ rfl) (Or.inl tw_941) cdX9_in tw_942 nmX9_in rfl rfl (by simp only [List.map_cons, List.map_nil, mm_rf_cat]; exact Nat.le_of_ble_eq_true rfl) dX9_link_9 ⟨Nat.le_of_ble_eq_true rfl, Nat.le_of_ble_eq_true rfl⟩ ⟨Nat.le_of_ble_eq_true rfl, Nat.le_of_ble_eq_true rfl⟩ ?_
  refine mm_if_eq (tgt := 37) dX9_link_12 (by decide) (fun c2 => ?_) (fun c2 => ?_)
  · rw [if_pos c2] at hf
    refine mm_sub [0, 1, 2, 3] rfl ?_
    exact kX9_link_37  p0 p1 p2 p3 p0 σ hf
  · rw [if_neg c2] at hf
    refine mm_iload_n (j := 2) dX9_link_15 rfl rfl ?_
    refine mm_iconst (v := 0) dX9_link_16 (by decide) ?_
    refine mm_iconst (v := 5) dX9_link_17 (by decide) ?_
    refine mm_callSi cd_ok (kX9_in p2 0 5 _ rfl) (Or.inl tw_941) cdX9_in tw_942 nmX9_in rfl rfl (by simp only [List.map_cons, List.map_nil, mm_rf_cat]; exact Nat.le_of_ble_eq_true rfl) dX9_link_18 ⟨Nat.le_of_ble_eq_true rfl, Nat.le_of_ble_eq_true rfl⟩ ⟨Nat.le_of_ble_eq_true rfl, Nat.le_of_ble_eq_true rfl⟩ ?_
    refine mm_if_eq (tgt := 37) dX9_link_21 (by decide) (fun c17 => ?_) (fun c17 => ?_)
    · rw [if_pos c17] at hf
      refine mm_sub [0, 1, 2, 3] rfl ?_
      exact kX9_link_37  p0 p1 p2 p3 p0 σ hf
    · rw [if_neg c17] at hf
      refine mm_iload_n (j := 3) dX9_link_24 rfl rfl ?_
      refine mm_iconst (v := 0) dX9_link_25 (by decide) ?_
      refine mm_iconst (v := 2) dX9_link_26 (by decide) ?_
      refine mm_callSi cd_ok (kX9_in p3 0 2 _ rfl) (Or.inl tw_941) cdX9_in tw_942 nmX9_in rfl rfl (by simp only [List.map_cons, List.map_nil, mm_rf_cat]; exact Nat.le_of_ble_eq_true rfl) dX9_link_27 ⟨Nat.le_of_ble_eq_true rfl, Nat.le_of_ble_eq_true rfl⟩ ⟨Nat.le_of_ble_eq_true rfl, Nat.le_of_ble_eq_true rfl⟩ ?_
      refine mm_if_eq (tgt := 37) dX9_link_30 (by decide) (fun c18 => ?_) (fun c18 => ?_)
      · rw [if_pos c18] at hf
        refine mm_sub [0, 1, 2, 3] rfl ?_
        exact kX9_link_37  p0 p1 p2 p3 p0 σ hf
      · rw [if_neg c18] at hf
        refine mm_iconst (v := 1) dX9_link_33 (by decide) ?_
        refine mm_goto (tgt := 38) dX9_link_34 (by decide) ?_
        refine mm_sub [0, 1, 2, 3] rfl ?_
        exact kX9_link_38  p0 p1 p2 p3 1 p0 σ hf
theorem dX9_open_0 : decode cX9_open 0 = .ok (.aload_n 0, 1) := by decide +kernel
theorem dX9_open_1 : decode cX9_open 1 = .ok (.iload_n 1, 1) := by decide +kernel
theorem dX9_open_2 : decode cX9_open 2 = .ok (.iconst 1, 1) := by decide +kernel
theorem dX9_open_3 : decode cX9_open 3 = .ok (.bipush 8, 2) := by decide +kernel
theorem dX9_open_5 : decode cX9_open 5 = .ok (.invokestatic 153, 3) := by decide +kernel
theorem dX9_open_8 : decode cX9_open 8 = .ok (.invokevirtual 169, 3) := by decide +kernel
theorem dX9_open_11 : decode cX9_open 11 = .ok (.ifCond .ne 5, 3) := by decide +kernel
theorem dX9_open_14 : decode cX9_open 14 = .ok (.iconst 0, 1) := by decide +kernel
theorem dX9_open_15 : decode cX9_open 15 = .ok (.ireturn, 1) := by decide +kernel
theorem dX9_open_16 : decode cX9_open 16 = .ok (.aload_n 0, 1) := by decide +kernel
theorem dX9_open_17 : decode cX9_open 17 = .ok (.getfield 84, 3) := by decide +kernel
theorem dX9_open_20 : decode cX9_open 20 = .ok (.iload_n 1, 1) := by decide +kernel
theorem dX9_open_21 : decode cX9_open 21 = .ok (.iaload, 1) := by decide +kernel
theorem dX9_open_22 : decode cX9_open 22 = .ok (.iconst (-1), 1) := by decide +kernel
theorem dX9_open_23 : decode cX9_open 23 = .ok (.if_icmp .ne 7, 3) := by decide +kernel
theorem dX9_open_26 : decode cX9_open 26 = .ok (.iconst (-1), 1) := by decide +kernel
theorem dX9_open_27 : decode cX9_open 27 = .ok (.goto 13, 3) := by decide +kernel
theorem dX9_open_30 : decode cX9_open 30 = .ok (.aload_n 0, 1) := by decide +kernel
theorem dX9_open_31 : decode cX9_open 31 = .ok (.aload_n 0, 1) := by decide +kernel
theorem dX9_open_32 : decode cX9_open 32 = .ok (.getfield 84, 3) := by decide +kernel
theorem dX9_open_35 : decode cX9_open 35 = .ok (.iload_n 1, 1) := by decide +kernel
theorem dX9_open_36 : decode cX9_open 36 = .ok (.iaload, 1) := by decide +kernel
theorem dX9_open_37 : decode cX9_open 37 = .ok (.invokevirtual 241, 3) := by decide +kernel
theorem dX9_open_40 : decode cX9_open 40 = .ok (.ireturn, 1) := by decide +kernel
theorem nmX9_open : mm_nm yX9_open 1 := ⟨by decide, by decide, by decide +kernel⟩
theorem cdX9_open : mm_cd cd_Y yX9_open cX9_open 2 (some .int) := ⟨tw_1100, tw_8⟩
abbrev rmX9_open : Room := { frames := 1, cells := 0, slots := 0, locals := 22 }
def fX9_open (p0 : Nat) (p1 : Int32) (σ : mm_M) : Option (Int32 × mm_M) :=
  mm_sh σ p0 (.inl 9) (mm_on (fX9_goes p0 (fX9_in p1 1 8) σ) fun q2 => (if q2.1 = 0 then some (0, q2.2) else mm_sh q2.2 p0 (.inl 9) (mm_on (mm_R q2.2 p0 27) fun q5 => mm_ar q2.2 q5 0 fun n6 => mm_ib p1 n6 ((if (mm_I q2.2 q5 p1.toNatClampNeg) = (-1) then some ((-1), q2.2) else mm_on (mm_R q2.2 p0 27) fun q9 => mm_ar q2.2 q9 0 fun n10 => mm_ib p1 n10 (mm_on (fX9_placeOf p0 (mm_I q2.2 q9 p1.toNatClampNeg) q2.2) fun q12 => some (q12.1, q12.2)))))))
set_option maxHeartbeats 4000000 in
set_option maxRecDepth 100000 in
theorem kX9_open {G : mm_G} {A : Nat → Prop} (p0 : Nat) (p1 : Int32) {σ : mm_M} {R : (Int32 × mm_M)} (hf : fX9_open p0 p1 σ = some R) : mm_C cd_Y G yX9_open cX9_open 2 (some .int) rmX9_open A [.ref p0, .int p1] σ (mm_Pi R.1 R.2) := by
  refine mm_C.of (by decide) (Nat.le_of_ble_eq_true rfl) ?_
  unfold fX9_open at hf
  have e0 : lv_args 0 [.ref p0, .int p1] = [(0, .ref p0), (1, .int p1)] := rfl
  rw [e0]
  generalize hini : (yX9_open.name == "<init>") = ini
  clear e0
  clear hini
  refine mm_aload_n (j := 0) dX9_open_0 rfl rfl ?_
  refine mm_iload_n (j := 1) dX9_open_1 rfl rfl ?_
  refine mm_iconst (v := 1) dX9_open_2 (by decide) ?_
  refine mm_bipush (v := 8) dX9_open_3 (by decide) ?_
  refine mm_callSi cd_ok (kX9_in p1 1 8 _ rfl) (Or.inl tw_941) cdX9_in tw_942 nmX9_in rfl rfl (by simp only [List.map_cons, List.map_nil, mm_rf_cat]; exact Nat.le_of_ble_eq_true rfl) dX9_open_5 ⟨Nat.le_of_ble_eq_true rfl, Nat.le_of_ble_eq_true rfl⟩ ⟨Nat.le_of_ble_eq_true rfl, Nat.le_of_ble_eq_true rfl⟩ ?_
  obtain ⟨hs1, hf⟩ := mm_sh_s hf
  obtain ⟨q2, hq2, hf⟩ := mm_on_s hf
  refine mm_callVi cd_ok (kX9_goes p0 (fX9_in p1 1 8) hq2) hs1 rfl (Or.inl tw_944) cdX9_goes tw_946 ts_31 nmX9_goes rfl rfl (by simp only [List.map_cons, List.map_nil, mm_rf_cat]; exact Nat.le_of_ble_eq_true rfl) dX9_open_8 ⟨Nat.le_of_ble_eq_true rfl, Nat.le_of_ble_eq_true rfl⟩ ⟨Nat.le_of_ble_eq_true rfl, Nat.le_of_ble_eq_true rfl⟩ ?_
  refine mm_if_ne (tgt := 16) dX9_open_11 (by decide) (fun c3 => ?_) (fun c3 => ?_)
  · rw [if_neg c3] at hf
    refine mm_aload_n (j := 0) dX9_open_16 rfl rfl ?_
    obtain ⟨hs4, hf⟩ := mm_sh_s hf
    refine mm_get (c := 9) (k := 27) (v := va_rf (mm_R q2.2 p0 27)) cd_ok ⟨_, _, _, rfl, by decide, Or.inl tw_821⟩ hs4 rfl dX9_open_17 ?_
    refine mm_iload_n (j := 1) dX9_open_20 rfl rfl ?_
    obtain ⟨q5, hq5, hf⟩ := mm_on_s hf
    rw [hq5, mm_rf_some]
    obtain ⟨n6, hn6, hf⟩ := mm_ar_s hf
    obtain ⟨hi7, hf⟩ := mm_ib_s hf
    refine mm_iald hn6 rfl hi7 dX9_open_21 ?_
    refine mm_iconst (v := (-1)) dX9_open_22 (by decide) ?_
    refine mm_icmp_ne (tgt := 30) dX9_open_23 (by decide) (fun c8 => ?_) (fun c8 => ?_)
    · rw [if_neg c8] at hf
      refine mm_aload_n (j := 0) dX9_open_30 rfl rfl ?_
      refine mm_aload_n (j := 0) dX9_open_31 rfl rfl ?_
      refine mm_get (c := 9) (k := 27) (v := va_rf (mm_R q2.2 p0 27)) cd_ok ⟨_, _, _, rfl, by decide, Or.inl tw_821⟩ hs4 rfl dX9_open_32 ?_
      refine mm_iload_n (j := 1) dX9_open_35 rfl rfl ?_
      obtain ⟨q9, hq9, hf⟩ := mm_on_s hf
      rw [hq9, mm_rf_some]
      obtain ⟨n10, hn10, hf⟩ := mm_ar_s hf
      obtain ⟨hi11, hf⟩ := mm_ib_s hf
      refine mm_iald hn10 rfl hi11 dX9_open_36 ?_
      obtain ⟨q12, hq12, hf⟩ := mm_on_s hf
      refine mm_callVi cd_ok (kX9_placeOf p0 (mm_I q2.2 q9 p1.toNatClampNeg) hq12) hs4 rfl (Or.inl tw_1101) cdX9_placeOf tw_1103 ts_52 nmX9_placeOf rfl rfl (by simp only [List.map_cons, List.map_nil, mm_rf_cat]; exact Nat.le_of_ble_eq_true rfl) dX9_open_37 ⟨Nat.le_of_ble_eq_true rfl, Nat.le_of_ble_eq_true rfl⟩ ⟨Nat.le_of_ble_eq_true rfl, Nat.le_of_ble_eq_true rfl⟩ ?_
      cases hf
      exact mm_iret rfl rfl dX9_open_40 ⟨rfl, rfl⟩
    · rw [if_pos c8] at hf
      refine mm_iconst (v := (-1)) dX9_open_26 (by decide) ?_
      refine mm_goto (tgt := 40) dX9_open_27 (by decide) ?_
      cases hf
      exact mm_iret rfl rfl dX9_open_40 ⟨rfl, rfl⟩
  · rw [if_pos c3] at hf
    refine mm_iconst (v := 0) dX9_open_14 (by decide) ?_
    cases hf
    exact mm_iret rfl rfl dX9_open_15 ⟨rfl, rfl⟩
theorem dX9_watch_0 : decode cX9_watch 0 = .ok (.aload_n 0, 1) := by decide +kernel
theorem dX9_watch_1 : decode cX9_watch 1 = .ok (.iload_n 1, 1) := by decide +kernel
theorem dX9_watch_2 : decode cX9_watch 2 = .ok (.iconst 1, 1) := by decide +kernel
theorem dX9_watch_3 : decode cX9_watch 3 = .ok (.bipush 8, 2) := by decide +kernel
theorem dX9_watch_5 : decode cX9_watch 5 = .ok (.invokestatic 153, 3) := by decide +kernel
theorem dX9_watch_8 : decode cX9_watch 8 = .ok (.ifCond .eq 18, 3) := by decide +kernel
theorem dX9_watch_11 : decode cX9_watch 11 = .ok (.iload_n 2, 1) := by decide +kernel
theorem dX9_watch_12 : decode cX9_watch 12 = .ok (.iconst 0, 1) := by decide +kernel
theorem dX9_watch_13 : decode cX9_watch 13 = .ok (.sipush 254, 3) := by decide +kernel
theorem dX9_watch_16 : decode cX9_watch 16 = .ok (.invokestatic 153, 3) := by decide +kernel
theorem dX9_watch_19 : decode cX9_watch 19 = .ok (.ifCond .eq 7, 3) := by decide +kernel
theorem dX9_watch_22 : decode cX9_watch 22 = .ok (.iconst 1, 1) := by decide +kernel
theorem dX9_watch_23 : decode cX9_watch 23 = .ok (.goto 4, 3) := by decide +kernel
theorem dX9_watch_26 : decode cX9_watch 26 = .ok (.iconst 0, 1) := by decide +kernel
theorem dX9_watch_27 : decode cX9_watch 27 = .ok (.invokevirtual 169, 3) := by decide +kernel
theorem dX9_watch_30 : decode cX9_watch 30 = .ok (.ifCond .ne 5, 3) := by decide +kernel
theorem dX9_watch_33 : decode cX9_watch 33 = .ok (.iconst 0, 1) := by decide +kernel
theorem dX9_watch_34 : decode cX9_watch 34 = .ok (.ireturn, 1) := by decide +kernel
theorem dX9_watch_35 : decode cX9_watch 35 = .ok (.aload_n 0, 1) := by decide +kernel
theorem dX9_watch_36 : decode cX9_watch 36 = .ok (.iconst 1, 1) := by decide +kernel
theorem dX9_watch_37 : decode cX9_watch 37 = .ok (.putfield 193, 3) := by decide +kernel
theorem dX9_watch_40 : decode cX9_watch 40 = .ok (.aload_n 0, 1) := by decide +kernel
theorem dX9_watch_41 : decode cX9_watch 41 = .ok (.iload_n 1, 1) := by decide +kernel
theorem dX9_watch_42 : decode cX9_watch 42 = .ok (.putfield 197, 3) := by decide +kernel
theorem dX9_watch_45 : decode cX9_watch 45 = .ok (.aload_n 0, 1) := by decide +kernel
theorem dX9_watch_46 : decode cX9_watch 46 = .ok (.iload_n 2, 1) := by decide +kernel
theorem dX9_watch_47 : decode cX9_watch 47 = .ok (.putfield 200, 3) := by decide +kernel
theorem dX9_watch_50 : decode cX9_watch 50 = .ok (.aload_n 0, 1) := by decide +kernel
theorem dX9_watch_51 : decode cX9_watch 51 = .ok (.iconst 0, 1) := by decide +kernel
theorem dX9_watch_52 : decode cX9_watch 52 = .ok (.putfield 203, 3) := by decide +kernel
theorem dX9_watch_55 : decode cX9_watch 55 = .ok (.iconst 1, 1) := by decide +kernel
theorem dX9_watch_56 : decode cX9_watch 56 = .ok (.ireturn, 1) := by decide +kernel
theorem nmX9_watch : mm_nm yX9_watch 2 := ⟨by decide, by decide, by decide +kernel⟩
theorem cdX9_watch : mm_cd cd_Y yX9_watch cX9_watch 3 (some .int) := ⟨tw_1108, tw_8⟩
abbrev rmX9_watch : Room := { frames := 1, cells := 0, slots := 0, locals := 22 }
def fX9_watch_27  (a0 : Nat) (x1 : Int32) (x2 : Int32) (y0 : Int32) (y1 : Nat) (σ : mm_M) : Option (Int32 × mm_M) :=
  mm_sh σ y1 (.inl 9) (mm_on (fX9_goes y1 y0 σ) fun q3 => (if q3.1 = 0 then some (0, q3.2) else mm_sh q3.2 a0 (.inl 9) (some (1, mm_wI (mm_wI (mm_wI (mm_wI q3.2 a0 28 1) a0 29 x1) a0 30 x2) a0 31 0))))
def fX9_watch_26  (a0 : Nat) (x1 : Int32) (x2 : Int32) (y0 : Nat) (σ : mm_M) : Option (Int32 × mm_M) :=
  (fX9_watch_27  a0 x1 x2 0 y0 σ)
def fX9_watch (p0 : Nat) (p1 : Int32) (p2 : Int32) (σ : mm_M) : Option (Int32 × mm_M) :=
  (if (fX9_in p1 1 8) = 0 then (fX9_watch_26  p0 p1 p2 p0 σ) else (if (fX9_in p2 0 254) = 0 then (fX9_watch_26  p0 p1 p2 p0 σ) else (fX9_watch_27  p0 p1 p2 1 p0 σ)))
set_option maxHeartbeats 4000000 in
set_option maxRecDepth 100000 in
theorem kX9_watch_27 {G : mm_G} {A : Nat → Prop} {ini : Bool}  {R : (Int32 × mm_M)}  (a0 : Nat) (x1 : Int32) (x2 : Int32) (y0 : Int32) (y1 : Nat) (σ : mm_M) (hf : fX9_watch_27  a0 x1 x2 y0 y1 σ = some R) : mm_J cd_Y G RX9 cX9_watch 3 (some .int) ini rmX9_watch A (mm_QF cd_Y G A (mm_Pi R.1 R.2) rmX9_watch.cells rmX9_watch.slots) 27 [(0, .ref a0), (1, .int x1), (2, .int x2)] [.int y0, .ref y1] σ 0 0 := by
  unfold fX9_watch_27 at hf
  obtain ⟨hs2, hf⟩ := mm_sh_s hf
  obtain ⟨q3, hq3, hf⟩ := mm_on_s hf
  refine mm_callVi cd_ok (kX9_goes y1 y0 hq3) hs2 rfl (Or.inl tw_944) cdX9_goes tw_946 ts_31 nmX9_goes rfl rfl (by simp only [List.map_cons, List.map_nil, mm_rf_cat]; exact Nat.le_of_ble_eq_true rfl) dX9_watch_27 ⟨Nat.le_of_ble_eq_true rfl, Nat.le_of_ble_eq_true rfl⟩ ⟨Nat.le_of_ble_eq_true rfl, Nat.le_of_ble_eq_true rfl⟩ ?_
  refine mm_if_ne (tgt := 35) dX9_watch_30 (by decide) (fun c4 => ?_) (fun c4 => ?_)
  · rw [if_neg c4] at hf
    refine mm_aload_n (j := 0) dX9_watch_35 rfl rfl ?_
    refine mm_iconst (v := 1) dX9_watch_36 (by decide) ?_
    obtain ⟨hs5, hf⟩ := mm_sh_s hf
    refine mm_putI (c := 9) (k := 28) cd_ok ⟨_, _, _, rfl, by decide, rfl, Or.inl tw_822⟩ hs5 rfl rfl rfl dX9_watch_37 ?_
    refine mm_aload_n (j := 0) dX9_watch_40 rfl rfl ?_
    refine mm_iload_n (j := 1) dX9_watch_41 rfl rfl ?_
    refine mm_putI (c := 9) (k := 29) cd_ok ⟨_, _, _, rfl, by decide, rfl, Or.inl tw_823⟩ hs5 rfl rfl rfl dX9_watch_42 ?_
    refine mm_aload_n (j := 0) dX9_watch_45 rfl rfl ?_
    refine mm_iload_n (j := 2) dX9_watch_46 rfl rfl ?_
    refine mm_putI (c := 9) (k := 30) cd_ok ⟨_, _, _, rfl, by decide, rfl, Or.inl tw_824⟩ hs5 rfl rfl rfl dX9_watch_47 ?_
    refine mm_aload_n (j := 0) dX9_watch_50 rfl rfl ?_
    refine mm_iconst (v := 0) dX9_watch_51 (by decide) ?_
    refine mm_putI (c := 9) (k := 31) cd_ok ⟨_, _, _, rfl, by decide, rfl, Or.inl tw_825⟩ hs5 rfl rfl rfl dX9_watch_52 ?_
    refine mm_iconst (v := 1) dX9_watch_55 (by decide) ?_
    cases hf
    exact mm_iret rfl rfl dX9_watch_56 ⟨rfl, rfl⟩
  · rw [if_pos c4] at hf
    refine mm_iconst (v := 0) dX9_watch_33 (by decide) ?_
    cases hf
    exact mm_iret rfl rfl dX9_watch_34 ⟨rfl, rfl⟩
set_option maxHeartbeats 4000000 in
set_option maxRecDepth 100000 in
theorem kX9_watch_26 {G : mm_G} {A : Nat → Prop} {ini : Bool}  {R : (Int32 × mm_M)}  (a0 : Nat) (x1 : Int32) (x2 : Int32) (y0 : Nat) (σ : mm_M) (hf : fX9_watch_26  a0 x1 x2 y0 σ = some R) : mm_J cd_Y G RX9 cX9_watch 3 (some .int) ini rmX9_watch A (mm_QF cd_Y G A (mm_Pi R.1 R.2) rmX9_watch.cells rmX9_watch.slots) 26 [(0, .ref a0), (1, .int x1), (2, .int x2)] [.ref y0] σ 0 0 := by
  unfold fX9_watch_26 at hf
  refine mm_iconst (v := 0) dX9_watch_26 (by decide) ?_
  refine mm_sub [0, 1, 2] rfl ?_
  exact kX9_watch_27  a0 x1 x2 0 y0 σ hf
set_option maxHeartbeats 4000000 in
set_option maxRecDepth 100000 in
theorem kX9_watch {G : mm_G} {A : Nat → Prop} (p0 : Nat) (p1 : Int32) (p2 : Int32) {σ : mm_M} {R : (Int32 × mm_M)} (hf : fX9_watch p0 p1 p2 σ = some R) : mm_C cd_Y G yX9_watch cX9_watch 3 (some .int) rmX9_watch A [.ref p0, .int p1, .int p2] σ (mm_Pi R.1 R.2) := by
  refine mm_C.of (by decide) (Nat.le_of_ble_eq_true rfl) ?_
  unfold fX9_watch at hf
  have e0 : lv_args 0 [.ref p0, .int p1, .int p2] = [(0, .ref p0), (1, .int p1), (2, .int p2)] := rfl
  rw [e0]
  generalize hini : (yX9_watch.name == "<init>") = ini
  clear e0
  clear hini
  refine mm_aload_n (j := 0) dX9_watch_0 rfl rfl ?_
  refine mm_iload_n (j := 1) dX9_watch_1 rfl rfl ?_
  refine mm_iconst (v := 1) dX9_watch_2 (by decide) ?_
  refine mm_bipush (v := 8) dX9_watch_3 (by decide) ?_
  refine mm_callSi cd_ok (kX9_in p1 1 8 _ rfl) (Or.inl tw_941) cdX9_in tw_942 nmX9_in rfl rfl (by simp only [List.map_cons, List.map_nil, mm_rf_cat]; exact Nat.le_of_ble_eq_true rfl) dX9_watch_5 ⟨Nat.le_of_ble_eq_true rfl, Nat.le_of_ble_eq_true rfl⟩ ⟨Nat.le_of_ble_eq_true rfl, Nat.le_of_ble_eq_true rfl⟩ ?_
  refine mm_if_eq (tgt := 26) dX9_watch_8 (by decide) (fun c1 => ?_) (fun c1 => ?_)
  · rw [if_pos c1] at hf
    refine mm_sub [0, 1, 2] rfl ?_
    exact kX9_watch_26  p0 p1 p2 p0 σ hf
  · rw [if_neg c1] at hf
    refine mm_iload_n (j := 2) dX9_watch_11 rfl rfl ?_
    refine mm_iconst (v := 0) dX9_watch_12 (by decide) ?_
    refine mm_sipush (v := 254) dX9_watch_13 (by decide) ?_
    refine mm_callSi cd_ok (kX9_in p2 0 254 _ rfl) (Or.inl tw_941) cdX9_in tw_942 nmX9_in rfl rfl (by simp only [List.map_cons, List.map_nil, mm_rf_cat]; exact Nat.le_of_ble_eq_true rfl) dX9_watch_16 ⟨Nat.le_of_ble_eq_true rfl, Nat.le_of_ble_eq_true rfl⟩ ⟨Nat.le_of_ble_eq_true rfl, Nat.le_of_ble_eq_true rfl⟩ ?_
    refine mm_if_eq (tgt := 26) dX9_watch_19 (by decide) (fun c6 => ?_) (fun c6 => ?_)
    · rw [if_pos c6] at hf
      refine mm_sub [0, 1, 2] rfl ?_
      exact kX9_watch_26  p0 p1 p2 p0 σ hf
    · rw [if_neg c6] at hf
      refine mm_iconst (v := 1) dX9_watch_22 (by decide) ?_
      refine mm_goto (tgt := 27) dX9_watch_23 (by decide) ?_
      refine mm_sub [0, 1, 2] rfl ?_
      exact kX9_watch_27  p0 p1 p2 1 p0 σ hf
theorem dX9_letterOf_0 : decode cX9_letterOf 0 = .ok (.iload_n 1, 1) := by decide +kernel
theorem dX9_letterOf_1 : decode cX9_letterOf 1 = .ok (.iconst 4, 1) := by decide +kernel
theorem dX9_letterOf_2 : decode cX9_letterOf 2 = .ok (.if_icmp .ge 17, 3) := by decide +kernel
theorem dX9_letterOf_5 : decode cX9_letterOf 5 = .ok (.aload_n 0, 1) := by decide +kernel
theorem dX9_letterOf_6 : decode cX9_letterOf 6 = .ok (.getfield 7, 3) := by decide +kernel
theorem dX9_letterOf_9 : decode cX9_letterOf 9 = .ok (.aload_n 0, 1) := by decide +kernel
theorem dX9_letterOf_10 : decode cX9_letterOf 10 = .ok (.iload_n 1, 1) := by decide +kernel
theorem dX9_letterOf_11 : decode cX9_letterOf 11 = .ok (.iconst 0, 1) := by decide +kernel
theorem dX9_letterOf_12 : decode cX9_letterOf 12 = .ok (.iload_n 2, 1) := by decide +kernel
theorem dX9_letterOf_13 : decode cX9_letterOf 13 = .ok (.iload_n 3, 1) := by decide +kernel
theorem dX9_letterOf_14 : decode cX9_letterOf 14 = .ok (.invokevirtual 124, 3) := by decide +kernel
theorem dX9_letterOf_17 : decode cX9_letterOf 17 = .ok (.iaload, 1) := by decide +kernel
theorem dX9_letterOf_18 : decode cX9_letterOf 18 = .ok (.ireturn, 1) := by decide +kernel
theorem dX9_letterOf_19 : decode cX9_letterOf 19 = .ok (.aload_n 0, 1) := by decide +kernel
theorem dX9_letterOf_20 : decode cX9_letterOf 20 = .ok (.getfield 203, 3) := by decide +kernel
theorem dX9_letterOf_23 : decode cX9_letterOf 23 = .ok (.ifCond .eq 26, 3) := by decide +kernel
theorem dX9_letterOf_26 : decode cX9_letterOf 26 = .ok (.aload_n 0, 1) := by decide +kernel
theorem dX9_letterOf_27 : decode cX9_letterOf 27 = .ok (.getfield 90, 3) := by decide +kernel
theorem dX9_letterOf_30 : decode cX9_letterOf 30 = .ok (.iload_n 2, 1) := by decide +kernel
theorem dX9_letterOf_31 : decode cX9_letterOf 31 = .ok (.baload, 1) := by decide +kernel
theorem dX9_letterOf_32 : decode cX9_letterOf 32 = .ok (.ifCond .eq 17, 3) := by decide +kernel
theorem dX9_letterOf_35 : decode cX9_letterOf 35 = .ok (.aload_n 0, 1) := by decide +kernel
theorem dX9_letterOf_36 : decode cX9_letterOf 36 = .ok (.getfield 87, 3) := by decide +kernel
theorem dX9_letterOf_39 : decode cX9_letterOf 39 = .ok (.bipush 40, 2) := by decide +kernel
theorem dX9_letterOf_41 : decode cX9_letterOf 41 = .ok (.iload_n 2, 1) := by decide +kernel
theorem dX9_letterOf_42 : decode cX9_letterOf 42 = .ok (.imul, 1) := by decide +kernel
theorem dX9_letterOf_43 : decode cX9_letterOf 43 = .ok (.iload_n 3, 1) := by decide +kernel
theorem dX9_letterOf_44 : decode cX9_letterOf 44 = .ok (.iadd, 1) := by decide +kernel
theorem dX9_letterOf_45 : decode cX9_letterOf 45 = .ok (.baload, 1) := by decide +kernel
theorem dX9_letterOf_46 : decode cX9_letterOf 46 = .ok (.goto 4, 3) := by decide +kernel
theorem dX9_letterOf_49 : decode cX9_letterOf 49 = .ok (.iconst 0, 1) := by decide +kernel
theorem dX9_letterOf_50 : decode cX9_letterOf 50 = .ok (.ireturn, 1) := by decide +kernel
theorem nmX9_letterOf : mm_nm yX9_letterOf 3 := ⟨by decide, by decide, by decide +kernel⟩
theorem cdX9_letterOf : mm_cd cd_Y yX9_letterOf cX9_letterOf 4 (some .int) := ⟨tw_1121, tw_8⟩
abbrev rmX9_letterOf : Room := { frames := 1, cells := 0, slots := 0, locals := 25 }
def fX9_letterOf (p0 : Nat) (p1 : Int32) (p2 : Int32) (p3 : Int32) (σ : mm_M) : Option (Int32 × mm_M) :=
  (if 4 ≤ p1 then mm_sh σ p0 (.inl 9) ((if (mm_I σ p0 31) = 0 then some (0, σ) else mm_on (mm_R σ p0 33) fun q4 => mm_ar σ q4 1 fun n5 => mm_ib p2 n5 ((if (mm_I σ q4 p2.toNatClampNeg) = 0 then some (0, σ) else mm_on (mm_R σ p0 32) fun q8 => mm_ar σ q8 2 fun n9 => mm_ib ((40 * p2) + p3) n9 (some (mm_I σ q8 ((40 * p2) + p3).toNatClampNeg, σ)))))) else mm_sh σ p0 (.inl 9) (mm_on (fX9_cellAt p0 p1 0 p2 p3 σ) fun q12 => mm_on (mm_R σ p0 1) fun q13 => mm_ar q12.2 q13 0 fun n14 => mm_ib q12.1 n14 (some (mm_I q12.2 q13 q12.1.toNatClampNeg, q12.2))))
set_option maxHeartbeats 4000000 in
set_option maxRecDepth 100000 in
theorem kX9_letterOf {G : mm_G} {A : Nat → Prop} (p0 : Nat) (p1 : Int32) (p2 : Int32) (p3 : Int32) {σ : mm_M} {R : (Int32 × mm_M)} (hf : fX9_letterOf p0 p1 p2 p3 σ = some R) : mm_C cd_Y G yX9_letterOf cX9_letterOf 4 (some .int) rmX9_letterOf A [.ref p0, .int p1, .int p2, .int p3] σ (mm_Pi R.1 R.2) := by
  refine mm_C.of (by decide) (Nat.le_of_ble_eq_true rfl) ?_
  unfold fX9_letterOf at hf
  have e0 : lv_args 0 [.ref p0, .int p1, .int p2, .int p3] = [(0, .ref p0), (1, .int p1), (2, .int p2), (3, .int p3)] := rfl
  rw [e0]
  generalize hini : (yX9_letterOf.name == "<init>") = ini
  clear e0
  clear hini
  refine mm_iload_n (j := 1) dX9_letterOf_0 rfl rfl ?_
  refine mm_iconst (v := 4) dX9_letterOf_1 (by decide) ?_
  refine mm_icmp_ge (tgt := 19) dX9_letterOf_2 (by decide) (fun c1 => ?_) (fun c1 => ?_)
  · rw [if_pos c1] at hf
    refine mm_aload_n (j := 0) dX9_letterOf_19 rfl rfl ?_
    obtain ⟨hs2, hf⟩ := mm_sh_s hf
    refine mm_get (c := 9) (k := 31) (v := .int (mm_I σ p0 31)) cd_ok ⟨_, _, _, rfl, by decide, Or.inl tw_825⟩ hs2 rfl dX9_letterOf_20 ?_
    refine mm_if_eq (tgt := 49) dX9_letterOf_23 (by decide) (fun c3 => ?_) (fun c3 => ?_)
    · rw [if_pos c3] at hf
      refine mm_iconst (v := 0) dX9_letterOf_49 (by decide) ?_
      cases hf
      exact mm_iret rfl rfl dX9_letterOf_50 ⟨rfl, rfl⟩
    · rw [if_neg c3] at hf
      refine mm_aload_n (j := 0) dX9_letterOf_26 rfl rfl ?_
      refine mm_get (c := 9) (k := 33) (v := va_rf (mm_R σ p0 33)) cd_ok ⟨_, _, _, rfl, by decide, Or.inl tw_827⟩ hs2 rfl dX9_letterOf_27 ?_
      refine mm_iload_n (j := 2) dX9_letterOf_30 rfl rfl ?_
      obtain ⟨q4, hq4, hf⟩ := mm_on_s hf
      rw [hq4, mm_rf_some]
      obtain ⟨n5, hn5, hf⟩ := mm_ar_s hf
      obtain ⟨hi6, hf⟩ := mm_ib_s hf
      refine mm_zald hn5 rfl hi6 dX9_letterOf_31 ?_
      refine mm_if_eq (tgt := 49) dX9_letterOf_32 (by decide) (fun c7 => ?_) (fun c7 => ?_)
      · rw [if_pos c7] at hf
        refine mm_iconst (v := 0) dX9_letterOf_49 (by decide) ?_
        cases hf
        exact mm_iret rfl rfl dX9_letterOf_50 ⟨rfl, rfl⟩
      · rw [if_neg c7] at hf
        refine mm_aload_n (j := 0) dX9_letterOf_35 rfl rfl ?_
        refine mm_get (c := 9) (k := 32) (v := va_rf (mm_R σ p0 32)) cd_ok ⟨_, _, _, rfl, by decide, Or.inl tw_826⟩ hs2 rfl dX9_letterOf_36 ?_
        refine mm_bipush (v := 40) dX9_letterOf_39 (by decide) ?_
        refine mm_iload_n (j := 2) dX9_letterOf_41 rfl rfl ?_
        refine mm_imul dX9_letterOf_42 ?_
        refine mm_iload_n (j := 3) dX9_letterOf_43 rfl rfl ?_
        refine mm_iadd dX9_letterOf_44 ?_
        obtain ⟨q8, hq8, hf⟩ := mm_on_s hf
        rw [hq8, mm_rf_some]
        obtain ⟨n9, hn9, hf⟩ := mm_ar_s hf
        obtain ⟨hi10, hf⟩ := mm_ib_s hf
        refine mm_bald hn9 rfl hi10 dX9_letterOf_45 ?_
        refine mm_goto (tgt := 50) dX9_letterOf_46 (by decide) ?_
        cases hf
        exact mm_iret rfl rfl dX9_letterOf_50 ⟨rfl, rfl⟩
  · rw [if_neg c1] at hf
    refine mm_aload_n (j := 0) dX9_letterOf_5 rfl rfl ?_
    obtain ⟨hs11, hf⟩ := mm_sh_s hf
    refine mm_get (c := 9) (k := 1) (v := va_rf (mm_R σ p0 1)) cd_ok ⟨_, _, _, rfl, by decide, Or.inl tw_795⟩ hs11 rfl dX9_letterOf_6 ?_
    refine mm_aload_n (j := 0) dX9_letterOf_9 rfl rfl ?_
    refine mm_iload_n (j := 1) dX9_letterOf_10 rfl rfl ?_
    refine mm_iconst (v := 0) dX9_letterOf_11 (by decide) ?_
    refine mm_iload_n (j := 2) dX9_letterOf_12 rfl rfl ?_
    refine mm_iload_n (j := 3) dX9_letterOf_13 rfl rfl ?_
    obtain ⟨q12, hq12, hf⟩ := mm_on_s hf
    refine mm_callVi cd_ok (kX9_cellAt p0 p1 0 p2 p3 hq12) hs11 rfl (Or.inl tw_970) cdX9_cellAt tw_972 ts_36 nmX9_cellAt rfl rfl (by simp only [List.map_cons, List.map_nil, mm_rf_cat]; exact Nat.le_of_ble_eq_true rfl) dX9_letterOf_14 ⟨Nat.le_of_ble_eq_true rfl, Nat.le_of_ble_eq_true rfl⟩ ⟨Nat.le_of_ble_eq_true rfl, Nat.le_of_ble_eq_true rfl⟩ ?_
    obtain ⟨q13, hq13, hf⟩ := mm_on_s hf
    rw [hq13, mm_rf_some]
    obtain ⟨n14, hn14, hf⟩ := mm_ar_s hf
    obtain ⟨hi15, hf⟩ := mm_ib_s hf
    refine mm_iald hn14 rfl hi15 dX9_letterOf_17 ?_
    cases hf
    exact mm_iret rfl rfl dX9_letterOf_18 ⟨rfl, rfl⟩
theorem dX9_layLines_0 : decode cX9_layLines 0 = .ok (.aload_n 0, 1) := by decide +kernel
theorem dX9_layLines_1 : decode cX9_layLines 1 = .ok (.iconst 0, 1) := by decide +kernel
theorem dX9_layLines_2 : decode cX9_layLines 2 = .ok (.putfield 244, 3) := by decide +kernel
theorem dX9_layLines_5 : decode cX9_layLines 5 = .ok (.iload_n 1, 1) := by decide +kernel
theorem dX9_layLines_6 : decode cX9_layLines 6 = .ok (.iconst 4, 1) := by decide +kernel
theorem dX9_layLines_7 : decode cX9_layLines 7 = .ok (.if_icmp .ge 8, 3) := by decide +kernel
theorem dX9_layLines_10 : decode cX9_layLines 10 = .ok (.bipush 32, 2) := by decide +kernel
theorem dX9_layLines_12 : decode cX9_layLines 12 = .ok (.goto 5, 3) := by decide +kernel
theorem dX9_layLines_15 : decode cX9_layLines 15 = .ok (.bipush 40, 2) := by decide +kernel
theorem dX9_layLines_17 : decode cX9_layLines 17 = .ok (.istore_n 2, 1) := by decide +kernel
theorem dX9_layLines_18 : decode cX9_layLines 18 = .ok (.iload_n 1, 1) := by decide +kernel
theorem dX9_layLines_19 : decode cX9_layLines 19 = .ok (.iconst 4, 1) := by decide +kernel
theorem dX9_layLines_20 : decode cX9_layLines 20 = .ok (.if_icmp .ge 8, 3) := by decide +kernel
theorem dX9_layLines_23 : decode cX9_layLines 23 = .ok (.bipush 15, 2) := by decide +kernel
theorem dX9_layLines_25 : decode cX9_layLines 25 = .ok (.goto 5, 3) := by decide +kernel
theorem dX9_layLines_28 : decode cX9_layLines 28 = .ok (.bipush 24, 2) := by decide +kernel
theorem dX9_layLines_30 : decode cX9_layLines 30 = .ok (.istore_n 3, 1) := by decide +kernel
theorem dX9_layLines_31 : decode cX9_layLines 31 = .ok (.iconst 1, 1) := by decide +kernel
theorem dX9_layLines_32 : decode cX9_layLines 32 = .ok (.istore 4, 2) := by decide +kernel
theorem dX9_layLines_34 : decode cX9_layLines 34 = .ok (.iload 4, 2) := by decide +kernel
theorem dX9_layLines_36 : decode cX9_layLines 36 = .ok (.iload_n 3, 1) := by decide +kernel
theorem dX9_layLines_37 : decode cX9_layLines 37 = .ok (.if_icmp .gt 158, 3) := by decide +kernel
theorem dX9_layLines_40 : decode cX9_layLines 40 = .ok (.iconst (-1), 1) := by decide +kernel
theorem dX9_layLines_41 : decode cX9_layLines 41 = .ok (.istore 5, 2) := by decide +kernel
theorem dX9_layLines_43 : decode cX9_layLines 43 = .ok (.iconst (-1), 1) := by decide +kernel
theorem dX9_layLines_44 : decode cX9_layLines 44 = .ok (.istore 6, 2) := by decide +kernel
theorem dX9_layLines_46 : decode cX9_layLines 46 = .ok (.iconst 0, 1) := by decide +kernel
theorem dX9_layLines_47 : decode cX9_layLines 47 = .ok (.istore 7, 2) := by decide +kernel
theorem dX9_layLines_49 : decode cX9_layLines 49 = .ok (.iload 7, 2) := by decide +kernel
theorem dX9_layLines_51 : decode cX9_layLines 51 = .ok (.iload_n 2, 1) := by decide +kernel
theorem dX9_layLines_52 : decode cX9_layLines 52 = .ok (.if_icmp .ge 42, 3) := by decide +kernel
theorem dX9_layLines_55 : decode cX9_layLines 55 = .ok (.aload_n 0, 1) := by decide +kernel
theorem dX9_layLines_56 : decode cX9_layLines 56 = .ok (.iload_n 1, 1) := by decide +kernel
theorem dX9_layLines_57 : decode cX9_layLines 57 = .ok (.iload 4, 2) := by decide +kernel
theorem dX9_layLines_59 : decode cX9_layLines 59 = .ok (.iload 7, 2) := by decide +kernel
theorem dX9_layLines_61 : decode cX9_layLines 61 = .ok (.invokevirtual 247, 3) := by decide +kernel
theorem dX9_layLines_64 : decode cX9_layLines 64 = .ok (.bipush 32, 2) := by decide +kernel
theorem dX9_layLines_66 : decode cX9_layLines 66 = .ok (.if_icmp .le 22, 3) := by decide +kernel
theorem dX9_layLines_69 : decode cX9_layLines 69 = .ok (.iload 5, 2) := by decide +kernel
theorem dX9_layLines_71 : decode cX9_layLines 71 = .ok (.iconst (-1), 1) := by decide +kernel
theorem dX9_layLines_72 : decode cX9_layLines 72 = .ok (.if_icmp .ne 8, 3) := by decide +kernel
theorem dX9_layLines_75 : decode cX9_layLines 75 = .ok (.iload 7, 2) := by decide +kernel
theorem dX9_layLines_77 : decode cX9_layLines 77 = .ok (.goto 5, 3) := by decide +kernel
theorem dX9_layLines_80 : decode cX9_layLines 80 = .ok (.iload 5, 2) := by decide +kernel
theorem dX9_layLines_82 : decode cX9_layLines 82 = .ok (.istore 5, 2) := by decide +kernel
theorem dX9_layLines_84 : decode cX9_layLines 84 = .ok (.iload 7, 2) := by decide +kernel
theorem dX9_layLines_86 : decode cX9_layLines 86 = .ok (.istore 6, 2) := by decide +kernel
theorem dX9_layLines_88 : decode cX9_layLines 88 = .ok (.iinc 7 1, 3) := by decide +kernel
theorem dX9_layLines_91 : decode cX9_layLines 91 = .ok (.goto (-42), 3) := by decide +kernel
theorem dX9_layLines_94 : decode cX9_layLines 94 = .ok (.iload 5, 2) := by decide +kernel
theorem dX9_layLines_96 : decode cX9_layLines 96 = .ok (.istore 7, 2) := by decide +kernel
theorem dX9_layLines_98 : decode cX9_layLines 98 = .ok (.iload 7, 2) := by decide +kernel
theorem dX9_layLines_100 : decode cX9_layLines 100 = .ok (.iload 6, 2) := by decide +kernel
theorem dX9_layLines_102 : decode cX9_layLines 102 = .ok (.if_icmp .gt 60, 3) := by decide +kernel
theorem dX9_layLines_105 : decode cX9_layLines 105 = .ok (.iload 5, 2) := by decide +kernel
theorem dX9_layLines_107 : decode cX9_layLines 107 = .ok (.iconst (-1), 1) := by decide +kernel
theorem dX9_layLines_108 : decode cX9_layLines 108 = .ok (.if_icmp .eq 54, 3) := by decide +kernel
theorem dX9_layLines_111 : decode cX9_layLines 111 = .ok (.aload_n 0, 1) := by decide +kernel
theorem dX9_layLines_112 : decode cX9_layLines 112 = .ok (.iload_n 1, 1) := by decide +kernel
theorem dX9_layLines_113 : decode cX9_layLines 113 = .ok (.iload 4, 2) := by decide +kernel
theorem dX9_layLines_115 : decode cX9_layLines 115 = .ok (.iload 7, 2) := by decide +kernel
theorem dX9_layLines_117 : decode cX9_layLines 117 = .ok (.invokevirtual 247, 3) := by decide +kernel
theorem dX9_layLines_120 : decode cX9_layLines 120 = .ok (.istore 8, 2) := by decide +kernel
theorem dX9_layLines_122 : decode cX9_layLines 122 = .ok (.aload_n 0, 1) := by decide +kernel
theorem dX9_layLines_123 : decode cX9_layLines 123 = .ok (.getfield 117, 3) := by decide +kernel
theorem dX9_layLines_126 : decode cX9_layLines 126 = .ok (.aload_n 0, 1) := by decide +kernel
theorem dX9_layLines_127 : decode cX9_layLines 127 = .ok (.getfield 244, 3) := by decide +kernel
theorem dX9_layLines_130 : decode cX9_layLines 130 = .ok (.iload 8, 2) := by decide +kernel
theorem dX9_layLines_132 : decode cX9_layLines 132 = .ok (.bipush 32, 2) := by decide +kernel
theorem dX9_layLines_134 : decode cX9_layLines 134 = .ok (.if_icmp .ge 8, 3) := by decide +kernel
theorem dX9_layLines_137 : decode cX9_layLines 137 = .ok (.bipush 32, 2) := by decide +kernel
theorem dX9_layLines_139 : decode cX9_layLines 139 = .ok (.goto 5, 3) := by decide +kernel
theorem dX9_layLines_142 : decode cX9_layLines 142 = .ok (.iload 8, 2) := by decide +kernel
theorem dX9_layLines_144 : decode cX9_layLines 144 = .ok (.i2b, 1) := by decide +kernel
theorem dX9_layLines_145 : decode cX9_layLines 145 = .ok (.bastore, 1) := by decide +kernel
theorem dX9_layLines_146 : decode cX9_layLines 146 = .ok (.aload_n 0, 1) := by decide +kernel
theorem dX9_layLines_147 : decode cX9_layLines 147 = .ok (.dup, 1) := by decide +kernel
theorem dX9_layLines_148 : decode cX9_layLines 148 = .ok (.getfield 244, 3) := by decide +kernel
theorem dX9_layLines_151 : decode cX9_layLines 151 = .ok (.iconst 1, 1) := by decide +kernel
theorem dX9_layLines_152 : decode cX9_layLines 152 = .ok (.iadd, 1) := by decide +kernel
theorem dX9_layLines_153 : decode cX9_layLines 153 = .ok (.putfield 244, 3) := by decide +kernel
theorem dX9_layLines_156 : decode cX9_layLines 156 = .ok (.iinc 7 1, 3) := by decide +kernel
theorem dX9_layLines_159 : decode cX9_layLines 159 = .ok (.goto (-61), 3) := by decide +kernel
theorem dX9_layLines_162 : decode cX9_layLines 162 = .ok (.iload 5, 2) := by decide +kernel
theorem dX9_layLines_164 : decode cX9_layLines 164 = .ok (.iconst (-1), 1) := by decide +kernel
theorem dX9_layLines_165 : decode cX9_layLines 165 = .ok (.if_icmp .eq 24, 3) := by decide +kernel
theorem dX9_layLines_168 : decode cX9_layLines 168 = .ok (.aload_n 0, 1) := by decide +kernel
theorem dX9_layLines_169 : decode cX9_layLines 169 = .ok (.getfield 117, 3) := by decide +kernel
theorem dX9_layLines_172 : decode cX9_layLines 172 = .ok (.aload_n 0, 1) := by decide +kernel
theorem dX9_layLines_173 : decode cX9_layLines 173 = .ok (.getfield 244, 3) := by decide +kernel
theorem dX9_layLines_176 : decode cX9_layLines 176 = .ok (.bipush 10, 2) := by decide +kernel
theorem dX9_layLines_178 : decode cX9_layLines 178 = .ok (.bastore, 1) := by decide +kernel
theorem dX9_layLines_179 : decode cX9_layLines 179 = .ok (.aload_n 0, 1) := by decide +kernel
theorem dX9_layLines_180 : decode cX9_layLines 180 = .ok (.dup, 1) := by decide +kernel
theorem dX9_layLines_181 : decode cX9_layLines 181 = .ok (.getfield 244, 3) := by decide +kernel
theorem dX9_layLines_184 : decode cX9_layLines 184 = .ok (.iconst 1, 1) := by decide +kernel
theorem dX9_layLines_185 : decode cX9_layLines 185 = .ok (.iadd, 1) := by decide +kernel
theorem dX9_layLines_186 : decode cX9_layLines 186 = .ok (.putfield 244, 3) := by decide +kernel
theorem dX9_layLines_189 : decode cX9_layLines 189 = .ok (.iinc 4 1, 3) := by decide +kernel
theorem dX9_layLines_192 : decode cX9_layLines 192 = .ok (.goto (-158), 3) := by decide +kernel
theorem dX9_layLines_195 : decode cX9_layLines 195 = .ok (.aload_n 0, 1) := by decide +kernel
theorem dX9_layLines_196 : decode cX9_layLines 196 = .ok (.aload_n 0, 1) := by decide +kernel
theorem dX9_layLines_197 : decode cX9_layLines 197 = .ok (.getfield 244, 3) := by decide +kernel
theorem dX9_layLines_200 : decode cX9_layLines 200 = .ok (.sipush 400, 3) := by decide +kernel
theorem dX9_layLines_203 : decode cX9_layLines 203 = .ok (.if_icmp .le 9, 3) := by decide +kernel
theorem dX9_layLines_206 : decode cX9_layLines 206 = .ok (.sipush 400, 3) := by decide +kernel
theorem dX9_layLines_209 : decode cX9_layLines 209 = .ok (.goto 7, 3) := by decide +kernel
theorem dX9_layLines_212 : decode cX9_layLines 212 = .ok (.aload_n 0, 1) := by decide +kernel
theorem dX9_layLines_213 : decode cX9_layLines 213 = .ok (.getfield 244, 3) := by decide +kernel
theorem dX9_layLines_216 : decode cX9_layLines 216 = .ok (.putfield 244, 3) := by decide +kernel
theorem dX9_layLines_219 : decode cX9_layLines 219 = .ok (.return_, 1) := by decide +kernel
theorem nmX9_layLines : mm_nm yX9_layLines 1 := ⟨by decide, by decide, by decide +kernel⟩
theorem cdX9_layLines : mm_cd cd_Y yX9_layLines cX9_layLines 9 none := ⟨tw_1117, tw_8⟩
abbrev rmX9_layLines : Room := { frames := 2, cells := 0, slots := 0, locals := 48 }
def fX9_layLines_162 (k34 : Nat → Int32 → Int32 → Int32 → Int32 → mm_M → Option mm_M) (a0 : Nat) (x1 : Int32) (x2 : Int32) (x3 : Int32) (x4 : Int32) (x5 : Int32) (x6 : Int32) (x7 : Int32) (σ : mm_M) : Option mm_M :=
  (if x5 = (-1) then (k34 a0 x1 x2 x3 (x4 + 1) σ) else mm_sh σ a0 (.inl 9) (mm_on (mm_R σ a0 45) fun q11 => mm_ar σ q11 2 fun n12 => mm_ib (mm_I σ a0 44) n12 ((k34 a0 x1 x2 x3 (x4 + 1) (mm_wI (mm_wI σ q11 ((mm_I σ a0 44).toNatClampNeg) ((10 : Int32).toInt8.toInt32)) a0 44 ((mm_I (mm_wI σ q11 ((mm_I σ a0 44).toNatClampNeg) ((10 : Int32).toInt8.toInt32)) a0 44) + 1))))))
def fX9_layLines_144 (k34 : Nat → Int32 → Int32 → Int32 → Int32 → mm_M → Option mm_M) (k98 : Nat → Int32 → Int32 → Int32 → Int32 → Int32 → Int32 → Int32 → mm_M → Option mm_M) (a0 : Nat) (x1 : Int32) (x2 : Int32) (x3 : Int32) (x4 : Int32) (x5 : Int32) (x6 : Int32) (x7 : Int32) (x8 : Int32) (y0 : Int32) (y1 : Int32) (y2 : Option Nat) (σ : mm_M) : Option mm_M :=
  mm_on (y2) fun q19 => mm_ar σ q19 2 fun n20 => mm_ib y1 n20 (mm_sh (mm_wI σ q19 (y1.toNatClampNeg) (y0.toInt8.toInt32.toInt8.toInt32)) a0 (.inl 9) ((k98 a0 x1 x2 x3 x4 x5 x6 (x7 + 1) (mm_wI (mm_wI σ q19 (y1.toNatClampNeg) (y0.toInt8.toInt32.toInt8.toInt32)) a0 44 ((mm_I (mm_wI σ q19 (y1.toNatClampNeg) (y0.toInt8.toInt32.toInt8.toInt32)) a0 44) + 1)))))
def fX9_layLines_98 (k34 : Nat → Int32 → Int32 → Int32 → Int32 → mm_M → Option mm_M) : Nat → Nat → Int32 → Int32 → Int32 → Int32 → Int32 → Int32 → Int32 → mm_M → Option mm_M
  | 0 => fun _ _ _ _ _ _ _ _ _ => none
  | n + 1 => fun a0 x1 x2 x3 x4 x5 x6 x7 σ =>
  (if x6 < x7 then (fX9_layLines_162 k34 a0 x1 x2 x3 x4 x5 x6 x7 σ) else (if x5 = (-1) then (fX9_layLines_162 k34 a0 x1 x2 x3 x4 x5 x6 x7 σ) else mm_sh σ a0 (.inl 9) (mm_on (fX9_letterOf a0 x1 x4 x7 σ) fun q16 => mm_sh q16.2 a0 (.inl 9) ((if 32 ≤ q16.1 then (fX9_layLines_144 k34 (fX9_layLines_98 k34 n) a0 x1 x2 x3 x4 x5 x6 x7 q16.1 q16.1 (mm_I q16.2 a0 44) (mm_R q16.2 a0 45) q16.2) else (fX9_layLines_144 k34 (fX9_layLines_98 k34 n) a0 x1 x2 x3 x4 x5 x6 x7 q16.1 32 (mm_I q16.2 a0 44) (mm_R q16.2 a0 45) q16.2))))))
def fX9_layLines_82 (k34 : Nat → Int32 → Int32 → Int32 → Int32 → mm_M → Option mm_M) (k49 : Nat → Int32 → Int32 → Int32 → Int32 → Int32 → Int32 → Int32 → mm_M → Option mm_M) (a0 : Nat) (x1 : Int32) (x2 : Int32) (x3 : Int32) (x4 : Int32) (x5 : Int32) (x6 : Int32) (x7 : Int32) (y0 : Int32) (σ : mm_M) : Option mm_M :=
  (k49 a0 x1 x2 x3 x4 y0 x7 (x7 + 1) σ)
def fX9_layLines_49 (k34 : Nat → Int32 → Int32 → Int32 → Int32 → mm_M → Option mm_M) : Nat → Nat → Int32 → Int32 → Int32 → Int32 → Int32 → Int32 → Int32 → mm_M → Option mm_M
  | 0 => fun _ _ _ _ _ _ _ _ _ => none
  | n + 1 => fun a0 x1 x2 x3 x4 x5 x6 x7 σ =>
  (if x2 ≤ x7 then (fX9_layLines_98 k34 mm_fuel a0 x1 x2 x3 x4 x5 x6 x5 σ) else mm_sh σ a0 (.inl 9) (mm_on (fX9_letterOf a0 x1 x4 x7 σ) fun q24 => (if q24.1 ≤ 32 then (fX9_layLines_49 k34 n a0 x1 x2 x3 x4 x5 x6 (x7 + 1) q24.2) else (if x5 = (-1) then (fX9_layLines_82 k34 (fX9_layLines_49 k34 n) a0 x1 x2 x3 x4 x5 x6 x7 x7 q24.2) else (fX9_layLines_82 k34 (fX9_layLines_49 k34 n) a0 x1 x2 x3 x4 x5 x6 x7 x5 q24.2)))))
def fX9_layLines_34  : Nat → Nat → Int32 → Int32 → Int32 → Int32 → mm_M → Option mm_M
  | 0 => fun _ _ _ _ _ _ => none
  | n + 1 => fun a0 x1 x2 x3 x4 σ =>
  (if x3 < x4 then mm_sh σ a0 (.inl 9) ((if (mm_I σ a0 44) ≤ 400 then some (mm_wI σ a0 44 (mm_I σ a0 44)) else some (mm_wI σ a0 44 400))) else (fX9_layLines_49 (fX9_layLines_34  n) mm_fuel a0 x1 x2 x3 x4 (-1) (-1) 0 σ))
def fX9_layLines_17  (a0 : Nat) (x1 : Int32) (y0 : Int32) (σ : mm_M) : Option mm_M :=
  (if 4 ≤ x1 then (fX9_layLines_34  mm_fuel a0 x1 y0 24 1 σ) else (fX9_layLines_34  mm_fuel a0 x1 y0 15 1 σ))
def fX9_layLines (p0 : Nat) (p1 : Int32) (σ : mm_M) : Option mm_M :=
  mm_sh σ p0 (.inl 9) ((if 4 ≤ p1 then (fX9_layLines_17  p0 p1 40 (mm_wI σ p0 44 0)) else (fX9_layLines_17  p0 p1 32 (mm_wI σ p0 44 0))))
set_option maxHeartbeats 4000000 in
set_option maxRecDepth 100000 in
theorem kX9_layLines_162 {G : mm_G} {A : Nat → Prop} {ini : Bool} {k34 : Nat → Int32 → Int32 → Int32 → Int32 → mm_M → Option mm_M} {R : mm_M} (hk34 : ∀ a0 x1 x2 x3 x4 σ, k34 a0 x1 x2 x3 x4 σ = some R → mm_J cd_Y G RX9 cX9_layLines 9 none ini rmX9_layLines A (mm_QF cd_Y G A (mm_Pv R) rmX9_layLines.cells rmX9_layLines.slots) 34 [(0, .ref a0), (1, .int x1), (2, .int x2), (3, .int x3), (4, .int x4)] [] σ 0 0) (a0 : Nat) (x1 : Int32) (x2 : Int32) (x3 : Int32) (x4 : Int32) (x5 : Int32) (x6 : Int32) (x7 : Int32) (σ : mm_M) (hf : fX9_layLines_162 k34 a0 x1 x2 x3 x4 x5 x6 x7 σ = some R) : mm_J cd_Y G RX9 cX9_layLines 9 none ini rmX9_layLines A (mm_QF cd_Y G A (mm_Pv R) rmX9_layLines.cells rmX9_layLines.slots) 162 [(0, .ref a0), (1, .int x1), (2, .int x2), (3, .int x3), (4, .int x4), (5, .int x5), (6, .int x6), (7, .int x7)] [] σ 0 0 := by
  unfold fX9_layLines_162 at hf
  refine mm_iload (j := 5) dX9_layLines_162 rfl ?_
  refine mm_iconst (v := (-1)) dX9_layLines_164 (by decide) ?_
  refine mm_icmp_eq (tgt := 189) dX9_layLines_165 (by decide) (fun c9 => ?_) (fun c9 => ?_)
  · rw [if_pos c9] at hf
    refine mm_iinc (j := 4) (L' := [(4, .int (x4 + 1)), (0, .ref a0), (1, .int x1), (2, .int x2), (3, .int x3), (5, .int x5), (6, .int x6), (7, .int x7)]) dX9_layLines_189 rfl rfl (by decide) rfl ?_
    refine mm_goto (tgt := 34) dX9_layLines_192 (by decide) ?_
    refine mm_sub [1, 2, 3, 4, 0] rfl ?_
    exact hk34 a0 x1 x2 x3 (x4 + 1) σ hf
  · rw [if_neg c9] at hf
    refine mm_aload_n (j := 0) dX9_layLines_168 rfl rfl ?_
    obtain ⟨hs10, hf⟩ := mm_sh_s hf
    refine mm_get (c := 9) (k := 45) (v := va_rf (mm_R σ a0 45)) cd_ok ⟨_, _, _, rfl, by decide, Or.inl tw_839⟩ hs10 rfl dX9_layLines_169 ?_
    refine mm_aload_n (j := 0) dX9_layLines_172 rfl rfl ?_
    refine mm_get (c := 9) (k := 44) (v := .int (mm_I σ a0 44)) cd_ok ⟨_, _, _, rfl, by decide, Or.inl tw_838⟩ hs10 rfl dX9_layLines_173 ?_
    refine mm_bipush (v := 10) dX9_layLines_176 (by decide) ?_
    obtain ⟨q11, hq11, hf⟩ := mm_on_s hf
    rw [hq11, mm_rf_some]
    obtain ⟨n12, hn12, hf⟩ := mm_ar_s hf
    obtain ⟨hi13, hf⟩ := mm_ib_s hf
    refine mm_bast hn12 rfl hi13 dX9_layLines_178 ?_
    refine mm_aload_n (j := 0) dX9_layLines_179 rfl rfl ?_
    refine mm_dup dX9_layLines_180 rfl ?_
    refine mm_get (c := 9) (k := 44) (v := .int (mm_I (mm_wI σ q11 ((mm_I σ a0 44).toNatClampNeg) ((10 : Int32).toInt8.toInt32)) a0 44)) cd_ok ⟨_, _, _, rfl, by decide, Or.inl tw_838⟩ hs10 rfl dX9_layLines_181 ?_
    refine mm_iconst (v := 1) dX9_layLines_184 (by decide) ?_
    refine mm_iadd dX9_layLines_185 ?_
    refine mm_putI (c := 9) (k := 44) cd_ok ⟨_, _, _, rfl, by decide, rfl, Or.inl tw_838⟩ hs10 rfl rfl rfl dX9_layLines_186 ?_
    refine mm_iinc (j := 4) (L' := [(4, .int (x4 + 1)), (0, .ref a0), (1, .int x1), (2, .int x2), (3, .int x3), (5, .int x5), (6, .int x6), (7, .int x7)]) dX9_layLines_189 rfl rfl (by decide) rfl ?_
    refine mm_goto (tgt := 34) dX9_layLines_192 (by decide) ?_
    refine mm_sub [1, 2, 3, 4, 0] rfl ?_
    exact hk34 a0 x1 x2 x3 (x4 + 1) (mm_wI (mm_wI σ q11 ((mm_I σ a0 44).toNatClampNeg) ((10 : Int32).toInt8.toInt32)) a0 44 ((mm_I (mm_wI σ q11 ((mm_I σ a0 44).toNatClampNeg) ((10 : Int32).toInt8.toInt32)) a0 44) + 1)) hf
set_option maxHeartbeats 4000000 in
set_option maxRecDepth 100000 in
theorem kX9_layLines_144 {G : mm_G} {A : Nat → Prop} {ini : Bool} {k34 : Nat → Int32 → Int32 → Int32 → Int32 → mm_M → Option mm_M} {k98 : Nat → Int32 → Int32 → Int32 → Int32 → Int32 → Int32 → Int32 → mm_M → Option mm_M} {R : mm_M} (hk34 : ∀ a0 x1 x2 x3 x4 σ, k34 a0 x1 x2 x3 x4 σ = some R → mm_J cd_Y G RX9 cX9_layLines 9 none ini rmX9_layLines A (mm_QF cd_Y G A (mm_Pv R) rmX9_layLines.cells rmX9_layLines.slots) 34 [(0, .ref a0), (1, .int x1), (2, .int x2), (3, .int x3), (4, .int x4)] [] σ 0 0) (hk98 : ∀ a0 x1 x2 x3 x4 x5 x6 x7 σ, k98 a0 x1 x2 x3 x4 x5 x6 x7 σ = some R → mm_J cd_Y G RX9 cX9_layLines 9 none ini rmX9_layLines A (mm_QF cd_Y G A (mm_Pv R) rmX9_layLines.cells rmX9_layLines.slots) 98 [(0, .ref a0), (1, .int x1), (2, .int x2), (3, .int x3), (4, .int x4), (5, .int x5), (6, .int x6), (7, .int x7)] [] σ 0 0) (a0 : Nat) (x1 : Int32) (x2 : Int32) (x3 : Int32) (x4 : Int32) (x5 : Int32) (x6 : Int32) (x7 : Int32) (x8 : Int32) (y0 : Int32) (y1 : Int32) (y2 : Option Nat) (σ : mm_M) (hf : fX9_layLines_144 k34 k98 a0 x1 x2 x3 x4 x5 x6 x7 x8 y0 y1 y2 σ = some R) : mm_J cd_Y G RX9 cX9_layLines 9 none ini rmX9_layLines A (mm_QF cd_Y G A (mm_Pv R) rmX9_layLines.cells rmX9_layLines.slots) 144 [(0, .ref a0), (1, .int x1), (2, .int x2), (3, .int x3), (4, .int x4), (5, .int x5), (6, .int x6), (7, .int x7), (8, .int x8)] [.int y0, .int y1, va_rf (y2)] σ 0 0 := by
  unfold fX9_layLines_144 at hf
  refine mm_i2b dX9_layLines_144 ?_
  obtain ⟨q19, hq19, hf⟩ := mm_on_s hf
  rw [hq19, mm_rf_some]
  obtain ⟨n20, hn20, hf⟩ := mm_ar_s hf
  obtain ⟨hi21, hf⟩ := mm_ib_s hf
  refine mm_bast hn20 rfl hi21 dX9_layLines_145 ?_
  refine mm_aload_n (j := 0) dX9_layLines_146 rfl rfl ?_
  refine mm_dup dX9_layLines_147 rfl ?_
  obtain ⟨hs22, hf⟩ := mm_sh_s hf
  refine mm_get (c := 9) (k := 44) (v := .int (mm_I (mm_wI σ q19 (y1.toNatClampNeg) (y0.toInt8.toInt32.toInt8.toInt32)) a0 44)) cd_ok ⟨_, _, _, rfl, by decide, Or.inl tw_838⟩ hs22 rfl dX9_layLines_148 ?_
  refine mm_iconst (v := 1) dX9_layLines_151 (by decide) ?_
  refine mm_iadd dX9_layLines_152 ?_
  refine mm_putI (c := 9) (k := 44) cd_ok ⟨_, _, _, rfl, by decide, rfl, Or.inl tw_838⟩ hs22 rfl rfl rfl dX9_layLines_153 ?_
  refine mm_iinc (j := 7) (L' := [(7, .int (x7 + 1)), (0, .ref a0), (1, .int x1), (2, .int x2), (3, .int x3), (4, .int x4), (5, .int x5), (6, .int x6), (8, .int x8)]) dX9_layLines_156 rfl rfl (by decide) rfl ?_
  refine mm_goto (tgt := 98) dX9_layLines_159 (by decide) ?_
  refine mm_sub [1, 2, 3, 4, 5, 6, 7, 0] rfl ?_
  exact hk98 a0 x1 x2 x3 x4 x5 x6 (x7 + 1) (mm_wI (mm_wI σ q19 (y1.toNatClampNeg) (y0.toInt8.toInt32.toInt8.toInt32)) a0 44 ((mm_I (mm_wI σ q19 (y1.toNatClampNeg) (y0.toInt8.toInt32.toInt8.toInt32)) a0 44) + 1)) hf
set_option maxHeartbeats 4000000 in
set_option maxRecDepth 100000 in
theorem kX9_layLines_98 {G : mm_G} {A : Nat → Prop} {ini : Bool} {k34 : Nat → Int32 → Int32 → Int32 → Int32 → mm_M → Option mm_M} {R : mm_M} (hk34 : ∀ a0 x1 x2 x3 x4 σ, k34 a0 x1 x2 x3 x4 σ = some R → mm_J cd_Y G RX9 cX9_layLines 9 none ini rmX9_layLines A (mm_QF cd_Y G A (mm_Pv R) rmX9_layLines.cells rmX9_layLines.slots) 34 [(0, .ref a0), (1, .int x1), (2, .int x2), (3, .int x3), (4, .int x4)] [] σ 0 0) : ∀ (a0 : Nat) (x1 : Int32) (x2 : Int32) (x3 : Int32) (x4 : Int32) (x5 : Int32) (x6 : Int32) (x7 : Int32) (σ : mm_M), fX9_layLines_98 k34 mm_fuel a0 x1 x2 x3 x4 x5 x6 x7 σ = some R → mm_J cd_Y G RX9 cX9_layLines 9 none ini rmX9_layLines A (mm_QF cd_Y G A (mm_Pv R) rmX9_layLines.cells rmX9_layLines.slots) 98 [(0, .ref a0), (1, .int x1), (2, .int x2), (3, .int x3), (4, .int x4), (5, .int x5), (6, .int x6), (7, .int x7)] [] σ 0 0 := by
  generalize mm_fuel = n
  induction n with
  | zero => intro a0 x1 x2 x3 x4 x5 x6 x7 σ hf; cases hf
  | succ n ih =>
    intro a0 x1 x2 x3 x4 x5 x6 x7 σ hf
    unfold fX9_layLines_98 at hf
    refine mm_iload (j := 7) dX9_layLines_98 rfl ?_
    refine mm_iload (j := 6) dX9_layLines_100 rfl ?_
    refine mm_icmp_gt (tgt := 162) dX9_layLines_102 (by decide) (fun c8 => ?_) (fun c8 => ?_)
    · rw [if_pos c8] at hf
      refine mm_sub [0, 1, 2, 3, 4, 5, 6, 7] rfl ?_
      exact kX9_layLines_162 hk34 a0 x1 x2 x3 x4 x5 x6 x7 σ hf
    · rw [if_neg c8] at hf
      refine mm_iload (j := 5) dX9_layLines_105 rfl ?_
      refine mm_iconst (v := (-1)) dX9_layLines_107 (by decide) ?_
      refine mm_icmp_eq (tgt := 162) dX9_layLines_108 (by decide) (fun c14 => ?_) (fun c14 => ?_)
      · rw [if_pos c14] at hf
        refine mm_sub [0, 1, 2, 3, 4, 5, 6, 7] rfl ?_
        exact kX9_layLines_162 hk34 a0 x1 x2 x3 x4 x5 x6 x7 σ hf
      · rw [if_neg c14] at hf
        refine mm_aload_n (j := 0) dX9_layLines_111 rfl rfl ?_
        refine mm_iload_n (j := 1) dX9_layLines_112 rfl rfl ?_
        refine mm_iload (j := 4) dX9_layLines_113 rfl ?_
        refine mm_iload (j := 7) dX9_layLines_115 rfl ?_
        obtain ⟨hs15, hf⟩ := mm_sh_s hf
        obtain ⟨q16, hq16, hf⟩ := mm_on_s hf
        refine mm_callVi cd_ok (kX9_letterOf a0 x1 x4 x7 hq16) hs15 rfl (Or.inl tw_1118) cdX9_letterOf tw_1120 ts_54 nmX9_letterOf rfl rfl (by simp only [List.map_cons, List.map_nil, mm_rf_cat]; exact Nat.le_of_ble_eq_true rfl) dX9_layLines_117 ⟨Nat.le_of_ble_eq_true rfl, Nat.le_of_ble_eq_true rfl⟩ ⟨Nat.le_of_ble_eq_true rfl, Nat.le_of_ble_eq_true rfl⟩ ?_
        refine mm_istore (L' := [(8, .int q16.1), (0, .ref a0), (1, .int x1), (2, .int x2), (3, .int x3), (4, .int x4), (5, .int x5), (6, .int x6), (7, .int x7)]) dX9_layLines_120 (by decide) rfl ?_
        refine mm_aload_n (j := 1) dX9_layLines_122 rfl rfl ?_
        obtain ⟨hs17, hf⟩ := mm_sh_s hf
        refine mm_get (c := 9) (k := 45) (v := va_rf (mm_R q16.2 a0 45)) cd_ok ⟨_, _, _, rfl, by decide, Or.inl tw_839⟩ hs17 rfl dX9_layLines_123 ?_
        refine mm_aload_n (j := 1) dX9_layLines_126 rfl rfl ?_
        refine mm_get (c := 9) (k := 44) (v := .int (mm_I q16.2 a0 44)) cd_ok ⟨_, _, _, rfl, by decide, Or.inl tw_838⟩ hs17 rfl dX9_layLines_127 ?_
        refine mm_iload (j := 0) dX9_layLines_130 rfl ?_
        refine mm_bipush (v := 32) dX9_layLines_132 (by decide) ?_
        refine mm_icmp_ge (tgt := 142) dX9_layLines_134 (by decide) (fun c18 => ?_) (fun c18 => ?_)
        · rw [if_pos c18] at hf
          refine mm_iload (j := 0) dX9_layLines_142 rfl ?_
          refine mm_sub [1, 2, 3, 4, 5, 6, 7, 8, 0] rfl ?_
          exact kX9_layLines_144 hk34 ih a0 x1 x2 x3 x4 x5 x6 x7 q16.1 q16.1 (mm_I q16.2 a0 44) (mm_R q16.2 a0 45) q16.2 hf
        · rw [if_neg c18] at hf
          refine mm_bipush (v := 32) dX9_layLines_137 (by decide) ?_
          refine mm_goto (tgt := 144) dX9_layLines_139 (by decide) ?_
          refine mm_sub [1, 2, 3, 4, 5, 6, 7, 8, 0] rfl ?_
          exact kX9_layLines_144 hk34 ih a0 x1 x2 x3 x4 x5 x6 x7 q16.1 32 (mm_I q16.2 a0 44) (mm_R q16.2 a0 45) q16.2 hf
set_option maxHeartbeats 4000000 in
set_option maxRecDepth 100000 in
theorem kX9_layLines_82 {G : mm_G} {A : Nat → Prop} {ini : Bool} {k34 : Nat → Int32 → Int32 → Int32 → Int32 → mm_M → Option mm_M} {k49 : Nat → Int32 → Int32 → Int32 → Int32 → Int32 → Int32 → Int32 → mm_M → Option mm_M} {R : mm_M} (hk34 : ∀ a0 x1 x2 x3 x4 σ, k34 a0 x1 x2 x3 x4 σ = some R → mm_J cd_Y G RX9 cX9_layLines 9 none ini rmX9_layLines A (mm_QF cd_Y G A (mm_Pv R) rmX9_layLines.cells rmX9_layLines.slots) 34 [(0, .ref a0), (1, .int x1), (2, .int x2), (3, .int x3), (4, .int x4)] [] σ 0 0) (hk49 : ∀ a0 x1 x2 x3 x4 x5 x6 x7 σ, k49 a0 x1 x2 x3 x4 x5 x6 x7 σ = some R → mm_J cd_Y G RX9 cX9_layLines 9 none ini rmX9_layLines A (mm_QF cd_Y G A (mm_Pv R) rmX9_layLines.cells rmX9_layLines.slots) 49 [(0, .ref a0), (1, .int x1), (2, .int x2), (3, .int x3), (4, .int x4), (5, .int x5), (6, .int x6), (7, .int x7)] [] σ 0 0) (a0 : Nat) (x1 : Int32) (x2 : Int32) (x3 : Int32) (x4 : Int32) (x5 : Int32) (x6 : Int32) (x7 : Int32) (y0 : Int32) (σ : mm_M) (hf : fX9_layLines_82 k34 k49 a0 x1 x2 x3 x4 x5 x6 x7 y0 σ = some R) : mm_J cd_Y G RX9 cX9_layLines 9 none ini rmX9_layLines A (mm_QF cd_Y G A (mm_Pv R) rmX9_layLines.cells rmX9_layLines.slots) 82 [(0, .ref a0), (1, .int x1), (2, .int x2), (3, .int x3), (4, .int x4), (5, .int x5), (6, .int x6), (7, .int x7)] [.int y0] σ 0 0 := by
  unfold fX9_layLines_82 at hf
  refine mm_istore (L' := [(5, .int y0), (0, .ref a0), (1, .int x1), (2, .int x2), (3, .int x3), (4, .int x4), (6, .int x6), (7, .int x7)]) dX9_layLines_82 (by decide) rfl ?_
  refine mm_iload (j := 7) dX9_layLines_84 rfl ?_
  refine mm_istore (L' := [(6, .int x7), (5, .int y0), (0, .ref a0), (1, .int x1), (2, .int x2), (3, .int x3), (4, .int x4), (7, .int x7)]) dX9_layLines_86 (by decide) rfl ?_
  refine mm_iinc (j := 7) (L' := [(7, .int (x7 + 1)), (6, .int x7), (5, .int y0), (0, .ref a0), (1, .int x1), (2, .int x2), (3, .int x3), (4, .int x4)]) dX9_layLines_88 rfl rfl (by decide) rfl ?_
  refine mm_goto (tgt := 49) dX9_layLines_91 (by decide) ?_
  refine mm_sub [3, 4, 5, 6, 7, 2, 1, 0] rfl ?_
  exact hk49 a0 x1 x2 x3 x4 y0 x7 (x7 + 1) σ hf
set_option maxHeartbeats 4000000 in
set_option maxRecDepth 100000 in
theorem kX9_layLines_49 {G : mm_G} {A : Nat → Prop} {ini : Bool} {k34 : Nat → Int32 → Int32 → Int32 → Int32 → mm_M → Option mm_M} {R : mm_M} (hk34 : ∀ a0 x1 x2 x3 x4 σ, k34 a0 x1 x2 x3 x4 σ = some R → mm_J cd_Y G RX9 cX9_layLines 9 none ini rmX9_layLines A (mm_QF cd_Y G A (mm_Pv R) rmX9_layLines.cells rmX9_layLines.slots) 34 [(0, .ref a0), (1, .int x1), (2, .int x2), (3, .int x3), (4, .int x4)] [] σ 0 0) : ∀ (a0 : Nat) (x1 : Int32) (x2 : Int32) (x3 : Int32) (x4 : Int32) (x5 : Int32) (x6 : Int32) (x7 : Int32) (σ : mm_M), fX9_layLines_49 k34 mm_fuel a0 x1 x2 x3 x4 x5 x6 x7 σ = some R → mm_J cd_Y G RX9 cX9_layLines 9 none ini rmX9_layLines A (mm_QF cd_Y G A (mm_Pv R) rmX9_layLines.cells rmX9_layLines.slots) 49 [(0, .ref a0), (1, .int x1), (2, .int x2), (3, .int x3), (4, .int x4), (5, .int x5), (6, .int x6), (7, .int x7)] [] σ 0 0 := by
  generalize mm_fuel = n
  induction n with
  | zero => intro a0 x1 x2 x3 x4 x5 x6 x7 σ hf; cases hf
  | succ n ih =>
    intro a0 x1 x2 x3 x4 x5 x6 x7 σ hf
    unfold fX9_layLines_49 at hf
    refine mm_iload (j := 7) dX9_layLines_49 rfl ?_
    refine mm_iload_n (j := 2) dX9_layLines_51 rfl rfl ?_
    refine mm_icmp_ge (tgt := 94) dX9_layLines_52 (by decide) (fun c7 => ?_) (fun c7 => ?_)
    · rw [if_pos c7] at hf
      refine mm_iload (j := 5) dX9_layLines_94 rfl ?_
      refine mm_istore (L' := [(7, .int x5), (0, .ref a0), (1, .int x1), (2, .int x2), (3, .int x3), (4, .int x4), (5, .int x5), (6, .int x6)]) dX9_layLines_96 (by decide) rfl ?_
      refine mm_sub [1, 2, 3, 4, 5, 6, 7, 0] rfl ?_
      exact kX9_layLines_98 hk34 a0 x1 x2 x3 x4 x5 x6 x5 σ hf
    · rw [if_neg c7] at hf
      refine mm_aload_n (j := 0) dX9_layLines_55 rfl rfl ?_
      refine mm_iload_n (j := 1) dX9_layLines_56 rfl rfl ?_
      refine mm_iload (j := 4) dX9_layLines_57 rfl ?_
      refine mm_iload (j := 7) dX9_layLines_59 rfl ?_
      obtain ⟨hs23, hf⟩ := mm_sh_s hf
      obtain ⟨q24, hq24, hf⟩ := mm_on_s hf
      refine mm_callVi cd_ok (kX9_letterOf a0 x1 x4 x7 hq24) hs23 rfl (Or.inl tw_1118) cdX9_letterOf tw_1120 ts_54 nmX9_letterOf rfl rfl (by simp only [List.map_cons, List.map_nil, mm_rf_cat]; exact Nat.le_of_ble_eq_true rfl) dX9_layLines_61 ⟨Nat.le_of_ble_eq_true rfl, Nat.le_of_ble_eq_true rfl⟩ ⟨Nat.le_of_ble_eq_true rfl, Nat.le_of_ble_eq_true rfl⟩ ?_
      refine mm_bipush (v := 32) dX9_layLines_64 (by decide) ?_
      refine mm_icmp_le (tgt := 88) dX9_layLines_66 (by decide) (fun c25 => ?_) (fun c25 => ?_)
      · rw [if_pos c25] at hf
        refine mm_iinc (j := 7) (L' := [(7, .int (x7 + 1)), (0, .ref a0), (1, .int x1), (2, .int x2), (3, .int x3), (4, .int x4), (5, .int x5), (6, .int x6)]) dX9_layLines_88 rfl rfl (by decide) rfl ?_
        refine mm_goto (tgt := 49) dX9_layLines_91 (by decide) ?_
        refine mm_sub [1, 2, 3, 4, 5, 6, 7, 0] rfl ?_
        exact ih a0 x1 x2 x3 x4 x5 x6 (x7 + 1) q24.2 hf
      · rw [if_neg c25] at hf
        refine mm_iload (j := 5) dX9_layLines_69 rfl ?_
        refine mm_iconst (v := (-1)) dX9_layLines_71 (by decide) ?_
        refine mm_icmp_ne (tgt := 80) dX9_layLines_72 (by decide) (fun c26 => ?_) (fun c26 => ?_)
        · rw [if_neg c26] at hf
          refine mm_iload (j := 5) dX9_layLines_80 rfl ?_
          refine mm_sub [0, 1, 2, 3, 4, 5, 6, 7] rfl ?_
          exact kX9_layLines_82 hk34 ih a0 x1 x2 x3 x4 x5 x6 x7 x5 q24.2 hf
        · rw [if_pos c26] at hf
          refine mm_iload (j := 7) dX9_layLines_75 rfl ?_
          refine mm_goto (tgt := 82) dX9_layLines_77 (by decide) ?_
          refine mm_sub [0, 1, 2, 3, 4, 5, 6, 7] rfl ?_
          exact kX9_layLines_82 hk34 ih a0 x1 x2 x3 x4 x5 x6 x7 x7 q24.2 hf
set_option maxHeartbeats 4000000 in
set_option maxRecDepth 100000 in
theorem kX9_layLines_34 {G : mm_G} {A : Nat → Prop} {ini : Bool}  {R : mm_M}  : ∀ (a0 : Nat) (x1 : Int32) (x2 : Int32) (x3 : Int32) (x4 : Int32) (σ : mm_M), fX9_layLines_34  mm_fuel a0 x1 x2 x3 x4 σ = some R → mm_J cd_Y G RX9 cX9_layLines 9 none ini rmX9_layLines A (mm_QF cd_Y G A (mm_Pv R) rmX9_layLines.cells rmX9_layLines.slots) 34 [(0, .ref a0), (1, .int x1), (2, .int x2), (3, .int x3), (4, .int x4)] [] σ 0 0 := by
  generalize mm_fuel = n
  induction n with
  | zero => intro a0 x1 x2 x3 x4 σ hf; cases hf
  | succ n ih =>
    intro a0 x1 x2 x3 x4 σ hf
    unfold fX9_layLines_34 at hf
    refine mm_iload (j := 4) dX9_layLines_34 rfl ?_
    refine mm_iload_n (j := 3) dX9_layLines_36 rfl rfl ?_
    refine mm_icmp_gt (tgt := 195) dX9_layLines_37 (by decide) (fun c4 => ?_) (fun c4 => ?_)
    · rw [if_pos c4] at hf
      refine mm_aload_n (j := 0) dX9_layLines_195 rfl rfl ?_
      refine mm_aload_n (j := 0) dX9_layLines_196 rfl rfl ?_
      obtain ⟨hs5, hf⟩ := mm_sh_s hf
      refine mm_get (c := 9) (k := 44) (v := .int (mm_I σ a0 44)) cd_ok ⟨_, _, _, rfl, by decide, Or.inl tw_838⟩ hs5 rfl dX9_layLines_197 ?_
      refine mm_sipush (v := 400) dX9_layLines_200 (by decide) ?_
      refine mm_icmp_le (tgt := 212) dX9_layLines_203 (by decide) (fun c6 => ?_) (fun c6 => ?_)
      · rw [if_pos c6] at hf
        refine mm_aload_n (j := 0) dX9_layLines_212 rfl rfl ?_
        refine mm_get (c := 9) (k := 44) (v := .int (mm_I σ a0 44)) cd_ok ⟨_, _, _, rfl, by decide, Or.inl tw_838⟩ hs5 rfl dX9_layLines_213 ?_
        refine mm_putI (c := 9) (k := 44) cd_ok ⟨_, _, _, rfl, by decide, rfl, Or.inl tw_838⟩ hs5 rfl rfl rfl dX9_layLines_216 ?_
        cases hf
        exact mm_vret rfl dX9_layLines_219 ⟨rfl, rfl⟩
      · rw [if_neg c6] at hf
        refine mm_sipush (v := 400) dX9_layLines_206 (by decide) ?_
        refine mm_goto (tgt := 216) dX9_layLines_209 (by decide) ?_
        refine mm_putI (c := 9) (k := 44) cd_ok ⟨_, _, _, rfl, by decide, rfl, Or.inl tw_838⟩ hs5 rfl rfl rfl dX9_layLines_216 ?_
        cases hf
        exact mm_vret rfl dX9_layLines_219 ⟨rfl, rfl⟩
    · rw [if_neg c4] at hf
      refine mm_iconst (v := (-1)) dX9_layLines_40 (by decide) ?_
      refine mm_istore (L' := [(5, .int (-1)), (0, .ref a0), (1, .int x1), (2, .int x2), (3, .int x3), (4, .int x4)]) dX9_layLines_41 (by decide) rfl ?_
      refine mm_iconst (v := (-1)) dX9_layLines_43 (by decide) ?_
      refine mm_istore (L' := [(6, .int (-1)), (5, .int (-1)), (0, .ref a0), (1, .int x1), (2, .int x2), (3, .int x3), (4, .int x4)]) dX9_layLines_44 (by decide) rfl ?_
      refine mm_iconst (v := 0) dX9_layLines_46 (by decide) ?_
      refine mm_istore (L' := [(7, .int 0), (6, .int (-1)), (5, .int (-1)), (0, .ref a0), (1, .int x1), (2, .int x2), (3, .int x3), (4, .int x4)]) dX9_layLines_47 (by decide) rfl ?_
      refine mm_sub [3, 4, 5, 6, 7, 2, 1, 0] rfl ?_
      exact kX9_layLines_49 ih a0 x1 x2 x3 x4 (-1) (-1) 0 σ hf
set_option maxHeartbeats 4000000 in
set_option maxRecDepth 100000 in
theorem kX9_layLines_17 {G : mm_G} {A : Nat → Prop} {ini : Bool}  {R : mm_M}  (a0 : Nat) (x1 : Int32) (y0 : Int32) (σ : mm_M) (hf : fX9_layLines_17  a0 x1 y0 σ = some R) : mm_J cd_Y G RX9 cX9_layLines 9 none ini rmX9_layLines A (mm_QF cd_Y G A (mm_Pv R) rmX9_layLines.cells rmX9_layLines.slots) 17 [(0, .ref a0), (1, .int x1)] [.int y0] σ 0 0 := by
  unfold fX9_layLines_17 at hf
  refine mm_istore_n (L' := [(2, .int y0), (0, .ref a0), (1, .int x1)]) dX9_layLines_17 rfl (by decide) rfl ?_
  refine mm_iload_n (j := 2) dX9_layLines_18 rfl rfl ?_
  refine mm_iconst (v := 4) dX9_layLines_19 (by decide) ?_
  refine mm_icmp_ge (tgt := 28) dX9_layLines_20 (by decide) (fun c3 => ?_) (fun c3 => ?_)
  · rw [if_pos c3] at hf
    refine mm_bipush (v := 24) dX9_layLines_28 (by decide) ?_
    refine mm_istore_n (L' := [(3, .int 24), (2, .int y0), (0, .ref a0), (1, .int x1)]) dX9_layLines_30 rfl (by decide) rfl ?_
    refine mm_iconst (v := 1) dX9_layLines_31 (by decide) ?_
    refine mm_istore (L' := [(4, .int 1), (3, .int 24), (2, .int y0), (0, .ref a0), (1, .int x1)]) dX9_layLines_32 (by decide) rfl ?_
    refine mm_sub [3, 4, 2, 1, 0] rfl ?_
    exact kX9_layLines_34  a0 x1 y0 24 1 σ hf
  · rw [if_neg c3] at hf
    refine mm_bipush (v := 15) dX9_layLines_23 (by decide) ?_
    refine mm_goto (tgt := 30) dX9_layLines_25 (by decide) ?_
    refine mm_istore_n (L' := [(3, .int 15), (2, .int y0), (0, .ref a0), (1, .int x1)]) dX9_layLines_30 rfl (by decide) rfl ?_
    refine mm_iconst (v := 1) dX9_layLines_31 (by decide) ?_
    refine mm_istore (L' := [(4, .int 1), (3, .int 15), (2, .int y0), (0, .ref a0), (1, .int x1)]) dX9_layLines_32 (by decide) rfl ?_
    refine mm_sub [3, 4, 2, 1, 0] rfl ?_
    exact kX9_layLines_34  a0 x1 y0 15 1 σ hf
set_option maxHeartbeats 4000000 in
set_option maxRecDepth 100000 in
theorem kX9_layLines {G : mm_G} {A : Nat → Prop} (p0 : Nat) (p1 : Int32) {σ : mm_M} {R : mm_M} (hf : fX9_layLines p0 p1 σ = some R) : mm_C cd_Y G yX9_layLines cX9_layLines 9 none rmX9_layLines A [.ref p0, .int p1] σ (mm_Pv R) := by
  refine mm_C.of (by decide) (Nat.le_of_ble_eq_true rfl) ?_
  unfold fX9_layLines at hf
  have e0 : lv_args 0 [.ref p0, .int p1] = [(0, .ref p0), (1, .int p1)] := rfl
  rw [e0]
  generalize hini : (yX9_layLines.name == "<init>") = ini
  clear e0
  clear hini
  refine mm_aload_n (j := 0) dX9_layLines_0 rfl rfl ?_
  refine mm_iconst (v := 0) dX9_layLines_1 (by decide) ?_
  obtain ⟨hs1, hf⟩ := mm_sh_s hf
  refine mm_putI (c := 9) (k := 44) cd_ok ⟨_, _, _, rfl, by decide, rfl, Or.inl tw_838⟩ hs1 rfl rfl rfl dX9_layLines_2 ?_
  refine mm_iload_n (j := 1) dX9_layLines_5 rfl rfl ?_
  refine mm_iconst (v := 4) dX9_layLines_6 (by decide) ?_
  refine mm_icmp_ge (tgt := 15) dX9_layLines_7 (by decide) (fun c2 => ?_) (fun c2 => ?_)
  · rw [if_pos c2] at hf
    refine mm_bipush (v := 40) dX9_layLines_15 (by decide) ?_
    refine mm_sub [0, 1] rfl ?_
    exact kX9_layLines_17  p0 p1 40 (mm_wI σ p0 44 0) hf
  · rw [if_neg c2] at hf
    refine mm_bipush (v := 32) dX9_layLines_10 (by decide) ?_
    refine mm_goto (tgt := 17) dX9_layLines_12 (by decide) ?_
    refine mm_sub [0, 1] rfl ?_
    exact kX9_layLines_17  p0 p1 32 (mm_wI σ p0 44 0) hf
theorem dX9_isSame_0 : decode cX9_isSame 0 = .ok (.aload_n 0, 1) := by decide +kernel
theorem dX9_isSame_1 : decode cX9_isSame 1 = .ok (.getfield 102, 3) := by decide +kernel
theorem dX9_isSame_4 : decode cX9_isSame 4 = .ok (.iload_n 1, 1) := by decide +kernel
theorem dX9_isSame_5 : decode cX9_isSame 5 = .ok (.iaload, 1) := by decide +kernel
theorem dX9_isSame_6 : decode cX9_isSame 6 = .ok (.aload_n 0, 1) := by decide +kernel
theorem dX9_isSame_7 : decode cX9_isSame 7 = .ok (.getfield 244, 3) := by decide +kernel
theorem dX9_isSame_10 : decode cX9_isSame 10 = .ok (.if_icmp .ne 7, 3) := by decide +kernel
theorem dX9_isSame_13 : decode cX9_isSame 13 = .ok (.iconst 1, 1) := by decide +kernel
theorem dX9_isSame_14 : decode cX9_isSame 14 = .ok (.goto 4, 3) := by decide +kernel
theorem dX9_isSame_17 : decode cX9_isSame 17 = .ok (.iconst 0, 1) := by decide +kernel
theorem dX9_isSame_18 : decode cX9_isSame 18 = .ok (.istore_n 2, 1) := by decide +kernel
theorem dX9_isSame_19 : decode cX9_isSame 19 = .ok (.iconst 0, 1) := by decide +kernel
theorem dX9_isSame_20 : decode cX9_isSame 20 = .ok (.istore_n 3, 1) := by decide +kernel
theorem dX9_isSame_21 : decode cX9_isSame 21 = .ok (.iload_n 3, 1) := by decide +kernel
theorem dX9_isSame_22 : decode cX9_isSame 22 = .ok (.aload_n 0, 1) := by decide +kernel
theorem dX9_isSame_23 : decode cX9_isSame 23 = .ok (.getfield 244, 3) := by decide +kernel
theorem dX9_isSame_26 : decode cX9_isSame 26 = .ok (.if_icmp .ge 40, 3) := by decide +kernel
theorem dX9_isSame_29 : decode cX9_isSame 29 = .ok (.iload_n 2, 1) := by decide +kernel
theorem dX9_isSame_30 : decode cX9_isSame 30 = .ok (.ifCond .eq 36, 3) := by decide +kernel
theorem dX9_isSame_33 : decode cX9_isSame 33 = .ok (.aload_n 0, 1) := by decide +kernel
theorem dX9_isSame_34 : decode cX9_isSame 34 = .ok (.getfield 105, 3) := by decide +kernel
theorem dX9_isSame_37 : decode cX9_isSame 37 = .ok (.sipush 400, 3) := by decide +kernel
theorem dX9_isSame_40 : decode cX9_isSame 40 = .ok (.iload_n 1, 1) := by decide +kernel
theorem dX9_isSame_41 : decode cX9_isSame 41 = .ok (.imul, 1) := by decide +kernel
theorem dX9_isSame_42 : decode cX9_isSame 42 = .ok (.iload_n 3, 1) := by decide +kernel
theorem dX9_isSame_43 : decode cX9_isSame 43 = .ok (.iadd, 1) := by decide +kernel
theorem dX9_isSame_44 : decode cX9_isSame 44 = .ok (.baload, 1) := by decide +kernel
theorem dX9_isSame_45 : decode cX9_isSame 45 = .ok (.aload_n 0, 1) := by decide +kernel
theorem dX9_isSame_46 : decode cX9_isSame 46 = .ok (.getfield 117, 3) := by decide +kernel
theorem dX9_isSame_49 : decode cX9_isSame 49 = .ok (.iload_n 3, 1) := by decide +kernel
theorem dX9_isSame_50 : decode cX9_isSame 50 = .ok (.baload, 1) := by decide +kernel
theorem dX9_isSame_51 : decode cX9_isSame 51 = .ok (.if_icmp .ne 7, 3) := by decide +kernel
theorem dX9_isSame_54 : decode cX9_isSame 54 = .ok (.iconst 1, 1) := by decide +kernel
theorem dX9_isSame_55 : decode cX9_isSame 55 = .ok (.goto 4, 3) := by decide +kernel
theorem dX9_isSame_58 : decode cX9_isSame 58 = .ok (.iconst 0, 1) := by decide +kernel
theorem dX9_isSame_59 : decode cX9_isSame 59 = .ok (.istore_n 2, 1) := by decide +kernel
theorem dX9_isSame_60 : decode cX9_isSame 60 = .ok (.iinc 3 1, 3) := by decide +kernel
theorem dX9_isSame_63 : decode cX9_isSame 63 = .ok (.goto (-42), 3) := by decide +kernel
theorem dX9_isSame_66 : decode cX9_isSame 66 = .ok (.iload_n 2, 1) := by decide +kernel
theorem dX9_isSame_67 : decode cX9_isSame 67 = .ok (.ireturn, 1) := by decide +kernel
theorem nmX9_isSame : mm_nm yX9_isSame 1 := ⟨by decide, by decide, by decide +kernel⟩
theorem cdX9_isSame : mm_cd cd_Y yX9_isSame cX9_isSame 4 (some .boolean) := ⟨tw_1125, tw_8⟩
abbrev rmX9_isSame : Room := { frames := 0, cells := 0, slots := 0, locals := 0 }
def fX9_isSame_21  : Nat → Nat → Int32 → Int32 → Int32 → mm_M → Option (Int32 × mm_M)
  | 0 => fun _ _ _ _ _ => none
  | n + 1 => fun a0 x1 x2 x3 σ =>
  mm_sh σ a0 (.inl 9) ((if (mm_I σ a0 44) ≤ x3 then mm_ck (x2 = 0 ∨ x2 = 1) (some (x2, σ)) else (if x2 = 0 then mm_ck (x2 = 0 ∨ x2 = 1) (some (x2, σ)) else mm_on (mm_R σ a0 40) fun q11 => mm_ar σ q11 2 fun n12 => mm_ib ((400 * x1) + x3) n12 (mm_on (mm_R σ a0 45) fun q14 => mm_ar σ q14 2 fun n15 => mm_ib x3 n15 ((if (mm_I σ q11 ((400 * x1) + x3).toNatClampNeg) = (mm_I σ q14 x3.toNatClampNeg) then (fX9_isSame_21  n a0 x1 1 (x3 + 1) σ) else (fX9_isSame_21  n a0 x1 0 (x3 + 1) σ)))))))
def fX9_isSame (p0 : Nat) (p1 : Int32) (σ : mm_M) : Option (Int32 × mm_M) :=
  mm_sh σ p0 (.inl 9) (mm_on (mm_R σ p0 39) fun q2 => mm_ar σ q2 0 fun n3 => mm_ib p1 n3 ((if (mm_I σ q2 p1.toNatClampNeg) = (mm_I σ p0 44) then (fX9_isSame_21  mm_fuel p0 p1 1 0 σ) else (fX9_isSame_21  mm_fuel p0 p1 0 0 σ))))
set_option maxHeartbeats 4000000 in
set_option maxRecDepth 100000 in
theorem kX9_isSame_21 {G : mm_G} {A : Nat → Prop} {ini : Bool}  {R : (Int32 × mm_M)}  : ∀ (a0 : Nat) (x1 : Int32) (x2 : Int32) (x3 : Int32) (σ : mm_M), fX9_isSame_21  mm_fuel a0 x1 x2 x3 σ = some R → mm_J cd_Y G RX9 cX9_isSame 4 (some .boolean) ini rmX9_isSame A (mm_QF cd_Y G A (mm_Pi R.1 R.2) rmX9_isSame.cells rmX9_isSame.slots) 21 [(0, .ref a0), (1, .int x1), (2, .int x2), (3, .int x3)] [] σ 0 0 := by
  generalize mm_fuel = n
  induction n with
  | zero => intro a0 x1 x2 x3 σ hf; cases hf
  | succ n ih =>
    intro a0 x1 x2 x3 σ hf
    unfold fX9_isSame_21 at hf
    refine mm_iload_n (j := 3) dX9_isSame_21 rfl rfl ?_
    refine mm_aload_n (j := 0) dX9_isSame_22 rfl rfl ?_
    obtain ⟨hs6, hf⟩ := mm_sh_s hf
    refine mm_get (c := 9) (k := 44) (v := .int (mm_I σ a0 44)) cd_ok ⟨_, _, _, rfl, by decide, Or.inl tw_838⟩ hs6 rfl dX9_isSame_23 ?_
    refine mm_icmp_ge (tgt := 66) dX9_isSame_26 (by decide) (fun c7 => ?_) (fun c7 => ?_)
    · rw [if_pos c7] at hf
      refine mm_iload_n (j := 2) dX9_isSame_66 rfl rfl ?_
      obtain ⟨hz8, hf⟩ := mm_ck_s hf
      cases hf
      exact mm_iret rfl (mm_z01 hz8) dX9_isSame_67 ⟨rfl, rfl⟩
    · rw [if_neg c7] at hf
      refine mm_iload_n (j := 2) dX9_isSame_29 rfl rfl ?_
      refine mm_if_eq (tgt := 66) dX9_isSame_30 (by decide) (fun c9 => ?_) (fun c9 => ?_)
      · rw [if_pos c9] at hf
        refine mm_iload_n (j := 2) dX9_isSame_66 rfl rfl ?_
        obtain ⟨hz10, hf⟩ := mm_ck_s hf
        cases hf
        exact mm_iret rfl (mm_z01 hz10) dX9_isSame_67 ⟨rfl, rfl⟩
      · rw [if_neg c9] at hf
        refine mm_aload_n (j := 0) dX9_isSame_33 rfl rfl ?_
        refine mm_get (c := 9) (k := 40) (v := va_rf (mm_R σ a0 40)) cd_ok ⟨_, _, _, rfl, by decide, Or.inl tw_834⟩ hs6 rfl dX9_isSame_34 ?_
        refine mm_sipush (v := 400) dX9_isSame_37 (by decide) ?_
        refine mm_iload_n (j := 1) dX9_isSame_40 rfl rfl ?_
        refine mm_imul dX9_isSame_41 ?_
        refine mm_iload_n (j := 3) dX9_isSame_42 rfl rfl ?_
        refine mm_iadd dX9_isSame_43 ?_
        obtain ⟨q11, hq11, hf⟩ := mm_on_s hf
        rw [hq11, mm_rf_some]
        obtain ⟨n12, hn12, hf⟩ := mm_ar_s hf
        obtain ⟨hi13, hf⟩ := mm_ib_s hf
        refine mm_bald hn12 rfl hi13 dX9_isSame_44 ?_
        refine mm_aload_n (j := 0) dX9_isSame_45 rfl rfl ?_
        refine mm_get (c := 9) (k := 45) (v := va_rf (mm_R σ a0 45)) cd_ok ⟨_, _, _, rfl, by decide, Or.inl tw_839⟩ hs6 rfl dX9_isSame_46 ?_
        refine mm_iload_n (j := 3) dX9_isSame_49 rfl rfl ?_
        obtain ⟨q14, hq14, hf⟩ := mm_on_s hf
        rw [hq14, mm_rf_some]
        obtain ⟨n15, hn15, hf⟩ := mm_ar_s hf
        obtain ⟨hi16, hf⟩ := mm_ib_s hf
        refine mm_bald hn15 rfl hi16 dX9_isSame_50 ?_
        refine mm_icmp_ne (tgt := 58) dX9_isSame_51 (by decide) (fun c17 => ?_) (fun c17 => ?_)
        · rw [if_neg c17] at hf
          refine mm_iconst (v := 0) dX9_isSame_58 (by decide) ?_
          refine mm_istore_n (L' := [(2, .int 0), (0, .ref a0), (1, .int x1), (3, .int x3)]) dX9_isSame_59 rfl (by decide) rfl ?_
          refine mm_iinc (j := 3) (L' := [(3, .int (x3 + 1)), (2, .int 0), (0, .ref a0), (1, .int x1)]) dX9_isSame_60 rfl rfl (by decide) rfl ?_
          refine mm_goto (tgt := 21) dX9_isSame_63 (by decide) ?_
          refine mm_sub [2, 3, 1, 0] rfl ?_
          exact ih a0 x1 0 (x3 + 1) σ hf
        · rw [if_pos c17] at hf
          refine mm_iconst (v := 1) dX9_isSame_54 (by decide) ?_
          refine mm_goto (tgt := 59) dX9_isSame_55 (by decide) ?_
          refine mm_istore_n (L' := [(2, .int 1), (0, .ref a0), (1, .int x1), (3, .int x3)]) dX9_isSame_59 rfl (by decide) rfl ?_
          refine mm_iinc (j := 3) (L' := [(3, .int (x3 + 1)), (2, .int 1), (0, .ref a0), (1, .int x1)]) dX9_isSame_60 rfl rfl (by decide) rfl ?_
          refine mm_goto (tgt := 21) dX9_isSame_63 (by decide) ?_
          refine mm_sub [2, 3, 1, 0] rfl ?_
          exact ih a0 x1 1 (x3 + 1) σ hf
set_option maxHeartbeats 4000000 in
set_option maxRecDepth 100000 in
theorem kX9_isSame {G : mm_G} {A : Nat → Prop} (p0 : Nat) (p1 : Int32) {σ : mm_M} {R : (Int32 × mm_M)} (hf : fX9_isSame p0 p1 σ = some R) : mm_C cd_Y G yX9_isSame cX9_isSame 4 (some .boolean) rmX9_isSame A [.ref p0, .int p1] σ (mm_Pi R.1 R.2) := by
  refine mm_C.of (by decide) (Nat.le_of_ble_eq_true rfl) ?_
  unfold fX9_isSame at hf
  have e0 : lv_args 0 [.ref p0, .int p1] = [(0, .ref p0), (1, .int p1)] := rfl
  rw [e0]
  generalize hini : (yX9_isSame.name == "<init>") = ini
  clear e0
  clear hini
  refine mm_aload_n (j := 0) dX9_isSame_0 rfl rfl ?_
  obtain ⟨hs1, hf⟩ := mm_sh_s hf
  refine mm_get (c := 9) (k := 39) (v := va_rf (mm_R σ p0 39)) cd_ok ⟨_, _, _, rfl, by decide, Or.inl tw_833⟩ hs1 rfl dX9_isSame_1 ?_
  refine mm_iload_n (j := 1) dX9_isSame_4 rfl rfl ?_
  obtain ⟨q2, hq2, hf⟩ := mm_on_s hf
  rw [hq2, mm_rf_some]
  obtain ⟨n3, hn3, hf⟩ := mm_ar_s hf
  obtain ⟨hi4, hf⟩ := mm_ib_s hf
  refine mm_iald hn3 rfl hi4 dX9_isSame_5 ?_
  refine mm_aload_n (j := 0) dX9_isSame_6 rfl rfl ?_
  refine mm_get (c := 9) (k := 44) (v := .int (mm_I σ p0 44)) cd_ok ⟨_, _, _, rfl, by decide, Or.inl tw_838⟩ hs1 rfl dX9_isSame_7 ?_
  refine mm_icmp_ne (tgt := 17) dX9_isSame_10 (by decide) (fun c5 => ?_) (fun c5 => ?_)
  · rw [if_neg c5] at hf
    refine mm_iconst (v := 0) dX9_isSame_17 (by decide) ?_
    refine mm_istore_n (L' := [(2, .int 0), (0, .ref p0), (1, .int p1)]) dX9_isSame_18 rfl (by decide) rfl ?_
    refine mm_iconst (v := 0) dX9_isSame_19 (by decide) ?_
    refine mm_istore_n (L' := [(3, .int 0), (2, .int 0), (0, .ref p0), (1, .int p1)]) dX9_isSame_20 rfl (by decide) rfl ?_
    refine mm_sub [2, 3, 1, 0] rfl ?_
    exact kX9_isSame_21  p0 p1 0 0 σ hf
  · rw [if_pos c5] at hf
    refine mm_iconst (v := 1) dX9_isSame_13 (by decide) ?_
    refine mm_goto (tgt := 18) dX9_isSame_14 (by decide) ?_
    refine mm_istore_n (L' := [(2, .int 1), (0, .ref p0), (1, .int p1)]) dX9_isSame_18 rfl (by decide) rfl ?_
    refine mm_iconst (v := 0) dX9_isSame_19 (by decide) ?_
    refine mm_istore_n (L' := [(3, .int 0), (2, .int 1), (0, .ref p0), (1, .int p1)]) dX9_isSame_20 rfl (by decide) rfl ?_
    refine mm_sub [2, 3, 1, 0] rfl ?_
    exact kX9_isSame_21  p0 p1 1 0 σ hf
theorem dX9_tick_0 : decode cX9_tick 0 = .ok (.aload_n 0, 1) := by decide +kernel
theorem dX9_tick_1 : decode cX9_tick 1 = .ok (.iload_n 1, 1) := by decide +kernel
theorem dX9_tick_2 : decode cX9_tick 2 = .ok (.iconst 1, 1) := by decide +kernel
theorem dX9_tick_3 : decode cX9_tick 3 = .ok (.ldc 250, 2) := by decide +kernel
theorem dX9_tick_5 : decode cX9_tick 5 = .ok (.invokestatic 153, 3) := by decide +kernel
theorem dX9_tick_8 : decode cX9_tick 8 = .ok (.invokevirtual 169, 3) := by decide +kernel
theorem dX9_tick_11 : decode cX9_tick 11 = .ok (.ifCond .ne 5, 3) := by decide +kernel
theorem dX9_tick_14 : decode cX9_tick 14 = .ok (.iconst 0, 1) := by decide +kernel
theorem dX9_tick_15 : decode cX9_tick 15 = .ok (.ireturn, 1) := by decide +kernel
theorem dX9_tick_16 : decode cX9_tick 16 = .ok (.aload_n 0, 1) := by decide +kernel
theorem dX9_tick_17 : decode cX9_tick 17 = .ok (.aload_n 0, 1) := by decide +kernel
theorem dX9_tick_18 : decode cX9_tick 18 = .ok (.getfield 251, 3) := by decide +kernel
theorem dX9_tick_21 : decode cX9_tick 21 = .ok (.iload_n 1, 1) := by decide +kernel
theorem dX9_tick_22 : decode cX9_tick 22 = .ok (.iadd, 1) := by decide +kernel
theorem dX9_tick_23 : decode cX9_tick 23 = .ok (.putfield 251, 3) := by decide +kernel
theorem dX9_tick_26 : decode cX9_tick 26 = .ok (.iconst 0, 1) := by decide +kernel
theorem dX9_tick_27 : decode cX9_tick 27 = .ok (.istore_n 2, 1) := by decide +kernel
theorem dX9_tick_28 : decode cX9_tick 28 = .ok (.iload_n 2, 1) := by decide +kernel
theorem dX9_tick_29 : decode cX9_tick 29 = .ok (.iconst 5, 1) := by decide +kernel
theorem dX9_tick_30 : decode cX9_tick 30 = .ok (.if_icmp .ge 188, 3) := by decide +kernel
theorem dX9_tick_33 : decode cX9_tick 33 = .ok (.aload_n 0, 1) := by decide +kernel
theorem dX9_tick_34 : decode cX9_tick 34 = .ok (.iload_n 2, 1) := by decide +kernel
theorem dX9_tick_35 : decode cX9_tick 35 = .ok (.invokevirtual 254, 3) := by decide +kernel
theorem dX9_tick_38 : decode cX9_tick 38 = .ok (.aload_n 0, 1) := by decide +kernel
theorem dX9_tick_39 : decode cX9_tick 39 = .ok (.getfield 108, 3) := by decide +kernel
theorem dX9_tick_42 : decode cX9_tick 42 = .ok (.iload_n 2, 1) := by decide +kernel
theorem dX9_tick_43 : decode cX9_tick 43 = .ok (.iaload, 1) := by decide +kernel
theorem dX9_tick_44 : decode cX9_tick 44 = .ok (.iconst (-1), 1) := by decide +kernel
theorem dX9_tick_45 : decode cX9_tick 45 = .ok (.if_icmp .eq 38, 3) := by decide +kernel
theorem dX9_tick_48 : decode cX9_tick 48 = .ok (.aload_n 0, 1) := by decide +kernel
theorem dX9_tick_49 : decode cX9_tick 49 = .ok (.aload_n 0, 1) := by decide +kernel
theorem dX9_tick_50 : decode cX9_tick 50 = .ok (.getfield 108, 3) := by decide +kernel
theorem dX9_tick_53 : decode cX9_tick 53 = .ok (.iload_n 2, 1) := by decide +kernel
theorem dX9_tick_54 : decode cX9_tick 54 = .ok (.iaload, 1) := by decide +kernel
theorem dX9_tick_55 : decode cX9_tick 55 = .ok (.invokevirtual 257, 3) := by decide +kernel
theorem dX9_tick_58 : decode cX9_tick 58 = .ok (.ifCond .ne 25, 3) := by decide +kernel
theorem dX9_tick_61 : decode cX9_tick 61 = .ok (.aload_n 0, 1) := by decide +kernel
theorem dX9_tick_62 : decode cX9_tick 62 = .ok (.getfield 99, 3) := by decide +kernel
theorem dX9_tick_65 : decode cX9_tick 65 = .ok (.aload_n 0, 1) := by decide +kernel
theorem dX9_tick_66 : decode cX9_tick 66 = .ok (.getfield 108, 3) := by decide +kernel
theorem dX9_tick_69 : decode cX9_tick 69 = .ok (.iload_n 2, 1) := by decide +kernel
theorem dX9_tick_70 : decode cX9_tick 70 = .ok (.iaload, 1) := by decide +kernel
theorem dX9_tick_71 : decode cX9_tick 71 = .ok (.aload_n 0, 1) := by decide +kernel
theorem dX9_tick_72 : decode cX9_tick 72 = .ok (.getfield 251, 3) := by decide +kernel
theorem dX9_tick_75 : decode cX9_tick 75 = .ok (.iastore, 1) := by decide +kernel
theorem dX9_tick_76 : decode cX9_tick 76 = .ok (.aload_n 0, 1) := by decide +kernel
theorem dX9_tick_77 : decode cX9_tick 77 = .ok (.getfield 108, 3) := by decide +kernel
theorem dX9_tick_80 : decode cX9_tick 80 = .ok (.iload_n 2, 1) := by decide +kernel
theorem dX9_tick_81 : decode cX9_tick 81 = .ok (.iconst (-1), 1) := by decide +kernel
theorem dX9_tick_82 : decode cX9_tick 82 = .ok (.iastore, 1) := by decide +kernel
theorem dX9_tick_83 : decode cX9_tick 83 = .ok (.aload_n 0, 1) := by decide +kernel
theorem dX9_tick_84 : decode cX9_tick 84 = .ok (.getfield 108, 3) := by decide +kernel
theorem dX9_tick_87 : decode cX9_tick 87 = .ok (.iload_n 2, 1) := by decide +kernel
theorem dX9_tick_88 : decode cX9_tick 88 = .ok (.iaload, 1) := by decide +kernel
theorem dX9_tick_89 : decode cX9_tick 89 = .ok (.iconst (-1), 1) := by decide +kernel
theorem dX9_tick_90 : decode cX9_tick 90 = .ok (.if_icmp .ne 122, 3) := by decide +kernel
theorem dX9_tick_93 : decode cX9_tick 93 = .ok (.aload_n 0, 1) := by decide +kernel
theorem dX9_tick_94 : decode cX9_tick 94 = .ok (.getfield 244, 3) := by decide +kernel
theorem dX9_tick_97 : decode cX9_tick 97 = .ok (.ifCond .le 115, 3) := by decide +kernel
theorem dX9_tick_100 : decode cX9_tick 100 = .ok (.aload_n 0, 1) := by decide +kernel
theorem dX9_tick_101 : decode cX9_tick 101 = .ok (.getfield 260, 3) := by decide +kernel
theorem dX9_tick_104 : decode cX9_tick 104 = .ok (.bipush 60, 2) := by decide +kernel
theorem dX9_tick_106 : decode cX9_tick 106 = .ok (.if_icmp .ge 106, 3) := by decide +kernel
theorem dX9_tick_109 : decode cX9_tick 109 = .ok (.aload_n 0, 1) := by decide +kernel
theorem dX9_tick_110 : decode cX9_tick 110 = .ok (.getfield 108, 3) := by decide +kernel
theorem dX9_tick_113 : decode cX9_tick 113 = .ok (.iload_n 2, 1) := by decide +kernel
theorem dX9_tick_114 : decode cX9_tick 114 = .ok (.aload_n 0, 1) := by decide +kernel
theorem dX9_tick_115 : decode cX9_tick 115 = .ok (.getfield 260, 3) := by decide +kernel
theorem dX9_tick_118 : decode cX9_tick 118 = .ok (.iastore, 1) := by decide +kernel
theorem dX9_tick_119 : decode cX9_tick 119 = .ok (.aload_n 0, 1) := by decide +kernel
theorem dX9_tick_120 : decode cX9_tick 120 = .ok (.getfield 93, 3) := by decide +kernel
theorem dX9_tick_123 : decode cX9_tick 123 = .ok (.aload_n 0, 1) := by decide +kernel
theorem dX9_tick_124 : decode cX9_tick 124 = .ok (.getfield 260, 3) := by decide +kernel
theorem dX9_tick_127 : decode cX9_tick 127 = .ok (.iload_n 2, 1) := by decide +kernel
theorem dX9_tick_128 : decode cX9_tick 128 = .ok (.iastore, 1) := by decide +kernel
theorem dX9_tick_129 : decode cX9_tick 129 = .ok (.aload_n 0, 1) := by decide +kernel
theorem dX9_tick_130 : decode cX9_tick 130 = .ok (.getfield 96, 3) := by decide +kernel
theorem dX9_tick_133 : decode cX9_tick 133 = .ok (.aload_n 0, 1) := by decide +kernel
theorem dX9_tick_134 : decode cX9_tick 134 = .ok (.getfield 260, 3) := by decide +kernel
theorem dX9_tick_137 : decode cX9_tick 137 = .ok (.aload_n 0, 1) := by decide +kernel
theorem dX9_tick_138 : decode cX9_tick 138 = .ok (.getfield 251, 3) := by decide +kernel
theorem dX9_tick_141 : decode cX9_tick 141 = .ok (.iastore, 1) := by decide +kernel
theorem dX9_tick_142 : decode cX9_tick 142 = .ok (.aload_n 0, 1) := by decide +kernel
theorem dX9_tick_143 : decode cX9_tick 143 = .ok (.getfield 99, 3) := by decide +kernel
theorem dX9_tick_146 : decode cX9_tick 146 = .ok (.aload_n 0, 1) := by decide +kernel
theorem dX9_tick_147 : decode cX9_tick 147 = .ok (.getfield 260, 3) := by decide +kernel
theorem dX9_tick_150 : decode cX9_tick 150 = .ok (.iconst (-1), 1) := by decide +kernel
theorem dX9_tick_151 : decode cX9_tick 151 = .ok (.iastore, 1) := by decide +kernel
theorem dX9_tick_152 : decode cX9_tick 152 = .ok (.aload_n 0, 1) := by decide +kernel
theorem dX9_tick_153 : decode cX9_tick 153 = .ok (.getfield 102, 3) := by decide +kernel
theorem dX9_tick_156 : decode cX9_tick 156 = .ok (.aload_n 0, 1) := by decide +kernel
theorem dX9_tick_157 : decode cX9_tick 157 = .ok (.getfield 260, 3) := by decide +kernel
theorem dX9_tick_160 : decode cX9_tick 160 = .ok (.aload_n 0, 1) := by decide +kernel
theorem dX9_tick_161 : decode cX9_tick 161 = .ok (.getfield 244, 3) := by decide +kernel
theorem dX9_tick_164 : decode cX9_tick 164 = .ok (.iastore, 1) := by decide +kernel
theorem dX9_tick_165 : decode cX9_tick 165 = .ok (.iconst 0, 1) := by decide +kernel
theorem dX9_tick_166 : decode cX9_tick 166 = .ok (.istore_n 3, 1) := by decide +kernel
theorem dX9_tick_167 : decode cX9_tick 167 = .ok (.iload_n 3, 1) := by decide +kernel
theorem dX9_tick_168 : decode cX9_tick 168 = .ok (.aload_n 0, 1) := by decide +kernel
theorem dX9_tick_169 : decode cX9_tick 169 = .ok (.getfield 244, 3) := by decide +kernel
theorem dX9_tick_172 : decode cX9_tick 172 = .ok (.if_icmp .ge 30, 3) := by decide +kernel
theorem dX9_tick_175 : decode cX9_tick 175 = .ok (.aload_n 0, 1) := by decide +kernel
theorem dX9_tick_176 : decode cX9_tick 176 = .ok (.getfield 105, 3) := by decide +kernel
theorem dX9_tick_179 : decode cX9_tick 179 = .ok (.sipush 400, 3) := by decide +kernel
theorem dX9_tick_182 : decode cX9_tick 182 = .ok (.aload_n 0, 1) := by decide +kernel
theorem dX9_tick_183 : decode cX9_tick 183 = .ok (.getfield 260, 3) := by decide +kernel
theorem dX9_tick_186 : decode cX9_tick 186 = .ok (.imul, 1) := by decide +kernel
theorem dX9_tick_187 : decode cX9_tick 187 = .ok (.iload_n 3, 1) := by decide +kernel
theorem dX9_tick_188 : decode cX9_tick 188 = .ok (.iadd, 1) := by decide +kernel
theorem dX9_tick_189 : decode cX9_tick 189 = .ok (.aload_n 0, 1) := by decide +kernel
theorem dX9_tick_190 : decode cX9_tick 190 = .ok (.getfield 117, 3) := by decide +kernel
theorem dX9_tick_193 : decode cX9_tick 193 = .ok (.iload_n 3, 1) := by decide +kernel
theorem dX9_tick_194 : decode cX9_tick 194 = .ok (.baload, 1) := by decide +kernel
theorem dX9_tick_195 : decode cX9_tick 195 = .ok (.bastore, 1) := by decide +kernel
theorem dX9_tick_196 : decode cX9_tick 196 = .ok (.iinc 3 1, 3) := by decide +kernel
theorem dX9_tick_199 : decode cX9_tick 199 = .ok (.goto (-32), 3) := by decide +kernel
theorem dX9_tick_202 : decode cX9_tick 202 = .ok (.aload_n 0, 1) := by decide +kernel
theorem dX9_tick_203 : decode cX9_tick 203 = .ok (.dup, 1) := by decide +kernel
theorem dX9_tick_204 : decode cX9_tick 204 = .ok (.getfield 260, 3) := by decide +kernel
theorem dX9_tick_207 : decode cX9_tick 207 = .ok (.iconst 1, 1) := by decide +kernel
theorem dX9_tick_208 : decode cX9_tick 208 = .ok (.iadd, 1) := by decide +kernel
theorem dX9_tick_209 : decode cX9_tick 209 = .ok (.putfield 260, 3) := by decide +kernel
theorem dX9_tick_212 : decode cX9_tick 212 = .ok (.iinc 2 1, 3) := by decide +kernel
theorem dX9_tick_215 : decode cX9_tick 215 = .ok (.goto (-187), 3) := by decide +kernel
theorem dX9_tick_218 : decode cX9_tick 218 = .ok (.aload_n 0, 1) := by decide +kernel
theorem dX9_tick_219 : decode cX9_tick 219 = .ok (.getfield 251, 3) := by decide +kernel
theorem dX9_tick_222 : decode cX9_tick 222 = .ok (.ireturn, 1) := by decide +kernel
theorem nmX9_tick : mm_nm yX9_tick 1 := ⟨by decide, by decide, by decide +kernel⟩
theorem cdX9_tick : mm_cd cd_Y yX9_tick cX9_tick 4 (some .int) := ⟨tw_1112, tw_8⟩
abbrev rmX9_tick : Room := { frames := 3, cells := 0, slots := 0, locals := 76 }
def fX9_tick_167 (k28 : Nat → Int32 → Int32 → mm_M → Option (Int32 × mm_M)) : Nat → Nat → Int32 → Int32 → Int32 → mm_M → Option (Int32 × mm_M)
  | 0 => fun _ _ _ _ _ => none
  | n + 1 => fun a0 x1 x2 x3 σ =>
  mm_sh σ a0 (.inl 9) ((if (mm_I σ a0 44) ≤ x3 then (k28 a0 x1 (x2 + 1) (mm_wI σ a0 35 ((mm_I σ a0 35) + 1))) else mm_on (mm_R σ a0 45) fun q38 => mm_ar σ q38 2 fun n39 => mm_ib x3 n39 (mm_on (mm_R σ a0 40) fun q41 => mm_ar σ q41 2 fun n42 => mm_ib ((400 * (mm_I σ a0 35)) + x3) n42 ((fX9_tick_167 k28 n a0 x1 x2 (x3 + 1) (mm_wI σ q41 (((400 * (mm_I σ a0 35)) + x3).toNatClampNeg) ((mm_I σ q38 x3.toNatClampNeg).toInt8.toInt32)))))))
def fX9_tick_83 (k28 : Nat → Int32 → Int32 → mm_M → Option (Int32 × mm_M)) (a0 : Nat) (x1 : Int32) (x2 : Int32) (σ : mm_M) : Option (Int32 × mm_M) :=
  mm_sh σ a0 (.inl 9) (mm_on (mm_R σ a0 41) fun q15 => mm_ar σ q15 0 fun n16 => mm_ib x2 n16 ((if (mm_I σ q15 x2.toNatClampNeg) = (-1) then (if (mm_I σ a0 44) ≤ 0 then (k28 a0 x1 (x2 + 1) σ) else (if 60 ≤ (mm_I σ a0 35) then (k28 a0 x1 (x2 + 1) σ) else mm_on (mm_R σ a0 41) fun q21 => mm_ar σ q21 0 fun n22 => mm_ib x2 n22 (mm_on (mm_R (mm_wI σ q21 (x2.toNatClampNeg) (mm_I σ a0 35)) a0 36) fun q24 => mm_ar (mm_wI σ q21 (x2.toNatClampNeg) (mm_I σ a0 35)) q24 0 fun n25 => mm_ib (mm_I (mm_wI σ q21 (x2.toNatClampNeg) (mm_I σ a0 35)) a0 35) n25 (mm_on (mm_R (mm_wI (mm_wI σ q21 (x2.toNatClampNeg) (mm_I σ a0 35)) q24 ((mm_I (mm_wI σ q21 (x2.toNatClampNeg) (mm_I σ a0 35)) a0 35).toNatClampNeg) x2) a0 37) fun q27 => mm_ar (mm_wI (mm_wI σ q21 (x2.toNatClampNeg) (mm_I σ a0 35)) q24 ((mm_I (mm_wI σ q21 (x2.toNatClampNeg) (mm_I σ a0 35)) a0 35).toNatClampNeg) x2) q27 0 fun n28 => mm_ib (mm_I (mm_wI (mm_wI σ q21 (x2.toNatClampNeg) (mm_I σ a0 35)) q24 ((mm_I (mm_wI σ q21 (x2.toNatClampNeg) (mm_I σ a0 35)) a0 35).toNatClampNeg) x2) a0 35) n28 (mm_on (mm_R (mm_wI (mm_wI (mm_wI σ q21 (x2.toNatClampNeg) (mm_I σ a0 35)) q24 ((mm_I (mm_wI σ q21 (x2.toNatClampNeg) (mm_I σ a0 35)) a0 35).toNatClampNeg) x2) q27 ((mm_I (mm_wI (mm_wI σ q21 (x2.toNatClampNeg) (mm_I σ a0 35)) q24 ((mm_I (mm_wI σ q21 (x2.toNatClampNeg) (mm_I σ a0 35)) a0 35).toNatClampNeg) x2) a0 35).toNatClampNeg) (mm_I (mm_wI (mm_wI σ q21 (x2.toNatClampNeg) (mm_I σ a0 35)) q24 ((mm_I (mm_wI σ q21 (x2.toNatClampNeg) (mm_I σ a0 35)) a0 35).toNatClampNeg) x2) a0 34)) a0 38) fun q30 => mm_ar (mm_wI (mm_wI (mm_wI σ q21 (x2.toNatClampNeg) (mm_I σ a0 35)) q24 ((mm_I (mm_wI σ q21 (x2.toNatClampNeg) (mm_I σ a0 35)) a0 35).toNatClampNeg) x2) q27 ((mm_I (mm_wI (mm_wI σ q21 (x2.toNatClampNeg) (mm_I σ a0 35)) q24 ((mm_I (mm_wI σ q21 (x2.toNatClampNeg) (mm_I σ a0 35)) a0 35).toNatClampNeg) x2) a0 35).toNatClampNeg) (mm_I (mm_wI (mm_wI σ q21 (x2.toNatClampNeg) (mm_I σ a0 35)) q24 ((mm_I (mm_wI σ q21 (x2.toNatClampNeg) (mm_I σ a0 35)) a0 35).toNatClampNeg) x2) a0 34)) q30 0 fun n31 => mm_ib (mm_I (mm_wI (mm_wI (mm_wI σ q21 (x2.toNatClampNeg) (mm_I σ a0 35)) q24 ((mm_I (mm_wI σ q21 (x2.toNatClampNeg) (mm_I σ a0 35)) a0 35).toNatClampNeg) x2) q27 ((mm_I (mm_wI (mm_wI σ q21 (x2.toNatClampNeg) (mm_I σ a0 35)) q24 ((mm_I (mm_wI σ q21 (x2.toNatClampNeg) (mm_I σ a0 35)) a0 35).toNatClampNeg) x2) a0 35).toNatClampNeg) (mm_I (mm_wI (mm_wI σ q21 (x2.toNatClampNeg) (mm_I σ a0 35)) q24 ((mm_I (mm_wI σ q21 (x2.toNatClampNeg) (mm_I σ a0 35)) a0 35).toNatClampNeg) x2) a0 34)) a0 35) n31 (mm_on (mm_R (mm_wI (mm_wI (mm_wI (mm_wI σ q21 (x2.toNatClampNeg) (mm_I σ a0 35)) q24 ((mm_I (mm_wI σ q21 (x2.toNatClampNeg) (mm_I σ a0 35)) a0 35).toNatClampNeg) x2) q27 ((mm_I (mm_wI (mm_wI σ q21 (x2.toNatClampNeg) (mm_I σ a0 35)) q24 ((mm_I (mm_wI σ q21 (x2.toNatClampNeg) (mm_I σ a0 35)) a0 35).toNatClampNeg) x2) a0 35).toNatClampNeg) (mm_I (mm_wI (mm_wI σ q21 (x2.toNatClampNeg) (mm_I σ a0 35)) q24 ((mm_I (mm_wI σ q21 (x2.toNatClampNeg) (mm_I σ a0 35)) a0 35).toNatClampNeg) x2) a0 34)) q30 ((mm_I (mm_wI (mm_wI (mm_wI σ q21 (x2.toNatClampNeg) (mm_I σ a0 35)) q24 ((mm_I (mm_wI σ q21 (x2.toNatClampNeg) (mm_I σ a0 35)) a0 35).toNatClampNeg) x2) q27 ((mm_I (mm_wI (mm_wI σ q21 (x2.toNatClampNeg) (mm_I σ a0 35)) q24 ((mm_I (mm_wI σ q21 (x2.toNatClampNeg) (mm_I σ a0 35)) a0 35).toNatClampNeg) x2) a0 35).toNatClampNeg) (mm_I (mm_wI (mm_wI σ q21 (x2.toNatClampNeg) (mm_I σ a0 35)) q24 ((mm_I (mm_wI σ q21 (x2.toNatClampNeg) (mm_I σ a0 35)) a0 35).toNatClampNeg) x2) a0 34)) a0 35).toNatClampNeg) (-1)) a0 39) fun q33 => mm_ar (mm_wI (mm_wI (mm_wI (mm_wI σ q21 (x2.toNatClampNeg) (mm_I σ a0 35)) q24 ((mm_I (mm_wI σ q21 (x2.toNatClampNeg) (mm_I σ a0 35)) a0 35).toNatClampNeg) x2) q27 ((mm_I (mm_wI (mm_wI σ q21 (x2.toNatClampNeg) (mm_I σ a0 35)) q24 ((mm_I (mm_wI σ q21 (x2.toNatClampNeg) (mm_I σ a0 35)) a0 35).toNatClampNeg) x2) a0 35).toNatClampNeg) (mm_I (mm_wI (mm_wI σ q21 (x2.toNatClampNeg) (mm_I σ a0 35)) q24 ((mm_I (mm_wI σ q21 (x2.toNatClampNeg) (mm_I σ a0 35)) a0 35).toNatClampNeg) x2) a0 34)) q30 ((mm_I (mm_wI (mm_wI (mm_wI σ q21 (x2.toNatClampNeg) (mm_I σ a0 35)) q24 ((mm_I (mm_wI σ q21 (x2.toNatClampNeg) (mm_I σ a0 35)) a0 35).toNatClampNeg) x2) q27 ((mm_I (mm_wI (mm_wI σ q21 (x2.toNatClampNeg) (mm_I σ a0 35)) q24 ((mm_I (mm_wI σ q21 (x2.toNatClampNeg) (mm_I σ a0 35)) a0 35).toNatClampNeg) x2) a0 35).toNatClampNeg) (mm_I (mm_wI (mm_wI σ q21 (x2.toNatClampNeg) (mm_I σ a0 35)) q24 ((mm_I (mm_wI σ q21 (x2.toNatClampNeg) (mm_I σ a0 35)) a0 35).toNatClampNeg) x2) a0 34)) a0 35).toNatClampNeg) (-1)) q33 0 fun n34 => mm_ib (mm_I (mm_wI (mm_wI (mm_wI (mm_wI σ q21 (x2.toNatClampNeg) (mm_I σ a0 35)) q24 ((mm_I (mm_wI σ q21 (x2.toNatClampNeg) (mm_I σ a0 35)) a0 35).toNatClampNeg) x2) q27 ((mm_I (mm_wI (mm_wI σ q21 (x2.toNatClampNeg) (mm_I σ a0 35)) q24 ((mm_I (mm_wI σ q21 (x2.toNatClampNeg) (mm_I σ a0 35)) a0 35).toNatClampNeg) x2) a0 35).toNatClampNeg) (mm_I (mm_wI (mm_wI σ q21 (x2.toNatClampNeg) (mm_I σ a0 35)) q24 ((mm_I (mm_wI σ q21 (x2.toNatClampNeg) (mm_I σ a0 35)) a0 35).toNatClampNeg) x2) a0 34)) q30 ((mm_I (mm_wI (mm_wI (mm_wI σ q21 (x2.toNatClampNeg) (mm_I σ a0 35)) q24 ((mm_I (mm_wI σ q21 (x2.toNatClampNeg) (mm_I σ a0 35)) a0 35).toNatClampNeg) x2) q27 ((mm_I (mm_wI (mm_wI σ q21 (x2.toNatClampNeg) (mm_I σ a0 35)) q24 ((mm_I (mm_wI σ q21 (x2.toNatClampNeg) (mm_I σ a0 35)) a0 35).toNatClampNeg) x2) a0 35).toNatClampNeg) (mm_I (mm_wI (mm_wI σ q21 (x2.toNatClampNeg) (mm_I σ a0 35)) q24 ((mm_I (mm_wI σ q21 (x2.toNatClampNeg) (mm_I σ a0 35)) a0 35).toNatClampNeg) x2) a0 34)) a0 35).toNatClampNeg) (-1)) a0 35) n34 ((fX9_tick_167 k28 mm_fuel a0 x1 x2 0 (mm_wI (mm_wI (mm_wI (mm_wI (mm_wI σ q21 (x2.toNatClampNeg) (mm_I σ a0 35)) q24 ((mm_I (mm_wI σ q21 (x2.toNatClampNeg) (mm_I σ a0 35)) a0 35).toNatClampNeg) x2) q27 ((mm_I (mm_wI (mm_wI σ q21 (x2.toNatClampNeg) (mm_I σ a0 35)) q24 ((mm_I (mm_wI σ q21 (x2.toNatClampNeg) (mm_I σ a0 35)) a0 35).toNatClampNeg) x2) a0 35).toNatClampNeg) (mm_I (mm_wI (mm_wI σ q21 (x2.toNatClampNeg) (mm_I σ a0 35)) q24 ((mm_I (mm_wI σ q21 (x2.toNatClampNeg) (mm_I σ a0 35)) a0 35).toNatClampNeg) x2) a0 34)) q30 ((mm_I (mm_wI (mm_wI (mm_wI σ q21 (x2.toNatClampNeg) (mm_I σ a0 35)) q24 ((mm_I (mm_wI σ q21 (x2.toNatClampNeg) (mm_I σ a0 35)) a0 35).toNatClampNeg) x2) q27 ((mm_I (mm_wI (mm_wI σ q21 (x2.toNatClampNeg) (mm_I σ a0 35)) q24 ((mm_I (mm_wI σ q21 (x2.toNatClampNeg) (mm_I σ a0 35)) a0 35).toNatClampNeg) x2) a0 35).toNatClampNeg) (mm_I (mm_wI (mm_wI σ q21 (x2.toNatClampNeg) (mm_I σ a0 35)) q24 ((mm_I (mm_wI σ q21 (x2.toNatClampNeg) (mm_I σ a0 35)) a0 35).toNatClampNeg) x2) a0 34)) a0 35).toNatClampNeg) (-1)) q33 ((mm_I (mm_wI (mm_wI (mm_wI (mm_wI σ q21 (x2.toNatClampNeg) (mm_I σ a0 35)) q24 ((mm_I (mm_wI σ q21 (x2.toNatClampNeg) (mm_I σ a0 35)) a0 35).toNatClampNeg) x2) q27 ((mm_I (mm_wI (mm_wI σ q21 (x2.toNatClampNeg) (mm_I σ a0 35)) q24 ((mm_I (mm_wI σ q21 (x2.toNatClampNeg) (mm_I σ a0 35)) a0 35).toNatClampNeg) x2) a0 35).toNatClampNeg) (mm_I (mm_wI (mm_wI σ q21 (x2.toNatClampNeg) (mm_I σ a0 35)) q24 ((mm_I (mm_wI σ q21 (x2.toNatClampNeg) (mm_I σ a0 35)) a0 35).toNatClampNeg) x2) a0 34)) q30 ((mm_I (mm_wI (mm_wI (mm_wI σ q21 (x2.toNatClampNeg) (mm_I σ a0 35)) q24 ((mm_I (mm_wI σ q21 (x2.toNatClampNeg) (mm_I σ a0 35)) a0 35).toNatClampNeg) x2) q27 ((mm_I (mm_wI (mm_wI σ q21 (x2.toNatClampNeg) (mm_I σ a0 35)) q24 ((mm_I (mm_wI σ q21 (x2.toNatClampNeg) (mm_I σ a0 35)) a0 35).toNatClampNeg) x2) a0 35).toNatClampNeg) (mm_I (mm_wI (mm_wI σ q21 (x2.toNatClampNeg) (mm_I σ a0 35)) q24 ((mm_I (mm_wI σ q21 (x2.toNatClampNeg) (mm_I σ a0 35)) a0 35).toNatClampNeg) x2) a0 34)) a0 35).toNatClampNeg) (-1)) a0 35).toNatClampNeg) (mm_I (mm_wI (mm_wI (mm_wI (mm_wI σ q21 (x2.toNatClampNeg) (mm_I σ a0 35)) q24 ((mm_I (mm_wI σ q21 (x2.toNatClampNeg) (mm_I σ a0 35)) a0 35).toNatClampNeg) x2) q27 ((mm_I (mm_wI (mm_wI σ q21 (x2.toNatClampNeg) (mm_I σ a0 35)) q24 ((mm_I (mm_wI σ q21 (x2.toNatClampNeg) (mm_I σ a0 35)) a0 35).toNatClampNeg) x2) a0 35).toNatClampNeg) (mm_I (mm_wI (mm_wI σ q21 (x2.toNatClampNeg) (mm_I σ a0 35)) q24 ((mm_I (mm_wI σ q21 (x2.toNatClampNeg) (mm_I σ a0 35)) a0 35).toNatClampNeg) x2) a0 34)) q30 ((mm_I (mm_wI (mm_wI (mm_wI σ q21 (x2.toNatClampNeg) (mm_I σ a0 35)) q24 ((mm_I (mm_wI σ q21 (x2.toNatClampNeg) (mm_I σ a0 35)) a0 35).toNatClampNeg) x2) q27 ((mm_I (mm_wI (mm_wI σ q21 (x2.toNatClampNeg) (mm_I σ a0 35)) q24 ((mm_I (mm_wI σ q21 (x2.toNatClampNeg) (mm_I σ a0 35)) a0 35).toNatClampNeg) x2) a0 35).toNatClampNeg) (mm_I (mm_wI (mm_wI σ q21 (x2.toNatClampNeg) (mm_I σ a0 35)) q24 ((mm_I (mm_wI σ q21 (x2.toNatClampNeg) (mm_I σ a0 35)) a0 35).toNatClampNeg) x2) a0 34)) a0 35).toNatClampNeg) (-1)) a0 44)))))))))) else (k28 a0 x1 (x2 + 1) σ))))
def fX9_tick_28  : Nat → Nat → Int32 → Int32 → mm_M → Option (Int32 × mm_M)
  | 0 => fun _ _ _ _ => none
  | n + 1 => fun a0 x1 x2 σ =>
  (if 5 ≤ x2 then mm_sh σ a0 (.inl 9) (some (mm_I σ a0 34, σ)) else mm_sh σ a0 (.inl 9) (mm_on (fX9_layLines a0 x2 σ) fun q8 => mm_sh q8 a0 (.inl 9) (mm_on (mm_R q8 a0 41) fun q10 => mm_ar q8 q10 0 fun n11 => mm_ib x2 n11 ((if (mm_I q8 q10 x2.toNatClampNeg) = (-1) then (fX9_tick_83 (fX9_tick_28  n) a0 x1 x2 q8) else mm_on (mm_R q8 a0 41) fun q44 => mm_ar q8 q44 0 fun n45 => mm_ib x2 n45 (mm_on (fX9_isSame a0 (mm_I q8 q44 x2.toNatClampNeg) q8) fun q47 => (if q47.1 = 0 then mm_sh q47.2 a0 (.inl 9) (mm_on (mm_R q47.2 a0 41) fun q50 => mm_ar q47.2 q50 0 fun n51 => mm_ib x2 n51 (mm_on (mm_R q47.2 a0 38) fun q53 => mm_ar q47.2 q53 0 fun n54 => mm_ib (mm_I q47.2 q50 x2.toNatClampNeg) n54 (mm_on (mm_R (mm_wI q47.2 q53 ((mm_I q47.2 q50 x2.toNatClampNeg).toNatClampNeg) (mm_I q47.2 a0 34)) a0 41) fun q56 => mm_ar (mm_wI q47.2 q53 ((mm_I q47.2 q50 x2.toNatClampNeg).toNatClampNeg) (mm_I q47.2 a0 34)) q56 0 fun n57 => mm_ib x2 n57 ((fX9_tick_83 (fX9_tick_28  n) a0 x1 x2 (mm_wI (mm_wI q47.2 q53 ((mm_I q47.2 q50 x2.toNatClampNeg).toNatClampNeg) (mm_I q47.2 a0 34)) q56 (x2.toNatClampNeg) (-1))))))) else (fX9_tick_83 (fX9_tick_28  n) a0 x1 x2 q47.2))))))))
def fX9_tick (p0 : Nat) (p1 : Int32) (σ : mm_M) : Option (Int32 × mm_M) :=
  mm_sh σ p0 (.inl 9) (mm_on (fX9_goes p0 (fX9_in p1 1 (100000 : Int32)) σ) fun q2 => (if q2.1 = 0 then some (0, q2.2) else mm_sh q2.2 p0 (.inl 9) ((fX9_tick_28  mm_fuel p0 p1 0 (mm_wI q2.2 p0 34 ((mm_I q2.2 p0 34) + p1))))))
set_option maxHeartbeats 4000000 in
set_option maxRecDepth 100000 in
theorem kX9_tick_167 {G : mm_G} {A : Nat → Prop} {ini : Bool} {k28 : Nat → Int32 → Int32 → mm_M → Option (Int32 × mm_M)} {R : (Int32 × mm_M)} (hk28 : ∀ a0 x1 x2 σ, k28 a0 x1 x2 σ = some R → mm_J cd_Y G RX9 cX9_tick 4 (some .int) ini rmX9_tick A (mm_QF cd_Y G A (mm_Pi R.1 R.2) rmX9_tick.cells rmX9_tick.slots) 28 [(0, .ref a0), (1, .int x1), (2, .int x2)] [] σ 0 0) : ∀ (a0 : Nat) (x1 : Int32) (x2 : Int32) (x3 : Int32) (σ : mm_M), fX9_tick_167 k28 mm_fuel a0 x1 x2 x3 σ = some R → mm_J cd_Y G RX9 cX9_tick 4 (some .int) ini rmX9_tick A (mm_QF cd_Y G A (mm_Pi R.1 R.2) rmX9_tick.cells rmX9_tick.slots) 167 [(0, .ref a0), (1, .int x1), (2, .int x2), (3, .int x3)] [] σ 0 0 := by
  generalize mm_fuel = n
  induction n with
  | zero => intro a0 x1 x2 x3 σ hf; cases hf
  | succ n ih =>
    intro a0 x1 x2 x3 σ hf
    unfold fX9_tick_167 at hf
    refine mm_iload_n (j := 3) dX9_tick_167 rfl rfl ?_
    refine mm_aload_n (j := 0) dX9_tick_168 rfl rfl ?_
    obtain ⟨hs36, hf⟩ := mm_sh_s hf
    refine mm_get (c := 9) (k := 44) (v := .int (mm_I σ a0 44)) cd_ok ⟨_, _, _, rfl, by decide, Or.inl tw_838⟩ hs36 rfl dX9_tick_169 ?_
    refine mm_icmp_ge (tgt := 202) dX9_tick_172 (by decide) (fun c37 => ?_) (fun c37 => ?_)
    · rw [if_pos c37] at hf
      refine mm_aload_n (j := 0) dX9_tick_202 rfl rfl ?_
      refine mm_dup dX9_tick_203 rfl ?_
      refine mm_get (c := 9) (k := 35) (v := .int (mm_I σ a0 35)) cd_ok ⟨_, _, _, rfl, by decide, Or.inl tw_829⟩ hs36 rfl dX9_tick_204 ?_
      refine mm_iconst (v := 1) dX9_tick_207 (by decide) ?_
      refine mm_iadd dX9_tick_208 ?_
      refine mm_putI (c := 9) (k := 35) cd_ok ⟨_, _, _, rfl, by decide, rfl, Or.inl tw_829⟩ hs36 rfl rfl rfl dX9_tick_209 ?_
      refine mm_iinc (j := 2) (L' := [(2, .int (x2 + 1)), (0, .ref a0), (1, .int x1), (3, .int x3)]) dX9_tick_212 rfl rfl (by decide) rfl ?_
      refine mm_goto (tgt := 28) dX9_tick_215 (by decide) ?_
      refine mm_sub [1, 2, 0] rfl ?_
      exact hk28 a0 x1 (x2 + 1) (mm_wI σ a0 35 ((mm_I σ a0 35) + 1)) hf
    · rw [if_neg c37] at hf
      refine mm_aload_n (j := 0) dX9_tick_175 rfl rfl ?_
      refine mm_get (c := 9) (k := 40) (v := va_rf (mm_R σ a0 40)) cd_ok ⟨_, _, _, rfl, by decide, Or.inl tw_834⟩ hs36 rfl dX9_tick_176 ?_
      refine mm_sipush (v := 400) dX9_tick_179 (by decide) ?_
      refine mm_aload_n (j := 0) dX9_tick_182 rfl rfl ?_
      refine mm_get (c := 9) (k := 35) (v := .int (mm_I σ a0 35)) cd_ok ⟨_, _, _, rfl, by decide, Or.inl tw_829⟩ hs36 rfl dX9_tick_183 ?_
      refine mm_imul dX9_tick_186 ?_
      refine mm_iload_n (j := 3) dX9_tick_187 rfl rfl ?_
      refine mm_iadd dX9_tick_188 ?_
      refine mm_aload_n (j := 0) dX9_tick_189 rfl rfl ?_
      refine mm_get (c := 9) (k := 45) (v := va_rf (mm_R σ a0 45)) cd_ok ⟨_, _, _, rfl, by decide, Or.inl tw_839⟩ hs36 rfl dX9_tick_190 ?_
      refine mm_iload_n (j := 3) dX9_tick_193 rfl rfl ?_
      obtain ⟨q38, hq38, hf⟩ := mm_on_s hf
      rw [hq38, mm_rf_some]
      obtain ⟨n39, hn39, hf⟩ := mm_ar_s hf
      obtain ⟨hi40, hf⟩ := mm_ib_s hf
      refine mm_bald hn39 rfl hi40 dX9_tick_194 ?_
      obtain ⟨q41, hq41, hf⟩ := mm_on_s hf
      rw [hq41, mm_rf_some]
      obtain ⟨n42, hn42, hf⟩ := mm_ar_s hf
      obtain ⟨hi43, hf⟩ := mm_ib_s hf
      refine mm_bast hn42 rfl hi43 dX9_tick_195 ?_
      refine mm_iinc (j := 3) (L' := [(3, .int (x3 + 1)), (0, .ref a0), (1, .int x1), (2, .int x2)]) dX9_tick_196 rfl rfl (by decide) rfl ?_
      refine mm_goto (tgt := 167) dX9_tick_199 (by decide) ?_
      refine mm_sub [1, 2, 3, 0] rfl ?_
      exact ih a0 x1 x2 (x3 + 1) (mm_wI σ q41 (((400 * (mm_I σ a0 35)) + x3).toNatClampNeg) ((mm_I σ q38 x3.toNatClampNeg).toInt8.toInt32)) hf
set_option maxHeartbeats 4000000 in
set_option maxRecDepth 100000 in
theorem kX9_tick_83 {G : mm_G} {A : Nat → Prop} {ini : Bool} {k28 : Nat → Int32 → Int32 → mm_M → Option (Int32 × mm_M)} {R : (Int32 × mm_M)} (hk28 : ∀ a0 x1 x2 σ, k28 a0 x1 x2 σ = some R → mm_J cd_Y G RX9 cX9_tick 4 (some .int) ini rmX9_tick A (mm_QF cd_Y G A (mm_Pi R.1 R.2) rmX9_tick.cells rmX9_tick.slots) 28 [(0, .ref a0), (1, .int x1), (2, .int x2)] [] σ 0 0) (a0 : Nat) (x1 : Int32) (x2 : Int32) (σ : mm_M) (hf : fX9_tick_83 k28 a0 x1 x2 σ = some R) : mm_J cd_Y G RX9 cX9_tick 4 (some .int) ini rmX9_tick A (mm_QF cd_Y G A (mm_Pi R.1 R.2) rmX9_tick.cells rmX9_tick.slots) 83 [(0, .ref a0), (1, .int x1), (2, .int x2)] [] σ 0 0 := by
  unfold fX9_tick_83 at hf
  refine mm_aload_n (j := 0) dX9_tick_83 rfl rfl ?_
  obtain ⟨hs14, hf⟩ := mm_sh_s hf
  refine mm_get (c := 9) (k := 41) (v := va_rf (mm_R σ a0 41)) cd_ok ⟨_, _, _, rfl, by decide, Or.inl tw_835⟩ hs14 rfl dX9_tick_84 ?_
  refine mm_iload_n (j := 2) dX9_tick_87 rfl rfl ?_
  obtain ⟨q15, hq15, hf⟩ := mm_on_s hf
  rw [hq15, mm_rf_some]
  obtain ⟨n16, hn16, hf⟩ := mm_ar_s hf
  obtain ⟨hi17, hf⟩ := mm_ib_s hf
  refine mm_iald hn16 rfl hi17 dX9_tick_88 ?_
  refine mm_iconst (v := (-1)) dX9_tick_89 (by decide) ?_
  refine mm_icmp_ne (tgt := 212) dX9_tick_90 (by decide) (fun c18 => ?_) (fun c18 => ?_)
  · rw [if_neg c18] at hf
    refine mm_iinc (j := 2) (L' := [(2, .int (x2 + 1)), (0, .ref a0), (1, .int x1)]) dX9_tick_212 rfl rfl (by decide) rfl ?_
    refine mm_goto (tgt := 28) dX9_tick_215 (by decide) ?_
    refine mm_sub [1, 2, 0] rfl ?_
    exact hk28 a0 x1 (x2 + 1) σ hf
  · rw [if_pos c18] at hf
    refine mm_aload_n (j := 0) dX9_tick_93 rfl rfl ?_
    refine mm_get (c := 9) (k := 44) (v := .int (mm_I σ a0 44)) cd_ok ⟨_, _, _, rfl, by decide, Or.inl tw_838⟩ hs14 rfl dX9_tick_94 ?_
    refine mm_if_le (tgt := 212) dX9_tick_97 (by decide) (fun c19 => ?_) (fun c19 => ?_)
    · rw [if_pos c19] at hf
      refine mm_iinc (j := 2) (L' := [(2, .int (x2 + 1)), (0, .ref a0), (1, .int x1)]) dX9_tick_212 rfl rfl (by decide) rfl ?_
      refine mm_goto (tgt := 28) dX9_tick_215 (by decide) ?_
      refine mm_sub [1, 2, 0] rfl ?_
      exact hk28 a0 x1 (x2 + 1) σ hf
    · rw [if_neg c19] at hf
      refine mm_aload_n (j := 0) dX9_tick_100 rfl rfl ?_
      refine mm_get (c := 9) (k := 35) (v := .int (mm_I σ a0 35)) cd_ok ⟨_, _, _, rfl, by decide, Or.inl tw_829⟩ hs14 rfl dX9_tick_101 ?_
      refine mm_bipush (v := 60) dX9_tick_104 (by decide) ?_
      refine mm_icmp_ge (tgt := 212) dX9_tick_106 (by decide) (fun c20 => ?_) (fun c20 => ?_)
      · rw [if_pos c20] at hf
        refine mm_iinc (j := 2) (L' := [(2, .int (x2 + 1)), (0, .ref a0), (1, .int x1)]) dX9_tick_212 rfl rfl (by decide) rfl ?_
        refine mm_goto (tgt := 28) dX9_tick_215 (by decide) ?_
        refine mm_sub [1, 2, 0] rfl ?_
        exact hk28 a0 x1 (x2 + 1) σ hf
      · rw [if_neg c20] at hf
        refine mm_aload_n (j := 0) dX9_tick_109 rfl rfl ?_
        refine mm_get (c := 9) (k := 41) (v := va_rf (mm_R σ a0 41)) cd_ok ⟨_, _, _, rfl, by decide, Or.inl tw_835⟩ hs14 rfl dX9_tick_110 ?_
        refine mm_iload_n (j := 2) dX9_tick_113 rfl rfl ?_
        refine mm_aload_n (j := 0) dX9_tick_114 rfl rfl ?_
        refine mm_get (c := 9) (k := 35) (v := .int (mm_I σ a0 35)) cd_ok ⟨_, _, _, rfl, by decide, Or.inl tw_829⟩ hs14 rfl dX9_tick_115 ?_
        obtain ⟨q21, hq21, hf⟩ := mm_on_s hf
        rw [hq21, mm_rf_some]
        obtain ⟨n22, hn22, hf⟩ := mm_ar_s hf
        obtain ⟨hi23, hf⟩ := mm_ib_s hf
        refine mm_iast hn22 rfl hi23 dX9_tick_118 ?_
        refine mm_aload_n (j := 0) dX9_tick_119 rfl rfl ?_
        refine mm_get (c := 9) (k := 36) (v := va_rf (mm_R (mm_wI σ q21 (x2.toNatClampNeg) (mm_I σ a0 35)) a0 36)) cd_ok ⟨_, _, _, rfl, by decide, Or.inl tw_830⟩ hs14 rfl dX9_tick_120 ?_
        refine mm_aload_n (j := 0) dX9_tick_123 rfl rfl ?_
        refine mm_get (c := 9) (k := 35) (v := .int (mm_I (mm_wI σ q21 (x2.toNatClampNeg) (mm_I σ a0 35)) a0 35)) cd_ok ⟨_, _, _, rfl, by decide, Or.inl tw_829⟩ hs14 rfl dX9_tick_124 ?_
        refine mm_iload_n (j := 2) dX9_tick_127 rfl rfl ?_
        obtain ⟨q24, hq24, hf⟩ := mm_on_s hf
        rw [hq24, mm_rf_some]
        obtain ⟨n25, hn25, hf⟩ := mm_ar_s hf
        obtain ⟨hi26, hf⟩ := mm_ib_s hf
        refine mm_iast hn25 rfl hi26 dX9_tick_128 ?_
        refine mm_aload_n (j := 0) dX9_tick_129 rfl rfl ?_
        refine mm_get (c := 9) (k := 37) (v := va_rf (mm_R (mm_wI (mm_wI σ q21 (x2.toNatClampNeg) (mm_I σ a0 35)) q24 ((mm_I (mm_wI σ q21 (x2.toNatClampNeg) (mm_I σ a0 35)) a0 35).toNatClampNeg) x2) a0 37)) cd_ok ⟨_, _, _, rfl, by decide, Or.inl tw_831⟩ hs14 rfl dX9_tick_130 ?_
        refine mm_aload_n (j := 0) dX9_tick_133 rfl rfl ?_
        refine mm_get (c := 9) (k := 35) (v := .int (mm_I (mm_wI (mm_wI σ q21 (x2.toNatClampNeg) (mm_I σ a0 35)) q24 ((mm_I (mm_wI σ q21 (x2.toNatClampNeg) (mm_I σ a0 35)) a0 35).toNatClampNeg) x2) a0 35)) cd_ok ⟨_, _, _, rfl, by decide, Or.inl tw_829⟩ hs14 rfl dX9_tick_134 ?_
        refine mm_aload_n (j := 0) dX9_tick_137 rfl rfl ?_
        refine mm_get (c := 9) (k := 34) (v := .int (mm_I (mm_wI (mm_wI σ q21 (x2.toNatClampNeg) (mm_I σ a0 35)) q24 ((mm_I (mm_wI σ q21 (x2.toNatClampNeg) (mm_I σ a0 35)) a0 35).toNatClampNeg) x2) a0 34)) cd_ok ⟨_, _, _, rfl, by decide, Or.inl tw_828⟩ hs14 rfl dX9_tick_138 ?_
        obtain ⟨q27, hq27, hf⟩ := mm_on_s hf
        rw [hq27, mm_rf_some]
        obtain ⟨n28, hn28, hf⟩ := mm_ar_s hf
        obtain ⟨hi29, hf⟩ := mm_ib_s hf
        refine mm_iast hn28 rfl hi29 dX9_tick_141 ?_
        refine mm_aload_n (j := 0) dX9_tick_142 rfl rfl ?_
        refine mm_get (c := 9) (k := 38) (v := va_rf (mm_R (mm_wI (mm_wI (mm_wI σ q21 (x2.toNatClampNeg) (mm_I σ a0 35)) q24 ((mm_I (mm_wI σ q21 (x2.toNatClampNeg) (mm_I σ a0 35)) a0 35).toNatClampNeg) x2) q27 ((mm_I (mm_wI (mm_wI σ q21 (x2.toNatClampNeg) (mm_I σ a0 35)) q24 ((mm_I (mm_wI σ q21 (x2.toNatClampNeg) (mm_I σ a0 35)) a0 35).toNatClampNeg) x2) a0 35).toNatClampNeg) (mm_I (mm_wI (mm_wI σ q21 (x2.toNatClampNeg) (mm_I σ a0 35)) q24 ((mm_I (mm_wI σ q21 (x2.toNatClampNeg) (mm_I σ a0 35)) a0 35).toNatClampNeg) x2) a0 34)) a0 38)) cd_ok ⟨_, _, _, rfl, by decide, Or.inl tw_832⟩ hs14 rfl dX9_tick_143 ?_
        refine mm_aload_n (j := 0) dX9_tick_146 rfl rfl ?_
        refine mm_get (c := 9) (k := 35) (v := .int (mm_I (mm_wI (mm_wI (mm_wI σ q21 (x2.toNatClampNeg) (mm_I σ a0 35)) q24 ((mm_I (mm_wI σ q21 (x2.toNatClampNeg) (mm_I σ a0 35)) a0 35).toNatClampNeg) x2) q27 ((mm_I (mm_wI (mm_wI σ q21 (x2.toNatClampNeg) (mm_I σ a0 35)) q24 ((mm_I (mm_wI σ q21 (x2.toNatClampNeg) (mm_I σ a0 35)) a0 35).toNatClampNeg) x2) a0 35).toNatClampNeg) (mm_I (mm_wI (mm_wI σ q21 (x2.toNatClampNeg) (mm_I σ a0 35)) q24 ((mm_I (mm_wI σ q21 (x2.toNatClampNeg) (mm_I σ a0 35)) a0 35).toNatClampNeg) x2) a0 34)) a0 35)) cd_ok ⟨_, _, _, rfl, by decide, Or.inl tw_829⟩ hs14 rfl dX9_tick_147 ?_
        refine mm_iconst (v := (-1)) dX9_tick_150 (by decide) ?_
        obtain ⟨q30, hq30, hf⟩ := mm_on_s hf
        rw [hq30, mm_rf_some]
        obtain ⟨n31, hn31, hf⟩ := mm_ar_s hf
        obtain ⟨hi32, hf⟩ := mm_ib_s hf
        refine mm_iast hn31 rfl hi32 dX9_tick_151 ?_
        refine mm_aload_n (j := 0) dX9_tick_152 rfl rfl ?_
        refine mm_get (c := 9) (k := 39) (v := va_rf (mm_R (mm_wI (mm_wI (mm_wI (mm_wI σ q21 (x2.toNatClampNeg) (mm_I σ a0 35)) q24 ((mm_I (mm_wI σ q21 (x2.toNatClampNeg) (mm_I σ a0 35)) a0 35).toNatClampNeg) x2) q27 ((mm_I (mm_wI (mm_wI σ q21 (x2.toNatClampNeg) (mm_I σ a0 35)) q24 ((mm_I (mm_wI σ q21 (x2.toNatClampNeg) (mm_I σ a0 35)) a0 35).toNatClampNeg) x2) a0 35).toNatClampNeg) (mm_I (mm_wI (mm_wI σ q21 (x2.toNatClampNeg) (mm_I σ a0 35)) q24 ((mm_I (mm_wI σ q21 (x2.toNatClampNeg) (mm_I σ a0 35)) a0 35).toNatClampNeg) x2) a0 34)) q30 ((mm_I (mm_wI (mm_wI (mm_wI σ q21 (x2.toNatClampNeg) (mm_I σ a0 35)) q24 ((mm_I (mm_wI σ q21 (x2.toNatClampNeg) (mm_I σ a0 35)) a0 35).toNatClampNeg) x2) q27 ((mm_I (mm_wI (mm_wI σ q21 (x2.toNatClampNeg) (mm_I σ a0 35)) q24 ((mm_I (mm_wI σ q21 (x2.toNatClampNeg) (mm_I σ a0 35)) a0 35).toNatClampNeg) x2) a0 35).toNatClampNeg) (mm_I (mm_wI (mm_wI σ q21 (x2.toNatClampNeg) (mm_I σ a0 35)) q24 ((mm_I (mm_wI σ q21 (x2.toNatClampNeg) (mm_I σ a0 35)) a0 35).toNatClampNeg) x2) a0 34)) a0 35).toNatClampNeg) (-1)) a0 39)) cd_ok ⟨_, _, _, rfl, by decide, Or.inl tw_833⟩ hs14 rfl dX9_tick_153 ?_
        refine mm_aload_n (j := 0) dX9_tick_156 rfl rfl ?_
        refine mm_get (c := 9) (k := 35) (v := .int (mm_I (mm_wI (mm_wI (mm_wI (mm_wI σ q21 (x2.toNatClampNeg) (mm_I σ a0 35)) q24 ((mm_I (mm_wI σ q21 (x2.toNatClampNeg) (mm_I σ a0 35)) a0 35).toNatClampNeg) x2) q27 ((mm_I (mm_wI (mm_wI σ q21 (x2.toNatClampNeg) (mm_I σ a0 35)) q24 ((mm_I (mm_wI σ q21 (x2.toNatClampNeg) (mm_I σ a0 35)) a0 35).toNatClampNeg) x2) a0 35).toNatClampNeg) (mm_I (mm_wI (mm_wI σ q21 (x2.toNatClampNeg) (mm_I σ a0 35)) q24 ((mm_I (mm_wI σ q21 (x2.toNatClampNeg) (mm_I σ a0 35)) a0 35).toNatClampNeg) x2) a0 34)) q30 ((mm_I (mm_wI (mm_wI (mm_wI σ q21 (x2.toNatClampNeg) (mm_I σ a0 35)) q24 ((mm_I (mm_wI σ q21 (x2.toNatClampNeg) (mm_I σ a0 35)) a0 35).toNatClampNeg) x2) q27 ((mm_I (mm_wI (mm_wI σ q21 (x2.toNatClampNeg) (mm_I σ a0 35)) q24 ((mm_I (mm_wI σ q21 (x2.toNatClampNeg) (mm_I σ a0 35)) a0 35).toNatClampNeg) x2) a0 35).toNatClampNeg) (mm_I (mm_wI (mm_wI σ q21 (x2.toNatClampNeg) (mm_I σ a0 35)) q24 ((mm_I (mm_wI σ q21 (x2.toNatClampNeg) (mm_I σ a0 35)) a0 35).toNatClampNeg) x2) a0 34)) a0 35).toNatClampNeg) (-1)) a0 35)) cd_ok ⟨_, _, _, rfl, by decide, Or.inl tw_829⟩ hs14 rfl dX9_tick_157 ?_
        refine mm_aload_n (j := 0) dX9_tick_160 rfl rfl ?_
        refine mm_get (c := 9) (k := 44) (v := .int (mm_I (mm_wI (mm_wI (mm_wI (mm_wI σ q21 (x2.toNatClampNeg) (mm_I σ a0 35)) q24 ((mm_I (mm_wI σ q21 (x2.toNatClampNeg) (mm_I σ a0 35)) a0 35).toNatClampNeg) x2) q27 ((mm_I (mm_wI (mm_wI σ q21 (x2.toNatClampNeg) (mm_I σ a0 35)) q24 ((mm_I (mm_wI σ q21 (x2.toNatClampNeg) (mm_I σ a0 35)) a0 35).toNatClampNeg) x2) a0 35).toNatClampNeg) (mm_I (mm_wI (mm_wI σ q21 (x2.toNatClampNeg) (mm_I σ a0 35)) q24 ((mm_I (mm_wI σ q21 (x2.toNatClampNeg) (mm_I σ a0 35)) a0 35).toNatClampNeg) x2) a0 34)) q30 ((mm_I (mm_wI (mm_wI (mm_wI σ q21 (x2.toNatClampNeg) (mm_I σ a0 35)) q24 ((mm_I (mm_wI σ q21 (x2.toNatClampNeg) (mm_I σ a0 35)) a0 35).toNatClampNeg) x2) q27 ((mm_I (mm_wI (mm_wI σ q21 (x2.toNatClampNeg) (mm_I σ a0 35)) q24 ((mm_I (mm_wI σ q21 (x2.toNatClampNeg) (mm_I σ a0 35)) a0 35).toNatClampNeg) x2) a0 35).toNatClampNeg) (mm_I (mm_wI (mm_wI σ q21 (x2.toNatClampNeg) (mm_I σ a0 35)) q24 ((mm_I (mm_wI σ q21 (x2.toNatClampNeg) (mm_I σ a0 35)) a0 35).toNatClampNeg) x2) a0 34)) a0 35).toNatClampNeg) (-1)) a0 44)) cd_ok ⟨_, _, _, rfl, by decide, Or.inl tw_838⟩ hs14 rfl dX9_tick_161 ?_
        obtain ⟨q33, hq33, hf⟩ := mm_on_s hf
        rw [hq33, mm_rf_some]
        obtain ⟨n34, hn34, hf⟩ := mm_ar_s hf
        obtain ⟨hi35, hf⟩ := mm_ib_s hf
        refine mm_iast hn34 rfl hi35 dX9_tick_164 ?_
        refine mm_iconst (v := 0) dX9_tick_165 (by decide) ?_
        refine mm_istore_n (L' := [(3, .int 0), (0, .ref a0), (1, .int x1), (2, .int x2)]) dX9_tick_166 rfl (by decide) rfl ?_
        refine mm_sub [1, 2, 3, 0] rfl ?_
        exact kX9_tick_167 hk28 a0 x1 x2 0 (mm_wI (mm_wI (mm_wI (mm_wI (mm_wI σ q21 (x2.toNatClampNeg) (mm_I σ a0 35)) q24 ((mm_I (mm_wI σ q21 (x2.toNatClampNeg) (mm_I σ a0 35)) a0 35).toNatClampNeg) x2) q27 ((mm_I (mm_wI (mm_wI σ q21 (x2.toNatClampNeg) (mm_I σ a0 35)) q24 ((mm_I (mm_wI σ q21 (x2.toNatClampNeg) (mm_I σ a0 35)) a0 35).toNatClampNeg) x2) a0 35).toNatClampNeg) (mm_I (mm_wI (mm_wI σ q21 (x2.toNatClampNeg) (mm_I σ a0 35)) q24 ((mm_I (mm_wI σ q21 (x2.toNatClampNeg) (mm_I σ a0 35)) a0 35).toNatClampNeg) x2) a0 34)) q30 ((mm_I (mm_wI (mm_wI (mm_wI σ q21 (x2.toNatClampNeg) (mm_I σ a0 35)) q24 ((mm_I (mm_wI σ q21 (x2.toNatClampNeg) (mm_I σ a0 35)) a0 35).toNatClampNeg) x2) q27 ((mm_I (mm_wI (mm_wI σ q21 (x2.toNatClampNeg) (mm_I σ a0 35)) q24 ((mm_I (mm_wI σ q21 (x2.toNatClampNeg) (mm_I σ a0 35)) a0 35).toNatClampNeg) x2) a0 35).toNatClampNeg) (mm_I (mm_wI (mm_wI σ q21 (x2.toNatClampNeg) (mm_I σ a0 35)) q24 ((mm_I (mm_wI σ q21 (x2.toNatClampNeg) (mm_I σ a0 35)) a0 35).toNatClampNeg) x2) a0 34)) a0 35).toNatClampNeg) (-1)) q33 ((mm_I (mm_wI (mm_wI (mm_wI (mm_wI σ q21 (x2.toNatClampNeg) (mm_I σ a0 35)) q24 ((mm_I (mm_wI σ q21 (x2.toNatClampNeg) (mm_I σ a0 35)) a0 35).toNatClampNeg) x2) q27 ((mm_I (mm_wI (mm_wI σ q21 (x2.toNatClampNeg) (mm_I σ a0 35)) q24 ((mm_I (mm_wI σ q21 (x2.toNatClampNeg) (mm_I σ a0 35)) a0 35).toNatClampNeg) x2) a0 35).toNatClampNeg) (mm_I (mm_wI (mm_wI σ q21 (x2.toNatClampNeg) (mm_I σ a0 35)) q24 ((mm_I (mm_wI σ q21 (x2.toNatClampNeg) (mm_I σ a0 35)) a0 35).toNatClampNeg) x2) a0 34)) q30 ((mm_I (mm_wI (mm_wI (mm_wI σ q21 (x2.toNatClampNeg) (mm_I σ a0 35)) q24 ((mm_I (mm_wI σ q21 (x2.toNatClampNeg) (mm_I σ a0 35)) a0 35).toNatClampNeg) x2) q27 ((mm_I (mm_wI (mm_wI σ q21 (x2.toNatClampNeg) (mm_I σ a0 35)) q24 ((mm_I (mm_wI σ q21 (x2.toNatClampNeg) (mm_I σ a0 35)) a0 35).toNatClampNeg) x2) a0 35).toNatClampNeg) (mm_I (mm_wI (mm_wI σ q21 (x2.toNatClampNeg) (mm_I σ a0 35)) q24 ((mm_I (mm_wI σ q21 (x2.toNatClampNeg) (mm_I σ a0 35)) a0 35).toNatClampNeg) x2) a0 34)) a0 35).toNatClampNeg) (-1)) a0 35).toNatClampNeg) (mm_I (mm_wI (mm_wI (mm_wI (mm_wI σ q21 (x2.toNatClampNeg) (mm_I σ a0 35)) q24 ((mm_I (mm_wI σ q21 (x2.toNatClampNeg) (mm_I σ a0 35)) a0 35).toNatClampNeg) x2) q27 ((mm_I (mm_wI (mm_wI σ q21 (x2.toNatClampNeg) (mm_I σ a0 35)) q24 ((mm_I (mm_wI σ q21 (x2.toNatClampNeg) (mm_I σ a0 35)) a0 35).toNatClampNeg) x2) a0 35).toNatClampNeg) (mm_I (mm_wI (mm_wI σ q21 (x2.toNatClampNeg) (mm_I σ a0 35)) q24 ((mm_I (mm_wI σ q21 (x2.toNatClampNeg) (mm_I σ a0 35)) a0 35).toNatClampNeg) x2) a0 34)) q30 ((mm_I (mm_wI (mm_wI (mm_wI σ q21 (x2.toNatClampNeg) (mm_I σ a0 35)) q24 ((mm_I (mm_wI σ q21 (x2.toNatClampNeg) (mm_I σ a0 35)) a0 35).toNatClampNeg) x2) q27 ((mm_I (mm_wI (mm_wI σ q21 (x2.toNatClampNeg) (mm_I σ a0 35)) q24 ((mm_I (mm_wI σ q21 (x2.toNatClampNeg) (mm_I σ a0 35)) a0 35).toNatClampNeg) x2) a0 35).toNatClampNeg) (mm_I (mm_wI (mm_wI σ q21 (x2.toNatClampNeg) (mm_I σ a0 35)) q24 ((mm_I (mm_wI σ q21 (x2.toNatClampNeg) (mm_I σ a0 35)) a0 35).toNatClampNeg) x2) a0 34)) a0 35).toNatClampNeg) (-1)) a0 44)) hf
set_option maxHeartbeats 4000000 in
set_option maxRecDepth 100000 in
theorem kX9_tick_28 {G : mm_G} {A : Nat → Prop} {ini : Bool}  {R : (Int32 × mm_M)}  : ∀ (a0 : Nat) (x1 : Int32) (x2 : Int32) (σ : mm_M), fX9_tick_28  mm_fuel a0 x1 x2 σ = some R → mm_J cd_Y G RX9 cX9_tick 4 (some .int) ini rmX9_tick A (mm_QF cd_Y G A (mm_Pi R.1 R.2) rmX9_tick.cells rmX9_tick.slots) 28 [(0, .ref a0), (1, .int x1), (2, .int x2)] [] σ 0 0 := by
  generalize mm_fuel = n
  induction n with
  | zero => intro a0 x1 x2 σ hf; cases hf
  | succ n ih =>
    intro a0 x1 x2 σ hf
    unfold fX9_tick_28 at hf
    refine mm_iload_n (j := 2) dX9_tick_28 rfl rfl ?_
    refine mm_iconst (v := 5) dX9_tick_29 (by decide) ?_
    refine mm_icmp_ge (tgt := 218) dX9_tick_30 (by decide) (fun c5 => ?_) (fun c5 => ?_)
    · rw [if_pos c5] at hf
      refine mm_aload_n (j := 0) dX9_tick_218 rfl rfl ?_
      obtain ⟨hs6, hf⟩ := mm_sh_s hf
      refine mm_get (c := 9) (k := 34) (v := .int (mm_I σ a0 34)) cd_ok ⟨_, _, _, rfl, by decide, Or.inl tw_828⟩ hs6 rfl dX9_tick_219 ?_
      cases hf
      exact mm_iret rfl rfl dX9_tick_222 ⟨rfl, rfl⟩
    · rw [if_neg c5] at hf
      refine mm_aload_n (j := 0) dX9_tick_33 rfl rfl ?_
      refine mm_iload_n (j := 2) dX9_tick_34 rfl rfl ?_
      obtain ⟨hs7, hf⟩ := mm_sh_s hf
      obtain ⟨q8, hq8, hf⟩ := mm_on_s hf
      refine mm_callVv cd_ok (kX9_layLines a0 x2 hq8) hs7 rfl (Or.inl tw_1114) cdX9_layLines tw_1116 ts_53 nmX9_layLines rfl rfl (by simp only [List.map_cons, List.map_nil, mm_rf_cat]; exact Nat.le_of_ble_eq_true rfl) dX9_tick_35 ⟨Nat.le_of_ble_eq_true rfl, Nat.le_of_ble_eq_true rfl⟩ ⟨Nat.le_of_ble_eq_true rfl, Nat.le_of_ble_eq_true rfl⟩ ?_
      refine mm_aload_n (j := 0) dX9_tick_38 rfl rfl ?_
      obtain ⟨hs9, hf⟩ := mm_sh_s hf
      refine mm_get (c := 9) (k := 41) (v := va_rf (mm_R q8 a0 41)) cd_ok ⟨_, _, _, rfl, by decide, Or.inl tw_835⟩ hs9 rfl dX9_tick_39 ?_
      refine mm_iload_n (j := 2) dX9_tick_42 rfl rfl ?_
      obtain ⟨q10, hq10, hf⟩ := mm_on_s hf
      rw [hq10, mm_rf_some]
      obtain ⟨n11, hn11, hf⟩ := mm_ar_s hf
      obtain ⟨hi12, hf⟩ := mm_ib_s hf
      refine mm_iald hn11 rfl hi12 dX9_tick_43 ?_
      refine mm_iconst (v := (-1)) dX9_tick_44 (by decide) ?_
      refine mm_icmp_eq (tgt := 83) dX9_tick_45 (by decide) (fun c13 => ?_) (fun c13 => ?_)
      · rw [if_pos c13] at hf
        refine mm_sub [0, 1, 2] rfl ?_
        exact kX9_tick_83 ih a0 x1 x2 q8 hf
      · rw [if_neg c13] at hf
        refine mm_aload_n (j := 0) dX9_tick_48 rfl rfl ?_
        refine mm_aload_n (j := 0) dX9_tick_49 rfl rfl ?_
        refine mm_get (c := 9) (k := 41) (v := va_rf (mm_R q8 a0 41)) cd_ok ⟨_, _, _, rfl, by decide, Or.inl tw_835⟩ hs9 rfl dX9_tick_50 ?_
        refine mm_iload_n (j := 2) dX9_tick_53 rfl rfl ?_
        obtain ⟨q44, hq44, hf⟩ := mm_on_s hf
        rw [hq44, mm_rf_some]
        obtain ⟨n45, hn45, hf⟩ := mm_ar_s hf
        obtain ⟨hi46, hf⟩ := mm_ib_s hf
        refine mm_iald hn45 rfl hi46 dX9_tick_54 ?_
        obtain ⟨q47, hq47, hf⟩ := mm_on_s hf
        refine mm_callVi cd_ok (kX9_isSame a0 (mm_I q8 q44 x2.toNatClampNeg) hq47) hs9 rfl (Or.inl tw_1122) cdX9_isSame tw_1124 ts_55 nmX9_isSame rfl rfl (by simp only [List.map_cons, List.map_nil, mm_rf_cat]; exact Nat.le_of_ble_eq_true rfl) dX9_tick_55 ⟨Nat.le_of_ble_eq_true rfl, Nat.le_of_ble_eq_true rfl⟩ ⟨Nat.le_of_ble_eq_true rfl, Nat.le_of_ble_eq_true rfl⟩ ?_
        refine mm_if_ne (tgt := 83) dX9_tick_58 (by decide) (fun c48 => ?_) (fun c48 => ?_)
        · rw [if_neg c48] at hf
          refine mm_sub [0, 1, 2] rfl ?_
          exact kX9_tick_83 ih a0 x1 x2 q47.2 hf
        · rw [if_pos c48] at hf
          refine mm_aload_n (j := 0) dX9_tick_61 rfl rfl ?_
          obtain ⟨hs49, hf⟩ := mm_sh_s hf
          refine mm_get (c := 9) (k := 38) (v := va_rf (mm_R q47.2 a0 38)) cd_ok ⟨_, _, _, rfl, by decide, Or.inl tw_832⟩ hs49 rfl dX9_tick_62 ?_
          refine mm_aload_n (j := 0) dX9_tick_65 rfl rfl ?_
          refine mm_get (c := 9) (k := 41) (v := va_rf (mm_R q47.2 a0 41)) cd_ok ⟨_, _, _, rfl, by decide, Or.inl tw_835⟩ hs49 rfl dX9_tick_66 ?_
          refine mm_iload_n (j := 2) dX9_tick_69 rfl rfl ?_
          obtain ⟨q50, hq50, hf⟩ := mm_on_s hf
          rw [hq50, mm_rf_some]
          obtain ⟨n51, hn51, hf⟩ := mm_ar_s hf
          obtain ⟨hi52, hf⟩ := mm_ib_s hf
          refine mm_iald hn51 rfl hi52 dX9_tick_70 ?_
          refine mm_aload_n (j := 0) dX9_tick_71 rfl rfl ?_
          refine mm_get (c := 9) (k := 34) (v := .int (mm_I q47.2 a0 34)) cd_ok ⟨_, _, _, rfl, by decide, Or.inl tw_828⟩ hs49 rfl dX9_tick_72 ?_
          obtain ⟨q53, hq53, hf⟩ := mm_on_s hf
          rw [hq53, mm_rf_some]
          obtain ⟨n54, hn54, hf⟩ := mm_ar_s hf
          obtain ⟨hi55, hf⟩ := mm_ib_s hf
          refine mm_iast hn54 rfl hi55 dX9_tick_75 ?_
          refine mm_aload_n (j := 0) dX9_tick_76 rfl rfl ?_
          refine mm_get (c := 9) (k := 41) (v := va_rf (mm_R (mm_wI q47.2 q53 ((mm_I q47.2 q50 x2.toNatClampNeg).toNatClampNeg) (mm_I q47.2 a0 34)) a0 41)) cd_ok ⟨_, _, _, rfl, by decide, Or.inl tw_835⟩ hs49 rfl dX9_tick_77 ?_
          refine mm_iload_n (j := 2) dX9_tick_80 rfl rfl ?_
          refine mm_iconst (v := (-1)) dX9_tick_81 (by decide) ?_
          obtain ⟨q56, hq56, hf⟩ := mm_on_s hf
          rw [hq56, mm_rf_some]
          obtain ⟨n57, hn57, hf⟩ := mm_ar_s hf
          obtain ⟨hi58, hf⟩ := mm_ib_s hf
          refine mm_iast hn57 rfl hi58 dX9_tick_82 ?_
          refine mm_sub [0, 1, 2] rfl ?_
          exact kX9_tick_83 ih a0 x1 x2 (mm_wI (mm_wI q47.2 q53 ((mm_I q47.2 q50 x2.toNatClampNeg).toNatClampNeg) (mm_I q47.2 a0 34)) q56 (x2.toNatClampNeg) (-1)) hf
set_option maxHeartbeats 4000000 in
set_option maxRecDepth 100000 in
theorem kX9_tick {G : mm_G} {A : Nat → Prop} (p0 : Nat) (p1 : Int32) {σ : mm_M} {R : (Int32 × mm_M)} (hf : fX9_tick p0 p1 σ = some R) : mm_C cd_Y G yX9_tick cX9_tick 4 (some .int) rmX9_tick A [.ref p0, .int p1] σ (mm_Pi R.1 R.2) := by
  refine mm_C.of (by decide) (Nat.le_of_ble_eq_true rfl) ?_
  unfold fX9_tick at hf
  have e0 : lv_args 0 [.ref p0, .int p1] = [(0, .ref p0), (1, .int p1)] := rfl
  rw [e0]
  generalize hini : (yX9_tick.name == "<init>") = ini
  clear e0
  clear hini
  refine mm_aload_n (j := 0) dX9_tick_0 rfl rfl ?_
  refine mm_iload_n (j := 1) dX9_tick_1 rfl rfl ?_
  refine mm_iconst (v := 1) dX9_tick_2 (by decide) ?_
  refine mm_ldc tw_1113 dX9_tick_3 ?_
  refine mm_callSi cd_ok (kX9_in p1 1 (100000 : Int32) _ rfl) (Or.inl tw_941) cdX9_in tw_942 nmX9_in rfl rfl (by simp only [List.map_cons, List.map_nil, mm_rf_cat]; exact Nat.le_of_ble_eq_true rfl) dX9_tick_5 ⟨Nat.le_of_ble_eq_true rfl, Nat.le_of_ble_eq_true rfl⟩ ⟨Nat.le_of_ble_eq_true rfl, Nat.le_of_ble_eq_true rfl⟩ ?_
  obtain ⟨hs1, hf⟩ := mm_sh_s hf
  obtain ⟨q2, hq2, hf⟩ := mm_on_s hf
  refine mm_callVi cd_ok (kX9_goes p0 (fX9_in p1 1 (100000 : Int32)) hq2) hs1 rfl (Or.inl tw_944) cdX9_goes tw_946 ts_31 nmX9_goes rfl rfl (by simp only [List.map_cons, List.map_nil, mm_rf_cat]; exact Nat.le_of_ble_eq_true rfl) dX9_tick_8 ⟨Nat.le_of_ble_eq_true rfl, Nat.le_of_ble_eq_true rfl⟩ ⟨Nat.le_of_ble_eq_true rfl, Nat.le_of_ble_eq_true rfl⟩ ?_
  refine mm_if_ne (tgt := 16) dX9_tick_11 (by decide) (fun c3 => ?_) (fun c3 => ?_)
  · rw [if_neg c3] at hf
    refine mm_aload_n (j := 0) dX9_tick_16 rfl rfl ?_
    refine mm_aload_n (j := 0) dX9_tick_17 rfl rfl ?_
    obtain ⟨hs4, hf⟩ := mm_sh_s hf
    refine mm_get (c := 9) (k := 34) (v := .int (mm_I q2.2 p0 34)) cd_ok ⟨_, _, _, rfl, by decide, Or.inl tw_828⟩ hs4 rfl dX9_tick_18 ?_
    refine mm_iload_n (j := 1) dX9_tick_21 rfl rfl ?_
    refine mm_iadd dX9_tick_22 ?_
    refine mm_putI (c := 9) (k := 34) cd_ok ⟨_, _, _, rfl, by decide, rfl, Or.inl tw_828⟩ hs4 rfl rfl rfl dX9_tick_23 ?_
    refine mm_iconst (v := 0) dX9_tick_26 (by decide) ?_
    refine mm_istore_n (L' := [(2, .int 0), (0, .ref p0), (1, .int p1)]) dX9_tick_27 rfl (by decide) rfl ?_
    refine mm_sub [1, 2, 0] rfl ?_
    exact kX9_tick_28  p0 p1 0 (mm_wI q2.2 p0 34 ((mm_I q2.2 p0 34) + p1)) hf
  · rw [if_pos c3] at hf
    refine mm_iconst (v := 0) dX9_tick_14 (by decide) ?_
    cases hf
    exact mm_iret rfl rfl dX9_tick_15 ⟨rfl, rfl⟩
theorem dX9_cues_0 : decode cX9_cues 0 = .ok (.aload_n 0, 1) := by decide +kernel
theorem dX9_cues_1 : decode cX9_cues 1 = .ok (.iconst 0, 1) := by decide +kernel
theorem dX9_cues_2 : decode cX9_cues 2 = .ok (.putfield 120, 3) := by decide +kernel
theorem dX9_cues_5 : decode cX9_cues 5 = .ok (.aload_n 0, 1) := by decide +kernel
theorem dX9_cues_6 : decode cX9_cues 6 = .ok (.getfield 260, 3) := by decide +kernel
theorem dX9_cues_9 : decode cX9_cues 9 = .ok (.ireturn, 1) := by decide +kernel
theorem nmX9_cues : mm_nm yX9_cues 0 := ⟨by decide, by decide, by decide +kernel⟩
theorem cdX9_cues : mm_cd cd_Y yX9_cues cX9_cues 1 (some .int) := ⟨tw_1129, tw_8⟩
abbrev rmX9_cues : Room := { frames := 0, cells := 0, slots := 0, locals := 0 }
def fX9_cues (p0 : Nat) (σ : mm_M) : Option (Int32 × mm_M) :=
  mm_sh σ p0 (.inl 9) (some (mm_I (mm_wI σ p0 0 0) p0 35, mm_wI σ p0 0 0))
set_option maxHeartbeats 4000000 in
set_option maxRecDepth 100000 in
theorem kX9_cues {G : mm_G} {A : Nat → Prop} (p0 : Nat) {σ : mm_M} {R : (Int32 × mm_M)} (hf : fX9_cues p0 σ = some R) : mm_C cd_Y G yX9_cues cX9_cues 1 (some .int) rmX9_cues A [.ref p0] σ (mm_Pi R.1 R.2) := by
  refine mm_C.of (by decide) (Nat.le_of_ble_eq_true rfl) ?_
  unfold fX9_cues at hf
  have e0 : lv_args 0 [.ref p0] = [(0, .ref p0)] := rfl
  rw [e0]
  generalize hini : (yX9_cues.name == "<init>") = ini
  clear e0
  clear hini
  refine mm_aload_n (j := 0) dX9_cues_0 rfl rfl ?_
  refine mm_iconst (v := 0) dX9_cues_1 (by decide) ?_
  obtain ⟨hs1, hf⟩ := mm_sh_s hf
  refine mm_putI (c := 9) (k := 0) cd_ok ⟨_, _, _, rfl, by decide, rfl, Or.inl tw_794⟩ hs1 rfl rfl rfl dX9_cues_2 ?_
  refine mm_aload_n (j := 0) dX9_cues_5 rfl rfl ?_
  refine mm_get (c := 9) (k := 35) (v := .int (mm_I (mm_wI σ p0 0 0) p0 35)) cd_ok ⟨_, _, _, rfl, by decide, Or.inl tw_829⟩ hs1 rfl dX9_cues_6 ?_
  cases hf
  exact mm_iret rfl rfl dX9_cues_9 ⟨rfl, rfl⟩
theorem dX9_cue_0 : decode cX9_cue 0 = .ok (.aload_n 0, 1) := by decide +kernel
theorem dX9_cue_1 : decode cX9_cue 1 = .ok (.iload_n 1, 1) := by decide +kernel
theorem dX9_cue_2 : decode cX9_cue 2 = .ok (.iconst 0, 1) := by decide +kernel
theorem dX9_cue_3 : decode cX9_cue 3 = .ok (.aload_n 0, 1) := by decide +kernel
theorem dX9_cue_4 : decode cX9_cue 4 = .ok (.getfield 260, 3) := by decide +kernel
theorem dX9_cue_7 : decode cX9_cue 7 = .ok (.iconst 1, 1) := by decide +kernel
theorem dX9_cue_8 : decode cX9_cue 8 = .ok (.isub, 1) := by decide +kernel
theorem dX9_cue_9 : decode cX9_cue 9 = .ok (.invokestatic 153, 3) := by decide +kernel
theorem dX9_cue_12 : decode cX9_cue 12 = .ok (.ifCond .eq 16, 3) := by decide +kernel
theorem dX9_cue_15 : decode cX9_cue 15 = .ok (.iload_n 2, 1) := by decide +kernel
theorem dX9_cue_16 : decode cX9_cue 16 = .ok (.iconst 0, 1) := by decide +kernel
theorem dX9_cue_17 : decode cX9_cue 17 = .ok (.iconst 3, 1) := by decide +kernel
theorem dX9_cue_18 : decode cX9_cue 18 = .ok (.invokestatic 153, 3) := by decide +kernel
theorem dX9_cue_21 : decode cX9_cue 21 = .ok (.ifCond .eq 7, 3) := by decide +kernel
theorem dX9_cue_24 : decode cX9_cue 24 = .ok (.iconst 1, 1) := by decide +kernel
theorem dX9_cue_25 : decode cX9_cue 25 = .ok (.goto 4, 3) := by decide +kernel
theorem dX9_cue_28 : decode cX9_cue 28 = .ok (.iconst 0, 1) := by decide +kernel
theorem dX9_cue_29 : decode cX9_cue 29 = .ok (.invokevirtual 169, 3) := by decide +kernel
theorem dX9_cue_32 : decode cX9_cue 32 = .ok (.ifCond .ne 5, 3) := by decide +kernel
theorem dX9_cue_35 : decode cX9_cue 35 = .ok (.iconst 0, 1) := by decide +kernel
theorem dX9_cue_36 : decode cX9_cue 36 = .ok (.ireturn, 1) := by decide +kernel
theorem dX9_cue_37 : decode cX9_cue 37 = .ok (.iload_n 2, 1) := by decide +kernel
theorem dX9_cue_38 : decode cX9_cue 38 = .ok (.ifCond .ne 12, 3) := by decide +kernel
theorem dX9_cue_41 : decode cX9_cue 41 = .ok (.aload_n 0, 1) := by decide +kernel
theorem dX9_cue_42 : decode cX9_cue 42 = .ok (.getfield 93, 3) := by decide +kernel
theorem dX9_cue_45 : decode cX9_cue 45 = .ok (.iload_n 1, 1) := by decide +kernel
theorem dX9_cue_46 : decode cX9_cue 46 = .ok (.iaload, 1) := by decide +kernel
theorem dX9_cue_47 : decode cX9_cue 47 = .ok (.goto 37, 3) := by decide +kernel
theorem dX9_cue_50 : decode cX9_cue 50 = .ok (.iload_n 2, 1) := by decide +kernel
theorem dX9_cue_51 : decode cX9_cue 51 = .ok (.iconst 1, 1) := by decide +kernel
theorem dX9_cue_52 : decode cX9_cue 52 = .ok (.if_icmp .ne 12, 3) := by decide +kernel
theorem dX9_cue_55 : decode cX9_cue 55 = .ok (.aload_n 0, 1) := by decide +kernel
theorem dX9_cue_56 : decode cX9_cue 56 = .ok (.getfield 96, 3) := by decide +kernel
theorem dX9_cue_59 : decode cX9_cue 59 = .ok (.iload_n 1, 1) := by decide +kernel
theorem dX9_cue_60 : decode cX9_cue 60 = .ok (.iaload, 1) := by decide +kernel
theorem dX9_cue_61 : decode cX9_cue 61 = .ok (.goto 23, 3) := by decide +kernel
theorem dX9_cue_64 : decode cX9_cue 64 = .ok (.iload_n 2, 1) := by decide +kernel
theorem dX9_cue_65 : decode cX9_cue 65 = .ok (.iconst 2, 1) := by decide +kernel
theorem dX9_cue_66 : decode cX9_cue 66 = .ok (.if_icmp .ne 12, 3) := by decide +kernel
theorem dX9_cue_69 : decode cX9_cue 69 = .ok (.aload_n 0, 1) := by decide +kernel
theorem dX9_cue_70 : decode cX9_cue 70 = .ok (.getfield 99, 3) := by decide +kernel
theorem dX9_cue_73 : decode cX9_cue 73 = .ok (.iload_n 1, 1) := by decide +kernel
theorem dX9_cue_74 : decode cX9_cue 74 = .ok (.iaload, 1) := by decide +kernel
theorem dX9_cue_75 : decode cX9_cue 75 = .ok (.goto 9, 3) := by decide +kernel
theorem dX9_cue_78 : decode cX9_cue 78 = .ok (.aload_n 0, 1) := by decide +kernel
theorem dX9_cue_79 : decode cX9_cue 79 = .ok (.getfield 102, 3) := by decide +kernel
theorem dX9_cue_82 : decode cX9_cue 82 = .ok (.iload_n 1, 1) := by decide +kernel
theorem dX9_cue_83 : decode cX9_cue 83 = .ok (.iaload, 1) := by decide +kernel
theorem dX9_cue_84 : decode cX9_cue 84 = .ok (.ireturn, 1) := by decide +kernel
theorem nmX9_cue : mm_nm yX9_cue 2 := ⟨by decide, by decide, by decide +kernel⟩
theorem cdX9_cue : mm_cd cd_Y yX9_cue cX9_cue 3 (some .int) := ⟨tw_1133, tw_8⟩
abbrev rmX9_cue : Room := { frames := 1, cells := 0, slots := 0, locals := 22 }
def fX9_cue_29  (a0 : Nat) (x1 : Int32) (x2 : Int32) (y0 : Int32) (y1 : Nat) (σ : mm_M) : Option (Int32 × mm_M) :=
  mm_sh σ y1 (.inl 9) (mm_on (fX9_goes y1 y0 σ) fun q4 => (if q4.1 = 0 then some (0, q4.2) else (if x2 = 0 then mm_sh q4.2 a0 (.inl 9) (mm_on (mm_R q4.2 a0 36) fun q22 => mm_ar q4.2 q22 0 fun n23 => mm_ib x1 n23 (some (mm_I q4.2 q22 x1.toNatClampNeg, q4.2))) else (if x2 = 1 then mm_sh q4.2 a0 (.inl 9) (mm_on (mm_R q4.2 a0 37) fun q18 => mm_ar q4.2 q18 0 fun n19 => mm_ib x1 n19 (some (mm_I q4.2 q18 x1.toNatClampNeg, q4.2))) else (if x2 = 2 then mm_sh q4.2 a0 (.inl 9) (mm_on (mm_R q4.2 a0 38) fun q14 => mm_ar q4.2 q14 0 fun n15 => mm_ib x1 n15 (some (mm_I q4.2 q14 x1.toNatClampNeg, q4.2))) else mm_sh q4.2 a0 (.inl 9) (mm_on (mm_R q4.2 a0 39) fun q10 => mm_ar q4.2 q10 0 fun n11 => mm_ib x1 n11 (some (mm_I q4.2 q10 x1.toNatClampNeg, q4.2))))))))
def fX9_cue_28  (a0 : Nat) (x1 : Int32) (x2 : Int32) (y0 : Nat) (σ : mm_M) : Option (Int32 × mm_M) :=
  (fX9_cue_29  a0 x1 x2 0 y0 σ)
def fX9_cue (p0 : Nat) (p1 : Int32) (p2 : Int32) (σ : mm_M) : Option (Int32 × mm_M) :=
  mm_sh σ p0 (.inl 9) ((if (fX9_in p1 0 ((mm_I σ p0 35) - 1)) = 0 then (fX9_cue_28  p0 p1 p2 p0 σ) else (if (fX9_in p2 0 3) = 0 then (fX9_cue_28  p0 p1 p2 p0 σ) else (fX9_cue_29  p0 p1 p2 1 p0 σ))))
set_option maxHeartbeats 4000000 in
set_option maxRecDepth 100000 in
theorem kX9_cue_29 {G : mm_G} {A : Nat → Prop} {ini : Bool}  {R : (Int32 × mm_M)}  (a0 : Nat) (x1 : Int32) (x2 : Int32) (y0 : Int32) (y1 : Nat) (σ : mm_M) (hf : fX9_cue_29  a0 x1 x2 y0 y1 σ = some R) : mm_J cd_Y G RX9 cX9_cue 3 (some .int) ini rmX9_cue A (mm_QF cd_Y G A (mm_Pi R.1 R.2) rmX9_cue.cells rmX9_cue.slots) 29 [(0, .ref a0), (1, .int x1), (2, .int x2)] [.int y0, .ref y1] σ 0 0 := by
  unfold fX9_cue_29 at hf
  obtain ⟨hs3, hf⟩ := mm_sh_s hf
  obtain ⟨q4, hq4, hf⟩ := mm_on_s hf
  refine mm_callVi cd_ok (kX9_goes y1 y0 hq4) hs3 rfl (Or.inl tw_944) cdX9_goes tw_946 ts_31 nmX9_goes rfl rfl (by simp only [List.map_cons, List.map_nil, mm_rf_cat]; exact Nat.le_of_ble_eq_true rfl) dX9_cue_29 ⟨Nat.le_of_ble_eq_true rfl, Nat.le_of_ble_eq_true rfl⟩ ⟨Nat.le_of_ble_eq_true rfl, Nat.le_of_ble_eq_true rfl⟩ ?_
  refine mm_if_ne (tgt := 37) dX9_cue_32 (by decide) (fun c5 => ?_) (fun c5 => ?_)
  · rw [if_neg c5] at hf
    refine mm_iload_n (j := 2) dX9_cue_37 rfl rfl ?_
    refine mm_if_ne (tgt := 50) dX9_cue_38 (by decide) (fun c6 => ?_) (fun c6 => ?_)
    · rw [if_neg c6] at hf
      refine mm_iload_n (j := 2) dX9_cue_50 rfl rfl ?_
      refine mm_iconst (v := 1) dX9_cue_51 (by decide) ?_
      refine mm_icmp_ne (tgt := 64) dX9_cue_52 (by decide) (fun c7 => ?_) (fun c7 => ?_)
      · rw [if_neg c7] at hf
        refine mm_iload_n (j := 2) dX9_cue_64 rfl rfl ?_
        refine mm_iconst (v := 2) dX9_cue_65 (by decide) ?_
        refine mm_icmp_ne (tgt := 78) dX9_cue_66 (by decide) (fun c8 => ?_) (fun c8 => ?_)
        · rw [if_neg c8] at hf
          refine mm_aload_n (j := 0) dX9_cue_78 rfl rfl ?_
          obtain ⟨hs9, hf⟩ := mm_sh_s hf
          refine mm_get (c := 9) (k := 39) (v := va_rf (mm_R q4.2 a0 39)) cd_ok ⟨_, _, _, rfl, by decide, Or.inl tw_833⟩ hs9 rfl dX9_cue_79 ?_
          refine mm_iload_n (j := 1) dX9_cue_82 rfl rfl ?_
          obtain ⟨q10, hq10, hf⟩ := mm_on_s hf
          rw [hq10, mm_rf_some]
          obtain ⟨n11, hn11, hf⟩ := mm_ar_s hf
          obtain ⟨hi12, hf⟩ := mm_ib_s hf
          refine mm_iald hn11 rfl hi12 dX9_cue_83 ?_
          cases hf
          exact mm_iret rfl rfl dX9_cue_84 ⟨rfl, rfl⟩
        · rw [if_pos c8] at hf
          refine mm_aload_n (j := 0) dX9_cue_69 rfl rfl ?_
          obtain ⟨hs13, hf⟩ := mm_sh_s hf
          refine mm_get (c := 9) (k := 38) (v := va_rf (mm_R q4.2 a0 38)) cd_ok ⟨_, _, _, rfl, by decide, Or.inl tw_832⟩ hs13 rfl dX9_cue_70 ?_
          refine mm_iload_n (j := 1) dX9_cue_73 rfl rfl ?_
          obtain ⟨q14, hq14, hf⟩ := mm_on_s hf
          rw [hq14, mm_rf_some]
          obtain ⟨n15, hn15, hf⟩ := mm_ar_s hf
          obtain ⟨hi16, hf⟩ := mm_ib_s hf
          refine mm_iald hn15 rfl hi16 dX9_cue_74 ?_
          refine mm_goto (tgt := 84) dX9_cue_75 (by decide) ?_
          cases hf
          exact mm_iret rfl rfl dX9_cue_84 ⟨rfl, rfl⟩
      · rw [if_pos c7] at hf
        refine mm_aload_n (j := 0) dX9_cue_55 rfl rfl ?_
        obtain ⟨hs17, hf⟩ := mm_sh_s hf
        refine mm_get (c := 9) (k := 37) (v := va_rf (mm_R q4.2 a0 37)) cd_ok ⟨_, _, _, rfl, by decide, Or.inl tw_831⟩ hs17 rfl dX9_cue_56 ?_
        refine mm_iload_n (j := 1) dX9_cue_59 rfl rfl ?_
        obtain ⟨q18, hq18, hf⟩ := mm_on_s hf
        rw [hq18, mm_rf_some]
        obtain ⟨n19, hn19, hf⟩ := mm_ar_s hf
        obtain ⟨hi20, hf⟩ := mm_ib_s hf
        refine mm_iald hn19 rfl hi20 dX9_cue_60 ?_
        refine mm_goto (tgt := 84) dX9_cue_61 (by decide) ?_
        cases hf
        exact mm_iret rfl rfl dX9_cue_84 ⟨rfl, rfl⟩
    · rw [if_pos c6] at hf
      refine mm_aload_n (j := 0) dX9_cue_41 rfl rfl ?_
      obtain ⟨hs21, hf⟩ := mm_sh_s hf
      refine mm_get (c := 9) (k := 36) (v := va_rf (mm_R q4.2 a0 36)) cd_ok ⟨_, _, _, rfl, by decide, Or.inl tw_830⟩ hs21 rfl dX9_cue_42 ?_
      refine mm_iload_n (j := 1) dX9_cue_45 rfl rfl ?_
      obtain ⟨q22, hq22, hf⟩ := mm_on_s hf
      rw [hq22, mm_rf_some]
      obtain ⟨n23, hn23, hf⟩ := mm_ar_s hf
      obtain ⟨hi24, hf⟩ := mm_ib_s hf
      refine mm_iald hn23 rfl hi24 dX9_cue_46 ?_
      refine mm_goto (tgt := 84) dX9_cue_47 (by decide) ?_
      cases hf
      exact mm_iret rfl rfl dX9_cue_84 ⟨rfl, rfl⟩
  · rw [if_pos c5] at hf
    refine mm_iconst (v := 0) dX9_cue_35 (by decide) ?_
    cases hf
    exact mm_iret rfl rfl dX9_cue_36 ⟨rfl, rfl⟩
set_option maxHeartbeats 4000000 in
set_option maxRecDepth 100000 in
theorem kX9_cue_28 {G : mm_G} {A : Nat → Prop} {ini : Bool}  {R : (Int32 × mm_M)}  (a0 : Nat) (x1 : Int32) (x2 : Int32) (y0 : Nat) (σ : mm_M) (hf : fX9_cue_28  a0 x1 x2 y0 σ = some R) : mm_J cd_Y G RX9 cX9_cue 3 (some .int) ini rmX9_cue A (mm_QF cd_Y G A (mm_Pi R.1 R.2) rmX9_cue.cells rmX9_cue.slots) 28 [(0, .ref a0), (1, .int x1), (2, .int x2)] [.ref y0] σ 0 0 := by
  unfold fX9_cue_28 at hf
  refine mm_iconst (v := 0) dX9_cue_28 (by decide) ?_
  refine mm_sub [0, 1, 2] rfl ?_
  exact kX9_cue_29  a0 x1 x2 0 y0 σ hf
set_option maxHeartbeats 4000000 in
set_option maxRecDepth 100000 in
theorem kX9_cue {G : mm_G} {A : Nat → Prop} (p0 : Nat) (p1 : Int32) (p2 : Int32) {σ : mm_M} {R : (Int32 × mm_M)} (hf : fX9_cue p0 p1 p2 σ = some R) : mm_C cd_Y G yX9_cue cX9_cue 3 (some .int) rmX9_cue A [.ref p0, .int p1, .int p2] σ (mm_Pi R.1 R.2) := by
  refine mm_C.of (by decide) (Nat.le_of_ble_eq_true rfl) ?_
  unfold fX9_cue at hf
  have e0 : lv_args 0 [.ref p0, .int p1, .int p2] = [(0, .ref p0), (1, .int p1), (2, .int p2)] := rfl
  rw [e0]
  generalize hini : (yX9_cue.name == "<init>") = ini
  clear e0
  clear hini
  refine mm_aload_n (j := 0) dX9_cue_0 rfl rfl ?_
  refine mm_iload_n (j := 1) dX9_cue_1 rfl rfl ?_
  refine mm_iconst (v := 0) dX9_cue_2 (by decide) ?_
  refine mm_aload_n (j := 0) dX9_cue_3 rfl rfl ?_
  obtain ⟨hs1, hf⟩ := mm_sh_s hf
  refine mm_get (c := 9) (k := 35) (v := .int (mm_I σ p0 35)) cd_ok ⟨_, _, _, rfl, by decide, Or.inl tw_829⟩ hs1 rfl dX9_cue_4 ?_
  refine mm_iconst (v := 1) dX9_cue_7 (by decide) ?_
  refine mm_isub dX9_cue_8 ?_
  refine mm_callSi cd_ok (kX9_in p1 0 ((mm_I σ p0 35) - 1) _ rfl) (Or.inl tw_941) cdX9_in tw_942 nmX9_in rfl rfl (by simp only [List.map_cons, List.map_nil, mm_rf_cat]; exact Nat.le_of_ble_eq_true rfl) dX9_cue_9 ⟨Nat.le_of_ble_eq_true rfl, Nat.le_of_ble_eq_true rfl⟩ ⟨Nat.le_of_ble_eq_true rfl, Nat.le_of_ble_eq_true rfl⟩ ?_
  refine mm_if_eq (tgt := 28) dX9_cue_12 (by decide) (fun c2 => ?_) (fun c2 => ?_)
  · rw [if_pos c2] at hf
    refine mm_sub [0, 1, 2] rfl ?_
    exact kX9_cue_28  p0 p1 p2 p0 σ hf
  · rw [if_neg c2] at hf
    refine mm_iload_n (j := 2) dX9_cue_15 rfl rfl ?_
    refine mm_iconst (v := 0) dX9_cue_16 (by decide) ?_
    refine mm_iconst (v := 3) dX9_cue_17 (by decide) ?_
    refine mm_callSi cd_ok (kX9_in p2 0 3 _ rfl) (Or.inl tw_941) cdX9_in tw_942 nmX9_in rfl rfl (by simp only [List.map_cons, List.map_nil, mm_rf_cat]; exact Nat.le_of_ble_eq_true rfl) dX9_cue_18 ⟨Nat.le_of_ble_eq_true rfl, Nat.le_of_ble_eq_true rfl⟩ ⟨Nat.le_of_ble_eq_true rfl, Nat.le_of_ble_eq_true rfl⟩ ?_
    refine mm_if_eq (tgt := 28) dX9_cue_21 (by decide) (fun c25 => ?_) (fun c25 => ?_)
    · rw [if_pos c25] at hf
      refine mm_sub [0, 1, 2] rfl ?_
      exact kX9_cue_28  p0 p1 p2 p0 σ hf
    · rw [if_neg c25] at hf
      refine mm_iconst (v := 1) dX9_cue_24 (by decide) ?_
      refine mm_goto (tgt := 29) dX9_cue_25 (by decide) ?_
      refine mm_sub [0, 1, 2] rfl ?_
      exact kX9_cue_29  p0 p1 p2 1 p0 σ hf
theorem dX9_line_0 : decode cX9_line 0 = .ok (.aload_n 0, 1) := by decide +kernel
theorem dX9_line_1 : decode cX9_line 1 = .ok (.iload_n 1, 1) := by decide +kernel
theorem dX9_line_2 : decode cX9_line 2 = .ok (.iconst 0, 1) := by decide +kernel
theorem dX9_line_3 : decode cX9_line 3 = .ok (.aload_n 0, 1) := by decide +kernel
theorem dX9_line_4 : decode cX9_line 4 = .ok (.getfield 260, 3) := by decide +kernel
theorem dX9_line_7 : decode cX9_line 7 = .ok (.iconst 1, 1) := by decide +kernel
theorem dX9_line_8 : decode cX9_line 8 = .ok (.isub, 1) := by decide +kernel
theorem dX9_line_9 : decode cX9_line 9 = .ok (.invokestatic 153, 3) := by decide +kernel
theorem dX9_line_12 : decode cX9_line 12 = .ok (.ifCond .eq 23, 3) := by decide +kernel
theorem dX9_line_15 : decode cX9_line 15 = .ok (.iload_n 2, 1) := by decide +kernel
theorem dX9_line_16 : decode cX9_line 16 = .ok (.iconst 0, 1) := by decide +kernel
theorem dX9_line_17 : decode cX9_line 17 = .ok (.aload_n 0, 1) := by decide +kernel
theorem dX9_line_18 : decode cX9_line 18 = .ok (.getfield 102, 3) := by decide +kernel
theorem dX9_line_21 : decode cX9_line 21 = .ok (.iload_n 1, 1) := by decide +kernel
theorem dX9_line_22 : decode cX9_line 22 = .ok (.iaload, 1) := by decide +kernel
theorem dX9_line_23 : decode cX9_line 23 = .ok (.iconst 1, 1) := by decide +kernel
theorem dX9_line_24 : decode cX9_line 24 = .ok (.isub, 1) := by decide +kernel
theorem dX9_line_25 : decode cX9_line 25 = .ok (.invokestatic 153, 3) := by decide +kernel
theorem dX9_line_28 : decode cX9_line 28 = .ok (.ifCond .eq 7, 3) := by decide +kernel
theorem dX9_line_31 : decode cX9_line 31 = .ok (.iconst 1, 1) := by decide +kernel
theorem dX9_line_32 : decode cX9_line 32 = .ok (.goto 4, 3) := by decide +kernel
theorem dX9_line_35 : decode cX9_line 35 = .ok (.iconst 0, 1) := by decide +kernel
theorem dX9_line_36 : decode cX9_line 36 = .ok (.invokevirtual 169, 3) := by decide +kernel
theorem dX9_line_39 : decode cX9_line 39 = .ok (.ifCond .eq 22, 3) := by decide +kernel
theorem dX9_line_42 : decode cX9_line 42 = .ok (.aload_n 0, 1) := by decide +kernel
theorem dX9_line_43 : decode cX9_line 43 = .ok (.getfield 105, 3) := by decide +kernel
theorem dX9_line_46 : decode cX9_line 46 = .ok (.sipush 400, 3) := by decide +kernel
theorem dX9_line_49 : decode cX9_line 49 = .ok (.iload_n 1, 1) := by decide +kernel
theorem dX9_line_50 : decode cX9_line 50 = .ok (.imul, 1) := by decide +kernel
theorem dX9_line_51 : decode cX9_line 51 = .ok (.iload_n 2, 1) := by decide +kernel
theorem dX9_line_52 : decode cX9_line 52 = .ok (.iadd, 1) := by decide +kernel
theorem dX9_line_53 : decode cX9_line 53 = .ok (.baload, 1) := by decide +kernel
theorem dX9_line_54 : decode cX9_line 54 = .ok (.sipush 255, 3) := by decide +kernel
theorem dX9_line_57 : decode cX9_line 57 = .ok (.iand, 1) := by decide +kernel
theorem dX9_line_58 : decode cX9_line 58 = .ok (.goto 4, 3) := by decide +kernel
theorem dX9_line_61 : decode cX9_line 61 = .ok (.iconst 0, 1) := by decide +kernel
theorem dX9_line_62 : decode cX9_line 62 = .ok (.ireturn, 1) := by decide +kernel
theorem nmX9_line : mm_nm yX9_line 2 := ⟨by decide, by decide, by decide +kernel⟩
theorem cdX9_line : mm_cd cd_Y yX9_line cX9_line 3 (some .int) := ⟨tw_1137, tw_8⟩
abbrev rmX9_line : Room := { frames := 1, cells := 0, slots := 0, locals := 22 }
def fX9_line_36  (a0 : Nat) (x1 : Int32) (x2 : Int32) (y0 : Int32) (y1 : Nat) (σ : mm_M) : Option (Int32 × mm_M) :=
  mm_sh σ y1 (.inl 9) (mm_on (fX9_goes y1 y0 σ) fun q4 => (if q4.1 = 0 then some (0, q4.2) else mm_sh q4.2 a0 (.inl 9) (mm_on (mm_R q4.2 a0 40) fun q7 => mm_ar q4.2 q7 2 fun n8 => mm_ib ((400 * x1) + x2) n8 (some ((mm_I q4.2 q7 ((400 * x1) + x2).toNatClampNeg) &&& 255, q4.2)))))
def fX9_line_35  (a0 : Nat) (x1 : Int32) (x2 : Int32) (y0 : Nat) (σ : mm_M) : Option (Int32 × mm_M) :=
  (fX9_line_36  a0 x1 x2 0 y0 σ)
def fX9_line (p0 : Nat) (p1 : Int32) (p2 : Int32) (σ : mm_M) : Option (Int32 × mm_M) :=
  mm_sh σ p0 (.inl 9) ((if (fX9_in p1 0 ((mm_I σ p0 35) - 1)) = 0 then (fX9_line_35  p0 p1 p2 p0 σ) else mm_on (mm_R σ p0 39) fun q10 => mm_ar σ q10 0 fun n11 => mm_ib p1 n11 ((if (fX9_in p2 0 ((mm_I σ q10 p1.toNatClampNeg) - 1)) = 0 then (fX9_line_35  p0 p1 p2 p0 σ) else (fX9_line_36  p0 p1 p2 1 p0 σ)))))
set_option maxHeartbeats 4000000 in
set_option maxRecDepth 100000 in
theorem kX9_line_36 {G : mm_G} {A : Nat → Prop} {ini : Bool}  {R : (Int32 × mm_M)}  (a0 : Nat) (x1 : Int32) (x2 : Int32) (y0 : Int32) (y1 : Nat) (σ : mm_M) (hf : fX9_line_36  a0 x1 x2 y0 y1 σ = some R) : mm_J cd_Y G RX9 cX9_line 3 (some .int) ini rmX9_line A (mm_QF cd_Y G A (mm_Pi R.1 R.2) rmX9_line.cells rmX9_line.slots) 36 [(0, .ref a0), (1, .int x1), (2, .int x2)] [.int y0, .ref y1] σ 0 0 := by
  unfold fX9_line_36 at hf
  obtain ⟨hs3, hf⟩ := mm_sh_s hf
  obtain ⟨q4, hq4, hf⟩ := mm_on_s hf
  refine mm_callVi cd_ok (kX9_goes y1 y0 hq4) hs3 rfl (Or.inl tw_944) cdX9_goes tw_946 ts_31 nmX9_goes rfl rfl (by simp only [List.map_cons, List.map_nil, mm_rf_cat]; exact Nat.le_of_ble_eq_true rfl) dX9_line_36 ⟨Nat.le_of_ble_eq_true rfl, Nat.le_of_ble_eq_true rfl⟩ ⟨Nat.le_of_ble_eq_true rfl, Nat.le_of_ble_eq_true rfl⟩ ?_
  refine mm_if_eq (tgt := 61) dX9_line_39 (by decide) (fun c5 => ?_) (fun c5 => ?_)
  · rw [if_pos c5] at hf
    refine mm_iconst (v := 0) dX9_line_61 (by decide) ?_
    cases hf
    exact mm_iret rfl rfl dX9_line_62 ⟨rfl, rfl⟩
  · rw [if_neg c5] at hf
    refine mm_aload_n (j := 0) dX9_line_42 rfl rfl ?_
    obtain ⟨hs6, hf⟩ := mm_sh_s hf
    refine mm_get (c := 9) (k := 40) (v := va_rf (mm_R q4.2 a0 40)) cd_ok ⟨_, _, _, rfl, by decide, Or.inl tw_834⟩ hs6 rfl dX9_line_43 ?_
    refine mm_sipush (v := 400) dX9_line_46 (by decide) ?_
    refine mm_iload_n (j := 1) dX9_line_49 rfl rfl ?_
    refine mm_imul dX9_line_50 ?_
    refine mm_iload_n (j := 2) dX9_line_51 rfl rfl ?_
    refine mm_iadd dX9_line_52 ?_
    obtain ⟨q7, hq7, hf⟩ := mm_on_s hf
    rw [hq7, mm_rf_some]
    obtain ⟨n8, hn8, hf⟩ := mm_ar_s hf
    obtain ⟨hi9, hf⟩ := mm_ib_s hf
    refine mm_bald hn8 rfl hi9 dX9_line_53 ?_
    refine mm_sipush (v := 255) dX9_line_54 (by decide) ?_
    refine mm_iand dX9_line_57 ?_
    refine mm_goto (tgt := 62) dX9_line_58 (by decide) ?_
    cases hf
    exact mm_iret rfl rfl dX9_line_62 ⟨rfl, rfl⟩
set_option maxHeartbeats 4000000 in
set_option maxRecDepth 100000 in
theorem kX9_line_35 {G : mm_G} {A : Nat → Prop} {ini : Bool}  {R : (Int32 × mm_M)}  (a0 : Nat) (x1 : Int32) (x2 : Int32) (y0 : Nat) (σ : mm_M) (hf : fX9_line_35  a0 x1 x2 y0 σ = some R) : mm_J cd_Y G RX9 cX9_line 3 (some .int) ini rmX9_line A (mm_QF cd_Y G A (mm_Pi R.1 R.2) rmX9_line.cells rmX9_line.slots) 35 [(0, .ref a0), (1, .int x1), (2, .int x2)] [.ref y0] σ 0 0 := by
  unfold fX9_line_35 at hf
  refine mm_iconst (v := 0) dX9_line_35 (by decide) ?_
  refine mm_sub [0, 1, 2] rfl ?_
  exact kX9_line_36  a0 x1 x2 0 y0 σ hf
set_option maxHeartbeats 4000000 in
set_option maxRecDepth 100000 in
theorem kX9_line {G : mm_G} {A : Nat → Prop} (p0 : Nat) (p1 : Int32) (p2 : Int32) {σ : mm_M} {R : (Int32 × mm_M)} (hf : fX9_line p0 p1 p2 σ = some R) : mm_C cd_Y G yX9_line cX9_line 3 (some .int) rmX9_line A [.ref p0, .int p1, .int p2] σ (mm_Pi R.1 R.2) := by
  refine mm_C.of (by decide) (Nat.le_of_ble_eq_true rfl) ?_
  unfold fX9_line at hf
  have e0 : lv_args 0 [.ref p0, .int p1, .int p2] = [(0, .ref p0), (1, .int p1), (2, .int p2)] := rfl
  rw [e0]
  generalize hini : (yX9_line.name == "<init>") = ini
  clear e0
  clear hini
  refine mm_aload_n (j := 0) dX9_line_0 rfl rfl ?_
  refine mm_iload_n (j := 1) dX9_line_1 rfl rfl ?_
  refine mm_iconst (v := 0) dX9_line_2 (by decide) ?_
  refine mm_aload_n (j := 0) dX9_line_3 rfl rfl ?_
  obtain ⟨hs1, hf⟩ := mm_sh_s hf
  refine mm_get (c := 9) (k := 35) (v := .int (mm_I σ p0 35)) cd_ok ⟨_, _, _, rfl, by decide, Or.inl tw_829⟩ hs1 rfl dX9_line_4 ?_
  refine mm_iconst (v := 1) dX9_line_7 (by decide) ?_
  refine mm_isub dX9_line_8 ?_
  refine mm_callSi cd_ok (kX9_in p1 0 ((mm_I σ p0 35) - 1) _ rfl) (Or.inl tw_941) cdX9_in tw_942 nmX9_in rfl rfl (by simp only [List.map_cons, List.map_nil, mm_rf_cat]; exact Nat.le_of_ble_eq_true rfl) dX9_line_9 ⟨Nat.le_of_ble_eq_true rfl, Nat.le_of_ble_eq_true rfl⟩ ⟨Nat.le_of_ble_eq_true rfl, Nat.le_of_ble_eq_true rfl⟩ ?_
  refine mm_if_eq (tgt := 35) dX9_line_12 (by decide) (fun c2 => ?_) (fun c2 => ?_)
  · rw [if_pos c2] at hf
    refine mm_sub [0, 1, 2] rfl ?_
    exact kX9_line_35  p0 p1 p2 p0 σ hf
  · rw [if_neg c2] at hf
    refine mm_iload_n (j := 2) dX9_line_15 rfl rfl ?_
    refine mm_iconst (v := 0) dX9_line_16 (by decide) ?_
    refine mm_aload_n (j := 0) dX9_line_17 rfl rfl ?_
    refine mm_get (c := 9) (k := 39) (v := va_rf (mm_R σ p0 39)) cd_ok ⟨_, _, _, rfl, by decide, Or.inl tw_833⟩ hs1 rfl dX9_line_18 ?_
    refine mm_iload_n (j := 1) dX9_line_21 rfl rfl ?_
    obtain ⟨q10, hq10, hf⟩ := mm_on_s hf
    rw [hq10, mm_rf_some]
    obtain ⟨n11, hn11, hf⟩ := mm_ar_s hf
    obtain ⟨hi12, hf⟩ := mm_ib_s hf
    refine mm_iald hn11 rfl hi12 dX9_line_22 ?_
    refine mm_iconst (v := 1) dX9_line_23 (by decide) ?_
    refine mm_isub dX9_line_24 ?_
    refine mm_callSi cd_ok (kX9_in p2 0 ((mm_I σ q10 p1.toNatClampNeg) - 1) _ rfl) (Or.inl tw_941) cdX9_in tw_942 nmX9_in rfl rfl (by simp only [List.map_cons, List.map_nil, mm_rf_cat]; exact Nat.le_of_ble_eq_true rfl) dX9_line_25 ⟨Nat.le_of_ble_eq_true rfl, Nat.le_of_ble_eq_true rfl⟩ ⟨Nat.le_of_ble_eq_true rfl, Nat.le_of_ble_eq_true rfl⟩ ?_
    refine mm_if_eq (tgt := 35) dX9_line_28 (by decide) (fun c13 => ?_) (fun c13 => ?_)
    · rw [if_pos c13] at hf
      refine mm_sub [0, 1, 2] rfl ?_
      exact kX9_line_35  p0 p1 p2 p0 σ hf
    · rw [if_neg c13] at hf
      refine mm_iconst (v := 1) dX9_line_31 (by decide) ?_
      refine mm_goto (tgt := 36) dX9_line_32 (by decide) ?_
      refine mm_sub [0, 1, 2] rfl ?_
      exact kX9_line_36  p0 p1 p2 1 p0 σ hf
theorem dJ6_bitCount_0f7a4_0 : decode cJ6_bitCount_0f7a4 0 = .ok (.iload_n 0, 1) := by decide +kernel
theorem dJ6_bitCount_0f7a4_1 : decode cJ6_bitCount_0f7a4 1 = .ok (.iload_n 0, 1) := by decide +kernel
theorem dJ6_bitCount_0f7a4_2 : decode cJ6_bitCount_0f7a4 2 = .ok (.iconst 1, 1) := by decide +kernel
theorem dJ6_bitCount_0f7a4_3 : decode cJ6_bitCount_0f7a4 3 = .ok (.iushr, 1) := by decide +kernel
theorem dJ6_bitCount_0f7a4_4 : decode cJ6_bitCount_0f7a4 4 = .ok (.ldc_w 265, 3) := by decide +kernel
theorem dJ6_bitCount_0f7a4_7 : decode cJ6_bitCount_0f7a4 7 = .ok (.iand, 1) := by decide +kernel
theorem dJ6_bitCount_0f7a4_8 : decode cJ6_bitCount_0f7a4 8 = .ok (.isub, 1) := by decide +kernel
theorem dJ6_bitCount_0f7a4_9 : decode cJ6_bitCount_0f7a4 9 = .ok (.istore_n 0, 1) := by decide +kernel
theorem dJ6_bitCount_0f7a4_10 : decode cJ6_bitCount_0f7a4 10 = .ok (.iload_n 0, 1) := by decide +kernel
theorem dJ6_bitCount_0f7a4_11 : decode cJ6_bitCount_0f7a4 11 = .ok (.ldc_w 266, 3) := by decide +kernel
theorem dJ6_bitCount_0f7a4_14 : decode cJ6_bitCount_0f7a4 14 = .ok (.iand, 1) := by decide +kernel
theorem dJ6_bitCount_0f7a4_15 : decode cJ6_bitCount_0f7a4 15 = .ok (.iload_n 0, 1) := by decide +kernel
theorem dJ6_bitCount_0f7a4_16 : decode cJ6_bitCount_0f7a4 16 = .ok (.iconst 2, 1) := by decide +kernel
theorem dJ6_bitCount_0f7a4_17 : decode cJ6_bitCount_0f7a4 17 = .ok (.iushr, 1) := by decide +kernel
theorem dJ6_bitCount_0f7a4_18 : decode cJ6_bitCount_0f7a4 18 = .ok (.ldc_w 266, 3) := by decide +kernel
theorem dJ6_bitCount_0f7a4_21 : decode cJ6_bitCount_0f7a4 21 = .ok (.iand, 1) := by decide +kernel
theorem dJ6_bitCount_0f7a4_22 : decode cJ6_bitCount_0f7a4 22 = .ok (.iadd, 1) := by decide +kernel
theorem dJ6_bitCount_0f7a4_23 : decode cJ6_bitCount_0f7a4 23 = .ok (.istore_n 0, 1) := by decide +kernel
theorem dJ6_bitCount_0f7a4_24 : decode cJ6_bitCount_0f7a4 24 = .ok (.iload_n 0, 1) := by decide +kernel
theorem dJ6_bitCount_0f7a4_25 : decode cJ6_bitCount_0f7a4 25 = .ok (.iload_n 0, 1) := by decide +kernel
theorem dJ6_bitCount_0f7a4_26 : decode cJ6_bitCount_0f7a4 26 = .ok (.iconst 4, 1) := by decide +kernel
theorem dJ6_bitCount_0f7a4_27 : decode cJ6_bitCount_0f7a4 27 = .ok (.iushr, 1) := by decide +kernel
theorem dJ6_bitCount_0f7a4_28 : decode cJ6_bitCount_0f7a4 28 = .ok (.iadd, 1) := by decide +kernel
theorem dJ6_bitCount_0f7a4_29 : decode cJ6_bitCount_0f7a4 29 = .ok (.ldc_w 267, 3) := by decide +kernel
theorem dJ6_bitCount_0f7a4_32 : decode cJ6_bitCount_0f7a4 32 = .ok (.iand, 1) := by decide +kernel
theorem dJ6_bitCount_0f7a4_33 : decode cJ6_bitCount_0f7a4 33 = .ok (.istore_n 0, 1) := by decide +kernel
theorem dJ6_bitCount_0f7a4_34 : decode cJ6_bitCount_0f7a4 34 = .ok (.iload_n 0, 1) := by decide +kernel
theorem dJ6_bitCount_0f7a4_35 : decode cJ6_bitCount_0f7a4 35 = .ok (.iload_n 0, 1) := by decide +kernel
theorem dJ6_bitCount_0f7a4_36 : decode cJ6_bitCount_0f7a4 36 = .ok (.bipush 8, 2) := by decide +kernel
theorem dJ6_bitCount_0f7a4_38 : decode cJ6_bitCount_0f7a4 38 = .ok (.iushr, 1) := by decide +kernel
theorem dJ6_bitCount_0f7a4_39 : decode cJ6_bitCount_0f7a4 39 = .ok (.iadd, 1) := by decide +kernel
theorem dJ6_bitCount_0f7a4_40 : decode cJ6_bitCount_0f7a4 40 = .ok (.istore_n 0, 1) := by decide +kernel
theorem dJ6_bitCount_0f7a4_41 : decode cJ6_bitCount_0f7a4 41 = .ok (.iload_n 0, 1) := by decide +kernel
theorem dJ6_bitCount_0f7a4_42 : decode cJ6_bitCount_0f7a4 42 = .ok (.iload_n 0, 1) := by decide +kernel
theorem dJ6_bitCount_0f7a4_43 : decode cJ6_bitCount_0f7a4 43 = .ok (.bipush 16, 2) := by decide +kernel
theorem dJ6_bitCount_0f7a4_45 : decode cJ6_bitCount_0f7a4 45 = .ok (.iushr, 1) := by decide +kernel
theorem dJ6_bitCount_0f7a4_46 : decode cJ6_bitCount_0f7a4 46 = .ok (.iadd, 1) := by decide +kernel
theorem dJ6_bitCount_0f7a4_47 : decode cJ6_bitCount_0f7a4 47 = .ok (.istore_n 0, 1) := by decide +kernel
theorem dJ6_bitCount_0f7a4_48 : decode cJ6_bitCount_0f7a4 48 = .ok (.iload_n 0, 1) := by decide +kernel
theorem dJ6_bitCount_0f7a4_49 : decode cJ6_bitCount_0f7a4 49 = .ok (.bipush 63, 2) := by decide +kernel
theorem dJ6_bitCount_0f7a4_51 : decode cJ6_bitCount_0f7a4 51 = .ok (.iand, 1) := by decide +kernel
theorem dJ6_bitCount_0f7a4_52 : decode cJ6_bitCount_0f7a4 52 = .ok (.ireturn, 1) := by decide +kernel
theorem nmJ6_bitCount_0f7a4 : mm_nm yJ6_bitCount_0f7a4 1 := ⟨by decide, by decide, by decide +kernel⟩
theorem cdJ6_bitCount_0f7a4 : mm_cd cd_Y yJ6_bitCount_0f7a4 cJ6_bitCount_0f7a4 1 (some .int) := ⟨tw_195, tw_13⟩
abbrev rmJ6_bitCount_0f7a4 : Room := { frames := 0, cells := 0, slots := 0, locals := 0 }
def fJ6_bitCount_0f7a4 (p0 : Int32) : Int32 :=
  (((((((p0 - (((p0.toUInt32 >>> (Int32.toUInt32 1 &&& Int32.toUInt32 31)).toInt32) &&& (1431655765 : Int32))) &&& (858993459 : Int32)) + ((((p0 - (((p0.toUInt32 >>> (Int32.toUInt32 1 &&& Int32.toUInt32 31)).toInt32) &&& (1431655765 : Int32))).toUInt32 >>> (Int32.toUInt32 2 &&& Int32.toUInt32 31)).toInt32) &&& (858993459 : Int32))) + (((((p0 - (((p0.toUInt32 >>> (Int32.toUInt32 1 &&& Int32.toUInt32 31)).toInt32) &&& (1431655765 : Int32))) &&& (858993459 : Int32)) + ((((p0 - (((p0.toUInt32 >>> (Int32.toUInt32 1 &&& Int32.toUInt32 31)).toInt32) &&& (1431655765 : Int32))).toUInt32 >>> (Int32.toUInt32 2 &&& Int32.toUInt32 31)).toInt32) &&& (858993459 : Int32))).toUInt32 >>> (Int32.toUInt32 4 &&& Int32.toUInt32 31)).toInt32)) &&& (252645135 : Int32)) + (((((((p0 - (((p0.toUInt32 >>> (Int32.toUInt32 1 &&& Int32.toUInt32 31)).toInt32) &&& (1431655765 : Int32))) &&& (858993459 : Int32)) + ((((p0 - (((p0.toUInt32 >>> (Int32.toUInt32 1 &&& Int32.toUInt32 31)).toInt32) &&& (1431655765 : Int32))).toUInt32 >>> (Int32.toUInt32 2 &&& Int32.toUInt32 31)).toInt32) &&& (858993459 : Int32))) + (((((p0 - (((p0.toUInt32 >>> (Int32.toUInt32 1 &&& Int32.toUInt32 31)).toInt32) &&& (1431655765 : Int32))) &&& (858993459 : Int32)) + ((((p0 - (((p0.toUInt32 >>> (Int32.toUInt32 1 &&& Int32.toUInt32 31)).toInt32) &&& (1431655765 : Int32))).toUInt32 >>> (Int32.toUInt32 2 &&& Int32.toUInt32 31)).toInt32) &&& (858993459 : Int32))).toUInt32 >>> (Int32.toUInt32 4 &&& Int32.toUInt32 31)).toInt32)) &&& (252645135 : Int32)).toUInt32 >>> (Int32.toUInt32 8 &&& Int32.toUInt32 31)).toInt32)) + ((((((((p0 - (((p0.toUInt32 >>> (Int32.toUInt32 1 &&& Int32.toUInt32 31)).toInt32) &&& (1431655765 : Int32))) &&& (858993459 : Int32)) + ((((p0 - (((p0.toUInt32 >>> (Int32.toUInt32 1 &&& Int32.toUInt32 31)).toInt32) &&& (1431655765 : Int32))).toUInt32 >>> (Int32.toUInt32 2 &&& Int32.toUInt32 31)).toInt32) &&& (858993459 : Int32))) + (((((p0 - (((p0.toUInt32 >>> (Int32.toUInt32 1 &&& Int32.toUInt32 31)).toInt32) &&& (1431655765 : Int32))) &&& (858993459 : Int32)) + ((((p0 - (((p0.toUInt32 >>> (Int32.toUInt32 1 &&& Int32.toUInt32 31)).toInt32) &&& (1431655765 : Int32))).toUInt32 >>> (Int32.toUInt32 2 &&& Int32.toUInt32 31)).toInt32) &&& (858993459 : Int32))).toUInt32 >>> (Int32.toUInt32 4 &&& Int32.toUInt32 31)).toInt32)) &&& (252645135 : Int32)) + (((((((p0 - (((p0.toUInt32 >>> (Int32.toUInt32 1 &&& Int32.toUInt32 31)).toInt32) &&& (1431655765 : Int32))) &&& (858993459 : Int32)) + ((((p0 - (((p0.toUInt32 >>> (Int32.toUInt32 1 &&& Int32.toUInt32 31)).toInt32) &&& (1431655765 : Int32))).toUInt32 >>> (Int32.toUInt32 2 &&& Int32.toUInt32 31)).toInt32) &&& (858993459 : Int32))) + (((((p0 - (((p0.toUInt32 >>> (Int32.toUInt32 1 &&& Int32.toUInt32 31)).toInt32) &&& (1431655765 : Int32))) &&& (858993459 : Int32)) + ((((p0 - (((p0.toUInt32 >>> (Int32.toUInt32 1 &&& Int32.toUInt32 31)).toInt32) &&& (1431655765 : Int32))).toUInt32 >>> (Int32.toUInt32 2 &&& Int32.toUInt32 31)).toInt32) &&& (858993459 : Int32))).toUInt32 >>> (Int32.toUInt32 4 &&& Int32.toUInt32 31)).toInt32)) &&& (252645135 : Int32)).toUInt32 >>> (Int32.toUInt32 8 &&& Int32.toUInt32 31)).toInt32)).toUInt32 >>> (Int32.toUInt32 16 &&& Int32.toUInt32 31)).toInt32)) &&& 63
set_option maxHeartbeats 4000000 in
set_option maxRecDepth 100000 in
theorem kJ6_bitCount_0f7a4 {G : mm_G} {A : Nat → Prop} (p0 : Int32) (σ0 : mm_M) {R : Int32} (hf : fJ6_bitCount_0f7a4 p0 = R) : mm_C cd_Y G yJ6_bitCount_0f7a4 cJ6_bitCount_0f7a4 1 (some .int) rmJ6_bitCount_0f7a4 A [.int p0] σ0 (mm_Pi R σ0) := by
  refine mm_C.of (by decide) (Nat.le_of_ble_eq_true rfl) ?_
  unfold fJ6_bitCount_0f7a4 at hf
  have e0 : lv_args 0 [.int p0] = [(0, .int p0)] := rfl
  rw [e0]
  generalize hini : (yJ6_bitCount_0f7a4.name == "<init>") = ini
  clear e0
  clear hini
  refine mm_iload_n (j := 0) dJ6_bitCount_0f7a4_0 rfl rfl ?_
  refine mm_iload_n (j := 0) dJ6_bitCount_0f7a4_1 rfl rfl ?_
  refine mm_iconst (v := 1) dJ6_bitCount_0f7a4_2 (by decide) ?_
  refine mm_iushr dJ6_bitCount_0f7a4_3 ?_
  refine mm_ldc_w tw_196 dJ6_bitCount_0f7a4_4 ?_
  refine mm_iand dJ6_bitCount_0f7a4_7 ?_
  refine mm_isub dJ6_bitCount_0f7a4_8 ?_
  refine mm_istore_n (L' := [(0, .int (p0 - (((p0.toUInt32 >>> (Int32.toUInt32 1 &&& Int32.toUInt32 31)).toInt32) &&& (1431655765 : Int32))))]) dJ6_bitCount_0f7a4_9 rfl (by decide) rfl ?_
  refine mm_iload_n (j := 0) dJ6_bitCount_0f7a4_10 rfl rfl ?_
  refine mm_ldc_w tw_197 dJ6_bitCount_0f7a4_11 ?_
  refine mm_iand dJ6_bitCount_0f7a4_14 ?_
  refine mm_iload_n (j := 0) dJ6_bitCount_0f7a4_15 rfl rfl ?_
  refine mm_iconst (v := 2) dJ6_bitCount_0f7a4_16 (by decide) ?_
  refine mm_iushr dJ6_bitCount_0f7a4_17 ?_
  refine mm_ldc_w tw_197 dJ6_bitCount_0f7a4_18 ?_
  refine mm_iand dJ6_bitCount_0f7a4_21 ?_
  refine mm_iadd dJ6_bitCount_0f7a4_22 ?_
  refine mm_istore_n (L' := [(0, .int (((p0 - (((p0.toUInt32 >>> (Int32.toUInt32 1 &&& Int32.toUInt32 31)).toInt32) &&& (1431655765 : Int32))) &&& (858993459 : Int32)) + ((((p0 - (((p0.toUInt32 >>> (Int32.toUInt32 1 &&& Int32.toUInt32 31)).toInt32) &&& (1431655765 : Int32))).toUInt32 >>> (Int32.toUInt32 2 &&& Int32.toUInt32 31)).toInt32) &&& (858993459 : Int32))))]) dJ6_bitCount_0f7a4_23 rfl (by decide) rfl ?_
  refine mm_iload_n (j := 0) dJ6_bitCount_0f7a4_24 rfl rfl ?_
  refine mm_iload_n (j := 0) dJ6_bitCount_0f7a4_25 rfl rfl ?_
  refine mm_iconst (v := 4) dJ6_bitCount_0f7a4_26 (by decide) ?_
  refine mm_iushr dJ6_bitCount_0f7a4_27 ?_
  refine mm_iadd dJ6_bitCount_0f7a4_28 ?_
  refine mm_ldc_w tw_198 dJ6_bitCount_0f7a4_29 ?_
  refine mm_iand dJ6_bitCount_0f7a4_32 ?_
  refine mm_istore_n (L' := [(0, .int (((((p0 - (((p0.toUInt32 >>> (Int32.toUInt32 1 &&& Int32.toUInt32 31)).toInt32) &&& (1431655765 : Int32))) &&& (858993459 : Int32)) + ((((p0 - (((p0.toUInt32 >>> (Int32.toUInt32 1 &&& Int32.toUInt32 31)).toInt32) &&& (1431655765 : Int32))).toUInt32 >>> (Int32.toUInt32 2 &&& Int32.toUInt32 31)).toInt32) &&& (858993459 : Int32))) + (((((p0 - (((p0.toUInt32 >>> (Int32.toUInt32 1 &&& Int32.toUInt32 31)).toInt32) &&& (1431655765 : Int32))) &&& (858993459 : Int32)) + ((((p0 - (((p0.toUInt32 >>> (Int32.toUInt32 1 &&& Int32.toUInt32 31)).toInt32) &&& (1431655765 : Int32))).toUInt32 >>> (Int32.toUInt32 2 &&& Int32.toUInt32 31)).toInt32) &&& (858993459 : Int32))).toUInt32 >>> (Int32.toUInt32 4 &&& Int32.toUInt32 31)).toInt32)) &&& (252645135 : Int32)))]) dJ6_bitCount_0f7a4_33 rfl (by decide) rfl ?_
  refine mm_iload_n (j := 0) dJ6_bitCount_0f7a4_34 rfl rfl ?_
  refine mm_iload_n (j := 0) dJ6_bitCount_0f7a4_35 rfl rfl ?_
  refine mm_bipush (v := 8) dJ6_bitCount_0f7a4_36 (by decide) ?_
  refine mm_iushr dJ6_bitCount_0f7a4_38 ?_
  refine mm_iadd dJ6_bitCount_0f7a4_39 ?_
  refine mm_istore_n (L' := [(0, .int ((((((p0 - (((p0.toUInt32 >>> (Int32.toUInt32 1 &&& Int32.toUInt32 31)).toInt32) &&& (1431655765 : Int32))) &&& (858993459 : Int32)) + ((((p0 - (((p0.toUInt32 >>> (Int32.toUInt32 1 &&& Int32.toUInt32 31)).toInt32) &&& (1431655765 : Int32))).toUInt32 >>> (Int32.toUInt32 2 &&& Int32.toUInt32 31)).toInt32) &&& (858993459 : Int32))) + (((((p0 - (((p0.toUInt32 >>> (Int32.toUInt32 1 &&& Int32.toUInt32 31)).toInt32) &&& (1431655765 : Int32))) &&& (858993459 : Int32)) + ((((p0 - (((p0.toUInt32 >>> (Int32.toUInt32 1 &&& Int32.toUInt32 31)).toInt32) &&& (1431655765 : Int32))).toUInt32 >>> (Int32.toUInt32 2 &&& Int32.toUInt32 31)).toInt32) &&& (858993459 : Int32))).toUInt32 >>> (Int32.toUInt32 4 &&& Int32.toUInt32 31)).toInt32)) &&& (252645135 : Int32)) + (((((((p0 - (((p0.toUInt32 >>> (Int32.toUInt32 1 &&& Int32.toUInt32 31)).toInt32) &&& (1431655765 : Int32))) &&& (858993459 : Int32)) + ((((p0 - (((p0.toUInt32 >>> (Int32.toUInt32 1 &&& Int32.toUInt32 31)).toInt32) &&& (1431655765 : Int32))).toUInt32 >>> (Int32.toUInt32 2 &&& Int32.toUInt32 31)).toInt32) &&& (858993459 : Int32))) + (((((p0 - (((p0.toUInt32 >>> (Int32.toUInt32 1 &&& Int32.toUInt32 31)).toInt32) &&& (1431655765 : Int32))) &&& (858993459 : Int32)) + ((((p0 - (((p0.toUInt32 >>> (Int32.toUInt32 1 &&& Int32.toUInt32 31)).toInt32) &&& (1431655765 : Int32))).toUInt32 >>> (Int32.toUInt32 2 &&& Int32.toUInt32 31)).toInt32) &&& (858993459 : Int32))).toUInt32 >>> (Int32.toUInt32 4 &&& Int32.toUInt32 31)).toInt32)) &&& (252645135 : Int32)).toUInt32 >>> (Int32.toUInt32 8 &&& Int32.toUInt32 31)).toInt32)))]) dJ6_bitCount_0f7a4_40 rfl (by decide) rfl ?_
  refine mm_iload_n (j := 0) dJ6_bitCount_0f7a4_41 rfl rfl ?_
  refine mm_iload_n (j := 0) dJ6_bitCount_0f7a4_42 rfl rfl ?_
  refine mm_bipush (v := 16) dJ6_bitCount_0f7a4_43 (by decide) ?_
  refine mm_iushr dJ6_bitCount_0f7a4_45 ?_
  refine mm_iadd dJ6_bitCount_0f7a4_46 ?_
  refine mm_istore_n (L' := [(0, .int (((((((p0 - (((p0.toUInt32 >>> (Int32.toUInt32 1 &&& Int32.toUInt32 31)).toInt32) &&& (1431655765 : Int32))) &&& (858993459 : Int32)) + ((((p0 - (((p0.toUInt32 >>> (Int32.toUInt32 1 &&& Int32.toUInt32 31)).toInt32) &&& (1431655765 : Int32))).toUInt32 >>> (Int32.toUInt32 2 &&& Int32.toUInt32 31)).toInt32) &&& (858993459 : Int32))) + (((((p0 - (((p0.toUInt32 >>> (Int32.toUInt32 1 &&& Int32.toUInt32 31)).toInt32) &&& (1431655765 : Int32))) &&& (858993459 : Int32)) + ((((p0 - (((p0.toUInt32 >>> (Int32.toUInt32 1 &&& Int32.toUInt32 31)).toInt32) &&& (1431655765 : Int32))).toUInt32 >>> (Int32.toUInt32 2 &&& Int32.toUInt32 31)).toInt32) &&& (858993459 : Int32))).toUInt32 >>> (Int32.toUInt32 4 &&& Int32.toUInt32 31)).toInt32)) &&& (252645135 : Int32)) + (((((((p0 - (((p0.toUInt32 >>> (Int32.toUInt32 1 &&& Int32.toUInt32 31)).toInt32) &&& (1431655765 : Int32))) &&& (858993459 : Int32)) + ((((p0 - (((p0.toUInt32 >>> (Int32.toUInt32 1 &&& Int32.toUInt32 31)).toInt32) &&& (1431655765 : Int32))).toUInt32 >>> (Int32.toUInt32 2 &&& Int32.toUInt32 31)).toInt32) &&& (858993459 : Int32))) + (((((p0 - (((p0.toUInt32 >>> (Int32.toUInt32 1 &&& Int32.toUInt32 31)).toInt32) &&& (1431655765 : Int32))) &&& (858993459 : Int32)) + ((((p0 - (((p0.toUInt32 >>> (Int32.toUInt32 1 &&& Int32.toUInt32 31)).toInt32) &&& (1431655765 : Int32))).toUInt32 >>> (Int32.toUInt32 2 &&& Int32.toUInt32 31)).toInt32) &&& (858993459 : Int32))).toUInt32 >>> (Int32.toUInt32 4 &&& Int32.toUInt32 31)).toInt32)) &&& (252645135 : Int32)).toUInt32 >>> (Int32.toUInt32 8 &&& Int32.toUInt32 31)).toInt32)) + ((((((((p0 - (((p0.toUInt32 >>> (Int32.toUInt32 1 &&& Int32.toUInt32 31)).toInt32) &&& (1431655765 : Int32))) &&& (858993459 : Int32)) + ((((p0 - (((p0.toUInt32 >>> (Int32.toUInt32 1 &&& Int32.toUInt32 31)).toInt32) &&& (1431655765 : Int32))).toUInt32 >>> (Int32.toUInt32 2 &&& Int32.toUInt32 31)).toInt32) &&& (858993459 : Int32))) + (((((p0 - (((p0.toUInt32 >>> (Int32.toUInt32 1 &&& Int32.toUInt32 31)).toInt32) &&& (1431655765 : Int32))) &&& (858993459 : Int32)) + ((((p0 - (((p0.toUInt32 >>> (Int32.toUInt32 1 &&& Int32.toUInt32 31)).toInt32) &&& (1431655765 : Int32))).toUInt32 >>> (Int32.toUInt32 2 &&& Int32.toUInt32 31)).toInt32) &&& (858993459 : Int32))).toUInt32 >>> (Int32.toUInt32 4 &&& Int32.toUInt32 31)).toInt32)) &&& (252645135 : Int32)) + (((((((p0 - (((p0.toUInt32 >>> (Int32.toUInt32 1 &&& Int32.toUInt32 31)).toInt32) &&& (1431655765 : Int32))) &&& (858993459 : Int32)) + ((((p0 - (((p0.toUInt32 >>> (Int32.toUInt32 1 &&& Int32.toUInt32 31)).toInt32) &&& (1431655765 : Int32))).toUInt32 >>> (Int32.toUInt32 2 &&& Int32.toUInt32 31)).toInt32) &&& (858993459 : Int32))) + (((((p0 - (((p0.toUInt32 >>> (Int32.toUInt32 1 &&& Int32.toUInt32 31)).toInt32) &&& (1431655765 : Int32))) &&& (858993459 : Int32)) + ((((p0 - (((p0.toUInt32 >>> (Int32.toUInt32 1 &&& Int32.toUInt32 31)).toInt32) &&& (1431655765 : Int32))).toUInt32 >>> (Int32.toUInt32 2 &&& Int32.toUInt32 31)).toInt32) &&& (858993459 : Int32))).toUInt32 >>> (Int32.toUInt32 4 &&& Int32.toUInt32 31)).toInt32)) &&& (252645135 : Int32)).toUInt32 >>> (Int32.toUInt32 8 &&& Int32.toUInt32 31)).toInt32)).toUInt32 >>> (Int32.toUInt32 16 &&& Int32.toUInt32 31)).toInt32)))]) dJ6_bitCount_0f7a4_47 rfl (by decide) rfl ?_
  refine mm_iload_n (j := 0) dJ6_bitCount_0f7a4_48 rfl rfl ?_
  refine mm_bipush (v := 63) dJ6_bitCount_0f7a4_49 (by decide) ?_
  refine mm_iand dJ6_bitCount_0f7a4_51 ?_
  subst hf
  exact mm_iret rfl rfl dJ6_bitCount_0f7a4_52 ⟨rfl, rfl⟩
theorem dX2_addRow_0 : decode cX2_addRow 0 = .ok (.iload_n 2, 1) := by decide +kernel
theorem dX2_addRow_1 : decode cX2_addRow 1 = .ok (.ifCond .lt 11, 3) := by decide +kernel
theorem dX2_addRow_4 : decode cX2_addRow 4 = .ok (.iload_n 2, 1) := by decide +kernel
theorem dX2_addRow_5 : decode cX2_addRow 5 = .ok (.iload_n 3, 1) := by decide +kernel
theorem dX2_addRow_6 : decode cX2_addRow 6 = .ok (.iadd, 1) := by decide +kernel
theorem dX2_addRow_7 : decode cX2_addRow 7 = .ok (.aload_n 1, 1) := by decide +kernel
theorem dX2_addRow_8 : decode cX2_addRow 8 = .ok (.arraylength, 1) := by decide +kernel
theorem dX2_addRow_9 : decode cX2_addRow 9 = .ok (.if_icmp .le 4, 3) := by decide +kernel
theorem dX2_addRow_12 : decode cX2_addRow 12 = .ok (.return_, 1) := by decide +kernel
theorem dX2_addRow_13 : decode cX2_addRow 13 = .ok (.iload_n 2, 1) := by decide +kernel
theorem dX2_addRow_14 : decode cX2_addRow 14 = .ok (.istore 4, 2) := by decide +kernel
theorem dX2_addRow_16 : decode cX2_addRow 16 = .ok (.iload 4, 2) := by decide +kernel
theorem dX2_addRow_18 : decode cX2_addRow 18 = .ok (.iload_n 2, 1) := by decide +kernel
theorem dX2_addRow_19 : decode cX2_addRow 19 = .ok (.iload_n 3, 1) := by decide +kernel
theorem dX2_addRow_20 : decode cX2_addRow 20 = .ok (.iadd, 1) := by decide +kernel
theorem dX2_addRow_21 : decode cX2_addRow 21 = .ok (.if_icmp .ge 18, 3) := by decide +kernel
theorem dX2_addRow_24 : decode cX2_addRow 24 = .ok (.aload_n 1, 1) := by decide +kernel
theorem dX2_addRow_25 : decode cX2_addRow 25 = .ok (.iload 4, 2) := by decide +kernel
theorem dX2_addRow_27 : decode cX2_addRow 27 = .ok (.iaload, 1) := by decide +kernel
theorem dX2_addRow_28 : decode cX2_addRow 28 = .ok (.bipush 32, 2) := by decide +kernel
theorem dX2_addRow_30 : decode cX2_addRow 30 = .ok (.if_icmp .gt 9, 3) := by decide +kernel
theorem dX2_addRow_33 : decode cX2_addRow 33 = .ok (.iinc 4 1, 3) := by decide +kernel
theorem dX2_addRow_36 : decode cX2_addRow 36 = .ok (.goto (-20), 3) := by decide +kernel
theorem dX2_addRow_39 : decode cX2_addRow 39 = .ok (.iload_n 2, 1) := by decide +kernel
theorem dX2_addRow_40 : decode cX2_addRow 40 = .ok (.iload_n 3, 1) := by decide +kernel
theorem dX2_addRow_41 : decode cX2_addRow 41 = .ok (.iadd, 1) := by decide +kernel
theorem dX2_addRow_42 : decode cX2_addRow 42 = .ok (.iconst 1, 1) := by decide +kernel
theorem dX2_addRow_43 : decode cX2_addRow 43 = .ok (.isub, 1) := by decide +kernel
theorem dX2_addRow_44 : decode cX2_addRow 44 = .ok (.istore 5, 2) := by decide +kernel
theorem dX2_addRow_46 : decode cX2_addRow 46 = .ok (.iload 5, 2) := by decide +kernel
theorem dX2_addRow_48 : decode cX2_addRow 48 = .ok (.iload 4, 2) := by decide +kernel
theorem dX2_addRow_50 : decode cX2_addRow 50 = .ok (.if_icmp .lt 18, 3) := by decide +kernel
theorem dX2_addRow_53 : decode cX2_addRow 53 = .ok (.aload_n 1, 1) := by decide +kernel
theorem dX2_addRow_54 : decode cX2_addRow 54 = .ok (.iload 5, 2) := by decide +kernel
theorem dX2_addRow_56 : decode cX2_addRow 56 = .ok (.iaload, 1) := by decide +kernel
theorem dX2_addRow_57 : decode cX2_addRow 57 = .ok (.bipush 32, 2) := by decide +kernel
theorem dX2_addRow_59 : decode cX2_addRow 59 = .ok (.if_icmp .gt 9, 3) := by decide +kernel
theorem dX2_addRow_62 : decode cX2_addRow 62 = .ok (.iinc 5 (-1), 3) := by decide +kernel
theorem dX2_addRow_65 : decode cX2_addRow 65 = .ok (.goto (-19), 3) := by decide +kernel
theorem dX2_addRow_68 : decode cX2_addRow 68 = .ok (.iload 5, 2) := by decide +kernel
theorem dX2_addRow_70 : decode cX2_addRow 70 = .ok (.iload 4, 2) := by decide +kernel
theorem dX2_addRow_72 : decode cX2_addRow 72 = .ok (.if_icmp .ge 4, 3) := by decide +kernel
theorem dX2_addRow_75 : decode cX2_addRow 75 = .ok (.return_, 1) := by decide +kernel
theorem dX2_addRow_76 : decode cX2_addRow 76 = .ok (.iload 4, 2) := by decide +kernel
theorem dX2_addRow_78 : decode cX2_addRow 78 = .ok (.istore 6, 2) := by decide +kernel
theorem dX2_addRow_80 : decode cX2_addRow 80 = .ok (.iload 6, 2) := by decide +kernel
theorem dX2_addRow_82 : decode cX2_addRow 82 = .ok (.iload 5, 2) := by decide +kernel
theorem dX2_addRow_84 : decode cX2_addRow 84 = .ok (.if_icmp .gt 26, 3) := by decide +kernel
theorem dX2_addRow_87 : decode cX2_addRow 87 = .ok (.aload_n 0, 1) := by decide +kernel
theorem dX2_addRow_88 : decode cX2_addRow 88 = .ok (.aload_n 1, 1) := by decide +kernel
theorem dX2_addRow_89 : decode cX2_addRow 89 = .ok (.iload 6, 2) := by decide +kernel
theorem dX2_addRow_91 : decode cX2_addRow 91 = .ok (.iaload, 1) := by decide +kernel
theorem dX2_addRow_92 : decode cX2_addRow 92 = .ok (.bipush 32, 2) := by decide +kernel
theorem dX2_addRow_94 : decode cX2_addRow 94 = .ok (.invokestatic 15, 3) := by decide +kernel
theorem dX2_addRow_97 : decode cX2_addRow 97 = .ok (.sipush 255, 3) := by decide +kernel
theorem dX2_addRow_100 : decode cX2_addRow 100 = .ok (.iand, 1) := by decide +kernel
theorem dX2_addRow_101 : decode cX2_addRow 101 = .ok (.invokevirtual 21, 3) := by decide +kernel
theorem dX2_addRow_104 : decode cX2_addRow 104 = .ok (.iinc 6 1, 3) := by decide +kernel
theorem dX2_addRow_107 : decode cX2_addRow 107 = .ok (.goto (-27), 3) := by decide +kernel
theorem dX2_addRow_110 : decode cX2_addRow 110 = .ok (.aload_n 0, 1) := by decide +kernel
theorem dX2_addRow_111 : decode cX2_addRow 111 = .ok (.bipush 10, 2) := by decide +kernel
theorem dX2_addRow_113 : decode cX2_addRow 113 = .ok (.invokevirtual 21, 3) := by decide +kernel
theorem dX2_addRow_116 : decode cX2_addRow 116 = .ok (.return_, 1) := by decide +kernel
theorem nmX2_addRow : mm_nm yX2_addRow 3 := ⟨by decide, by decide, by decide +kernel⟩
theorem cdX2_addRow : mm_cd cd_Y yX2_addRow cX2_addRow 7 none := ⟨tw_719, tw_5⟩
abbrev rmX2_addRow : Room := { frames := 1, cells := 0, slots := 0, locals := 21 }
def fX2_addRow_80  : Nat → Nat → Nat → Int32 → Int32 → Int32 → Int32 → Int32 → mm_M → Option mm_M
  | 0 => fun _ _ _ _ _ _ _ _ => none
  | n + 1 => fun a0 a1 x2 x3 x4 x5 x6 σ =>
  (if x5 < x6 then mm_sh σ a0 (.inl 2) (mm_on (fX2_addByte a0 10 σ) fun q9 => some (q9)) else mm_ar σ a1 0 fun n10 => mm_ib x6 n10 (mm_sh σ a0 (.inl 2) (mm_on (fX2_addByte a0 ((if (mm_I σ a1 x6.toNatClampNeg) < 32 then 32 else (mm_I σ a1 x6.toNatClampNeg)) &&& 255) σ) fun q13 => (fX2_addRow_80  n a0 a1 x2 x3 x4 x5 (x6 + 1) q13))))
def fX2_addRow_68  (a0 : Nat) (a1 : Nat) (x2 : Int32) (x3 : Int32) (x4 : Int32) (x5 : Int32) (σ : mm_M) : Option mm_M :=
  (if x4 ≤ x5 then (fX2_addRow_80  mm_fuel a0 a1 x2 x3 x4 x5 x4 σ) else some (σ))
def fX2_addRow_46  : Nat → Nat → Nat → Int32 → Int32 → Int32 → Int32 → mm_M → Option mm_M
  | 0 => fun _ _ _ _ _ _ _ => none
  | n + 1 => fun a0 a1 x2 x3 x4 x5 σ =>
  (if x5 < x4 then (fX2_addRow_68  a0 a1 x2 x3 x4 x5 σ) else mm_ar σ a1 0 fun n14 => mm_ib x5 n14 ((if 32 < (mm_I σ a1 x5.toNatClampNeg) then (fX2_addRow_68  a0 a1 x2 x3 x4 x5 σ) else (fX2_addRow_46  n a0 a1 x2 x3 x4 (x5 + (-1)) σ))))
def fX2_addRow_39  (a0 : Nat) (a1 : Nat) (x2 : Int32) (x3 : Int32) (x4 : Int32) (σ : mm_M) : Option mm_M :=
  (fX2_addRow_46  mm_fuel a0 a1 x2 x3 x4 ((x2 + x3) - 1) σ)
def fX2_addRow_16  : Nat → Nat → Nat → Int32 → Int32 → Int32 → mm_M → Option mm_M
  | 0 => fun _ _ _ _ _ _ => none
  | n + 1 => fun a0 a1 x2 x3 x4 σ =>
  (if (x2 + x3) ≤ x4 then (fX2_addRow_39  a0 a1 x2 x3 x4 σ) else mm_ar σ a1 0 fun n17 => mm_ib x4 n17 ((if 32 < (mm_I σ a1 x4.toNatClampNeg) then (fX2_addRow_39  a0 a1 x2 x3 x4 σ) else (fX2_addRow_16  n a0 a1 x2 x3 (x4 + 1) σ))))
def fX2_addRow (p0 : Nat) (p1 : Nat) (p2 : Int32) (p3 : Int32) (σ : mm_M) : Option mm_M :=
  (if p2 < 0 then some (σ) else mm_ar σ p1 0 fun n2 => (if (p2 + p3) ≤ (Int32.ofNat n2) then (fX2_addRow_16  mm_fuel p0 p1 p2 p3 p2 σ) else some (σ)))
set_option maxHeartbeats 4000000 in
set_option maxRecDepth 100000 in
theorem kX2_addRow_80 {G : mm_G} {A : Nat → Prop} {ini : Bool}  {R : mm_M}  : ∀ (a0 : Nat) (a1 : Nat) (x2 : Int32) (x3 : Int32) (x4 : Int32) (x5 : Int32) (x6 : Int32) (σ : mm_M), fX2_addRow_80  mm_fuel a0 a1 x2 x3 x4 x5 x6 σ = some R → mm_J cd_Y G RX2 cX2_addRow 7 none ini rmX2_addRow A (mm_QF cd_Y G A (mm_Pv R) rmX2_addRow.cells rmX2_addRow.slots) 80 [(0, .ref a0), (1, .ref a1), (2, .int x2), (3, .int x3), (4, .int x4), (5, .int x5), (6, .int x6)] [] σ 0 0 := by
  generalize mm_fuel = n
  induction n with
  | zero => intro a0 a1 x2 x3 x4 x5 x6 σ hf; cases hf
  | succ n ih =>
    intro a0 a1 x2 x3 x4 x5 x6 σ hf
    unfold fX2_addRow_80 at hf
    refine mm_iload (j := 6) dX2_addRow_80 rfl ?_
    refine mm_iload (j := 5) dX2_addRow_82 rfl ?_
    refine mm_icmp_gt (tgt := 110) dX2_addRow_84 (by decide) (fun c7 => ?_) (fun c7 => ?_)
    · rw [if_pos c7] at hf
      refine mm_aload_n (j := 0) dX2_addRow_110 rfl rfl ?_
      refine mm_bipush (v := 10) dX2_addRow_111 (by decide) ?_
      obtain ⟨hs8, hf⟩ := mm_sh_s hf
      obtain ⟨q9, hq9, hf⟩ := mm_on_s hf
      refine mm_callVv cd_ok (kX2_addByte a0 10 hq9) hs8 rfl (Or.inl tw_721) cdX2_addByte tw_723 ts_27 nmX2_addByte rfl rfl (by simp only [List.map_cons, List.map_nil, mm_rf_cat]; exact Nat.le_of_ble_eq_true rfl) dX2_addRow_113 ⟨Nat.le_of_ble_eq_true rfl, Nat.le_of_ble_eq_true rfl⟩ ⟨Nat.le_of_ble_eq_true rfl, Nat.le_of_ble_eq_true rfl⟩ ?_
      cases hf
      exact mm_vret rfl dX2_addRow_116 ⟨rfl, rfl⟩
    · rw [if_neg c7] at hf
      refine mm_aload_n (j := 0) dX2_addRow_87 rfl rfl ?_
      refine mm_aload_n (j := 1) dX2_addRow_88 rfl rfl ?_
      refine mm_iload (j := 6) dX2_addRow_89 rfl ?_
      obtain ⟨n10, hn10, hf⟩ := mm_ar_s hf
      obtain ⟨hi11, hf⟩ := mm_ib_s hf
      refine mm_iald hn10 rfl hi11 dX2_addRow_91 ?_
      refine mm_bipush (v := 32) dX2_addRow_92 (by decide) ?_
      refine mm_mmax tw_720 tw_358 tw_14 tw_359 (by decide) (by simp only [List.map_cons, List.map_nil, mm_rf_cat]; exact Nat.le_of_ble_eq_true rfl) (by decide) (by decide) dX2_addRow_94 ?_
      refine mm_sipush (v := 255) dX2_addRow_97 (by decide) ?_
      refine mm_iand dX2_addRow_100 ?_
      obtain ⟨hs12, hf⟩ := mm_sh_s hf
      obtain ⟨q13, hq13, hf⟩ := mm_on_s hf
      refine mm_callVv cd_ok (kX2_addByte a0 ((if (mm_I σ a1 x6.toNatClampNeg) < 32 then 32 else (mm_I σ a1 x6.toNatClampNeg)) &&& 255) hq13) hs12 rfl (Or.inl tw_721) cdX2_addByte tw_723 ts_27 nmX2_addByte rfl rfl (by simp only [List.map_cons, List.map_nil, mm_rf_cat]; exact Nat.le_of_ble_eq_true rfl) dX2_addRow_101 ⟨Nat.le_of_ble_eq_true rfl, Nat.le_of_ble_eq_true rfl⟩ ⟨Nat.le_of_ble_eq_true rfl, Nat.le_of_ble_eq_true rfl⟩ ?_
      refine mm_iinc (j := 6) (L' := [(6, .int (x6 + 1)), (0, .ref a0), (1, .ref a1), (2, .int x2), (3, .int x3), (4, .int x4), (5, .int x5)]) dX2_addRow_104 rfl rfl (by decide) rfl ?_
      refine mm_goto (tgt := 80) dX2_addRow_107 (by decide) ?_
      refine mm_sub [1, 2, 3, 4, 5, 6, 0] rfl ?_
      exact ih a0 a1 x2 x3 x4 x5 (x6 + 1) q13 hf
set_option maxHeartbeats 4000000 in
set_option maxRecDepth 100000 in
theorem kX2_addRow_68 {G : mm_G} {A : Nat → Prop} {ini : Bool}  {R : mm_M}  (a0 : Nat) (a1 : Nat) (x2 : Int32) (x3 : Int32) (x4 : Int32) (x5 : Int32) (σ : mm_M) (hf : fX2_addRow_68  a0 a1 x2 x3 x4 x5 σ = some R) : mm_J cd_Y G RX2 cX2_addRow 7 none ini rmX2_addRow A (mm_QF cd_Y G A (mm_Pv R) rmX2_addRow.cells rmX2_addRow.slots) 68 [(0, .ref a0), (1, .ref a1), (2, .int x2), (3, .int x3), (4, .int x4), (5, .int x5)] [] σ 0 0 := by
  unfold fX2_addRow_68 at hf
  refine mm_iload (j := 5) dX2_addRow_68 rfl ?_
  refine mm_iload (j := 4) dX2_addRow_70 rfl ?_
  refine mm_icmp_ge (tgt := 76) dX2_addRow_72 (by decide) (fun c6 => ?_) (fun c6 => ?_)
  · rw [if_pos c6] at hf
    refine mm_iload (j := 4) dX2_addRow_76 rfl ?_
    refine mm_istore (L' := [(6, .int x4), (0, .ref a0), (1, .ref a1), (2, .int x2), (3, .int x3), (4, .int x4), (5, .int x5)]) dX2_addRow_78 (by decide) rfl ?_
    refine mm_sub [1, 2, 3, 4, 5, 6, 0] rfl ?_
    exact kX2_addRow_80  a0 a1 x2 x3 x4 x5 x4 σ hf
  · rw [if_neg c6] at hf
    cases hf
    exact mm_vret rfl dX2_addRow_75 ⟨rfl, rfl⟩
set_option maxHeartbeats 4000000 in
set_option maxRecDepth 100000 in
theorem kX2_addRow_46 {G : mm_G} {A : Nat → Prop} {ini : Bool}  {R : mm_M}  : ∀ (a0 : Nat) (a1 : Nat) (x2 : Int32) (x3 : Int32) (x4 : Int32) (x5 : Int32) (σ : mm_M), fX2_addRow_46  mm_fuel a0 a1 x2 x3 x4 x5 σ = some R → mm_J cd_Y G RX2 cX2_addRow 7 none ini rmX2_addRow A (mm_QF cd_Y G A (mm_Pv R) rmX2_addRow.cells rmX2_addRow.slots) 46 [(0, .ref a0), (1, .ref a1), (2, .int x2), (3, .int x3), (4, .int x4), (5, .int x5)] [] σ 0 0 := by
  generalize mm_fuel = n
  induction n with
  | zero => intro a0 a1 x2 x3 x4 x5 σ hf; cases hf
  | succ n ih =>
    intro a0 a1 x2 x3 x4 x5 σ hf
    unfold fX2_addRow_46 at hf
    refine mm_iload (j := 5) dX2_addRow_46 rfl ?_
    refine mm_iload (j := 4) dX2_addRow_48 rfl ?_
    refine mm_icmp_lt (tgt := 68) dX2_addRow_50 (by decide) (fun c5 => ?_) (fun c5 => ?_)
    · rw [if_pos c5] at hf
      refine mm_sub [0, 1, 2, 3, 4, 5] rfl ?_
      exact kX2_addRow_68  a0 a1 x2 x3 x4 x5 σ hf
    · rw [if_neg c5] at hf
      refine mm_aload_n (j := 1) dX2_addRow_53 rfl rfl ?_
      refine mm_iload (j := 5) dX2_addRow_54 rfl ?_
      obtain ⟨n14, hn14, hf⟩ := mm_ar_s hf
      obtain ⟨hi15, hf⟩ := mm_ib_s hf
      refine mm_iald hn14 rfl hi15 dX2_addRow_56 ?_
      refine mm_bipush (v := 32) dX2_addRow_57 (by decide) ?_
      refine mm_icmp_gt (tgt := 68) dX2_addRow_59 (by decide) (fun c16 => ?_) (fun c16 => ?_)
      · rw [if_pos c16] at hf
        refine mm_sub [0, 1, 2, 3, 4, 5] rfl ?_
        exact kX2_addRow_68  a0 a1 x2 x3 x4 x5 σ hf
      · rw [if_neg c16] at hf
        refine mm_iinc (j := 5) (L' := [(5, .int (x5 + (-1))), (0, .ref a0), (1, .ref a1), (2, .int x2), (3, .int x3), (4, .int x4)]) dX2_addRow_62 rfl rfl (by decide) rfl ?_
        refine mm_goto (tgt := 46) dX2_addRow_65 (by decide) ?_
        refine mm_sub [1, 2, 3, 4, 5, 0] rfl ?_
        exact ih a0 a1 x2 x3 x4 (x5 + (-1)) σ hf
set_option maxHeartbeats 4000000 in
set_option maxRecDepth 100000 in
theorem kX2_addRow_39 {G : mm_G} {A : Nat → Prop} {ini : Bool}  {R : mm_M}  (a0 : Nat) (a1 : Nat) (x2 : Int32) (x3 : Int32) (x4 : Int32) (σ : mm_M) (hf : fX2_addRow_39  a0 a1 x2 x3 x4 σ = some R) : mm_J cd_Y G RX2 cX2_addRow 7 none ini rmX2_addRow A (mm_QF cd_Y G A (mm_Pv R) rmX2_addRow.cells rmX2_addRow.slots) 39 [(0, .ref a0), (1, .ref a1), (2, .int x2), (3, .int x3), (4, .int x4)] [] σ 0 0 := by
  unfold fX2_addRow_39 at hf
  refine mm_iload_n (j := 2) dX2_addRow_39 rfl rfl ?_
  refine mm_iload_n (j := 3) dX2_addRow_40 rfl rfl ?_
  refine mm_iadd dX2_addRow_41 ?_
  refine mm_iconst (v := 1) dX2_addRow_42 (by decide) ?_
  refine mm_isub dX2_addRow_43 ?_
  refine mm_istore (L' := [(5, .int ((x2 + x3) - 1)), (0, .ref a0), (1, .ref a1), (2, .int x2), (3, .int x3), (4, .int x4)]) dX2_addRow_44 (by decide) rfl ?_
  refine mm_sub [1, 2, 3, 4, 5, 0] rfl ?_
  exact kX2_addRow_46  a0 a1 x2 x3 x4 ((x2 + x3) - 1) σ hf
set_option maxHeartbeats 4000000 in
set_option maxRecDepth 100000 in
theorem kX2_addRow_16 {G : mm_G} {A : Nat → Prop} {ini : Bool}  {R : mm_M}  : ∀ (a0 : Nat) (a1 : Nat) (x2 : Int32) (x3 : Int32) (x4 : Int32) (σ : mm_M), fX2_addRow_16  mm_fuel a0 a1 x2 x3 x4 σ = some R → mm_J cd_Y G RX2 cX2_addRow 7 none ini rmX2_addRow A (mm_QF cd_Y G A (mm_Pv R) rmX2_addRow.cells rmX2_addRow.slots) 16 [(0, .ref a0), (1, .ref a1), (2, .int x2), (3, .int x3), (4, .int x4)] [] σ 0 0 := by
  generalize mm_fuel = n
  induction n with
  | zero => intro a0 a1 x2 x3 x4 σ hf; cases hf
  | succ n ih =>
    intro a0 a1 x2 x3 x4 σ hf
    unfold fX2_addRow_16 at hf
    refine mm_iload (j := 4) dX2_addRow_16 rfl ?_
    refine mm_iload_n (j := 2) dX2_addRow_18 rfl rfl ?_
    refine mm_iload_n (j := 3) dX2_addRow_19 rfl rfl ?_
    refine mm_iadd dX2_addRow_20 ?_
    refine mm_icmp_ge (tgt := 39) dX2_addRow_21 (by decide) (fun c4 => ?_) (fun c4 => ?_)
    · rw [if_pos c4] at hf
      refine mm_sub [0, 1, 2, 3, 4] rfl ?_
      exact kX2_addRow_39  a0 a1 x2 x3 x4 σ hf
    · rw [if_neg c4] at hf
      refine mm_aload_n (j := 1) dX2_addRow_24 rfl rfl ?_
      refine mm_iload (j := 4) dX2_addRow_25 rfl ?_
      obtain ⟨n17, hn17, hf⟩ := mm_ar_s hf
      obtain ⟨hi18, hf⟩ := mm_ib_s hf
      refine mm_iald hn17 rfl hi18 dX2_addRow_27 ?_
      refine mm_bipush (v := 32) dX2_addRow_28 (by decide) ?_
      refine mm_icmp_gt (tgt := 39) dX2_addRow_30 (by decide) (fun c19 => ?_) (fun c19 => ?_)
      · rw [if_pos c19] at hf
        refine mm_sub [0, 1, 2, 3, 4] rfl ?_
        exact kX2_addRow_39  a0 a1 x2 x3 x4 σ hf
      · rw [if_neg c19] at hf
        refine mm_iinc (j := 4) (L' := [(4, .int (x4 + 1)), (0, .ref a0), (1, .ref a1), (2, .int x2), (3, .int x3)]) dX2_addRow_33 rfl rfl (by decide) rfl ?_
        refine mm_goto (tgt := 16) dX2_addRow_36 (by decide) ?_
        refine mm_sub [1, 2, 3, 4, 0] rfl ?_
        exact ih a0 a1 x2 x3 (x4 + 1) σ hf
set_option maxHeartbeats 4000000 in
set_option maxRecDepth 100000 in
theorem kX2_addRow {G : mm_G} {A : Nat → Prop} (p0 : Nat) (p1 : Nat) (p2 : Int32) (p3 : Int32) {σ : mm_M} {R : mm_M} (hf : fX2_addRow p0 p1 p2 p3 σ = some R) : mm_C cd_Y G yX2_addRow cX2_addRow 7 none rmX2_addRow A [.ref p0, .ref p1, .int p2, .int p3] σ (mm_Pv R) := by
  refine mm_C.of (by decide) (Nat.le_of_ble_eq_true rfl) ?_
  unfold fX2_addRow at hf
  have e0 : lv_args 0 [.ref p0, .ref p1, .int p2, .int p3] = [(0, .ref p0), (1, .ref p1), (2, .int p2), (3, .int p3)] := rfl
  rw [e0]
  generalize hini : (yX2_addRow.name == "<init>") = ini
  clear e0
  clear hini
  refine mm_iload_n (j := 2) dX2_addRow_0 rfl rfl ?_
  refine mm_if_lt (tgt := 12) dX2_addRow_1 (by decide) (fun c1 => ?_) (fun c1 => ?_)
  · rw [if_pos c1] at hf
    cases hf
    exact mm_vret rfl dX2_addRow_12 ⟨rfl, rfl⟩
  · rw [if_neg c1] at hf
    refine mm_iload_n (j := 2) dX2_addRow_4 rfl rfl ?_
    refine mm_iload_n (j := 3) dX2_addRow_5 rfl rfl ?_
    refine mm_iadd dX2_addRow_6 ?_
    refine mm_aload_n (j := 1) dX2_addRow_7 rfl rfl ?_
    obtain ⟨n2, hn2, hf⟩ := mm_ar_s hf
    refine mm_alen (v := Int32.ofNat n2) hn2 rfl rfl dX2_addRow_8 ?_
    refine mm_icmp_le (tgt := 13) dX2_addRow_9 (by decide) (fun c3 => ?_) (fun c3 => ?_)
    · rw [if_pos c3] at hf
      refine mm_iload_n (j := 2) dX2_addRow_13 rfl rfl ?_
      refine mm_istore (L' := [(4, .int p2), (0, .ref p0), (1, .ref p1), (2, .int p2), (3, .int p3)]) dX2_addRow_14 (by decide) rfl ?_
      refine mm_sub [1, 2, 3, 4, 0] rfl ?_
      exact kX2_addRow_16  p0 p1 p2 p3 p2 σ hf
    · rw [if_neg c3] at hf
      cases hf
      exact mm_vret rfl dX2_addRow_12 ⟨rfl, rfl⟩
theorem dX4_signAt_0 : decode cX4_signAt 0 = .ok (.iload_n 1, 1) := by decide +kernel
theorem dX4_signAt_1 : decode cX4_signAt 1 = .ok (.bipush 25, 2) := by decide +kernel
theorem dX4_signAt_3 : decode cX4_signAt 3 = .ok (.invokestatic 19, 3) := by decide +kernel
theorem dX4_signAt_6 : decode cX4_signAt 6 = .ok (.ifCond .ne 12, 3) := by decide +kernel
theorem dX4_signAt_9 : decode cX4_signAt 9 = .ok (.iload_n 2, 1) := by decide +kernel
theorem dX4_signAt_10 : decode cX4_signAt 10 = .ok (.bipush 40, 2) := by decide +kernel
theorem dX4_signAt_12 : decode cX4_signAt 12 = .ok (.invokestatic 19, 3) := by decide +kernel
theorem dX4_signAt_15 : decode cX4_signAt 15 = .ok (.ifCond .eq 5, 3) := by decide +kernel
theorem dX4_signAt_18 : decode cX4_signAt 18 = .ok (.iconst 0, 1) := by decide +kernel
theorem dX4_signAt_19 : decode cX4_signAt 19 = .ok (.ireturn, 1) := by decide +kernel
theorem dX4_signAt_20 : decode cX4_signAt 20 = .ok (.aload_n 0, 1) := by decide +kernel
theorem dX4_signAt_21 : decode cX4_signAt 21 = .ok (.getfield 9, 3) := by decide +kernel
theorem dX4_signAt_24 : decode cX4_signAt 24 = .ok (.iload_n 1, 1) := by decide +kernel
theorem dX4_signAt_25 : decode cX4_signAt 25 = .ok (.bipush 40, 2) := by decide +kernel
theorem dX4_signAt_27 : decode cX4_signAt 27 = .ok (.imul, 1) := by decide +kernel
theorem dX4_signAt_28 : decode cX4_signAt 28 = .ok (.iload_n 2, 1) := by decide +kernel
theorem dX4_signAt_29 : decode cX4_signAt 29 = .ok (.iadd, 1) := by decide +kernel
theorem dX4_signAt_30 : decode cX4_signAt 30 = .ok (.iaload, 1) := by decide +kernel
theorem dX4_signAt_31 : decode cX4_signAt 31 = .ok (.ireturn, 1) := by decide +kernel
theorem nmX4_signAt : mm_nm yX4_signAt 2 := ⟨by decide, by decide, by decide +kernel⟩
theorem cdX4_signAt : mm_cd cd_Y yX4_signAt cX4_signAt 3 (some .int) := ⟨tw_649, tw_4⟩
abbrev rmX4_signAt : Room := { frames := 1, cells := 0, slots := 0, locals := 21 }
def fX4_signAt (p0 : Nat) (p1 : Int32) (p2 : Int32) (σ : mm_M) : Option (Int32 × mm_M) :=
  (if (fX8_isOutside p1 25) = 0 then (if (fX8_isOutside p2 40) = 0 then mm_sh σ p0 (.inl 4) (mm_on (mm_R σ p0 0) fun q4 => mm_ar σ q4 0 fun n5 => mm_ib ((p1 * 40) + p2) n5 (some (mm_I σ q4 ((p1 * 40) + p2).toNatClampNeg, σ))) else some (0, σ)) else some (0, σ))
set_option maxHeartbeats 4000000 in
set_option maxRecDepth 100000 in
theorem kX4_signAt {G : mm_G} {A : Nat → Prop} (p0 : Nat) (p1 : Int32) (p2 : Int32) {σ : mm_M} {R : (Int32 × mm_M)} (hf : fX4_signAt p0 p1 p2 σ = some R) : mm_C cd_Y G yX4_signAt cX4_signAt 3 (some .int) rmX4_signAt A [.ref p0, .int p1, .int p2] σ (mm_Pi R.1 R.2) := by
  refine mm_C.of (by decide) (Nat.le_of_ble_eq_true rfl) ?_
  unfold fX4_signAt at hf
  have e0 : lv_args 0 [.ref p0, .int p1, .int p2] = [(0, .ref p0), (1, .int p1), (2, .int p2)] := rfl
  rw [e0]
  generalize hini : (yX4_signAt.name == "<init>") = ini
  clear e0
  clear hini
  refine mm_iload_n (j := 1) dX4_signAt_0 rfl rfl ?_
  refine mm_bipush (v := 25) dX4_signAt_1 (by decide) ?_
  refine mm_callSi cd_ok (kX8_isOutside p1 25 _ rfl) (Or.inr ⟨_, tn_32⟩) cdX8_isOutside tw_221 nmX8_isOutside rfl rfl (by simp only [List.map_cons, List.map_nil, mm_rf_cat]; exact Nat.le_of_ble_eq_true rfl) dX4_signAt_3 ⟨Nat.le_of_ble_eq_true rfl, Nat.le_of_ble_eq_true rfl⟩ ⟨Nat.le_of_ble_eq_true rfl, Nat.le_of_ble_eq_true rfl⟩ ?_
  refine mm_if_ne (tgt := 18) dX4_signAt_6 (by decide) (fun c1 => ?_) (fun c1 => ?_)
  · rw [if_neg c1] at hf
    refine mm_iconst (v := 0) dX4_signAt_18 (by decide) ?_
    cases hf
    exact mm_iret rfl rfl dX4_signAt_19 ⟨rfl, rfl⟩
  · rw [if_pos c1] at hf
    refine mm_iload_n (j := 2) dX4_signAt_9 rfl rfl ?_
    refine mm_bipush (v := 40) dX4_signAt_10 (by decide) ?_
    refine mm_callSi cd_ok (kX8_isOutside p2 40 _ rfl) (Or.inr ⟨_, tn_32⟩) cdX8_isOutside tw_221 nmX8_isOutside rfl rfl (by simp only [List.map_cons, List.map_nil, mm_rf_cat]; exact Nat.le_of_ble_eq_true rfl) dX4_signAt_12 ⟨Nat.le_of_ble_eq_true rfl, Nat.le_of_ble_eq_true rfl⟩ ⟨Nat.le_of_ble_eq_true rfl, Nat.le_of_ble_eq_true rfl⟩ ?_
    refine mm_if_eq (tgt := 20) dX4_signAt_15 (by decide) (fun c2 => ?_) (fun c2 => ?_)
    · rw [if_pos c2] at hf
      refine mm_aload_n (j := 0) dX4_signAt_20 rfl rfl ?_
      obtain ⟨hs3, hf⟩ := mm_sh_s hf
      refine mm_get (c := 4) (k := 0) (v := va_rf (mm_R σ p0 0)) cd_ok ⟨_, _, _, rfl, by decide, Or.inl tw_59⟩ hs3 rfl dX4_signAt_21 ?_
      refine mm_iload_n (j := 1) dX4_signAt_24 rfl rfl ?_
      refine mm_bipush (v := 40) dX4_signAt_25 (by decide) ?_
      refine mm_imul dX4_signAt_27 ?_
      refine mm_iload_n (j := 2) dX4_signAt_28 rfl rfl ?_
      refine mm_iadd dX4_signAt_29 ?_
      obtain ⟨q4, hq4, hf⟩ := mm_on_s hf
      rw [hq4, mm_rf_some]
      obtain ⟨n5, hn5, hf⟩ := mm_ar_s hf
      obtain ⟨hi6, hf⟩ := mm_ib_s hf
      refine mm_iald hn5 rfl hi6 dX4_signAt_30 ?_
      cases hf
      exact mm_iret rfl rfl dX4_signAt_31 ⟨rfl, rfl⟩
    · rw [if_neg c2] at hf
      refine mm_iconst (v := 0) dX4_signAt_18 (by decide) ?_
      cases hf
      exact mm_iret rfl rfl dX4_signAt_19 ⟨rfl, rfl⟩
