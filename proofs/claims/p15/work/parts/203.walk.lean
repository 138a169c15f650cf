theorem dX9_watch_0 : decode cX9_watch 0 = .ok (.aload_n 0, 1) := by decide +kernel
theorem dX9_watch_1 : decode cX9_watch 1 = .ok (.iload_n 1, 1) := by decide +kernel
theorem dX9_watch_2 : decode cX9_watch 2 = .ok (.iconst 1, 1) := by decide +kernel
theorem dX9_watch_3 : decode cX9_watch 3 = .ok (.bipush 8, 2) := by decide +kernel
theorem dX9_watch_5 : decode cX9_watch 5 = .ok (.invokestatic 153, 3) := by decide +kernel
theorem dX9_watch_8 : decode cX9_watch 8 = .ok (.ifCond .eq 18, 3) := by decide +kernel
theorem dX9_watch_11 : decode cX9_watch 11 = .ok (.iload_n 2, 1) := by decide +kernel
theorem dX9_watch_12 : decode cX9_watch 12 = .ok (.iconst 0, 1) := by decide +kernel
theorem dX9_watch_13 : decode cX9_watch 13 = .ok (.sipush 254, 3) := by decide +kernel
theorem dX9_watch_16 : decode cX9_watch 16 = .ok (.invokestatic 153, 3) := by decide +kernel
theorem dX9_watch_19 : decode cX9_watch 19 = .ok (.ifCond .eq 7, 3) := by decide +kernel
theorem dX9_watch_22 : decode cX9_watch 22 = .ok (.iconst 1, 1) := by decide +kernel
theorem dX9_watch_23 : decode cX9_watch 23 = .ok (.goto 4, 3) := by decide +kernel
theorem dX9_watch_26 : decode cX9_watch 26 = .ok (.iconst 0, 1) := by decide +kernel
theorem dX9_watch_27 : decode cX9_watch 27 = .ok (.invokevirtual 169, 3) := by decide +kernel
theorem dX9_watch_30 : decode cX9_watch 30 = .ok (.ifCond .ne 5, 3) := by decide +kernel
theorem dX9_watch_33 : decode cX9_watch 33 = .ok (.iconst 0, 1) := by decide +kernel
theorem dX9_watch_34 : decode cX9_watch 34 = .ok (.ireturn, 1) := by decide +kernel
theorem dX9_watch_35 : decode cX9_watch 35 = .ok (.aload_n 0, 1) := by decide +kernel
theorem dX9_watch_36 : decode cX9_watch 36 = .ok (.iconst 1, 1) := by decide +kernel
theorem dX9_watch_37 : decode cX9_watch 37 = .ok (.putfield 193, 3) := by decide +kernel
theorem dX9_watch_40 : decode cX9_watch 40 = .ok (.aload_n 0, 1) := by decide +kernel
theorem dX9_watch_41 : decode cX9_watch 41 = .ok (.iload_n 1, 1) := by decide +kernel
theorem dX9_watch_42 : decode cX9_watch 42 = .ok (.putfield 197, 3) := by decide +kernel
theorem dX9_watch_45 : decode cX9_watch 45 = .ok (.aload_n 0, 1) := by decide +kernel
theorem dX9_watch_46 : decode cX9_watch 46 = .ok (.iload_n 2, 1) := by decide +kernel
theorem dX9_watch_47 : decode cX9_watch 47 = .ok (.putfield 200, 3) := by decide +kernel
theorem dX9_watch_50 : decode cX9_watch 50 = .ok (.aload_n 0, 1) := by decide +kernel
theorem dX9_watch_51 : decode cX9_watch 51 = .ok (.iconst 0, 1) := by decide +kernel
theorem dX9_watch_52 : decode cX9_watch 52 = .ok (.putfield 203, 3) := by decide +kernel
theorem dX9_watch_55 : decode cX9_watch 55 = .ok (.iconst 1, 1) := by decide +kernel
theorem dX9_watch_56 : decode cX9_watch 56 = .ok (.ireturn, 1) := by decide +kernel
theorem nmX9_watch : mm_nm yX9_watch 2 := ⟨by decide, by decide, by decide +kernel⟩
theorem cdX9_watch : mm_cd cd_Y yX9_watch cX9_watch 3 (some .int) := ⟨tw_1108, tw_8⟩
abbrev rmX9_watch : Room := { frames := 1, cells := 0, slots := 0, locals := 22 }
def fX9_watch_27  (a0 : Nat) (x1 : Int32) (x2 : Int32) (y0 : Int32) (y1 : Nat) (σ : mm_M) : Option (Int32 × mm_M) :=
  mm_sh σ y1 (.inl 9) (mm_on (fX9_goes y1 y0 σ) fun q3 => (if q3.1 = 0 then some (0, q3.2) else mm_sh q3.2 a0 (.inl 9) (mm_let (mm_wI q3.2 a0 28 1) fun s6 => mm_let (mm_wI s6 a0 29 x1) fun s7 => mm_let (mm_wI s7 a0 30 x2) fun s8 => mm_let (mm_wI s8 a0 31 0) fun s9 => some (1, s9))))
def fX9_watch_26  (a0 : Nat) (x1 : Int32) (x2 : Int32) (y0 : Nat) (σ : mm_M) : Option (Int32 × mm_M) :=
  (fX9_watch_27  a0 x1 x2 0 y0 σ)
def fX9_watch (p0 : Nat) (p1 : Int32) (p2 : Int32) (σ : mm_M) : Option (Int32 × mm_M) :=
  (if (fX9_in p1 1 8) = 0 then (fX9_watch_26  p0 p1 p2 p0 σ) else (if (fX9_in p2 0 254) = 0 then (fX9_watch_26  p0 p1 p2 p0 σ) else (fX9_watch_27  p0 p1 p2 1 p0 σ)))
set_option maxHeartbeats 4000000 in
set_option maxRecDepth 100000 in
theorem kX9_watch_27 {G : mm_G} {A : Nat → Prop} {ini : Bool × Option (List (Nat × Nat × Nat × Nat))}  {R : (Int32 × mm_M)}  (a0 : Nat) (x1 : Int32) (x2 : Int32) (y0 : Int32) (y1 : Nat) (σ : mm_M) (hf : fX9_watch_27  a0 x1 x2 y0 y1 σ = some R) : mm_J cd_Y G RX9 cX9_watch 3 (some .int) ini rmX9_watch A (mm_QF cd_Y G A (mm_Pi R.1 R.2) rmX9_watch.cells rmX9_watch.slots) 27 [(0, .ref a0), (1, .int x1), (2, .int x2)] [.int y0, .ref y1] σ 0 0 := by
  unfold fX9_watch_27 at hf
  obtain ⟨hs2, hf⟩ := mm_sh_s hf
  obtain ⟨q3, hq3, hf⟩ := mm_on_s hf
  refine mm_callVi cd_ok (kX9_goes y1 y0 hq3) hs2 rfl (Or.inl tw_944) cdX9_goes tw_946 ts_31 nmX9_goes rfl rfl (by simp only [List.map_cons, List.map_nil, mm_rf_cat]; exact Nat.le_of_ble_eq_true rfl) dX9_watch_27 ⟨Nat.le_of_ble_eq_true rfl, Nat.le_of_ble_eq_true rfl⟩ ⟨Nat.le_of_ble_eq_true rfl, Nat.le_of_ble_eq_true rfl⟩ ?_
  refine mm_if_ne (tgt := 35) dX9_watch_30 (by decide) (fun c4 => ?_) (fun c4 => ?_)
  · rw [if_neg c4] at hf
    refine mm_aload_n (j := 0) dX9_watch_35 rfl rfl ?_
    refine mm_iconst (v := 1) dX9_watch_36 (by decide) ?_
    obtain ⟨hs5, hf⟩ := mm_sh_s hf
    refine mm_putI (c := 9) (k := 28) cd_ok ⟨_, _, _, rfl, by decide, rfl, Or.inl tw_822⟩ hs5 rfl rfl rfl dX9_watch_37 ?_
    obtain ⟨s6, hs6, hf⟩ := mm_let_s hf
    rw [hs6]
    refine mm_aload_n (j := 0) dX9_watch_40 rfl rfl ?_
    refine mm_iload_n (j := 1) dX9_watch_41 rfl rfl ?_
    refine mm_putI (c := 9) (k := 29) cd_ok ⟨_, _, _, rfl, by decide, rfl, Or.inl tw_823⟩ (mm_ke hs6 hs5) rfl rfl rfl dX9_watch_42 ?_
    obtain ⟨s7, hs7, hf⟩ := mm_let_s hf
    rw [hs7]
    refine mm_aload_n (j := 0) dX9_watch_45 rfl rfl ?_
    refine mm_iload_n (j := 2) dX9_watch_46 rfl rfl ?_
    refine mm_putI (c := 9) (k := 30) cd_ok ⟨_, _, _, rfl, by decide, rfl, Or.inl tw_824⟩ (mm_ke hs7 (mm_ke hs6 hs5)) rfl rfl rfl dX9_watch_47 ?_
    obtain ⟨s8, hs8, hf⟩ := mm_let_s hf
    rw [hs8]
    refine mm_aload_n (j := 0) dX9_watch_50 rfl rfl ?_
    refine mm_iconst (v := 0) dX9_watch_51 (by decide) ?_
    refine mm_putI (c := 9) (k := 31) cd_ok ⟨_, _, _, rfl, by decide, rfl, Or.inl tw_825⟩ (mm_ke hs8 (mm_ke hs7 (mm_ke hs6 hs5))) rfl rfl rfl dX9_watch_52 ?_
    obtain ⟨s9, hs9, hf⟩ := mm_let_s hf
    rw [hs9]
    refine mm_iconst (v := 1) dX9_watch_55 (by decide) ?_
    cases hf
    refine mm_widen (ck' := rmX9_watch.cells) (sk' := rmX9_watch.slots) (Nat.le_of_ble_eq_true rfl) (Nat.le_of_ble_eq_true rfl) ?_
    exact mm_iret rfl rfl dX9_watch_56 ⟨rfl, rfl⟩
  · rw [if_pos c4] at hf
    refine mm_iconst (v := 0) dX9_watch_33 (by decide) ?_
    cases hf
    refine mm_widen (ck' := rmX9_watch.cells) (sk' := rmX9_watch.slots) (Nat.le_of_ble_eq_true rfl) (Nat.le_of_ble_eq_true rfl) ?_
    exact mm_iret rfl rfl dX9_watch_34 ⟨rfl, rfl⟩
set_option maxHeartbeats 4000000 in
set_option maxRecDepth 100000 in
theorem kX9_watch_26 {G : mm_G} {A : Nat → Prop} {ini : Bool × Option (List (Nat × Nat × Nat × Nat))}  {R : (Int32 × mm_M)}  (a0 : Nat) (x1 : Int32) (x2 : Int32) (y0 : Nat) (σ : mm_M) (hf : fX9_watch_26  a0 x1 x2 y0 σ = some R) : mm_J cd_Y G RX9 cX9_watch 3 (some .int) ini rmX9_watch A (mm_QF cd_Y G A (mm_Pi R.1 R.2) rmX9_watch.cells rmX9_watch.slots) 26 [(0, .ref a0), (1, .int x1), (2, .int x2)] [.ref y0] σ 0 0 := by
  unfold fX9_watch_26 at hf
  refine mm_iconst (v := 0) dX9_watch_26 (by decide) ?_
  refine mm_sub [0, 1, 2] rfl ?_
  exact kX9_watch_27  a0 x1 x2 0 y0 σ hf
set_option maxHeartbeats 4000000 in
set_option maxRecDepth 100000 in
theorem kX9_watch {G : mm_G} {A : Nat → Prop} (p0 : Nat) (p1 : Int32) (p2 : Int32) {σ : mm_M} {R : (Int32 × mm_M)} (hf : fX9_watch p0 p1 p2 σ = some R) : mm_C cd_Y G yX9_watch cX9_watch 3 (some .int) rmX9_watch A [.ref p0, .int p1, .int p2] σ (mm_Pi R.1 R.2) := by
  refine mm_C.of (by decide) (Nat.le_of_ble_eq_true rfl) ?_
  unfold fX9_watch at hf
  have e0 : lv_args 0 [.ref p0, .int p1, .int p2] = [(0, .ref p0), (1, .int p1), (2, .int p2)] := rfl
  rw [e0]
  generalize hini : ((yX9_watch.name == "<init>"), none) = ini
  clear e0
  clear hini
  refine mm_aload_n (j := 0) dX9_watch_0 rfl rfl ?_
  refine mm_iload_n (j := 1) dX9_watch_1 rfl rfl ?_
  refine mm_iconst (v := 1) dX9_watch_2 (by decide) ?_
  refine mm_bipush (v := 8) dX9_watch_3 (by decide) ?_
  refine mm_callSi cd_ok (kX9_in p1 1 8 _ rfl) (Or.inl tw_941) cdX9_in tw_942 nmX9_in rfl rfl (by simp only [List.map_cons, List.map_nil, mm_rf_cat]; exact Nat.le_of_ble_eq_true rfl) dX9_watch_5 ⟨Nat.le_of_ble_eq_true rfl, Nat.le_of_ble_eq_true rfl⟩ ⟨Nat.le_of_ble_eq_true rfl, Nat.le_of_ble_eq_true rfl⟩ ?_
  refine mm_if_eq (tgt := 26) dX9_watch_8 (by decide) (fun c1 => ?_) (fun c1 => ?_)
  · rw [if_pos c1] at hf
    refine mm_sub [0, 1, 2] rfl ?_
    exact kX9_watch_26  p0 p1 p2 p0 σ hf
  · rw [if_neg c1] at hf
    refine mm_iload_n (j := 2) dX9_watch_11 rfl rfl ?_
    refine mm_iconst (v := 0) dX9_watch_12 (by decide) ?_
    refine mm_sipush (v := 254) dX9_watch_13 (by decide) ?_
    refine mm_callSi cd_ok (kX9_in p2 0 254 _ rfl) (Or.inl tw_941) cdX9_in tw_942 nmX9_in rfl rfl (by simp only [List.map_cons, List.map_nil, mm_rf_cat]; exact Nat.le_of_ble_eq_true rfl) dX9_watch_16 ⟨Nat.le_of_ble_eq_true rfl, Nat.le_of_ble_eq_true rfl⟩ ⟨Nat.le_of_ble_eq_true rfl, Nat.le_of_ble_eq_true rfl⟩ ?_
    refine mm_if_eq (tgt := 26) dX9_watch_19 (by decide) (fun c10 => ?_) (fun c10 => ?_)
    · rw [if_pos c10] at hf
      refine mm_sub [0, 1, 2] rfl ?_
      exact kX9_watch_26  p0 p1 p2 p0 σ hf
    · rw [if_neg c10] at hf
      refine mm_iconst (v := 1) dX9_watch_22 (by decide) ?_
      refine mm_goto (tgt := 27) dX9_watch_23 (by decide) ?_
      refine mm_sub [0, 1, 2] rfl ?_
      exact kX9_watch_27  p0 p1 p2 1 p0 σ hf
theorem dX9_letterOf_0 : decode cX9_letterOf 0 = .ok (.iload_n 1, 1) := by decide +kernel
theorem dX9_letterOf_1 : decode cX9_letterOf 1 = .ok (.iconst 4, 1) := by decide +kernel
theorem dX9_letterOf_2 : decode cX9_letterOf 2 = .ok (.if_icmp .ge 17, 3) := by decide +kernel
theorem dX9_letterOf_5 : decode cX9_letterOf 5 = .ok (.aload_n 0, 1) := by decide +kernel
theorem dX9_letterOf_6 : decode cX9_letterOf 6 = .ok (.getfield 7, 3) := by decide +kernel
theorem dX9_letterOf_9 : decode cX9_letterOf 9 = .ok (.aload_n 0, 1) := by decide +kernel
theorem dX9_letterOf_10 : decode cX9_letterOf 10 = .ok (.iload_n 1, 1) := by decide +kernel
theorem dX9_letterOf_11 : decode cX9_letterOf 11 = .ok (.iconst 0, 1) := by decide +kernel
theorem dX9_letterOf_12 : decode cX9_letterOf 12 = .ok (.iload_n 2, 1) := by decide +kernel
theorem dX9_letterOf_13 : decode cX9_letterOf 13 = .ok (.iload_n 3, 1) := by decide +kernel
theorem dX9_letterOf_14 : decode cX9_letterOf 14 = .ok (.invokevirtual 124, 3) := by decide +kernel
theorem dX9_letterOf_17 : decode cX9_letterOf 17 = .ok (.iaload, 1) := by decide +kernel
theorem dX9_letterOf_18 : decode cX9_letterOf 18 = .ok (.ireturn, 1) := by decide +kernel
theorem dX9_letterOf_19 : decode cX9_letterOf 19 = .ok (.aload_n 0, 1) := by decide +kernel
theorem dX9_letterOf_20 : decode cX9_letterOf 20 = .ok (.getfield 203, 3) := by decide +kernel
theorem dX9_letterOf_23 : decode cX9_letterOf 23 = .ok (.ifCond .eq 26, 3) := by decide +kernel
theorem dX9_letterOf_26 : decode cX9_letterOf 26 = .ok (.aload_n 0, 1) := by decide +kernel
theorem dX9_letterOf_27 : decode cX9_letterOf 27 = .ok (.getfield 90, 3) := by decide +kernel
theorem dX9_letterOf_30 : decode cX9_letterOf 30 = .ok (.iload_n 2, 1) := by decide +kernel
theorem dX9_letterOf_31 : decode cX9_letterOf 31 = .ok (.baload, 1) := by decide +kernel
theorem dX9_letterOf_32 : decode cX9_letterOf 32 = .ok (.ifCond .eq 17, 3) := by decide +kernel
theorem dX9_letterOf_35 : decode cX9_letterOf 35 = .ok (.aload_n 0, 1) := by decide +kernel
theorem dX9_letterOf_36 : decode cX9_letterOf 36 = .ok (.getfield 87, 3) := by decide +kernel
theorem dX9_letterOf_39 : decode cX9_letterOf 39 = .ok (.bipush 40, 2) := by decide +kernel
theorem dX9_letterOf_41 : decode cX9_letterOf 41 = .ok (.iload_n 2, 1) := by decide +kernel
theorem dX9_letterOf_42 : decode cX9_letterOf 42 = .ok (.imul, 1) := by decide +kernel
theorem dX9_letterOf_43 : decode cX9_letterOf 43 = .ok (.iload_n 3, 1) := by decide +kernel
theorem dX9_letterOf_44 : decode cX9_letterOf 44 = .ok (.iadd, 1) := by decide +kernel
theorem dX9_letterOf_45 : decode cX9_letterOf 45 = .ok (.baload, 1) := by decide +kernel
theorem dX9_letterOf_46 : decode cX9_letterOf 46 = .ok (.goto 4, 3) := by decide +kernel
theorem dX9_letterOf_49 : decode cX9_letterOf 49 = .ok (.iconst 0, 1) := by decide +kernel
theorem dX9_letterOf_50 : decode cX9_letterOf 50 = .ok (.ireturn, 1) := by decide +kernel
theorem nmX9_letterOf : mm_nm yX9_letterOf 3 := ⟨by decide, by decide, by decide +kernel⟩
theorem cdX9_letterOf : mm_cd cd_Y yX9_letterOf cX9_letterOf 4 (some .int) := ⟨tw_1121, tw_8⟩
abbrev rmX9_letterOf : Room := { frames := 1, cells := 0, slots := 0, locals := 25 }
def fX9_letterOf (p0 : Nat) (p1 : Int32) (p2 : Int32) (p3 : Int32) (σ : mm_M) : Option (Int32 × mm_M) :=
  (if 4 ≤ p1 then mm_sh σ p0 (.inl 9) ((if (mm_I σ p0 31) = 0 then some (0, σ) else mm_on (mm_R σ p0 33) fun q4 => mm_ar σ q4 1 fun n5 => mm_ib p2 n5 ((if (mm_I σ q4 p2.toNatClampNeg) = 0 then some (0, σ) else mm_on (mm_R σ p0 32) fun q8 => mm_ar σ q8 2 fun n9 => mm_ib ((40 * p2) + p3) n9 (some (mm_I σ q8 ((40 * p2) + p3).toNatClampNeg, σ)))))) else mm_sh σ p0 (.inl 9) (mm_on (fX9_cellAt p0 p1 0 p2 p3 σ) fun q12 => mm_on (mm_R σ p0 1) fun q13 => mm_ar q12.2 q13 0 fun n14 => mm_ib q12.1 n14 (some (mm_I q12.2 q13 q12.1.toNatClampNeg, q12.2))))
set_option maxHeartbeats 4000000 in
set_option maxRecDepth 100000 in
theorem kX9_letterOf {G : mm_G} {A : Nat → Prop} (p0 : Nat) (p1 : Int32) (p2 : Int32) (p3 : Int32) {σ : mm_M} {R : (Int32 × mm_M)} (hf : fX9_letterOf p0 p1 p2 p3 σ = some R) : mm_C cd_Y G yX9_letterOf cX9_letterOf 4 (some .int) rmX9_letterOf A [.ref p0, .int p1, .int p2, .int p3] σ (mm_Pi R.1 R.2) := by
  refine mm_C.of (by decide) (Nat.le_of_ble_eq_true rfl) ?_
  unfold fX9_letterOf at hf
  have e0 : lv_args 0 [.ref p0, .int p1, .int p2, .int p3] = [(0, .ref p0), (1, .int p1), (2, .int p2), (3, .int p3)] := rfl
  rw [e0]
  generalize hini : ((yX9_letterOf.name == "<init>"), none) = ini
  clear e0
  clear hini
  refine mm_iload_n (j := 1) dX9_letterOf_0 rfl rfl ?_
  refine mm_iconst (v := 4) dX9_letterOf_1 (by decide) ?_
  refine mm_icmp_ge (tgt := 19) dX9_letterOf_2 (by decide) (fun c1 => ?_) (fun c1 => ?_)
  · rw [if_pos c1] at hf
    refine mm_aload_n (j := 0) dX9_letterOf_19 rfl rfl ?_
    obtain ⟨hs2, hf⟩ := mm_sh_s hf
    refine mm_get (c := 9) (k := 31) (v := .int (mm_I σ p0 31)) cd_ok ⟨_, _, _, rfl, by decide, Or.inl tw_825⟩ hs2 rfl dX9_letterOf_20 ?_
    refine mm_if_eq (tgt := 49) dX9_letterOf_23 (by decide) (fun c3 => ?_) (fun c3 => ?_)
    · rw [if_pos c3] at hf
      refine mm_iconst (v := 0) dX9_letterOf_49 (by decide) ?_
      cases hf
      refine mm_widen (ck' := rmX9_letterOf.cells) (sk' := rmX9_letterOf.slots) (Nat.le_of_ble_eq_true rfl) (Nat.le_of_ble_eq_true rfl) ?_
      exact mm_iret rfl rfl dX9_letterOf_50 ⟨rfl, rfl⟩
    · rw [if_neg c3] at hf
      refine mm_aload_n (j := 0) dX9_letterOf_26 rfl rfl ?_
      refine mm_get (c := 9) (k := 33) (v := va_rf (mm_R σ p0 33)) cd_ok ⟨_, _, _, rfl, by decide, Or.inl tw_827⟩ hs2 rfl dX9_letterOf_27 ?_
      refine mm_iload_n (j := 2) dX9_letterOf_30 rfl rfl ?_
      obtain ⟨q4, hq4, hf⟩ := mm_on_s hf
      rw [hq4, mm_rf_some]
      obtain ⟨n5, hn5, hf⟩ := mm_ar_s hf
      obtain ⟨hi6, hf⟩ := mm_ib_s hf
      refine mm_zald hn5 rfl hi6 dX9_letterOf_31 ?_
      refine mm_if_eq (tgt := 49) dX9_letterOf_32 (by decide) (fun c7 => ?_) (fun c7 => ?_)
      · rw [if_pos c7] at hf
        refine mm_iconst (v := 0) dX9_letterOf_49 (by decide) ?_
        cases hf
        refine mm_widen (ck' := rmX9_letterOf.cells) (sk' := rmX9_letterOf.slots) (Nat.le_of_ble_eq_true rfl) (Nat.le_of_ble_eq_true rfl) ?_
        exact mm_iret rfl rfl dX9_letterOf_50 ⟨rfl, rfl⟩
      · rw [if_neg c7] at hf
        refine mm_aload_n (j := 0) dX9_letterOf_35 rfl rfl ?_
        refine mm_get (c := 9) (k := 32) (v := va_rf (mm_R σ p0 32)) cd_ok ⟨_, _, _, rfl, by decide, Or.inl tw_826⟩ hs2 rfl dX9_letterOf_36 ?_
        refine mm_bipush (v := 40) dX9_letterOf_39 (by decide) ?_
        refine mm_iload_n (j := 2) dX9_letterOf_41 rfl rfl ?_
        refine mm_imul dX9_letterOf_42 ?_
        refine mm_iload_n (j := 3) dX9_letterOf_43 rfl rfl ?_
        refine mm_iadd dX9_letterOf_44 ?_
        obtain ⟨q8, hq8, hf⟩ := mm_on_s hf
        rw [hq8, mm_rf_some]
        obtain ⟨n9, hn9, hf⟩ := mm_ar_s hf
        obtain ⟨hi10, hf⟩ := mm_ib_s hf
        refine mm_bald hn9 rfl hi10 dX9_letterOf_45 ?_
        refine mm_goto (tgt := 50) dX9_letterOf_46 (by decide) ?_
        cases hf
        refine mm_widen (ck' := rmX9_letterOf.cells) (sk' := rmX9_letterOf.slots) (Nat.le_of_ble_eq_true rfl) (Nat.le_of_ble_eq_true rfl) ?_
        exact mm_iret rfl rfl dX9_letterOf_50 ⟨rfl, rfl⟩
  · rw [if_neg c1] at hf
    refine mm_aload_n (j := 0) dX9_letterOf_5 rfl rfl ?_
    obtain ⟨hs11, hf⟩ := mm_sh_s hf
    refine mm_get (c := 9) (k := 1) (v := va_rf (mm_R σ p0 1)) cd_ok ⟨_, _, _, rfl, by decide, Or.inl tw_795⟩ hs11 rfl dX9_letterOf_6 ?_
    refine mm_aload_n (j := 0) dX9_letterOf_9 rfl rfl ?_
    refine mm_iload_n (j := 1) dX9_letterOf_10 rfl rfl ?_
    refine mm_iconst (v := 0) dX9_letterOf_11 (by decide) ?_
    refine mm_iload_n (j := 2) dX9_letterOf_12 rfl rfl ?_
    refine mm_iload_n (j := 3) dX9_letterOf_13 rfl rfl ?_
    obtain ⟨q12, hq12, hf⟩ := mm_on_s hf
    refine mm_callVi cd_ok (kX9_cellAt p0 p1 0 p2 p3 hq12) hs11 rfl (Or.inl tw_970) cdX9_cellAt tw_972 ts_36 nmX9_cellAt rfl rfl (by simp only [List.map_cons, List.map_nil, mm_rf_cat]; exact Nat.le_of_ble_eq_true rfl) dX9_letterOf_14 ⟨Nat.le_of_ble_eq_true rfl, Nat.le_of_ble_eq_true rfl⟩ ⟨Nat.le_of_ble_eq_true rfl, Nat.le_of_ble_eq_true rfl⟩ ?_
    obtain ⟨q13, hq13, hf⟩ := mm_on_s hf
    rw [hq13, mm_rf_some]
    obtain ⟨n14, hn14, hf⟩ := mm_ar_s hf
    obtain ⟨hi15, hf⟩ := mm_ib_s hf
    refine mm_iald hn14 rfl hi15 dX9_letterOf_17 ?_
    cases hf
    refine mm_widen (ck' := rmX9_letterOf.cells) (sk' := rmX9_letterOf.slots) (Nat.le_of_ble_eq_true rfl) (Nat.le_of_ble_eq_true rfl) ?_
    exact mm_iret rfl rfl dX9_letterOf_18 ⟨rfl, rfl⟩
theorem dX9_layLines_0 : decode cX9_layLines 0 = .ok (.aload_n 0, 1) := by decide +kernel
theorem dX9_layLines_1 : decode cX9_layLines 1 = .ok (.iconst 0, 1) := by decide +kernel
theorem dX9_layLines_2 : decode cX9_layLines 2 = .ok (.putfield 244, 3) := by decide +kernel
theorem dX9_layLines_5 : decode cX9_layLines 5 = .ok (.iload_n 1, 1) := by decide +kernel
theorem dX9_layLines_6 : decode cX9_layLines 6 = .ok (.iconst 4, 1) := by decide +kernel
theorem dX9_layLines_7 : decode cX9_layLines 7 = .ok (.if_icmp .ge 8, 3) := by decide +kernel
theorem dX9_layLines_10 : decode cX9_layLines 10 = .ok (.bipush 32, 2) := by decide +kernel
theorem dX9_layLines_12 : decode cX9_layLines 12 = .ok (.goto 5, 3) := by decide +kernel
theorem dX9_layLines_15 : decode cX9_layLines 15 = .ok (.bipush 40, 2) := by decide +kernel
theorem dX9_layLines_17 : decode cX9_layLines 17 = .ok (.istore_n 2, 1) := by decide +kernel
theorem dX9_layLines_18 : decode cX9_layLines 18 = .ok (.iload_n 1, 1) := by decide +kernel
theorem dX9_layLines_19 : decode cX9_layLines 19 = .ok (.iconst 4, 1) := by decide +kernel
theorem dX9_layLines_20 : decode cX9_layLines 20 = .ok (.if_icmp .ge 8, 3) := by decide +kernel
theorem dX9_layLines_23 : decode cX9_layLines 23 = .ok (.bipush 15, 2) := by decide +kernel
theorem dX9_layLines_25 : decode cX9_layLines 25 = .ok (.goto 5, 3) := by decide +kernel
theorem dX9_layLines_28 : decode cX9_layLines 28 = .ok (.bipush 24, 2) := by decide +kernel
theorem dX9_layLines_30 : decode cX9_layLines 30 = .ok (.istore_n 3, 1) := by decide +kernel
theorem dX9_layLines_31 : decode cX9_layLines 31 = .ok (.iconst 1, 1) := by decide +kernel
theorem dX9_layLines_32 : decode cX9_layLines 32 = .ok (.istore 4, 2) := by decide +kernel
theorem dX9_layLines_34 : decode cX9_layLines 34 = .ok (.iload 4, 2) := by decide +kernel
theorem dX9_layLines_36 : decode cX9_layLines 36 = .ok (.iload_n 3, 1) := by decide +kernel
theorem dX9_layLines_37 : decode cX9_layLines 37 = .ok (.if_icmp .gt 158, 3) := by decide +kernel
theorem dX9_layLines_40 : decode cX9_layLines 40 = .ok (.iconst (-1), 1) := by decide +kernel
theorem dX9_layLines_41 : decode cX9_layLines 41 = .ok (.istore 5, 2) := by decide +kernel
theorem dX9_layLines_43 : decode cX9_layLines 43 = .ok (.iconst (-1), 1) := by decide +kernel
theorem dX9_layLines_44 : decode cX9_layLines 44 = .ok (.istore 6, 2) := by decide +kernel
theorem dX9_layLines_46 : decode cX9_layLines 46 = .ok (.iconst 0, 1) := by decide +kernel
theorem dX9_layLines_47 : decode cX9_layLines 47 = .ok (.istore 7, 2) := by decide +kernel
theorem dX9_layLines_49 : decode cX9_layLines 49 = .ok (.iload 7, 2) := by decide +kernel
theorem dX9_layLines_51 : decode cX9_layLines 51 = .ok (.iload_n 2, 1) := by decide +kernel
theorem dX9_layLines_52 : decode cX9_layLines 52 = .ok (.if_icmp .ge 42, 3) := by decide +kernel
theorem dX9_layLines_55 : decode cX9_layLines 55 = .ok (.aload_n 0, 1) := by decide +kernel
theorem dX9_layLines_56 : decode cX9_layLines 56 = .ok (.iload_n 1, 1) := by decide +kernel
theorem dX9_layLines_57 : decode cX9_layLines 57 = .ok (.iload 4, 2) := by decide +kernel
theorem dX9_layLines_59 : decode cX9_layLines 59 = .ok (.iload 7, 2) := by decide +kernel
theorem dX9_layLines_61 : decode cX9_layLines 61 = .ok (.invokevirtual 247, 3) := by decide +kernel
theorem dX9_layLines_64 : decode cX9_layLines 64 = .ok (.bipush 32, 2) := by decide +kernel
theorem dX9_layLines_66 : decode cX9_layLines 66 = .ok (.if_icmp .le 22, 3) := by decide +kernel
theorem dX9_layLines_69 : decode cX9_layLines 69 = .ok (.iload 5, 2) := by decide +kernel
theorem dX9_layLines_71 : decode cX9_layLines 71 = .ok (.iconst (-1), 1) := by decide +kernel
theorem dX9_layLines_72 : decode cX9_layLines 72 = .ok (.if_icmp .ne 8, 3) := by decide +kernel
theorem dX9_layLines_75 : decode cX9_layLines 75 = .ok (.iload 7, 2) := by decide +kernel
theorem dX9_layLines_77 : decode cX9_layLines 77 = .ok (.goto 5, 3) := by decide +kernel
theorem dX9_layLines_80 : decode cX9_layLines 80 = .ok (.iload 5, 2) := by decide +kernel
theorem dX9_layLines_82 : decode cX9_layLines 82 = .ok (.istore 5, 2) := by decide +kernel
theorem dX9_layLines_84 : decode cX9_layLines 84 = .ok (.iload 7, 2) := by decide +kernel
theorem dX9_layLines_86 : decode cX9_layLines 86 = .ok (.istore 6, 2) := by decide +kernel
theorem dX9_layLines_88 : decode cX9_layLines 88 = .ok (.iinc 7 1, 3) := by decide +kernel
theorem dX9_layLines_91 : decode cX9_layLines 91 = .ok (.goto (-42), 3) := by decide +kernel
theorem dX9_layLines_94 : decode cX9_layLines 94 = .ok (.iload 5, 2) := by decide +kernel
theorem dX9_layLines_96 : decode cX9_layLines 96 = .ok (.istore 7, 2) := by decide +kernel
theorem dX9_layLines_98 : decode cX9_layLines 98 = .ok (.iload 7, 2) := by decide +kernel
theorem dX9_layLines_100 : decode cX9_layLines 100 = .ok (.iload 6, 2) := by decide +kernel
theorem dX9_layLines_102 : decode cX9_layLines 102 = .ok (.if_icmp .gt 60, 3) := by decide +kernel
theorem dX9_layLines_105 : decode cX9_layLines 105 = .ok (.iload 5, 2) := by decide +kernel
theorem dX9_layLines_107 : decode cX9_layLines 107 = .ok (.iconst (-1), 1) := by decide +kernel
theorem dX9_layLines_108 : decode cX9_layLines 108 = .ok (.if_icmp .eq 54, 3) := by decide +kernel
theorem dX9_layLines_111 : decode cX9_layLines 111 = .ok (.aload_n 0, 1) := by decide +kernel
theorem dX9_layLines_112 : decode cX9_layLines 112 = .ok (.iload_n 1, 1) := by decide +kernel
theorem dX9_layLines_113 : decode cX9_layLines 113 = .ok (.iload 4, 2) := by decide +kernel
theorem dX9_layLines_115 : decode cX9_layLines 115 = .ok (.iload 7, 2) := by decide +kernel
theorem dX9_layLines_117 : decode cX9_layLines 117 = .ok (.invokevirtual 247, 3) := by decide +kernel
theorem dX9_layLines_120 : decode cX9_layLines 120 = .ok (.istore 8, 2) := by decide +kernel
theorem dX9_layLines_122 : decode cX9_layLines 122 = .ok (.aload_n 0, 1) := by decide +kernel
theorem dX9_layLines_123 : decode cX9_layLines 123 = .ok (.getfield 117, 3) := by decide +kernel
theorem dX9_layLines_126 : decode cX9_layLines 126 = .ok (.aload_n 0, 1) := by decide +kernel
theorem dX9_layLines_127 : decode cX9_layLines 127 = .ok (.getfield 244, 3) := by decide +kernel
theorem dX9_layLines_130 : decode cX9_layLines 130 = .ok (.iload 8, 2) := by decide +kernel
theorem dX9_layLines_132 : decode cX9_layLines 132 = .ok (.bipush 32, 2) := by decide +kernel
theorem dX9_layLines_134 : decode cX9_layLines 134 = .ok (.if_icmp .ge 8, 3) := by decide +kernel
theorem dX9_layLines_137 : decode cX9_layLines 137 = .ok (.bipush 32, 2) := by decide +kernel
theorem dX9_layLines_139 : decode cX9_layLines 139 = .ok (.goto 5, 3) := by decide +kernel
theorem dX9_layLines_142 : decode cX9_layLines 142 = .ok (.iload 8, 2) := by decide +kernel
theorem dX9_layLines_144 : decode cX9_layLines 144 = .ok (.i2b, 1) := by decide +kernel
theorem dX9_layLines_145 : decode cX9_layLines 145 = .ok (.bastore, 1) := by decide +kernel
theorem dX9_layLines_146 : decode cX9_layLines 146 = .ok (.aload_n 0, 1) := by decide +kernel
theorem dX9_layLines_147 : decode cX9_layLines 147 = .ok (.dup, 1) := by decide +kernel
theorem dX9_layLines_148 : decode cX9_layLines 148 = .ok (.getfield 244, 3) := by decide +kernel
theorem dX9_layLines_151 : decode cX9_layLines 151 = .ok (.iconst 1, 1) := by decide +kernel
theorem dX9_layLines_152 : decode cX9_layLines 152 = .ok (.iadd, 1) := by decide +kernel
theorem dX9_layLines_153 : decode cX9_layLines 153 = .ok (.putfield 244, 3) := by decide +kernel
theorem dX9_layLines_156 : decode cX9_layLines 156 = .ok (.iinc 7 1, 3) := by decide +kernel
theorem dX9_layLines_159 : decode cX9_layLines 159 = .ok (.goto (-61), 3) := by decide +kernel
theorem dX9_layLines_162 : decode cX9_layLines 162 = .ok (.iload 5, 2) := by decide +kernel
theorem dX9_layLines_164 : decode cX9_layLines 164 = .ok (.iconst (-1), 1) := by decide +kernel
theorem dX9_layLines_165 : decode cX9_layLines 165 = .ok (.if_icmp .eq 24, 3) := by decide +kernel
theorem dX9_layLines_168 : decode cX9_layLines 168 = .ok (.aload_n 0, 1) := by decide +kernel
theorem dX9_layLines_169 : decode cX9_layLines 169 = .ok (.getfield 117, 3) := by decide +kernel
theorem dX9_layLines_172 : decode cX9_layLines 172 = .ok (.aload_n 0, 1) := by decide +kernel
theorem dX9_layLines_173 : decode cX9_layLines 173 = .ok (.getfield 244, 3) := by decide +kernel
theorem dX9_layLines_176 : decode cX9_layLines 176 = .ok (.bipush 10, 2) := by decide +kernel
theorem dX9_layLines_178 : decode cX9_layLines 178 = .ok (.bastore, 1) := by decide +kernel
theorem dX9_layLines_179 : decode cX9_layLines 179 = .ok (.aload_n 0, 1) := by decide +kernel
theorem dX9_layLines_180 : decode cX9_layLines 180 = .ok (.dup, 1) := by decide +kernel
theorem dX9_layLines_181 : decode cX9_layLines 181 = .ok (.getfield 244, 3) := by decide +kernel
theorem dX9_layLines_184 : decode cX9_layLines 184 = .ok (.iconst 1, 1) := by decide +kernel
theorem dX9_layLines_185 : decode cX9_layLines 185 = .ok (.iadd, 1) := by decide +kernel
theorem dX9_layLines_186 : decode cX9_layLines 186 = .ok (.putfield 244, 3) := by decide +kernel
theorem dX9_layLines_189 : decode cX9_layLines 189 = .ok (.iinc 4 1, 3) := by decide +kernel
theorem dX9_layLines_192 : decode cX9_layLines 192 = .ok (.goto (-158), 3) := by decide +kernel
theorem dX9_layLines_195 : decode cX9_layLines 195 = .ok (.aload_n 0, 1) := by decide +kernel
theorem dX9_layLines_196 : decode cX9_layLines 196 = .ok (.aload_n 0, 1) := by decide +kernel
theorem dX9_layLines_197 : decode cX9_layLines 197 = .ok (.getfield 244, 3) := by decide +kernel
theorem dX9_layLines_200 : decode cX9_layLines 200 = .ok (.sipush 400, 3) := by decide +kernel
theorem dX9_layLines_203 : decode cX9_layLines 203 = .ok (.if_icmp .le 9, 3) := by decide +kernel
theorem dX9_layLines_206 : decode cX9_layLines 206 = .ok (.sipush 400, 3) := by decide +kernel
theorem dX9_layLines_209 : decode cX9_layLines 209 = .ok (.goto 7, 3) := by decide +kernel
theorem dX9_layLines_212 : decode cX9_layLines 212 = .ok (.aload_n 0, 1) := by decide +kernel
theorem dX9_layLines_213 : decode cX9_layLines 213 = .ok (.getfield 244, 3) := by decide +kernel
theorem dX9_layLines_216 : decode cX9_layLines 216 = .ok (.putfield 244, 3) := by decide +kernel
theorem dX9_layLines_219 : decode cX9_layLines 219 = .ok (.return_, 1) := by decide +kernel
theorem nmX9_layLines : mm_nm yX9_layLines 1 := ⟨by decide, by decide, by decide +kernel⟩
theorem cdX9_layLines : mm_cd cd_Y yX9_layLines cX9_layLines 9 none := ⟨tw_1117, tw_8⟩
abbrev rmX9_layLines : Room := { frames := 2, cells := 0, slots := 0, locals := 48 }
def fX9_layLines_162 (k34 : Nat → Int32 → Int32 → Int32 → Int32 → mm_M → Option mm_M) (a0 : Nat) (x1 : Int32) (x2 : Int32) (x3 : Int32) (x4 : Int32) (x5 : Int32) (x6 : Int32) (x7 : Int32) (σ : mm_M) : Option mm_M :=
  (if x5 = (-1) then (k34 a0 x1 x2 x3 (x4 + 1) σ) else mm_sh σ a0 (.inl 9) (mm_on (mm_R σ a0 45) fun q14 => mm_ar σ q14 2 fun n15 => mm_ib (mm_I σ a0 44) n15 (mm_let (mm_wI σ q14 ((mm_I σ a0 44).toNatClampNeg) ((10 : Int32).toInt8.toInt32)) fun s17 => mm_let (mm_wI s17 a0 44 ((mm_I s17 a0 44) + 1)) fun s18 => (k34 a0 x1 x2 x3 (x4 + 1) s18))))
def fX9_layLines_144 (k34 : Nat → Int32 → Int32 → Int32 → Int32 → mm_M → Option mm_M) (k98 : Nat → Int32 → Int32 → Int32 → Int32 → Int32 → Int32 → Int32 → mm_M → Option mm_M) (a0 : Nat) (x1 : Int32) (x2 : Int32) (x3 : Int32) (x4 : Int32) (x5 : Int32) (x6 : Int32) (x7 : Int32) (x8 : Int32) (y0 : Int32) (y1 : Int32) (y2 : Option Nat) (σ : mm_M) : Option mm_M :=
  mm_on (y2) fun q24 => mm_ar σ q24 2 fun n25 => mm_ib y1 n25 (mm_let (mm_wI σ q24 (y1.toNatClampNeg) (y0.toInt8.toInt32.toInt8.toInt32)) fun s27 => mm_sh s27 a0 (.inl 9) (mm_let (mm_wI s27 a0 44 ((mm_I s27 a0 44) + 1)) fun s29 => (k98 a0 x1 x2 x3 x4 x5 x6 (x7 + 1) s29)))
def fX9_layLines_98 (k34 : Nat → Int32 → Int32 → Int32 → Int32 → mm_M → Option mm_M) : Nat → Nat → Int32 → Int32 → Int32 → Int32 → Int32 → Int32 → Int32 → mm_M → Option mm_M
  | 0 => fun _ _ _ _ _ _ _ _ _ => none
  | n + 1 => fun a0 x1 x2 x3 x4 x5 x6 x7 σ =>
  (if x6 < x7 then (fX9_layLines_162 k34 a0 x1 x2 x3 x4 x5 x6 x7 σ) else (if x5 = (-1) then (fX9_layLines_162 k34 a0 x1 x2 x3 x4 x5 x6 x7 σ) else mm_sh σ a0 (.inl 9) (mm_on (fX9_letterOf a0 x1 x4 x7 σ) fun q21 => mm_sh q21.2 a0 (.inl 9) ((if 32 ≤ q21.1 then (fX9_layLines_144 k34 (fX9_layLines_98 k34 n) a0 x1 x2 x3 x4 x5 x6 x7 q21.1 q21.1 (mm_I q21.2 a0 44) (mm_R q21.2 a0 45) q21.2) else (fX9_layLines_144 k34 (fX9_layLines_98 k34 n) a0 x1 x2 x3 x4 x5 x6 x7 q21.1 32 (mm_I q21.2 a0 44) (mm_R q21.2 a0 45) q21.2))))))
def fX9_layLines_82 (k34 : Nat → Int32 → Int32 → Int32 → Int32 → mm_M → Option mm_M) (k49 : Nat → Int32 → Int32 → Int32 → Int32 → Int32 → Int32 → Int32 → mm_M → Option mm_M) (a0 : Nat) (x1 : Int32) (x2 : Int32) (x3 : Int32) (x4 : Int32) (x5 : Int32) (x6 : Int32) (x7 : Int32) (y0 : Int32) (σ : mm_M) : Option mm_M :=
  (k49 a0 x1 x2 x3 x4 y0 x7 (x7 + 1) σ)
def fX9_layLines_49 (k34 : Nat → Int32 → Int32 → Int32 → Int32 → mm_M → Option mm_M) : Nat → Nat → Int32 → Int32 → Int32 → Int32 → Int32 → Int32 → Int32 → mm_M → Option mm_M
  | 0 => fun _ _ _ _ _ _ _ _ _ => none
  | n + 1 => fun a0 x1 x2 x3 x4 x5 x6 x7 σ =>
  (if x2 ≤ x7 then (fX9_layLines_98 k34 mm_fuel a0 x1 x2 x3 x4 x5 x6 x5 σ) else mm_sh σ a0 (.inl 9) (mm_on (fX9_letterOf a0 x1 x4 x7 σ) fun q31 => (if q31.1 ≤ 32 then (fX9_layLines_49 k34 n a0 x1 x2 x3 x4 x5 x6 (x7 + 1) q31.2) else (if x5 = (-1) then (fX9_layLines_82 k34 (fX9_layLines_49 k34 n) a0 x1 x2 x3 x4 x5 x6 x7 x7 q31.2) else (fX9_layLines_82 k34 (fX9_layLines_49 k34 n) a0 x1 x2 x3 x4 x5 x6 x7 x5 q31.2)))))
def fX9_layLines_34  : Nat → Nat → Int32 → Int32 → Int32 → Int32 → mm_M → Option mm_M
  | 0 => fun _ _ _ _ _ _ => none
  | n + 1 => fun a0 x1 x2 x3 x4 σ =>
  (if x3 < x4 then mm_sh σ a0 (.inl 9) ((if (mm_I σ a0 44) ≤ 400 then mm_let (mm_wI σ a0 44 (mm_I σ a0 44)) fun s8 => some (s8) else mm_let (mm_wI σ a0 44 400) fun s9 => some (s9))) else (fX9_layLines_49 (fX9_layLines_34  n) mm_fuel a0 x1 x2 x3 x4 (-1) (-1) 0 σ))
def fX9_layLines_17  (a0 : Nat) (x1 : Int32) (y0 : Int32) (σ : mm_M) : Option mm_M :=
  (if 4 ≤ x1 then (fX9_layLines_34  mm_fuel a0 x1 y0 24 1 σ) else (fX9_layLines_34  mm_fuel a0 x1 y0 15 1 σ))
def fX9_layLines (p0 : Nat) (p1 : Int32) (σ : mm_M) : Option mm_M :=
  mm_sh σ p0 (.inl 9) (mm_let (mm_wI σ p0 44 0) fun s2 => (if 4 ≤ p1 then (fX9_layLines_17  p0 p1 40 s2) else (fX9_layLines_17  p0 p1 32 s2)))
set_option maxHeartbeats 4000000 in
set_option maxRecDepth 100000 in
theorem kX9_layLines_162 {G : mm_G} {A : Nat → Prop} {ini : Bool × Option (List (Nat × Nat × Nat × Nat))} {k34 : Nat → Int32 → Int32 → Int32 → Int32 → mm_M → Option mm_M} {R : mm_M} (hk34 : ∀ a0 x1 x2 x3 x4 σ, k34 a0 x1 x2 x3 x4 σ = some R → mm_J cd_Y G RX9 cX9_layLines 9 none ini rmX9_layLines A (mm_QF cd_Y G A (mm_Pv R) rmX9_layLines.cells rmX9_layLines.slots) 34 [(0, .ref a0), (1, .int x1), (2, .int x2), (3, .int x3), (4, .int x4)] [] σ 0 0) (a0 : Nat) (x1 : Int32) (x2 : Int32) (x3 : Int32) (x4 : Int32) (x5 : Int32) (x6 : Int32) (x7 : Int32) (σ : mm_M) (hf : fX9_layLines_162 k34 a0 x1 x2 x3 x4 x5 x6 x7 σ = some R) : mm_J cd_Y G RX9 cX9_layLines 9 none ini rmX9_layLines A (mm_QF cd_Y G A (mm_Pv R) rmX9_layLines.cells rmX9_layLines.slots) 162 [(0, .ref a0), (1, .int x1), (2, .int x2), (3, .int x3), (4, .int x4), (5, .int x5), (6, .int x6), (7, .int x7)] [] σ 0 0 := by
  unfold fX9_layLines_162 at hf
  refine mm_iload (j := 5) dX9_layLines_162 rfl ?_
  refine mm_iconst (v := (-1)) dX9_layLines_164 (by decide) ?_
  refine mm_icmp_eq (tgt := 189) dX9_layLines_165 (by decide) (fun c12 => ?_) (fun c12 => ?_)
  · rw [if_pos c12] at hf
    refine mm_iinc (j := 4) (L' := [(4, .int (x4 + 1)), (0, .ref a0), (1, .int x1), (2, .int x2), (3, .int x3), (5, .int x5), (6, .int x6), (7, .int x7)]) dX9_layLines_189 rfl rfl (by decide) rfl ?_
    refine mm_goto (tgt := 34) dX9_layLines_192 (by decide) ?_
    refine mm_sub [1, 2, 3, 4, 0] rfl ?_
    exact hk34 a0 x1 x2 x3 (x4 + 1) σ hf
  · rw [if_neg c12] at hf
    refine mm_aload_n (j := 0) dX9_layLines_168 rfl rfl ?_
    obtain ⟨hs13, hf⟩ := mm_sh_s hf
    refine mm_get (c := 9) (k := 45) (v := va_rf (mm_R σ a0 45)) cd_ok ⟨_, _, _, rfl, by decide, Or.inl tw_839⟩ hs13 rfl dX9_layLines_169 ?_
    refine mm_aload_n (j := 0) dX9_layLines_172 rfl rfl ?_
    refine mm_get (c := 9) (k := 44) (v := .int (mm_I σ a0 44)) cd_ok ⟨_, _, _, rfl, by decide, Or.inl tw_838⟩ hs13 rfl dX9_layLines_173 ?_
    refine mm_bipush (v := 10) dX9_layLines_176 (by decide) ?_
    obtain ⟨q14, hq14, hf⟩ := mm_on_s hf
    rw [hq14, mm_rf_some]
    obtain ⟨n15, hn15, hf⟩ := mm_ar_s hf
    obtain ⟨hi16, hf⟩ := mm_ib_s hf
    refine mm_bast hn15 rfl hi16 dX9_layLines_178 ?_
    obtain ⟨s17, hs17, hf⟩ := mm_let_s hf
    rw [hs17]
    refine mm_aload_n (j := 0) dX9_layLines_179 rfl rfl ?_
    refine mm_dup dX9_layLines_180 rfl ?_
    refine mm_get (c := 9) (k := 44) (v := .int (mm_I s17 a0 44)) cd_ok ⟨_, _, _, rfl, by decide, Or.inl tw_838⟩ (mm_ke hs17 hs13) rfl dX9_layLines_181 ?_
    refine mm_iconst (v := 1) dX9_layLines_184 (by decide) ?_
    refine mm_iadd dX9_layLines_185 ?_
    refine mm_putI (c := 9) (k := 44) cd_ok ⟨_, _, _, rfl, by decide, rfl, Or.inl tw_838⟩ (mm_ke hs17 hs13) rfl rfl rfl dX9_layLines_186 ?_
    obtain ⟨s18, hs18, hf⟩ := mm_let_s hf
    rw [hs18]
    refine mm_iinc (j := 4) (L' := [(4, .int (x4 + 1)), (0, .ref a0), (1, .int x1), (2, .int x2), (3, .int x3), (5, .int x5), (6, .int x6), (7, .int x7)]) dX9_layLines_189 rfl rfl (by decide) rfl ?_
    refine mm_goto (tgt := 34) dX9_layLines_192 (by decide) ?_
    refine mm_sub [1, 2, 3, 4, 0] rfl ?_
    exact hk34 a0 x1 x2 x3 (x4 + 1) s18 hf
set_option maxHeartbeats 4000000 in
set_option maxRecDepth 100000 in
theorem kX9_layLines_144 {G : mm_G} {A : Nat → Prop} {ini : Bool × Option (List (Nat × Nat × Nat × Nat))} {k34 : Nat → Int32 → Int32 → Int32 → Int32 → mm_M → Option mm_M} {k98 : Nat → Int32 → Int32 → Int32 → Int32 → Int32 → Int32 → Int32 → mm_M → Option mm_M} {R : mm_M} (hk34 : ∀ a0 x1 x2 x3 x4 σ, k34 a0 x1 x2 x3 x4 σ = some R → mm_J cd_Y G RX9 cX9_layLines 9 none ini rmX9_layLines A (mm_QF cd_Y G A (mm_Pv R) rmX9_layLines.cells rmX9_layLines.slots) 34 [(0, .ref a0), (1, .int x1), (2, .int x2), (3, .int x3), (4, .int x4)] [] σ 0 0) (hk98 : ∀ a0 x1 x2 x3 x4 x5 x6 x7 σ, k98 a0 x1 x2 x3 x4 x5 x6 x7 σ = some R → mm_J cd_Y G RX9 cX9_layLines 9 none ini rmX9_layLines A (mm_QF cd_Y G A (mm_Pv R) rmX9_layLines.cells rmX9_layLines.slots) 98 [(0, .ref a0), (1, .int x1), (2, .int x2), (3, .int x3), (4, .int x4), (5, .int x5), (6, .int x6), (7, .int x7)] [] σ 0 0) (a0 : Nat) (x1 : Int32) (x2 : Int32) (x3 : Int32) (x4 : Int32) (x5 : Int32) (x6 : Int32) (x7 : Int32) (x8 : Int32) (y0 : Int32) (y1 : Int32) (y2 : Option Nat) (σ : mm_M) (hf : fX9_layLines_144 k34 k98 a0 x1 x2 x3 x4 x5 x6 x7 x8 y0 y1 y2 σ = some R) : mm_J cd_Y G RX9 cX9_layLines 9 none ini rmX9_layLines A (mm_QF cd_Y G A (mm_Pv R) rmX9_layLines.cells rmX9_layLines.slots) 144 [(0, .ref a0), (1, .int x1), (2, .int x2), (3, .int x3), (4, .int x4), (5, .int x5), (6, .int x6), (7, .int x7), (8, .int x8)] [.int y0, .int y1, va_rf (y2)] σ 0 0 := by
  unfold fX9_layLines_144 at hf
  refine mm_i2b dX9_layLines_144 ?_
  obtain ⟨q24, hq24, hf⟩ := mm_on_s hf
  rw [hq24, mm_rf_some]
  obtain ⟨n25, hn25, hf⟩ := mm_ar_s hf
  obtain ⟨hi26, hf⟩ := mm_ib_s hf
  refine mm_bast hn25 rfl hi26 dX9_layLines_145 ?_
  obtain ⟨s27, hs27, hf⟩ := mm_let_s hf
  rw [hs27]
  refine mm_aload_n (j := 0) dX9_layLines_146 rfl rfl ?_
  refine mm_dup dX9_layLines_147 rfl ?_
  obtain ⟨hs28, hf⟩ := mm_sh_s hf
  refine mm_get (c := 9) (k := 44) (v := .int (mm_I s27 a0 44)) cd_ok ⟨_, _, _, rfl, by decide, Or.inl tw_838⟩ hs28 rfl dX9_layLines_148 ?_
  refine mm_iconst (v := 1) dX9_layLines_151 (by decide) ?_
  refine mm_iadd dX9_layLines_152 ?_
  refine mm_putI (c := 9) (k := 44) cd_ok ⟨_, _, _, rfl, by decide, rfl, Or.inl tw_838⟩ hs28 rfl rfl rfl dX9_layLines_153 ?_
  obtain ⟨s29, hs29, hf⟩ := mm_let_s hf
  rw [hs29]
  refine mm_iinc (j := 7) (L' := [(7, .int (x7 + 1)), (0, .ref a0), (1, .int x1), (2, .int x2), (3, .int x3), (4, .int x4), (5, .int x5), (6, .int x6), (8, .int x8)]) dX9_layLines_156 rfl rfl (by decide) rfl ?_
  refine mm_goto (tgt := 98) dX9_layLines_159 (by decide) ?_
  refine mm_sub [1, 2, 3, 4, 5, 6, 7, 0] rfl ?_
  exact hk98 a0 x1 x2 x3 x4 x5 x6 (x7 + 1) s29 hf
set_option maxHeartbeats 4000000 in
set_option maxRecDepth 100000 in
theorem kX9_layLines_98 {G : mm_G} {A : Nat → Prop} {ini : Bool × Option (List (Nat × Nat × Nat × Nat))} {k34 : Nat → Int32 → Int32 → Int32 → Int32 → mm_M → Option mm_M} {R : mm_M} (hk34 : ∀ a0 x1 x2 x3 x4 σ, k34 a0 x1 x2 x3 x4 σ = some R → mm_J cd_Y G RX9 cX9_layLines 9 none ini rmX9_layLines A (mm_QF cd_Y G A (mm_Pv R) rmX9_layLines.cells rmX9_layLines.slots) 34 [(0, .ref a0), (1, .int x1), (2, .int x2), (3, .int x3), (4, .int x4)] [] σ 0 0) : ∀ (a0 : Nat) (x1 : Int32) (x2 : Int32) (x3 : Int32) (x4 : Int32) (x5 : Int32) (x6 : Int32) (x7 : Int32) (σ : mm_M), fX9_layLines_98 k34 mm_fuel a0 x1 x2 x3 x4 x5 x6 x7 σ = some R → mm_J cd_Y G RX9 cX9_layLines 9 none ini rmX9_layLines A (mm_QF cd_Y G A (mm_Pv R) rmX9_layLines.cells rmX9_layLines.slots) 98 [(0, .ref a0), (1, .int x1), (2, .int x2), (3, .int x3), (4, .int x4), (5, .int x5), (6, .int x6), (7, .int x7)] [] σ 0 0 := by
  generalize mm_fuel = n
  induction n with
  | zero => intro a0 x1 x2 x3 x4 x5 x6 x7 σ hf; cases hf
  | succ n ih =>
    intro a0 x1 x2 x3 x4 x5 x6 x7 σ hf
    unfold fX9_layLines_98 at hf
    refine mm_iload (j := 7) dX9_layLines_98 rfl ?_
    refine mm_iload (j := 6) dX9_layLines_100 rfl ?_
    refine mm_icmp_gt (tgt := 162) dX9_layLines_102 (by decide) (fun c11 => ?_) (fun c11 => ?_)
    · rw [if_pos c11] at hf
      refine mm_sub [0, 1, 2, 3, 4, 5, 6, 7] rfl ?_
      exact kX9_layLines_162 hk34 a0 x1 x2 x3 x4 x5 x6 x7 σ hf
    · rw [if_neg c11] at hf
      refine mm_iload (j := 5) dX9_layLines_105 rfl ?_
      refine mm_iconst (v := (-1)) dX9_layLines_107 (by decide) ?_
      refine mm_icmp_eq (tgt := 162) dX9_layLines_108 (by decide) (fun c19 => ?_) (fun c19 => ?_)
      · rw [if_pos c19] at hf
        refine mm_sub [0, 1, 2, 3, 4, 5, 6, 7] rfl ?_
        exact kX9_layLines_162 hk34 a0 x1 x2 x3 x4 x5 x6 x7 σ hf
      · rw [if_neg c19] at hf
        refine mm_aload_n (j := 0) dX9_layLines_111 rfl rfl ?_
        refine mm_iload_n (j := 1) dX9_layLines_112 rfl rfl ?_
        refine mm_iload (j := 4) dX9_layLines_113 rfl ?_
        refine mm_iload (j := 7) dX9_layLines_115 rfl ?_
        obtain ⟨hs20, hf⟩ := mm_sh_s hf
        obtain ⟨q21, hq21, hf⟩ := mm_on_s hf
        refine mm_callVi cd_ok (kX9_letterOf a0 x1 x4 x7 hq21) hs20 rfl (Or.inl tw_1118) cdX9_letterOf tw_1120 ts_54 nmX9_letterOf rfl rfl (by simp only [List.map_cons, List.map_nil, mm_rf_cat]; exact Nat.le_of_ble_eq_true rfl) dX9_layLines_117 ⟨Nat.le_of_ble_eq_true rfl, Nat.le_of_ble_eq_true rfl⟩ ⟨Nat.le_of_ble_eq_true rfl, Nat.le_of_ble_eq_true rfl⟩ ?_
        refine mm_istore (L' := [(8, .int q21.1), (0, .ref a0), (1, .int x1), (2, .int x2), (3, .int x3), (4, .int x4), (5, .int x5), (6, .int x6), (7, .int x7)]) dX9_layLines_120 (by decide) rfl ?_
        refine mm_aload_n (j := 1) dX9_layLines_122 rfl rfl ?_
        obtain ⟨hs22, hf⟩ := mm_sh_s hf
        refine mm_get (c := 9) (k := 45) (v := va_rf (mm_R q21.2 a0 45)) cd_ok ⟨_, _, _, rfl, by decide, Or.inl tw_839⟩ hs22 rfl dX9_layLines_123 ?_
        refine mm_aload_n (j := 1) dX9_layLines_126 rfl rfl ?_
        refine mm_get (c := 9) (k := 44) (v := .int (mm_I q21.2 a0 44)) cd_ok ⟨_, _, _, rfl, by decide, Or.inl tw_838⟩ hs22 rfl dX9_layLines_127 ?_
        refine mm_iload (j := 0) dX9_layLines_130 rfl ?_
        refine mm_bipush (v := 32) dX9_layLines_132 (by decide) ?_
        refine mm_icmp_ge (tgt := 142) dX9_layLines_134 (by decide) (fun c23 => ?_) (fun c23 => ?_)
        · rw [if_pos c23] at hf
          refine mm_iload (j := 0) dX9_layLines_142 rfl ?_
          refine mm_sub [1, 2, 3, 4, 5, 6, 7, 8, 0] rfl ?_
          exact kX9_layLines_144 hk34 ih a0 x1 x2 x3 x4 x5 x6 x7 q21.1 q21.1 (mm_I q21.2 a0 44) (mm_R q21.2 a0 45) q21.2 hf
        · rw [if_neg c23] at hf
          refine mm_bipush (v := 32) dX9_layLines_137 (by decide) ?_
          refine mm_goto (tgt := 144) dX9_layLines_139 (by decide) ?_
          refine mm_sub [1, 2, 3, 4, 5, 6, 7, 8, 0] rfl ?_
          exact kX9_layLines_144 hk34 ih a0 x1 x2 x3 x4 x5 x6 x7 q21.1 32 (mm_I q21.2 a0 44) (mm_R q21.2 a0 45) q21.2 hf
set_option maxHeartbeats 4000000 in
set_option maxRecDepth 100000 in
theorem kX9_layLines_82 {G : mm_G} {A : Nat → Prop} {ini : Bool × Option (List (Nat × Nat × Nat × Nat))} {k34 : Nat → Int32 → Int32 → Int32 → Int32 → mm_M → Option mm_M} {k49 : Nat → Int32 → Int32 → Int32 → Int32 → Int32 → Int32 → Int32 → mm_M → Option mm_M} {R : mm_M} (hk34 : ∀ a0 x1 x2 x3 x4 σ, k34 a0 x1 x2 x3 x4 σ = some R → mm_J cd_Y G RX9 cX9_layLines 9 none ini rmX9_layLines A (mm_QF cd_Y G A (mm_Pv R) rmX9_layLines.cells rmX9_layLines.slots) 34 [(0, .ref a0), (1, .int x1), (2, .int x2), (3, .int x3), (4, .int x4)] [] σ 0 0) (hk49 : ∀ a0 x1 x2 x3 x4 x5 x6 x7 σ, k49 a0 x1 x2 x3 x4 x5 x6 x7 σ = some R → mm_J cd_Y G RX9 cX9_layLines 9 none ini rmX9_layLines A (mm_QF cd_Y G A (mm_Pv R) rmX9_layLines.cells rmX9_layLines.slots) 49 [(0, .ref a0), (1, .int x1), (2, .int x2), (3, .int x3), (4, .int x4), (5, .int x5), (6, .int x6), (7, .int x7)] [] σ 0 0) (a0 : Nat) (x1 : Int32) (x2 : Int32) (x3 : Int32) (x4 : Int32) (x5 : Int32) (x6 : Int32) (x7 : Int32) (y0 : Int32) (σ : mm_M) (hf : fX9_layLines_82 k34 k49 a0 x1 x2 x3 x4 x5 x6 x7 y0 σ = some R) : mm_J cd_Y G RX9 cX9_layLines 9 none ini rmX9_layLines A (mm_QF cd_Y G A (mm_Pv R) rmX9_layLines.cells rmX9_layLines.slots) 82 [(0, .ref a0), (1, .int x1), (2, .int x2), (3, .int x3), (4, .int x4), (5, .int x5), (6, .int x6), (7, .int x7)] [.int y0] σ 0 0 := by
  unfold fX9_layLines_82 at hf
  refine mm_istore (L' := [(5, .int y0), (0, .ref a0), (1, .int x1), (2, .int x2), (3, .int x3), (4, .int x4), (6, .int x6), (7, .int x7)]) dX9_layLines_82 (by decide) rfl ?_
  refine mm_iload (j := 7) dX9_layLines_84 rfl ?_
  refine mm_istore (L' := [(6, .int x7), (5, .int y0), (0, .ref a0), (1, .int x1), (2, .int x2), (3, .int x3), (4, .int x4), (7, .int x7)]) dX9_layLines_86 (by decide) rfl ?_
  refine mm_iinc (j := 7) (L' := [(7, .int (x7 + 1)), (6, .int x7), (5, .int y0), (0, .ref a0), (1, .int x1), (2, .int x2), (3, .int x3), (4, .int x4)]) dX9_layLines_88 rfl rfl (by decide) rfl ?_
  refine mm_goto (tgt := 49) dX9_layLines_91 (by decide) ?_
  refine mm_sub [3, 4, 5, 6, 7, 2, 1, 0] rfl ?_
  exact hk49 a0 x1 x2 x3 x4 y0 x7 (x7 + 1) σ hf
set_option maxHeartbeats 4000000 in
set_option maxRecDepth 100000 in
theorem kX9_layLines_49 {G : mm_G} {A : Nat → Prop} {ini : Bool × Option (List (Nat × Nat × Nat × Nat))} {k34 : Nat → Int32 → Int32 → Int32 → Int32 → mm_M → Option mm_M} {R : mm_M} (hk34 : ∀ a0 x1 x2 x3 x4 σ, k34 a0 x1 x2 x3 x4 σ = some R → mm_J cd_Y G RX9 cX9_layLines 9 none ini rmX9_layLines A (mm_QF cd_Y G A (mm_Pv R) rmX9_layLines.cells rmX9_layLines.slots) 34 [(0, .ref a0), (1, .int x1), (2, .int x2), (3, .int x3), (4, .int x4)] [] σ 0 0) : ∀ (a0 : Nat) (x1 : Int32) (x2 : Int32) (x3 : Int32) (x4 : Int32) (x5 : Int32) (x6 : Int32) (x7 : Int32) (σ : mm_M), fX9_layLines_49 k34 mm_fuel a0 x1 x2 x3 x4 x5 x6 x7 σ = some R → mm_J cd_Y G RX9 cX9_layLines 9 none ini rmX9_layLines A (mm_QF cd_Y G A (mm_Pv R) rmX9_layLines.cells rmX9_layLines.slots) 49 [(0, .ref a0), (1, .int x1), (2, .int x2), (3, .int x3), (4, .int x4), (5, .int x5), (6, .int x6), (7, .int x7)] [] σ 0 0 := by
  generalize mm_fuel = n
  induction n with
  | zero => intro a0 x1 x2 x3 x4 x5 x6 x7 σ hf; cases hf
  | succ n ih =>
    intro a0 x1 x2 x3 x4 x5 x6 x7 σ hf
    unfold fX9_layLines_49 at hf
    refine mm_iload (j := 7) dX9_layLines_49 rfl ?_
    refine mm_iload_n (j := 2) dX9_layLines_51 rfl rfl ?_
    refine mm_icmp_ge (tgt := 94) dX9_layLines_52 (by decide) (fun c10 => ?_) (fun c10 => ?_)
    · rw [if_pos c10] at hf
      refine mm_iload (j := 5) dX9_layLines_94 rfl ?_
      refine mm_istore (L' := [(7, .int x5), (0, .ref a0), (1, .int x1), (2, .int x2), (3, .int x3), (4, .int x4), (5, .int x5), (6, .int x6)]) dX9_layLines_96 (by decide) rfl ?_
      refine mm_sub [1, 2, 3, 4, 5, 6, 7, 0] rfl ?_
      exact kX9_layLines_98 hk34 a0 x1 x2 x3 x4 x5 x6 x5 σ hf
    · rw [if_neg c10] at hf
      refine mm_aload_n (j := 0) dX9_layLines_55 rfl rfl ?_
      refine mm_iload_n (j := 1) dX9_layLines_56 rfl rfl ?_
      refine mm_iload (j := 4) dX9_layLines_57 rfl ?_
      refine mm_iload (j := 7) dX9_layLines_59 rfl ?_
      obtain ⟨hs30, hf⟩ := mm_sh_s hf
      obtain ⟨q31, hq31, hf⟩ := mm_on_s hf
      refine mm_callVi cd_ok (kX9_letterOf a0 x1 x4 x7 hq31) hs30 rfl (Or.inl tw_1118) cdX9_letterOf tw_1120 ts_54 nmX9_letterOf rfl rfl (by simp only [List.map_cons, List.map_nil, mm_rf_cat]; exact Nat.le_of_ble_eq_true rfl) dX9_layLines_61 ⟨Nat.le_of_ble_eq_true rfl, Nat.le_of_ble_eq_true rfl⟩ ⟨Nat.le_of_ble_eq_true rfl, Nat.le_of_ble_eq_true rfl⟩ ?_
      refine mm_bipush (v := 32) dX9_layLines_64 (by decide) ?_
      refine mm_icmp_le (tgt := 88) dX9_layLines_66 (by decide) (fun c32 => ?_) (fun c32 => ?_)
      · rw [if_pos c32] at hf
        refine mm_iinc (j := 7) (L' := [(7, .int (x7 + 1)), (0, .ref a0), (1, .int x1), (2, .int x2), (3, .int x3), (4, .int x4), (5, .int x5), (6, .int x6)]) dX9_layLines_88 rfl rfl (by decide) rfl ?_
        refine mm_goto (tgt := 49) dX9_layLines_91 (by decide) ?_
        refine mm_sub [1, 2, 3, 4, 5, 6, 7, 0] rfl ?_
        exact ih a0 x1 x2 x3 x4 x5 x6 (x7 + 1) q31.2 hf
      · rw [if_neg c32] at hf
        refine mm_iload (j := 5) dX9_layLines_69 rfl ?_
        refine mm_iconst (v := (-1)) dX9_layLines_71 (by decide) ?_
        refine mm_icmp_ne (tgt := 80) dX9_layLines_72 (by decide) (fun c33 => ?_) (fun c33 => ?_)
        · rw [if_neg c33] at hf
          refine mm_iload (j := 5) dX9_layLines_80 rfl ?_
          refine mm_sub [0, 1, 2, 3, 4, 5, 6, 7] rfl ?_
          exact kX9_layLines_82 hk34 ih a0 x1 x2 x3 x4 x5 x6 x7 x5 q31.2 hf
        · rw [if_pos c33] at hf
          refine mm_iload (j := 7) dX9_layLines_75 rfl ?_
          refine mm_goto (tgt := 82) dX9_layLines_77 (by decide) ?_
          refine mm_sub [0, 1, 2, 3, 4, 5, 6, 7] rfl ?_
          exact kX9_layLines_82 hk34 ih a0 x1 x2 x3 x4 x5 x6 x7 x7 q31.2 hf
set_option maxHeartbeats 4000000 in
set_option maxRecDepth 100000 in
theorem kX9_layLines_34 {G : mm_G} {A : Nat → Prop} {ini : Bool × Option (List (Nat × Nat × Nat × Nat))}  {R : mm_M}  : ∀ (a0 : Nat) (x1 : Int32) (x2 : Int32) (x3 : Int32) (x4 : Int32) (σ : mm_M), fX9_layLines_34  mm_fuel a0 x1 x2 x3 x4 σ = some R → mm_J cd_Y G RX9 cX9_layLines 9 none ini rmX9_layLines A (mm_QF cd_Y G A (mm_Pv R) rmX9_layLines.cells rmX9_layLines.slots) 34 [(0, .ref a0), (1, .int x1), (2, .int x2), (3, .int x3), (4, .int x4)] [] σ 0 0 := by
  generalize mm_fuel = n
  induction n with
  | zero => intro a0 x1 x2 x3 x4 σ hf; cases hf
  | succ n ih =>
    intro a0 x1 x2 x3 x4 σ hf
    unfold fX9_layLines_34 at hf
    refine mm_iload (j := 4) dX9_layLines_34 rfl ?_
    refine mm_iload_n (j := 3) dX9_layLines_36 rfl rfl ?_
    refine mm_icmp_gt (tgt := 195) dX9_layLines_37 (by decide) (fun c5 => ?_) (fun c5 => ?_)
    · rw [if_pos c5] at hf
      refine mm_aload_n (j := 0) dX9_layLines_195 rfl rfl ?_
      refine mm_aload_n (j := 0) dX9_layLines_196 rfl rfl ?_
      obtain ⟨hs6, hf⟩ := mm_sh_s hf
      refine mm_get (c := 9) (k := 44) (v := .int (mm_I σ a0 44)) cd_ok ⟨_, _, _, rfl, by decide, Or.inl tw_838⟩ hs6 rfl dX9_layLines_197 ?_
      refine mm_sipush (v := 400) dX9_layLines_200 (by decide) ?_
      refine mm_icmp_le (tgt := 212) dX9_layLines_203 (by decide) (fun c7 => ?_) (fun c7 => ?_)
      · rw [if_pos c7] at hf
        refine mm_aload_n (j := 0) dX9_layLines_212 rfl rfl ?_
        refine mm_get (c := 9) (k := 44) (v := .int (mm_I σ a0 44)) cd_ok ⟨_, _, _, rfl, by decide, Or.inl tw_838⟩ hs6 rfl dX9_layLines_213 ?_
        refine mm_putI (c := 9) (k := 44) cd_ok ⟨_, _, _, rfl, by decide, rfl, Or.inl tw_838⟩ hs6 rfl rfl rfl dX9_layLines_216 ?_
        obtain ⟨s8, hs8, hf⟩ := mm_let_s hf
        rw [hs8]
        cases hf
        refine mm_widen (ck' := rmX9_layLines.cells) (sk' := rmX9_layLines.slots) (Nat.le_of_ble_eq_true rfl) (Nat.le_of_ble_eq_true rfl) ?_
        exact mm_vret rfl dX9_layLines_219 ⟨rfl, rfl⟩
      · rw [if_neg c7] at hf
        refine mm_sipush (v := 400) dX9_layLines_206 (by decide) ?_
        refine mm_goto (tgt := 216) dX9_layLines_209 (by decide) ?_
        refine mm_putI (c := 9) (k := 44) cd_ok ⟨_, _, _, rfl, by decide, rfl, Or.inl tw_838⟩ hs6 rfl rfl rfl dX9_layLines_216 ?_
        obtain ⟨s9, hs9, hf⟩ := mm_let_s hf
        rw [hs9]
        cases hf
        refine mm_widen (ck' := rmX9_layLines.cells) (sk' := rmX9_layLines.slots) (Nat.le_of_ble_eq_true rfl) (Nat.le_of_ble_eq_true rfl) ?_
        exact mm_vret rfl dX9_layLines_219 ⟨rfl, rfl⟩
    · rw [if_neg c5] at hf
      refine mm_iconst (v := (-1)) dX9_layLines_40 (by decide) ?_
      refine mm_istore (L' := [(5, .int (-1)), (0, .ref a0), (1, .int x1), (2, .int x2), (3, .int x3), (4, .int x4)]) dX9_layLines_41 (by decide) rfl ?_
      refine mm_iconst (v := (-1)) dX9_layLines_43 (by decide) ?_
      refine mm_istore (L' := [(6, .int (-1)), (5, .int (-1)), (0, .ref a0), (1, .int x1), (2, .int x2), (3, .int x3), (4, .int x4)]) dX9_layLines_44 (by decide) rfl ?_
      refine mm_iconst (v := 0) dX9_layLines_46 (by decide) ?_
      refine mm_istore (L' := [(7, .int 0), (6, .int (-1)), (5, .int (-1)), (0, .ref a0), (1, .int x1), (2, .int x2), (3, .int x3), (4, .int x4)]) dX9_layLines_47 (by decide) rfl ?_
      refine mm_sub [3, 4, 5, 6, 7, 2, 1, 0] rfl ?_
      exact kX9_layLines_49 ih a0 x1 x2 x3 x4 (-1) (-1) 0 σ hf
set_option maxHeartbeats 4000000 in
set_option maxRecDepth 100000 in
theorem kX9_layLines_17 {G : mm_G} {A : Nat → Prop} {ini : Bool × Option (List (Nat × Nat × Nat × Nat))}  {R : mm_M}  (a0 : Nat) (x1 : Int32) (y0 : Int32) (σ : mm_M) (hf : fX9_layLines_17  a0 x1 y0 σ = some R) : mm_J cd_Y G RX9 cX9_layLines 9 none ini rmX9_layLines A (mm_QF cd_Y G A (mm_Pv R) rmX9_layLines.cells rmX9_layLines.slots) 17 [(0, .ref a0), (1, .int x1)] [.int y0] σ 0 0 := by
  unfold fX9_layLines_17 at hf
  refine mm_istore_n (L' := [(2, .int y0), (0, .ref a0), (1, .int x1)]) dX9_layLines_17 rfl (by decide) rfl ?_
  refine mm_iload_n (j := 2) dX9_layLines_18 rfl rfl ?_
  refine mm_iconst (v := 4) dX9_layLines_19 (by decide) ?_
  refine mm_icmp_ge (tgt := 28) dX9_layLines_20 (by decide) (fun c4 => ?_) (fun c4 => ?_)
  · rw [if_pos c4] at hf
    refine mm_bipush (v := 24) dX9_layLines_28 (by decide) ?_
    refine mm_istore_n (L' := [(3, .int 24), (2, .int y0), (0, .ref a0), (1, .int x1)]) dX9_layLines_30 rfl (by decide) rfl ?_
    refine mm_iconst (v := 1) dX9_layLines_31 (by decide) ?_
    refine mm_istore (L' := [(4, .int 1), (3, .int 24), (2, .int y0), (0, .ref a0), (1, .int x1)]) dX9_layLines_32 (by decide) rfl ?_
    refine mm_sub [3, 4, 2, 1, 0] rfl ?_
    exact kX9_layLines_34  a0 x1 y0 24 1 σ hf
  · rw [if_neg c4] at hf
    refine mm_bipush (v := 15) dX9_layLines_23 (by decide) ?_
    refine mm_goto (tgt := 30) dX9_layLines_25 (by decide) ?_
    refine mm_istore_n (L' := [(3, .int 15), (2, .int y0), (0, .ref a0), (1, .int x1)]) dX9_layLines_30 rfl (by decide) rfl ?_
    refine mm_iconst (v := 1) dX9_layLines_31 (by decide) ?_
    refine mm_istore (L' := [(4, .int 1), (3, .int 15), (2, .int y0), (0, .ref a0), (1, .int x1)]) dX9_layLines_32 (by decide) rfl ?_
    refine mm_sub [3, 4, 2, 1, 0] rfl ?_
    exact kX9_layLines_34  a0 x1 y0 15 1 σ hf
set_option maxHeartbeats 4000000 in
set_option maxRecDepth 100000 in
theorem kX9_layLines {G : mm_G} {A : Nat → Prop} (p0 : Nat) (p1 : Int32) {σ : mm_M} {R : mm_M} (hf : fX9_layLines p0 p1 σ = some R) : mm_C cd_Y G yX9_layLines cX9_layLines 9 none rmX9_layLines A [.ref p0, .int p1] σ (mm_Pv R) := by
  refine mm_C.of (by decide) (Nat.le_of_ble_eq_true rfl) ?_
  unfold fX9_layLines at hf
  have e0 : lv_args 0 [.ref p0, .int p1] = [(0, .ref p0), (1, .int p1)] := rfl
  rw [e0]
  generalize hini : ((yX9_layLines.name == "<init>"), none) = ini
  clear e0
  clear hini
  refine mm_aload_n (j := 0) dX9_layLines_0 rfl rfl ?_
  refine mm_iconst (v := 0) dX9_layLines_1 (by decide) ?_
  obtain ⟨hs1, hf⟩ := mm_sh_s hf
  refine mm_putI (c := 9) (k := 44) cd_ok ⟨_, _, _, rfl, by decide, rfl, Or.inl tw_838⟩ hs1 rfl rfl rfl dX9_layLines_2 ?_
  obtain ⟨s2, hs2, hf⟩ := mm_let_s hf
  rw [hs2]
  refine mm_iload_n (j := 1) dX9_layLines_5 rfl rfl ?_
  refine mm_iconst (v := 4) dX9_layLines_6 (by decide) ?_
  refine mm_icmp_ge (tgt := 15) dX9_layLines_7 (by decide) (fun c3 => ?_) (fun c3 => ?_)
  · rw [if_pos c3] at hf
    refine mm_bipush (v := 40) dX9_layLines_15 (by decide) ?_
    refine mm_sub [0, 1] rfl ?_
    exact kX9_layLines_17  p0 p1 40 s2 hf
  · rw [if_neg c3] at hf
    refine mm_bipush (v := 32) dX9_layLines_10 (by decide) ?_
    refine mm_goto (tgt := 17) dX9_layLines_12 (by decide) ?_
    refine mm_sub [0, 1] rfl ?_
    exact kX9_layLines_17  p0 p1 32 s2 hf
theorem dX9_isSame_0 : decode cX9_isSame 0 = .ok (.aload_n 0, 1) := by decide +kernel
theorem dX9_isSame_1 : decode cX9_isSame 1 = .ok (.getfield 102, 3) := by decide +kernel
theorem dX9_isSame_4 : decode cX9_isSame 4 = .ok (.iload_n 1, 1) := by decide +kernel
theorem dX9_isSame_5 : decode cX9_isSame 5 = .ok (.iaload, 1) := by decide +kernel
theorem dX9_isSame_6 : decode cX9_isSame 6 = .ok (.aload_n 0, 1) := by decide +kernel
theorem dX9_isSame_7 : decode cX9_isSame 7 = .ok (.getfield 244, 3) := by decide +kernel
theorem dX9_isSame_10 : decode cX9_isSame 10 = .ok (.if_icmp .ne 7, 3) := by decide +kernel
theorem dX9_isSame_13 : decode cX9_isSame 13 = .ok (.iconst 1, 1) := by decide +kernel
theorem dX9_isSame_14 : decode cX9_isSame 14 = .ok (.goto 4, 3) := by decide +kernel
theorem dX9_isSame_17 : decode cX9_isSame 17 = .ok (.iconst 0, 1) := by decide +kernel
theorem dX9_isSame_18 : decode cX9_isSame 18 = .ok (.istore_n 2, 1) := by decide +kernel
theorem dX9_isSame_19 : decode cX9_isSame 19 = .ok (.iconst 0, 1) := by decide +kernel
theorem dX9_isSame_20 : decode cX9_isSame 20 = .ok (.istore_n 3, 1) := by decide +kernel
theorem dX9_isSame_21 : decode cX9_isSame 21 = .ok (.iload_n 3, 1) := by decide +kernel
theorem dX9_isSame_22 : decode cX9_isSame 22 = .ok (.aload_n 0, 1) := by decide +kernel
theorem dX9_isSame_23 : decode cX9_isSame 23 = .ok (.getfield 244, 3) := by decide +kernel
theorem dX9_isSame_26 : decode cX9_isSame 26 = .ok (.if_icmp .ge 40, 3) := by decide +kernel
theorem dX9_isSame_29 : decode cX9_isSame 29 = .ok (.iload_n 2, 1) := by decide +kernel
theorem dX9_isSame_30 : decode cX9_isSame 30 = .ok (.ifCond .eq 36, 3) := by decide +kernel
theorem dX9_isSame_33 : decode cX9_isSame 33 = .ok (.aload_n 0, 1) := by decide +kernel
theorem dX9_isSame_34 : decode cX9_isSame 34 = .ok (.getfield 105, 3) := by decide +kernel
theorem dX9_isSame_37 : decode cX9_isSame 37 = .ok (.sipush 400, 3) := by decide +kernel
theorem dX9_isSame_40 : decode cX9_isSame 40 = .ok (.iload_n 1, 1) := by decide +kernel
theorem dX9_isSame_41 : decode cX9_isSame 41 = .ok (.imul, 1) := by decide +kernel
theorem dX9_isSame_42 : decode cX9_isSame 42 = .ok (.iload_n 3, 1) := by decide +kernel
theorem dX9_isSame_43 : decode cX9_isSame 43 = .ok (.iadd, 1) := by decide +kernel
theorem dX9_isSame_44 : decode cX9_isSame 44 = .ok (.baload, 1) := by decide +kernel
theorem dX9_isSame_45 : decode cX9_isSame 45 = .ok (.aload_n 0, 1) := by decide +kernel
theorem dX9_isSame_46 : decode cX9_isSame 46 = .ok (.getfield 117, 3) := by decide +kernel
theorem dX9_isSame_49 : decode cX9_isSame 49 = .ok (.iload_n 3, 1) := by decide +kernel
theorem dX9_isSame_50 : decode cX9_isSame 50 = .ok (.baload, 1) := by decide +kernel
theorem dX9_isSame_51 : decode cX9_isSame 51 = .ok (.if_icmp .ne 7, 3) := by decide +kernel
theorem dX9_isSame_54 : decode cX9_isSame 54 = .ok (.iconst 1, 1) := by decide +kernel
theorem dX9_isSame_55 : decode cX9_isSame 55 = .ok (.goto 4, 3) := by decide +kernel
theorem dX9_isSame_58 : decode cX9_isSame 58 = .ok (.iconst 0, 1) := by decide +kernel
theorem dX9_isSame_59 : decode cX9_isSame 59 = .ok (.istore_n 2, 1) := by decide +kernel
theorem dX9_isSame_60 : decode cX9_isSame 60 = .ok (.iinc 3 1, 3) := by decide +kernel
theorem dX9_isSame_63 : decode cX9_isSame 63 = .ok (.goto (-42), 3) := by decide +kernel
theorem dX9_isSame_66 : decode cX9_isSame 66 = .ok (.iload_n 2, 1) := by decide +kernel
theorem dX9_isSame_67 : decode cX9_isSame 67 = .ok (.ireturn, 1) := by decide +kernel
theorem nmX9_isSame : mm_nm yX9_isSame 1 := ⟨by decide, by decide, by decide +kernel⟩
theorem cdX9_isSame : mm_cd cd_Y yX9_isSame cX9_isSame 4 (some .boolean) := ⟨tw_1125, tw_8⟩
abbrev rmX9_isSame : Room := { frames := 0, cells := 0, slots := 0, locals := 0 }
def fX9_isSame_21  : Nat → Nat → Int32 → Int32 → Int32 → mm_M → Option (Int32 × mm_M)
  | 0 => fun _ _ _ _ _ => none
  | n + 1 => fun a0 x1 x2 x3 σ =>
  mm_sh σ a0 (.inl 9) ((if (mm_I σ a0 44) ≤ x3 then mm_ck (x2 = 0 ∨ x2 = 1) (some (x2, σ)) else (if x2 = 0 then mm_ck (x2 = 0 ∨ x2 = 1) (some (x2, σ)) else mm_on (mm_R σ a0 40) fun q11 => mm_ar σ q11 2 fun n12 => mm_ib ((400 * x1) + x3) n12 (mm_on (mm_R σ a0 45) fun q14 => mm_ar σ q14 2 fun n15 => mm_ib x3 n15 ((if (mm_I σ q11 ((400 * x1) + x3).toNatClampNeg) = (mm_I σ q14 x3.toNatClampNeg) then (fX9_isSame_21  n a0 x1 1 (x3 + 1) σ) else (fX9_isSame_21  n a0 x1 0 (x3 + 1) σ)))))))
def fX9_isSame (p0 : Nat) (p1 : Int32) (σ : mm_M) : Option (Int32 × mm_M) :=
  mm_sh σ p0 (.inl 9) (mm_on (mm_R σ p0 39) fun q2 => mm_ar σ q2 0 fun n3 => mm_ib p1 n3 ((if (mm_I σ q2 p1.toNatClampNeg) = (mm_I σ p0 44) then (fX9_isSame_21  mm_fuel p0 p1 1 0 σ) else (fX9_isSame_21  mm_fuel p0 p1 0 0 σ))))
set_option maxHeartbeats 4000000 in
set_option maxRecDepth 100000 in
theorem kX9_isSame_21 {G : mm_G} {A : Nat → Prop} {ini : Bool × Option (List (Nat × Nat × Nat × Nat))}  {R : (Int32 × mm_M)}  : ∀ (a0 : Nat) (x1 : Int32) (x2 : Int32) (x3 : Int32) (σ : mm_M), fX9_isSame_21  mm_fuel a0 x1 x2 x3 σ = some R → mm_J cd_Y G RX9 cX9_isSame 4 (some .boolean) ini rmX9_isSame A (mm_QF cd_Y G A (mm_Pi R.1 R.2) rmX9_isSame.cells rmX9_isSame.slots) 21 [(0, .ref a0), (1, .int x1), (2, .int x2), (3, .int x3)] [] σ 0 0 := by
  generalize mm_fuel = n
  induction n with
  | zero => intro a0 x1 x2 x3 σ hf; cases hf
  | succ n ih =>
    intro a0 x1 x2 x3 σ hf
    unfold fX9_isSame_21 at hf
    refine mm_iload_n (j := 3) dX9_isSame_21 rfl rfl ?_
    refine mm_aload_n (j := 0) dX9_isSame_22 rfl rfl ?_
    obtain ⟨hs6, hf⟩ := mm_sh_s hf
    refine mm_get (c := 9) (k := 44) (v := .int (mm_I σ a0 44)) cd_ok ⟨_, _, _, rfl, by decide, Or.inl tw_838⟩ hs6 rfl dX9_isSame_23 ?_
    refine mm_icmp_ge (tgt := 66) dX9_isSame_26 (by decide) (fun c7 => ?_) (fun c7 => ?_)
    · rw [if_pos c7] at hf
      refine mm_iload_n (j := 2) dX9_isSame_66 rfl rfl ?_
      obtain ⟨hz8, hf⟩ := mm_ck_s hf
      cases hf
      refine mm_widen (ck' := rmX9_isSame.cells) (sk' := rmX9_isSame.slots) (Nat.le_of_ble_eq_true rfl) (Nat.le_of_ble_eq_true rfl) ?_
      exact mm_iret rfl (mm_z01 hz8) dX9_isSame_67 ⟨rfl, rfl⟩
    · rw [if_neg c7] at hf
      refine mm_iload_n (j := 2) dX9_isSame_29 rfl rfl ?_
      refine mm_if_eq (tgt := 66) dX9_isSame_30 (by decide) (fun c9 => ?_) (fun c9 => ?_)
      · rw [if_pos c9] at hf
        refine mm_iload_n (j := 2) dX9_isSame_66 rfl rfl ?_
        obtain ⟨hz10, hf⟩ := mm_ck_s hf
        cases hf
        refine mm_widen (ck' := rmX9_isSame.cells) (sk' := rmX9_isSame.slots) (Nat.le_of_ble_eq_true rfl) (Nat.le_of_ble_eq_true rfl) ?_
        exact mm_iret rfl (mm_z01 hz10) dX9_isSame_67 ⟨rfl, rfl⟩
      · rw [if_neg c9] at hf
        refine mm_aload_n (j := 0) dX9_isSame_33 rfl rfl ?_
        refine mm_get (c := 9) (k := 40) (v := va_rf (mm_R σ a0 40)) cd_ok ⟨_, _, _, rfl, by decide, Or.inl tw_834⟩ hs6 rfl dX9_isSame_34 ?_
        refine mm_sipush (v := 400) dX9_isSame_37 (by decide) ?_
        refine mm_iload_n (j := 1) dX9_isSame_40 rfl rfl ?_
        refine mm_imul dX9_isSame_41 ?_
        refine mm_iload_n (j := 3) dX9_isSame_42 rfl rfl ?_
        refine mm_iadd dX9_isSame_43 ?_
        obtain ⟨q11, hq11, hf⟩ := mm_on_s hf
        rw [hq11, mm_rf_some]
        obtain ⟨n12, hn12, hf⟩ := mm_ar_s hf
        obtain ⟨hi13, hf⟩ := mm_ib_s hf
        refine mm_bald hn12 rfl hi13 dX9_isSame_44 ?_
        refine mm_aload_n (j := 0) dX9_isSame_45 rfl rfl ?_
        refine mm_get (c := 9) (k := 45) (v := va_rf (mm_R σ a0 45)) cd_ok ⟨_, _, _, rfl, by decide, Or.inl tw_839⟩ hs6 rfl dX9_isSame_46 ?_
        refine mm_iload_n (j := 3) dX9_isSame_49 rfl rfl ?_
        obtain ⟨q14, hq14, hf⟩ := mm_on_s hf
        rw [hq14, mm_rf_some]
        obtain ⟨n15, hn15, hf⟩ := mm_ar_s hf
        obtain ⟨hi16, hf⟩ := mm_ib_s hf
        refine mm_bald hn15 rfl hi16 dX9_isSame_50 ?_
        refine mm_icmp_ne (tgt := 58) dX9_isSame_51 (by decide) (fun c17 => ?_) (fun c17 => ?_)
        · rw [if_neg c17] at hf
          refine mm_iconst (v := 0) dX9_isSame_58 (by decide) ?_
          refine mm_istore_n (L' := [(2, .int 0), (0, .ref a0), (1, .int x1), (3, .int x3)]) dX9_isSame_59 rfl (by decide) rfl ?_
          refine mm_iinc (j := 3) (L' := [(3, .int (x3 + 1)), (2, .int 0), (0, .ref a0), (1, .int x1)]) dX9_isSame_60 rfl rfl (by decide) rfl ?_
          refine mm_goto (tgt := 21) dX9_isSame_63 (by decide) ?_
          refine mm_sub [2, 3, 1, 0] rfl ?_
          exact ih a0 x1 0 (x3 + 1) σ hf
        · rw [if_pos c17] at hf
          refine mm_iconst (v := 1) dX9_isSame_54 (by decide) ?_
          refine mm_goto (tgt := 59) dX9_isSame_55 (by decide) ?_
          refine mm_istore_n (L' := [(2, .int 1), (0, .ref a0), (1, .int x1), (3, .int x3)]) dX9_isSame_59 rfl (by decide) rfl ?_
          refine mm_iinc (j := 3) (L' := [(3, .int (x3 + 1)), (2, .int 1), (0, .ref a0), (1, .int x1)]) dX9_isSame_60 rfl rfl (by decide) rfl ?_
          refine mm_goto (tgt := 21) dX9_isSame_63 (by decide) ?_
          refine mm_sub [2, 3, 1, 0] rfl ?_
          exact ih a0 x1 1 (x3 + 1) σ hf
set_option maxHeartbeats 4000000 in
set_option maxRecDepth 100000 in
theorem kX9_isSame {G : mm_G} {A : Nat → Prop} (p0 : Nat) (p1 : Int32) {σ : mm_M} {R : (Int32 × mm_M)} (hf : fX9_isSame p0 p1 σ = some R) : mm_C cd_Y G yX9_isSame cX9_isSame 4 (some .boolean) rmX9_isSame A [.ref p0, .int p1] σ (mm_Pi R.1 R.2) := by
  refine mm_C.of (by decide) (Nat.le_of_ble_eq_true rfl) ?_
  unfold fX9_isSame at hf
  have e0 : lv_args 0 [.ref p0, .int p1] = [(0, .ref p0), (1, .int p1)] := rfl
  rw [e0]
  generalize hini : ((yX9_isSame.name == "<init>"), none) = ini
  clear e0
  clear hini
  refine mm_aload_n (j := 0) dX9_isSame_0 rfl rfl ?_
  obtain ⟨hs1, hf⟩ := mm_sh_s hf
  refine mm_get (c := 9) (k := 39) (v := va_rf (mm_R σ p0 39)) cd_ok ⟨_, _, _, rfl, by decide, Or.inl tw_833⟩ hs1 rfl dX9_isSame_1 ?_
  refine mm_iload_n (j := 1) dX9_isSame_4 rfl rfl ?_
  obtain ⟨q2, hq2, hf⟩ := mm_on_s hf
  rw [hq2, mm_rf_some]
  obtain ⟨n3, hn3, hf⟩ := mm_ar_s hf
  obtain ⟨hi4, hf⟩ := mm_ib_s hf
  refine mm_iald hn3 rfl hi4 dX9_isSame_5 ?_
  refine mm_aload_n (j := 0) dX9_isSame_6 rfl rfl ?_
  refine mm_get (c := 9) (k := 44) (v := .int (mm_I σ p0 44)) cd_ok ⟨_, _, _, rfl, by decide, Or.inl tw_838⟩ hs1 rfl dX9_isSame_7 ?_
  refine mm_icmp_ne (tgt := 17) dX9_isSame_10 (by decide) (fun c5 => ?_) (fun c5 => ?_)
  · rw [if_neg c5] at hf
    refine mm_iconst (v := 0) dX9_isSame_17 (by decide) ?_
    refine mm_istore_n (L' := [(2, .int 0), (0, .ref p0), (1, .int p1)]) dX9_isSame_18 rfl (by decide) rfl ?_
    refine mm_iconst (v := 0) dX9_isSame_19 (by decide) ?_
    refine mm_istore_n (L' := [(3, .int 0), (2, .int 0), (0, .ref p0), (1, .int p1)]) dX9_isSame_20 rfl (by decide) rfl ?_
    refine mm_sub [2, 3, 1, 0] rfl ?_
    exact kX9_isSame_21  p0 p1 0 0 σ hf
  · rw [if_pos c5] at hf
    refine mm_iconst (v := 1) dX9_isSame_13 (by decide) ?_
    refine mm_goto (tgt := 18) dX9_isSame_14 (by decide) ?_
    refine mm_istore_n (L' := [(2, .int 1), (0, .ref p0), (1, .int p1)]) dX9_isSame_18 rfl (by decide) rfl ?_
    refine mm_iconst (v := 0) dX9_isSame_19 (by decide) ?_
    refine mm_istore_n (L' := [(3, .int 0), (2, .int 1), (0, .ref p0), (1, .int p1)]) dX9_isSame_20 rfl (by decide) rfl ?_
    refine mm_sub [2, 3, 1, 0] rfl ?_
    exact kX9_isSame_21  p0 p1 1 0 σ hf
theorem dX9_tick_0 : decode cX9_tick 0 = .ok (.aload_n 0, 1) := by decide +kernel
theorem dX9_tick_1 : decode cX9_tick 1 = .ok (.iload_n 1, 1) := by decide +kernel
theorem dX9_tick_2 : decode cX9_tick 2 = .ok (.iconst 1, 1) := by decide +kernel
theorem dX9_tick_3 : decode cX9_tick 3 = .ok (.ldc 250, 2) := by decide +kernel
theorem dX9_tick_5 : decode cX9_tick 5 = .ok (.invokestatic 153, 3) := by decide +kernel
theorem dX9_tick_8 : decode cX9_tick 8 = .ok (.invokevirtual 169, 3) := by decide +kernel
theorem dX9_tick_11 : decode cX9_tick 11 = .ok (.ifCond .ne 5, 3) := by decide +kernel
theorem dX9_tick_14 : decode cX9_tick 14 = .ok (.iconst 0, 1) := by decide +kernel
theorem dX9_tick_15 : decode cX9_tick 15 = .ok (.ireturn, 1) := by decide +kernel
theorem dX9_tick_16 : decode cX9_tick 16 = .ok (.aload_n 0, 1) := by decide +kernel
theorem dX9_tick_17 : decode cX9_tick 17 = .ok (.aload_n 0, 1) := by decide +kernel
theorem dX9_tick_18 : decode cX9_tick 18 = .ok (.getfield 251, 3) := by decide +kernel
theorem dX9_tick_21 : decode cX9_tick 21 = .ok (.iload_n 1, 1) := by decide +kernel
theorem dX9_tick_22 : decode cX9_tick 22 = .ok (.iadd, 1) := by decide +kernel
theorem dX9_tick_23 : decode cX9_tick 23 = .ok (.putfield 251, 3) := by decide +kernel
theorem dX9_tick_26 : decode cX9_tick 26 = .ok (.iconst 0, 1) := by decide +kernel
theorem dX9_tick_27 : decode cX9_tick 27 = .ok (.istore_n 2, 1) := by decide +kernel
theorem dX9_tick_28 : decode cX9_tick 28 = .ok (.iload_n 2, 1) := by decide +kernel
theorem dX9_tick_29 : decode cX9_tick 29 = .ok (.iconst 5, 1) := by decide +kernel
theorem dX9_tick_30 : decode cX9_tick 30 = .ok (.if_icmp .ge 188, 3) := by decide +kernel
theorem dX9_tick_33 : decode cX9_tick 33 = .ok (.aload_n 0, 1) := by decide +kernel
theorem dX9_tick_34 : decode cX9_tick 34 = .ok (.iload_n 2, 1) := by decide +kernel
theorem dX9_tick_35 : decode cX9_tick 35 = .ok (.invokevirtual 254, 3) := by decide +kernel
theorem dX9_tick_38 : decode cX9_tick 38 = .ok (.aload_n 0, 1) := by decide +kernel
theorem dX9_tick_39 : decode cX9_tick 39 = .ok (.getfield 108, 3) := by decide +kernel
theorem dX9_tick_42 : decode cX9_tick 42 = .ok (.iload_n 2, 1) := by decide +kernel
theorem dX9_tick_43 : decode cX9_tick 43 = .ok (.iaload, 1) := by decide +kernel
theorem dX9_tick_44 : decode cX9_tick 44 = .ok (.iconst (-1), 1) := by decide +kernel
theorem dX9_tick_45 : decode cX9_tick 45 = .ok (.if_icmp .eq 38, 3) := by decide +kernel
theorem dX9_tick_48 : decode cX9_tick 48 = .ok (.aload_n 0, 1) := by decide +kernel
theorem dX9_tick_49 : decode cX9_tick 49 = .ok (.aload_n 0, 1) := by decide +kernel
theorem dX9_tick_50 : decode cX9_tick 50 = .ok (.getfield 108, 3) := by decide +kernel
theorem dX9_tick_53 : decode cX9_tick 53 = .ok (.iload_n 2, 1) := by decide +kernel
theorem dX9_tick_54 : decode cX9_tick 54 = .ok (.iaload, 1) := by decide +kernel
theorem dX9_tick_55 : decode cX9_tick 55 = .ok (.invokevirtual 257, 3) := by decide +kernel
theorem dX9_tick_58 : decode cX9_tick 58 = .ok (.ifCond .ne 25, 3) := by decide +kernel
theorem dX9_tick_61 : decode cX9_tick 61 = .ok (.aload_n 0, 1) := by decide +kernel
theorem dX9_tick_62 : decode cX9_tick 62 = .ok (.getfield 99, 3) := by decide +kernel
theorem dX9_tick_65 : decode cX9_tick 65 = .ok (.aload_n 0, 1) := by decide +kernel
theorem dX9_tick_66 : decode cX9_tick 66 = .ok (.getfield 108, 3) := by decide +kernel
theorem dX9_tick_69 : decode cX9_tick 69 = .ok (.iload_n 2, 1) := by decide +kernel
theorem dX9_tick_70 : decode cX9_tick 70 = .ok (.iaload, 1) := by decide +kernel
theorem dX9_tick_71 : decode cX9_tick 71 = .ok (.aload_n 0, 1) := by decide +kernel
theorem dX9_tick_72 : decode cX9_tick 72 = .ok (.getfield 251, 3) := by decide +kernel
theorem dX9_tick_75 : decode cX9_tick 75 = .ok (.iastore, 1) := by decide +kernel
theorem dX9_tick_76 : decode cX9_tick 76 = .ok (.aload_n 0, 1) := by decide +kernel
theorem dX9_tick_77 : decode cX9_tick 77 = .ok (.getfield 108, 3) := by decide +kernel
theorem dX9_tick_80 : decode cX9_tick 80 = .ok (.iload_n 2, 1) := by decide +kernel
theorem dX9_tick_81 : decode cX9_tick 81 = .ok (.iconst (-1), 1) := by decide +kernel
theorem dX9_tick_82 : decode cX9_tick 82 = .ok (.iastore, 1) := by decide +kernel
theorem dX9_tick_83 : decode cX9_tick 83 = .ok (.aload_n 0, 1) := by decide +kernel
theorem dX9_tick_84 : decode cX9_tick 84 = .ok (.getfield 108, 3) := by decide +kernel
theorem dX9_tick_87 : decode cX9_tick 87 = .ok (.iload_n 2, 1) := by decide +kernel
theorem dX9_tick_88 : decode cX9_tick 88 = .ok (.iaload, 1) := by decide +kernel
theorem dX9_tick_89 : decode cX9_tick 89 = .ok (.iconst (-1), 1) := by decide +kernel
theorem dX9_tick_90 : decode cX9_tick 90 = .ok (.if_icmp .ne 122, 3) := by decide +kernel
theorem dX9_tick_93 : decode cX9_tick 93 = .ok (.aload_n 0, 1) := by decide +kernel
theorem dX9_tick_94 : decode cX9_tick 94 = .ok (.getfield 244, 3) := by decide +kernel
theorem dX9_tick_97 : decode cX9_tick 97 = .ok (.ifCond .le 115, 3) := by decide +kernel
theorem dX9_tick_100 : decode cX9_tick 100 = .ok (.aload_n 0, 1) := by decide +kernel
theorem dX9_tick_101 : decode cX9_tick 101 = .ok (.getfield 260, 3) := by decide +kernel
theorem dX9_tick_104 : decode cX9_tick 104 = .ok (.bipush 60, 2) := by decide +kernel
theorem dX9_tick_106 : decode cX9_tick 106 = .ok (.if_icmp .ge 106, 3) := by decide +kernel
theorem dX9_tick_109 : decode cX9_tick 109 = .ok (.aload_n 0, 1) := by decide +kernel
theorem dX9_tick_110 : decode cX9_tick 110 = .ok (.getfield 108, 3) := by decide +kernel
theorem dX9_tick_113 : decode cX9_tick 113 = .ok (.iload_n 2, 1) := by decide +kernel
theorem dX9_tick_114 : decode cX9_tick 114 = .ok (.aload_n 0, 1) := by decide +kernel
theorem dX9_tick_115 : decode cX9_tick 115 = .ok (.getfield 260, 3) := by decide +kernel
theorem dX9_tick_118 : decode cX9_tick 118 = .ok (.iastore, 1) := by decide +kernel
theorem dX9_tick_119 : decode cX9_tick 119 = .ok (.aload_n 0, 1) := by decide +kernel
theorem dX9_tick_120 : decode cX9_tick 120 = .ok (.getfield 93, 3) := by decide +kernel
theorem dX9_tick_123 : decode cX9_tick 123 = .ok (.aload_n 0, 1) := by decide +kernel
theorem dX9_tick_124 : decode cX9_tick 124 = .ok (.getfield 260, 3) := by decide +kernel
theorem dX9_tick_127 : decode cX9_tick 127 = .ok (.iload_n 2, 1) := by decide +kernel
theorem dX9_tick_128 : decode cX9_tick 128 = .ok (.iastore, 1) := by decide +kernel
theorem dX9_tick_129 : decode cX9_tick 129 = .ok (.aload_n 0, 1) := by decide +kernel
theorem dX9_tick_130 : decode cX9_tick 130 = .ok (.getfield 96, 3) := by decide +kernel
theorem dX9_tick_133 : decode cX9_tick 133 = .ok (.aload_n 0, 1) := by decide +kernel
theorem dX9_tick_134 : decode cX9_tick 134 = .ok (.getfield 260, 3) := by decide +kernel
theorem dX9_tick_137 : decode cX9_tick 137 = .ok (.aload_n 0, 1) := by decide +kernel
theorem dX9_tick_138 : decode cX9_tick 138 = .ok (.getfield 251, 3) := by decide +kernel
theorem dX9_tick_141 : decode cX9_tick 141 = .ok (.iastore, 1) := by decide +kernel
theorem dX9_tick_142 : decode cX9_tick 142 = .ok (.aload_n 0, 1) := by decide +kernel
theorem dX9_tick_143 : decode cX9_tick 143 = .ok (.getfield 99, 3) := by decide +kernel
theorem dX9_tick_146 : decode cX9_tick 146 = .ok (.aload_n 0, 1) := by decide +kernel
theorem dX9_tick_147 : decode cX9_tick 147 = .ok (.getfield 260, 3) := by decide +kernel
theorem dX9_tick_150 : decode cX9_tick 150 = .ok (.iconst (-1), 1) := by decide +kernel
theorem dX9_tick_151 : decode cX9_tick 151 = .ok (.iastore, 1) := by decide +kernel
theorem dX9_tick_152 : decode cX9_tick 152 = .ok (.aload_n 0, 1) := by decide +kernel
theorem dX9_tick_153 : decode cX9_tick 153 = .ok (.getfield 102, 3) := by decide +kernel
theorem dX9_tick_156 : decode cX9_tick 156 = .ok (.aload_n 0, 1) := by decide +kernel
theorem dX9_tick_157 : decode cX9_tick 157 = .ok (.getfield 260, 3) := by decide +kernel
theorem dX9_tick_160 : decode cX9_tick 160 = .ok (.aload_n 0, 1) := by decide +kernel
theorem dX9_tick_161 : decode cX9_tick 161 = .ok (.getfield 244, 3) := by decide +kernel
theorem dX9_tick_164 : decode cX9_tick 164 = .ok (.iastore, 1) := by decide +kernel
theorem dX9_tick_165 : decode cX9_tick 165 = .ok (.iconst 0, 1) := by decide +kernel
theorem dX9_tick_166 : decode cX9_tick 166 = .ok (.istore_n 3, 1) := by decide +kernel
theorem dX9_tick_167 : decode cX9_tick 167 = .ok (.iload_n 3, 1) := by decide +kernel
theorem dX9_tick_168 : decode cX9_tick 168 = .ok (.aload_n 0, 1) := by decide +kernel
theorem dX9_tick_169 : decode cX9_tick 169 = .ok (.getfield 244, 3) := by decide +kernel
theorem dX9_tick_172 : decode cX9_tick 172 = .ok (.if_icmp .ge 30, 3) := by decide +kernel
theorem dX9_tick_175 : decode cX9_tick 175 = .ok (.aload_n 0, 1) := by decide +kernel
theorem dX9_tick_176 : decode cX9_tick 176 = .ok (.getfield 105, 3) := by decide +kernel
theorem dX9_tick_179 : decode cX9_tick 179 = .ok (.sipush 400, 3) := by decide +kernel
theorem dX9_tick_182 : decode cX9_tick 182 = .ok (.aload_n 0, 1) := by decide +kernel
theorem dX9_tick_183 : decode cX9_tick 183 = .ok (.getfield 260, 3) := by decide +kernel
theorem dX9_tick_186 : decode cX9_tick 186 = .ok (.imul, 1) := by decide +kernel
theorem dX9_tick_187 : decode cX9_tick 187 = .ok (.iload_n 3, 1) := by decide +kernel
theorem dX9_tick_188 : decode cX9_tick 188 = .ok (.iadd, 1) := by decide +kernel
theorem dX9_tick_189 : decode cX9_tick 189 = .ok (.aload_n 0, 1) := by decide +kernel
theorem dX9_tick_190 : decode cX9_tick 190 = .ok (.getfield 117, 3) := by decide +kernel
theorem dX9_tick_193 : decode cX9_tick 193 = .ok (.iload_n 3, 1) := by decide +kernel
theorem dX9_tick_194 : decode cX9_tick 194 = .ok (.baload, 1) := by decide +kernel
theorem dX9_tick_195 : decode cX9_tick 195 = .ok (.bastore, 1) := by decide +kernel
theorem dX9_tick_196 : decode cX9_tick 196 = .ok (.iinc 3 1, 3) := by decide +kernel
theorem dX9_tick_199 : decode cX9_tick 199 = .ok (.goto (-32), 3) := by decide +kernel
theorem dX9_tick_202 : decode cX9_tick 202 = .ok (.aload_n 0, 1) := by decide +kernel
theorem dX9_tick_203 : decode cX9_tick 203 = .ok (.dup, 1) := by decide +kernel
theorem dX9_tick_204 : decode cX9_tick 204 = .ok (.getfield 260, 3) := by decide +kernel
theorem dX9_tick_207 : decode cX9_tick 207 = .ok (.iconst 1, 1) := by decide +kernel
theorem dX9_tick_208 : decode cX9_tick 208 = .ok (.iadd, 1) := by decide +kernel
theorem dX9_tick_209 : decode cX9_tick 209 = .ok (.putfield 260, 3) := by decide +kernel
theorem dX9_tick_212 : decode cX9_tick 212 = .ok (.iinc 2 1, 3) := by decide +kernel
theorem dX9_tick_215 : decode cX9_tick 215 = .ok (.goto (-187), 3) := by decide +kernel
theorem dX9_tick_218 : decode cX9_tick 218 = .ok (.aload_n 0, 1) := by decide +kernel
theorem dX9_tick_219 : decode cX9_tick 219 = .ok (.getfield 251, 3) := by decide +kernel
theorem dX9_tick_222 : decode cX9_tick 222 = .ok (.ireturn, 1) := by decide +kernel
theorem nmX9_tick : mm_nm yX9_tick 1 := ⟨by decide, by decide, by decide +kernel⟩
theorem cdX9_tick : mm_cd cd_Y yX9_tick cX9_tick 4 (some .int) := ⟨tw_1112, tw_8⟩
abbrev rmX9_tick : Room := { frames := 3, cells := 0, slots := 0, locals := 76 }
def fX9_tick_167 (k28 : Nat → Int32 → Int32 → mm_M → Option (Int32 × mm_M)) : Nat → Nat → Int32 → Int32 → Int32 → mm_M → Option (Int32 × mm_M)
  | 0 => fun _ _ _ _ _ => none
  | n + 1 => fun a0 x1 x2 x3 σ =>
  mm_sh σ a0 (.inl 9) ((if (mm_I σ a0 44) ≤ x3 then mm_let (mm_wI σ a0 35 ((mm_I σ a0 35) + 1)) fun s44 => (k28 a0 x1 (x2 + 1) s44) else mm_on (mm_R σ a0 45) fun q45 => mm_ar σ q45 2 fun n46 => mm_ib x3 n46 (mm_on (mm_R σ a0 40) fun q48 => mm_ar σ q48 2 fun n49 => mm_ib ((400 * (mm_I σ a0 35)) + x3) n49 (mm_let (mm_wI σ q48 (((400 * (mm_I σ a0 35)) + x3).toNatClampNeg) ((mm_I σ q45 x3.toNatClampNeg).toInt8.toInt32)) fun s51 => (fX9_tick_167 k28 n a0 x1 x2 (x3 + 1) s51)))))
def fX9_tick_83 (k28 : Nat → Int32 → Int32 → mm_M → Option (Int32 × mm_M)) (a0 : Nat) (x1 : Int32) (x2 : Int32) (σ : mm_M) : Option (Int32 × mm_M) :=
  mm_sh σ a0 (.inl 9) (mm_on (mm_R σ a0 41) fun q16 => mm_ar σ q16 0 fun n17 => mm_ib x2 n17 ((if (mm_I σ q16 x2.toNatClampNeg) = (-1) then (if (mm_I σ a0 44) ≤ 0 then (k28 a0 x1 (x2 + 1) σ) else (if 60 ≤ (mm_I σ a0 35) then (k28 a0 x1 (x2 + 1) σ) else mm_on (mm_R σ a0 41) fun q22 => mm_ar σ q22 0 fun n23 => mm_ib x2 n23 (mm_let (mm_wI σ q22 (x2.toNatClampNeg) (mm_I σ a0 35)) fun s25 => mm_on (mm_R s25 a0 36) fun q26 => mm_ar s25 q26 0 fun n27 => mm_ib (mm_I s25 a0 35) n27 (mm_let (mm_wI s25 q26 ((mm_I s25 a0 35).toNatClampNeg) x2) fun s29 => mm_on (mm_R s29 a0 37) fun q30 => mm_ar s29 q30 0 fun n31 => mm_ib (mm_I s29 a0 35) n31 (mm_let (mm_wI s29 q30 ((mm_I s29 a0 35).toNatClampNeg) (mm_I s29 a0 34)) fun s33 => mm_on (mm_R s33 a0 38) fun q34 => mm_ar s33 q34 0 fun n35 => mm_ib (mm_I s33 a0 35) n35 (mm_let (mm_wI s33 q34 ((mm_I s33 a0 35).toNatClampNeg) (-1)) fun s37 => mm_on (mm_R s37 a0 39) fun q38 => mm_ar s37 q38 0 fun n39 => mm_ib (mm_I s37 a0 35) n39 (mm_let (mm_wI s37 q38 ((mm_I s37 a0 35).toNatClampNeg) (mm_I s37 a0 44)) fun s41 => (fX9_tick_167 k28 mm_fuel a0 x1 x2 0 s41)))))))) else (k28 a0 x1 (x2 + 1) σ))))
def fX9_tick_28  : Nat → Nat → Int32 → Int32 → mm_M → Option (Int32 × mm_M)
  | 0 => fun _ _ _ _ => none
  | n + 1 => fun a0 x1 x2 σ =>
  (if 5 ≤ x2 then mm_sh σ a0 (.inl 9) (some (mm_I σ a0 34, σ)) else mm_sh σ a0 (.inl 9) (mm_on (fX9_layLines a0 x2 σ) fun q9 => mm_sh q9 a0 (.inl 9) (mm_on (mm_R q9 a0 41) fun q11 => mm_ar q9 q11 0 fun n12 => mm_ib x2 n12 ((if (mm_I q9 q11 x2.toNatClampNeg) = (-1) then (fX9_tick_83 (fX9_tick_28  n) a0 x1 x2 q9) else mm_on (mm_R q9 a0 41) fun q52 => mm_ar q9 q52 0 fun n53 => mm_ib x2 n53 (mm_on (fX9_isSame a0 (mm_I q9 q52 x2.toNatClampNeg) q9) fun q55 => (if q55.1 = 0 then mm_sh q55.2 a0 (.inl 9) (mm_on (mm_R q55.2 a0 41) fun q58 => mm_ar q55.2 q58 0 fun n59 => mm_ib x2 n59 (mm_on (mm_R q55.2 a0 38) fun q61 => mm_ar q55.2 q61 0 fun n62 => mm_ib (mm_I q55.2 q58 x2.toNatClampNeg) n62 (mm_let (mm_wI q55.2 q61 ((mm_I q55.2 q58 x2.toNatClampNeg).toNatClampNeg) (mm_I q55.2 a0 34)) fun s64 => mm_on (mm_R s64 a0 41) fun q65 => mm_ar s64 q65 0 fun n66 => mm_ib x2 n66 (mm_let (mm_wI s64 q65 (x2.toNatClampNeg) (-1)) fun s68 => (fX9_tick_83 (fX9_tick_28  n) a0 x1 x2 s68))))) else (fX9_tick_83 (fX9_tick_28  n) a0 x1 x2 q55.2))))))))
def fX9_tick (p0 : Nat) (p1 : Int32) (σ : mm_M) : Option (Int32 × mm_M) :=
  mm_sh σ p0 (.inl 9) (mm_on (fX9_goes p0 (fX9_in p1 1 (100000 : Int32)) σ) fun q2 => (if q2.1 = 0 then some (0, q2.2) else mm_sh q2.2 p0 (.inl 9) (mm_let (mm_wI q2.2 p0 34 ((mm_I q2.2 p0 34) + p1)) fun s5 => (fX9_tick_28  mm_fuel p0 p1 0 s5))))
set_option maxHeartbeats 4000000 in
set_option maxRecDepth 100000 in
theorem kX9_tick_167 {G : mm_G} {A : Nat → Prop} {ini : Bool × Option (List (Nat × Nat × Nat × Nat))} {k28 : Nat → Int32 → Int32 → mm_M → Option (Int32 × mm_M)} {R : (Int32 × mm_M)} (hk28 : ∀ a0 x1 x2 σ, k28 a0 x1 x2 σ = some R → mm_J cd_Y G RX9 cX9_tick 4 (some .int) ini rmX9_tick A (mm_QF cd_Y G A (mm_Pi R.1 R.2) rmX9_tick.cells rmX9_tick.slots) 28 [(0, .ref a0), (1, .int x1), (2, .int x2)] [] σ 0 0) : ∀ (a0 : Nat) (x1 : Int32) (x2 : Int32) (x3 : Int32) (σ : mm_M), fX9_tick_167 k28 mm_fuel a0 x1 x2 x3 σ = some R → mm_J cd_Y G RX9 cX9_tick 4 (some .int) ini rmX9_tick A (mm_QF cd_Y G A (mm_Pi R.1 R.2) rmX9_tick.cells rmX9_tick.slots) 167 [(0, .ref a0), (1, .int x1), (2, .int x2), (3, .int x3)] [] σ 0 0 := by
  generalize mm_fuel = n
  induction n with
  | zero => intro a0 x1 x2 x3 σ hf; cases hf
  | succ n ih =>
    intro a0 x1 x2 x3 σ hf
    unfold fX9_tick_167 at hf
    refine mm_iload_n (j := 3) dX9_tick_167 rfl rfl ?_
    refine mm_aload_n (j := 0) dX9_tick_168 rfl rfl ?_
    obtain ⟨hs42, hf⟩ := mm_sh_s hf
    refine mm_get (c := 9) (k := 44) (v := .int (mm_I σ a0 44)) cd_ok ⟨_, _, _, rfl, by decide, Or.inl tw_838⟩ hs42 rfl dX9_tick_169 ?_
    refine mm_icmp_ge (tgt := 202) dX9_tick_172 (by decide) (fun c43 => ?_) (fun c43 => ?_)
    · rw [if_pos c43] at hf
      refine mm_aload_n (j := 0) dX9_tick_202 rfl rfl ?_
      refine mm_dup dX9_tick_203 rfl ?_
      refine mm_get (c := 9) (k := 35) (v := .int (mm_I σ a0 35)) cd_ok ⟨_, _, _, rfl, by decide, Or.inl tw_829⟩ hs42 rfl dX9_tick_204 ?_
      refine mm_iconst (v := 1) dX9_tick_207 (by decide) ?_
      refine mm_iadd dX9_tick_208 ?_
      refine mm_putI (c := 9) (k := 35) cd_ok ⟨_, _, _, rfl, by decide, rfl, Or.inl tw_829⟩ hs42 rfl rfl rfl dX9_tick_209 ?_
      obtain ⟨s44, hs44, hf⟩ := mm_let_s hf
      rw [hs44]
      refine mm_iinc (j := 2) (L' := [(2, .int (x2 + 1)), (0, .ref a0), (1, .int x1), (3, .int x3)]) dX9_tick_212 rfl rfl (by decide) rfl ?_
      refine mm_goto (tgt := 28) dX9_tick_215 (by decide) ?_
      refine mm_sub [1, 2, 0] rfl ?_
      exact hk28 a0 x1 (x2 + 1) s44 hf
    · rw [if_neg c43] at hf
      refine mm_aload_n (j := 0) dX9_tick_175 rfl rfl ?_
      refine mm_get (c := 9) (k := 40) (v := va_rf (mm_R σ a0 40)) cd_ok ⟨_, _, _, rfl, by decide, Or.inl tw_834⟩ hs42 rfl dX9_tick_176 ?_
      refine mm_sipush (v := 400) dX9_tick_179 (by decide) ?_
      refine mm_aload_n (j := 0) dX9_tick_182 rfl rfl ?_
      refine mm_get (c := 9) (k := 35) (v := .int (mm_I σ a0 35)) cd_ok ⟨_, _, _, rfl, by decide, Or.inl tw_829⟩ hs42 rfl dX9_tick_183 ?_
      refine mm_imul dX9_tick_186 ?_
      refine mm_iload_n (j := 3) dX9_tick_187 rfl rfl ?_
      refine mm_iadd dX9_tick_188 ?_
      refine mm_aload_n (j := 0) dX9_tick_189 rfl rfl ?_
      refine mm_get (c := 9) (k := 45) (v := va_rf (mm_R σ a0 45)) cd_ok ⟨_, _, _, rfl, by decide, Or.inl tw_839⟩ hs42 rfl dX9_tick_190 ?_
      refine mm_iload_n (j := 3) dX9_tick_193 rfl rfl ?_
      obtain ⟨q45, hq45, hf⟩ := mm_on_s hf
      rw [hq45, mm_rf_some]
      obtain ⟨n46, hn46, hf⟩ := mm_ar_s hf
      obtain ⟨hi47, hf⟩ := mm_ib_s hf
      refine mm_bald hn46 rfl hi47 dX9_tick_194 ?_
      obtain ⟨q48, hq48, hf⟩ := mm_on_s hf
      rw [hq48, mm_rf_some]
      obtain ⟨n49, hn49, hf⟩ := mm_ar_s hf
      obtain ⟨hi50, hf⟩ := mm_ib_s hf
      refine mm_bast hn49 rfl hi50 dX9_tick_195 ?_
      obtain ⟨s51, hs51, hf⟩ := mm_let_s hf
      rw [hs51]
      refine mm_iinc (j := 3) (L' := [(3, .int (x3 + 1)), (0, .ref a0), (1, .int x1), (2, .int x2)]) dX9_tick_196 rfl rfl (by decide) rfl ?_
      refine mm_goto (tgt := 167) dX9_tick_199 (by decide) ?_
      refine mm_sub [1, 2, 3, 0] rfl ?_
      exact ih a0 x1 x2 (x3 + 1) s51 hf
set_option maxHeartbeats 4000000 in
set_option maxRecDepth 100000 in
theorem kX9_tick_83 {G : mm_G} {A : Nat → Prop} {ini : Bool × Option (List (Nat × Nat × Nat × Nat))} {k28 : Nat → Int32 → Int32 → mm_M → Option (Int32 × mm_M)} {R : (Int32 × mm_M)} (hk28 : ∀ a0 x1 x2 σ, k28 a0 x1 x2 σ = some R → mm_J cd_Y G RX9 cX9_tick 4 (some .int) ini rmX9_tick A (mm_QF cd_Y G A (mm_Pi R.1 R.2) rmX9_tick.cells rmX9_tick.slots) 28 [(0, .ref a0), (1, .int x1), (2, .int x2)] [] σ 0 0) (a0 : Nat) (x1 : Int32) (x2 : Int32) (σ : mm_M) (hf : fX9_tick_83 k28 a0 x1 x2 σ = some R) : mm_J cd_Y G RX9 cX9_tick 4 (some .int) ini rmX9_tick A (mm_QF cd_Y G A (mm_Pi R.1 R.2) rmX9_tick.cells rmX9_tick.slots) 83 [(0, .ref a0), (1, .int x1), (2, .int x2)] [] σ 0 0 := by
  unfold fX9_tick_83 at hf
  refine mm_aload_n (j := 0) dX9_tick_83 rfl rfl ?_
  obtain ⟨hs15, hf⟩ := mm_sh_s hf
  refine mm_get (c := 9) (k := 41) (v := va_rf (mm_R σ a0 41)) cd_ok ⟨_, _, _, rfl, by decide, Or.inl tw_835⟩ hs15 rfl dX9_tick_84 ?_
  refine mm_iload_n (j := 2) dX9_tick_87 rfl rfl ?_
  obtain ⟨q16, hq16, hf⟩ := mm_on_s hf
  rw [hq16, mm_rf_some]
  obtain ⟨n17, hn17, hf⟩ := mm_ar_s hf
  obtain ⟨hi18, hf⟩ := mm_ib_s hf
  refine mm_iald hn17 rfl hi18 dX9_tick_88 ?_
  refine mm_iconst (v := (-1)) dX9_tick_89 (by decide) ?_
  refine mm_icmp_ne (tgt := 212) dX9_tick_90 (by decide) (fun c19 => ?_) (fun c19 => ?_)
  · rw [if_neg c19] at hf
    refine mm_iinc (j := 2) (L' := [(2, .int (x2 + 1)), (0, .ref a0), (1, .int x1)]) dX9_tick_212 rfl rfl (by decide) rfl ?_
    refine mm_goto (tgt := 28) dX9_tick_215 (by decide) ?_
    refine mm_sub [1, 2, 0] rfl ?_
    exact hk28 a0 x1 (x2 + 1) σ hf
  · rw [if_pos c19] at hf
    refine mm_aload_n (j := 0) dX9_tick_93 rfl rfl ?_
    refine mm_get (c := 9) (k := 44) (v := .int (mm_I σ a0 44)) cd_ok ⟨_, _, _, rfl, by decide, Or.inl tw_838⟩ hs15 rfl dX9_tick_94 ?_
    refine mm_if_le (tgt := 212) dX9_tick_97 (by decide) (fun c20 => ?_) (fun c20 => ?_)
    · rw [if_pos c20] at hf
      refine mm_iinc (j := 2) (L' := [(2, .int (x2 + 1)), (0, .ref a0), (1, .int x1)]) dX9_tick_212 rfl rfl (by decide) rfl ?_
      refine mm_goto (tgt := 28) dX9_tick_215 (by decide) ?_
      refine mm_sub [1, 2, 0] rfl ?_
      exact hk28 a0 x1 (x2 + 1) σ hf
    · rw [if_neg c20] at hf
      refine mm_aload_n (j := 0) dX9_tick_100 rfl rfl ?_
      refine mm_get (c := 9) (k := 35) (v := .int (mm_I σ a0 35)) cd_ok ⟨_, _, _, rfl, by decide, Or.inl tw_829⟩ hs15 rfl dX9_tick_101 ?_
      refine mm_bipush (v := 60) dX9_tick_104 (by decide) ?_
      refine mm_icmp_ge (tgt := 212) dX9_tick_106 (by decide) (fun c21 => ?_) (fun c21 => ?_)
      · rw [if_pos c21] at hf
        refine mm_iinc (j := 2) (L' := [(2, .int (x2 + 1)), (0, .ref a0), (1, .int x1)]) dX9_tick_212 rfl rfl (by decide) rfl ?_
        refine mm_goto (tgt := 28) dX9_tick_215 (by decide) ?_
        refine mm_sub [1, 2, 0] rfl ?_
        exact hk28 a0 x1 (x2 + 1) σ hf
      · rw [if_neg c21] at hf
        refine mm_aload_n (j := 0) dX9_tick_109 rfl rfl ?_
        refine mm_get (c := 9) (k := 41) (v := va_rf (mm_R σ a0 41)) cd_ok ⟨_, _, _, rfl, by decide, Or.inl tw_835⟩ hs15 rfl dX9_tick_110 ?_
        refine mm_iload_n (j := 2) dX9_tick_113 rfl rfl ?_
        refine mm_aload_n (j := 0) dX9_tick_114 rfl rfl ?_
        refine mm_get (c := 9) (k := 35) (v := .int (mm_I σ a0 35)) cd_ok ⟨_, _, _, rfl, by decide, Or.inl tw_829⟩ hs15 rfl dX9_tick_115 ?_
        obtain ⟨q22, hq22, hf⟩ := mm_on_s hf
        rw [hq22, mm_rf_some]
        obtain ⟨n23, hn23, hf⟩ := mm_ar_s hf
        obtain ⟨hi24, hf⟩ := mm_ib_s hf
        refine mm_iast hn23 rfl hi24 dX9_tick_118 ?_
        obtain ⟨s25, hs25, hf⟩ := mm_let_s hf
        rw [hs25]
        refine mm_aload_n (j := 0) dX9_tick_119 rfl rfl ?_
        refine mm_get (c := 9) (k := 36) (v := va_rf (mm_R s25 a0 36)) cd_ok ⟨_, _, _, rfl, by decide, Or.inl tw_830⟩ (mm_ke hs25 hs15) rfl dX9_tick_120 ?_
        refine mm_aload_n (j := 0) dX9_tick_123 rfl rfl ?_
        refine mm_get (c := 9) (k := 35) (v := .int (mm_I s25 a0 35)) cd_ok ⟨_, _, _, rfl, by decide, Or.inl tw_829⟩ (mm_ke hs25 hs15) rfl dX9_tick_124 ?_
        refine mm_iload_n (j := 2) dX9_tick_127 rfl rfl ?_
        obtain ⟨q26, hq26, hf⟩ := mm_on_s hf
        rw [hq26, mm_rf_some]
        obtain ⟨n27, hn27, hf⟩ := mm_ar_s hf
        obtain ⟨hi28, hf⟩ := mm_ib_s hf
        refine mm_iast hn27 rfl hi28 dX9_tick_128 ?_
        obtain ⟨s29, hs29, hf⟩ := mm_let_s hf
        rw [hs29]
        refine mm_aload_n (j := 0) dX9_tick_129 rfl rfl ?_
        refine mm_get (c := 9) (k := 37) (v := va_rf (mm_R s29 a0 37)) cd_ok ⟨_, _, _, rfl, by decide, Or.inl tw_831⟩ (mm_ke hs29 (mm_ke hs25 hs15)) rfl dX9_tick_130 ?_
        refine mm_aload_n (j := 0) dX9_tick_133 rfl rfl ?_
        refine mm_get (c := 9) (k := 35) (v := .int (mm_I s29 a0 35)) cd_ok ⟨_, _, _, rfl, by decide, Or.inl tw_829⟩ (mm_ke hs29 (mm_ke hs25 hs15)) rfl dX9_tick_134 ?_
        refine mm_aload_n (j := 0) dX9_tick_137 rfl rfl ?_
        refine mm_get (c := 9) (k := 34) (v := .int (mm_I s29 a0 34)) cd_ok ⟨_, _, _, rfl, by decide, Or.inl tw_828⟩ (mm_ke hs29 (mm_ke hs25 hs15)) rfl dX9_tick_138 ?_
        obtain ⟨q30, hq30, hf⟩ := mm_on_s hf
        rw [hq30, mm_rf_some]
        obtain ⟨n31, hn31, hf⟩ := mm_ar_s hf
        obtain ⟨hi32, hf⟩ := mm_ib_s hf
        refine mm_iast hn31 rfl hi32 dX9_tick_141 ?_
        obtain ⟨s33, hs33, hf⟩ := mm_let_s hf
        rw [hs33]
        refine mm_aload_n (j := 0) dX9_tick_142 rfl rfl ?_
        refine mm_get (c := 9) (k := 38) (v := va_rf (mm_R s33 a0 38)) cd_ok ⟨_, _, _, rfl, by decide, Or.inl tw_832⟩ (mm_ke hs33 (mm_ke hs29 (mm_ke hs25 hs15))) rfl dX9_tick_143 ?_
        refine mm_aload_n (j := 0) dX9_tick_146 rfl rfl ?_
        refine mm_get (c := 9) (k := 35) (v := .int (mm_I s33 a0 35)) cd_ok ⟨_, _, _, rfl, by decide, Or.inl tw_829⟩ (mm_ke hs33 (mm_ke hs29 (mm_ke hs25 hs15))) rfl dX9_tick_147 ?_
        refine mm_iconst (v := (-1)) dX9_tick_150 (by decide) ?_
        obtain ⟨q34, hq34, hf⟩ := mm_on_s hf
        rw [hq34, mm_rf_some]
        obtain ⟨n35, hn35, hf⟩ := mm_ar_s hf
        obtain ⟨hi36, hf⟩ := mm_ib_s hf
        refine mm_iast hn35 rfl hi36 dX9_tick_151 ?_
        obtain ⟨s37, hs37, hf⟩ := mm_let_s hf
        rw [hs37]
        refine mm_aload_n (j := 0) dX9_tick_152 rfl rfl ?_
        refine mm_get (c := 9) (k := 39) (v := va_rf (mm_R s37 a0 39)) cd_ok ⟨_, _, _, rfl, by decide, Or.inl tw_833⟩ (mm_ke hs37 (mm_ke hs33 (mm_ke hs29 (mm_ke hs25 hs15)))) rfl dX9_tick_153 ?_
        refine mm_aload_n (j := 0) dX9_tick_156 rfl rfl ?_
        refine mm_get (c := 9) (k := 35) (v := .int (mm_I s37 a0 35)) cd_ok ⟨_, _, _, rfl, by decide, Or.inl tw_829⟩ (mm_ke hs37 (mm_ke hs33 (mm_ke hs29 (mm_ke hs25 hs15)))) rfl dX9_tick_157 ?_
        refine mm_aload_n (j := 0) dX9_tick_160 rfl rfl ?_
        refine mm_get (c := 9) (k := 44) (v := .int (mm_I s37 a0 44)) cd_ok ⟨_, _, _, rfl, by decide, Or.inl tw_838⟩ (mm_ke hs37 (mm_ke hs33 (mm_ke hs29 (mm_ke hs25 hs15)))) rfl dX9_tick_161 ?_
        obtain ⟨q38, hq38, hf⟩ := mm_on_s hf
        rw [hq38, mm_rf_some]
        obtain ⟨n39, hn39, hf⟩ := mm_ar_s hf
        obtain ⟨hi40, hf⟩ := mm_ib_s hf
        refine mm_iast hn39 rfl hi40 dX9_tick_164 ?_
        obtain ⟨s41, hs41, hf⟩ := mm_let_s hf
        rw [hs41]
        refine mm_iconst (v := 0) dX9_tick_165 (by decide) ?_
        refine mm_istore_n (L' := [(3, .int 0), (0, .ref a0), (1, .int x1), (2, .int x2)]) dX9_tick_166 rfl (by decide) rfl ?_
        refine mm_sub [1, 2, 3, 0] rfl ?_
        exact kX9_tick_167 hk28 a0 x1 x2 0 s41 hf
set_option maxHeartbeats 4000000 in
set_option maxRecDepth 100000 in
theorem kX9_tick_28 {G : mm_G} {A : Nat → Prop} {ini : Bool × Option (List (Nat × Nat × Nat × Nat))}  {R : (Int32 × mm_M)}  : ∀ (a0 : Nat) (x1 : Int32) (x2 : Int32) (σ : mm_M), fX9_tick_28  mm_fuel a0 x1 x2 σ = some R → mm_J cd_Y G RX9 cX9_tick 4 (some .int) ini rmX9_tick A (mm_QF cd_Y G A (mm_Pi R.1 R.2) rmX9_tick.cells rmX9_tick.slots) 28 [(0, .ref a0), (1, .int x1), (2, .int x2)] [] σ 0 0 := by
  generalize mm_fuel = n
  induction n with
  | zero => intro a0 x1 x2 σ hf; cases hf
  | succ n ih =>
    intro a0 x1 x2 σ hf
    unfold fX9_tick_28 at hf
    refine mm_iload_n (j := 2) dX9_tick_28 rfl rfl ?_
    refine mm_iconst (v := 5) dX9_tick_29 (by decide) ?_
    refine mm_icmp_ge (tgt := 218) dX9_tick_30 (by decide) (fun c6 => ?_) (fun c6 => ?_)
    · rw [if_pos c6] at hf
      refine mm_aload_n (j := 0) dX9_tick_218 rfl rfl ?_
      obtain ⟨hs7, hf⟩ := mm_sh_s hf
      refine mm_get (c := 9) (k := 34) (v := .int (mm_I σ a0 34)) cd_ok ⟨_, _, _, rfl, by decide, Or.inl tw_828⟩ hs7 rfl dX9_tick_219 ?_
      cases hf
      refine mm_widen (ck' := rmX9_tick.cells) (sk' := rmX9_tick.slots) (Nat.le_of_ble_eq_true rfl) (Nat.le_of_ble_eq_true rfl) ?_
      exact mm_iret rfl rfl dX9_tick_222 ⟨rfl, rfl⟩
    · rw [if_neg c6] at hf
      refine mm_aload_n (j := 0) dX9_tick_33 rfl rfl ?_
      refine mm_iload_n (j := 2) dX9_tick_34 rfl rfl ?_
      obtain ⟨hs8, hf⟩ := mm_sh_s hf
      obtain ⟨q9, hq9, hf⟩ := mm_on_s hf
      refine mm_callVv cd_ok (kX9_layLines a0 x2 hq9) hs8 rfl (Or.inl tw_1114) cdX9_layLines tw_1116 ts_53 nmX9_layLines rfl rfl (by simp only [List.map_cons, List.map_nil, mm_rf_cat]; exact Nat.le_of_ble_eq_true rfl) dX9_tick_35 ⟨Nat.le_of_ble_eq_true rfl, Nat.le_of_ble_eq_true rfl⟩ ⟨Nat.le_of_ble_eq_true rfl, Nat.le_of_ble_eq_true rfl⟩ ?_
      refine mm_aload_n (j := 0) dX9_tick_38 rfl rfl ?_
      obtain ⟨hs10, hf⟩ := mm_sh_s hf
      refine mm_get (c := 9) (k := 41) (v := va_rf (mm_R q9 a0 41)) cd_ok ⟨_, _, _, rfl, by decide, Or.inl tw_835⟩ hs10 rfl dX9_tick_39 ?_
      refine mm_iload_n (j := 2) dX9_tick_42 rfl rfl ?_
      obtain ⟨q11, hq11, hf⟩ := mm_on_s hf
      rw [hq11, mm_rf_some]
      obtain ⟨n12, hn12, hf⟩ := mm_ar_s hf
      obtain ⟨hi13, hf⟩ := mm_ib_s hf
      refine mm_iald hn12 rfl hi13 dX9_tick_43 ?_
      refine mm_iconst (v := (-1)) dX9_tick_44 (by decide) ?_
      refine mm_icmp_eq (tgt := 83) dX9_tick_45 (by decide) (fun c14 => ?_) (fun c14 => ?_)
      · rw [if_pos c14] at hf
        refine mm_sub [0, 1, 2] rfl ?_
        exact kX9_tick_83 ih a0 x1 x2 q9 hf
      · rw [if_neg c14] at hf
        refine mm_aload_n (j := 0) dX9_tick_48 rfl rfl ?_
        refine mm_aload_n (j := 0) dX9_tick_49 rfl rfl ?_
        refine mm_get (c := 9) (k := 41) (v := va_rf (mm_R q9 a0 41)) cd_ok ⟨_, _, _, rfl, by decide, Or.inl tw_835⟩ hs10 rfl dX9_tick_50 ?_
        refine mm_iload_n (j := 2) dX9_tick_53 rfl rfl ?_
        obtain ⟨q52, hq52, hf⟩ := mm_on_s hf
        rw [hq52, mm_rf_some]
        obtain ⟨n53, hn53, hf⟩ := mm_ar_s hf
        obtain ⟨hi54, hf⟩ := mm_ib_s hf
        refine mm_iald hn53 rfl hi54 dX9_tick_54 ?_
        obtain ⟨q55, hq55, hf⟩ := mm_on_s hf
        refine mm_callVi cd_ok (kX9_isSame a0 (mm_I q9 q52 x2.toNatClampNeg) hq55) hs10 rfl (Or.inl tw_1122) cdX9_isSame tw_1124 ts_55 nmX9_isSame rfl rfl (by simp only [List.map_cons, List.map_nil, mm_rf_cat]; exact Nat.le_of_ble_eq_true rfl) dX9_tick_55 ⟨Nat.le_of_ble_eq_true rfl, Nat.le_of_ble_eq_true rfl⟩ ⟨Nat.le_of_ble_eq_true rfl, Nat.le_of_ble_eq_true rfl⟩ ?_
        refine mm_if_ne (tgt := 83) dX9_tick_58 (by decide) (fun c56 => ?_) (fun c56 => ?_)
        · rw [if_neg c56] at hf
          refine mm_sub [0, 1, 2] rfl ?_
          exact kX9_tick_83 ih a0 x1 x2 q55.2 hf
        · rw [if_pos c56] at hf
          refine mm_aload_n (j := 0) dX9_tick_61 rfl rfl ?_
          obtain ⟨hs57, hf⟩ := mm_sh_s hf
          refine mm_get (c := 9) (k := 38) (v := va_rf (mm_R q55.2 a0 38)) cd_ok ⟨_, _, _, rfl, by decide, Or.inl tw_832⟩ hs57 rfl dX9_tick_62 ?_
          refine mm_aload_n (j := 0) dX9_tick_65 rfl rfl ?_
          refine mm_get (c := 9) (k := 41) (v := va_rf (mm_R q55.2 a0 41)) cd_ok ⟨_, _, _, rfl, by decide, Or.inl tw_835⟩ hs57 rfl dX9_tick_66 ?_
          refine mm_iload_n (j := 2) dX9_tick_69 rfl rfl ?_
          obtain ⟨q58, hq58, hf⟩ := mm_on_s hf
          rw [hq58, mm_rf_some]
          obtain ⟨n59, hn59, hf⟩ := mm_ar_s hf
          obtain ⟨hi60, hf⟩ := mm_ib_s hf
          refine mm_iald hn59 rfl hi60 dX9_tick_70 ?_
          refine mm_aload_n (j := 0) dX9_tick_71 rfl rfl ?_
          refine mm_get (c := 9) (k := 34) (v := .int (mm_I q55.2 a0 34)) cd_ok ⟨_, _, _, rfl, by decide, Or.inl tw_828⟩ hs57 rfl dX9_tick_72 ?_
          obtain ⟨q61, hq61, hf⟩ := mm_on_s hf
          rw [hq61, mm_rf_some]
          obtain ⟨n62, hn62, hf⟩ := mm_ar_s hf
          obtain ⟨hi63, hf⟩ := mm_ib_s hf
          refine mm_iast hn62 rfl hi63 dX9_tick_75 ?_
          obtain ⟨s64, hs64, hf⟩ := mm_let_s hf
          rw [hs64]
          refine mm_aload_n (j := 0) dX9_tick_76 rfl rfl ?_
          refine mm_get (c := 9) (k := 41) (v := va_rf (mm_R s64 a0 41)) cd_ok ⟨_, _, _, rfl, by decide, Or.inl tw_835⟩ (mm_ke hs64 hs57) rfl dX9_tick_77 ?_
          refine mm_iload_n (j := 2) dX9_tick_80 rfl rfl ?_
          refine mm_iconst (v := (-1)) dX9_tick_81 (by decide) ?_
          obtain ⟨q65, hq65, hf⟩ := mm_on_s hf
          rw [hq65, mm_rf_some]
          obtain ⟨n66, hn66, hf⟩ := mm_ar_s hf
          obtain ⟨hi67, hf⟩ := mm_ib_s hf
          refine mm_iast hn66 rfl hi67 dX9_tick_82 ?_
          obtain ⟨s68, hs68, hf⟩ := mm_let_s hf
          rw [hs68]
          refine mm_sub [0, 1, 2] rfl ?_
          exact kX9_tick_83 ih a0 x1 x2 s68 hf
set_option maxHeartbeats 4000000 in
set_option maxRecDepth 100000 in
theorem kX9_tick {G : mm_G} {A : Nat → Prop} (p0 : Nat) (p1 : Int32) {σ : mm_M} {R : (Int32 × mm_M)} (hf : fX9_tick p0 p1 σ = some R) : mm_C cd_Y G yX9_tick cX9_tick 4 (some .int) rmX9_tick A [.ref p0, .int p1] σ (mm_Pi R.1 R.2) := by
  refine mm_C.of (by decide) (Nat.le_of_ble_eq_true rfl) ?_
  unfold fX9_tick at hf
  have e0 : lv_args 0 [.ref p0, .int p1] = [(0, .ref p0), (1, .int p1)] := rfl
  rw [e0]
  generalize hini : ((yX9_tick.name == "<init>"), none) = ini
  clear e0
  clear hini
  refine mm_aload_n (j := 0) dX9_tick_0 rfl rfl ?_
  refine mm_iload_n (j := 1) dX9_tick_1 rfl rfl ?_
  refine mm_iconst (v := 1) dX9_tick_2 (by decide) ?_
  refine mm_ldc tw_1113 dX9_tick_3 ?_
  refine mm_callSi cd_ok (kX9_in p1 1 (100000 : Int32) _ rfl) (Or.inl tw_941) cdX9_in tw_942 nmX9_in rfl rfl (by simp only [List.map_cons, List.map_nil, mm_rf_cat]; exact Nat.le_of_ble_eq_true rfl) dX9_tick_5 ⟨Nat.le_of_ble_eq_true rfl, Nat.le_of_ble_eq_true rfl⟩ ⟨Nat.le_of_ble_eq_true rfl, Nat.le_of_ble_eq_true rfl⟩ ?_
  obtain ⟨hs1, hf⟩ := mm_sh_s hf
  obtain ⟨q2, hq2, hf⟩ := mm_on_s hf
  refine mm_callVi cd_ok (kX9_goes p0 (fX9_in p1 1 (100000 : Int32)) hq2) hs1 rfl (Or.inl tw_944) cdX9_goes tw_946 ts_31 nmX9_goes rfl rfl (by simp only [List.map_cons, List.map_nil, mm_rf_cat]; exact Nat.le_of_ble_eq_true rfl) dX9_tick_8 ⟨Nat.le_of_ble_eq_true rfl, Nat.le_of_ble_eq_true rfl⟩ ⟨Nat.le_of_ble_eq_true rfl, Nat.le_of_ble_eq_true rfl⟩ ?_
  refine mm_if_ne (tgt := 16) dX9_tick_11 (by decide) (fun c3 => ?_) (fun c3 => ?_)
  · rw [if_neg c3] at hf
    refine mm_aload_n (j := 0) dX9_tick_16 rfl rfl ?_
    refine mm_aload_n (j := 0) dX9_tick_17 rfl rfl ?_
    obtain ⟨hs4, hf⟩ := mm_sh_s hf
    refine mm_get (c := 9) (k := 34) (v := .int (mm_I q2.2 p0 34)) cd_ok ⟨_, _, _, rfl, by decide, Or.inl tw_828⟩ hs4 rfl dX9_tick_18 ?_
    refine mm_iload_n (j := 1) dX9_tick_21 rfl rfl ?_
    refine mm_iadd dX9_tick_22 ?_
    refine mm_putI (c := 9) (k := 34) cd_ok ⟨_, _, _, rfl, by decide, rfl, Or.inl tw_828⟩ hs4 rfl rfl rfl dX9_tick_23 ?_
    obtain ⟨s5, hs5, hf⟩ := mm_let_s hf
    rw [hs5]
    refine mm_iconst (v := 0) dX9_tick_26 (by decide) ?_
    refine mm_istore_n (L' := [(2, .int 0), (0, .ref p0), (1, .int p1)]) dX9_tick_27 rfl (by decide) rfl ?_
    refine mm_sub [1, 2, 0] rfl ?_
    exact kX9_tick_28  p0 p1 0 s5 hf
  · rw [if_pos c3] at hf
    refine mm_iconst (v := 0) dX9_tick_14 (by decide) ?_
    cases hf
    refine mm_widen (ck' := rmX9_tick.cells) (sk' := rmX9_tick.slots) (Nat.le_of_ble_eq_true rfl) (Nat.le_of_ble_eq_true rfl) ?_
    exact mm_iret rfl rfl dX9_tick_15 ⟨rfl, rfl⟩
theorem dX9_cues_0 : decode cX9_cues 0 = .ok (.aload_n 0, 1) := by decide +kernel
theorem dX9_cues_1 : decode cX9_cues 1 = .ok (.iconst 0, 1) := by decide +kernel
theorem dX9_cues_2 : decode cX9_cues 2 = .ok (.putfield 120, 3) := by decide +kernel
theorem dX9_cues_5 : decode cX9_cues 5 = .ok (.aload_n 0, 1) := by decide +kernel
theorem dX9_cues_6 : decode cX9_cues 6 = .ok (.getfield 260, 3) := by decide +kernel
theorem dX9_cues_9 : decode cX9_cues 9 = .ok (.ireturn, 1) := by decide +kernel
theorem nmX9_cues : mm_nm yX9_cues 0 := ⟨by decide, by decide, by decide +kernel⟩
theorem cdX9_cues : mm_cd cd_Y yX9_cues cX9_cues 1 (some .int) := ⟨tw_1129, tw_8⟩
abbrev rmX9_cues : Room := { frames := 0, cells := 0, slots := 0, locals := 0 }
def fX9_cues (p0 : Nat) (σ : mm_M) : Option (Int32 × mm_M) :=
  mm_sh σ p0 (.inl 9) (mm_let (mm_wI σ p0 0 0) fun s2 => some (mm_I s2 p0 35, s2))
set_option maxHeartbeats 4000000 in
set_option maxRecDepth 100000 in
theorem kX9_cues {G : mm_G} {A : Nat → Prop} (p0 : Nat) {σ : mm_M} {R : (Int32 × mm_M)} (hf : fX9_cues p0 σ = some R) : mm_C cd_Y G yX9_cues cX9_cues 1 (some .int) rmX9_cues A [.ref p0] σ (mm_Pi R.1 R.2) := by
  refine mm_C.of (by decide) (Nat.le_of_ble_eq_true rfl) ?_
  unfold fX9_cues at hf
  have e0 : lv_args 0 [.ref p0] = [(0, .ref p0)] := rfl
  rw [e0]
  generalize hini : ((yX9_cues.name == "<init>"), none) = ini
  clear e0
  clear hini
  refine mm_aload_n (j := 0) dX9_cues_0 rfl rfl ?_
  refine mm_iconst (v := 0) dX9_cues_1 (by decide) ?_
  obtain ⟨hs1, hf⟩ := mm_sh_s hf
  refine mm_putI (c := 9) (k := 0) cd_ok ⟨_, _, _, rfl, by decide, rfl, Or.inl tw_794⟩ hs1 rfl rfl rfl dX9_cues_2 ?_
  obtain ⟨s2, hs2, hf⟩ := mm_let_s hf
  rw [hs2]
  refine mm_aload_n (j := 0) dX9_cues_5 rfl rfl ?_
  refine mm_get (c := 9) (k := 35) (v := .int (mm_I s2 p0 35)) cd_ok ⟨_, _, _, rfl, by decide, Or.inl tw_829⟩ (mm_ke hs2 hs1) rfl dX9_cues_6 ?_
  cases hf
  refine mm_widen (ck' := rmX9_cues.cells) (sk' := rmX9_cues.slots) (Nat.le_of_ble_eq_true rfl) (Nat.le_of_ble_eq_true rfl) ?_
  exact mm_iret rfl rfl dX9_cues_9 ⟨rfl, rfl⟩
theorem dX9_cue_0 : decode cX9_cue 0 = .ok (.aload_n 0, 1) := by decide +kernel
theorem dX9_cue_1 : decode cX9_cue 1 = .ok (.iload_n 1, 1) := by decide +kernel
theorem dX9_cue_2 : decode cX9_cue 2 = .ok (.iconst 0, 1) := by decide +kernel
theorem dX9_cue_3 : decode cX9_cue 3 = .ok (.aload_n 0, 1) := by decide +kernel
theorem dX9_cue_4 : decode cX9_cue 4 = .ok (.getfield 260, 3) := by decide +kernel
theorem dX9_cue_7 : decode cX9_cue 7 = .ok (.iconst 1, 1) := by decide +kernel
theorem dX9_cue_8 : decode cX9_cue 8 = .ok (.isub, 1) := by decide +kernel
theorem dX9_cue_9 : decode cX9_cue 9 = .ok (.invokestatic 153, 3) := by decide +kernel
theorem dX9_cue_12 : decode cX9_cue 12 = .ok (.ifCond .eq 16, 3) := by decide +kernel
theorem dX9_cue_15 : decode cX9_cue 15 = .ok (.iload_n 2, 1) := by decide +kernel
theorem dX9_cue_16 : decode cX9_cue 16 = .ok (.iconst 0, 1) := by decide +kernel
theorem dX9_cue_17 : decode cX9_cue 17 = .ok (.iconst 3, 1) := by decide +kernel
theorem dX9_cue_18 : decode cX9_cue 18 = .ok (.invokestatic 153, 3) := by decide +kernel
theorem dX9_cue_21 : decode cX9_cue 21 = .ok (.ifCond .eq 7, 3) := by decide +kernel
theorem dX9_cue_24 : decode cX9_cue 24 = .ok (.iconst 1, 1) := by decide +kernel
theorem dX9_cue_25 : decode cX9_cue 25 = .ok (.goto 4, 3) := by decide +kernel
theorem dX9_cue_28 : decode cX9_cue 28 = .ok (.iconst 0, 1) := by decide +kernel
theorem dX9_cue_29 : decode cX9_cue 29 = .ok (.invokevirtual 169, 3) := by decide +kernel
theorem dX9_cue_32 : decode cX9_cue 32 = .ok (.ifCond .ne 5, 3) := by decide +kernel
theorem dX9_cue_35 : decode cX9_cue 35 = .ok (.iconst 0, 1) := by decide +kernel
theorem dX9_cue_36 : decode cX9_cue 36 = .ok (.ireturn, 1) := by decide +kernel
theorem dX9_cue_37 : decode cX9_cue 37 = .ok (.iload_n 2, 1) := by decide +kernel
theorem dX9_cue_38 : decode cX9_cue 38 = .ok (.ifCond .ne 12, 3) := by decide +kernel
theorem dX9_cue_41 : decode cX9_cue 41 = .ok (.aload_n 0, 1) := by decide +kernel
theorem dX9_cue_42 : decode cX9_cue 42 = .ok (.getfield 93, 3) := by decide +kernel
theorem dX9_cue_45 : decode cX9_cue 45 = .ok (.iload_n 1, 1) := by decide +kernel
theorem dX9_cue_46 : decode cX9_cue 46 = .ok (.iaload, 1) := by decide +kernel
theorem dX9_cue_47 : decode cX9_cue 47 = .ok (.goto 37, 3) := by decide +kernel
theorem dX9_cue_50 : decode cX9_cue 50 = .ok (.iload_n 2, 1) := by decide +kernel
theorem dX9_cue_51 : decode cX9_cue 51 = .ok (.iconst 1, 1) := by decide +kernel
theorem dX9_cue_52 : decode cX9_cue 52 = .ok (.if_icmp .ne 12, 3) := by decide +kernel
theorem dX9_cue_55 : decode cX9_cue 55 = .ok (.aload_n 0, 1) := by decide +kernel
theorem dX9_cue_56 : decode cX9_cue 56 = .ok (.getfield 96, 3) := by decide +kernel
theorem dX9_cue_59 : decode cX9_cue 59 = .ok (.iload_n 1, 1) := by decide +kernel
theorem dX9_cue_60 : decode cX9_cue 60 = .ok (.iaload, 1) := by decide +kernel
theorem dX9_cue_61 : decode cX9_cue 61 = .ok (.goto 23, 3) := by decide +kernel
theorem dX9_cue_64 : decode cX9_cue 64 = .ok (.iload_n 2, 1) := by decide +kernel
theorem dX9_cue_65 : decode cX9_cue 65 = .ok (.iconst 2, 1) := by decide +kernel
theorem dX9_cue_66 : decode cX9_cue 66 = .ok (.if_icmp .ne 12, 3) := by decide +kernel
theorem dX9_cue_69 : decode cX9_cue 69 = .ok (.aload_n 0, 1) := by decide +kernel
theorem dX9_cue_70 : decode cX9_cue 70 = .ok (.getfield 99, 3) := by decide +kernel
theorem dX9_cue_73 : decode cX9_cue 73 = .ok (.iload_n 1, 1) := by decide +kernel
theorem dX9_cue_74 : decode cX9_cue 74 = .ok (.iaload, 1) := by decide +kernel
theorem dX9_cue_75 : decode cX9_cue 75 = .ok (.goto 9, 3) := by decide +kernel
theorem dX9_cue_78 : decode cX9_cue 78 = .ok (.aload_n 0, 1) := by decide +kernel
theorem dX9_cue_79 : decode cX9_cue 79 = .ok (.getfield 102, 3) := by decide +kernel
theorem dX9_cue_82 : decode cX9_cue 82 = .ok (.iload_n 1, 1) := by decide +kernel
theorem dX9_cue_83 : decode cX9_cue 83 = .ok (.iaload, 1) := by decide +kernel
theorem dX9_cue_84 : decode cX9_cue 84 = .ok (.ireturn, 1) := by decide +kernel
theorem nmX9_cue : mm_nm yX9_cue 2 := ⟨by decide, by decide, by decide +kernel⟩
theorem cdX9_cue : mm_cd cd_Y yX9_cue cX9_cue 3 (some .int) := ⟨tw_1133, tw_8⟩
abbrev rmX9_cue : Room := { frames := 1, cells := 0, slots := 0, locals := 22 }
def fX9_cue_29  (a0 : Nat) (x1 : Int32) (x2 : Int32) (y0 : Int32) (y1 : Nat) (σ : mm_M) : Option (Int32 × mm_M) :=
  mm_sh σ y1 (.inl 9) (mm_on (fX9_goes y1 y0 σ) fun q4 => (if q4.1 = 0 then some (0, q4.2) else (if x2 = 0 then mm_sh q4.2 a0 (.inl 9) (mm_on (mm_R q4.2 a0 36) fun q22 => mm_ar q4.2 q22 0 fun n23 => mm_ib x1 n23 (some (mm_I q4.2 q22 x1.toNatClampNeg, q4.2))) else (if x2 = 1 then mm_sh q4.2 a0 (.inl 9) (mm_on (mm_R q4.2 a0 37) fun q18 => mm_ar q4.2 q18 0 fun n19 => mm_ib x1 n19 (some (mm_I q4.2 q18 x1.toNatClampNeg, q4.2))) else (if x2 = 2 then mm_sh q4.2 a0 (.inl 9) (mm_on (mm_R q4.2 a0 38) fun q14 => mm_ar q4.2 q14 0 fun n15 => mm_ib x1 n15 (some (mm_I q4.2 q14 x1.toNatClampNeg, q4.2))) else mm_sh q4.2 a0 (.inl 9) (mm_on (mm_R q4.2 a0 39) fun q10 => mm_ar q4.2 q10 0 fun n11 => mm_ib x1 n11 (some (mm_I q4.2 q10 x1.toNatClampNeg, q4.2))))))))
def fX9_cue_28  (a0 : Nat) (x1 : Int32) (x2 : Int32) (y0 : Nat) (σ : mm_M) : Option (Int32 × mm_M) :=
  (fX9_cue_29  a0 x1 x2 0 y0 σ)
def fX9_cue (p0 : Nat) (p1 : Int32) (p2 : Int32) (σ : mm_M) : Option (Int32 × mm_M) :=
  mm_sh σ p0 (.inl 9) ((if (fX9_in p1 0 ((mm_I σ p0 35) - 1)) = 0 then (fX9_cue_28  p0 p1 p2 p0 σ) else (if (fX9_in p2 0 3) = 0 then (fX9_cue_28  p0 p1 p2 p0 σ) else (fX9_cue_29  p0 p1 p2 1 p0 σ))))
set_option maxHeartbeats 4000000 in
set_option maxRecDepth 100000 in
theorem kX9_cue_29 {G : mm_G} {A : Nat → Prop} {ini : Bool × Option (List (Nat × Nat × Nat × Nat))}  {R : (Int32 × mm_M)}  (a0 : Nat) (x1 : Int32) (x2 : Int32) (y0 : Int32) (y1 : Nat) (σ : mm_M) (hf : fX9_cue_29  a0 x1 x2 y0 y1 σ = some R) : mm_J cd_Y G RX9 cX9_cue 3 (some .int) ini rmX9_cue A (mm_QF cd_Y G A (mm_Pi R.1 R.2) rmX9_cue.cells rmX9_cue.slots) 29 [(0, .ref a0), (1, .int x1), (2, .int x2)] [.int y0, .ref y1] σ 0 0 := by
  unfold fX9_cue_29 at hf
  obtain ⟨hs3, hf⟩ := mm_sh_s hf
  obtain ⟨q4, hq4, hf⟩ := mm_on_s hf
  refine mm_callVi cd_ok (kX9_goes y1 y0 hq4) hs3 rfl (Or.inl tw_944) cdX9_goes tw_946 ts_31 nmX9_goes rfl rfl (by simp only [List.map_cons, List.map_nil, mm_rf_cat]; exact Nat.le_of_ble_eq_true rfl) dX9_cue_29 ⟨Nat.le_of_ble_eq_true rfl, Nat.le_of_ble_eq_true rfl⟩ ⟨Nat.le_of_ble_eq_true rfl, Nat.le_of_ble_eq_true rfl⟩ ?_
  refine mm_if_ne (tgt := 37) dX9_cue_32 (by decide) (fun c5 => ?_) (fun c5 => ?_)
  · rw [if_neg c5] at hf
    refine mm_iload_n (j := 2) dX9_cue_37 rfl rfl ?_
    refine mm_if_ne (tgt := 50) dX9_cue_38 (by decide) (fun c6 => ?_) (fun c6 => ?_)
    · rw [if_neg c6] at hf
      refine mm_iload_n (j := 2) dX9_cue_50 rfl rfl ?_
      refine mm_iconst (v := 1) dX9_cue_51 (by decide) ?_
      refine mm_icmp_ne (tgt := 64) dX9_cue_52 (by decide) (fun c7 => ?_) (fun c7 => ?_)
      · rw [if_neg c7] at hf
        refine mm_iload_n (j := 2) dX9_cue_64 rfl rfl ?_
        refine mm_iconst (v := 2) dX9_cue_65 (by decide) ?_
        refine mm_icmp_ne (tgt := 78) dX9_cue_66 (by decide) (fun c8 => ?_) (fun c8 => ?_)
        · rw [if_neg c8] at hf
          refine mm_aload_n (j := 0) dX9_cue_78 rfl rfl ?_
          obtain ⟨hs9, hf⟩ := mm_sh_s hf
          refine mm_get (c := 9) (k := 39) (v := va_rf (mm_R q4.2 a0 39)) cd_ok ⟨_, _, _, rfl, by decide, Or.inl tw_833⟩ hs9 rfl dX9_cue_79 ?_
          refine mm_iload_n (j := 1) dX9_cue_82 rfl rfl ?_
          obtain ⟨q10, hq10, hf⟩ := mm_on_s hf
          rw [hq10, mm_rf_some]
          obtain ⟨n11, hn11, hf⟩ := mm_ar_s hf
          obtain ⟨hi12, hf⟩ := mm_ib_s hf
          refine mm_iald hn11 rfl hi12 dX9_cue_83 ?_
          cases hf
          refine mm_widen (ck' := rmX9_cue.cells) (sk' := rmX9_cue.slots) (Nat.le_of_ble_eq_true rfl) (Nat.le_of_ble_eq_true rfl) ?_
          exact mm_iret rfl rfl dX9_cue_84 ⟨rfl, rfl⟩
        · rw [if_pos c8] at hf
          refine mm_aload_n (j := 0) dX9_cue_69 rfl rfl ?_
          obtain ⟨hs13, hf⟩ := mm_sh_s hf
          refine mm_get (c := 9) (k := 38) (v := va_rf (mm_R q4.2 a0 38)) cd_ok ⟨_, _, _, rfl, by decide, Or.inl tw_832⟩ hs13 rfl dX9_cue_70 ?_
          refine mm_iload_n (j := 1) dX9_cue_73 rfl rfl ?_
          obtain ⟨q14, hq14, hf⟩ := mm_on_s hf
          rw [hq14, mm_rf_some]
          obtain ⟨n15, hn15, hf⟩ := mm_ar_s hf
          obtain ⟨hi16, hf⟩ := mm_ib_s hf
          refine mm_iald hn15 rfl hi16 dX9_cue_74 ?_
          refine mm_goto (tgt := 84) dX9_cue_75 (by decide) ?_
          cases hf
          refine mm_widen (ck' := rmX9_cue.cells) (sk' := rmX9_cue.slots) (Nat.le_of_ble_eq_true rfl) (Nat.le_of_ble_eq_true rfl) ?_
          exact mm_iret rfl rfl dX9_cue_84 ⟨rfl, rfl⟩
      · rw [if_pos c7] at hf
        refine mm_aload_n (j := 0) dX9_cue_55 rfl rfl ?_
        obtain ⟨hs17, hf⟩ := mm_sh_s hf
        refine mm_get (c := 9) (k := 37) (v := va_rf (mm_R q4.2 a0 37)) cd_ok ⟨_, _, _, rfl, by decide, Or.inl tw_831⟩ hs17 rfl dX9_cue_56 ?_
        refine mm_iload_n (j := 1) dX9_cue_59 rfl rfl ?_
        obtain ⟨q18, hq18, hf⟩ := mm_on_s hf
        rw [hq18, mm_rf_some]
        obtain ⟨n19, hn19, hf⟩ := mm_ar_s hf
        obtain ⟨hi20, hf⟩ := mm_ib_s hf
        refine mm_iald hn19 rfl hi20 dX9_cue_60 ?_
        refine mm_goto (tgt := 84) dX9_cue_61 (by decide) ?_
        cases hf
        refine mm_widen (ck' := rmX9_cue.cells) (sk' := rmX9_cue.slots) (Nat.le_of_ble_eq_true rfl) (Nat.le_of_ble_eq_true rfl) ?_
        exact mm_iret rfl rfl dX9_cue_84 ⟨rfl, rfl⟩
    · rw [if_pos c6] at hf
      refine mm_aload_n (j := 0) dX9_cue_41 rfl rfl ?_
      obtain ⟨hs21, hf⟩ := mm_sh_s hf
      refine mm_get (c := 9) (k := 36) (v := va_rf (mm_R q4.2 a0 36)) cd_ok ⟨_, _, _, rfl, by decide, Or.inl tw_830⟩ hs21 rfl dX9_cue_42 ?_
      refine mm_iload_n (j := 1) dX9_cue_45 rfl rfl ?_
      obtain ⟨q22, hq22, hf⟩ := mm_on_s hf
      rw [hq22, mm_rf_some]
      obtain ⟨n23, hn23, hf⟩ := mm_ar_s hf
      obtain ⟨hi24, hf⟩ := mm_ib_s hf
      refine mm_iald hn23 rfl hi24 dX9_cue_46 ?_
      refine mm_goto (tgt := 84) dX9_cue_47 (by decide) ?_
      cases hf
      refine mm_widen (ck' := rmX9_cue.cells) (sk' := rmX9_cue.slots) (Nat.le_of_ble_eq_true rfl) (Nat.le_of_ble_eq_true rfl) ?_
      exact mm_iret rfl rfl dX9_cue_84 ⟨rfl, rfl⟩
  · rw [if_pos c5] at hf
    refine mm_iconst (v := 0) dX9_cue_35 (by decide) ?_
    cases hf
    refine mm_widen (ck' := rmX9_cue.cells) (sk' := rmX9_cue.slots) (Nat.le_of_ble_eq_true rfl) (Nat.le_of_ble_eq_true rfl) ?_
    exact mm_iret rfl rfl dX9_cue_36 ⟨rfl, rfl⟩
set_option maxHeartbeats 4000000 in
set_option maxRecDepth 100000 in
theorem kX9_cue_28 {G : mm_G} {A : Nat → Prop} {ini : Bool × Option (List (Nat × Nat × Nat × Nat))}  {R : (Int32 × mm_M)}  (a0 : Nat) (x1 : Int32) (x2 : Int32) (y0 : Nat) (σ : mm_M) (hf : fX9_cue_28  a0 x1 x2 y0 σ = some R) : mm_J cd_Y G RX9 cX9_cue 3 (some .int) ini rmX9_cue A (mm_QF cd_Y G A (mm_Pi R.1 R.2) rmX9_cue.cells rmX9_cue.slots) 28 [(0, .ref a0), (1, .int x1), (2, .int x2)] [.ref y0] σ 0 0 := by
  unfold fX9_cue_28 at hf
  refine mm_iconst (v := 0) dX9_cue_28 (by decide) ?_
  refine mm_sub [0, 1, 2] rfl ?_
  exact kX9_cue_29  a0 x1 x2 0 y0 σ hf
set_option maxHeartbeats 4000000 in
set_option maxRecDepth 100000 in
theorem kX9_cue {G : mm_G} {A : Nat → Prop} (p0 : Nat) (p1 : Int32) (p2 : Int32) {σ : mm_M} {R : (Int32 × mm_M)} (hf : fX9_cue p0 p1 p2 σ = some R) : mm_C cd_Y G yX9_cue cX9_cue 3 (some .int) rmX9_cue A [.ref p0, .int p1, .int p2] σ (mm_Pi R.1 R.2) := by
  refine mm_C.of (by decide) (Nat.le_of_ble_eq_true rfl) ?_
  unfold fX9_cue at hf
  have e0 : lv_args 0 [.ref p0, .int p1, .int p2] = [(0, .ref p0), (1, .int p1), (2, .int p2)] := rfl
  rw [e0]
  generalize hini : ((yX9_cue.name == "<init>"), none) = ini
  clear e0
  clear hini
  refine mm_aload_n (j := 0) dX9_cue_0 rfl rfl ?_
  refine mm_iload_n (j := 1) dX9_cue_1 rfl rfl ?_
  refine mm_iconst (v := 0) dX9_cue_2 (by decide) ?_
  refine mm_aload_n (j := 0) dX9_cue_3 rfl rfl ?_
  obtain ⟨hs1, hf⟩ := mm_sh_s hf
  refine mm_get (c := 9) (k := 35) (v := .int (mm_I σ p0 35)) cd_ok ⟨_, _, _, rfl, by decide, Or.inl tw_829⟩ hs1 rfl dX9_cue_4 ?_
  refine mm_iconst (v := 1) dX9_cue_7 (by decide) ?_
  refine mm_isub dX9_cue_8 ?_
  refine mm_callSi cd_ok (kX9_in p1 0 ((mm_I σ p0 35) - 1) _ rfl) (Or.inl tw_941) cdX9_in tw_942 nmX9_in rfl rfl (by simp only [List.map_cons, List.map_nil, mm_rf_cat]; exact Nat.le_of_ble_eq_true rfl) dX9_cue_9 ⟨Nat.le_of_ble_eq_true rfl, Nat.le_of_ble_eq_true rfl⟩ ⟨Nat.le_of_ble_eq_true rfl, Nat.le_of_ble_eq_true rfl⟩ ?_
  refine mm_if_eq (tgt := 28) dX9_cue_12 (by decide) (fun c2 => ?_) (fun c2 => ?_)
  · rw [if_pos c2] at hf
    refine mm_sub [0, 1, 2] rfl ?_
    exact kX9_cue_28  p0 p1 p2 p0 σ hf
  · rw [if_neg c2] at hf
    refine mm_iload_n (j := 2) dX9_cue_15 rfl rfl ?_
    refine mm_iconst (v := 0) dX9_cue_16 (by decide) ?_
    refine mm_iconst (v := 3) dX9_cue_17 (by decide) ?_
    refine mm_callSi cd_ok (kX9_in p2 0 3 _ rfl) (Or.inl tw_941) cdX9_in tw_942 nmX9_in rfl rfl (by simp only [List.map_cons, List.map_nil, mm_rf_cat]; exact Nat.le_of_ble_eq_true rfl) dX9_cue_18 ⟨Nat.le_of_ble_eq_true rfl, Nat.le_of_ble_eq_true rfl⟩ ⟨Nat.le_of_ble_eq_true rfl, Nat.le_of_ble_eq_true rfl⟩ ?_
    refine mm_if_eq (tgt := 28) dX9_cue_21 (by decide) (fun c25 => ?_) (fun c25 => ?_)
    · rw [if_pos c25] at hf
      refine mm_sub [0, 1, 2] rfl ?_
      exact kX9_cue_28  p0 p1 p2 p0 σ hf
    · rw [if_neg c25] at hf
      refine mm_iconst (v := 1) dX9_cue_24 (by decide) ?_
      refine mm_goto (tgt := 29) dX9_cue_25 (by decide) ?_
      refine mm_sub [0, 1, 2] rfl ?_
      exact kX9_cue_29  p0 p1 p2 1 p0 σ hf
theorem dX9_line_0 : decode cX9_line 0 = .ok (.aload_n 0, 1) := by decide +kernel
theorem dX9_line_1 : decode cX9_line 1 = .ok (.iload_n 1, 1) := by decide +kernel
theorem dX9_line_2 : decode cX9_line 2 = .ok (.iconst 0, 1) := by decide +kernel
theorem dX9_line_3 : decode cX9_line 3 = .ok (.aload_n 0, 1) := by decide +kernel
theorem dX9_line_4 : decode cX9_line 4 = .ok (.getfield 260, 3) := by decide +kernel
theorem dX9_line_7 : decode cX9_line 7 = .ok (.iconst 1, 1) := by decide +kernel
theorem dX9_line_8 : decode cX9_line 8 = .ok (.isub, 1) := by decide +kernel
theorem dX9_line_9 : decode cX9_line 9 = .ok (.invokestatic 153, 3) := by decide +kernel
theorem dX9_line_12 : decode cX9_line 12 = .ok (.ifCond .eq 23, 3) := by decide +kernel
theorem dX9_line_15 : decode cX9_line 15 = .ok (.iload_n 2, 1) := by decide +kernel
theorem dX9_line_16 : decode cX9_line 16 = .ok (.iconst 0, 1) := by decide +kernel
theorem dX9_line_17 : decode cX9_line 17 = .ok (.aload_n 0, 1) := by decide +kernel
theorem dX9_line_18 : decode cX9_line 18 = .ok (.getfield 102, 3) := by decide +kernel
theorem dX9_line_21 : decode cX9_line 21 = .ok (.iload_n 1, 1) := by decide +kernel
theorem dX9_line_22 : decode cX9_line 22 = .ok (.iaload, 1) := by decide +kernel
theorem dX9_line_23 : decode cX9_line 23 = .ok (.iconst 1, 1) := by decide +kernel
theorem dX9_line_24 : decode cX9_line 24 = .ok (.isub, 1) := by decide +kernel
theorem dX9_line_25 : decode cX9_line 25 = .ok (.invokestatic 153, 3) := by decide +kernel
theorem dX9_line_28 : decode cX9_line 28 = .ok (.ifCond .eq 7, 3) := by decide +kernel
theorem dX9_line_31 : decode cX9_line 31 = .ok (.iconst 1, 1) := by decide +kernel
theorem dX9_line_32 : decode cX9_line 32 = .ok (.goto 4, 3) := by decide +kernel
theorem dX9_line_35 : decode cX9_line 35 = .ok (.iconst 0, 1) := by decide +kernel
theorem dX9_line_36 : decode cX9_line 36 = .ok (.invokevirtual 169, 3) := by decide +kernel
theorem dX9_line_39 : decode cX9_line 39 = .ok (.ifCond .eq 22, 3) := by decide +kernel
theorem dX9_line_42 : decode cX9_line 42 = .ok (.aload_n 0, 1) := by decide +kernel
theorem dX9_line_43 : decode cX9_line 43 = .ok (.getfield 105, 3) := by decide +kernel
theorem dX9_line_46 : decode cX9_line 46 = .ok (.sipush 400, 3) := by decide +kernel
theorem dX9_line_49 : decode cX9_line 49 = .ok (.iload_n 1, 1) := by decide +kernel
theorem dX9_line_50 : decode cX9_line 50 = .ok (.imul, 1) := by decide +kernel
theorem dX9_line_51 : decode cX9_line 51 = .ok (.iload_n 2, 1) := by decide +kernel
theorem dX9_line_52 : decode cX9_line 52 = .ok (.iadd, 1) := by decide +kernel
theorem dX9_line_53 : decode cX9_line 53 = .ok (.baload, 1) := by decide +kernel
theorem dX9_line_54 : decode cX9_line 54 = .ok (.sipush 255, 3) := by decide +kernel
theorem dX9_line_57 : decode cX9_line 57 = .ok (.iand, 1) := by decide +kernel
theorem dX9_line_58 : decode cX9_line 58 = .ok (.goto 4, 3) := by decide +kernel
theorem dX9_line_61 : decode cX9_line 61 = .ok (.iconst 0, 1) := by decide +kernel
theorem dX9_line_62 : decode cX9_line 62 = .ok (.ireturn, 1) := by decide +kernel
theorem nmX9_line : mm_nm yX9_line 2 := ⟨by decide, by decide, by decide +kernel⟩
theorem cdX9_line : mm_cd cd_Y yX9_line cX9_line 3 (some .int) := ⟨tw_1137, tw_8⟩
abbrev rmX9_line : Room := { frames := 1, cells := 0, slots := 0, locals := 22 }
def fX9_line_36  (a0 : Nat) (x1 : Int32) (x2 : Int32) (y0 : Int32) (y1 : Nat) (σ : mm_M) : Option (Int32 × mm_M) :=
  mm_sh σ y1 (.inl 9) (mm_on (fX9_goes y1 y0 σ) fun q4 => (if q4.1 = 0 then some (0, q4.2) else mm_sh q4.2 a0 (.inl 9) (mm_on (mm_R q4.2 a0 40) fun q7 => mm_ar q4.2 q7 2 fun n8 => mm_ib ((400 * x1) + x2) n8 (some ((mm_I q4.2 q7 ((400 * x1) + x2).toNatClampNeg) &&& 255, q4.2)))))
def fX9_line_35  (a0 : Nat) (x1 : Int32) (x2 : Int32) (y0 : Nat) (σ : mm_M) : Option (Int32 × mm_M) :=
  (fX9_line_36  a0 x1 x2 0 y0 σ)
def fX9_line (p0 : Nat) (p1 : Int32) (p2 : Int32) (σ : mm_M) : Option (Int32 × mm_M) :=
  mm_sh σ p0 (.inl 9) ((if (fX9_in p1 0 ((mm_I σ p0 35) - 1)) = 0 then (fX9_line_35  p0 p1 p2 p0 σ) else mm_on (mm_R σ p0 39) fun q10 => mm_ar σ q10 0 fun n11 => mm_ib p1 n11 ((if (fX9_in p2 0 ((mm_I σ q10 p1.toNatClampNeg) - 1)) = 0 then (fX9_line_35  p0 p1 p2 p0 σ) else (fX9_line_36  p0 p1 p2 1 p0 σ)))))
set_option maxHeartbeats 4000000 in
set_option maxRecDepth 100000 in
theorem kX9_line_36 {G : mm_G} {A : Nat → Prop} {ini : Bool × Option (List (Nat × Nat × Nat × Nat))}  {R : (Int32 × mm_M)}  (a0 : Nat) (x1 : Int32) (x2 : Int32) (y0 : Int32) (y1 : Nat) (σ : mm_M) (hf : fX9_line_36  a0 x1 x2 y0 y1 σ = some R) : mm_J cd_Y G RX9 cX9_line 3 (some .int) ini rmX9_line A (mm_QF cd_Y G A (mm_Pi R.1 R.2) rmX9_line.cells rmX9_line.slots) 36 [(0, .ref a0), (1, .int x1), (2, .int x2)] [.int y0, .ref y1] σ 0 0 := by
  unfold fX9_line_36 at hf
  obtain ⟨hs3, hf⟩ := mm_sh_s hf
  obtain ⟨q4, hq4, hf⟩ := mm_on_s hf
  refine mm_callVi cd_ok (kX9_goes y1 y0 hq4) hs3 rfl (Or.inl tw_944) cdX9_goes tw_946 ts_31 nmX9_goes rfl rfl (by simp only [List.map_cons, List.map_nil, mm_rf_cat]; exact Nat.le_of_ble_eq_true rfl) dX9_line_36 ⟨Nat.le_of_ble_eq_true rfl, Nat.le_of_ble_eq_true rfl⟩ ⟨Nat.le_of_ble_eq_true rfl, Nat.le_of_ble_eq_true rfl⟩ ?_
  refine mm_if_eq (tgt := 61) dX9_line_39 (by decide) (fun c5 => ?_) (fun c5 => ?_)
  · rw [if_pos c5] at hf
    refine mm_iconst (v := 0) dX9_line_61 (by decide) ?_
    cases hf
    refine mm_widen (ck' := rmX9_line.cells) (sk' := rmX9_line.slots) (Nat.le_of_ble_eq_true rfl) (Nat.le_of_ble_eq_true rfl) ?_
    exact mm_iret rfl rfl dX9_line_62 ⟨rfl, rfl⟩
  · rw [if_neg c5] at hf
    refine mm_aload_n (j := 0) dX9_line_42 rfl rfl ?_
    obtain ⟨hs6, hf⟩ := mm_sh_s hf
    refine mm_get (c := 9) (k := 40) (v := va_rf (mm_R q4.2 a0 40)) cd_ok ⟨_, _, _, rfl, by decide, Or.inl tw_834⟩ hs6 rfl dX9_line_43 ?_
    refine mm_sipush (v := 400) dX9_line_46 (by decide) ?_
    refine mm_iload_n (j := 1) dX9_line_49 rfl rfl ?_
    refine mm_imul dX9_line_50 ?_
    refine mm_iload_n (j := 2) dX9_line_51 rfl rfl ?_
    refine mm_iadd dX9_line_52 ?_
    obtain ⟨q7, hq7, hf⟩ := mm_on_s hf
    rw [hq7, mm_rf_some]
    obtain ⟨n8, hn8, hf⟩ := mm_ar_s hf
    obtain ⟨hi9, hf⟩ := mm_ib_s hf
    refine mm_bald hn8 rfl hi9 dX9_line_53 ?_
    refine mm_sipush (v := 255) dX9_line_54 (by decide) ?_
    refine mm_iand dX9_line_57 ?_
    refine mm_goto (tgt := 62) dX9_line_58 (by decide) ?_
    cases hf
    refine mm_widen (ck' := rmX9_line.cells) (sk' := rmX9_line.slots) (Nat.le_of_ble_eq_true rfl) (Nat.le_of_ble_eq_true rfl) ?_
    exact mm_iret rfl rfl dX9_line_62 ⟨rfl, rfl⟩
set_option maxHeartbeats 4000000 in
set_option maxRecDepth 100000 in
theorem kX9_line_35 {G : mm_G} {A : Nat → Prop} {ini : Bool × Option (List (Nat × Nat × Nat × Nat))}  {R : (Int32 × mm_M)}  (a0 : Nat) (x1 : Int32) (x2 : Int32) (y0 : Nat) (σ : mm_M) (hf : fX9_line_35  a0 x1 x2 y0 σ = some R) : mm_J cd_Y G RX9 cX9_line 3 (some .int) ini rmX9_line A (mm_QF cd_Y G A (mm_Pi R.1 R.2) rmX9_line.cells rmX9_line.slots) 35 [(0, .ref a0), (1, .int x1), (2, .int x2)] [.ref y0] σ 0 0 := by
  unfold fX9_line_35 at hf
  refine mm_iconst (v := 0) dX9_line_35 (by decide) ?_
  refine mm_sub [0, 1, 2] rfl ?_
  exact kX9_line_36  a0 x1 x2 0 y0 σ hf
set_option maxHeartbeats 4000000 in
set_option maxRecDepth 100000 in
theorem kX9_line {G : mm_G} {A : Nat → Prop} (p0 : Nat) (p1 : Int32) (p2 : Int32) {σ : mm_M} {R : (Int32 × mm_M)} (hf : fX9_line p0 p1 p2 σ = some R) : mm_C cd_Y G yX9_line cX9_line 3 (some .int) rmX9_line A [.ref p0, .int p1, .int p2] σ (mm_Pi R.1 R.2) := by
  refine mm_C.of (by decide) (Nat.le_of_ble_eq_true rfl) ?_
  unfold fX9_line at hf
  have e0 : lv_args 0 [.ref p0, .int p1, .int p2] = [(0, .ref p0), (1, .int p1), (2, .int p2)] := rfl
  rw [e0]
  generalize hini : ((yX9_line.name == "<init>"), none) = ini
  clear e0
  clear hini
  refine mm_aload_n (j := 0) dX9_line_0 rfl rfl ?_
  refine mm_iload_n (j := 1) dX9_line_1 rfl rfl ?_
  refine mm_iconst (v := 0) dX9_line_2 (by decide) ?_
  refine mm_aload_n (j := 0) dX9_line_3 rfl rfl ?_
  obtain ⟨hs1, hf⟩ := mm_sh_s hf
  refine mm_get (c := 9) (k := 35) (v := .int (mm_I σ p0 35)) cd_ok ⟨_, _, _, rfl, by decide, Or.inl tw_829⟩ hs1 rfl dX9_line_4 ?_
  refine mm_iconst (v := 1) dX9_line_7 (by decide) ?_
  refine mm_isub dX9_line_8 ?_
  refine mm_callSi cd_ok (kX9_in p1 0 ((mm_I σ p0 35) - 1) _ rfl) (Or.inl tw_941) cdX9_in tw_942 nmX9_in rfl rfl (by simp only [List.map_cons, List.map_nil, mm_rf_cat]; exact Nat.le_of_ble_eq_true rfl) dX9_line_9 ⟨Nat.le_of_ble_eq_true rfl, Nat.le_of_ble_eq_true rfl⟩ ⟨Nat.le_of_ble_eq_true rfl, Nat.le_of_ble_eq_true rfl⟩ ?_
  refine mm_if_eq (tgt := 35) dX9_line_12 (by decide) (fun c2 => ?_) (fun c2 => ?_)
  · rw [if_pos c2] at hf
    refine mm_sub [0, 1, 2] rfl ?_
    exact kX9_line_35  p0 p1 p2 p0 σ hf
  · rw [if_neg c2] at hf
    refine mm_iload_n (j := 2) dX9_line_15 rfl rfl ?_
    refine mm_iconst (v := 0) dX9_line_16 (by decide) ?_
    refine mm_aload_n (j := 0) dX9_line_17 rfl rfl ?_
    refine mm_get (c := 9) (k := 39) (v := va_rf (mm_R σ p0 39)) cd_ok ⟨_, _, _, rfl, by decide, Or.inl tw_833⟩ hs1 rfl dX9_line_18 ?_
    refine mm_iload_n (j := 1) dX9_line_21 rfl rfl ?_
    obtain ⟨q10, hq10, hf⟩ := mm_on_s hf
    rw [hq10, mm_rf_some]
    obtain ⟨n11, hn11, hf⟩ := mm_ar_s hf
    obtain ⟨hi12, hf⟩ := mm_ib_s hf
    refine mm_iald hn11 rfl hi12 dX9_line_22 ?_
    refine mm_iconst (v := 1) dX9_line_23 (by decide) ?_
    refine mm_isub dX9_line_24 ?_
    refine mm_callSi cd_ok (kX9_in p2 0 ((mm_I σ q10 p1.toNatClampNeg) - 1) _ rfl) (Or.inl tw_941) cdX9_in tw_942 nmX9_in rfl rfl (by simp only [List.map_cons, List.map_nil, mm_rf_cat]; exact Nat.le_of_ble_eq_true rfl) dX9_line_25 ⟨Nat.le_of_ble_eq_true rfl, Nat.le_of_ble_eq_true rfl⟩ ⟨Nat.le_of_ble_eq_true rfl, Nat.le_of_ble_eq_true rfl⟩ ?_
    refine mm_if_eq (tgt := 35) dX9_line_28 (by decide) (fun c13 => ?_) (fun c13 => ?_)
    · rw [if_pos c13] at hf
      refine mm_sub [0, 1, 2] rfl ?_
      exact kX9_line_35  p0 p1 p2 p0 σ hf
    · rw [if_neg c13] at hf
      refine mm_iconst (v := 1) dX9_line_31 (by decide) ?_
      refine mm_goto (tgt := 36) dX9_line_32 (by decide) ?_
      refine mm_sub [0, 1, 2] rfl ?_
      exact kX9_line_36  p0 p1 p2 1 p0 σ hf
theorem dJ6_bitCount_0f7a4_0 : decode cJ6_bitCount_0f7a4 0 = .ok (.iload_n 0, 1) := by decide +kernel
theorem dJ6_bitCount_0f7a4_1 : decode cJ6_bitCount_0f7a4 1 = .ok (.iload_n 0, 1) := by decide +kernel
theorem dJ6_bitCount_0f7a4_2 : decode cJ6_bitCount_0f7a4 2 = .ok (.iconst 1, 1) := by decide +kernel
theorem dJ6_bitCount_0f7a4_3 : decode cJ6_bitCount_0f7a4 3 = .ok (.iushr, 1) := by decide +kernel
theorem dJ6_bitCount_0f7a4_4 : decode cJ6_bitCount_0f7a4 4 = .ok (.ldc_w 265, 3) := by decide +kernel
theorem dJ6_bitCount_0f7a4_7 : decode cJ6_bitCount_0f7a4 7 = .ok (.iand, 1) := by decide +kernel
theorem dJ6_bitCount_0f7a4_8 : decode cJ6_bitCount_0f7a4 8 = .ok (.isub, 1) := by decide +kernel
theorem dJ6_bitCount_0f7a4_9 : decode cJ6_bitCount_0f7a4 9 = .ok (.istore_n 0, 1) := by decide +kernel
theorem dJ6_bitCount_0f7a4_10 : decode cJ6_bitCount_0f7a4 10 = .ok (.iload_n 0, 1) := by decide +kernel
theorem dJ6_bitCount_0f7a4_11 : decode cJ6_bitCount_0f7a4 11 = .ok (.ldc_w 266, 3) := by decide +kernel
theorem dJ6_bitCount_0f7a4_14 : decode cJ6_bitCount_0f7a4 14 = .ok (.iand, 1) := by decide +kernel
theorem dJ6_bitCount_0f7a4_15 : decode cJ6_bitCount_0f7a4 15 = .ok (.iload_n 0, 1) := by decide +kernel
theorem dJ6_bitCount_0f7a4_16 : decode cJ6_bitCount_0f7a4 16 = .ok (.iconst 2, 1) := by decide +kernel
theorem dJ6_bitCount_0f7a4_17 : decode cJ6_bitCount_0f7a4 17 = .ok (.iushr, 1) := by decide +kernel
theorem dJ6_bitCount_0f7a4_18 : decode cJ6_bitCount_0f7a4 18 = .ok (.ldc_w 266, 3) := by decide +kernel
theorem dJ6_bitCount_0f7a4_21 : decode cJ6_bitCount_0f7a4 21 = .ok (.iand, 1) := by decide +kernel
theorem dJ6_bitCount_0f7a4_22 : decode cJ6_bitCount_0f7a4 22 = .ok (.iadd, 1) := by decide +kernel
theorem dJ6_bitCount_0f7a4_23 : decode cJ6_bitCount_0f7a4 23 = .ok (.istore_n 0, 1) := by decide +kernel
theorem dJ6_bitCount_0f7a4_24 : decode cJ6_bitCount_0f7a4 24 = .ok (.iload_n 0, 1) := by decide +kernel
theorem dJ6_bitCount_0f7a4_25 : decode cJ6_bitCount_0f7a4 25 = .ok (.iload_n 0, 1) := by decide +kernel
theorem dJ6_bitCount_0f7a4_26 : decode cJ6_bitCount_0f7a4 26 = .ok (.iconst 4, 1) := by decide +kernel
theorem dJ6_bitCount_0f7a4_27 : decode cJ6_bitCount_0f7a4 27 = .ok (.iushr, 1) := by decide +kernel
theorem dJ6_bitCount_0f7a4_28 : decode cJ6_bitCount_0f7a4 28 = .ok (.iadd, 1) := by decide +kernel
theorem dJ6_bitCount_0f7a4_29 : decode cJ6_bitCount_0f7a4 29 = .ok (.ldc_w 267, 3) := by decide +kernel
theorem dJ6_bitCount_0f7a4_32 : decode cJ6_bitCount_0f7a4 32 = .ok (.iand, 1) := by decide +kernel
theorem dJ6_bitCount_0f7a4_33 : decode cJ6_bitCount_0f7a4 33 = .ok (.istore_n 0, 1) := by decide +kernel
theorem dJ6_bitCount_0f7a4_34 : decode cJ6_bitCount_0f7a4 34 = .ok (.iload_n 0, 1) := by decide +kernel
theorem dJ6_bitCount_0f7a4_35 : decode cJ6_bitCount_0f7a4 35 = .ok (.iload_n 0, 1) := by decide +kernel
theorem dJ6_bitCount_0f7a4_36 : decode cJ6_bitCount_0f7a4 36 = .ok (.bipush 8, 2) := by decide +kernel
theorem dJ6_bitCount_0f7a4_38 : decode cJ6_bitCount_0f7a4 38 = .ok (.iushr, 1) := by decide +kernel
theorem dJ6_bitCount_0f7a4_39 : decode cJ6_bitCount_0f7a4 39 = .ok (.iadd, 1) := by decide +kernel
theorem dJ6_bitCount_0f7a4_40 : decode cJ6_bitCount_0f7a4 40 = .ok (.istore_n 0, 1) := by decide +kernel
theorem dJ6_bitCount_0f7a4_41 : decode cJ6_bitCount_0f7a4 41 = .ok (.iload_n 0, 1) := by decide +kernel
theorem dJ6_bitCount_0f7a4_42 : decode cJ6_bitCount_0f7a4 42 = .ok (.iload_n 0, 1) := by decide +kernel
theorem dJ6_bitCount_0f7a4_43 : decode cJ6_bitCount_0f7a4 43 = .ok (.bipush 16, 2) := by decide +kernel
theorem dJ6_bitCount_0f7a4_45 : decode cJ6_bitCount_0f7a4 45 = .ok (.iushr, 1) := by decide +kernel
theorem dJ6_bitCount_0f7a4_46 : decode cJ6_bitCount_0f7a4 46 = .ok (.iadd, 1) := by decide +kernel
theorem dJ6_bitCount_0f7a4_47 : decode cJ6_bitCount_0f7a4 47 = .ok (.istore_n 0, 1) := by decide +kernel
theorem dJ6_bitCount_0f7a4_48 : decode cJ6_bitCount_0f7a4 48 = .ok (.iload_n 0, 1) := by decide +kernel
theorem dJ6_bitCount_0f7a4_49 : decode cJ6_bitCount_0f7a4 49 = .ok (.bipush 63, 2) := by decide +kernel
theorem dJ6_bitCount_0f7a4_51 : decode cJ6_bitCount_0f7a4 51 = .ok (.iand, 1) := by decide +kernel
theorem dJ6_bitCount_0f7a4_52 : decode cJ6_bitCount_0f7a4 52 = .ok (.ireturn, 1) := by decide +kernel
theorem nmJ6_bitCount_0f7a4 : mm_nm yJ6_bitCount_0f7a4 1 := ⟨by decide, by decide, by decide +kernel⟩
theorem cdJ6_bitCount_0f7a4 : mm_cd cd_Y yJ6_bitCount_0f7a4 cJ6_bitCount_0f7a4 1 (some .int) := ⟨tw_195, tw_13⟩
abbrev rmJ6_bitCount_0f7a4 : Room := { frames := 0, cells := 0, slots := 0, locals := 0 }
def fJ6_bitCount_0f7a4 (p0 : Int32) : Int32 :=
  (((((((p0 - (((p0.toUInt32 >>> (Int32.toUInt32 1 &&& Int32.toUInt32 31)).toInt32) &&& (1431655765 : Int32))) &&& (858993459 : Int32)) + ((((p0 - (((p0.toUInt32 >>> (Int32.toUInt32 1 &&& Int32.toUInt32 31)).toInt32) &&& (1431655765 : Int32))).toUInt32 >>> (Int32.toUInt32 2 &&& Int32.toUInt32 31)).toInt32) &&& (858993459 : Int32))) + (((((p0 - (((p0.toUInt32 >>> (Int32.toUInt32 1 &&& Int32.toUInt32 31)).toInt32) &&& (1431655765 : Int32))) &&& (858993459 : Int32)) + ((((p0 - (((p0.toUInt32 >>> (Int32.toUInt32 1 &&& Int32.toUInt32 31)).toInt32) &&& (1431655765 : Int32))).toUInt32 >>> (Int32.toUInt32 2 &&& Int32.toUInt32 31)).toInt32) &&& (858993459 : Int32))).toUInt32 >>> (Int32.toUInt32 4 &&& Int32.toUInt32 31)).toInt32)) &&& (252645135 : Int32)) + (((((((p0 - (((p0.toUInt32 >>> (Int32.toUInt32 1 &&& Int32.toUInt32 31)).toInt32) &&& (1431655765 : Int32))) &&& (858993459 : Int32)) + ((((p0 - (((p0.toUInt32 >>> (Int32.toUInt32 1 &&& Int32.toUInt32 31)).toInt32) &&& (1431655765 : Int32))).toUInt32 >>> (Int32.toUInt32 2 &&& Int32.toUInt32 31)).toInt32) &&& (858993459 : Int32))) + (((((p0 - (((p0.toUInt32 >>> (Int32.toUInt32 1 &&& Int32.toUInt32 31)).toInt32) &&& (1431655765 : Int32))) &&& (858993459 : Int32)) + ((((p0 - (((p0.toUInt32 >>> (Int32.toUInt32 1 &&& Int32.toUInt32 31)).toInt32) &&& (1431655765 : Int32))).toUInt32 >>> (Int32.toUInt32 2 &&& Int32.toUInt32 31)).toInt32) &&& (858993459 : Int32))).toUInt32 >>> (Int32.toUInt32 4 &&& Int32.toUInt32 31)).toInt32)) &&& (252645135 : Int32)).toUInt32 >>> (Int32.toUInt32 8 &&& Int32.toUInt32 31)).toInt32)) + ((((((((p0 - (((p0.toUInt32 >>> (Int32.toUInt32 1 &&& Int32.toUInt32 31)).toInt32) &&& (1431655765 : Int32))) &&& (858993459 : Int32)) + ((((p0 - (((p0.toUInt32 >>> (Int32.toUInt32 1 &&& Int32.toUInt32 31)).toInt32) &&& (1431655765 : Int32))).toUInt32 >>> (Int32.toUInt32 2 &&& Int32.toUInt32 31)).toInt32) &&& (858993459 : Int32))) + (((((p0 - (((p0.toUInt32 >>> (Int32.toUInt32 1 &&& Int32.toUInt32 31)).toInt32) &&& (1431655765 : Int32))) &&& (858993459 : Int32)) + ((((p0 - (((p0.toUInt32 >>> (Int32.toUInt32 1 &&& Int32.toUInt32 31)).toInt32) &&& (1431655765 : Int32))).toUInt32 >>> (Int32.toUInt32 2 &&& Int32.toUInt32 31)).toInt32) &&& (858993459 : Int32))).toUInt32 >>> (Int32.toUInt32 4 &&& Int32.toUInt32 31)).toInt32)) &&& (252645135 : Int32)) + (((((((p0 - (((p0.toUInt32 >>> (Int32.toUInt32 1 &&& Int32.toUInt32 31)).toInt32) &&& (1431655765 : Int32))) &&& (858993459 : Int32)) + ((((p0 - (((p0.toUInt32 >>> (Int32.toUInt32 1 &&& Int32.toUInt32 31)).toInt32) &&& (1431655765 : Int32))).toUInt32 >>> (Int32.toUInt32 2 &&& Int32.toUInt32 31)).toInt32) &&& (858993459 : Int32))) + (((((p0 - (((p0.toUInt32 >>> (Int32.toUInt32 1 &&& Int32.toUInt32 31)).toInt32) &&& (1431655765 : Int32))) &&& (858993459 : Int32)) + ((((p0 - (((p0.toUInt32 >>> (Int32.toUInt32 1 &&& Int32.toUInt32 31)).toInt32) &&& (1431655765 : Int32))).toUInt32 >>> (Int32.toUInt32 2 &&& Int32.toUInt32 31)).toInt32) &&& (858993459 : Int32))).toUInt32 >>> (Int32.toUInt32 4 &&& Int32.toUInt32 31)).toInt32)) &&& (252645135 : Int32)).toUInt32 >>> (Int32.toUInt32 8 &&& Int32.toUInt32 31)).toInt32)).toUInt32 >>> (Int32.toUInt32 16 &&& Int32.toUInt32 31)).toInt32)) &&& 63
set_option maxHeartbeats 4000000 in
set_option maxRecDepth 100000 in
theorem kJ6_bitCount_0f7a4 {G : mm_G} {A : Nat → Prop} (p0 : Int32) (σ0 : mm_M) {R : Int32} (hf : fJ6_bitCount_0f7a4 p0 = R) : mm_C cd_Y G yJ6_bitCount_0f7a4 cJ6_bitCount_0f7a4 1 (some .int) rmJ6_bitCount_0f7a4 A [.int p0] σ0 (mm_Pi R σ0) := by
  refine mm_C.of (by decide) (Nat.le_of_ble_eq_true rfl) ?_
  unfold fJ6_bitCount_0f7a4 at hf
  have e0 : lv_args 0 [.int p0] = [(0, .int p0)] := rfl
  rw [e0]
  generalize hini : ((yJ6_bitCount_0f7a4.name == "<init>"), none) = ini
  clear e0
  clear hini
  refine mm_iload_n (j := 0) dJ6_bitCount_0f7a4_0 rfl rfl ?_
  refine mm_iload_n (j := 0) dJ6_bitCount_0f7a4_1 rfl rfl ?_
  refine mm_iconst (v := 1) dJ6_bitCount_0f7a4_2 (by decide) ?_
  refine mm_iushr dJ6_bitCount_0f7a4_3 ?_
  refine mm_ldc_w tw_196 dJ6_bitCount_0f7a4_4 ?_
  refine mm_iand dJ6_bitCount_0f7a4_7 ?_
  refine mm_isub dJ6_bitCount_0f7a4_8 ?_
  refine mm_istore_n (L' := [(0, .int (p0 - (((p0.toUInt32 >>> (Int32.toUInt32 1 &&& Int32.toUInt32 31)).toInt32) &&& (1431655765 : Int32))))]) dJ6_bitCount_0f7a4_9 rfl (by decide) rfl ?_
  refine mm_iload_n (j := 0) dJ6_bitCount_0f7a4_10 rfl rfl ?_
  refine mm_ldc_w tw_197 dJ6_bitCount_0f7a4_11 ?_
  refine mm_iand dJ6_bitCount_0f7a4_14 ?_
  refine mm_iload_n (j := 0) dJ6_bitCount_0f7a4_15 rfl rfl ?_
  refine mm_iconst (v := 2) dJ6_bitCount_0f7a4_16 (by decide) ?_
  refine mm_iushr dJ6_bitCount_0f7a4_17 ?_
  refine mm_ldc_w tw_197 dJ6_bitCount_0f7a4_18 ?_
  refine mm_iand dJ6_bitCount_0f7a4_21 ?_
  refine mm_iadd dJ6_bitCount_0f7a4_22 ?_
  refine mm_istore_n (L' := [(0, .int (((p0 - (((p0.toUInt32 >>> (Int32.toUInt32 1 &&& Int32.toUInt32 31)).toInt32) &&& (1431655765 : Int32))) &&& (858993459 : Int32)) + ((((p0 - (((p0.toUInt32 >>> (Int32.toUInt32 1 &&& Int32.toUInt32 31)).toInt32) &&& (1431655765 : Int32))).toUInt32 >>> (Int32.toUInt32 2 &&& Int32.toUInt32 31)).toInt32) &&& (858993459 : Int32))))]) dJ6_bitCount_0f7a4_23 rfl (by decide) rfl ?_
  refine mm_iload_n (j := 0) dJ6_bitCount_0f7a4_24 rfl rfl ?_
  refine mm_iload_n (j := 0) dJ6_bitCount_0f7a4_25 rfl rfl ?_
  refine mm_iconst (v := 4) dJ6_bitCount_0f7a4_26 (by decide) ?_
  refine mm_iushr dJ6_bitCount_0f7a4_27 ?_
  refine mm_iadd dJ6_bitCount_0f7a4_28 ?_
  refine mm_ldc_w tw_198 dJ6_bitCount_0f7a4_29 ?_
  refine mm_iand dJ6_bitCount_0f7a4_32 ?_
  refine mm_istore_n (L' := [(0, .int (((((p0 - (((p0.toUInt32 >>> (Int32.toUInt32 1 &&& Int32.toUInt32 31)).toInt32) &&& (1431655765 : Int32))) &&& (858993459 : Int32)) + ((((p0 - (((p0.toUInt32 >>> (Int32.toUInt32 1 &&& Int32.toUInt32 31)).toInt32) &&& (1431655765 : Int32))).toUInt32 >>> (Int32.toUInt32 2 &&& Int32.toUInt32 31)).toInt32) &&& (858993459 : Int32))) + (((((p0 - (((p0.toUInt32 >>> (Int32.toUInt32 1 &&& Int32.toUInt32 31)).toInt32) &&& (1431655765 : Int32))) &&& (858993459 : Int32)) + ((((p0 - (((p0.toUInt32 >>> (Int32.toUInt32 1 &&& Int32.toUInt32 31)).toInt32) &&& (1431655765 : Int32))).toUInt32 >>> (Int32.toUInt32 2 &&& Int32.toUInt32 31)).toInt32) &&& (858993459 : Int32))).toUInt32 >>> (Int32.toUInt32 4 &&& Int32.toUInt32 31)).toInt32)) &&& (252645135 : Int32)))]) dJ6_bitCount_0f7a4_33 rfl (by decide) rfl ?_
  refine mm_iload_n (j := 0) dJ6_bitCount_0f7a4_34 rfl rfl ?_
  refine mm_iload_n (j := 0) dJ6_bitCount_0f7a4_35 rfl rfl ?_
  refine mm_bipush (v := 8) dJ6_bitCount_0f7a4_36 (by decide) ?_
  refine mm_iushr dJ6_bitCount_0f7a4_38 ?_
  refine mm_iadd dJ6_bitCount_0f7a4_39 ?_
  refine mm_istore_n (L' := [(0, .int ((((((p0 - (((p0.toUInt32 >>> (Int32.toUInt32 1 &&& Int32.toUInt32 31)).toInt32) &&& (1431655765 : Int32))) &&& (858993459 : Int32)) + ((((p0 - (((p0.toUInt32 >>> (Int32.toUInt32 1 &&& Int32.toUInt32 31)).toInt32) &&& (1431655765 : Int32))).toUInt32 >>> (Int32.toUInt32 2 &&& Int32.toUInt32 31)).toInt32) &&& (858993459 : Int32))) + (((((p0 - (((p0.toUInt32 >>> (Int32.toUInt32 1 &&& Int32.toUInt32 31)).toInt32) &&& (1431655765 : Int32))) &&& (858993459 : Int32)) + ((((p0 - (((p0.toUInt32 >>> (Int32.toUInt32 1 &&& Int32.toUInt32 31)).toInt32) &&& (1431655765 : Int32))).toUInt32 >>> (Int32.toUInt32 2 &&& Int32.toUInt32 31)).toInt32) &&& (858993459 : Int32))).toUInt32 >>> (Int32.toUInt32 4 &&& Int32.toUInt32 31)).toInt32)) &&& (252645135 : Int32)) + (((((((p0 - (((p0.toUInt32 >>> (Int32.toUInt32 1 &&& Int32.toUInt32 31)).toInt32) &&& (1431655765 : Int32))) &&& (858993459 : Int32)) + ((((p0 - (((p0.toUInt32 >>> (Int32.toUInt32 1 &&& Int32.toUInt32 31)).toInt32) &&& (1431655765 : Int32))).toUInt32 >>> (Int32.toUInt32 2 &&& Int32.toUInt32 31)).toInt32) &&& (858993459 : Int32))) + (((((p0 - (((p0.toUInt32 >>> (Int32.toUInt32 1 &&& Int32.toUInt32 31)).toInt32) &&& (1431655765 : Int32))) &&& (858993459 : Int32)) + ((((p0 - (((p0.toUInt32 >>> (Int32.toUInt32 1 &&& Int32.toUInt32 31)).toInt32) &&& (1431655765 : Int32))).toUInt32 >>> (Int32.toUInt32 2 &&& Int32.toUInt32 31)).toInt32) &&& (858993459 : Int32))).toUInt32 >>> (Int32.toUInt32 4 &&& Int32.toUInt32 31)).toInt32)) &&& (252645135 : Int32)).toUInt32 >>> (Int32.toUInt32 8 &&& Int32.toUInt32 31)).toInt32)))]) dJ6_bitCount_0f7a4_40 rfl (by decide) rfl ?_
  refine mm_iload_n (j := 0) dJ6_bitCount_0f7a4_41 rfl rfl ?_
  refine mm_iload_n (j := 0) dJ6_bitCount_0f7a4_42 rfl rfl ?_
  refine mm_bipush (v := 16) dJ6_bitCount_0f7a4_43 (by decide) ?_
  refine mm_iushr dJ6_bitCount_0f7a4_45 ?_
  refine mm_iadd dJ6_bitCount_0f7a4_46 ?_
  refine mm_istore_n (L' := [(0, .int (((((((p0 - (((p0.toUInt32 >>> (Int32.toUInt32 1 &&& Int32.toUInt32 31)).toInt32) &&& (1431655765 : Int32))) &&& (858993459 : Int32)) + ((((p0 - (((p0.toUInt32 >>> (Int32.toUInt32 1 &&& Int32.toUInt32 31)).toInt32) &&& (1431655765 : Int32))).toUInt32 >>> (Int32.toUInt32 2 &&& Int32.toUInt32 31)).toInt32) &&& (858993459 : Int32))) + (((((p0 - (((p0.toUInt32 >>> (Int32.toUInt32 1 &&& Int32.toUInt32 31)).toInt32) &&& (1431655765 : Int32))) &&& (858993459 : Int32)) + ((((p0 - (((p0.toUInt32 >>> (Int32.toUInt32 1 &&& Int32.toUInt32 31)).toInt32) &&& (1431655765 : Int32))).toUInt32 >>> (Int32.toUInt32 2 &&& Int32.toUInt32 31)).toInt32) &&& (858993459 : Int32))).toUInt32 >>> (Int32.toUInt32 4 &&& Int32.toUInt32 31)).toInt32)) &&& (252645135 : Int32)) + (((((((p0 - (((p0.toUInt32 >>> (Int32.toUInt32 1 &&& Int32.toUInt32 31)).toInt32) &&& (1431655765 : Int32))) &&& (858993459 : Int32)) + ((((p0 - (((p0.toUInt32 >>> (Int32.toUInt32 1 &&& Int32.toUInt32 31)).toInt32) &&& (1431655765 : Int32))).toUInt32 >>> (Int32.toUInt32 2 &&& Int32.toUInt32 31)).toInt32) &&& (858993459 : Int32))) + (((((p0 - (((p0.toUInt32 >>> (Int32.toUInt32 1 &&& Int32.toUInt32 31)).toInt32) &&& (1431655765 : Int32))) &&& (858993459 : Int32)) + ((((p0 - (((p0.toUInt32 >>> (Int32.toUInt32 1 &&& Int32.toUInt32 31)).toInt32) &&& (1431655765 : Int32))).toUInt32 >>> (Int32.toUInt32 2 &&& Int32.toUInt32 31)).toInt32) &&& (858993459 : Int32))).toUInt32 >>> (Int32.toUInt32 4 &&& Int32.toUInt32 31)).toInt32)) &&& (252645135 : Int32)).toUInt32 >>> (Int32.toUInt32 8 &&& Int32.toUInt32 31)).toInt32)) + ((((((((p0 - (((p0.toUInt32 >>> (Int32.toUInt32 1 &&& Int32.toUInt32 31)).toInt32) &&& (1431655765 : Int32))) &&& (858993459 : Int32)) + ((((p0 - (((p0.toUInt32 >>> (Int32.toUInt32 1 &&& Int32.toUInt32 31)).toInt32) &&& (1431655765 : Int32))).toUInt32 >>> (Int32.toUInt32 2 &&& Int32.toUInt32 31)).toInt32) &&& (858993459 : Int32))) + (((((p0 - (((p0.toUInt32 >>> (Int32.toUInt32 1 &&& Int32.toUInt32 31)).toInt32) &&& (1431655765 : Int32))) &&& (858993459 : Int32)) + ((((p0 - (((p0.toUInt32 >>> (Int32.toUInt32 1 &&& Int32.toUInt32 31)).toInt32) &&& (1431655765 : Int32))).toUInt32 >>> (Int32.toUInt32 2 &&& Int32.toUInt32 31)).toInt32) &&& (858993459 : Int32))).toUInt32 >>> (Int32.toUInt32 4 &&& Int32.toUInt32 31)).toInt32)) &&& (252645135 : Int32)) + (((((((p0 - (((p0.toUInt32 >>> (Int32.toUInt32 1 &&& Int32.toUInt32 31)).toInt32) &&& (1431655765 : Int32))) &&& (858993459 : Int32)) + ((((p0 - (((p0.toUInt32 >>> (Int32.toUInt32 1 &&& Int32.toUInt32 31)).toInt32) &&& (1431655765 : Int32))).toUInt32 >>> (Int32.toUInt32 2 &&& Int32.toUInt32 31)).toInt32) &&& (858993459 : Int32))) + (((((p0 - (((p0.toUInt32 >>> (Int32.toUInt32 1 &&& Int32.toUInt32 31)).toInt32) &&& (1431655765 : Int32))) &&& (858993459 : Int32)) + ((((p0 - (((p0.toUInt32 >>> (Int32.toUInt32 1 &&& Int32.toUInt32 31)).toInt32) &&& (1431655765 : Int32))).toUInt32 >>> (Int32.toUInt32 2 &&& Int32.toUInt32 31)).toInt32) &&& (858993459 : Int32))).toUInt32 >>> (Int32.toUInt32 4 &&& Int32.toUInt32 31)).toInt32)) &&& (252645135 : Int32)).toUInt32 >>> (Int32.toUInt32 8 &&& Int32.toUInt32 31)).toInt32)).toUInt32 >>> (Int32.toUInt32 16 &&& Int32.toUInt32 31)).toInt32)))]) dJ6_bitCount_0f7a4_47 rfl (by decide) rfl ?_
  refine mm_iload_n (j := 0) dJ6_bitCount_0f7a4_48 rfl rfl ?_
  refine mm_bipush (v := 63) dJ6_bitCount_0f7a4_49 (by decide) ?_
  refine mm_iand dJ6_bitCount_0f7a4_51 ?_
  subst hf
  refine mm_widen (ck' := rmJ6_bitCount_0f7a4.cells) (sk' := rmJ6_bitCount_0f7a4.slots) (Nat.le_of_ble_eq_true rfl) (Nat.le_of_ble_eq_true rfl) ?_
  exact mm_iret rfl rfl dJ6_bitCount_0f7a4_52 ⟨rfl, rfl⟩
theorem dX0_init_0 : decode cX0_init 0 = .ok (.aload_n 0, 1) := by decide +kernel
theorem dX0_init_1 : decode cX0_init 1 = .ok (.invokespecial 3, 3) := by decide +kernel
theorem dX0_init_4 : decode cX0_init 4 = .ok (.aload_n 0, 1) := by decide +kernel
theorem dX0_init_5 : decode cX0_init 5 = .ok (.new 9, 3) := by decide +kernel
theorem dX0_init_8 : decode cX0_init 8 = .ok (.dup, 1) := by decide +kernel
theorem dX0_init_9 : decode cX0_init 9 = .ok (.invokespecial 11, 3) := by decide +kernel
theorem dX0_init_12 : decode cX0_init 12 = .ok (.putfield 12, 3) := by decide +kernel
theorem dX0_init_15 : decode cX0_init 15 = .ok (.aload_n 0, 1) := by decide +kernel
theorem dX0_init_16 : decode cX0_init 16 = .ok (.new 9, 3) := by decide +kernel
theorem dX0_init_19 : decode cX0_init 19 = .ok (.dup, 1) := by decide +kernel
theorem dX0_init_20 : decode cX0_init 20 = .ok (.invokespecial 11, 3) := by decide +kernel
theorem dX0_init_23 : decode cX0_init 23 = .ok (.putfield 18, 3) := by decide +kernel
theorem dX0_init_26 : decode cX0_init 26 = .ok (.aload_n 0, 1) := by decide +kernel
theorem dX0_init_27 : decode cX0_init 27 = .ok (.iconst 0, 1) := by decide +kernel
theorem dX0_init_28 : decode cX0_init 28 = .ok (.putfield 21, 3) := by decide +kernel
theorem dX0_init_31 : decode cX0_init 31 = .ok (.aload_n 0, 1) := by decide +kernel
theorem dX0_init_32 : decode cX0_init 32 = .ok (.iconst 1, 1) := by decide +kernel
theorem dX0_init_33 : decode cX0_init 33 = .ok (.putfield 25, 3) := by decide +kernel
theorem dX0_init_36 : decode cX0_init 36 = .ok (.aload_n 0, 1) := by decide +kernel
theorem dX0_init_37 : decode cX0_init 37 = .ok (.iconst 0, 1) := by decide +kernel
theorem dX0_init_38 : decode cX0_init 38 = .ok (.putfield 28, 3) := by decide +kernel
theorem dX0_init_41 : decode cX0_init 41 = .ok (.aload_n 0, 1) := by decide +kernel
theorem dX0_init_42 : decode cX0_init 42 = .ok (.iconst 0, 1) := by decide +kernel
theorem dX0_init_43 : decode cX0_init 43 = .ok (.putfield 31, 3) := by decide +kernel
theorem dX0_init_46 : decode cX0_init 46 = .ok (.aload_n 0, 1) := by decide +kernel
theorem dX0_init_47 : decode cX0_init 47 = .ok (.iconst 2, 1) := by decide +kernel
theorem dX0_init_48 : decode cX0_init 48 = .ok (.putfield 34, 3) := by decide +kernel
theorem dX0_init_51 : decode cX0_init 51 = .ok (.return_, 1) := by decide +kernel
theorem nmX0_init : mm_nm yX0_init 0 := ⟨by decide, by decide, by decide +kernel⟩
theorem cdX0_init : mm_cd cd_Y yX0_init cX0_init 1 none := ⟨tw_96, tw_6⟩
abbrev rmX0_init : Room := { frames := 2, cells := 6, slots := 1924, locals := 32 }
def fX0_init (p0 : Nat) (σ : mm_M) : Option mm_M :=
  mm_let (mm_new σ (.inl 5)) fun s1 => mm_on (fX5_init σ.1 s1) fun q2 => mm_sh q2 p0 (.inl 0) (mm_let (mm_wR q2 p0 0 (some σ.1)) fun s4 => mm_let (mm_new s4 (.inl 5)) fun s5 => mm_on (fX5_init s4.1 s5) fun q6 => mm_sh q6 p0 (.inl 0) (mm_let (mm_wR q6 p0 1 (some s4.1)) fun s8 => mm_let (mm_wI s8 p0 2 0) fun s9 => mm_let (mm_wI s9 p0 3 1) fun s10 => mm_let (mm_wI s10 p0 4 0) fun s11 => mm_let (mm_wI s11 p0 5 0) fun s12 => mm_let (mm_wI s12 p0 6 2) fun s13 => some (s13)))
set_option maxHeartbeats 4000000 in
set_option maxRecDepth 100000 in
theorem kX0_init {G : mm_G} {A : Nat → Prop} (p0 : Nat) {σ : mm_M} {R : mm_M} (hf : fX0_init p0 σ = some R) : mm_C cd_Y G yX0_init cX0_init 1 none rmX0_init A [.ref p0] σ (mm_Pv R) := by
  refine mm_C.of (by decide) (Nat.le_of_ble_eq_true rfl) ?_
  unfold fX0_init at hf
  have e0 : lv_args 0 [.ref p0] = [(0, .ref p0)] := rfl
  rw [e0]
  have hini : (yX0_init.name == "<init>") = true := by decide
  rw [hini]
  clear e0 hini
  refine mm_aload_n (j := 0) dX0_init_0 rfl rfl ?_
  refine mm_objInit tw_97 tw_26 tw_27 dX0_init_1 (by decide) (by simp only [List.map_cons, List.map_nil, mm_rf_cat]; exact Nat.le_of_ble_eq_true rfl) ?_
  refine mm_aload_n (j := 0) dX0_init_4 rfl rfl ?_
  refine mm_newo cd_ok (c := 5) (N := 2) rfl (by decide) tw_98 tw_99 tw_7 (Nat.le_of_ble_eq_true rfl) (Nat.le_of_ble_eq_true rfl) dX0_init_5 ?_
  obtain ⟨s1, hs1, hf⟩ := mm_let_s hf
  rw [hs1]
  refine mm_dup dX0_init_8 rfl ?_
  obtain ⟨q2, hq2, hf⟩ := mm_on_s hf
  refine mm_callIv cd_ok (kX5_init σ.1 hq2) (Or.inr ⟨_, tn_7⟩) cdX5_init tw_101 rfl nmX5_init rfl rfl (by simp only [List.map_cons, List.map_nil, mm_rf_cat]; exact Nat.le_of_ble_eq_true rfl) dX0_init_9 ⟨Nat.le_of_ble_eq_true rfl, Nat.le_of_ble_eq_true rfl⟩ ⟨Nat.le_of_ble_eq_true rfl, Nat.le_of_ble_eq_true rfl⟩ ?_
  obtain ⟨hs3, hf⟩ := mm_sh_s hf
  refine mm_putR (c := 0) (k := 0) cd_ok (some σ.1) ⟨_, _, _, rfl, by decide, rfl, Or.inl tw_111⟩ hs3 rfl dX0_init_12 ?_
  obtain ⟨s4, hs4, hf⟩ := mm_let_s hf
  rw [hs4]
  refine mm_aload_n (j := 0) dX0_init_15 rfl rfl ?_
  refine mm_newo cd_ok (c := 5) (N := 2) rfl (by decide) tw_98 tw_99 tw_7 (Nat.le_of_ble_eq_true rfl) (Nat.le_of_ble_eq_true rfl) dX0_init_16 ?_
  obtain ⟨s5, hs5, hf⟩ := mm_let_s hf
  rw [hs5]
  refine mm_dup dX0_init_19 rfl ?_
  obtain ⟨q6, hq6, hf⟩ := mm_on_s hf
  refine mm_callIv cd_ok (kX5_init s4.1 hq6) (Or.inr ⟨_, tn_7⟩) cdX5_init tw_101 rfl nmX5_init rfl rfl (by simp only [List.map_cons, List.map_nil, mm_rf_cat]; exact Nat.le_of_ble_eq_true rfl) dX0_init_20 ⟨Nat.le_of_ble_eq_true rfl, Nat.le_of_ble_eq_true rfl⟩ ⟨Nat.le_of_ble_eq_true rfl, Nat.le_of_ble_eq_true rfl⟩ ?_
  obtain ⟨hs7, hf⟩ := mm_sh_s hf
  refine mm_putR (c := 0) (k := 1) cd_ok (some s4.1) ⟨_, _, _, rfl, by decide, rfl, Or.inl tw_113⟩ hs7 rfl dX0_init_23 ?_
  obtain ⟨s8, hs8, hf⟩ := mm_let_s hf
  rw [hs8]
  refine mm_aload_n (j := 0) dX0_init_26 rfl rfl ?_
  refine mm_iconst (v := 0) dX0_init_27 (by decide) ?_
  refine mm_putI (c := 0) (k := 2) cd_ok ⟨_, _, _, rfl, by decide, rfl, Or.inl tw_115⟩ (mm_ke hs8 hs7) rfl rfl rfl dX0_init_28 ?_
  obtain ⟨s9, hs9, hf⟩ := mm_let_s hf
  rw [hs9]
  refine mm_aload_n (j := 0) dX0_init_31 rfl rfl ?_
  refine mm_iconst (v := 1) dX0_init_32 (by decide) ?_
  refine mm_putI (c := 0) (k := 3) cd_ok ⟨_, _, _, rfl, by decide, rfl, Or.inl tw_117⟩ (mm_ke hs9 (mm_ke hs8 hs7)) rfl rfl rfl dX0_init_33 ?_
  obtain ⟨s10, hs10, hf⟩ := mm_let_s hf
  rw [hs10]
  refine mm_aload_n (j := 0) dX0_init_36 rfl rfl ?_
  refine mm_iconst (v := 0) dX0_init_37 (by decide) ?_
  refine mm_putI (c := 0) (k := 4) cd_ok ⟨_, _, _, rfl, by decide, rfl, Or.inl tw_119⟩ (mm_ke hs10 (mm_ke hs9 (mm_ke hs8 hs7))) rfl rfl rfl dX0_init_38 ?_
  obtain ⟨s11, hs11, hf⟩ := mm_let_s hf
  rw [hs11]
  refine mm_aload_n (j := 0) dX0_init_41 rfl rfl ?_
  refine mm_iconst (v := 0) dX0_init_42 (by decide) ?_
  refine mm_putI (c := 0) (k := 5) cd_ok ⟨_, _, _, rfl, by decide, rfl, Or.inl tw_121⟩ (mm_ke hs11 (mm_ke hs10 (mm_ke hs9 (mm_ke hs8 hs7)))) rfl rfl rfl dX0_init_43 ?_
  obtain ⟨s12, hs12, hf⟩ := mm_let_s hf
  rw [hs12]
  refine mm_aload_n (j := 0) dX0_init_46 rfl rfl ?_
  refine mm_iconst (v := 2) dX0_init_47 (by decide) ?_
  refine mm_putI (c := 0) (k := 6) cd_ok ⟨_, _, _, rfl, by decide, rfl, Or.inl tw_123⟩ (mm_ke hs12 (mm_ke hs11 (mm_ke hs10 (mm_ke hs9 (mm_ke hs8 hs7))))) rfl rfl rfl dX0_init_48 ?_
  obtain ⟨s13, hs13, hf⟩ := mm_let_s hf
  rw [hs13]
  cases hf
  refine mm_widen (ck' := rmX0_init.cells) (sk' := rmX0_init.slots) (Nat.le_of_ble_eq_true rfl) (Nat.le_of_ble_eq_true rfl) ?_
  exact mm_vret rfl dX0_init_51 ⟨rfl, rfl⟩
theorem dX2_addRow_0 : decode cX2_addRow 0 = .ok (.iload_n 2, 1) := by decide +kernel
theorem dX2_addRow_1 : decode cX2_addRow 1 = .ok (.ifCond .lt 11, 3) := by decide +kernel
theorem dX2_addRow_4 : decode cX2_addRow 4 = .ok (.iload_n 2, 1) := by decide +kernel
theorem dX2_addRow_5 : decode cX2_addRow 5 = .ok (.iload_n 3, 1) := by decide +kernel
theorem dX2_addRow_6 : decode cX2_addRow 6 = .ok (.iadd, 1) := by decide +kernel
theorem dX2_addRow_7 : decode cX2_addRow 7 = .ok (.aload_n 1, 1) := by decide +kernel
theorem dX2_addRow_8 : decode cX2_addRow 8 = .ok (.arraylength, 1) := by decide +kernel
theorem dX2_addRow_9 : decode cX2_addRow 9 = .ok (.if_icmp .le 4, 3) := by decide +kernel
theorem dX2_addRow_12 : decode cX2_addRow 12 = .ok (.return_, 1) := by decide +kernel
theorem dX2_addRow_13 : decode cX2_addRow 13 = .ok (.iload_n 2, 1) := by decide +kernel
theorem dX2_addRow_14 : decode cX2_addRow 14 = .ok (.istore 4, 2) := by decide +kernel
theorem dX2_addRow_16 : decode cX2_addRow 16 = .ok (.iload 4, 2) := by decide +kernel
theorem dX2_addRow_18 : decode cX2_addRow 18 = .ok (.iload_n 2, 1) := by decide +kernel
theorem dX2_addRow_19 : decode cX2_addRow 19 = .ok (.iload_n 3, 1) := by decide +kernel
theorem dX2_addRow_20 : decode cX2_addRow 20 = .ok (.iadd, 1) := by decide +kernel
theorem dX2_addRow_21 : decode cX2_addRow 21 = .ok (.if_icmp .ge 18, 3) := by decide +kernel
theorem dX2_addRow_24 : decode cX2_addRow 24 = .ok (.aload_n 1, 1) := by decide +kernel
theorem dX2_addRow_25 : decode cX2_addRow 25 = .ok (.iload 4, 2) := by decide +kernel
theorem dX2_addRow_27 : decode cX2_addRow 27 = .ok (.iaload, 1) := by decide +kernel
theorem dX2_addRow_28 : decode cX2_addRow 28 = .ok (.bipush 32, 2) := by decide +kernel
theorem dX2_addRow_30 : decode cX2_addRow 30 = .ok (.if_icmp .gt 9, 3) := by decide +kernel
theorem dX2_addRow_33 : decode cX2_addRow 33 = .ok (.iinc 4 1, 3) := by decide +kernel
theorem dX2_addRow_36 : decode cX2_addRow 36 = .ok (.goto (-20), 3) := by decide +kernel
theorem dX2_addRow_39 : decode cX2_addRow 39 = .ok (.iload_n 2, 1) := by decide +kernel
theorem dX2_addRow_40 : decode cX2_addRow 40 = .ok (.iload_n 3, 1) := by decide +kernel
theorem dX2_addRow_41 : decode cX2_addRow 41 = .ok (.iadd, 1) := by decide +kernel
theorem dX2_addRow_42 : decode cX2_addRow 42 = .ok (.iconst 1, 1) := by decide +kernel
theorem dX2_addRow_43 : decode cX2_addRow 43 = .ok (.isub, 1) := by decide +kernel
theorem dX2_addRow_44 : decode cX2_addRow 44 = .ok (.istore 5, 2) := by decide +kernel
theorem dX2_addRow_46 : decode cX2_addRow 46 = .ok (.iload 5, 2) := by decide +kernel
theorem dX2_addRow_48 : decode cX2_addRow 48 = .ok (.iload 4, 2) := by decide +kernel
theorem dX2_addRow_50 : decode cX2_addRow 50 = .ok (.if_icmp .lt 18, 3) := by decide +kernel
theorem dX2_addRow_53 : decode cX2_addRow 53 = .ok (.aload_n 1, 1) := by decide +kernel
theorem dX2_addRow_54 : decode cX2_addRow 54 = .ok (.iload 5, 2) := by decide +kernel
theorem dX2_addRow_56 : decode cX2_addRow 56 = .ok (.iaload, 1) := by decide +kernel
theorem dX2_addRow_57 : decode cX2_addRow 57 = .ok (.bipush 32, 2) := by decide +kernel
theorem dX2_addRow_59 : decode cX2_addRow 59 = .ok (.if_icmp .gt 9, 3) := by decide +kernel
theorem dX2_addRow_62 : decode cX2_addRow 62 = .ok (.iinc 5 (-1), 3) := by decide +kernel
theorem dX2_addRow_65 : decode cX2_addRow 65 = .ok (.goto (-19), 3) := by decide +kernel
theorem dX2_addRow_68 : decode cX2_addRow 68 = .ok (.iload 5, 2) := by decide +kernel
theorem dX2_addRow_70 : decode cX2_addRow 70 = .ok (.iload 4, 2) := by decide +kernel
theorem dX2_addRow_72 : decode cX2_addRow 72 = .ok (.if_icmp .ge 4, 3) := by decide +kernel
theorem dX2_addRow_75 : decode cX2_addRow 75 = .ok (.return_, 1) := by decide +kernel
theorem dX2_addRow_76 : decode cX2_addRow 76 = .ok (.iload 4, 2) := by decide +kernel
theorem dX2_addRow_78 : decode cX2_addRow 78 = .ok (.istore 6, 2) := by decide +kernel
theorem dX2_addRow_80 : decode cX2_addRow 80 = .ok (.iload 6, 2) := by decide +kernel
theorem dX2_addRow_82 : decode cX2_addRow 82 = .ok (.iload 5, 2) := by decide +kernel
theorem dX2_addRow_84 : decode cX2_addRow 84 = .ok (.if_icmp .gt 26, 3) := by decide +kernel
theorem dX2_addRow_87 : decode cX2_addRow 87 = .ok (.aload_n 0, 1) := by decide +kernel
theorem dX2_addRow_88 : decode cX2_addRow 88 = .ok (.aload_n 1, 1) := by decide +kernel
theorem dX2_addRow_89 : decode cX2_addRow 89 = .ok (.iload 6, 2) := by decide +kernel
theorem dX2_addRow_91 : decode cX2_addRow 91 = .ok (.iaload, 1) := by decide +kernel
theorem dX2_addRow_92 : decode cX2_addRow 92 = .ok (.bipush 32, 2) := by decide +kernel
theorem dX2_addRow_94 : decode cX2_addRow 94 = .ok (.invokestatic 15, 3) := by decide +kernel
theorem dX2_addRow_97 : decode cX2_addRow 97 = .ok (.sipush 255, 3) := by decide +kernel
theorem dX2_addRow_100 : decode cX2_addRow 100 = .ok (.iand, 1) := by decide +kernel
theorem dX2_addRow_101 : decode cX2_addRow 101 = .ok (.invokevirtual 21, 3) := by decide +kernel
theorem dX2_addRow_104 : decode cX2_addRow 104 = .ok (.iinc 6 1, 3) := by decide +kernel
theorem dX2_addRow_107 : decode cX2_addRow 107 = .ok (.goto (-27), 3) := by decide +kernel
theorem dX2_addRow_110 : decode cX2_addRow 110 = .ok (.aload_n 0, 1) := by decide +kernel
theorem dX2_addRow_111 : decode cX2_addRow 111 = .ok (.bipush 10, 2) := by decide +kernel
theorem dX2_addRow_113 : decode cX2_addRow 113 = .ok (.invokevirtual 21, 3) := by decide +kernel
theorem dX2_addRow_116 : decode cX2_addRow 116 = .ok (.return_, 1) := by decide +kernel
theorem nmX2_addRow : mm_nm yX2_addRow 3 := ⟨by decide, by decide, by decide +kernel⟩
theorem cdX2_addRow : mm_cd cd_Y yX2_addRow cX2_addRow 7 none := ⟨tw_719, tw_5⟩
abbrev rmX2_addRow : Room := { frames := 1, cells := 0, slots := 0, locals := 21 }
def fX2_addRow_80  : Nat → Nat → Nat → Int32 → Int32 → Int32 → Int32 → Int32 → mm_M → Option mm_M
  | 0 => fun _ _ _ _ _ _ _ _ => none
  | n + 1 => fun a0 a1 x2 x3 x4 x5 x6 σ =>
  (if x5 < x6 then mm_sh σ a0 (.inl 2) (mm_on (fX2_addByte a0 10 σ) fun q9 => some (q9)) else mm_ar σ a1 0 fun n10 => mm_ib x6 n10 (mm_sh σ a0 (.inl 2) (mm_on (fX2_addByte a0 ((if (mm_I σ a1 x6.toNatClampNeg) < 32 then 32 else (mm_I σ a1 x6.toNatClampNeg)) &&& 255) σ) fun q13 => (fX2_addRow_80  n a0 a1 x2 x3 x4 x5 (x6 + 1) q13))))
def fX2_addRow_68  (a0 : Nat) (a1 : Nat) (x2 : Int32) (x3 : Int32) (x4 : Int32) (x5 : Int32) (σ : mm_M) : Option mm_M :=
  (if x4 ≤ x5 then (fX2_addRow_80  mm_fuel a0 a1 x2 x3 x4 x5 x4 σ) else some (σ))
def fX2_addRow_46  : Nat → Nat → Nat → Int32 → Int32 → Int32 → Int32 → mm_M → Option mm_M
  | 0 => fun _ _ _ _ _ _ _ => none
  | n + 1 => fun a0 a1 x2 x3 x4 x5 σ =>
  (if x5 < x4 then (fX2_addRow_68  a0 a1 x2 x3 x4 x5 σ) else mm_ar σ a1 0 fun n14 => mm_ib x5 n14 ((if 32 < (mm_I σ a1 x5.toNatClampNeg) then (fX2_addRow_68  a0 a1 x2 x3 x4 x5 σ) else (fX2_addRow_46  n a0 a1 x2 x3 x4 (x5 + (-1)) σ))))
def fX2_addRow_39  (a0 : Nat) (a1 : Nat) (x2 : Int32) (x3 : Int32) (x4 : Int32) (σ : mm_M) : Option mm_M :=
  (fX2_addRow_46  mm_fuel a0 a1 x2 x3 x4 ((x2 + x3) - 1) σ)
def fX2_addRow_16  : Nat → Nat → Nat → Int32 → Int32 → Int32 → mm_M → Option mm_M
  | 0 => fun _ _ _ _ _ _ => none
  | n + 1 => fun a0 a1 x2 x3 x4 σ =>
  (if (x2 + x3) ≤ x4 then (fX2_addRow_39  a0 a1 x2 x3 x4 σ) else mm_ar σ a1 0 fun n17 => mm_ib x4 n17 ((if 32 < (mm_I σ a1 x4.toNatClampNeg) then (fX2_addRow_39  a0 a1 x2 x3 x4 σ) else (fX2_addRow_16  n a0 a1 x2 x3 (x4 + 1) σ))))
def fX2_addRow (p0 : Nat) (p1 : Nat) (p2 : Int32) (p3 : Int32) (σ : mm_M) : Option mm_M :=
  (if p2 < 0 then some (σ) else mm_ar σ p1 0 fun n2 => (if (p2 + p3) ≤ (Int32.ofNat n2) then (fX2_addRow_16  mm_fuel p0 p1 p2 p3 p2 σ) else some (σ)))
set_option maxHeartbeats 4000000 in
set_option maxRecDepth 100000 in
theorem kX2_addRow_80 {G : mm_G} {A : Nat → Prop} {ini : Bool × Option (List (Nat × Nat × Nat × Nat))}  {R : mm_M}  : ∀ (a0 : Nat) (a1 : Nat) (x2 : Int32) (x3 : Int32) (x4 : Int32) (x5 : Int32) (x6 : Int32) (σ : mm_M), fX2_addRow_80  mm_fuel a0 a1 x2 x3 x4 x5 x6 σ = some R → mm_J cd_Y G RX2 cX2_addRow 7 none ini rmX2_addRow A (mm_QF cd_Y G A (mm_Pv R) rmX2_addRow.cells rmX2_addRow.slots) 80 [(0, .ref a0), (1, .ref a1), (2, .int x2), (3, .int x3), (4, .int x4), (5, .int x5), (6, .int x6)] [] σ 0 0 := by
  generalize mm_fuel = n
  induction n with
  | zero => intro a0 a1 x2 x3 x4 x5 x6 σ hf; cases hf
  | succ n ih =>
    intro a0 a1 x2 x3 x4 x5 x6 σ hf
    unfold fX2_addRow_80 at hf
    refine mm_iload (j := 6) dX2_addRow_80 rfl ?_
    refine mm_iload (j := 5) dX2_addRow_82 rfl ?_
    refine mm_icmp_gt (tgt := 110) dX2_addRow_84 (by decide) (fun c7 => ?_) (fun c7 => ?_)
    · rw [if_pos c7] at hf
      refine mm_aload_n (j := 0) dX2_addRow_110 rfl rfl ?_
      refine mm_bipush (v := 10) dX2_addRow_111 (by decide) ?_
      obtain ⟨hs8, hf⟩ := mm_sh_s hf
      obtain ⟨q9, hq9, hf⟩ := mm_on_s hf
      refine mm_callVv cd_ok (kX2_addByte a0 10 hq9) hs8 rfl (Or.inl tw_721) cdX2_addByte tw_723 ts_27 nmX2_addByte rfl rfl (by simp only [List.map_cons, List.map_nil, mm_rf_cat]; exact Nat.le_of_ble_eq_true rfl) dX2_addRow_113 ⟨Nat.le_of_ble_eq_true rfl, Nat.le_of_ble_eq_true rfl⟩ ⟨Nat.le_of_ble_eq_true rfl, Nat.le_of_ble_eq_true rfl⟩ ?_
      cases hf
      refine mm_widen (ck' := rmX2_addRow.cells) (sk' := rmX2_addRow.slots) (Nat.le_of_ble_eq_true rfl) (Nat.le_of_ble_eq_true rfl) ?_
      exact mm_vret rfl dX2_addRow_116 ⟨rfl, rfl⟩
    · rw [if_neg c7] at hf
      refine mm_aload_n (j := 0) dX2_addRow_87 rfl rfl ?_
      refine mm_aload_n (j := 1) dX2_addRow_88 rfl rfl ?_
      refine mm_iload (j := 6) dX2_addRow_89 rfl ?_
      obtain ⟨n10, hn10, hf⟩ := mm_ar_s hf
      obtain ⟨hi11, hf⟩ := mm_ib_s hf
      refine mm_iald hn10 rfl hi11 dX2_addRow_91 ?_
      refine mm_bipush (v := 32) dX2_addRow_92 (by decide) ?_
      refine mm_mmax tw_720 tw_358 tw_14 tw_359 (by decide) (by simp only [List.map_cons, List.map_nil, mm_rf_cat]; exact Nat.le_of_ble_eq_true rfl) (by decide) (by decide) dX2_addRow_94 ?_
      refine mm_sipush (v := 255) dX2_addRow_97 (by decide) ?_
      refine mm_iand dX2_addRow_100 ?_
      obtain ⟨hs12, hf⟩ := mm_sh_s hf
      obtain ⟨q13, hq13, hf⟩ := mm_on_s hf
      refine mm_callVv cd_ok (kX2_addByte a0 ((if (mm_I σ a1 x6.toNatClampNeg) < 32 then 32 else (mm_I σ a1 x6.toNatClampNeg)) &&& 255) hq13) hs12 rfl (Or.inl tw_721) cdX2_addByte tw_723 ts_27 nmX2_addByte rfl rfl (by simp only [List.map_cons, List.map_nil, mm_rf_cat]; exact Nat.le_of_ble_eq_true rfl) dX2_addRow_101 ⟨Nat.le_of_ble_eq_true rfl, Nat.le_of_ble_eq_true rfl⟩ ⟨Nat.le_of_ble_eq_true rfl, Nat.le_of_ble_eq_true rfl⟩ ?_
      refine mm_iinc (j := 6) (L' := [(6, .int (x6 + 1)), (0, .ref a0), (1, .ref a1), (2, .int x2), (3, .int x3), (4, .int x4), (5, .int x5)]) dX2_addRow_104 rfl rfl (by decide) rfl ?_
      refine mm_goto (tgt := 80) dX2_addRow_107 (by decide) ?_
      refine mm_sub [1, 2, 3, 4, 5, 6, 0] rfl ?_
      exact ih a0 a1 x2 x3 x4 x5 (x6 + 1) q13 hf
set_option maxHeartbeats 4000000 in
set_option maxRecDepth 100000 in
theorem kX2_addRow_68 {G : mm_G} {A : Nat → Prop} {ini : Bool × Option (List (Nat × Nat × Nat × Nat))}  {R : mm_M}  (a0 : Nat) (a1 : Nat) (x2 : Int32) (x3 : Int32) (x4 : Int32) (x5 : Int32) (σ : mm_M) (hf : fX2_addRow_68  a0 a1 x2 x3 x4 x5 σ = some R) : mm_J cd_Y G RX2 cX2_addRow 7 none ini rmX2_addRow A (mm_QF cd_Y G A (mm_Pv R) rmX2_addRow.cells rmX2_addRow.slots) 68 [(0, .ref a0), (1, .ref a1), (2, .int x2), (3, .int x3), (4, .int x4), (5, .int x5)] [] σ 0 0 := by
  unfold fX2_addRow_68 at hf
  refine mm_iload (j := 5) dX2_addRow_68 rfl ?_
  refine mm_iload (j := 4) dX2_addRow_70 rfl ?_
  refine mm_icmp_ge (tgt := 76) dX2_addRow_72 (by decide) (fun c6 => ?_) (fun c6 => ?_)
  · rw [if_pos c6] at hf
    refine mm_iload (j := 4) dX2_addRow_76 rfl ?_
    refine mm_istore (L' := [(6, .int x4), (0, .ref a0), (1, .ref a1), (2, .int x2), (3, .int x3), (4, .int x4), (5, .int x5)]) dX2_addRow_78 (by decide) rfl ?_
    refine mm_sub [1, 2, 3, 4, 5, 6, 0] rfl ?_
    exact kX2_addRow_80  a0 a1 x2 x3 x4 x5 x4 σ hf
  · rw [if_neg c6] at hf
    cases hf
    refine mm_widen (ck' := rmX2_addRow.cells) (sk' := rmX2_addRow.slots) (Nat.le_of_ble_eq_true rfl) (Nat.le_of_ble_eq_true rfl) ?_
    exact mm_vret rfl dX2_addRow_75 ⟨rfl, rfl⟩
set_option maxHeartbeats 4000000 in
set_option maxRecDepth 100000 in
theorem kX2_addRow_46 {G : mm_G} {A : Nat → Prop} {ini : Bool × Option (List (Nat × Nat × Nat × Nat))}  {R : mm_M}  : ∀ (a0 : Nat) (a1 : Nat) (x2 : Int32) (x3 : Int32) (x4 : Int32) (x5 : Int32) (σ : mm_M), fX2_addRow_46  mm_fuel a0 a1 x2 x3 x4 x5 σ = some R → mm_J cd_Y G RX2 cX2_addRow 7 none ini rmX2_addRow A (mm_QF cd_Y G A (mm_Pv R) rmX2_addRow.cells rmX2_addRow.slots) 46 [(0, .ref a0), (1, .ref a1), (2, .int x2), (3, .int x3), (4, .int x4), (5, .int x5)] [] σ 0 0 := by
  generalize mm_fuel = n
  induction n with
  | zero => intro a0 a1 x2 x3 x4 x5 σ hf; cases hf
  | succ n ih =>
    intro a0 a1 x2 x3 x4 x5 σ hf
    unfold fX2_addRow_46 at hf
    refine mm_iload (j := 5) dX2_addRow_46 rfl ?_
    refine mm_iload (j := 4) dX2_addRow_48 rfl ?_
    refine mm_icmp_lt (tgt := 68) dX2_addRow_50 (by decide) (fun c5 => ?_) (fun c5 => ?_)
    · rw [if_pos c5] at hf
      refine mm_sub [0, 1, 2, 3, 4, 5] rfl ?_
      exact kX2_addRow_68  a0 a1 x2 x3 x4 x5 σ hf
    · rw [if_neg c5] at hf
      refine mm_aload_n (j := 1) dX2_addRow_53 rfl rfl ?_
      refine mm_iload (j := 5) dX2_addRow_54 rfl ?_
      obtain ⟨n14, hn14, hf⟩ := mm_ar_s hf
      obtain ⟨hi15, hf⟩ := mm_ib_s hf
      refine mm_iald hn14 rfl hi15 dX2_addRow_56 ?_
      refine mm_bipush (v := 32) dX2_addRow_57 (by decide) ?_
      refine mm_icmp_gt (tgt := 68) dX2_addRow_59 (by decide) (fun c16 => ?_) (fun c16 => ?_)
      · rw [if_pos c16] at hf
        refine mm_sub [0, 1, 2, 3, 4, 5] rfl ?_
        exact kX2_addRow_68  a0 a1 x2 x3 x4 x5 σ hf
      · rw [if_neg c16] at hf
        refine mm_iinc (j := 5) (L' := [(5, .int (x5 + (-1))), (0, .ref a0), (1, .ref a1), (2, .int x2), (3, .int x3), (4, .int x4)]) dX2_addRow_62 rfl rfl (by decide) rfl ?_
        refine mm_goto (tgt := 46) dX2_addRow_65 (by decide) ?_
        refine mm_sub [1, 2, 3, 4, 5, 0] rfl ?_
        exact ih a0 a1 x2 x3 x4 (x5 + (-1)) σ hf
set_option maxHeartbeats 4000000 in
set_option maxRecDepth 100000 in
theorem kX2_addRow_39 {G : mm_G} {A : Nat → Prop} {ini : Bool × Option (List (Nat × Nat × Nat × Nat))}  {R : mm_M}  (a0 : Nat) (a1 : Nat) (x2 : Int32) (x3 : Int32) (x4 : Int32) (σ : mm_M) (hf : fX2_addRow_39  a0 a1 x2 x3 x4 σ = some R) : mm_J cd_Y G RX2 cX2_addRow 7 none ini rmX2_addRow A (mm_QF cd_Y G A (mm_Pv R) rmX2_addRow.cells rmX2_addRow.slots) 39 [(0, .ref a0), (1, .ref a1), (2, .int x2), (3, .int x3), (4, .int x4)] [] σ 0 0 := by
  unfold fX2_addRow_39 at hf
  refine mm_iload_n (j := 2) dX2_addRow_39 rfl rfl ?_
  refine mm_iload_n (j := 3) dX2_addRow_40 rfl rfl ?_
  refine mm_iadd dX2_addRow_41 ?_
  refine mm_iconst (v := 1) dX2_addRow_42 (by decide) ?_
  refine mm_isub dX2_addRow_43 ?_
  refine mm_istore (L' := [(5, .int ((x2 + x3) - 1)), (0, .ref a0), (1, .ref a1), (2, .int x2), (3, .int x3), (4, .int x4)]) dX2_addRow_44 (by decide) rfl ?_
  refine mm_sub [1, 2, 3, 4, 5, 0] rfl ?_
  exact kX2_addRow_46  a0 a1 x2 x3 x4 ((x2 + x3) - 1) σ hf
set_option maxHeartbeats 4000000 in
set_option maxRecDepth 100000 in
theorem kX2_addRow_16 {G : mm_G} {A : Nat → Prop} {ini : Bool × Option (List (Nat × Nat × Nat × Nat))}  {R : mm_M}  : ∀ (a0 : Nat) (a1 : Nat) (x2 : Int32) (x3 : Int32) (x4 : Int32) (σ : mm_M), fX2_addRow_16  mm_fuel a0 a1 x2 x3 x4 σ = some R → mm_J cd_Y G RX2 cX2_addRow 7 none ini rmX2_addRow A (mm_QF cd_Y G A (mm_Pv R) rmX2_addRow.cells rmX2_addRow.slots) 16 [(0, .ref a0), (1, .ref a1), (2, .int x2), (3, .int x3), (4, .int x4)] [] σ 0 0 := by
  generalize mm_fuel = n
  induction n with
  | zero => intro a0 a1 x2 x3 x4 σ hf; cases hf
  | succ n ih =>
    intro a0 a1 x2 x3 x4 σ hf
    unfold fX2_addRow_16 at hf
    refine mm_iload (j := 4) dX2_addRow_16 rfl ?_
    refine mm_iload_n (j := 2) dX2_addRow_18 rfl rfl ?_
    refine mm_iload_n (j := 3) dX2_addRow_19 rfl rfl ?_
    refine mm_iadd dX2_addRow_20 ?_
    refine mm_icmp_ge (tgt := 39) dX2_addRow_21 (by decide) (fun c4 => ?_) (fun c4 => ?_)
    · rw [if_pos c4] at hf
      refine mm_sub [0, 1, 2, 3, 4] rfl ?_
      exact kX2_addRow_39  a0 a1 x2 x3 x4 σ hf
    · rw [if_neg c4] at hf
      refine mm_aload_n (j := 1) dX2_addRow_24 rfl rfl ?_
      refine mm_iload (j := 4) dX2_addRow_25 rfl ?_
      obtain ⟨n17, hn17, hf⟩ := mm_ar_s hf
      obtain ⟨hi18, hf⟩ := mm_ib_s hf
      refine mm_iald hn17 rfl hi18 dX2_addRow_27 ?_
      refine mm_bipush (v := 32) dX2_addRow_28 (by decide) ?_
      refine mm_icmp_gt (tgt := 39) dX2_addRow_30 (by decide) (fun c19 => ?_) (fun c19 => ?_)
      · rw [if_pos c19] at hf
        refine mm_sub [0, 1, 2, 3, 4] rfl ?_
        exact kX2_addRow_39  a0 a1 x2 x3 x4 σ hf
      · rw [if_neg c19] at hf
        refine mm_iinc (j := 4) (L' := [(4, .int (x4 + 1)), (0, .ref a0), (1, .ref a1), (2, .int x2), (3, .int x3)]) dX2_addRow_33 rfl rfl (by decide) rfl ?_
        refine mm_goto (tgt := 16) dX2_addRow_36 (by decide) ?_
        refine mm_sub [1, 2, 3, 4, 0] rfl ?_
        exact ih a0 a1 x2 x3 (x4 + 1) σ hf
set_option maxHeartbeats 4000000 in
set_option maxRecDepth 100000 in
theorem kX2_addRow {G : mm_G} {A : Nat → Prop} (p0 : Nat) (p1 : Nat) (p2 : Int32) (p3 : Int32) {σ : mm_M} {R : mm_M} (hf : fX2_addRow p0 p1 p2 p3 σ = some R) : mm_C cd_Y G yX2_addRow cX2_addRow 7 none rmX2_addRow A [.ref p0, .ref p1, .int p2, .int p3] σ (mm_Pv R) := by
  refine mm_C.of (by decide) (Nat.le_of_ble_eq_true rfl) ?_
  unfold fX2_addRow at hf
  have e0 : lv_args 0 [.ref p0, .ref p1, .int p2, .int p3] = [(0, .ref p0), (1, .ref p1), (2, .int p2), (3, .int p3)] := rfl
  rw [e0]
  generalize hini : ((yX2_addRow.name == "<init>"), none) = ini
  clear e0
  clear hini
  refine mm_iload_n (j := 2) dX2_addRow_0 rfl rfl ?_
  refine mm_if_lt (tgt := 12) dX2_addRow_1 (by decide) (fun c1 => ?_) (fun c1 => ?_)
  · rw [if_pos c1] at hf
    cases hf
    refine mm_widen (ck' := rmX2_addRow.cells) (sk' := rmX2_addRow.slots) (Nat.le_of_ble_eq_true rfl) (Nat.le_of_ble_eq_true rfl) ?_
    exact mm_vret rfl dX2_addRow_12 ⟨rfl, rfl⟩
  · rw [if_neg c1] at hf
    refine mm_iload_n (j := 2) dX2_addRow_4 rfl rfl ?_
    refine mm_iload_n (j := 3) dX2_addRow_5 rfl rfl ?_
    refine mm_iadd dX2_addRow_6 ?_
    refine mm_aload_n (j := 1) dX2_addRow_7 rfl rfl ?_
    obtain ⟨n2, hn2, hf⟩ := mm_ar_s hf
    refine mm_alen (v := Int32.ofNat n2) hn2 rfl rfl dX2_addRow_8 ?_
    refine mm_icmp_le (tgt := 13) dX2_addRow_9 (by decide) (fun c3 => ?_) (fun c3 => ?_)
    · rw [if_pos c3] at hf
      refine mm_iload_n (j := 2) dX2_addRow_13 rfl rfl ?_
      refine mm_istore (L' := [(4, .int p2), (0, .ref p0), (1, .ref p1), (2, .int p2), (3, .int p3)]) dX2_addRow_14 (by decide) rfl ?_
      refine mm_sub [1, 2, 3, 4, 0] rfl ?_
      exact kX2_addRow_16  p0 p1 p2 p3 p2 σ hf
    · rw [if_neg c3] at hf
      cases hf
      refine mm_widen (ck' := rmX2_addRow.cells) (sk' := rmX2_addRow.slots) (Nat.le_of_ble_eq_true rfl) (Nat.le_of_ble_eq_true rfl) ?_
      exact mm_vret rfl dX2_addRow_12 ⟨rfl, rfl⟩
theorem dX3_init_0 : decode cX3_init 0 = .ok (.aload_n 0, 1) := by decide +kernel
theorem dX3_init_1 : decode cX3_init 1 = .ok (.invokespecial 3, 3) := by decide +kernel
theorem dX3_init_4 : decode cX3_init 4 = .ok (.aload_n 0, 1) := by decide +kernel
theorem dX3_init_5 : decode cX3_init 5 = .ok (.new 9, 3) := by decide +kernel
theorem dX3_init_8 : decode cX3_init 8 = .ok (.dup, 1) := by decide +kernel
theorem dX3_init_9 : decode cX3_init 9 = .ok (.invokespecial 11, 3) := by decide +kernel
theorem dX3_init_12 : decode cX3_init 12 = .ok (.putfield 12, 3) := by decide +kernel
theorem dX3_init_15 : decode cX3_init 15 = .ok (.aload_n 0, 1) := by decide +kernel
theorem dX3_init_16 : decode cX3_init 16 = .ok (.bipush 18, 2) := by decide +kernel
theorem dX3_init_18 : decode cX3_init 18 = .ok (.newarray .int, 2) := by decide +kernel
theorem dX3_init_20 : decode cX3_init 20 = .ok (.putfield 18, 3) := by decide +kernel
theorem dX3_init_23 : decode cX3_init 23 = .ok (.return_, 1) := by decide +kernel
theorem nmX3_init : mm_nm yX3_init 0 := ⟨by decide, by decide, by decide +kernel⟩
theorem cdX3_init : mm_cd cd_Y yX3_init cX3_init 1 none := ⟨tw_537, tw_17⟩
abbrev rmX3_init : Room := { frames := 2, cells := 4, slots := 1045, locals := 32 }
def fX3_init (p0 : Nat) (σ : mm_M) : Option mm_M :=
  mm_let (mm_new σ (.inl 4)) fun s1 => mm_on (fX4_init σ.1 s1) fun q2 => mm_sh q2 p0 (.inl 3) (mm_let (mm_wR q2 p0 0 (some σ.1)) fun s4 => mm_let (mm_new s4 (.inr (0, 18))) fun s5 => mm_sh s5 p0 (.inl 3) (mm_let (mm_wR s5 p0 1 (some s4.1)) fun s7 => some (s7)))
set_option maxHeartbeats 4000000 in
set_option maxRecDepth 100000 in
theorem kX3_init {G : mm_G} {A : Nat → Prop} (p0 : Nat) {σ : mm_M} {R : mm_M} (hf : fX3_init p0 σ = some R) : mm_C cd_Y G yX3_init cX3_init 1 none rmX3_init A [.ref p0] σ (mm_Pv R) := by
  refine mm_C.of (by decide) (Nat.le_of_ble_eq_true rfl) ?_
  unfold fX3_init at hf
  have e0 : lv_args 0 [.ref p0] = [(0, .ref p0)] := rfl
  rw [e0]
  have hini : (yX3_init.name == "<init>") = true := by decide
  rw [hini]
  clear e0 hini
  refine mm_aload_n (j := 0) dX3_init_0 rfl rfl ?_
  refine mm_objInit tw_538 tw_26 tw_27 dX3_init_1 (by decide) (by simp only [List.map_cons, List.map_nil, mm_rf_cat]; exact Nat.le_of_ble_eq_true rfl) ?_
  refine mm_aload_n (j := 0) dX3_init_4 rfl rfl ?_
  refine mm_newo cd_ok (c := 4) (N := 2) rfl (by decide) tw_539 tw_54 tw_4 (Nat.le_of_ble_eq_true rfl) (Nat.le_of_ble_eq_true rfl) dX3_init_5 ?_
  obtain ⟨s1, hs1, hf⟩ := mm_let_s hf
  rw [hs1]
  refine mm_dup dX3_init_8 rfl ?_
  obtain ⟨q2, hq2, hf⟩ := mm_on_s hf
  refine mm_callIv cd_ok (kX4_init σ.1 hq2) (Or.inr ⟨_, tn_27⟩) cdX4_init tw_56 rfl nmX4_init rfl rfl (by simp only [List.map_cons, List.map_nil, mm_rf_cat]; exact Nat.le_of_ble_eq_true rfl) dX3_init_9 ⟨Nat.le_of_ble_eq_true rfl, Nat.le_of_ble_eq_true rfl⟩ ⟨Nat.le_of_ble_eq_true rfl, Nat.le_of_ble_eq_true rfl⟩ ?_
  obtain ⟨hs3, hf⟩ := mm_sh_s hf
  refine mm_putFR (c := 3) (k := 0) cd_ok (some σ.1) rfl ⟨_, _, _, rfl, by decide, rfl, rfl, tw_541⟩ hs3 rfl dX3_init_12 ?_
  obtain ⟨s4, hs4, hf⟩ := mm_let_s hf
  rw [hs4]
  refine mm_aload_n (j := 0) dX3_init_15 rfl rfl ?_
  refine mm_bipush (v := 18) dX3_init_16 (by decide) ?_
  refine mm_newa (atype := .int) (t := 0) (N' := 18) rfl rfl tw_46 (by decide) (by decide) (by decide) (Nat.le_of_ble_eq_true rfl) (Nat.le_of_ble_eq_true rfl) dX3_init_18 ?_
  obtain ⟨s5, hs5, hf⟩ := mm_let_s hf
  rw [hs5]
  obtain ⟨hs6, hf⟩ := mm_sh_s hf
  refine mm_putFR (c := 3) (k := 1) cd_ok (some s4.1) rfl ⟨_, _, _, rfl, by decide, rfl, rfl, tw_544⟩ hs6 rfl dX3_init_20 ?_
  obtain ⟨s7, hs7, hf⟩ := mm_let_s hf
  rw [hs7]
  cases hf
  refine mm_widen (ck' := rmX3_init.cells) (sk' := rmX3_init.slots) (Nat.le_of_ble_eq_true rfl) (Nat.le_of_ble_eq_true rfl) ?_
  exact mm_vret rfl dX3_init_23 ⟨rfl, rfl⟩
theorem dX4_signAt_0 : decode cX4_signAt 0 = .ok (.iload_n 1, 1) := by decide +kernel
theorem dX4_signAt_1 : decode cX4_signAt 1 = .ok (.bipush 25, 2) := by decide +kernel
theorem dX4_signAt_3 : decode cX4_signAt 3 = .ok (.invokestatic 19, 3) := by decide +kernel
theorem dX4_signAt_6 : decode cX4_signAt 6 = .ok (.ifCond .ne 12, 3) := by decide +kernel
theorem dX4_signAt_9 : decode cX4_signAt 9 = .ok (.iload_n 2, 1) := by decide +kernel
theorem dX4_signAt_10 : decode cX4_signAt 10 = .ok (.bipush 40, 2) := by decide +kernel
theorem dX4_signAt_12 : decode cX4_signAt 12 = .ok (.invokestatic 19, 3) := by decide +kernel
theorem dX4_signAt_15 : decode cX4_signAt 15 = .ok (.ifCond .eq 5, 3) := by decide +kernel
theorem dX4_signAt_18 : decode cX4_signAt 18 = .ok (.iconst 0, 1) := by decide +kernel
theorem dX4_signAt_19 : decode cX4_signAt 19 = .ok (.ireturn, 1) := by decide +kernel
theorem dX4_signAt_20 : decode cX4_signAt 20 = .ok (.aload_n 0, 1) := by decide +kernel
theorem dX4_signAt_21 : decode cX4_signAt 21 = .ok (.getfield 9, 3) := by decide +kernel
theorem dX4_signAt_24 : decode cX4_signAt 24 = .ok (.iload_n 1, 1) := by decide +kernel
theorem dX4_signAt_25 : decode cX4_signAt 25 = .ok (.bipush 40, 2) := by decide +kernel
theorem dX4_signAt_27 : decode cX4_signAt 27 = .ok (.imul, 1) := by decide +kernel
theorem dX4_signAt_28 : decode cX4_signAt 28 = .ok (.iload_n 2, 1) := by decide +kernel
theorem dX4_signAt_29 : decode cX4_signAt 29 = .ok (.iadd, 1) := by decide +kernel
theorem dX4_signAt_30 : decode cX4_signAt 30 = .ok (.iaload, 1) := by decide +kernel
theorem dX4_signAt_31 : decode cX4_signAt 31 = .ok (.ireturn, 1) := by decide +kernel
theorem nmX4_signAt : mm_nm yX4_signAt 2 := ⟨by decide, by decide, by decide +kernel⟩
theorem cdX4_signAt : mm_cd cd_Y yX4_signAt cX4_signAt 3 (some .int) := ⟨tw_649, tw_4⟩
abbrev rmX4_signAt : Room := { frames := 1, cells := 0, slots := 0, locals := 21 }
def fX4_signAt (p0 : Nat) (p1 : Int32) (p2 : Int32) (σ : mm_M) : Option (Int32 × mm_M) :=
  (if (fX8_isOutside p1 25) = 0 then (if (fX8_isOutside p2 40) = 0 then mm_sh σ p0 (.inl 4) (mm_on (mm_R σ p0 0) fun q4 => mm_ar σ q4 0 fun n5 => mm_ib ((p1 * 40) + p2) n5 (some (mm_I σ q4 ((p1 * 40) + p2).toNatClampNeg, σ))) else some (0, σ)) else some (0, σ))
set_option maxHeartbeats 4000000 in
set_option maxRecDepth 100000 in
theorem kX4_signAt {G : mm_G} {A : Nat → Prop} (p0 : Nat) (p1 : Int32) (p2 : Int32) {σ : mm_M} {R : (Int32 × mm_M)} (hf : fX4_signAt p0 p1 p2 σ = some R) : mm_C cd_Y G yX4_signAt cX4_signAt 3 (some .int) rmX4_signAt A [.ref p0, .int p1, .int p2] σ (mm_Pi R.1 R.2) := by
  refine mm_C.of (by decide) (Nat.le_of_ble_eq_true rfl) ?_
  unfold fX4_signAt at hf
  have e0 : lv_args 0 [.ref p0, .int p1, .int p2] = [(0, .ref p0), (1, .int p1), (2, .int p2)] := rfl
  rw [e0]
  generalize hini : ((yX4_signAt.name == "<init>"), none) = ini
  clear e0
  clear hini
  refine mm_iload_n (j := 1) dX4_signAt_0 rfl rfl ?_
  refine mm_bipush (v := 25) dX4_signAt_1 (by decide) ?_
  refine mm_callSi cd_ok (kX8_isOutside p1 25 _ rfl) (Or.inr ⟨_, tn_40⟩) cdX8_isOutside tw_221 nmX8_isOutside rfl rfl (by simp only [List.map_cons, List.map_nil, mm_rf_cat]; exact Nat.le_of_ble_eq_true rfl) dX4_signAt_3 ⟨Nat.le_of_ble_eq_true rfl, Nat.le_of_ble_eq_true rfl⟩ ⟨Nat.le_of_ble_eq_true rfl, Nat.le_of_ble_eq_true rfl⟩ ?_
  refine mm_if_ne (tgt := 18) dX4_signAt_6 (by decide) (fun c1 => ?_) (fun c1 => ?_)
  · rw [if_neg c1] at hf
    refine mm_iconst (v := 0) dX4_signAt_18 (by decide) ?_
    cases hf
    refine mm_widen (ck' := rmX4_signAt.cells) (sk' := rmX4_signAt.slots) (Nat.le_of_ble_eq_true rfl) (Nat.le_of_ble_eq_true rfl) ?_
    exact mm_iret rfl rfl dX4_signAt_19 ⟨rfl, rfl⟩
  · rw [if_pos c1] at hf
    refine mm_iload_n (j := 2) dX4_signAt_9 rfl rfl ?_
    refine mm_bipush (v := 40) dX4_signAt_10 (by decide) ?_
    refine mm_callSi cd_ok (kX8_isOutside p2 40 _ rfl) (Or.inr ⟨_, tn_40⟩) cdX8_isOutside tw_221 nmX8_isOutside rfl rfl (by simp only [List.map_cons, List.map_nil, mm_rf_cat]; exact Nat.le_of_ble_eq_true rfl) dX4_signAt_12 ⟨Nat.le_of_ble_eq_true rfl, Nat.le_of_ble_eq_true rfl⟩ ⟨Nat.le_of_ble_eq_true rfl, Nat.le_of_ble_eq_true rfl⟩ ?_
    refine mm_if_eq (tgt := 20) dX4_signAt_15 (by decide) (fun c2 => ?_) (fun c2 => ?_)
    · rw [if_pos c2] at hf
      refine mm_aload_n (j := 0) dX4_signAt_20 rfl rfl ?_
      obtain ⟨hs3, hf⟩ := mm_sh_s hf
      refine mm_get (c := 4) (k := 0) (v := va_rf (mm_R σ p0 0)) cd_ok ⟨_, _, _, rfl, by decide, Or.inl tw_59⟩ hs3 rfl dX4_signAt_21 ?_
      refine mm_iload_n (j := 1) dX4_signAt_24 rfl rfl ?_
      refine mm_bipush (v := 40) dX4_signAt_25 (by decide) ?_
      refine mm_imul dX4_signAt_27 ?_
      refine mm_iload_n (j := 2) dX4_signAt_28 rfl rfl ?_
      refine mm_iadd dX4_signAt_29 ?_
      obtain ⟨q4, hq4, hf⟩ := mm_on_s hf
      rw [hq4, mm_rf_some]
      obtain ⟨n5, hn5, hf⟩ := mm_ar_s hf
      obtain ⟨hi6, hf⟩ := mm_ib_s hf
      refine mm_iald hn5 rfl hi6 dX4_signAt_30 ?_
      cases hf
      refine mm_widen (ck' := rmX4_signAt.cells) (sk' := rmX4_signAt.slots) (Nat.le_of_ble_eq_true rfl) (Nat.le_of_ble_eq_true rfl) ?_
      exact mm_iret rfl rfl dX4_signAt_31 ⟨rfl, rfl⟩
    · rw [if_neg c2] at hf
      refine mm_iconst (v := 0) dX4_signAt_18 (by decide) ?_
      cases hf
      refine mm_widen (ck' := rmX4_signAt.cells) (sk' := rmX4_signAt.slots) (Nat.le_of_ble_eq_true rfl) (Nat.le_of_ble_eq_true rfl) ?_
      exact mm_iret rfl rfl dX4_signAt_19 ⟨rfl, rfl⟩
theorem dX4_eraseRows_0 : decode cX4_eraseRows 0 = .ok (.iload_n 1, 1) := by decide +kernel
theorem dX4_eraseRows_1 : decode cX4_eraseRows 1 = .ok (.iconst 0, 1) := by decide +kernel
theorem dX4_eraseRows_2 : decode cX4_eraseRows 2 = .ok (.invokestatic 23, 3) := by decide +kernel
theorem dX4_eraseRows_5 : decode cX4_eraseRows 5 = .ok (.istore_n 2, 1) := by decide +kernel
theorem dX4_eraseRows_6 : decode cX4_eraseRows 6 = .ok (.iload_n 2, 1) := by decide +kernel
theorem dX4_eraseRows_7 : decode cX4_eraseRows 7 = .ok (.bipush 25, 2) := by decide +kernel
theorem dX4_eraseRows_9 : decode cX4_eraseRows 9 = .ok (.if_icmp .ge 33, 3) := by decide +kernel
theorem dX4_eraseRows_12 : decode cX4_eraseRows 12 = .ok (.aload_n 0, 1) := by decide +kernel
theorem dX4_eraseRows_13 : decode cX4_eraseRows 13 = .ok (.getfield 15, 3) := by decide +kernel
theorem dX4_eraseRows_16 : decode cX4_eraseRows 16 = .ok (.iload_n 2, 1) := by decide +kernel
theorem dX4_eraseRows_17 : decode cX4_eraseRows 17 = .ok (.baload, 1) := by decide +kernel
theorem dX4_eraseRows_18 : decode cX4_eraseRows 18 = .ok (.ifCond .eq 18, 3) := by decide +kernel
theorem dX4_eraseRows_21 : decode cX4_eraseRows 21 = .ok (.aload_n 0, 1) := by decide +kernel
theorem dX4_eraseRows_22 : decode cX4_eraseRows 22 = .ok (.iload_n 2, 1) := by decide +kernel
theorem dX4_eraseRows_23 : decode cX4_eraseRows 23 = .ok (.bipush 40, 2) := by decide +kernel
theorem dX4_eraseRows_25 : decode cX4_eraseRows 25 = .ok (.iconst 0, 1) := by decide +kernel
theorem dX4_eraseRows_26 : decode cX4_eraseRows 26 = .ok (.invokevirtual 29, 3) := by decide +kernel
theorem dX4_eraseRows_29 : decode cX4_eraseRows 29 = .ok (.aload_n 0, 1) := by decide +kernel
theorem dX4_eraseRows_30 : decode cX4_eraseRows 30 = .ok (.getfield 15, 3) := by decide +kernel
theorem dX4_eraseRows_33 : decode cX4_eraseRows 33 = .ok (.iload_n 2, 1) := by decide +kernel
theorem dX4_eraseRows_34 : decode cX4_eraseRows 34 = .ok (.iconst 0, 1) := by decide +kernel
theorem dX4_eraseRows_35 : decode cX4_eraseRows 35 = .ok (.bastore, 1) := by decide +kernel
theorem dX4_eraseRows_36 : decode cX4_eraseRows 36 = .ok (.iinc 2 1, 3) := by decide +kernel
theorem dX4_eraseRows_39 : decode cX4_eraseRows 39 = .ok (.goto (-33), 3) := by decide +kernel
theorem dX4_eraseRows_42 : decode cX4_eraseRows 42 = .ok (.return_, 1) := by decide +kernel
theorem nmX4_eraseRows : mm_nm yX4_eraseRows 1 := ⟨by decide, by decide, by decide +kernel⟩
theorem cdX4_eraseRows : mm_cd cd_Y yX4_eraseRows cX4_eraseRows 3 none := ⟨tw_592, tw_4⟩
abbrev rmX4_eraseRows : Room := { frames := 1, cells := 0, slots := 0, locals := 24 }
def fX4_eraseRows_6  : Nat → Nat → Int32 → Int32 → mm_M → Option mm_M
  | 0 => fun _ _ _ _ => none
  | n + 1 => fun a0 x1 x2 σ =>
  (if 25 ≤ x2 then some (σ) else mm_sh σ a0 (.inl 4) (mm_on (mm_R σ a0 1) fun q3 => mm_ar σ q3 1 fun n4 => mm_ib x2 n4 ((if (mm_I σ q3 x2.toNatClampNeg) = 0 then (fX4_eraseRows_6  n a0 x1 (x2 + 1) σ) else mm_on (fX4_setSigns a0 x2 40 0 σ) fun q7 => mm_sh q7 a0 (.inl 4) (mm_on (mm_R q7 a0 1) fun q9 => mm_ar q7 q9 1 fun n10 => mm_ib x2 n10 (mm_let (mm_wI q7 q9 (x2.toNatClampNeg) (vp_nar .boolean 0)) fun s12 => (fX4_eraseRows_6  n a0 x1 (x2 + 1) s12)))))))
def fX4_eraseRows (p0 : Nat) (p1 : Int32) (σ : mm_M) : Option mm_M :=
  (fX4_eraseRows_6  mm_fuel p0 p1 (if p1 < 0 then 0 else p1) σ)
set_option maxHeartbeats 4000000 in
set_option maxRecDepth 100000 in
theorem kX4_eraseRows_6 {G : mm_G} {A : Nat → Prop} {ini : Bool × Option (List (Nat × Nat × Nat × Nat))}  {R : mm_M}  : ∀ (a0 : Nat) (x1 : Int32) (x2 : Int32) (σ : mm_M), fX4_eraseRows_6  mm_fuel a0 x1 x2 σ = some R → mm_J cd_Y G RX4 cX4_eraseRows 3 none ini rmX4_eraseRows A (mm_QF cd_Y G A (mm_Pv R) rmX4_eraseRows.cells rmX4_eraseRows.slots) 6 [(0, .ref a0), (1, .int x1), (2, .int x2)] [] σ 0 0 := by
  generalize mm_fuel = n
  induction n with
  | zero => intro a0 x1 x2 σ hf; cases hf
  | succ n ih =>
    intro a0 x1 x2 σ hf
    unfold fX4_eraseRows_6 at hf
    refine mm_iload_n (j := 2) dX4_eraseRows_6 rfl rfl ?_
    refine mm_bipush (v := 25) dX4_eraseRows_7 (by decide) ?_
    refine mm_icmp_ge (tgt := 42) dX4_eraseRows_9 (by decide) (fun c1 => ?_) (fun c1 => ?_)
    · rw [if_pos c1] at hf
      cases hf
      refine mm_widen (ck' := rmX4_eraseRows.cells) (sk' := rmX4_eraseRows.slots) (Nat.le_of_ble_eq_true rfl) (Nat.le_of_ble_eq_true rfl) ?_
      exact mm_vret rfl dX4_eraseRows_42 ⟨rfl, rfl⟩
    · rw [if_neg c1] at hf
      refine mm_aload_n (j := 0) dX4_eraseRows_12 rfl rfl ?_
      obtain ⟨hs2, hf⟩ := mm_sh_s hf
      refine mm_get (c := 4) (k := 1) (v := va_rf (mm_R σ a0 1)) cd_ok ⟨_, _, _, rfl, by decide, Or.inl tw_60⟩ hs2 rfl dX4_eraseRows_13 ?_
      refine mm_iload_n (j := 2) dX4_eraseRows_16 rfl rfl ?_
      obtain ⟨q3, hq3, hf⟩ := mm_on_s hf
      rw [hq3, mm_rf_some]
      obtain ⟨n4, hn4, hf⟩ := mm_ar_s hf
      obtain ⟨hi5, hf⟩ := mm_ib_s hf
      refine mm_zald hn4 rfl hi5 dX4_eraseRows_17 ?_
      refine mm_if_eq (tgt := 36) dX4_eraseRows_18 (by decide) (fun c6 => ?_) (fun c6 => ?_)
      · rw [if_pos c6] at hf
        refine mm_iinc (j := 2) (L' := [(2, .int (x2 + 1)), (0, .ref a0), (1, .int x1)]) dX4_eraseRows_36 rfl rfl (by decide) rfl ?_
        refine mm_goto (tgt := 6) dX4_eraseRows_39 (by decide) ?_
        refine mm_sub [1, 2, 0] rfl ?_
        exact ih a0 x1 (x2 + 1) σ hf
      · rw [if_neg c6] at hf
        refine mm_aload_n (j := 0) dX4_eraseRows_21 rfl rfl ?_
        refine mm_iload_n (j := 2) dX4_eraseRows_22 rfl rfl ?_
        refine mm_bipush (v := 40) dX4_eraseRows_23 (by decide) ?_
        refine mm_iconst (v := 0) dX4_eraseRows_25 (by decide) ?_
        obtain ⟨q7, hq7, hf⟩ := mm_on_s hf
        refine mm_callVv cd_ok (kX4_setSigns a0 x2 40 0 hq7) hs2 rfl (Or.inl tw_594) cdX4_setSigns tw_596 ts_22 nmX4_setSigns rfl rfl (by simp only [List.map_cons, List.map_nil, mm_rf_cat]; exact Nat.le_of_ble_eq_true rfl) dX4_eraseRows_26 ⟨Nat.le_of_ble_eq_true rfl, Nat.le_of_ble_eq_true rfl⟩ ⟨Nat.le_of_ble_eq_true rfl, Nat.le_of_ble_eq_true rfl⟩ ?_
        refine mm_aload_n (j := 0) dX4_eraseRows_29 rfl rfl ?_
        obtain ⟨hs8, hf⟩ := mm_sh_s hf
        refine mm_get (c := 4) (k := 1) (v := va_rf (mm_R q7 a0 1)) cd_ok ⟨_, _, _, rfl, by decide, Or.inl tw_60⟩ hs8 rfl dX4_eraseRows_30 ?_
        refine mm_iload_n (j := 2) dX4_eraseRows_33 rfl rfl ?_
        refine mm_iconst (v := 0) dX4_eraseRows_34 (by decide) ?_
        obtain ⟨q9, hq9, hf⟩ := mm_on_s hf
        rw [hq9, mm_rf_some]
        obtain ⟨n10, hn10, hf⟩ := mm_ar_s hf
        obtain ⟨hi11, hf⟩ := mm_ib_s hf
        refine mm_zast hn10 rfl hi11 dX4_eraseRows_35 ?_
        obtain ⟨s12, hs12, hf⟩ := mm_let_s hf
        rw [hs12]
        refine mm_iinc (j := 2) (L' := [(2, .int (x2 + 1)), (0, .ref a0), (1, .int x1)]) dX4_eraseRows_36 rfl rfl (by decide) rfl ?_
        refine mm_goto (tgt := 6) dX4_eraseRows_39 (by decide) ?_
        refine mm_sub [1, 2, 0] rfl ?_
        exact ih a0 x1 (x2 + 1) s12 hf
set_option maxHeartbeats 4000000 in
set_option maxRecDepth 100000 in
theorem kX4_eraseRows {G : mm_G} {A : Nat → Prop} (p0 : Nat) (p1 : Int32) {σ : mm_M} {R : mm_M} (hf : fX4_eraseRows p0 p1 σ = some R) : mm_C cd_Y G yX4_eraseRows cX4_eraseRows 3 none rmX4_eraseRows A [.ref p0, .int p1] σ (mm_Pv R) := by
  refine mm_C.of (by decide) (Nat.le_of_ble_eq_true rfl) ?_
  unfold fX4_eraseRows at hf
  have e0 : lv_args 0 [.ref p0, .int p1] = [(0, .ref p0), (1, .int p1)] := rfl
  rw [e0]
  generalize hini : ((yX4_eraseRows.name == "<init>"), none) = ini
  clear e0
  clear hini
  refine mm_iload_n (j := 1) dX4_eraseRows_0 rfl rfl ?_
  refine mm_iconst (v := 0) dX4_eraseRows_1 (by decide) ?_
  refine mm_mmax tw_593 tw_358 tw_14 tw_359 (by decide) (by simp only [List.map_cons, List.map_nil, mm_rf_cat]; exact Nat.le_of_ble_eq_true rfl) (by decide) (by decide) dX4_eraseRows_2 ?_
  refine mm_istore_n (L' := [(2, .int (if p1 < 0 then 0 else p1)), (0, .ref p0), (1, .int p1)]) dX4_eraseRows_5 rfl (by decide) rfl ?_
  refine mm_sub [1, 2, 0] rfl ?_
  exact kX4_eraseRows_6  p0 p1 (if p1 < 0 then 0 else p1) σ hf
theorem dX4_addTo_0 : decode cX4_addTo 0 = .ok (.iconst 1, 1) := by decide +kernel
theorem dX4_addTo_1 : decode cX4_addTo 1 = .ok (.istore_n 2, 1) := by decide +kernel
theorem dX4_addTo_2 : decode cX4_addTo 2 = .ok (.iload_n 2, 1) := by decide +kernel
theorem dX4_addTo_3 : decode cX4_addTo 3 = .ok (.bipush 25, 2) := by decide +kernel
theorem dX4_addTo_5 : decode cX4_addTo 5 = .ok (.if_icmp .ge 32, 3) := by decide +kernel
theorem dX4_addTo_8 : decode cX4_addTo 8 = .ok (.aload_n 0, 1) := by decide +kernel
theorem dX4_addTo_9 : decode cX4_addTo 9 = .ok (.getfield 15, 3) := by decide +kernel
theorem dX4_addTo_12 : decode cX4_addTo 12 = .ok (.iload_n 2, 1) := by decide +kernel
theorem dX4_addTo_13 : decode cX4_addTo 13 = .ok (.baload, 1) := by decide +kernel
theorem dX4_addTo_14 : decode cX4_addTo 14 = .ok (.ifCond .eq 17, 3) := by decide +kernel
theorem dX4_addTo_17 : decode cX4_addTo 17 = .ok (.aload_n 1, 1) := by decide +kernel
theorem dX4_addTo_18 : decode cX4_addTo 18 = .ok (.aload_n 0, 1) := by decide +kernel
theorem dX4_addTo_19 : decode cX4_addTo 19 = .ok (.getfield 9, 3) := by decide +kernel
theorem dX4_addTo_22 : decode cX4_addTo 22 = .ok (.iload_n 2, 1) := by decide +kernel
theorem dX4_addTo_23 : decode cX4_addTo 23 = .ok (.bipush 40, 2) := by decide +kernel
theorem dX4_addTo_25 : decode cX4_addTo 25 = .ok (.imul, 1) := by decide +kernel
theorem dX4_addTo_26 : decode cX4_addTo 26 = .ok (.bipush 40, 2) := by decide +kernel
theorem dX4_addTo_28 : decode cX4_addTo 28 = .ok (.invokevirtual 43, 3) := by decide +kernel
theorem dX4_addTo_31 : decode cX4_addTo 31 = .ok (.iinc 2 1, 3) := by decide +kernel
theorem dX4_addTo_34 : decode cX4_addTo 34 = .ok (.goto (-32), 3) := by decide +kernel
theorem dX4_addTo_37 : decode cX4_addTo 37 = .ok (.return_, 1) := by decide +kernel
theorem nmX4_addTo : mm_nm yX4_addTo 1 := ⟨by decide, by decide, by decide +kernel⟩
theorem cdX4_addTo : mm_cd cd_Y yX4_addTo cX4_addTo 3 none := ⟨tw_715, tw_4⟩
abbrev rmX4_addTo : Room := { frames := 2, cells := 0, slots := 0, locals := 47 }
def fX4_addTo_2  : Nat → Nat → Nat → Int32 → mm_M → Option mm_M
  | 0 => fun _ _ _ _ => none
  | n + 1 => fun a0 a1 x2 σ =>
  (if 25 ≤ x2 then some (σ) else mm_sh σ a0 (.inl 4) (mm_on (mm_R σ a0 1) fun q3 => mm_ar σ q3 1 fun n4 => mm_ib x2 n4 ((if (mm_I σ q3 x2.toNatClampNeg) = 0 then (fX4_addTo_2  n a0 a1 (x2 + 1) σ) else mm_on (mm_R σ a0 0) fun q7 => mm_sh σ a1 (.inl 2) (mm_on (fX2_addRow a1 q7 (x2 * 40) 40 σ) fun q9 => (fX4_addTo_2  n a0 a1 (x2 + 1) q9))))))
def fX4_addTo (p0 : Nat) (p1 : Nat) (σ : mm_M) : Option mm_M :=
  (fX4_addTo_2  mm_fuel p0 p1 1 σ)
set_option maxHeartbeats 4000000 in
set_option maxRecDepth 100000 in
theorem kX4_addTo_2 {G : mm_G} {A : Nat → Prop} {ini : Bool × Option (List (Nat × Nat × Nat × Nat))}  {R : mm_M}  : ∀ (a0 : Nat) (a1 : Nat) (x2 : Int32) (σ : mm_M), fX4_addTo_2  mm_fuel a0 a1 x2 σ = some R → mm_J cd_Y G RX4 cX4_addTo 3 none ini rmX4_addTo A (mm_QF cd_Y G A (mm_Pv R) rmX4_addTo.cells rmX4_addTo.slots) 2 [(0, .ref a0), (1, .ref a1), (2, .int x2)] [] σ 0 0 := by
  generalize mm_fuel = n
  induction n with
  | zero => intro a0 a1 x2 σ hf; cases hf
  | succ n ih =>
    intro a0 a1 x2 σ hf
    unfold fX4_addTo_2 at hf
    refine mm_iload_n (j := 2) dX4_addTo_2 rfl rfl ?_
    refine mm_bipush (v := 25) dX4_addTo_3 (by decide) ?_
    refine mm_icmp_ge (tgt := 37) dX4_addTo_5 (by decide) (fun c1 => ?_) (fun c1 => ?_)
    · rw [if_pos c1] at hf
      cases hf
      refine mm_widen (ck' := rmX4_addTo.cells) (sk' := rmX4_addTo.slots) (Nat.le_of_ble_eq_true rfl) (Nat.le_of_ble_eq_true rfl) ?_
      exact mm_vret rfl dX4_addTo_37 ⟨rfl, rfl⟩
    · rw [if_neg c1] at hf
      refine mm_aload_n (j := 0) dX4_addTo_8 rfl rfl ?_
      obtain ⟨hs2, hf⟩ := mm_sh_s hf
      refine mm_get (c := 4) (k := 1) (v := va_rf (mm_R σ a0 1)) cd_ok ⟨_, _, _, rfl, by decide, Or.inl tw_60⟩ hs2 rfl dX4_addTo_9 ?_
      refine mm_iload_n (j := 2) dX4_addTo_12 rfl rfl ?_
      obtain ⟨q3, hq3, hf⟩ := mm_on_s hf
      rw [hq3, mm_rf_some]
      obtain ⟨n4, hn4, hf⟩ := mm_ar_s hf
      obtain ⟨hi5, hf⟩ := mm_ib_s hf
      refine mm_zald hn4 rfl hi5 dX4_addTo_13 ?_
      refine mm_if_eq (tgt := 31) dX4_addTo_14 (by decide) (fun c6 => ?_) (fun c6 => ?_)
      · rw [if_pos c6] at hf
        refine mm_iinc (j := 2) (L' := [(2, .int (x2 + 1)), (0, .ref a0), (1, .ref a1)]) dX4_addTo_31 rfl rfl (by decide) rfl ?_
        refine mm_goto (tgt := 2) dX4_addTo_34 (by decide) ?_
        refine mm_sub [1, 2, 0] rfl ?_
        exact ih a0 a1 (x2 + 1) σ hf
      · rw [if_neg c6] at hf
        refine mm_aload_n (j := 1) dX4_addTo_17 rfl rfl ?_
        refine mm_aload_n (j := 0) dX4_addTo_18 rfl rfl ?_
        refine mm_get (c := 4) (k := 0) (v := va_rf (mm_R σ a0 0)) cd_ok ⟨_, _, _, rfl, by decide, Or.inl tw_59⟩ hs2 rfl dX4_addTo_19 ?_
        refine mm_iload_n (j := 2) dX4_addTo_22 rfl rfl ?_
        refine mm_bipush (v := 40) dX4_addTo_23 (by decide) ?_
        refine mm_imul dX4_addTo_25 ?_
        refine mm_bipush (v := 40) dX4_addTo_26 (by decide) ?_
        obtain ⟨q7, hq7, hf⟩ := mm_on_s hf
        rw [hq7, mm_rf_some]
        obtain ⟨hs8, hf⟩ := mm_sh_s hf
        obtain ⟨q9, hq9, hf⟩ := mm_on_s hf
        refine mm_callVv cd_ok (kX2_addRow a1 q7 (x2 * 40) 40 hq9) hs8 rfl (Or.inl tw_716) cdX2_addRow tw_717 tw_718 nmX2_addRow rfl rfl (by simp only [List.map_cons, List.map_nil, mm_rf_cat]; exact Nat.le_of_ble_eq_true rfl) dX4_addTo_28 ⟨Nat.le_of_ble_eq_true rfl, Nat.le_of_ble_eq_true rfl⟩ ⟨Nat.le_of_ble_eq_true rfl, Nat.le_of_ble_eq_true rfl⟩ ?_
        refine mm_iinc (j := 2) (L' := [(2, .int (x2 + 1)), (0, .ref a0), (1, .ref a1)]) dX4_addTo_31 rfl rfl (by decide) rfl ?_
        refine mm_goto (tgt := 2) dX4_addTo_34 (by decide) ?_
        refine mm_sub [1, 2, 0] rfl ?_
        exact ih a0 a1 (x2 + 1) q9 hf
set_option maxHeartbeats 4000000 in
set_option maxRecDepth 100000 in
theorem kX4_addTo {G : mm_G} {A : Nat → Prop} (p0 : Nat) (p1 : Nat) {σ : mm_M} {R : mm_M} (hf : fX4_addTo p0 p1 σ = some R) : mm_C cd_Y G yX4_addTo cX4_addTo 3 none rmX4_addTo A [.ref p0, .ref p1] σ (mm_Pv R) := by
  refine mm_C.of (by decide) (Nat.le_of_ble_eq_true rfl) ?_
  unfold fX4_addTo at hf
  have e0 : lv_args 0 [.ref p0, .ref p1] = [(0, .ref p0), (1, .ref p1)] := rfl
  rw [e0]
  generalize hini : ((yX4_addTo.name == "<init>"), none) = ini
  clear e0
  clear hini
  refine mm_iconst (v := 1) dX4_addTo_0 (by decide) ?_
  refine mm_istore_n (L' := [(2, .int 1), (0, .ref p0), (1, .ref p1)]) dX4_addTo_1 rfl (by decide) rfl ?_
  refine mm_sub [1, 2, 0] rfl ?_
  exact kX4_addTo_2  p0 p1 1 σ hf
theorem dX5_letterAt_0 : decode cX5_letterAt 0 = .ok (.iload_n 1, 1) := by decide +kernel
theorem dX5_letterAt_1 : decode cX5_letterAt 1 = .ok (.iload_n 2, 1) := by decide +kernel
theorem dX5_letterAt_2 : decode cX5_letterAt 2 = .ok (.invokestatic 18, 3) := by decide +kernel
theorem dX5_letterAt_5 : decode cX5_letterAt 5 = .ok (.ifCond .eq 16, 3) := by decide +kernel
theorem dX5_letterAt_8 : decode cX5_letterAt 8 = .ok (.aload_n 0, 1) := by decide +kernel
theorem dX5_letterAt_9 : decode cX5_letterAt 9 = .ok (.getfield 9, 3) := by decide +kernel
theorem dX5_letterAt_12 : decode cX5_letterAt 12 = .ok (.iload_n 1, 1) := by decide +kernel
theorem dX5_letterAt_13 : decode cX5_letterAt 13 = .ok (.iload_n 2, 1) := by decide +kernel
theorem dX5_letterAt_14 : decode cX5_letterAt 14 = .ok (.invokestatic 22, 3) := by decide +kernel
theorem dX5_letterAt_17 : decode cX5_letterAt 17 = .ok (.iaload, 1) := by decide +kernel
theorem dX5_letterAt_18 : decode cX5_letterAt 18 = .ok (.goto 4, 3) := by decide +kernel
theorem dX5_letterAt_21 : decode cX5_letterAt 21 = .ok (.iconst 0, 1) := by decide +kernel
theorem dX5_letterAt_22 : decode cX5_letterAt 22 = .ok (.ireturn, 1) := by decide +kernel
theorem nmX5_letterAt : mm_nm yX5_letterAt 2 := ⟨by decide, by decide, by decide +kernel⟩
theorem cdX5_letterAt : mm_cd cd_Y yX5_letterAt cX5_letterAt 3 (some .int) := ⟨tw_432, tw_7⟩
abbrev rmX5_letterAt : Room := { frames := 1, cells := 0, slots := 0, locals := 21 }
def fX5_letterAt (p0 : Nat) (p1 : Int32) (p2 : Int32) (σ : mm_M) : Option (Int32 × mm_M) :=
  (if (fX5_isCell p1 p2) = 0 then some (0, σ) else mm_sh σ p0 (.inl 5) (mm_on (mm_R σ p0 0) fun q3 => mm_ar σ q3 0 fun n4 => mm_ib (fX5_indexOf p1 p2) n4 (some (mm_I σ q3 (fX5_indexOf p1 p2).toNatClampNeg, σ))))
set_option maxHeartbeats 4000000 in
set_option maxRecDepth 100000 in
theorem kX5_letterAt {G : mm_G} {A : Nat → Prop} (p0 : Nat) (p1 : Int32) (p2 : Int32) {σ : mm_M} {R : (Int32 × mm_M)} (hf : fX5_letterAt p0 p1 p2 σ = some R) : mm_C cd_Y G yX5_letterAt cX5_letterAt 3 (some .int) rmX5_letterAt A [.ref p0, .int p1, .int p2] σ (mm_Pi R.1 R.2) := by
  refine mm_C.of (by decide) (Nat.le_of_ble_eq_true rfl) ?_
  unfold fX5_letterAt at hf
  have e0 : lv_args 0 [.ref p0, .int p1, .int p2] = [(0, .ref p0), (1, .int p1), (2, .int p2)] := rfl
  rw [e0]
  generalize hini : ((yX5_letterAt.name == "<init>"), none) = ini
  clear e0
  clear hini
  refine mm_iload_n (j := 1) dX5_letterAt_0 rfl rfl ?_
  refine mm_iload_n (j := 2) dX5_letterAt_1 rfl rfl ?_
  refine mm_callSi cd_ok (kX5_isCell p1 p2 _ rfl) (Or.inl tw_333) cdX5_isCell tw_334 nmX5_isCell rfl rfl (by simp only [List.map_cons, List.map_nil, mm_rf_cat]; exact Nat.le_of_ble_eq_true rfl) dX5_letterAt_2 ⟨Nat.le_of_ble_eq_true rfl, Nat.le_of_ble_eq_true rfl⟩ ⟨Nat.le_of_ble_eq_true rfl, Nat.le_of_ble_eq_true rfl⟩ ?_
  refine mm_if_eq (tgt := 21) dX5_letterAt_5 (by decide) (fun c1 => ?_) (fun c1 => ?_)
  · rw [if_pos c1] at hf
    refine mm_iconst (v := 0) dX5_letterAt_21 (by decide) ?_
    cases hf
    refine mm_widen (ck' := rmX5_letterAt.cells) (sk' := rmX5_letterAt.slots) (Nat.le_of_ble_eq_true rfl) (Nat.le_of_ble_eq_true rfl) ?_
    exact mm_iret rfl rfl dX5_letterAt_22 ⟨rfl, rfl⟩
  · rw [if_neg c1] at hf
    refine mm_aload_n (j := 0) dX5_letterAt_8 rfl rfl ?_
    obtain ⟨hs2, hf⟩ := mm_sh_s hf
    refine mm_get (c := 5) (k := 0) (v := va_rf (mm_R σ p0 0)) cd_ok ⟨_, _, _, rfl, by decide, Or.inl tw_104⟩ hs2 rfl dX5_letterAt_9 ?_
    refine mm_iload_n (j := 1) dX5_letterAt_12 rfl rfl ?_
    refine mm_iload_n (j := 2) dX5_letterAt_13 rfl rfl ?_
    refine mm_callSi cd_ok (kX5_indexOf p1 p2 _ rfl) (Or.inl tw_336) cdX5_indexOf tw_337 nmX5_indexOf rfl rfl (by simp only [List.map_cons, List.map_nil, mm_rf_cat]; exact Nat.le_of_ble_eq_true rfl) dX5_letterAt_14 ⟨Nat.le_of_ble_eq_true rfl, Nat.le_of_ble_eq_true rfl⟩ ⟨Nat.le_of_ble_eq_true rfl, Nat.le_of_ble_eq_true rfl⟩ ?_
    obtain ⟨q3, hq3, hf⟩ := mm_on_s hf
    rw [hq3, mm_rf_some]
    obtain ⟨n4, hn4, hf⟩ := mm_ar_s hf
    obtain ⟨hi5, hf⟩ := mm_ib_s hf
    refine mm_iald hn4 rfl hi5 dX5_letterAt_17 ?_
    refine mm_goto (tgt := 22) dX5_letterAt_18 (by decide) ?_
    cases hf
    refine mm_widen (ck' := rmX5_letterAt.cells) (sk' := rmX5_letterAt.slots) (Nat.le_of_ble_eq_true rfl) (Nat.le_of_ble_eq_true rfl) ?_
    exact mm_iret rfl rfl dX5_letterAt_22 ⟨rfl, rfl⟩
theorem dX5_lookAt_0 : decode cX5_lookAt 0 = .ok (.iload_n 1, 1) := by decide +kernel
theorem dX5_lookAt_1 : decode cX5_lookAt 1 = .ok (.iload_n 2, 1) := by decide +kernel
theorem dX5_lookAt_2 : decode cX5_lookAt 2 = .ok (.invokestatic 18, 3) := by decide +kernel
theorem dX5_lookAt_5 : decode cX5_lookAt 5 = .ok (.ifCond .eq 16, 3) := by decide +kernel
theorem dX5_lookAt_8 : decode cX5_lookAt 8 = .ok (.aload_n 0, 1) := by decide +kernel
theorem dX5_lookAt_9 : decode cX5_lookAt 9 = .ok (.getfield 15, 3) := by decide +kernel
theorem dX5_lookAt_12 : decode cX5_lookAt 12 = .ok (.iload_n 1, 1) := by decide +kernel
theorem dX5_lookAt_13 : decode cX5_lookAt 13 = .ok (.iload_n 2, 1) := by decide +kernel
theorem dX5_lookAt_14 : decode cX5_lookAt 14 = .ok (.invokestatic 22, 3) := by decide +kernel
theorem dX5_lookAt_17 : decode cX5_lookAt 17 = .ok (.iaload, 1) := by decide +kernel
theorem dX5_lookAt_18 : decode cX5_lookAt 18 = .ok (.goto 4, 3) := by decide +kernel
theorem dX5_lookAt_21 : decode cX5_lookAt 21 = .ok (.iconst 0, 1) := by decide +kernel
theorem dX5_lookAt_22 : decode cX5_lookAt 22 = .ok (.ireturn, 1) := by decide +kernel
theorem nmX5_lookAt : mm_nm yX5_lookAt 2 := ⟨by decide, by decide, by decide +kernel⟩
theorem cdX5_lookAt : mm_cd cd_Y yX5_lookAt cX5_lookAt 3 (some .int) := ⟨tw_436, tw_7⟩
abbrev rmX5_lookAt : Room := { frames := 1, cells := 0, slots := 0, locals := 21 }
def fX5_lookAt (p0 : Nat) (p1 : Int32) (p2 : Int32) (σ : mm_M) : Option (Int32 × mm_M) :=
  (if (fX5_isCell p1 p2) = 0 then some (0, σ) else mm_sh σ p0 (.inl 5) (mm_on (mm_R σ p0 1) fun q3 => mm_ar σ q3 0 fun n4 => mm_ib (fX5_indexOf p1 p2) n4 (some (mm_I σ q3 (fX5_indexOf p1 p2).toNatClampNeg, σ))))
set_option maxHeartbeats 4000000 in
set_option maxRecDepth 100000 in
theorem kX5_lookAt {G : mm_G} {A : Nat → Prop} (p0 : Nat) (p1 : Int32) (p2 : Int32) {σ : mm_M} {R : (Int32 × mm_M)} (hf : fX5_lookAt p0 p1 p2 σ = some R) : mm_C cd_Y G yX5_lookAt cX5_lookAt 3 (some .int) rmX5_lookAt A [.ref p0, .int p1, .int p2] σ (mm_Pi R.1 R.2) := by
  refine mm_C.of (by decide) (Nat.le_of_ble_eq_true rfl) ?_
  unfold fX5_lookAt at hf
  have e0 : lv_args 0 [.ref p0, .int p1, .int p2] = [(0, .ref p0), (1, .int p1), (2, .int p2)] := rfl
  rw [e0]
  generalize hini : ((yX5_lookAt.name == "<init>"), none) = ini
  clear e0
  clear hini
  refine mm_iload_n (j := 1) dX5_lookAt_0 rfl rfl ?_
  refine mm_iload_n (j := 2) dX5_lookAt_1 rfl rfl ?_
  refine mm_callSi cd_ok (kX5_isCell p1 p2 _ rfl) (Or.inl tw_333) cdX5_isCell tw_334 nmX5_isCell rfl rfl (by simp only [List.map_cons, List.map_nil, mm_rf_cat]; exact Nat.le_of_ble_eq_true rfl) dX5_lookAt_2 ⟨Nat.le_of_ble_eq_true rfl, Nat.le_of_ble_eq_true rfl⟩ ⟨Nat.le_of_ble_eq_true rfl, Nat.le_of_ble_eq_true rfl⟩ ?_
  refine mm_if_eq (tgt := 21) dX5_lookAt_5 (by decide) (fun c1 => ?_) (fun c1 => ?_)
  · rw [if_pos c1] at hf
    refine mm_iconst (v := 0) dX5_lookAt_21 (by decide) ?_
    cases hf
    refine mm_widen (ck' := rmX5_lookAt.cells) (sk' := rmX5_lookAt.slots) (Nat.le_of_ble_eq_true rfl) (Nat.le_of_ble_eq_true rfl) ?_
    exact mm_iret rfl rfl dX5_lookAt_22 ⟨rfl, rfl⟩
  · rw [if_neg c1] at hf
    refine mm_aload_n (j := 0) dX5_lookAt_8 rfl rfl ?_
    obtain ⟨hs2, hf⟩ := mm_sh_s hf
    refine mm_get (c := 5) (k := 1) (v := va_rf (mm_R σ p0 1)) cd_ok ⟨_, _, _, rfl, by decide, Or.inl tw_105⟩ hs2 rfl dX5_lookAt_9 ?_
    refine mm_iload_n (j := 1) dX5_lookAt_12 rfl rfl ?_
    refine mm_iload_n (j := 2) dX5_lookAt_13 rfl rfl ?_
    refine mm_callSi cd_ok (kX5_indexOf p1 p2 _ rfl) (Or.inl tw_336) cdX5_indexOf tw_337 nmX5_indexOf rfl rfl (by simp only [List.map_cons, List.map_nil, mm_rf_cat]; exact Nat.le_of_ble_eq_true rfl) dX5_lookAt_14 ⟨Nat.le_of_ble_eq_true rfl, Nat.le_of_ble_eq_true rfl⟩ ⟨Nat.le_of_ble_eq_true rfl, Nat.le_of_ble_eq_true rfl⟩ ?_
    obtain ⟨q3, hq3, hf⟩ := mm_on_s hf
    rw [hq3, mm_rf_some]
    obtain ⟨n4, hn4, hf⟩ := mm_ar_s hf
    obtain ⟨hi5, hf⟩ := mm_ib_s hf
    refine mm_iald hn4 rfl hi5 dX5_lookAt_17 ?_
    refine mm_goto (tgt := 22) dX5_lookAt_18 (by decide) ?_
    cases hf
    refine mm_widen (ck' := rmX5_lookAt.cells) (sk' := rmX5_lookAt.slots) (Nat.le_of_ble_eq_true rfl) (Nat.le_of_ble_eq_true rfl) ?_
    exact mm_iret rfl rfl dX5_lookAt_22 ⟨rfl, rfl⟩
theorem dX5_write_0 : decode cX5_write 0 = .ok (.iload_n 1, 1) := by decide +kernel
theorem dX5_write_1 : decode cX5_write 1 = .ok (.iload_n 2, 1) := by decide +kernel
theorem dX5_write_2 : decode cX5_write 2 = .ok (.invokestatic 18, 3) := by decide +kernel
theorem dX5_write_5 : decode cX5_write 5 = .ok (.ifCond .eq 26, 3) := by decide +kernel
theorem dX5_write_8 : decode cX5_write 8 = .ok (.aload_n 0, 1) := by decide +kernel
theorem dX5_write_9 : decode cX5_write 9 = .ok (.getfield 9, 3) := by decide +kernel
theorem dX5_write_12 : decode cX5_write 12 = .ok (.iload_n 1, 1) := by decide +kernel
theorem dX5_write_13 : decode cX5_write 13 = .ok (.iload_n 2, 1) := by decide +kernel
theorem dX5_write_14 : decode cX5_write 14 = .ok (.invokestatic 22, 3) := by decide +kernel
theorem dX5_write_17 : decode cX5_write 17 = .ok (.iload_n 3, 1) := by decide +kernel
theorem dX5_write_18 : decode cX5_write 18 = .ok (.iastore, 1) := by decide +kernel
theorem dX5_write_19 : decode cX5_write 19 = .ok (.aload_n 0, 1) := by decide +kernel
theorem dX5_write_20 : decode cX5_write 20 = .ok (.getfield 15, 3) := by decide +kernel
theorem dX5_write_23 : decode cX5_write 23 = .ok (.iload_n 1, 1) := by decide +kernel
theorem dX5_write_24 : decode cX5_write 24 = .ok (.iload_n 2, 1) := by decide +kernel
theorem dX5_write_25 : decode cX5_write 25 = .ok (.invokestatic 22, 3) := by decide +kernel
theorem dX5_write_28 : decode cX5_write 28 = .ok (.iload 4, 2) := by decide +kernel
theorem dX5_write_30 : decode cX5_write 30 = .ok (.iastore, 1) := by decide +kernel
theorem dX5_write_31 : decode cX5_write 31 = .ok (.return_, 1) := by decide +kernel
theorem nmX5_write : mm_nm yX5_write 4 := ⟨by decide, by decide, by decide +kernel⟩
theorem cdX5_write : mm_cd cd_Y yX5_write cX5_write 5 none := ⟨tw_332, tw_7⟩
abbrev rmX5_write : Room := { frames := 1, cells := 0, slots := 0, locals := 21 }
def fX5_write (p0 : Nat) (p1 : Int32) (p2 : Int32) (p3 : Int32) (p4 : Int32) (σ : mm_M) : Option mm_M :=
  (if (fX5_isCell p1 p2) = 0 then some (σ) else mm_sh σ p0 (.inl 5) (mm_on (mm_R σ p0 0) fun q3 => mm_ar σ q3 0 fun n4 => mm_ib (fX5_indexOf p1 p2) n4 (mm_let (mm_wI σ q3 ((fX5_indexOf p1 p2).toNatClampNeg) p3) fun s6 => mm_on (mm_R s6 p0 1) fun q7 => mm_ar s6 q7 0 fun n8 => mm_ib (fX5_indexOf p1 p2) n8 (mm_let (mm_wI s6 q7 ((fX5_indexOf p1 p2).toNatClampNeg) p4) fun s10 => some (s10)))))
set_option maxHeartbeats 4000000 in
set_option maxRecDepth 100000 in
theorem kX5_write {G : mm_G} {A : Nat → Prop} (p0 : Nat) (p1 : Int32) (p2 : Int32) (p3 : Int32) (p4 : Int32) {σ : mm_M} {R : mm_M} (hf : fX5_write p0 p1 p2 p3 p4 σ = some R) : mm_C cd_Y G yX5_write cX5_write 5 none rmX5_write A [.ref p0, .int p1, .int p2, .int p3, .int p4] σ (mm_Pv R) := by
  refine mm_C.of (by decide) (Nat.le_of_ble_eq_true rfl) ?_
  unfold fX5_write at hf
  have e0 : lv_args 0 [.ref p0, .int p1, .int p2, .int p3, .int p4] = [(0, .ref p0), (1, .int p1), (2, .int p2), (3, .int p3), (4, .int p4)] := rfl
  rw [e0]
  generalize hini : ((yX5_write.name == "<init>"), none) = ini
  clear e0
  clear hini
  refine mm_iload_n (j := 1) dX5_write_0 rfl rfl ?_
  refine mm_iload_n (j := 2) dX5_write_1 rfl rfl ?_
  refine mm_callSi cd_ok (kX5_isCell p1 p2 _ rfl) (Or.inl tw_333) cdX5_isCell tw_334 nmX5_isCell rfl rfl (by simp only [List.map_cons, List.map_nil, mm_rf_cat]; exact Nat.le_of_ble_eq_true rfl) dX5_write_2 ⟨Nat.le_of_ble_eq_true rfl, Nat.le_of_ble_eq_true rfl⟩ ⟨Nat.le_of_ble_eq_true rfl, Nat.le_of_ble_eq_true rfl⟩ ?_
  refine mm_if_eq (tgt := 31) dX5_write_5 (by decide) (fun c1 => ?_) (fun c1 => ?_)
  · rw [if_pos c1] at hf
    cases hf
    refine mm_widen (ck' := rmX5_write.cells) (sk' := rmX5_write.slots) (Nat.le_of_ble_eq_true rfl) (Nat.le_of_ble_eq_true rfl) ?_
    exact mm_vret rfl dX5_write_31 ⟨rfl, rfl⟩
  · rw [if_neg c1] at hf
    refine mm_aload_n (j := 0) dX5_write_8 rfl rfl ?_
    obtain ⟨hs2, hf⟩ := mm_sh_s hf
    refine mm_get (c := 5) (k := 0) (v := va_rf (mm_R σ p0 0)) cd_ok ⟨_, _, _, rfl, by decide, Or.inl tw_104⟩ hs2 rfl dX5_write_9 ?_
    refine mm_iload_n (j := 1) dX5_write_12 rfl rfl ?_
    refine mm_iload_n (j := 2) dX5_write_13 rfl rfl ?_
    refine mm_callSi cd_ok (kX5_indexOf p1 p2 _ rfl) (Or.inl tw_336) cdX5_indexOf tw_337 nmX5_indexOf rfl rfl (by simp only [List.map_cons, List.map_nil, mm_rf_cat]; exact Nat.le_of_ble_eq_true rfl) dX5_write_14 ⟨Nat.le_of_ble_eq_true rfl, Nat.le_of_ble_eq_true rfl⟩ ⟨Nat.le_of_ble_eq_true rfl, Nat.le_of_ble_eq_true rfl⟩ ?_
    refine mm_iload_n (j := 3) dX5_write_17 rfl rfl ?_
    obtain ⟨q3, hq3, hf⟩ := mm_on_s hf
    rw [hq3, mm_rf_some]
    obtain ⟨n4, hn4, hf⟩ := mm_ar_s hf
    obtain ⟨hi5, hf⟩ := mm_ib_s hf
    refine mm_iast hn4 rfl hi5 dX5_write_18 ?_
    obtain ⟨s6, hs6, hf⟩ := mm_let_s hf
    rw [hs6]
    refine mm_aload_n (j := 0) dX5_write_19 rfl rfl ?_
    refine mm_get (c := 5) (k := 1) (v := va_rf (mm_R s6 p0 1)) cd_ok ⟨_, _, _, rfl, by decide, Or.inl tw_105⟩ (mm_ke hs6 hs2) rfl dX5_write_20 ?_
    refine mm_iload_n (j := 1) dX5_write_23 rfl rfl ?_
    refine mm_iload_n (j := 2) dX5_write_24 rfl rfl ?_
    refine mm_callSi cd_ok (kX5_indexOf p1 p2 _ rfl) (Or.inl tw_336) cdX5_indexOf tw_337 nmX5_indexOf rfl rfl (by simp only [List.map_cons, List.map_nil, mm_rf_cat]; exact Nat.le_of_ble_eq_true rfl) dX5_write_25 ⟨Nat.le_of_ble_eq_true rfl, Nat.le_of_ble_eq_true rfl⟩ ⟨Nat.le_of_ble_eq_true rfl, Nat.le_of_ble_eq_true rfl⟩ ?_
    refine mm_iload (j := 4) dX5_write_28 rfl ?_
    obtain ⟨q7, hq7, hf⟩ := mm_on_s hf
    rw [hq7, mm_rf_some]
    obtain ⟨n8, hn8, hf⟩ := mm_ar_s hf
    obtain ⟨hi9, hf⟩ := mm_ib_s hf
    refine mm_iast hn8 rfl hi9 dX5_write_30 ?_
    obtain ⟨s10, hs10, hf⟩ := mm_let_s hf
    rw [hs10]
    cases hf
    refine mm_widen (ck' := rmX5_write.cells) (sk' := rmX5_write.slots) (Nat.le_of_ble_eq_true rfl) (Nat.le_of_ble_eq_true rfl) ?_
    exact mm_vret rfl dX5_write_31 ⟨rfl, rfl⟩
theorem dX5_eraseFrom_0 : decode cX5_eraseFrom 0 = .ok (.iload_n 1, 1) := by decide +kernel
theorem dX5_eraseFrom_1 : decode cX5_eraseFrom 1 = .ok (.iload_n 2, 1) := by decide +kernel
theorem dX5_eraseFrom_2 : decode cX5_eraseFrom 2 = .ok (.invokestatic 18, 3) := by decide +kernel
theorem dX5_eraseFrom_5 : decode cX5_eraseFrom 5 = .ok (.ifCond .eq 19, 3) := by decide +kernel
theorem dX5_eraseFrom_8 : decode cX5_eraseFrom 8 = .ok (.aload_n 0, 1) := by decide +kernel
theorem dX5_eraseFrom_9 : decode cX5_eraseFrom 9 = .ok (.iload_n 1, 1) := by decide +kernel
theorem dX5_eraseFrom_10 : decode cX5_eraseFrom 10 = .ok (.iload_n 2, 1) := by decide +kernel
theorem dX5_eraseFrom_11 : decode cX5_eraseFrom 11 = .ok (.invokestatic 22, 3) := by decide +kernel
theorem dX5_eraseFrom_14 : decode cX5_eraseFrom 14 = .ok (.iload_n 1, 1) := by decide +kernel
theorem dX5_eraseFrom_15 : decode cX5_eraseFrom 15 = .ok (.iconst 1, 1) := by decide +kernel
theorem dX5_eraseFrom_16 : decode cX5_eraseFrom 16 = .ok (.iadd, 1) := by decide +kernel
theorem dX5_eraseFrom_17 : decode cX5_eraseFrom 17 = .ok (.iconst 0, 1) := by decide +kernel
theorem dX5_eraseFrom_18 : decode cX5_eraseFrom 18 = .ok (.invokestatic 22, 3) := by decide +kernel
theorem dX5_eraseFrom_21 : decode cX5_eraseFrom 21 = .ok (.invokevirtual 26, 3) := by decide +kernel
theorem dX5_eraseFrom_24 : decode cX5_eraseFrom 24 = .ok (.return_, 1) := by decide +kernel
theorem nmX5_eraseFrom : mm_nm yX5_eraseFrom 2 := ⟨by decide, by decide, by decide +kernel⟩
theorem cdX5_eraseFrom : mm_cd cd_Y yX5_eraseFrom cX5_eraseFrom 3 none := ⟨tw_395, tw_7⟩
abbrev rmX5_eraseFrom : Room := { frames := 1, cells := 0, slots := 0, locals := 23 }
def fX5_eraseFrom (p0 : Nat) (p1 : Int32) (p2 : Int32) (σ : mm_M) : Option mm_M :=
  (if (fX5_isCell p1 p2) = 0 then some (σ) else mm_sh σ p0 (.inl 5) (mm_on (fX5_eraseCells p0 (fX5_indexOf p1 p2) (fX5_indexOf (p1 + 1) 0) σ) fun q3 => some (q3)))
set_option maxHeartbeats 4000000 in
set_option maxRecDepth 100000 in
theorem kX5_eraseFrom {G : mm_G} {A : Nat → Prop} (p0 : Nat) (p1 : Int32) (p2 : Int32) {σ : mm_M} {R : mm_M} (hf : fX5_eraseFrom p0 p1 p2 σ = some R) : mm_C cd_Y G yX5_eraseFrom cX5_eraseFrom 3 none rmX5_eraseFrom A [.ref p0, .int p1, .int p2] σ (mm_Pv R) := by
  refine mm_C.of (by decide) (Nat.le_of_ble_eq_true rfl) ?_
  unfold fX5_eraseFrom at hf
  have e0 : lv_args 0 [.ref p0, .int p1, .int p2] = [(0, .ref p0), (1, .int p1), (2, .int p2)] := rfl
  rw [e0]
  generalize hini : ((yX5_eraseFrom.name == "<init>"), none) = ini
  clear e0
  clear hini
  refine mm_iload_n (j := 1) dX5_eraseFrom_0 rfl rfl ?_
  refine mm_iload_n (j := 2) dX5_eraseFrom_1 rfl rfl ?_
  refine mm_callSi cd_ok (kX5_isCell p1 p2 _ rfl) (Or.inl tw_333) cdX5_isCell tw_334 nmX5_isCell rfl rfl (by simp only [List.map_cons, List.map_nil, mm_rf_cat]; exact Nat.le_of_ble_eq_true rfl) dX5_eraseFrom_2 ⟨Nat.le_of_ble_eq_true rfl, Nat.le_of_ble_eq_true rfl⟩ ⟨Nat.le_of_ble_eq_true rfl, Nat.le_of_ble_eq_true rfl⟩ ?_
  refine mm_if_eq (tgt := 24) dX5_eraseFrom_5 (by decide) (fun c1 => ?_) (fun c1 => ?_)
  · rw [if_pos c1] at hf
    cases hf
    refine mm_widen (ck' := rmX5_eraseFrom.cells) (sk' := rmX5_eraseFrom.slots) (Nat.le_of_ble_eq_true rfl) (Nat.le_of_ble_eq_true rfl) ?_
    exact mm_vret rfl dX5_eraseFrom_24 ⟨rfl, rfl⟩
  · rw [if_neg c1] at hf
    refine mm_aload_n (j := 0) dX5_eraseFrom_8 rfl rfl ?_
    refine mm_iload_n (j := 1) dX5_eraseFrom_9 rfl rfl ?_
    refine mm_iload_n (j := 2) dX5_eraseFrom_10 rfl rfl ?_
    refine mm_callSi cd_ok (kX5_indexOf p1 p2 _ rfl) (Or.inl tw_336) cdX5_indexOf tw_337 nmX5_indexOf rfl rfl (by simp only [List.map_cons, List.map_nil, mm_rf_cat]; exact Nat.le_of_ble_eq_true rfl) dX5_eraseFrom_11 ⟨Nat.le_of_ble_eq_true rfl, Nat.le_of_ble_eq_true rfl⟩ ⟨Nat.le_of_ble_eq_true rfl, Nat.le_of_ble_eq_true rfl⟩ ?_
    refine mm_iload_n (j := 1) dX5_eraseFrom_14 rfl rfl ?_
    refine mm_iconst (v := 1) dX5_eraseFrom_15 (by decide) ?_
    refine mm_iadd dX5_eraseFrom_16 ?_
    refine mm_iconst (v := 0) dX5_eraseFrom_17 (by decide) ?_
    refine mm_callSi cd_ok (kX5_indexOf (p1 + 1) 0 _ rfl) (Or.inl tw_336) cdX5_indexOf tw_337 nmX5_indexOf rfl rfl (by simp only [List.map_cons, List.map_nil, mm_rf_cat]; exact Nat.le_of_ble_eq_true rfl) dX5_eraseFrom_18 ⟨Nat.le_of_ble_eq_true rfl, Nat.le_of_ble_eq_true rfl⟩ ⟨Nat.le_of_ble_eq_true rfl, Nat.le_of_ble_eq_true rfl⟩ ?_
    obtain ⟨hs2, hf⟩ := mm_sh_s hf
    obtain ⟨q3, hq3, hf⟩ := mm_on_s hf
    refine mm_callVv cd_ok (kX5_eraseCells p0 (fX5_indexOf p1 p2) (fX5_indexOf (p1 + 1) 0) hq3) hs2 rfl (Or.inl tw_371) cdX5_eraseCells tw_373 ts_6 nmX5_eraseCells rfl rfl (by simp only [List.map_cons, List.map_nil, mm_rf_cat]; exact Nat.le_of_ble_eq_true rfl) dX5_eraseFrom_21 ⟨Nat.le_of_ble_eq_true rfl, Nat.le_of_ble_eq_true rfl⟩ ⟨Nat.le_of_ble_eq_true rfl, Nat.le_of_ble_eq_true rfl⟩ ?_
    cases hf
    refine mm_widen (ck' := rmX5_eraseFrom.cells) (sk' := rmX5_eraseFrom.slots) (Nat.le_of_ble_eq_true rfl) (Nat.le_of_ble_eq_true rfl) ?_
    exact mm_vret rfl dX5_eraseFrom_24 ⟨rfl, rfl⟩
theorem dX5_eraseRowsAbove_0 : decode cX5_eraseRowsAbove 0 = .ok (.aload_n 0, 1) := by decide +kernel
theorem dX5_eraseRowsAbove_1 : decode cX5_eraseRowsAbove 1 = .ok (.iconst 0, 1) := by decide +kernel
theorem dX5_eraseRowsAbove_2 : decode cX5_eraseRowsAbove 2 = .ok (.iload_n 1, 1) := by decide +kernel
theorem dX5_eraseRowsAbove_3 : decode cX5_eraseRowsAbove 3 = .ok (.iconst 0, 1) := by decide +kernel
theorem dX5_eraseRowsAbove_4 : decode cX5_eraseRowsAbove 4 = .ok (.invokestatic 22, 3) := by decide +kernel
theorem dX5_eraseRowsAbove_7 : decode cX5_eraseRowsAbove 7 = .ok (.invokevirtual 26, 3) := by decide +kernel
theorem dX5_eraseRowsAbove_10 : decode cX5_eraseRowsAbove 10 = .ok (.return_, 1) := by decide +kernel
theorem nmX5_eraseRowsAbove : mm_nm yX5_eraseRowsAbove 1 := ⟨by decide, by decide, by decide +kernel⟩
theorem cdX5_eraseRowsAbove : mm_cd cd_Y yX5_eraseRowsAbove cX5_eraseRowsAbove 2 none := ⟨tw_403, tw_7⟩
abbrev rmX5_eraseRowsAbove : Room := { frames := 1, cells := 0, slots := 0, locals := 23 }
def fX5_eraseRowsAbove (p0 : Nat) (p1 : Int32) (σ : mm_M) : Option mm_M :=
  mm_sh σ p0 (.inl 5) (mm_on (fX5_eraseCells p0 0 (fX5_indexOf p1 0) σ) fun q2 => some (q2))
set_option maxHeartbeats 4000000 in
set_option maxRecDepth 100000 in
theorem kX5_eraseRowsAbove {G : mm_G} {A : Nat → Prop} (p0 : Nat) (p1 : Int32) {σ : mm_M} {R : mm_M} (hf : fX5_eraseRowsAbove p0 p1 σ = some R) : mm_C cd_Y G yX5_eraseRowsAbove cX5_eraseRowsAbove 2 none rmX5_eraseRowsAbove A [.ref p0, .int p1] σ (mm_Pv R) := by
  refine mm_C.of (by decide) (Nat.le_of_ble_eq_true rfl) ?_
  unfold fX5_eraseRowsAbove at hf
  have e0 : lv_args 0 [.ref p0, .int p1] = [(0, .ref p0), (1, .int p1)] := rfl
  rw [e0]
  generalize hini : ((yX5_eraseRowsAbove.name == "<init>"), none) = ini
  clear e0
  clear hini
  refine mm_aload_n (j := 0) dX5_eraseRowsAbove_0 rfl rfl ?_
  refine mm_iconst (v := 0) dX5_eraseRowsAbove_1 (by decide) ?_
  refine mm_iload_n (j := 1) dX5_eraseRowsAbove_2 rfl rfl ?_
  refine mm_iconst (v := 0) dX5_eraseRowsAbove_3 (by decide) ?_
  refine mm_callSi cd_ok (kX5_indexOf p1 0 _ rfl) (Or.inl tw_336) cdX5_indexOf tw_337 nmX5_indexOf rfl rfl (by simp only [List.map_cons, List.map_nil, mm_rf_cat]; exact Nat.le_of_ble_eq_true rfl) dX5_eraseRowsAbove_4 ⟨Nat.le_of_ble_eq_true rfl, Nat.le_of_ble_eq_true rfl⟩ ⟨Nat.le_of_ble_eq_true rfl, Nat.le_of_ble_eq_true rfl⟩ ?_
  obtain ⟨hs1, hf⟩ := mm_sh_s hf
  obtain ⟨q2, hq2, hf⟩ := mm_on_s hf
  refine mm_callVv cd_ok (kX5_eraseCells p0 0 (fX5_indexOf p1 0) hq2) hs1 rfl (Or.inl tw_371) cdX5_eraseCells tw_373 ts_6 nmX5_eraseCells rfl rfl (by simp only [List.map_cons, List.map_nil, mm_rf_cat]; exact Nat.le_of_ble_eq_true rfl) dX5_eraseRowsAbove_7 ⟨Nat.le_of_ble_eq_true rfl, Nat.le_of_ble_eq_true rfl⟩ ⟨Nat.le_of_ble_eq_true rfl, Nat.le_of_ble_eq_true rfl⟩ ?_
  cases hf
  refine mm_widen (ck' := rmX5_eraseRowsAbove.cells) (sk' := rmX5_eraseRowsAbove.slots) (Nat.le_of_ble_eq_true rfl) (Nat.le_of_ble_eq_true rfl) ?_
  exact mm_vret rfl dX5_eraseRowsAbove_10 ⟨rfl, rfl⟩
theorem dX5_eraseAll_0 : decode cX5_eraseAll 0 = .ok (.aload_n 0, 1) := by decide +kernel
theorem dX5_eraseAll_1 : decode cX5_eraseAll 1 = .ok (.iconst 0, 1) := by decide +kernel
theorem dX5_eraseAll_2 : decode cX5_eraseAll 2 = .ok (.sipush 480, 3) := by decide +kernel
theorem dX5_eraseAll_5 : decode cX5_eraseAll 5 = .ok (.invokevirtual 26, 3) := by decide +kernel
theorem dX5_eraseAll_8 : decode cX5_eraseAll 8 = .ok (.return_, 1) := by decide +kernel
theorem nmX5_eraseAll : mm_nm yX5_eraseAll 0 := ⟨by decide, by decide, by decide +kernel⟩
theorem cdX5_eraseAll : mm_cd cd_Y yX5_eraseAll cX5_eraseAll 1 none := ⟨tw_407, tw_7⟩
abbrev rmX5_eraseAll : Room := { frames := 1, cells := 0, slots := 0, locals := 23 }
def fX5_eraseAll (p0 : Nat) (σ : mm_M) : Option mm_M :=
  mm_sh σ p0 (.inl 5) (mm_on (fX5_eraseCells p0 0 480 σ) fun q2 => some (q2))
set_option maxHeartbeats 4000000 in
set_option maxRecDepth 100000 in
theorem kX5_eraseAll {G : mm_G} {A : Nat → Prop} (p0 : Nat) {σ : mm_M} {R : mm_M} (hf : fX5_eraseAll p0 σ = some R) : mm_C cd_Y G yX5_eraseAll cX5_eraseAll 1 none rmX5_eraseAll A [.ref p0] σ (mm_Pv R) := by
  refine mm_C.of (by decide) (Nat.le_of_ble_eq_true rfl) ?_
  unfold fX5_eraseAll at hf
  have e0 : lv_args 0 [.ref p0] = [(0, .ref p0)] := rfl
  rw [e0]
  generalize hini : ((yX5_eraseAll.name == "<init>"), none) = ini
  clear e0
  clear hini
  refine mm_aload_n (j := 0) dX5_eraseAll_0 rfl rfl ?_
  refine mm_iconst (v := 0) dX5_eraseAll_1 (by decide) ?_
  refine mm_sipush (v := 480) dX5_eraseAll_2 (by decide) ?_
  obtain ⟨hs1, hf⟩ := mm_sh_s hf
  obtain ⟨q2, hq2, hf⟩ := mm_on_s hf
  refine mm_callVv cd_ok (kX5_eraseCells p0 0 480 hq2) hs1 rfl (Or.inl tw_371) cdX5_eraseCells tw_373 ts_6 nmX5_eraseCells rfl rfl (by simp only [List.map_cons, List.map_nil, mm_rf_cat]; exact Nat.le_of_ble_eq_true rfl) dX5_eraseAll_5 ⟨Nat.le_of_ble_eq_true rfl, Nat.le_of_ble_eq_true rfl⟩ ⟨Nat.le_of_ble_eq_true rfl, Nat.le_of_ble_eq_true rfl⟩ ?_
  cases hf
  refine mm_widen (ck' := rmX5_eraseAll.cells) (sk' := rmX5_eraseAll.slots) (Nat.le_of_ble_eq_true rfl) (Nat.le_of_ble_eq_true rfl) ?_
  exact mm_vret rfl dX5_eraseAll_8 ⟨rfl, rfl⟩
theorem dX5_moveRow_0 : decode cX5_moveRow 0 = .ok (.iload_n 1, 1) := by decide +kernel
theorem dX5_moveRow_1 : decode cX5_moveRow 1 = .ok (.iload_n 2, 1) := by decide +kernel
theorem dX5_moveRow_2 : decode cX5_moveRow 2 = .ok (.if_icmp .eq 19, 3) := by decide +kernel
theorem dX5_moveRow_5 : decode cX5_moveRow 5 = .ok (.iload_n 1, 1) := by decide +kernel
theorem dX5_moveRow_6 : decode cX5_moveRow 6 = .ok (.iconst 0, 1) := by decide +kernel
theorem dX5_moveRow_7 : decode cX5_moveRow 7 = .ok (.invokestatic 18, 3) := by decide +kernel
theorem dX5_moveRow_10 : decode cX5_moveRow 10 = .ok (.ifCond .eq 11, 3) := by decide +kernel
theorem dX5_moveRow_13 : decode cX5_moveRow 13 = .ok (.iload_n 2, 1) := by decide +kernel
theorem dX5_moveRow_14 : decode cX5_moveRow 14 = .ok (.iconst 0, 1) := by decide +kernel
theorem dX5_moveRow_15 : decode cX5_moveRow 15 = .ok (.invokestatic 18, 3) := by decide +kernel
theorem dX5_moveRow_18 : decode cX5_moveRow 18 = .ok (.ifCond .ne 4, 3) := by decide +kernel
theorem dX5_moveRow_21 : decode cX5_moveRow 21 = .ok (.return_, 1) := by decide +kernel
theorem dX5_moveRow_22 : decode cX5_moveRow 22 = .ok (.iload_n 1, 1) := by decide +kernel
theorem dX5_moveRow_23 : decode cX5_moveRow 23 = .ok (.iconst 0, 1) := by decide +kernel
theorem dX5_moveRow_24 : decode cX5_moveRow 24 = .ok (.invokestatic 22, 3) := by decide +kernel
theorem dX5_moveRow_27 : decode cX5_moveRow 27 = .ok (.istore_n 3, 1) := by decide +kernel
theorem dX5_moveRow_28 : decode cX5_moveRow 28 = .ok (.aload_n 0, 1) := by decide +kernel
theorem dX5_moveRow_29 : decode cX5_moveRow 29 = .ok (.getfield 9, 3) := by decide +kernel
theorem dX5_moveRow_32 : decode cX5_moveRow 32 = .ok (.iload_n 3, 1) := by decide +kernel
theorem dX5_moveRow_33 : decode cX5_moveRow 33 = .ok (.aload_n 0, 1) := by decide +kernel
theorem dX5_moveRow_34 : decode cX5_moveRow 34 = .ok (.getfield 9, 3) := by decide +kernel
theorem dX5_moveRow_37 : decode cX5_moveRow 37 = .ok (.iload_n 2, 1) := by decide +kernel
theorem dX5_moveRow_38 : decode cX5_moveRow 38 = .ok (.iconst 0, 1) := by decide +kernel
theorem dX5_moveRow_39 : decode cX5_moveRow 39 = .ok (.invokestatic 22, 3) := by decide +kernel
theorem dX5_moveRow_42 : decode cX5_moveRow 42 = .ok (.bipush 32, 2) := by decide +kernel
theorem dX5_moveRow_44 : decode cX5_moveRow 44 = .ok (.invokestatic 30, 3) := by decide +kernel
theorem dX5_moveRow_47 : decode cX5_moveRow 47 = .ok (.aload_n 0, 1) := by decide +kernel
theorem dX5_moveRow_48 : decode cX5_moveRow 48 = .ok (.getfield 15, 3) := by decide +kernel
theorem dX5_moveRow_51 : decode cX5_moveRow 51 = .ok (.iload_n 3, 1) := by decide +kernel
theorem dX5_moveRow_52 : decode cX5_moveRow 52 = .ok (.aload_n 0, 1) := by decide +kernel
theorem dX5_moveRow_53 : decode cX5_moveRow 53 = .ok (.getfield 15, 3) := by decide +kernel
theorem dX5_moveRow_56 : decode cX5_moveRow 56 = .ok (.iload_n 2, 1) := by decide +kernel
theorem dX5_moveRow_57 : decode cX5_moveRow 57 = .ok (.iconst 0, 1) := by decide +kernel
theorem dX5_moveRow_58 : decode cX5_moveRow 58 = .ok (.invokestatic 22, 3) := by decide +kernel
theorem dX5_moveRow_61 : decode cX5_moveRow 61 = .ok (.bipush 32, 2) := by decide +kernel
theorem dX5_moveRow_63 : decode cX5_moveRow 63 = .ok (.invokestatic 30, 3) := by decide +kernel
theorem dX5_moveRow_66 : decode cX5_moveRow 66 = .ok (.aload_n 0, 1) := by decide +kernel
theorem dX5_moveRow_67 : decode cX5_moveRow 67 = .ok (.iload_n 3, 1) := by decide +kernel
theorem dX5_moveRow_68 : decode cX5_moveRow 68 = .ok (.iload_n 3, 1) := by decide +kernel
theorem dX5_moveRow_69 : decode cX5_moveRow 69 = .ok (.bipush 32, 2) := by decide +kernel
theorem dX5_moveRow_71 : decode cX5_moveRow 71 = .ok (.iadd, 1) := by decide +kernel
theorem dX5_moveRow_72 : decode cX5_moveRow 72 = .ok (.invokevirtual 26, 3) := by decide +kernel
theorem dX5_moveRow_75 : decode cX5_moveRow 75 = .ok (.return_, 1) := by decide +kernel
theorem nmX5_moveRow : mm_nm yX5_moveRow 2 := ⟨by decide, by decide, by decide +kernel⟩
theorem cdX5_moveRow : mm_cd cd_Y yX5_moveRow cX5_moveRow 4 none := ⟨tw_367, tw_7⟩
abbrev rmX5_moveRow : Room := { frames := 1, cells := 0, slots := 0, locals := 23 }
def fX5_moveRow (p0 : Nat) (p1 : Int32) (p2 : Int32) (σ : mm_M) : Option mm_M :=
  (if p1 = p2 then some (σ) else (if (fX5_isCell p1 0) = 0 then some (σ) else (if (fX5_isCell p2 0) = 0 then some (σ) else mm_sh σ p0 (.inl 5) (mm_on (mm_R σ p0 0) fun q5 => mm_ar σ q5 0 fun n6 => mm_ck (¬ (fX5_indexOf p1 0) < 0 ∧ ¬ (fX5_indexOf p2 0) < 0 ∧ ¬ (32 : Int32) < 0 ∧ (fX5_indexOf p1 0).toNatClampNeg + (32 : Int32).toNatClampNeg ≤ n6 ∧ (fX5_indexOf p2 0).toNatClampNeg + (32 : Int32).toNatClampNeg ≤ n6 ∧ ∀ i, i < (32 : Int32).toNatClampNeg → fits .int (.int (mm_I σ q5 ((fX5_indexOf p1 0).toNatClampNeg + i))) = true) (mm_let (mm_wA σ q5 (va_cpy (mm_I σ q5) (mm_I σ q5) (fX5_indexOf p1 0).toNatClampNeg (fX5_indexOf p2 0).toNatClampNeg (32 : Int32).toNatClampNeg)) fun s8 => mm_on (mm_R s8 p0 1) fun q9 => mm_ar s8 q9 0 fun n10 => mm_ck (¬ (fX5_indexOf p1 0) < 0 ∧ ¬ (fX5_indexOf p2 0) < 0 ∧ ¬ (32 : Int32) < 0 ∧ (fX5_indexOf p1 0).toNatClampNeg + (32 : Int32).toNatClampNeg ≤ n10 ∧ (fX5_indexOf p2 0).toNatClampNeg + (32 : Int32).toNatClampNeg ≤ n10 ∧ ∀ i, i < (32 : Int32).toNatClampNeg → fits .int (.int (mm_I s8 q9 ((fX5_indexOf p1 0).toNatClampNeg + i))) = true) (mm_let (mm_wA s8 q9 (va_cpy (mm_I s8 q9) (mm_I s8 q9) (fX5_indexOf p1 0).toNatClampNeg (fX5_indexOf p2 0).toNatClampNeg (32 : Int32).toNatClampNeg)) fun s12 => mm_on (fX5_eraseCells p0 (fX5_indexOf p1 0) ((fX5_indexOf p1 0) + 32) s12) fun q13 => some (q13)))))))
set_option maxHeartbeats 4000000 in
set_option maxRecDepth 100000 in
theorem kX5_moveRow {G : mm_G} {A : Nat → Prop} (p0 : Nat) (p1 : Int32) (p2 : Int32) {σ : mm_M} {R : mm_M} (hf : fX5_moveRow p0 p1 p2 σ = some R) : mm_C cd_Y G yX5_moveRow cX5_moveRow 4 none rmX5_moveRow A [.ref p0, .int p1, .int p2] σ (mm_Pv R) := by
  refine mm_C.of (by decide) (Nat.le_of_ble_eq_true rfl) ?_
  unfold fX5_moveRow at hf
  have e0 : lv_args 0 [.ref p0, .int p1, .int p2] = [(0, .ref p0), (1, .int p1), (2, .int p2)] := rfl
  rw [e0]
  generalize hini : ((yX5_moveRow.name == "<init>"), none) = ini
  clear e0
  clear hini
  refine mm_iload_n (j := 1) dX5_moveRow_0 rfl rfl ?_
  refine mm_iload_n (j := 2) dX5_moveRow_1 rfl rfl ?_
  refine mm_icmp_eq (tgt := 21) dX5_moveRow_2 (by decide) (fun c1 => ?_) (fun c1 => ?_)
  · rw [if_pos c1] at hf
    cases hf
    refine mm_widen (ck' := rmX5_moveRow.cells) (sk' := rmX5_moveRow.slots) (Nat.le_of_ble_eq_true rfl) (Nat.le_of_ble_eq_true rfl) ?_
    exact mm_vret rfl dX5_moveRow_21 ⟨rfl, rfl⟩
  · rw [if_neg c1] at hf
    refine mm_iload_n (j := 1) dX5_moveRow_5 rfl rfl ?_
    refine mm_iconst (v := 0) dX5_moveRow_6 (by decide) ?_
    refine mm_callSi cd_ok (kX5_isCell p1 0 _ rfl) (Or.inl tw_333) cdX5_isCell tw_334 nmX5_isCell rfl rfl (by simp only [List.map_cons, List.map_nil, mm_rf_cat]; exact Nat.le_of_ble_eq_true rfl) dX5_moveRow_7 ⟨Nat.le_of_ble_eq_true rfl, Nat.le_of_ble_eq_true rfl⟩ ⟨Nat.le_of_ble_eq_true rfl, Nat.le_of_ble_eq_true rfl⟩ ?_
    refine mm_if_eq (tgt := 21) dX5_moveRow_10 (by decide) (fun c2 => ?_) (fun c2 => ?_)
    · rw [if_pos c2] at hf
      cases hf
      refine mm_widen (ck' := rmX5_moveRow.cells) (sk' := rmX5_moveRow.slots) (Nat.le_of_ble_eq_true rfl) (Nat.le_of_ble_eq_true rfl) ?_
      exact mm_vret rfl dX5_moveRow_21 ⟨rfl, rfl⟩
    · rw [if_neg c2] at hf
      refine mm_iload_n (j := 2) dX5_moveRow_13 rfl rfl ?_
      refine mm_iconst (v := 0) dX5_moveRow_14 (by decide) ?_
      refine mm_callSi cd_ok (kX5_isCell p2 0 _ rfl) (Or.inl tw_333) cdX5_isCell tw_334 nmX5_isCell rfl rfl (by simp only [List.map_cons, List.map_nil, mm_rf_cat]; exact Nat.le_of_ble_eq_true rfl) dX5_moveRow_15 ⟨Nat.le_of_ble_eq_true rfl, Nat.le_of_ble_eq_true rfl⟩ ⟨Nat.le_of_ble_eq_true rfl, Nat.le_of_ble_eq_true rfl⟩ ?_
      refine mm_if_ne (tgt := 22) dX5_moveRow_18 (by decide) (fun c3 => ?_) (fun c3 => ?_)
      · rw [if_neg c3] at hf
        refine mm_iload_n (j := 1) dX5_moveRow_22 rfl rfl ?_
        refine mm_iconst (v := 0) dX5_moveRow_23 (by decide) ?_
        refine mm_callSi cd_ok (kX5_indexOf p1 0 _ rfl) (Or.inl tw_336) cdX5_indexOf tw_337 nmX5_indexOf rfl rfl (by simp only [List.map_cons, List.map_nil, mm_rf_cat]; exact Nat.le_of_ble_eq_true rfl) dX5_moveRow_24 ⟨Nat.le_of_ble_eq_true rfl, Nat.le_of_ble_eq_true rfl⟩ ⟨Nat.le_of_ble_eq_true rfl, Nat.le_of_ble_eq_true rfl⟩ ?_
        refine mm_istore_n (L' := [(3, .int (fX5_indexOf p1 0)), (0, .ref p0), (1, .int p1), (2, .int p2)]) dX5_moveRow_27 rfl (by decide) rfl ?_
        refine mm_aload_n (j := 1) dX5_moveRow_28 rfl rfl ?_
        obtain ⟨hs4, hf⟩ := mm_sh_s hf
        refine mm_get (c := 5) (k := 0) (v := va_rf (mm_R σ p0 0)) cd_ok ⟨_, _, _, rfl, by decide, Or.inl tw_104⟩ hs4 rfl dX5_moveRow_29 ?_
        refine mm_iload_n (j := 0) dX5_moveRow_32 rfl rfl ?_
        refine mm_aload_n (j := 1) dX5_moveRow_33 rfl rfl ?_
        refine mm_get (c := 5) (k := 0) (v := va_rf (mm_R σ p0 0)) cd_ok ⟨_, _, _, rfl, by decide, Or.inl tw_104⟩ hs4 rfl dX5_moveRow_34 ?_
        refine mm_iload_n (j := 3) dX5_moveRow_37 rfl rfl ?_
        refine mm_iconst (v := 0) dX5_moveRow_38 (by decide) ?_
        refine mm_callSi cd_ok (kX5_indexOf p2 0 _ rfl) (Or.inl tw_336) cdX5_indexOf tw_337 nmX5_indexOf rfl rfl (by simp only [List.map_cons, List.map_nil, mm_rf_cat]; exact Nat.le_of_ble_eq_true rfl) dX5_moveRow_39 ⟨Nat.le_of_ble_eq_true rfl, Nat.le_of_ble_eq_true rfl⟩ ⟨Nat.le_of_ble_eq_true rfl, Nat.le_of_ble_eq_true rfl⟩ ?_
        refine mm_bipush (v := 32) dX5_moveRow_42 (by decide) ?_
        obtain ⟨q5, hq5, hf⟩ := mm_on_s hf
        rw [hq5, mm_rf_some]
        obtain ⟨n6, hn6, hf⟩ := mm_ar_s hf
        obtain ⟨hk7, hf⟩ := mm_ck_s hf
        refine mm_copy tw_368 tw_370 tw_369 tw_15 hn6 hn6 rfl rfl rfl hk7 (by decide) (by simp only [List.map_cons, List.map_nil, mm_rf_cat]; exact Nat.le_of_ble_eq_true rfl) dX5_moveRow_44 ?_
        obtain ⟨s8, hs8, hf⟩ := mm_let_s hf
        rw [hs8]
        refine mm_aload_n (j := 1) dX5_moveRow_47 rfl rfl ?_
        refine mm_get (c := 5) (k := 1) (v := va_rf (mm_R s8 p0 1)) cd_ok ⟨_, _, _, rfl, by decide, Or.inl tw_105⟩ (mm_ke hs8 hs4) rfl dX5_moveRow_48 ?_
        refine mm_iload_n (j := 0) dX5_moveRow_51 rfl rfl ?_
        refine mm_aload_n (j := 1) dX5_moveRow_52 rfl rfl ?_
        refine mm_get (c := 5) (k := 1) (v := va_rf (mm_R s8 p0 1)) cd_ok ⟨_, _, _, rfl, by decide, Or.inl tw_105⟩ (mm_ke hs8 hs4) rfl dX5_moveRow_53 ?_
        refine mm_iload_n (j := 3) dX5_moveRow_56 rfl rfl ?_
        refine mm_iconst (v := 0) dX5_moveRow_57 (by decide) ?_
        refine mm_callSi cd_ok (kX5_indexOf p2 0 _ rfl) (Or.inl tw_336) cdX5_indexOf tw_337 nmX5_indexOf rfl rfl (by simp only [List.map_cons, List.map_nil, mm_rf_cat]; exact Nat.le_of_ble_eq_true rfl) dX5_moveRow_58 ⟨Nat.le_of_ble_eq_true rfl, Nat.le_of_ble_eq_true rfl⟩ ⟨Nat.le_of_ble_eq_true rfl, Nat.le_of_ble_eq_true rfl⟩ ?_
        refine mm_bipush (v := 32) dX5_moveRow_61 (by decide) ?_
        obtain ⟨q9, hq9, hf⟩ := mm_on_s hf
        rw [hq9, mm_rf_some]
        obtain ⟨n10, hn10, hf⟩ := mm_ar_s hf
        obtain ⟨hk11, hf⟩ := mm_ck_s hf
        refine mm_copy tw_368 tw_370 tw_369 tw_15 hn10 hn10 rfl rfl rfl hk11 (by decide) (by simp only [List.map_cons, List.map_nil, mm_rf_cat]; exact Nat.le_of_ble_eq_true rfl) dX5_moveRow_63 ?_
        obtain ⟨s12, hs12, hf⟩ := mm_let_s hf
        rw [hs12]
        refine mm_aload_n (j := 1) dX5_moveRow_66 rfl rfl ?_
        refine mm_iload_n (j := 0) dX5_moveRow_67 rfl rfl ?_
        refine mm_iload_n (j := 0) dX5_moveRow_68 rfl rfl ?_
        refine mm_bipush (v := 32) dX5_moveRow_69 (by decide) ?_
        refine mm_iadd dX5_moveRow_71 ?_
        obtain ⟨q13, hq13, hf⟩ := mm_on_s hf
        refine mm_callVv cd_ok (kX5_eraseCells p0 (fX5_indexOf p1 0) ((fX5_indexOf p1 0) + 32) hq13) (mm_ke hs12 (mm_ke hs8 hs4)) rfl (Or.inl tw_371) cdX5_eraseCells tw_373 ts_6 nmX5_eraseCells rfl rfl (by simp only [List.map_cons, List.map_nil, mm_rf_cat]; exact Nat.le_of_ble_eq_true rfl) dX5_moveRow_72 ⟨Nat.le_of_ble_eq_true rfl, Nat.le_of_ble_eq_true rfl⟩ ⟨Nat.le_of_ble_eq_true rfl, Nat.le_of_ble_eq_true rfl⟩ ?_
        cases hf
        refine mm_widen (ck' := rmX5_moveRow.cells) (sk' := rmX5_moveRow.slots) (Nat.le_of_ble_eq_true rfl) (Nat.le_of_ble_eq_true rfl) ?_
        exact mm_vret rfl dX5_moveRow_75 ⟨rfl, rfl⟩
      · rw [if_pos c3] at hf
        cases hf
        refine mm_widen (ck' := rmX5_moveRow.cells) (sk' := rmX5_moveRow.slots) (Nat.le_of_ble_eq_true rfl) (Nat.le_of_ble_eq_true rfl) ?_
        exact mm_vret rfl dX5_moveRow_21 ⟨rfl, rfl⟩
theorem dX5_addTo_0 : decode cX5_addTo 0 = .ok (.iconst 1, 1) := by decide +kernel
theorem dX5_addTo_1 : decode cX5_addTo 1 = .ok (.istore_n 2, 1) := by decide +kernel
theorem dX5_addTo_2 : decode cX5_addTo 2 = .ok (.iload_n 2, 1) := by decide +kernel
theorem dX5_addTo_3 : decode cX5_addTo 3 = .ok (.bipush 15, 2) := by decide +kernel
theorem dX5_addTo_5 : decode cX5_addTo 5 = .ok (.if_icmp .gt 24, 3) := by decide +kernel
theorem dX5_addTo_8 : decode cX5_addTo 8 = .ok (.aload_n 1, 1) := by decide +kernel
theorem dX5_addTo_9 : decode cX5_addTo 9 = .ok (.aload_n 0, 1) := by decide +kernel
theorem dX5_addTo_10 : decode cX5_addTo 10 = .ok (.getfield 9, 3) := by decide +kernel
theorem dX5_addTo_13 : decode cX5_addTo 13 = .ok (.iload_n 2, 1) := by decide +kernel
theorem dX5_addTo_14 : decode cX5_addTo 14 = .ok (.iconst 0, 1) := by decide +kernel
theorem dX5_addTo_15 : decode cX5_addTo 15 = .ok (.invokestatic 22, 3) := by decide +kernel
theorem dX5_addTo_18 : decode cX5_addTo 18 = .ok (.bipush 32, 2) := by decide +kernel
theorem dX5_addTo_20 : decode cX5_addTo 20 = .ok (.invokevirtual 36, 3) := by decide +kernel
theorem dX5_addTo_23 : decode cX5_addTo 23 = .ok (.iinc 2 1, 3) := by decide +kernel
theorem dX5_addTo_26 : decode cX5_addTo 26 = .ok (.goto (-24), 3) := by decide +kernel
theorem dX5_addTo_29 : decode cX5_addTo 29 = .ok (.return_, 1) := by decide +kernel
theorem nmX5_addTo : mm_nm yX5_addTo 1 := ⟨by decide, by decide, by decide +kernel⟩
theorem cdX5_addTo : mm_cd cd_Y yX5_addTo cX5_addTo 3 none := ⟨tw_728, tw_7⟩
abbrev rmX5_addTo : Room := { frames := 2, cells := 0, slots := 0, locals := 47 }
def fX5_addTo_2  : Nat → Nat → Nat → Int32 → mm_M → Option mm_M
  | 0 => fun _ _ _ _ => none
  | n + 1 => fun a0 a1 x2 σ =>
  (if 15 < x2 then some (σ) else mm_sh σ a0 (.inl 5) (mm_on (mm_R σ a0 0) fun q3 => mm_sh σ a1 (.inl 2) (mm_on (fX2_addRow a1 q3 (fX5_indexOf x2 0) 32 σ) fun q5 => (fX5_addTo_2  n a0 a1 (x2 + 1) q5))))
def fX5_addTo (p0 : Nat) (p1 : Nat) (σ : mm_M) : Option mm_M :=
  (fX5_addTo_2  mm_fuel p0 p1 1 σ)
set_option maxHeartbeats 4000000 in
set_option maxRecDepth 100000 in
theorem kX5_addTo_2 {G : mm_G} {A : Nat → Prop} {ini : Bool × Option (List (Nat × Nat × Nat × Nat))}  {R : mm_M}  : ∀ (a0 : Nat) (a1 : Nat) (x2 : Int32) (σ : mm_M), fX5_addTo_2  mm_fuel a0 a1 x2 σ = some R → mm_J cd_Y G RX5 cX5_addTo 3 none ini rmX5_addTo A (mm_QF cd_Y G A (mm_Pv R) rmX5_addTo.cells rmX5_addTo.slots) 2 [(0, .ref a0), (1, .ref a1), (2, .int x2)] [] σ 0 0 := by
  generalize mm_fuel = n
  induction n with
  | zero => intro a0 a1 x2 σ hf; cases hf
  | succ n ih =>
    intro a0 a1 x2 σ hf
    unfold fX5_addTo_2 at hf
    refine mm_iload_n (j := 2) dX5_addTo_2 rfl rfl ?_
    refine mm_bipush (v := 15) dX5_addTo_3 (by decide) ?_
    refine mm_icmp_gt (tgt := 29) dX5_addTo_5 (by decide) (fun c1 => ?_) (fun c1 => ?_)
    · rw [if_pos c1] at hf
      cases hf
      refine mm_widen (ck' := rmX5_addTo.cells) (sk' := rmX5_addTo.slots) (Nat.le_of_ble_eq_true rfl) (Nat.le_of_ble_eq_true rfl) ?_
      exact mm_vret rfl dX5_addTo_29 ⟨rfl, rfl⟩
    · rw [if_neg c1] at hf
      refine mm_aload_n (j := 1) dX5_addTo_8 rfl rfl ?_
      refine mm_aload_n (j := 0) dX5_addTo_9 rfl rfl ?_
      obtain ⟨hs2, hf⟩ := mm_sh_s hf
      refine mm_get (c := 5) (k := 0) (v := va_rf (mm_R σ a0 0)) cd_ok ⟨_, _, _, rfl, by decide, Or.inl tw_104⟩ hs2 rfl dX5_addTo_10 ?_
      refine mm_iload_n (j := 2) dX5_addTo_13 rfl rfl ?_
      refine mm_iconst (v := 0) dX5_addTo_14 (by decide) ?_
      refine mm_callSi cd_ok (kX5_indexOf x2 0 _ rfl) (Or.inl tw_336) cdX5_indexOf tw_337 nmX5_indexOf rfl rfl (by simp only [List.map_cons, List.map_nil, mm_rf_cat]; exact Nat.le_of_ble_eq_true rfl) dX5_addTo_15 ⟨Nat.le_of_ble_eq_true rfl, Nat.le_of_ble_eq_true rfl⟩ ⟨Nat.le_of_ble_eq_true rfl, Nat.le_of_ble_eq_true rfl⟩ ?_
      refine mm_bipush (v := 32) dX5_addTo_18 (by decide) ?_
      obtain ⟨q3, hq3, hf⟩ := mm_on_s hf
      rw [hq3, mm_rf_some]
      obtain ⟨hs4, hf⟩ := mm_sh_s hf
      obtain ⟨q5, hq5, hf⟩ := mm_on_s hf
      refine mm_callVv cd_ok (kX2_addRow a1 q3 (fX5_indexOf x2 0) 32 hq5) hs4 rfl (Or.inl tw_729) cdX2_addRow tw_717 tw_718 nmX2_addRow rfl rfl (by simp only [List.map_cons, List.map_nil, mm_rf_cat]; exact Nat.le_of_ble_eq_true rfl) dX5_addTo_20 ⟨Nat.le_of_ble_eq_true rfl, Nat.le_of_ble_eq_true rfl⟩ ⟨Nat.le_of_ble_eq_true rfl, Nat.le_of_ble_eq_true rfl⟩ ?_
      refine mm_iinc (j := 2) (L' := [(2, .int (x2 + 1)), (0, .ref a0), (1, .ref a1)]) dX5_addTo_23 rfl rfl (by decide) rfl ?_
      refine mm_goto (tgt := 2) dX5_addTo_26 (by decide) ?_
      refine mm_sub [1, 2, 0] rfl ?_
      exact ih a0 a1 (x2 + 1) q5 hf
set_option maxHeartbeats 4000000 in
set_option maxRecDepth 100000 in
theorem kX5_addTo {G : mm_G} {A : Nat → Prop} (p0 : Nat) (p1 : Nat) {σ : mm_M} {R : mm_M} (hf : fX5_addTo p0 p1 σ = some R) : mm_C cd_Y G yX5_addTo cX5_addTo 3 none rmX5_addTo A [.ref p0, .ref p1] σ (mm_Pv R) := by
  refine mm_C.of (by decide) (Nat.le_of_ble_eq_true rfl) ?_
  unfold fX5_addTo at hf
  have e0 : lv_args 0 [.ref p0, .ref p1] = [(0, .ref p0), (1, .ref p1)] := rfl
  rw [e0]
  generalize hini : ((yX5_addTo.name == "<init>"), none) = ini
  clear e0
  clear hini
  refine mm_iconst (v := 1) dX5_addTo_0 (by decide) ?_
  refine mm_istore_n (L' := [(2, .int 1), (0, .ref p0), (1, .ref p1)]) dX5_addTo_1 rfl (by decide) rfl ?_
  refine mm_sub [1, 2, 0] rfl ?_
  exact kX5_addTo_2  p0 p1 1 σ hf
theorem dX6_pageAt_0 : decode cX6_pageAt 0 = .ok (.iload_n 1, 1) := by decide +kernel
theorem dX6_pageAt_1 : decode cX6_pageAt 1 = .ok (.aload_n 0, 1) := by decide +kernel
theorem dX6_pageAt_2 : decode cX6_pageAt 2 = .ok (.getfield 17, 3) := by decide +kernel
theorem dX6_pageAt_5 : decode cX6_pageAt 5 = .ok (.invokestatic 21, 3) := by decide +kernel
theorem dX6_pageAt_8 : decode cX6_pageAt 8 = .ok (.ifCond .ne 12, 3) := by decide +kernel
theorem dX6_pageAt_11 : decode cX6_pageAt 11 = .ok (.iload_n 1, 1) := by decide +kernel
theorem dX6_pageAt_12 : decode cX6_pageAt 12 = .ok (.bipush 20, 2) := by decide +kernel
theorem dX6_pageAt_14 : decode cX6_pageAt 14 = .ok (.invokestatic 21, 3) := by decide +kernel
theorem dX6_pageAt_17 : decode cX6_pageAt 17 = .ok (.ifCond .eq 7, 3) := by decide +kernel
theorem dX6_pageAt_20 : decode cX6_pageAt 20 = .ok (.aconst_null, 1) := by decide +kernel
theorem dX6_pageAt_21 : decode cX6_pageAt 21 = .ok (.goto 9, 3) := by decide +kernel
theorem dX6_pageAt_24 : decode cX6_pageAt 24 = .ok (.aload_n 0, 1) := by decide +kernel
theorem dX6_pageAt_25 : decode cX6_pageAt 25 = .ok (.getfield 11, 3) := by decide +kernel
theorem dX6_pageAt_28 : decode cX6_pageAt 28 = .ok (.iload_n 1, 1) := by decide +kernel
theorem dX6_pageAt_29 : decode cX6_pageAt 29 = .ok (.aaload, 1) := by decide +kernel
theorem dX6_pageAt_30 : decode cX6_pageAt 30 = .ok (.areturn, 1) := by decide +kernel
theorem nmX6_pageAt : mm_nm yX6_pageAt 1 := ⟨by decide, by decide, by decide +kernel⟩
theorem cdX6_pageAt : mm_cd cd_Y yX6_pageAt cX6_pageAt 2 (some (.object "CaptionDesk$Page")) := ⟨tw_219, tw_2⟩
abbrev rmX6_pageAt : Room := { frames := 1, cells := 0, slots := 0, locals := 21 }
def fX6_pageAt (p0 : Nat) (p1 : Int32) (σ : mm_M) : Option (Option Nat × mm_M) :=
  mm_sh σ p0 (.inl 6) ((if (fX8_isOutside p1 (mm_I σ p0 1)) = 0 then (if (fX8_isOutside p1 20) = 0 then mm_on (mm_R σ p0 0) fun q4 => mm_ar σ q4 5 fun n5 => mm_ib p1 n5 (some (mm_R σ q4 p1.toNatClampNeg, σ)) else some (none, σ)) else some (none, σ)))
set_option maxHeartbeats 4000000 in
set_option maxRecDepth 100000 in
theorem kX6_pageAt {G : mm_G} {A : Nat → Prop} (p0 : Nat) (p1 : Int32) {σ : mm_M} {R : (Option Nat × mm_M)} (hf : fX6_pageAt p0 p1 σ = some R) : mm_C cd_Y G yX6_pageAt cX6_pageAt 2 (some (.object "CaptionDesk$Page")) rmX6_pageAt A [.ref p0, .int p1] σ (mm_Pr R.1 R.2) := by
  refine mm_C.of (by decide) (Nat.le_of_ble_eq_true rfl) ?_
  unfold fX6_pageAt at hf
  have e0 : lv_args 0 [.ref p0, .int p1] = [(0, .ref p0), (1, .int p1)] := rfl
  rw [e0]
  generalize hini : ((yX6_pageAt.name == "<init>"), none) = ini
  clear e0
  clear hini
  refine mm_iload_n (j := 1) dX6_pageAt_0 rfl rfl ?_
  refine mm_aload_n (j := 0) dX6_pageAt_1 rfl rfl ?_
  obtain ⟨hs1, hf⟩ := mm_sh_s hf
  refine mm_get (c := 6) (k := 1) (v := .int (mm_I σ p0 1)) cd_ok ⟨_, _, _, rfl, by decide, Or.inl tw_39⟩ hs1 rfl dX6_pageAt_2 ?_
  refine mm_callSi cd_ok (kX8_isOutside p1 (mm_I σ p0 1) _ rfl) (Or.inr ⟨_, tn_15⟩) cdX8_isOutside tw_221 nmX8_isOutside rfl rfl (by simp only [List.map_cons, List.map_nil, mm_rf_cat]; exact Nat.le_of_ble_eq_true rfl) dX6_pageAt_5 ⟨Nat.le_of_ble_eq_true rfl, Nat.le_of_ble_eq_true rfl⟩ ⟨Nat.le_of_ble_eq_true rfl, Nat.le_of_ble_eq_true rfl⟩ ?_
  refine mm_if_ne (tgt := 20) dX6_pageAt_8 (by decide) (fun c2 => ?_) (fun c2 => ?_)
  · rw [if_neg c2] at hf
    refine mm_null dX6_pageAt_20 ?_
    refine mm_goto (tgt := 30) dX6_pageAt_21 (by decide) ?_
    cases hf
    refine mm_widen (ck' := rmX6_pageAt.cells) (sk' := rmX6_pageAt.slots) (Nat.le_of_ble_eq_true rfl) (Nat.le_of_ble_eq_true rfl) ?_
    exact mm_aret rfl rfl (mm_rf_of (none)) dX6_pageAt_30 ⟨rfl, rfl⟩
  · rw [if_pos c2] at hf
    refine mm_iload_n (j := 1) dX6_pageAt_11 rfl rfl ?_
    refine mm_bipush (v := 20) dX6_pageAt_12 (by decide) ?_
    refine mm_callSi cd_ok (kX8_isOutside p1 20 _ rfl) (Or.inr ⟨_, tn_15⟩) cdX8_isOutside tw_221 nmX8_isOutside rfl rfl (by simp only [List.map_cons, List.map_nil, mm_rf_cat]; exact Nat.le_of_ble_eq_true rfl) dX6_pageAt_14 ⟨Nat.le_of_ble_eq_true rfl, Nat.le_of_ble_eq_true rfl⟩ ⟨Nat.le_of_ble_eq_true rfl, Nat.le_of_ble_eq_true rfl⟩ ?_
    refine mm_if_eq (tgt := 24) dX6_pageAt_17 (by decide) (fun c3 => ?_) (fun c3 => ?_)
    · rw [if_pos c3] at hf
      refine mm_aload_n (j := 0) dX6_pageAt_24 rfl rfl ?_
      refine mm_get (c := 6) (k := 0) (v := va_rf (mm_R σ p0 0)) cd_ok ⟨_, _, _, rfl, by decide, Or.inl tw_38⟩ hs1 rfl dX6_pageAt_25 ?_
      refine mm_iload_n (j := 1) dX6_pageAt_28 rfl rfl ?_
      obtain ⟨q4, hq4, hf⟩ := mm_on_s hf
      rw [hq4, mm_rf_some]
      obtain ⟨n5, hn5, hf⟩ := mm_ar_s hf
      obtain ⟨hi6, hf⟩ := mm_ib_s hf
      refine mm_aald (v := va_rf (mm_R σ q4 p1.toNatClampNeg)) hn5 rfl hi6 rfl dX6_pageAt_29 ?_
      cases hf
      refine mm_widen (ck' := rmX6_pageAt.cells) (sk' := rmX6_pageAt.slots) (Nat.le_of_ble_eq_true rfl) (Nat.le_of_ble_eq_true rfl) ?_
      exact mm_aret rfl rfl (mm_rf_of (mm_R σ q4 p1.toNatClampNeg)) dX6_pageAt_30 ⟨rfl, rfl⟩
    · rw [if_neg c3] at hf
      refine mm_null dX6_pageAt_20 ?_
      refine mm_goto (tgt := 30) dX6_pageAt_21 (by decide) ?_
      cases hf
      refine mm_widen (ck' := rmX6_pageAt.cells) (sk' := rmX6_pageAt.slots) (Nat.le_of_ble_eq_true rfl) (Nat.le_of_ble_eq_true rfl) ?_
      exact mm_aret rfl rfl (mm_rf_of (none)) dX6_pageAt_30 ⟨rfl, rfl⟩
theorem dX6_placeOf_0 : decode cX6_placeOf 0 = .ok (.aload_n 0, 1) := by decide +kernel
theorem dX6_placeOf_1 : decode cX6_placeOf 1 = .ok (.getfield 17, 3) := by decide +kernel
theorem dX6_placeOf_4 : decode cX6_placeOf 4 = .ok (.iconst 1, 1) := by decide +kernel
theorem dX6_placeOf_5 : decode cX6_placeOf 5 = .ok (.isub, 1) := by decide +kernel
theorem dX6_placeOf_6 : decode cX6_placeOf 6 = .ok (.istore 4, 2) := by decide +kernel
theorem dX6_placeOf_8 : decode cX6_placeOf 8 = .ok (.iload 4, 2) := by decide +kernel
theorem dX6_placeOf_10 : decode cX6_placeOf 10 = .ok (.ifCond .lt 36, 3) := by decide +kernel
theorem dX6_placeOf_13 : decode cX6_placeOf 13 = .ok (.aload_n 0, 1) := by decide +kernel
theorem dX6_placeOf_14 : decode cX6_placeOf 14 = .ok (.iload 4, 2) := by decide +kernel
theorem dX6_placeOf_16 : decode cX6_placeOf 16 = .ok (.invokevirtual 25, 3) := by decide +kernel
theorem dX6_placeOf_19 : decode cX6_placeOf 19 = .ok (.astore 5, 2) := by decide +kernel
theorem dX6_placeOf_21 : decode cX6_placeOf 21 = .ok (.aload 5, 2) := by decide +kernel
theorem dX6_placeOf_23 : decode cX6_placeOf 23 = .ok (.ifnull 17, 3) := by decide +kernel
theorem dX6_placeOf_26 : decode cX6_placeOf 26 = .ok (.aload 5, 2) := by decide +kernel
theorem dX6_placeOf_28 : decode cX6_placeOf 28 = .ok (.iload_n 1, 1) := by decide +kernel
theorem dX6_placeOf_29 : decode cX6_placeOf 29 = .ok (.iload_n 2, 1) := by decide +kernel
theorem dX6_placeOf_30 : decode cX6_placeOf 30 = .ok (.iload_n 3, 1) := by decide +kernel
theorem dX6_placeOf_31 : decode cX6_placeOf 31 = .ok (.invokevirtual 29, 3) := by decide +kernel
theorem dX6_placeOf_34 : decode cX6_placeOf 34 = .ok (.ifCond .eq 6, 3) := by decide +kernel
theorem dX6_placeOf_37 : decode cX6_placeOf 37 = .ok (.iload 4, 2) := by decide +kernel
theorem dX6_placeOf_39 : decode cX6_placeOf 39 = .ok (.ireturn, 1) := by decide +kernel
theorem dX6_placeOf_40 : decode cX6_placeOf 40 = .ok (.iinc 4 (-1), 3) := by decide +kernel
theorem dX6_placeOf_43 : decode cX6_placeOf 43 = .ok (.goto (-35), 3) := by decide +kernel
theorem dX6_placeOf_46 : decode cX6_placeOf 46 = .ok (.iconst (-1), 1) := by decide +kernel
theorem dX6_placeOf_47 : decode cX6_placeOf 47 = .ok (.ireturn, 1) := by decide +kernel
theorem nmX6_placeOf : mm_nm yX6_placeOf 3 := ⟨by decide, by decide, by decide +kernel⟩
theorem cdX6_placeOf : mm_cd cd_Y yX6_placeOf cX6_placeOf 6 (some .int) := ⟨tw_215, tw_2⟩
abbrev rmX6_placeOf : Room := { frames := 2, cells := 0, slots := 0, locals := 42 }
def fX6_placeOf_8  : Nat → Nat → Int32 → Int32 → Int32 → Int32 → mm_M → Option (Int32 × mm_M)
  | 0 => fun _ _ _ _ _ _ => none
  | n + 1 => fun a0 x1 x2 x3 x4 σ =>
  (if x4 < 0 then some ((-1), σ) else mm_sh σ a0 (.inl 6) (mm_on (fX6_pageAt a0 x4 σ) fun q4 => (mm_nu (q4.1) (fX6_placeOf_8  n a0 x1 x2 x3 (x4 + (-1)) q4.2) fun q5 => mm_sh q4.2 q5 (.inl 3) (mm_on (fX3_hasName q5 x1 x2 x3 q4.2) fun q7 => (if q7.1 = 0 then (fX6_placeOf_8  n a0 x1 x2 x3 (x4 + (-1)) q7.2) else some (x4, q7.2))))))
def fX6_placeOf (p0 : Nat) (p1 : Int32) (p2 : Int32) (p3 : Int32) (σ : mm_M) : Option (Int32 × mm_M) :=
  mm_sh σ p0 (.inl 6) ((fX6_placeOf_8  mm_fuel p0 p1 p2 p3 ((mm_I σ p0 1) - 1) σ))
set_option maxHeartbeats 4000000 in
set_option maxRecDepth 100000 in
theorem kX6_placeOf_8 {G : mm_G} {A : Nat → Prop} {ini : Bool × Option (List (Nat × Nat × Nat × Nat))}  {R : (Int32 × mm_M)}  : ∀ (a0 : Nat) (x1 : Int32) (x2 : Int32) (x3 : Int32) (x4 : Int32) (σ : mm_M), fX6_placeOf_8  mm_fuel a0 x1 x2 x3 x4 σ = some R → mm_J cd_Y G RX6 cX6_placeOf 6 (some .int) ini rmX6_placeOf A (mm_QF cd_Y G A (mm_Pi R.1 R.2) rmX6_placeOf.cells rmX6_placeOf.slots) 8 [(0, .ref a0), (1, .int x1), (2, .int x2), (3, .int x3), (4, .int x4)] [] σ 0 0 := by
  generalize mm_fuel = n
  induction n with
  | zero => intro a0 x1 x2 x3 x4 σ hf; cases hf
  | succ n ih =>
    intro a0 x1 x2 x3 x4 σ hf
    unfold fX6_placeOf_8 at hf
    refine mm_iload (j := 4) dX6_placeOf_8 rfl ?_
    refine mm_if_lt (tgt := 46) dX6_placeOf_10 (by decide) (fun c2 => ?_) (fun c2 => ?_)
    · rw [if_pos c2] at hf
      refine mm_iconst (v := (-1)) dX6_placeOf_46 (by decide) ?_
      cases hf
      refine mm_widen (ck' := rmX6_placeOf.cells) (sk' := rmX6_placeOf.slots) (Nat.le_of_ble_eq_true rfl) (Nat.le_of_ble_eq_true rfl) ?_
      exact mm_iret rfl rfl dX6_placeOf_47 ⟨rfl, rfl⟩
    · rw [if_neg c2] at hf
      refine mm_aload_n (j := 0) dX6_placeOf_13 rfl rfl ?_
      refine mm_iload (j := 4) dX6_placeOf_14 rfl ?_
      obtain ⟨hs3, hf⟩ := mm_sh_s hf
      obtain ⟨q4, hq4, hf⟩ := mm_on_s hf
      refine mm_callVo cd_ok (kX6_pageAt a0 x4 hq4) hs3 rfl (Or.inl tw_216) cdX6_pageAt tw_217 tw_218 nmX6_pageAt rfl rfl (by simp only [List.map_cons, List.map_nil, mm_rf_cat]; exact Nat.le_of_ble_eq_true rfl) dX6_placeOf_16 ⟨Nat.le_of_ble_eq_true rfl, Nat.le_of_ble_eq_true rfl⟩ ⟨Nat.le_of_ble_eq_true rfl, Nat.le_of_ble_eq_true rfl⟩ ?_
      refine mm_astoreR (L' := [(5, va_rf (q4.1)), (0, .ref a0), (1, .int x1), (2, .int x2), (3, .int x3), (4, .int x4)]) dX6_placeOf_19 (by decide) rfl ?_
      refine mm_aloadR (j := 0) dX6_placeOf_21 rfl ?_
      rcases hq5 : (q4.1) with _ | q5
      · rw [mm_nu_n hq5] at hf
        try rw [mm_rf_none]
        refine mm_ifnullN (tgt := 40) dX6_placeOf_23 (by decide) ?_
        refine mm_iinc (j := 5) (L' := [(4, .int (x4 + (-1))), (5, .null), (0, .ref a0), (1, .int x1), (2, .int x2), (3, .int x3)]) dX6_placeOf_40 rfl rfl (by decide) rfl ?_
        refine mm_goto (tgt := 8) dX6_placeOf_43 (by decide) ?_
        refine mm_sub [2, 3, 4, 5, 0] rfl ?_
        exact ih a0 x1 x2 x3 (x4 + (-1)) q4.2 hf
      · rw [mm_nu_s hq5] at hf
        try rw [mm_rf_some]
        refine mm_ifnull dX6_placeOf_23 ?_
        refine mm_aload (j := 0) dX6_placeOf_26 rfl ?_
        refine mm_iload_n (j := 2) dX6_placeOf_28 rfl rfl ?_
        refine mm_iload_n (j := 3) dX6_placeOf_29 rfl rfl ?_
        refine mm_iload_n (j := 4) dX6_placeOf_30 rfl rfl ?_
        obtain ⟨hs6, hf⟩ := mm_sh_s hf
        obtain ⟨q7, hq7, hf⟩ := mm_on_s hf
        refine mm_callVi cd_ok (kX3_hasName q5 x1 x2 x3 hq7) hs6 rfl (Or.inl tw_223) cdX3_hasName tw_224 tw_225 nmX3_hasName rfl rfl (by simp only [List.map_cons, List.map_nil, mm_rf_cat]; exact Nat.le_of_ble_eq_true rfl) dX6_placeOf_31 ⟨Nat.le_of_ble_eq_true rfl, Nat.le_of_ble_eq_true rfl⟩ ⟨Nat.le_of_ble_eq_true rfl, Nat.le_of_ble_eq_true rfl⟩ ?_
        refine mm_if_eq (tgt := 40) dX6_placeOf_34 (by decide) (fun c8 => ?_) (fun c8 => ?_)
        · rw [if_pos c8] at hf
          refine mm_iinc (j := 5) (L' := [(4, .int (x4 + (-1))), (5, .ref q5), (0, .ref a0), (1, .int x1), (2, .int x2), (3, .int x3)]) dX6_placeOf_40 rfl rfl (by decide) rfl ?_
          refine mm_goto (tgt := 8) dX6_placeOf_43 (by decide) ?_
          refine mm_sub [2, 3, 4, 5, 0] rfl ?_
          exact ih a0 x1 x2 x3 (x4 + (-1)) q7.2 hf
        · rw [if_neg c8] at hf
          refine mm_iload (j := 5) dX6_placeOf_37 rfl ?_
          cases hf
          refine mm_widen (ck' := rmX6_placeOf.cells) (sk' := rmX6_placeOf.slots) (Nat.le_of_ble_eq_true rfl) (Nat.le_of_ble_eq_true rfl) ?_
          exact mm_iret rfl rfl dX6_placeOf_39 ⟨rfl, rfl⟩
set_option maxHeartbeats 4000000 in
set_option maxRecDepth 100000 in
theorem kX6_placeOf {G : mm_G} {A : Nat → Prop} (p0 : Nat) (p1 : Int32) (p2 : Int32) (p3 : Int32) {σ : mm_M} {R : (Int32 × mm_M)} (hf : fX6_placeOf p0 p1 p2 p3 σ = some R) : mm_C cd_Y G yX6_placeOf cX6_placeOf 6 (some .int) rmX6_placeOf A [.ref p0, .int p1, .int p2, .int p3] σ (mm_Pi R.1 R.2) := by
  refine mm_C.of (by decide) (Nat.le_of_ble_eq_true rfl) ?_
  unfold fX6_placeOf at hf
  have e0 : lv_args 0 [.ref p0, .int p1, .int p2, .int p3] = [(0, .ref p0), (1, .int p1), (2, .int p2), (3, .int p3)] := rfl
  rw [e0]
  generalize hini : ((yX6_placeOf.name == "<init>"), none) = ini
  clear e0
  clear hini
  refine mm_aload_n (j := 0) dX6_placeOf_0 rfl rfl ?_
  obtain ⟨hs1, hf⟩ := mm_sh_s hf
  refine mm_get (c := 6) (k := 1) (v := .int (mm_I σ p0 1)) cd_ok ⟨_, _, _, rfl, by decide, Or.inl tw_39⟩ hs1 rfl dX6_placeOf_1 ?_
  refine mm_iconst (v := 1) dX6_placeOf_4 (by decide) ?_
  refine mm_isub dX6_placeOf_5 ?_
  refine mm_istore (L' := [(4, .int ((mm_I σ p0 1) - 1)), (0, .ref p0), (1, .int p1), (2, .int p2), (3, .int p3)]) dX6_placeOf_6 (by decide) rfl ?_
  refine mm_sub [1, 2, 3, 4, 0] rfl ?_
  exact kX6_placeOf_8  p0 p1 p2 p3 ((mm_I σ p0 1) - 1) σ hf
