theorem dX4_eraseRows_0 : decode cX4_eraseRows 0 = .ok (.iload_n 1, 1) := by decide +kernel
theorem dX4_eraseRows_1 : decode cX4_eraseRows 1 = .ok (.iconst 0, 1) := by decide +kernel
theorem dX4_eraseRows_2 : decode cX4_eraseRows 2 = .ok (.invokestatic 23, 3) := by decide +kernel
theorem dX4_eraseRows_5 : decode cX4_eraseRows 5 = .ok (.istore_n 2, 1) := by decide +kernel
theorem dX4_eraseRows_6 : decode cX4_eraseRows 6 = .ok (.iload_n 2, 1) := by decide +kernel
theorem dX4_eraseRows_7 : decode cX4_eraseRows 7 = .ok (.bipush 25, 2) := by decide +kernel
theorem dX4_eraseRows_9 : decode cX4_eraseRows 9 = .ok (.if_icmp .ge 33, 3) := by decide +kernel
theorem dX4_eraseRows_12 : decode cX4_eraseRows 12 = .ok (.aload_n 0, 1) := by decide +kernel
theorem dX4_eraseRows_13 : decode cX4_eraseRows 13 = .ok (.getfield 15, 3) := by decide +kernel
theorem dX4_eraseRows_16 : decode cX4_eraseRows 16 = .ok (.iload_n 2, 1) := by decide +kernel
theorem dX4_eraseRows_17 : decode cX4_eraseRows 17 = .ok (.baload, 1) := by decide +kernel
theorem dX4_eraseRows_18 : decode cX4_eraseRows 18 = .ok (.ifCond .eq 18, 3) := by decide +kernel
theorem dX4_eraseRows_21 : decode cX4_eraseRows 21 = .ok (.aload_n 0, 1) := by decide +kernel
theorem dX4_eraseRows_22 : decode cX4_eraseRows 22 = .ok (.iload_n 2, 1) := by decide +kernel
theorem dX4_eraseRows_23 : decode cX4_eraseRows 23 = .ok (.bipush 40, 2) := by decide +kernel
theorem dX4_eraseRows_25 : decode cX4_eraseRows 25 = .ok (.iconst 0, 1) := by decide +kernel
theorem dX4_eraseRows_26 : decode cX4_eraseRows 26 = .ok (.invokevirtual 29, 3) := by decide +kernel
theorem dX4_eraseRows_29 : decode cX4_eraseRows 29 = .ok (.aload_n 0, 1) := by decide +kernel
theorem dX4_eraseRows_30 : decode cX4_eraseRows 30 = .ok (.getfield 15, 3) := by decide +kernel
theorem dX4_eraseRows_33 : decode cX4_eraseRows 33 = .ok (.iload_n 2, 1) := by decide +kernel
theorem dX4_eraseRows_34 : decode cX4_eraseRows 34 = .ok (.iconst 0, 1) := by decide +kernel
theorem dX4_eraseRows_35 : decode cX4_eraseRows 35 = .ok (.bastore, 1) := by decide +kernel
theorem dX4_eraseRows_36 : decode cX4_eraseRows 36 = .ok (.iinc 2 1, 3) := by decide +kernel
theorem dX4_eraseRows_39 : decode cX4_eraseRows 39 = .ok (.goto (-33), 3) := by decide +kernel
theorem dX4_eraseRows_42 : decode cX4_eraseRows 42 = .ok (.return_, 1) := by decide +kernel
theorem nmX4_eraseRows : mm_nm yX4_eraseRows 1 := ⟨by decide, by decide, by decide +kernel⟩
theorem cdX4_eraseRows : mm_cd cd_Y yX4_eraseRows cX4_eraseRows 3 none := ⟨tw_592, tw_4⟩
abbrev rmX4_eraseRows : Room := { frames := 1, cells := 0, slots := 0, locals := 24 }
def fX4_eraseRows_6  : Nat → Nat → Int32 → Int32 → mm_M → Option mm_M
  | 0 => fun _ _ _ _ => none
  | n + 1 => fun a0 x1 x2 σ =>
  (if 25 ≤ x2 then some (σ) else mm_sh σ a0 (.inl 4) (mm_on (mm_R σ a0 1) fun q3 => mm_ar σ q3 1 fun n4 => mm_ib x2 n4 ((if (mm_I σ q3 x2.toNatClampNeg) = 0 then (fX4_eraseRows_6  n a0 x1 (x2 + 1) σ) else mm_on (fX4_setSigns a0 x2 40 0 σ) fun q7 => mm_sh q7 a0 (.inl 4) (mm_on (mm_R q7 a0 1) fun q9 => mm_ar q7 q9 1 fun n10 => mm_ib x2 n10 ((fX4_eraseRows_6  n a0 x1 (x2 + 1) (mm_wI q7 q9 (x2.toNatClampNeg) (vp_nar .boolean 0)))))))))
def fX4_eraseRows (p0 : Nat) (p1 : Int32) (σ : mm_M) : Option mm_M :=
  (fX4_eraseRows_6  mm_fuel p0 p1 (if p1 < 0 then 0 else p1) σ)
set_option maxHeartbeats 4000000 in
set_option maxRecDepth 100000 in
theorem kX4_eraseRows_6 {G : mm_G} {A : Nat → Prop} {ini : Bool}  {R : mm_M}  : ∀ (a0 : Nat) (x1 : Int32) (x2 : Int32) (σ : mm_M), fX4_eraseRows_6  mm_fuel a0 x1 x2 σ = some R → mm_J cd_Y G RX4 cX4_eraseRows 3 none ini rmX4_eraseRows A (mm_QF cd_Y G A (mm_Pv R) rmX4_eraseRows.cells rmX4_eraseRows.slots) 6 [(0, .ref a0), (1, .int x1), (2, .int x2)] [] σ 0 0 := by
  generalize mm_fuel = n
  induction n with
  | zero => intro a0 x1 x2 σ hf; cases hf
  | succ n ih =>
    intro a0 x1 x2 σ hf
    unfold fX4_eraseRows_6 at hf
    refine mm_iload_n (j := 2) dX4_eraseRows_6 rfl rfl ?_
    refine mm_bipush (v := 25) dX4_eraseRows_7 (by decide) ?_
    refine mm_icmp_ge (tgt := 42) dX4_eraseRows_9 (by decide) (fun c1 => ?_) (fun c1 => ?_)
    · rw [if_pos c1] at hf
      cases hf
      exact mm_vret rfl dX4_eraseRows_42 ⟨rfl, rfl⟩
    · rw [if_neg c1] at hf
      refine mm_aload_n (j := 0) dX4_eraseRows_12 rfl rfl ?_
      obtain ⟨hs2, hf⟩ := mm_sh_s hf
      refine mm_get (c := 4) (k := 1) (v := va_rf (mm_R σ a0 1)) cd_ok ⟨_, _, _, rfl, by decide, Or.inl tw_60⟩ hs2 rfl dX4_eraseRows_13 ?_
      refine mm_iload_n (j := 2) dX4_eraseRows_16 rfl rfl ?_
      obtain ⟨q3, hq3, hf⟩ := mm_on_s hf
      rw [hq3, mm_rf_some]
      obtain ⟨n4, hn4, hf⟩ := mm_ar_s hf
      obtain ⟨hi5, hf⟩ := mm_ib_s hf
      refine mm_zald hn4 rfl hi5 dX4_eraseRows_17 ?_
      refine mm_if_eq (tgt := 36) dX4_eraseRows_18 (by decide) (fun c6 => ?_) (fun c6 => ?_)
      · rw [if_pos c6] at hf
        refine mm_iinc (j := 2) (L' := [(2, .int (x2 + 1)), (0, .ref a0), (1, .int x1)]) dX4_eraseRows_36 rfl rfl (by decide) rfl ?_
        refine mm_goto (tgt := 6) dX4_eraseRows_39 (by decide) ?_
        refine mm_sub [1, 2, 0] rfl ?_
        exact ih a0 x1 (x2 + 1) σ hf
      · rw [if_neg c6] at hf
        refine mm_aload_n (j := 0) dX4_eraseRows_21 rfl rfl ?_
        refine mm_iload_n (j := 2) dX4_eraseRows_22 rfl rfl ?_
        refine mm_bipush (v := 40) dX4_eraseRows_23 (by decide) ?_
        refine mm_iconst (v := 0) dX4_eraseRows_25 (by decide) ?_
        obtain ⟨q7, hq7, hf⟩ := mm_on_s hf
        refine mm_callVv cd_ok (kX4_setSigns a0 x2 40 0 hq7) hs2 rfl (Or.inl tw_594) cdX4_setSigns tw_596 ts_22 nmX4_setSigns rfl rfl (by simp only [List.map_cons, List.map_nil, mm_rf_cat]; exact Nat.le_of_ble_eq_true rfl) dX4_eraseRows_26 ⟨Nat.le_of_ble_eq_true rfl, Nat.le_of_ble_eq_true rfl⟩ ⟨Nat.le_of_ble_eq_true rfl, Nat.le_of_ble_eq_true rfl⟩ ?_
        refine mm_aload_n (j := 0) dX4_eraseRows_29 rfl rfl ?_
        obtain ⟨hs8, hf⟩ := mm_sh_s hf
        refine mm_get (c := 4) (k := 1) (v := va_rf (mm_R q7 a0 1)) cd_ok ⟨_, _, _, rfl, by decide, Or.inl tw_60⟩ hs8 rfl dX4_eraseRows_30 ?_
        refine mm_iload_n (j := 2) dX4_eraseRows_33 rfl rfl ?_
        refine mm_iconst (v := 0) dX4_eraseRows_34 (by decide) ?_
        obtain ⟨q9, hq9, hf⟩ := mm_on_s hf
        rw [hq9, mm_rf_some]
        obtain ⟨n10, hn10, hf⟩ := mm_ar_s hf
        obtain ⟨hi11, hf⟩ := mm_ib_s hf
        refine mm_zast hn10 rfl hi11 dX4_eraseRows_35 ?_
        refine mm_iinc (j := 2) (L' := [(2, .int (x2 + 1)), (0, .ref a0), (1, .int x1)]) dX4_eraseRows_36 rfl rfl (by decide) rfl ?_
        refine mm_goto (tgt := 6) dX4_eraseRows_39 (by decide) ?_
        refine mm_sub [1, 2, 0] rfl ?_
        exact ih a0 x1 (x2 + 1) (mm_wI q7 q9 (x2.toNatClampNeg) (vp_nar .boolean 0)) hf
set_option maxHeartbeats 4000000 in
set_option maxRecDepth 100000 in
theorem kX4_eraseRows {G : mm_G} {A : Nat → Prop} (p0 : Nat) (p1 : Int32) {σ : mm_M} {R : mm_M} (hf : fX4_eraseRows p0 p1 σ = some R) : mm_C cd_Y G yX4_eraseRows cX4_eraseRows 3 none rmX4_eraseRows A [.ref p0, .int p1] σ (mm_Pv R) := by
  refine mm_C.of (by decide) (Nat.le_of_ble_eq_true rfl) ?_
  unfold fX4_eraseRows at hf
  have e0 : lv_args 0 [.ref p0, .int p1] = [(0, .ref p0), (1, .int p1)] := rfl
  rw [e0]
  generalize hini : (yX4_eraseRows.name == "<init>") = ini
  clear e0
  clear hini
  refine mm_iload_n (j := 1) dX4_eraseRows_0 rfl rfl ?_
  refine mm_iconst (v := 0) dX4_eraseRows_1 (by decide) ?_
  refine mm_mmax tw_593 tw_358 tw_14 tw_359 (by decide) (by simp only [List.map_cons, List.map_nil, mm_rf_cat]; exact Nat.le_of_ble_eq_true rfl) (by decide) (by decide) dX4_eraseRows_2 ?_
  refine mm_istore_n (L' := [(2, .int (if p1 < 0 then 0 else p1)), (0, .ref p0), (1, .int p1)]) dX4_eraseRows_5 rfl (by decide) rfl ?_
  refine mm_sub [1, 2, 0] rfl ?_
  exact kX4_eraseRows_6  p0 p1 (if p1 < 0 then 0 else p1) σ hf
theorem dX4_addTo_0 : decode cX4_addTo 0 = .ok (.iconst 1, 1) := by decide +kernel
theorem dX4_addTo_1 : decode cX4_addTo 1 = .ok (.istore_n 2, 1) := by decide +kernel
theorem dX4_addTo_2 : decode cX4_addTo 2 = .ok (.iload_n 2, 1) := by decide +kernel
theorem dX4_addTo_3 : decode cX4_addTo 3 = .ok (.bipush 25, 2) := by decide +kernel
theorem dX4_addTo_5 : decode cX4_addTo 5 = .ok (.if_icmp .ge 32, 3) := by decide +kernel
theorem dX4_addTo_8 : decode cX4_addTo 8 = .ok (.aload_n 0, 1) := by decide +kernel
theorem dX4_addTo_9 : decode cX4_addTo 9 = .ok (.getfield 15, 3) := by decide +kernel
theorem dX4_addTo_12 : decode cX4_addTo 12 = .ok (.iload_n 2, 1) := by decide +kernel
theorem dX4_addTo_13 : decode cX4_addTo 13 = .ok (.baload, 1) := by decide +kernel
theorem dX4_addTo_14 : decode cX4_addTo 14 = .ok (.ifCond .eq 17, 3) := by decide +kernel
theorem dX4_addTo_17 : decode cX4_addTo 17 = .ok (.aload_n 1, 1) := by decide +kernel
theorem dX4_addTo_18 : decode cX4_addTo 18 = .ok (.aload_n 0, 1) := by decide +kernel
theorem dX4_addTo_19 : decode cX4_addTo 19 = .ok (.getfield 9, 3) := by decide +kernel
theorem dX4_addTo_22 : decode cX4_addTo 22 = .ok (.iload_n 2, 1) := by decide +kernel
theorem dX4_addTo_23 : decode cX4_addTo 23 = .ok (.bipush 40, 2) := by decide +kernel
theorem dX4_addTo_25 : decode cX4_addTo 25 = .ok (.imul, 1) := by decide +kernel
theorem dX4_addTo_26 : decode cX4_addTo 26 = .ok (.bipush 40, 2) := by decide +kernel
theorem dX4_addTo_28 : decode cX4_addTo 28 = .ok (.invokevirtual 43, 3) := by decide +kernel
theorem dX4_addTo_31 : decode cX4_addTo 31 = .ok (.iinc 2 1, 3) := by decide +kernel
theorem dX4_addTo_34 : decode cX4_addTo 34 = .ok (.goto (-32), 3) := by decide +kernel
theorem dX4_addTo_37 : decode cX4_addTo 37 = .ok (.return_, 1) := by decide +kernel
theorem nmX4_addTo : mm_nm yX4_addTo 1 := ⟨by decide, by decide, by decide +kernel⟩
theorem cdX4_addTo : mm_cd cd_Y yX4_addTo cX4_addTo 3 none := ⟨tw_715, tw_4⟩
abbrev rmX4_addTo : Room := { frames := 2, cells := 0, slots := 0, locals := 47 }
def fX4_addTo_2  : Nat → Nat → Nat → Int32 → mm_M → Option mm_M
  | 0 => fun _ _ _ _ => none
  | n + 1 => fun a0 a1 x2 σ =>
  (if 25 ≤ x2 then some (σ) else mm_sh σ a0 (.inl 4) (mm_on (mm_R σ a0 1) fun q3 => mm_ar σ q3 1 fun n4 => mm_ib x2 n4 ((if (mm_I σ q3 x2.toNatClampNeg) = 0 then (fX4_addTo_2  n a0 a1 (x2 + 1) σ) else mm_on (mm_R σ a0 0) fun q7 => mm_sh σ a1 (.inl 2) (mm_on (fX2_addRow a1 q7 (x2 * 40) 40 σ) fun q9 => (fX4_addTo_2  n a0 a1 (x2 + 1) q9))))))
def fX4_addTo (p0 : Nat) (p1 : Nat) (σ : mm_M) : Option mm_M :=
  (fX4_addTo_2  mm_fuel p0 p1 1 σ)
set_option maxHeartbeats 4000000 in
set_option maxRecDepth 100000 in
theorem kX4_addTo_2 {G : mm_G} {A : Nat → Prop} {ini : Bool}  {R : mm_M}  : ∀ (a0 : Nat) (a1 : Nat) (x2 : Int32) (σ : mm_M), fX4_addTo_2  mm_fuel a0 a1 x2 σ = some R → mm_J cd_Y G RX4 cX4_addTo 3 none ini rmX4_addTo A (mm_QF cd_Y G A (mm_Pv R) rmX4_addTo.cells rmX4_addTo.slots) 2 [(0, .ref a0), (1, .ref a1), (2, .int x2)] [] σ 0 0 := by
  generalize mm_fuel = n
  induction n with
  | zero => intro a0 a1 x2 σ hf; cases hf
  | succ n ih =>
    intro a0 a1 x2 σ hf
    unfold fX4_addTo_2 at hf
    refine mm_iload_n (j := 2) dX4_addTo_2 rfl rfl ?_
    refine mm_bipush (v := 25) dX4_addTo_3 (by decide) ?_
    refine mm_icmp_ge (tgt := 37) dX4_addTo_5 (by decide) (fun c1 => ?_) (fun c1 => ?_)
    · rw [if_pos c1] at hf
      cases hf
      exact mm_vret rfl dX4_addTo_37 ⟨rfl, rfl⟩
    · rw [if_neg c1] at hf
      refine mm_aload_n (j := 0) dX4_addTo_8 rfl rfl ?_
      obtain ⟨hs2, hf⟩ := mm_sh_s hf
      refine mm_get (c := 4) (k := 1) (v := va_rf (mm_R σ a0 1)) cd_ok ⟨_, _, _, rfl, by decide, Or.inl tw_60⟩ hs2 rfl dX4_addTo_9 ?_
      refine mm_iload_n (j := 2) dX4_addTo_12 rfl rfl ?_
      obtain ⟨q3, hq3, hf⟩ := mm_on_s hf
      rw [hq3, mm_rf_some]
      obtain ⟨n4, hn4, hf⟩ := mm_ar_s hf
      obtain ⟨hi5, hf⟩ := mm_ib_s hf
      refine mm_zald hn4 rfl hi5 dX4_addTo_13 ?_
      refine mm_if_eq (tgt := 31) dX4_addTo_14 (by decide) (fun c6 => ?_) (fun c6 => ?_)
      · rw [if_pos c6] at hf
        refine mm_iinc (j := 2) (L' := [(2, .int (x2 + 1)), (0, .ref a0), (1, .ref a1)]) dX4_addTo_31 rfl rfl (by decide) rfl ?_
        refine mm_goto (tgt := 2) dX4_addTo_34 (by decide) ?_
        refine mm_sub [1, 2, 0] rfl ?_
        exact ih a0 a1 (x2 + 1) σ hf
      · rw [if_neg c6] at hf
        refine mm_aload_n (j := 1) dX4_addTo_17 rfl rfl ?_
        refine mm_aload_n (j := 0) dX4_addTo_18 rfl rfl ?_
        refine mm_get (c := 4) (k := 0) (v := va_rf (mm_R σ a0 0)) cd_ok ⟨_, _, _, rfl, by decide, Or.inl tw_59⟩ hs2 rfl dX4_addTo_19 ?_
        refine mm_iload_n (j := 2) dX4_addTo_22 rfl rfl ?_
        refine mm_bipush (v := 40) dX4_addTo_23 (by decide) ?_
        refine mm_imul dX4_addTo_25 ?_
        refine mm_bipush (v := 40) dX4_addTo_26 (by decide) ?_
        obtain ⟨q7, hq7, hf⟩ := mm_on_s hf
        rw [hq7, mm_rf_some]
        obtain ⟨hs8, hf⟩ := mm_sh_s hf
        obtain ⟨q9, hq9, hf⟩ := mm_on_s hf
        refine mm_callVv cd_ok (kX2_addRow a1 q7 (x2 * 40) 40 hq9) hs8 rfl (Or.inl tw_716) cdX2_addRow tw_717 tw_718 nmX2_addRow rfl rfl (by simp only [List.map_cons, List.map_nil, mm_rf_cat]; exact Nat.le_of_ble_eq_true rfl) dX4_addTo_28 ⟨Nat.le_of_ble_eq_true rfl, Nat.le_of_ble_eq_true rfl⟩ ⟨Nat.le_of_ble_eq_true rfl, Nat.le_of_ble_eq_true rfl⟩ ?_
        refine mm_iinc (j := 2) (L' := [(2, .int (x2 + 1)), (0, .ref a0), (1, .ref a1)]) dX4_addTo_31 rfl rfl (by decide) rfl ?_
        refine mm_goto (tgt := 2) dX4_addTo_34 (by decide) ?_
        refine mm_sub [1, 2, 0] rfl ?_
        exact ih a0 a1 (x2 + 1) q9 hf
set_option maxHeartbeats 4000000 in
set_option maxRecDepth 100000 in
theorem kX4_addTo {G : mm_G} {A : Nat → Prop} (p0 : Nat) (p1 : Nat) {σ : mm_M} {R : mm_M} (hf : fX4_addTo p0 p1 σ = some R) : mm_C cd_Y G yX4_addTo cX4_addTo 3 none rmX4_addTo A [.ref p0, .ref p1] σ (mm_Pv R) := by
  refine mm_C.of (by decide) (Nat.le_of_ble_eq_true rfl) ?_
  unfold fX4_addTo at hf
  have e0 : lv_args 0 [.ref p0, .ref p1] = [(0, .ref p0), (1, .ref p1)] := rfl
  rw [e0]
  generalize hini : (yX4_addTo.name == "<init>") = ini
  clear e0
  clear hini
  refine mm_iconst (v := 1) dX4_addTo_0 (by decide) ?_
  refine mm_istore_n (L' := [(2, .int 1), (0, .ref p0), (1, .ref p1)]) dX4_addTo_1 rfl (by decide) rfl ?_
  refine mm_sub [1, 2, 0] rfl ?_
  exact kX4_addTo_2  p0 p1 1 σ hf
theorem dX5_letterAt_0 : decode cX5_letterAt 0 = .ok (.iload_n 1, 1) := by decide +kernel
theorem dX5_letterAt_1 : decode cX5_letterAt 1 = .ok (.iload_n 2, 1) := by decide +kernel
theorem dX5_letterAt_2 : decode cX5_letterAt 2 = .ok (.invokestatic 18, 3) := by decide +kernel
theorem dX5_letterAt_5 : decode cX5_letterAt 5 = .ok (.ifCond .eq 16, 3) := by decide +kernel
theorem dX5_letterAt_8 : decode cX5_letterAt 8 = .ok (.aload_n 0, 1) := by decide +kernel
theorem dX5_letterAt_9 : decode cX5_letterAt 9 = .ok (.getfield 9, 3) := by decide +kernel
theorem dX5_letterAt_12 : decode cX5_letterAt 12 = .ok (.iload_n 1, 1) := by decide +kernel
theorem dX5_letterAt_13 : decode cX5_letterAt 13 = .ok (.iload_n 2, 1) := by decide +kernel
theorem dX5_letterAt_14 : decode cX5_letterAt 14 = .ok (.invokestatic 22, 3) := by decide +kernel
theorem dX5_letterAt_17 : decode cX5_letterAt 17 = .ok (.iaload, 1) := by decide +kernel
theorem dX5_letterAt_18 : decode cX5_letterAt 18 = .ok (.goto 4, 3) := by decide +kernel
theorem dX5_letterAt_21 : decode cX5_letterAt 21 = .ok (.iconst 0, 1) := by decide +kernel
theorem dX5_letterAt_22 : decode cX5_letterAt 22 = .ok (.ireturn, 1) := by decide +kernel
theorem nmX5_letterAt : mm_nm yX5_letterAt 2 := ⟨by decide, by decide, by decide +kernel⟩
theorem cdX5_letterAt : mm_cd cd_Y yX5_letterAt cX5_letterAt 3 (some .int) := ⟨tw_432, tw_7⟩
abbrev rmX5_letterAt : Room := { frames := 1, cells := 0, slots := 0, locals := 21 }
def fX5_letterAt (p0 : Nat) (p1 : Int32) (p2 : Int32) (σ : mm_M) : Option (Int32 × mm_M) :=
  (if (fX5_isCell p1 p2) = 0 then some (0, σ) else mm_sh σ p0 (.inl 5) (mm_on (mm_R σ p0 0) fun q3 => mm_ar σ q3 0 fun n4 => mm_ib (fX5_indexOf p1 p2) n4 (some (mm_I σ q3 (fX5_indexOf p1 p2).toNatClampNeg, σ))))
set_option maxHeartbeats 4000000 in
set_option maxRecDepth 100000 in
theorem kX5_letterAt {G : mm_G} {A : Nat → Prop} (p0 : Nat) (p1 : Int32) (p2 : Int32) {σ : mm_M} {R : (Int32 × mm_M)} (hf : fX5_letterAt p0 p1 p2 σ = some R) : mm_C cd_Y G yX5_letterAt cX5_letterAt 3 (some .int) rmX5_letterAt A [.ref p0, .int p1, .int p2] σ (mm_Pi R.1 R.2) := by
  refine mm_C.of (by decide) (Nat.le_of_ble_eq_true rfl) ?_
  unfold fX5_letterAt at hf
  have e0 : lv_args 0 [.ref p0, .int p1, .int p2] = [(0, .ref p0), (1, .int p1), (2, .int p2)] := rfl
  rw [e0]
  generalize hini : (yX5_letterAt.name == "<init>") = ini
  clear e0
  clear hini
  refine mm_iload_n (j := 1) dX5_letterAt_0 rfl rfl ?_
  refine mm_iload_n (j := 2) dX5_letterAt_1 rfl rfl ?_
  refine mm_callSi cd_ok (kX5_isCell p1 p2 _ rfl) (Or.inl tw_333) cdX5_isCell tw_334 nmX5_isCell rfl rfl (by simp only [List.map_cons, List.map_nil, mm_rf_cat]; exact Nat.le_of_ble_eq_true rfl) dX5_letterAt_2 ⟨Nat.le_of_ble_eq_true rfl, Nat.le_of_ble_eq_true rfl⟩ ⟨Nat.le_of_ble_eq_true rfl, Nat.le_of_ble_eq_true rfl⟩ ?_
  refine mm_if_eq (tgt := 21) dX5_letterAt_5 (by decide) (fun c1 => ?_) (fun c1 => ?_)
  · rw [if_pos c1] at hf
    refine mm_iconst (v := 0) dX5_letterAt_21 (by decide) ?_
    cases hf
    exact mm_iret rfl rfl dX5_letterAt_22 ⟨rfl, rfl⟩
  · rw [if_neg c1] at hf
    refine mm_aload_n (j := 0) dX5_letterAt_8 rfl rfl ?_
    obtain ⟨hs2, hf⟩ := mm_sh_s hf
    refine mm_get (c := 5) (k := 0) (v := va_rf (mm_R σ p0 0)) cd_ok ⟨_, _, _, rfl, by decide, Or.inl tw_104⟩ hs2 rfl dX5_letterAt_9 ?_
    refine mm_iload_n (j := 1) dX5_letterAt_12 rfl rfl ?_
    refine mm_iload_n (j := 2) dX5_letterAt_13 rfl rfl ?_
    refine mm_callSi cd_ok (kX5_indexOf p1 p2 _ rfl) (Or.inl tw_336) cdX5_indexOf tw_337 nmX5_indexOf rfl rfl (by simp only [List.map_cons, List.map_nil, mm_rf_cat]; exact Nat.le_of_ble_eq_true rfl) dX5_letterAt_14 ⟨Nat.le_of_ble_eq_true rfl, Nat.le_of_ble_eq_true rfl⟩ ⟨Nat.le_of_ble_eq_true rfl, Nat.le_of_ble_eq_true rfl⟩ ?_
    obtain ⟨q3, hq3, hf⟩ := mm_on_s hf
    rw [hq3, mm_rf_some]
    obtain ⟨n4, hn4, hf⟩ := mm_ar_s hf
    obtain ⟨hi5, hf⟩ := mm_ib_s hf
    refine mm_iald hn4 rfl hi5 dX5_letterAt_17 ?_
    refine mm_goto (tgt := 22) dX5_letterAt_18 (by decide) ?_
    cases hf
    exact mm_iret rfl rfl dX5_letterAt_22 ⟨rfl, rfl⟩
theorem dX5_lookAt_0 : decode cX5_lookAt 0 = .ok (.iload_n 1, 1) := by decide +kernel
theorem dX5_lookAt_1 : decode cX5_lookAt 1 = .ok (.iload_n 2, 1) := by decide +kernel
theorem dX5_lookAt_2 : decode cX5_lookAt 2 = .ok (.invokestatic 18, 3) := by decide +kernel
theorem dX5_lookAt_5 : decode cX5_lookAt 5 = .ok (.ifCond .eq 16, 3) := by decide +kernel
theorem dX5_lookAt_8 : decode cX5_lookAt 8 = .ok (.aload_n 0, 1) := by decide +kernel
theorem dX5_lookAt_9 : decode cX5_lookAt 9 = .ok (.getfield 15, 3) := by decide +kernel
theorem dX5_lookAt_12 : decode cX5_lookAt 12 = .ok (.iload_n 1, 1) := by decide +kernel
theorem dX5_lookAt_13 : decode cX5_lookAt 13 = .ok (.iload_n 2, 1) := by decide +kernel
theorem dX5_lookAt_14 : decode cX5_lookAt 14 = .ok (.invokestatic 22, 3) := by decide +kernel
theorem dX5_lookAt_17 : decode cX5_lookAt 17 = .ok (.iaload, 1) := by decide +kernel
theorem dX5_lookAt_18 : decode cX5_lookAt 18 = .ok (.goto 4, 3) := by decide +kernel
theorem dX5_lookAt_21 : decode cX5_lookAt 21 = .ok (.iconst 0, 1) := by decide +kernel
theorem dX5_lookAt_22 : decode cX5_lookAt 22 = .ok (.ireturn, 1) := by decide +kernel
theorem nmX5_lookAt : mm_nm yX5_lookAt 2 := ⟨by decide, by decide, by decide +kernel⟩
theorem cdX5_lookAt : mm_cd cd_Y yX5_lookAt cX5_lookAt 3 (some .int) := ⟨tw_436, tw_7⟩
abbrev rmX5_lookAt : Room := { frames := 1, cells := 0, slots := 0, locals := 21 }
def fX5_lookAt (p0 : Nat) (p1 : Int32) (p2 : Int32) (σ : mm_M) : Option (Int32 × mm_M) :=
  (if (fX5_isCell p1 p2) = 0 then some (0, σ) else mm_sh σ p0 (.inl 5) (mm_on (mm_R σ p0 1) fun q3 => mm_ar σ q3 0 fun n4 => mm_ib (fX5_indexOf p1 p2) n4 (some (mm_I σ q3 (fX5_indexOf p1 p2).toNatClampNeg, σ))))
set_option maxHeartbeats 4000000 in
set_option maxRecDepth 100000 in
theorem kX5_lookAt {G : mm_G} {A : Nat → Prop} (p0 : Nat) (p1 : Int32) (p2 : Int32) {σ : mm_M} {R : (Int32 × mm_M)} (hf : fX5_lookAt p0 p1 p2 σ = some R) : mm_C cd_Y G yX5_lookAt cX5_lookAt 3 (some .int) rmX5_lookAt A [.ref p0, .int p1, .int p2] σ (mm_Pi R.1 R.2) := by
  refine mm_C.of (by decide) (Nat.le_of_ble_eq_true rfl) ?_
  unfold fX5_lookAt at hf
  have e0 : lv_args 0 [.ref p0, .int p1, .int p2] = [(0, .ref p0), (1, .int p1), (2, .int p2)] := rfl
  rw [e0]
  generalize hini : (yX5_lookAt.name == "<init>") = ini
  clear e0
  clear hini
  refine mm_iload_n (j := 1) dX5_lookAt_0 rfl rfl ?_
  refine mm_iload_n (j := 2) dX5_lookAt_1 rfl rfl ?_
  refine mm_callSi cd_ok (kX5_isCell p1 p2 _ rfl) (Or.inl tw_333) cdX5_isCell tw_334 nmX5_isCell rfl rfl (by simp only [List.map_cons, List.map_nil, mm_rf_cat]; exact Nat.le_of_ble_eq_true rfl) dX5_lookAt_2 ⟨Nat.le_of_ble_eq_true rfl, Nat.le_of_ble_eq_true rfl⟩ ⟨Nat.le_of_ble_eq_true rfl, Nat.le_of_ble_eq_true rfl⟩ ?_
  refine mm_if_eq (tgt := 21) dX5_lookAt_5 (by decide) (fun c1 => ?_) (fun c1 => ?_)
  · rw [if_pos c1] at hf
    refine mm_iconst (v := 0) dX5_lookAt_21 (by decide) ?_
    cases hf
    exact mm_iret rfl rfl dX5_lookAt_22 ⟨rfl, rfl⟩
  · rw [if_neg c1] at hf
    refine mm_aload_n (j := 0) dX5_lookAt_8 rfl rfl ?_
    obtain ⟨hs2, hf⟩ := mm_sh_s hf
    refine mm_get (c := 5) (k := 1) (v := va_rf (mm_R σ p0 1)) cd_ok ⟨_, _, _, rfl, by decide, Or.inl tw_105⟩ hs2 rfl dX5_lookAt_9 ?_
    refine mm_iload_n (j := 1) dX5_lookAt_12 rfl rfl ?_
    refine mm_iload_n (j := 2) dX5_lookAt_13 rfl rfl ?_
    refine mm_callSi cd_ok (kX5_indexOf p1 p2 _ rfl) (Or.inl tw_336) cdX5_indexOf tw_337 nmX5_indexOf rfl rfl (by simp only [List.map_cons, List.map_nil, mm_rf_cat]; exact Nat.le_of_ble_eq_true rfl) dX5_lookAt_14 ⟨Nat.le_of_ble_eq_true rfl, Nat.le_of_ble_eq_true rfl⟩ ⟨Nat.le_of_ble_eq_true rfl, Nat.le_of_ble_eq_true rfl⟩ ?_
    obtain ⟨q3, hq3, hf⟩ := mm_on_s hf
    rw [hq3, mm_rf_some]
    obtain ⟨n4, hn4, hf⟩ := mm_ar_s hf
    obtain ⟨hi5, hf⟩ := mm_ib_s hf
    refine mm_iald hn4 rfl hi5 dX5_lookAt_17 ?_
    refine mm_goto (tgt := 22) dX5_lookAt_18 (by decide) ?_
    cases hf
    exact mm_iret rfl rfl dX5_lookAt_22 ⟨rfl, rfl⟩
theorem dX5_write_0 : decode cX5_write 0 = .ok (.iload_n 1, 1) := by decide +kernel
theorem dX5_write_1 : decode cX5_write 1 = .ok (.iload_n 2, 1) := by decide +kernel
theorem dX5_write_2 : decode cX5_write 2 = .ok (.invokestatic 18, 3) := by decide +kernel
theorem dX5_write_5 : decode cX5_write 5 = .ok (.ifCond .eq 26, 3) := by decide +kernel
theorem dX5_write_8 : decode cX5_write 8 = .ok (.aload_n 0, 1) := by decide +kernel
theorem dX5_write_9 : decode cX5_write 9 = .ok (.getfield 9, 3) := by decide +kernel
theorem dX5_write_12 : decode cX5_write 12 = .ok (.iload_n 1, 1) := by decide +kernel
theorem dX5_write_13 : decode cX5_write 13 = .ok (.iload_n 2, 1) := by decide +kernel
theorem dX5_write_14 : decode cX5_write 14 = .ok (.invokestatic 22, 3) := by decide +kernel
theorem dX5_write_17 : decode cX5_write 17 = .ok (.iload_n 3, 1) := by decide +kernel
theorem dX5_write_18 : decode cX5_write 18 = .ok (.iastore, 1) := by decide +kernel
theorem dX5_write_19 : decode cX5_write 19 = .ok (.aload_n 0, 1) := by decide +kernel
theorem dX5_write_20 : decode cX5_write 20 = .ok (.getfield 15, 3) := by decide +kernel
theorem dX5_write_23 : decode cX5_write 23 = .ok (.iload_n 1, 1) := by decide +kernel
theorem dX5_write_24 : decode cX5_write 24 = .ok (.iload_n 2, 1) := by decide +kernel
theorem dX5_write_25 : decode cX5_write 25 = .ok (.invokestatic 22, 3) := by decide +kernel
theorem dX5_write_28 : decode cX5_write 28 = .ok (.iload 4, 2) := by decide +kernel
theorem dX5_write_30 : decode cX5_write 30 = .ok (.iastore, 1) := by decide +kernel
theorem dX5_write_31 : decode cX5_write 31 = .ok (.return_, 1) := by decide +kernel
theorem nmX5_write : mm_nm yX5_write 4 := ⟨by decide, by decide, by decide +kernel⟩
theorem cdX5_write : mm_cd cd_Y yX5_write cX5_write 5 none := ⟨tw_332, tw_7⟩
abbrev rmX5_write : Room := { frames := 1, cells := 0, slots := 0, locals := 21 }
def fX5_write (p0 : Nat) (p1 : Int32) (p2 : Int32) (p3 : Int32) (p4 : Int32) (σ : mm_M) : Option mm_M :=
  (if (fX5_isCell p1 p2) = 0 then some (σ) else mm_sh σ p0 (.inl 5) (mm_on (mm_R σ p0 0) fun q3 => mm_ar σ q3 0 fun n4 => mm_ib (fX5_indexOf p1 p2) n4 (mm_on (mm_R (mm_wI σ q3 ((fX5_indexOf p1 p2).toNatClampNeg) p3) p0 1) fun q6 => mm_ar (mm_wI σ q3 ((fX5_indexOf p1 p2).toNatClampNeg) p3) q6 0 fun n7 => mm_ib (fX5_indexOf p1 p2) n7 (some (mm_wI (mm_wI σ q3 ((fX5_indexOf p1 p2).toNatClampNeg) p3) q6 ((fX5_indexOf p1 p2).toNatClampNeg) p4)))))
set_option maxHeartbeats 4000000 in
set_option maxRecDepth 100000 in
theorem kX5_write {G : mm_G} {A : Nat → Prop} (p0 : Nat) (p1 : Int32) (p2 : Int32) (p3 : Int32) (p4 : Int32) {σ : mm_M} {R : mm_M} (hf : fX5_write p0 p1 p2 p3 p4 σ = some R) : mm_C cd_Y G yX5_write cX5_write 5 none rmX5_write A [.ref p0, .int p1, .int p2, .int p3, .int p4] σ (mm_Pv R) := by
  refine mm_C.of (by decide) (Nat.le_of_ble_eq_true rfl) ?_
  unfold fX5_write at hf
  have e0 : lv_args 0 [.ref p0, .int p1, .int p2, .int p3, .int p4] = [(0, .ref p0), (1, .int p1), (2, .int p2), (3, .int p3), (4, .int p4)] := rfl
  rw [e0]
  generalize hini : (yX5_write.name == "<init>") = ini
  clear e0
  clear hini
  refine mm_iload_n (j := 1) dX5_write_0 rfl rfl ?_
  refine mm_iload_n (j := 2) dX5_write_1 rfl rfl ?_
  refine mm_callSi cd_ok (kX5_isCell p1 p2 _ rfl) (Or.inl tw_333) cdX5_isCell tw_334 nmX5_isCell rfl rfl (by simp only [List.map_cons, List.map_nil, mm_rf_cat]; exact Nat.le_of_ble_eq_true rfl) dX5_write_2 ⟨Nat.le_of_ble_eq_true rfl, Nat.le_of_ble_eq_true rfl⟩ ⟨Nat.le_of_ble_eq_true rfl, Nat.le_of_ble_eq_true rfl⟩ ?_
  refine mm_if_eq (tgt := 31) dX5_write_5 (by decide) (fun c1 => ?_) (fun c1 => ?_)
  · rw [if_pos c1] at hf
    cases hf
    exact mm_vret rfl dX5_write_31 ⟨rfl, rfl⟩
  · rw [if_neg c1] at hf
    refine mm_aload_n (j := 0) dX5_write_8 rfl rfl ?_
    obtain ⟨hs2, hf⟩ := mm_sh_s hf
    refine mm_get (c := 5) (k := 0) (v := va_rf (mm_R σ p0 0)) cd_ok ⟨_, _, _, rfl, by decide, Or.inl tw_104⟩ hs2 rfl dX5_write_9 ?_
    refine mm_iload_n (j := 1) dX5_write_12 rfl rfl ?_
    refine mm_iload_n (j := 2) dX5_write_13 rfl rfl ?_
    refine mm_callSi cd_ok (kX5_indexOf p1 p2 _ rfl) (Or.inl tw_336) cdX5_indexOf tw_337 nmX5_indexOf rfl rfl (by simp only [List.map_cons, List.map_nil, mm_rf_cat]; exact Nat.le_of_ble_eq_true rfl) dX5_write_14 ⟨Nat.le_of_ble_eq_true rfl, Nat.le_of_ble_eq_true rfl⟩ ⟨Nat.le_of_ble_eq_true rfl, Nat.le_of_ble_eq_true rfl⟩ ?_
    refine mm_iload_n (j := 3) dX5_write_17 rfl rfl ?_
    obtain ⟨q3, hq3, hf⟩ := mm_on_s hf
    rw [hq3, mm_rf_some]
    obtain ⟨n4, hn4, hf⟩ := mm_ar_s hf
    obtain ⟨hi5, hf⟩ := mm_ib_s hf
    refine mm_iast hn4 rfl hi5 dX5_write_18 ?_
    refine mm_aload_n (j := 0) dX5_write_19 rfl rfl ?_
    refine mm_get (c := 5) (k := 1) (v := va_rf (mm_R (mm_wI σ q3 ((fX5_indexOf p1 p2).toNatClampNeg) p3) p0 1)) cd_ok ⟨_, _, _, rfl, by decide, Or.inl tw_105⟩ hs2 rfl dX5_write_20 ?_
    refine mm_iload_n (j := 1) dX5_write_23 rfl rfl ?_
    refine mm_iload_n (j := 2) dX5_write_24 rfl rfl ?_
    refine mm_callSi cd_ok (kX5_indexOf p1 p2 _ rfl) (Or.inl tw_336) cdX5_indexOf tw_337 nmX5_indexOf rfl rfl (by simp only [List.map_cons, List.map_nil, mm_rf_cat]; exact Nat.le_of_ble_eq_true rfl) dX5_write_25 ⟨Nat.le_of_ble_eq_true rfl, Nat.le_of_ble_eq_true rfl⟩ ⟨Nat.le_of_ble_eq_true rfl, Nat.le_of_ble_eq_true rfl⟩ ?_
    refine mm_iload (j := 4) dX5_write_28 rfl ?_
    obtain ⟨q6, hq6, hf⟩ := mm_on_s hf
    rw [hq6, mm_rf_some]
    obtain ⟨n7, hn7, hf⟩ := mm_ar_s hf
    obtain ⟨hi8, hf⟩ := mm_ib_s hf
    refine mm_iast hn7 rfl hi8 dX5_write_30 ?_
    cases hf
    exact mm_vret rfl dX5_write_31 ⟨rfl, rfl⟩
theorem dX5_eraseFrom_0 : decode cX5_eraseFrom 0 = .ok (.iload_n 1, 1) := by decide +kernel
theorem dX5_eraseFrom_1 : decode cX5_eraseFrom 1 = .ok (.iload_n 2, 1) := by decide +kernel
theorem dX5_eraseFrom_2 : decode cX5_eraseFrom 2 = .ok (.invokestatic 18, 3) := by decide +kernel
theorem dX5_eraseFrom_5 : decode cX5_eraseFrom 5 = .ok (.ifCond .eq 19, 3) := by decide +kernel
theorem dX5_eraseFrom_8 : decode cX5_eraseFrom 8 = .ok (.aload_n 0, 1) := by decide +kernel
theorem dX5_eraseFrom_9 : decode cX5_eraseFrom 9 = .ok (.iload_n 1, 1) := by decide +kernel
theorem dX5_eraseFrom_10 : decode cX5_eraseFrom 10 = .ok (.iload_n 2, 1) := by decide +kernel
theorem dX5_eraseFrom_11 : decode cX5_eraseFrom 11 = .ok (.invokestatic 22, 3) := by decide +kernel
theorem dX5_eraseFrom_14 : decode cX5_eraseFrom 14 = .ok (.iload_n 1, 1) := by decide +kernel
theorem dX5_eraseFrom_15 : decode cX5_eraseFrom 15 = .ok (.iconst 1, 1) := by decide +kernel
theorem dX5_eraseFrom_16 : decode cX5_eraseFrom 16 = .ok (.iadd, 1) := by decide +kernel
theorem dX5_eraseFrom_17 : decode cX5_eraseFrom 17 = .ok (.iconst 0, 1) := by decide +kernel
theorem dX5_eraseFrom_18 : decode cX5_eraseFrom 18 = .ok (.invokestatic 22, 3) := by decide +kernel
theorem dX5_eraseFrom_21 : decode cX5_eraseFrom 21 = .ok (.invokevirtual 26, 3) := by decide +kernel
theorem dX5_eraseFrom_24 : decode cX5_eraseFrom 24 = .ok (.return_, 1) := by decide +kernel
theorem nmX5_eraseFrom : mm_nm yX5_eraseFrom 2 := ⟨by decide, by decide, by decide +kernel⟩
theorem cdX5_eraseFrom : mm_cd cd_Y yX5_eraseFrom cX5_eraseFrom 3 none := ⟨tw_395, tw_7⟩
abbrev rmX5_eraseFrom : Room := { frames := 1, cells := 0, slots := 0, locals := 23 }
def fX5_eraseFrom (p0 : Nat) (p1 : Int32) (p2 : Int32) (σ : mm_M) : Option mm_M :=
  (if (fX5_isCell p1 p2) = 0 then some (σ) else mm_sh σ p0 (.inl 5) (mm_on (fX5_eraseCells p0 (fX5_indexOf p1 p2) (fX5_indexOf (p1 + 1) 0) σ) fun q3 => some (q3)))
set_option maxHeartbeats 4000000 in
set_option maxRecDepth 100000 in
theorem kX5_eraseFrom {G : mm_G} {A : Nat → Prop} (p0 : Nat) (p1 : Int32) (p2 : Int32) {σ : mm_M} {R : mm_M} (hf : fX5_eraseFrom p0 p1 p2 σ = some R) : mm_C cd_Y G yX5_eraseFrom cX5_eraseFrom 3 none rmX5_eraseFrom A [.ref p0, .int p1, .int p2] σ (mm_Pv R) := by
  refine mm_C.of (by decide) (Nat.le_of_ble_eq_true rfl) ?_
  unfold fX5_eraseFrom at hf
  have e0 : lv_args 0 [.ref p0, .int p1, .int p2] = [(0, .ref p0), (1, .int p1), (2, .int p2)] := rfl
  rw [e0]
  generalize hini : (yX5_eraseFrom.name == "<init>") = ini
  clear e0
  clear hini
  refine mm_iload_n (j := 1) dX5_eraseFrom_0 rfl rfl ?_
  refine mm_iload_n (j := 2) dX5_eraseFrom_1 rfl rfl ?_
  refine mm_callSi cd_ok (kX5_isCell p1 p2 _ rfl) (Or.inl tw_333) cdX5_isCell tw_334 nmX5_isCell rfl rfl (by simp only [List.map_cons, List.map_nil, mm_rf_cat]; exact Nat.le_of_ble_eq_true rfl) dX5_eraseFrom_2 ⟨Nat.le_of_ble_eq_true rfl, Nat.le_of_ble_eq_true rfl⟩ ⟨Nat.le_of_ble_eq_true rfl, Nat.le_of_ble_eq_true rfl⟩ ?_
  refine mm_if_eq (tgt := 24) dX5_eraseFrom_5 (by decide) (fun c1 => ?_) (fun c1 => ?_)
  · rw [if_pos c1] at hf
    cases hf
    exact mm_vret rfl dX5_eraseFrom_24 ⟨rfl, rfl⟩
  · rw [if_neg c1] at hf
    refine mm_aload_n (j := 0) dX5_eraseFrom_8 rfl rfl ?_
    refine mm_iload_n (j := 1) dX5_eraseFrom_9 rfl rfl ?_
    refine mm_iload_n (j := 2) dX5_eraseFrom_10 rfl rfl ?_
    refine mm_callSi cd_ok (kX5_indexOf p1 p2 _ rfl) (Or.inl tw_336) cdX5_indexOf tw_337 nmX5_indexOf rfl rfl (by simp only [List.map_cons, List.map_nil, mm_rf_cat]; exact Nat.le_of_ble_eq_true rfl) dX5_eraseFrom_11 ⟨Nat.le_of_ble_eq_true rfl, Nat.le_of_ble_eq_true rfl⟩ ⟨Nat.le_of_ble_eq_true rfl, Nat.le_of_ble_eq_true rfl⟩ ?_
    refine mm_iload_n (j := 1) dX5_eraseFrom_14 rfl rfl ?_
    refine mm_iconst (v := 1) dX5_eraseFrom_15 (by decide) ?_
    refine mm_iadd dX5_eraseFrom_16 ?_
    refine mm_iconst (v := 0) dX5_eraseFrom_17 (by decide) ?_
    refine mm_callSi cd_ok (kX5_indexOf (p1 + 1) 0 _ rfl) (Or.inl tw_336) cdX5_indexOf tw_337 nmX5_indexOf rfl rfl (by simp only [List.map_cons, List.map_nil, mm_rf_cat]; exact Nat.le_of_ble_eq_true rfl) dX5_eraseFrom_18 ⟨Nat.le_of_ble_eq_true rfl, Nat.le_of_ble_eq_true rfl⟩ ⟨Nat.le_of_ble_eq_true rfl, Nat.le_of_ble_eq_true rfl⟩ ?_
    obtain ⟨hs2, hf⟩ := mm_sh_s hf
    obtain ⟨q3, hq3, hf⟩ := mm_on_s hf
    refine mm_callVv cd_ok (kX5_eraseCells p0 (fX5_indexOf p1 p2) (fX5_indexOf (p1 + 1) 0) hq3) hs2 rfl (Or.inl tw_371) cdX5_eraseCells tw_373 ts_6 nmX5_eraseCells rfl rfl (by simp only [List.map_cons, List.map_nil, mm_rf_cat]; exact Nat.le_of_ble_eq_true rfl) dX5_eraseFrom_21 ⟨Nat.le_of_ble_eq_true rfl, Nat.le_of_ble_eq_true rfl⟩ ⟨Nat.le_of_ble_eq_true rfl, Nat.le_of_ble_eq_true rfl⟩ ?_
    cases hf
    exact mm_vret rfl dX5_eraseFrom_24 ⟨rfl, rfl⟩
theorem dX5_eraseRowsAbove_0 : decode cX5_eraseRowsAbove 0 = .ok (.aload_n 0, 1) := by decide +kernel
theorem dX5_eraseRowsAbove_1 : decode cX5_eraseRowsAbove 1 = .ok (.iconst 0, 1) := by decide +kernel
theorem dX5_eraseRowsAbove_2 : decode cX5_eraseRowsAbove 2 = .ok (.iload_n 1, 1) := by decide +kernel
theorem dX5_eraseRowsAbove_3 : decode cX5_eraseRowsAbove 3 = .ok (.iconst 0, 1) := by decide +kernel
theorem dX5_eraseRowsAbove_4 : decode cX5_eraseRowsAbove 4 = .ok (.invokestatic 22, 3) := by decide +kernel
theorem dX5_eraseRowsAbove_7 : decode cX5_eraseRowsAbove 7 = .ok (.invokevirtual 26, 3) := by decide +kernel
theorem dX5_eraseRowsAbove_10 : decode cX5_eraseRowsAbove 10 = .ok (.return_, 1) := by decide +kernel
theorem nmX5_eraseRowsAbove : mm_nm yX5_eraseRowsAbove 1 := ⟨by decide, by decide, by decide +kernel⟩
theorem cdX5_eraseRowsAbove : mm_cd cd_Y yX5_eraseRowsAbove cX5_eraseRowsAbove 2 none := ⟨tw_403, tw_7⟩
abbrev rmX5_eraseRowsAbove : Room := { frames := 1, cells := 0, slots := 0, locals := 23 }
def fX5_eraseRowsAbove (p0 : Nat) (p1 : Int32) (σ : mm_M) : Option mm_M :=
  mm_sh σ p0 (.inl 5) (mm_on (fX5_eraseCells p0 0 (fX5_indexOf p1 0) σ) fun q2 => some (q2))
set_option maxHeartbeats 4000000 in
set_option maxRecDepth 100000 in
theorem kX5_eraseRowsAbove {G : mm_G} {A : Nat → Prop} (p0 : Nat) (p1 : Int32) {σ : mm_M} {R : mm_M} (hf : fX5_eraseRowsAbove p0 p1 σ = some R) : mm_C cd_Y G yX5_eraseRowsAbove cX5_eraseRowsAbove 2 none rmX5_eraseRowsAbove A [.ref p0, .int p1] σ (mm_Pv R) := by
  refine mm_C.of (by decide) (Nat.le_of_ble_eq_true rfl) ?_
  unfold fX5_eraseRowsAbove at hf
  have e0 : lv_args 0 [.ref p0, .int p1] = [(0, .ref p0), (1, .int p1)] := rfl
  rw [e0]
  generalize hini : (yX5_eraseRowsAbove.name == "<init>") = ini
  clear e0
  clear hini
  refine mm_aload_n (j := 0) dX5_eraseRowsAbove_0 rfl rfl ?_
  refine mm_iconst (v := 0) dX5_eraseRowsAbove_1 (by decide) ?_
  refine mm_iload_n (j := 1) dX5_eraseRowsAbove_2 rfl rfl ?_
  refine mm_iconst (v := 0) dX5_eraseRowsAbove_3 (by decide) ?_
  refine mm_callSi cd_ok (kX5_indexOf p1 0 _ rfl) (Or.inl tw_336) cdX5_indexOf tw_337 nmX5_indexOf rfl rfl (by simp only [List.map_cons, List.map_nil, mm_rf_cat]; exact Nat.le_of_ble_eq_true rfl) dX5_eraseRowsAbove_4 ⟨Nat.le_of_ble_eq_true rfl, Nat.le_of_ble_eq_true rfl⟩ ⟨Nat.le_of_ble_eq_true rfl, Nat.le_of_ble_eq_true rfl⟩ ?_
  obtain ⟨hs1, hf⟩ := mm_sh_s hf
  obtain ⟨q2, hq2, hf⟩ := mm_on_s hf
  refine mm_callVv cd_ok (kX5_eraseCells p0 0 (fX5_indexOf p1 0) hq2) hs1 rfl (Or.inl tw_371) cdX5_eraseCells tw_373 ts_6 nmX5_eraseCells rfl rfl (by simp only [List.map_cons, List.map_nil, mm_rf_cat]; exact Nat.le_of_ble_eq_true rfl) dX5_eraseRowsAbove_7 ⟨Nat.le_of_ble_eq_true rfl, Nat.le_of_ble_eq_true rfl⟩ ⟨Nat.le_of_ble_eq_true rfl, Nat.le_of_ble_eq_true rfl⟩ ?_
  cases hf
  exact mm_vret rfl dX5_eraseRowsAbove_10 ⟨rfl, rfl⟩
theorem dX5_eraseAll_0 : decode cX5_eraseAll 0 = .ok (.aload_n 0, 1) := by decide +kernel
theorem dX5_eraseAll_1 : decode cX5_eraseAll 1 = .ok (.iconst 0, 1) := by decide +kernel
theorem dX5_eraseAll_2 : decode cX5_eraseAll 2 = .ok (.sipush 480, 3) := by decide +kernel
theorem dX5_eraseAll_5 : decode cX5_eraseAll 5 = .ok (.invokevirtual 26, 3) := by decide +kernel
theorem dX5_eraseAll_8 : decode cX5_eraseAll 8 = .ok (.return_, 1) := by decide +kernel
theorem nmX5_eraseAll : mm_nm yX5_eraseAll 0 := ⟨by decide, by decide, by decide +kernel⟩
theorem cdX5_eraseAll : mm_cd cd_Y yX5_eraseAll cX5_eraseAll 1 none := ⟨tw_407, tw_7⟩
abbrev rmX5_eraseAll : Room := { frames := 1, cells := 0, slots := 0, locals := 23 }
def fX5_eraseAll (p0 : Nat) (σ : mm_M) : Option mm_M :=
  mm_sh σ p0 (.inl 5) (mm_on (fX5_eraseCells p0 0 480 σ) fun q2 => some (q2))
set_option maxHeartbeats 4000000 in
set_option maxRecDepth 100000 in
theorem kX5_eraseAll {G : mm_G} {A : Nat → Prop} (p0 : Nat) {σ : mm_M} {R : mm_M} (hf : fX5_eraseAll p0 σ = some R) : mm_C cd_Y G yX5_eraseAll cX5_eraseAll 1 none rmX5_eraseAll A [.ref p0] σ (mm_Pv R) := by
  refine mm_C.of (by decide) (Nat.le_of_ble_eq_true rfl) ?_
  unfold fX5_eraseAll at hf
  have e0 : lv_args 0 [.ref p0] = [(0, .ref p0)] := rfl
  rw [e0]
  generalize hini : (yX5_eraseAll.name == "<init>") = ini
  clear e0
  clear hini
  refine mm_aload_n (j := 0) dX5_eraseAll_0 rfl rfl ?_
  refine mm_iconst (v := 0) dX5_eraseAll_1 (by decide) ?_
  refine mm_sipush (v := 480) dX5_eraseAll_2 (by decide) ?_
  obtain ⟨hs1, hf⟩ := mm_sh_s hf
  obtain ⟨q2, hq2, hf⟩ := mm_on_s hf
  refine mm_callVv cd_ok (kX5_eraseCells p0 0 480 hq2) hs1 rfl (Or.inl tw_371) cdX5_eraseCells tw_373 ts_6 nmX5_eraseCells rfl rfl (by simp only [List.map_cons, List.map_nil, mm_rf_cat]; exact Nat.le_of_ble_eq_true rfl) dX5_eraseAll_5 ⟨Nat.le_of_ble_eq_true rfl, Nat.le_of_ble_eq_true rfl⟩ ⟨Nat.le_of_ble_eq_true rfl, Nat.le_of_ble_eq_true rfl⟩ ?_
  cases hf
  exact mm_vret rfl dX5_eraseAll_8 ⟨rfl, rfl⟩
theorem dX5_addTo_0 : decode cX5_addTo 0 = .ok (.iconst 1, 1) := by decide +kernel
theorem dX5_addTo_1 : decode cX5_addTo 1 = .ok (.istore_n 2, 1) := by decide +kernel
theorem dX5_addTo_2 : decode cX5_addTo 2 = .ok (.iload_n 2, 1) := by decide +kernel
theorem dX5_addTo_3 : decode cX5_addTo 3 = .ok (.bipush 15, 2) := by decide +kernel
theorem dX5_addTo_5 : decode cX5_addTo 5 = .ok (.if_icmp .gt 24, 3) := by decide +kernel
theorem dX5_addTo_8 : decode cX5_addTo 8 = .ok (.aload_n 1, 1) := by decide +kernel
theorem dX5_addTo_9 : decode cX5_addTo 9 = .ok (.aload_n 0, 1) := by decide +kernel
theorem dX5_addTo_10 : decode cX5_addTo 10 = .ok (.getfield 9, 3) := by decide +kernel
theorem dX5_addTo_13 : decode cX5_addTo 13 = .ok (.iload_n 2, 1) := by decide +kernel
theorem dX5_addTo_14 : decode cX5_addTo 14 = .ok (.iconst 0, 1) := by decide +kernel
theorem dX5_addTo_15 : decode cX5_addTo 15 = .ok (.invokestatic 22, 3) := by decide +kernel
theorem dX5_addTo_18 : decode cX5_addTo 18 = .ok (.bipush 32, 2) := by decide +kernel
theorem dX5_addTo_20 : decode cX5_addTo 20 = .ok (.invokevirtual 36, 3) := by decide +kernel
theorem dX5_addTo_23 : decode cX5_addTo 23 = .ok (.iinc 2 1, 3) := by decide +kernel
theorem dX5_addTo_26 : decode cX5_addTo 26 = .ok (.goto (-24), 3) := by decide +kernel
theorem dX5_addTo_29 : decode cX5_addTo 29 = .ok (.return_, 1) := by decide +kernel
theorem nmX5_addTo : mm_nm yX5_addTo 1 := ⟨by decide, by decide, by decide +kernel⟩
theorem cdX5_addTo : mm_cd cd_Y yX5_addTo cX5_addTo 3 none := ⟨tw_728, tw_7⟩
abbrev rmX5_addTo : Room := { frames := 2, cells := 0, slots := 0, locals := 47 }
def fX5_addTo_2  : Nat → Nat → Nat → Int32 → mm_M → Option mm_M
  | 0 => fun _ _ _ _ => none
  | n + 1 => fun a0 a1 x2 σ =>
  (if 15 < x2 then some (σ) else mm_sh σ a0 (.inl 5) (mm_on (mm_R σ a0 0) fun q3 => mm_sh σ a1 (.inl 2) (mm_on (fX2_addRow a1 q3 (fX5_indexOf x2 0) 32 σ) fun q5 => (fX5_addTo_2  n a0 a1 (x2 + 1) q5))))
def fX5_addTo (p0 : Nat) (p1 : Nat) (σ : mm_M) : Option mm_M :=
  (fX5_addTo_2  mm_fuel p0 p1 1 σ)
set_option maxHeartbeats 4000000 in
set_option maxRecDepth 100000 in
theorem kX5_addTo_2 {G : mm_G} {A : Nat → Prop} {ini : Bool}  {R : mm_M}  : ∀ (a0 : Nat) (a1 : Nat) (x2 : Int32) (σ : mm_M), fX5_addTo_2  mm_fuel a0 a1 x2 σ = some R → mm_J cd_Y G RX5 cX5_addTo 3 none ini rmX5_addTo A (mm_QF cd_Y G A (mm_Pv R) rmX5_addTo.cells rmX5_addTo.slots) 2 [(0, .ref a0), (1, .ref a1), (2, .int x2)] [] σ 0 0 := by
  generalize mm_fuel = n
  induction n with
  | zero => intro a0 a1 x2 σ hf; cases hf
  | succ n ih =>
    intro a0 a1 x2 σ hf
    unfold fX5_addTo_2 at hf
    refine mm_iload_n (j := 2) dX5_addTo_2 rfl rfl ?_
    refine mm_bipush (v := 15) dX5_addTo_3 (by decide) ?_
    refine mm_icmp_gt (tgt := 29) dX5_addTo_5 (by decide) (fun c1 => ?_) (fun c1 => ?_)
    · rw [if_pos c1] at hf
      cases hf
      exact mm_vret rfl dX5_addTo_29 ⟨rfl, rfl⟩
    · rw [if_neg c1] at hf
      refine mm_aload_n (j := 1) dX5_addTo_8 rfl rfl ?_
      refine mm_aload_n (j := 0) dX5_addTo_9 rfl rfl ?_
      obtain ⟨hs2, hf⟩ := mm_sh_s hf
      refine mm_get (c := 5) (k := 0) (v := va_rf (mm_R σ a0 0)) cd_ok ⟨_, _, _, rfl, by decide, Or.inl tw_104⟩ hs2 rfl dX5_addTo_10 ?_
      refine mm_iload_n (j := 2) dX5_addTo_13 rfl rfl ?_
      refine mm_iconst (v := 0) dX5_addTo_14 (by decide) ?_
      refine mm_callSi cd_ok (kX5_indexOf x2 0 _ rfl) (Or.inl tw_336) cdX5_indexOf tw_337 nmX5_indexOf rfl rfl (by simp only [List.map_cons, List.map_nil, mm_rf_cat]; exact Nat.le_of_ble_eq_true rfl) dX5_addTo_15 ⟨Nat.le_of_ble_eq_true rfl, Nat.le_of_ble_eq_true rfl⟩ ⟨Nat.le_of_ble_eq_true rfl, Nat.le_of_ble_eq_true rfl⟩ ?_
      refine mm_bipush (v := 32) dX5_addTo_18 (by decide) ?_
      obtain ⟨q3, hq3, hf⟩ := mm_on_s hf
      rw [hq3, mm_rf_some]
      obtain ⟨hs4, hf⟩ := mm_sh_s hf
      obtain ⟨q5, hq5, hf⟩ := mm_on_s hf
      refine mm_callVv cd_ok (kX2_addRow a1 q3 (fX5_indexOf x2 0) 32 hq5) hs4 rfl (Or.inl tw_729) cdX2_addRow tw_717 tw_718 nmX2_addRow rfl rfl (by simp only [List.map_cons, List.map_nil, mm_rf_cat]; exact Nat.le_of_ble_eq_true rfl) dX5_addTo_20 ⟨Nat.le_of_ble_eq_true rfl, Nat.le_of_ble_eq_true rfl⟩ ⟨Nat.le_of_ble_eq_true rfl, Nat.le_of_ble_eq_true rfl⟩ ?_
      refine mm_iinc (j := 2) (L' := [(2, .int (x2 + 1)), (0, .ref a0), (1, .ref a1)]) dX5_addTo_23 rfl rfl (by decide) rfl ?_
      refine mm_goto (tgt := 2) dX5_addTo_26 (by decide) ?_
      refine mm_sub [1, 2, 0] rfl ?_
      exact ih a0 a1 (x2 + 1) q5 hf
set_option maxHeartbeats 4000000 in
set_option maxRecDepth 100000 in
theorem kX5_addTo {G : mm_G} {A : Nat → Prop} (p0 : Nat) (p1 : Nat) {σ : mm_M} {R : mm_M} (hf : fX5_addTo p0 p1 σ = some R) : mm_C cd_Y G yX5_addTo cX5_addTo 3 none rmX5_addTo A [.ref p0, .ref p1] σ (mm_Pv R) := by
  refine mm_C.of (by decide) (Nat.le_of_ble_eq_true rfl) ?_
  unfold fX5_addTo at hf
  have e0 : lv_args 0 [.ref p0, .ref p1] = [(0, .ref p0), (1, .ref p1)] := rfl
  rw [e0]
  generalize hini : (yX5_addTo.name == "<init>") = ini
  clear e0
  clear hini
  refine mm_iconst (v := 1) dX5_addTo_0 (by decide) ?_
  refine mm_istore_n (L' := [(2, .int 1), (0, .ref p0), (1, .ref p1)]) dX5_addTo_1 rfl (by decide) rfl ?_
  refine mm_sub [1, 2, 0] rfl ?_
  exact kX5_addTo_2  p0 p1 1 σ hf
theorem dX6_pageAt_0 : decode cX6_pageAt 0 = .ok (.iload_n 1, 1) := by decide +kernel
theorem dX6_pageAt_1 : decode cX6_pageAt 1 = .ok (.aload_n 0, 1) := by decide +kernel
theorem dX6_pageAt_2 : decode cX6_pageAt 2 = .ok (.getfield 17, 3) := by decide +kernel
theorem dX6_pageAt_5 : decode cX6_pageAt 5 = .ok (.invokestatic 21, 3) := by decide +kernel
theorem dX6_pageAt_8 : decode cX6_pageAt 8 = .ok (.ifCond .ne 12, 3) := by decide +kernel
theorem dX6_pageAt_11 : decode cX6_pageAt 11 = .ok (.iload_n 1, 1) := by decide +kernel
theorem dX6_pageAt_12 : decode cX6_pageAt 12 = .ok (.bipush 20, 2) := by decide +kernel
theorem dX6_pageAt_14 : decode cX6_pageAt 14 = .ok (.invokestatic 21, 3) := by decide +kernel
theorem dX6_pageAt_17 : decode cX6_pageAt 17 = .ok (.ifCond .eq 7, 3) := by decide +kernel
theorem dX6_pageAt_20 : decode cX6_pageAt 20 = .ok (.aconst_null, 1) := by decide +kernel
theorem dX6_pageAt_21 : decode cX6_pageAt 21 = .ok (.goto 9, 3) := by decide +kernel
theorem dX6_pageAt_24 : decode cX6_pageAt 24 = .ok (.aload_n 0, 1) := by decide +kernel
theorem dX6_pageAt_25 : decode cX6_pageAt 25 = .ok (.getfield 11, 3) := by decide +kernel
theorem dX6_pageAt_28 : decode cX6_pageAt 28 = .ok (.iload_n 1, 1) := by decide +kernel
theorem dX6_pageAt_29 : decode cX6_pageAt 29 = .ok (.aaload, 1) := by decide +kernel
theorem dX6_pageAt_30 : decode cX6_pageAt 30 = .ok (.areturn, 1) := by decide +kernel
theorem nmX6_pageAt : mm_nm yX6_pageAt 1 := ⟨by decide, by decide, by decide +kernel⟩
theorem cdX6_pageAt : mm_cd cd_Y yX6_pageAt cX6_pageAt 2 (some (.object "CaptionDesk$Page")) := ⟨tw_219, tw_2⟩
abbrev rmX6_pageAt : Room := { frames := 1, cells := 0, slots := 0, locals := 21 }
def fX6_pageAt (p0 : Nat) (p1 : Int32) (σ : mm_M) : Option (Option Nat × mm_M) :=
  mm_sh σ p0 (.inl 6) ((if (fX8_isOutside p1 (mm_I σ p0 1)) = 0 then (if (fX8_isOutside p1 20) = 0 then mm_on (mm_R σ p0 0) fun q4 => mm_ar σ q4 5 fun n5 => mm_ib p1 n5 (some (mm_R σ q4 p1.toNatClampNeg, σ)) else some (none, σ)) else some (none, σ)))
set_option maxHeartbeats 4000000 in
set_option maxRecDepth 100000 in
theorem kX6_pageAt {G : mm_G} {A : Nat → Prop} (p0 : Nat) (p1 : Int32) {σ : mm_M} {R : (Option Nat × mm_M)} (hf : fX6_pageAt p0 p1 σ = some R) : mm_C cd_Y G yX6_pageAt cX6_pageAt 2 (some (.object "CaptionDesk$Page")) rmX6_pageAt A [.ref p0, .int p1] σ (mm_Pr R.1 R.2) := by
  refine mm_C.of (by decide) (Nat.le_of_ble_eq_true rfl) ?_
  unfold fX6_pageAt at hf
  have e0 : lv_args 0 [.ref p0, .int p1] = [(0, .ref p0), (1, .int p1)] := rfl
  rw [e0]
  generalize hini : (yX6_pageAt.name == "<init>") = ini
  clear e0
  clear hini
  refine mm_iload_n (j := 1) dX6_pageAt_0 rfl rfl ?_
  refine mm_aload_n (j := 0) dX6_pageAt_1 rfl rfl ?_
  obtain ⟨hs1, hf⟩ := mm_sh_s hf
  refine mm_get (c := 6) (k := 1) (v := .int (mm_I σ p0 1)) cd_ok ⟨_, _, _, rfl, by decide, Or.inl tw_39⟩ hs1 rfl dX6_pageAt_2 ?_
  refine mm_callSi cd_ok (kX8_isOutside p1 (mm_I σ p0 1) _ rfl) (Or.inr ⟨_, tn_15⟩) cdX8_isOutside tw_221 nmX8_isOutside rfl rfl (by simp only [List.map_cons, List.map_nil, mm_rf_cat]; exact Nat.le_of_ble_eq_true rfl) dX6_pageAt_5 ⟨Nat.le_of_ble_eq_true rfl, Nat.le_of_ble_eq_true rfl⟩ ⟨Nat.le_of_ble_eq_true rfl, Nat.le_of_ble_eq_true rfl⟩ ?_
  refine mm_if_ne (tgt := 20) dX6_pageAt_8 (by decide) (fun c2 => ?_) (fun c2 => ?_)
  · rw [if_neg c2] at hf
    refine mm_null dX6_pageAt_20 ?_
    refine mm_goto (tgt := 30) dX6_pageAt_21 (by decide) ?_
    cases hf
    exact mm_aret rfl rfl (mm_rf_of (none)) dX6_pageAt_30 ⟨rfl, rfl⟩
  · rw [if_pos c2] at hf
    refine mm_iload_n (j := 1) dX6_pageAt_11 rfl rfl ?_
    refine mm_bipush (v := 20) dX6_pageAt_12 (by decide) ?_
    refine mm_callSi cd_ok (kX8_isOutside p1 20 _ rfl) (Or.inr ⟨_, tn_15⟩) cdX8_isOutside tw_221 nmX8_isOutside rfl rfl (by simp only [List.map_cons, List.map_nil, mm_rf_cat]; exact Nat.le_of_ble_eq_true rfl) dX6_pageAt_14 ⟨Nat.le_of_ble_eq_true rfl, Nat.le_of_ble_eq_true rfl⟩ ⟨Nat.le_of_ble_eq_true rfl, Nat.le_of_ble_eq_true rfl⟩ ?_
    refine mm_if_eq (tgt := 24) dX6_pageAt_17 (by decide) (fun c3 => ?_) (fun c3 => ?_)
    · rw [if_pos c3] at hf
      refine mm_aload_n (j := 0) dX6_pageAt_24 rfl rfl ?_
      refine mm_get (c := 6) (k := 0) (v := va_rf (mm_R σ p0 0)) cd_ok ⟨_, _, _, rfl, by decide, Or.inl tw_38⟩ hs1 rfl dX6_pageAt_25 ?_
      refine mm_iload_n (j := 1) dX6_pageAt_28 rfl rfl ?_
      obtain ⟨q4, hq4, hf⟩ := mm_on_s hf
      rw [hq4, mm_rf_some]
      obtain ⟨n5, hn5, hf⟩ := mm_ar_s hf
      obtain ⟨hi6, hf⟩ := mm_ib_s hf
      refine mm_aald (v := va_rf (mm_R σ q4 p1.toNatClampNeg)) hn5 rfl hi6 rfl dX6_pageAt_29 ?_
      cases hf
      exact mm_aret rfl rfl (mm_rf_of (mm_R σ q4 p1.toNatClampNeg)) dX6_pageAt_30 ⟨rfl, rfl⟩
    · rw [if_neg c3] at hf
      refine mm_null dX6_pageAt_20 ?_
      refine mm_goto (tgt := 30) dX6_pageAt_21 (by decide) ?_
      cases hf
      exact mm_aret rfl rfl (mm_rf_of (none)) dX6_pageAt_30 ⟨rfl, rfl⟩
theorem dX6_placeOf_0 : decode cX6_placeOf 0 = .ok (.aload_n 0, 1) := by decide +kernel
theorem dX6_placeOf_1 : decode cX6_placeOf 1 = .ok (.getfield 17, 3) := by decide +kernel
theorem dX6_placeOf_4 : decode cX6_placeOf 4 = .ok (.iconst 1, 1) := by decide +kernel
theorem dX6_placeOf_5 : decode cX6_placeOf 5 = .ok (.isub, 1) := by decide +kernel
theorem dX6_placeOf_6 : decode cX6_placeOf 6 = .ok (.istore 4, 2) := by decide +kernel
theorem dX6_placeOf_8 : decode cX6_placeOf 8 = .ok (.iload 4, 2) := by decide +kernel
theorem dX6_placeOf_10 : decode cX6_placeOf 10 = .ok (.ifCond .lt 36, 3) := by decide +kernel
theorem dX6_placeOf_13 : decode cX6_placeOf 13 = .ok (.aload_n 0, 1) := by decide +kernel
theorem dX6_placeOf_14 : decode cX6_placeOf 14 = .ok (.iload 4, 2) := by decide +kernel
theorem dX6_placeOf_16 : decode cX6_placeOf 16 = .ok (.invokevirtual 25, 3) := by decide +kernel
theorem dX6_placeOf_19 : decode cX6_placeOf 19 = .ok (.astore 5, 2) := by decide +kernel
theorem dX6_placeOf_21 : decode cX6_placeOf 21 = .ok (.aload 5, 2) := by decide +kernel
theorem dX6_placeOf_23 : decode cX6_placeOf 23 = .ok (.ifnull 17, 3) := by decide +kernel
theorem dX6_placeOf_26 : decode cX6_placeOf 26 = .ok (.aload 5, 2) := by decide +kernel
theorem dX6_placeOf_28 : decode cX6_placeOf 28 = .ok (.iload_n 1, 1) := by decide +kernel
theorem dX6_placeOf_29 : decode cX6_placeOf 29 = .ok (.iload_n 2, 1) := by decide +kernel
theorem dX6_placeOf_30 : decode cX6_placeOf 30 = .ok (.iload_n 3, 1) := by decide +kernel
theorem dX6_placeOf_31 : decode cX6_placeOf 31 = .ok (.invokevirtual 29, 3) := by decide +kernel
theorem dX6_placeOf_34 : decode cX6_placeOf 34 = .ok (.ifCond .eq 6, 3) := by decide +kernel
theorem dX6_placeOf_37 : decode cX6_placeOf 37 = .ok (.iload 4, 2) := by decide +kernel
theorem dX6_placeOf_39 : decode cX6_placeOf 39 = .ok (.ireturn, 1) := by decide +kernel
theorem dX6_placeOf_40 : decode cX6_placeOf 40 = .ok (.iinc 4 (-1), 3) := by decide +kernel
theorem dX6_placeOf_43 : decode cX6_placeOf 43 = .ok (.goto (-35), 3) := by decide +kernel
theorem dX6_placeOf_46 : decode cX6_placeOf 46 = .ok (.iconst (-1), 1) := by decide +kernel
theorem dX6_placeOf_47 : decode cX6_placeOf 47 = .ok (.ireturn, 1) := by decide +kernel
theorem nmX6_placeOf : mm_nm yX6_placeOf 3 := ⟨by decide, by decide, by decide +kernel⟩
theorem cdX6_placeOf : mm_cd cd_Y yX6_placeOf cX6_placeOf 6 (some .int) := ⟨tw_215, tw_2⟩
abbrev rmX6_placeOf : Room := { frames := 2, cells := 0, slots := 0, locals := 42 }
def fX6_placeOf_8  : Nat → Nat → Int32 → Int32 → Int32 → Int32 → mm_M → Option (Int32 × mm_M)
  | 0 => fun _ _ _ _ _ _ => none
  | n + 1 => fun a0 x1 x2 x3 x4 σ =>
  (if x4 < 0 then some ((-1), σ) else mm_sh σ a0 (.inl 6) (mm_on (fX6_pageAt a0 x4 σ) fun q4 => (mm_nu (q4.1) (fX6_placeOf_8  n a0 x1 x2 x3 (x4 + (-1)) q4.2) fun q5 => mm_sh q4.2 q5 (.inl 3) (mm_on (fX3_hasName q5 x1 x2 x3 q4.2) fun q7 => (if q7.1 = 0 then (fX6_placeOf_8  n a0 x1 x2 x3 (x4 + (-1)) q7.2) else some (x4, q7.2))))))
def fX6_placeOf (p0 : Nat) (p1 : Int32) (p2 : Int32) (p3 : Int32) (σ : mm_M) : Option (Int32 × mm_M) :=
  mm_sh σ p0 (.inl 6) ((fX6_placeOf_8  mm_fuel p0 p1 p2 p3 ((mm_I σ p0 1) - 1) σ))
set_option maxHeartbeats 4000000 in
set_option maxRecDepth 100000 in
theorem kX6_placeOf_8 {G : mm_G} {A : Nat → Prop} {ini : Bool}  {R : (Int32 × mm_M)}  : ∀ (a0 : Nat) (x1 : Int32) (x2 : Int32) (x3 : Int32) (x4 : Int32) (σ : mm_M), fX6_placeOf_8  mm_fuel a0 x1 x2 x3 x4 σ = some R → mm_J cd_Y G RX6 cX6_placeOf 6 (some .int) ini rmX6_placeOf A (mm_QF cd_Y G A (mm_Pi R.1 R.2) rmX6_placeOf.cells rmX6_placeOf.slots) 8 [(0, .ref a0), (1, .int x1), (2, .int x2), (3, .int x3), (4, .int x4)] [] σ 0 0 := by
  generalize mm_fuel = n
  induction n with
  | zero => intro a0 x1 x2 x3 x4 σ hf; cases hf
  | succ n ih =>
    intro a0 x1 x2 x3 x4 σ hf
    unfold fX6_placeOf_8 at hf
    refine mm_iload (j := 4) dX6_placeOf_8 rfl ?_
    refine mm_if_lt (tgt := 46) dX6_placeOf_10 (by decide) (fun c2 => ?_) (fun c2 => ?_)
    · rw [if_pos c2] at hf
      refine mm_iconst (v := (-1)) dX6_placeOf_46 (by decide) ?_
      cases hf
      exact mm_iret rfl rfl dX6_placeOf_47 ⟨rfl, rfl⟩
    · rw [if_neg c2] at hf
      refine mm_aload_n (j := 0) dX6_placeOf_13 rfl rfl ?_
      refine mm_iload (j := 4) dX6_placeOf_14 rfl ?_
      obtain ⟨hs3, hf⟩ := mm_sh_s hf
      obtain ⟨q4, hq4, hf⟩ := mm_on_s hf
      refine mm_callVo cd_ok (kX6_pageAt a0 x4 hq4) hs3 rfl (Or.inl tw_216) cdX6_pageAt tw_217 tw_218 nmX6_pageAt rfl rfl (by simp only [List.map_cons, List.map_nil, mm_rf_cat]; exact Nat.le_of_ble_eq_true rfl) dX6_placeOf_16 ⟨Nat.le_of_ble_eq_true rfl, Nat.le_of_ble_eq_true rfl⟩ ⟨Nat.le_of_ble_eq_true rfl, Nat.le_of_ble_eq_true rfl⟩ ?_
      refine mm_astoreR (L' := [(5, va_rf (q4.1)), (0, .ref a0), (1, .int x1), (2, .int x2), (3, .int x3), (4, .int x4)]) dX6_placeOf_19 (by decide) rfl ?_
      refine mm_aloadR (j := 0) dX6_placeOf_21 rfl ?_
      rcases hq5 : (q4.1) with _ | q5
      · rw [mm_nu_n hq5] at hf
        try rw [mm_rf_none]
        refine mm_ifnullN (tgt := 40) dX6_placeOf_23 (by decide) ?_
        refine mm_iinc (j := 5) (L' := [(4, .int (x4 + (-1))), (5, .null), (0, .ref a0), (1, .int x1), (2, .int x2), (3, .int x3)]) dX6_placeOf_40 rfl rfl (by decide) rfl ?_
        refine mm_goto (tgt := 8) dX6_placeOf_43 (by decide) ?_
        refine mm_sub [2, 3, 4, 5, 0] rfl ?_
        exact ih a0 x1 x2 x3 (x4 + (-1)) q4.2 hf
      · rw [mm_nu_s hq5] at hf
        try rw [mm_rf_some]
        refine mm_ifnull dX6_placeOf_23 ?_
        refine mm_aload (j := 0) dX6_placeOf_26 rfl ?_
        refine mm_iload_n (j := 2) dX6_placeOf_28 rfl rfl ?_
        refine mm_iload_n (j := 3) dX6_placeOf_29 rfl rfl ?_
        refine mm_iload_n (j := 4) dX6_placeOf_30 rfl rfl ?_
        obtain ⟨hs6, hf⟩ := mm_sh_s hf
        obtain ⟨q7, hq7, hf⟩ := mm_on_s hf
        refine mm_callVi cd_ok (kX3_hasName q5 x1 x2 x3 hq7) hs6 rfl (Or.inl tw_223) cdX3_hasName tw_224 tw_225 nmX3_hasName rfl rfl (by simp only [List.map_cons, List.map_nil, mm_rf_cat]; exact Nat.le_of_ble_eq_true rfl) dX6_placeOf_31 ⟨Nat.le_of_ble_eq_true rfl, Nat.le_of_ble_eq_true rfl⟩ ⟨Nat.le_of_ble_eq_true rfl, Nat.le_of_ble_eq_true rfl⟩ ?_
        refine mm_if_eq (tgt := 40) dX6_placeOf_34 (by decide) (fun c8 => ?_) (fun c8 => ?_)
        · rw [if_pos c8] at hf
          refine mm_iinc (j := 5) (L' := [(4, .int (x4 + (-1))), (5, .ref q5), (0, .ref a0), (1, .int x1), (2, .int x2), (3, .int x3)]) dX6_placeOf_40 rfl rfl (by decide) rfl ?_
          refine mm_goto (tgt := 8) dX6_placeOf_43 (by decide) ?_
          refine mm_sub [2, 3, 4, 5, 0] rfl ?_
          exact ih a0 x1 x2 x3 (x4 + (-1)) q7.2 hf
        · rw [if_neg c8] at hf
          refine mm_iload (j := 5) dX6_placeOf_37 rfl ?_
          cases hf
          exact mm_iret rfl rfl dX6_placeOf_39 ⟨rfl, rfl⟩
set_option maxHeartbeats 4000000 in
set_option maxRecDepth 100000 in
theorem kX6_placeOf {G : mm_G} {A : Nat → Prop} (p0 : Nat) (p1 : Int32) (p2 : Int32) (p3 : Int32) {σ : mm_M} {R : (Int32 × mm_M)} (hf : fX6_placeOf p0 p1 p2 p3 σ = some R) : mm_C cd_Y G yX6_placeOf cX6_placeOf 6 (some .int) rmX6_placeOf A [.ref p0, .int p1, .int p2, .int p3] σ (mm_Pi R.1 R.2) := by
  refine mm_C.of (by decide) (Nat.le_of_ble_eq_true rfl) ?_
  unfold fX6_placeOf at hf
  have e0 : lv_args 0 [.ref p0, .int p1, .int p2, .int p3] = [(0, .ref p0), (1, .int p1), (2, .int p2), (3, .int p3)] := rfl
  rw [e0]
  generalize hini : (yX6_placeOf.name == "<init>") = ini
  clear e0
  clear hini
  refine mm_aload_n (j := 0) dX6_placeOf_0 rfl rfl ?_
  obtain ⟨hs1, hf⟩ := mm_sh_s hf
  refine mm_get (c := 6) (k := 1) (v := .int (mm_I σ p0 1)) cd_ok ⟨_, _, _, rfl, by decide, Or.inl tw_39⟩ hs1 rfl dX6_placeOf_1 ?_
  refine mm_iconst (v := 1) dX6_placeOf_4 (by decide) ?_
  refine mm_isub dX6_placeOf_5 ?_
  refine mm_istore (L' := [(4, .int ((mm_I σ p0 1) - 1)), (0, .ref p0), (1, .int p1), (2, .int p2), (3, .int p3)]) dX6_placeOf_6 (by decide) rfl ?_
  refine mm_sub [1, 2, 3, 4, 0] rfl ?_
  exact kX6_placeOf_8  p0 p1 p2 p3 ((mm_I σ p0 1) - 1) σ hf
theorem dX6_placeOfOpen_0 : decode cX6_placeOfOpen 0 = .ok (.iconst 0, 1) := by decide +kernel
theorem dX6_placeOfOpen_1 : decode cX6_placeOfOpen 1 = .ok (.istore_n 2, 1) := by decide +kernel
theorem dX6_placeOfOpen_2 : decode cX6_placeOfOpen 2 = .ok (.iload_n 2, 1) := by decide +kernel
theorem dX6_placeOfOpen_3 : decode cX6_placeOfOpen 3 = .ok (.aload_n 0, 1) := by decide +kernel
theorem dX6_placeOfOpen_4 : decode cX6_placeOfOpen 4 = .ok (.getfield 17, 3) := by decide +kernel
theorem dX6_placeOfOpen_7 : decode cX6_placeOfOpen 7 = .ok (.if_icmp .ge 36, 3) := by decide +kernel
theorem dX6_placeOfOpen_10 : decode cX6_placeOfOpen 10 = .ok (.aload_n 0, 1) := by decide +kernel
theorem dX6_placeOfOpen_11 : decode cX6_placeOfOpen 11 = .ok (.iload_n 2, 1) := by decide +kernel
theorem dX6_placeOfOpen_12 : decode cX6_placeOfOpen 12 = .ok (.invokevirtual 25, 3) := by decide +kernel
theorem dX6_placeOfOpen_15 : decode cX6_placeOfOpen 15 = .ok (.astore_n 3, 1) := by decide +kernel
theorem dX6_placeOfOpen_16 : decode cX6_placeOfOpen 16 = .ok (.aload_n 3, 1) := by decide +kernel
theorem dX6_placeOfOpen_17 : decode cX6_placeOfOpen 17 = .ok (.ifnull 20, 3) := by decide +kernel
theorem dX6_placeOfOpen_20 : decode cX6_placeOfOpen 20 = .ok (.aload_n 3, 1) := by decide +kernel
theorem dX6_placeOfOpen_21 : decode cX6_placeOfOpen 21 = .ok (.getfield 33, 3) := by decide +kernel
theorem dX6_placeOfOpen_24 : decode cX6_placeOfOpen 24 = .ok (.ifCond .eq 13, 3) := by decide +kernel
theorem dX6_placeOfOpen_27 : decode cX6_placeOfOpen 27 = .ok (.aload_n 3, 1) := by decide +kernel
theorem dX6_placeOfOpen_28 : decode cX6_placeOfOpen 28 = .ok (.getfield 37, 3) := by decide +kernel
theorem dX6_placeOfOpen_31 : decode cX6_placeOfOpen 31 = .ok (.iload_n 1, 1) := by decide +kernel
theorem dX6_placeOfOpen_32 : decode cX6_placeOfOpen 32 = .ok (.if_icmp .ne 5, 3) := by decide +kernel
theorem dX6_placeOfOpen_35 : decode cX6_placeOfOpen 35 = .ok (.iload_n 2, 1) := by decide +kernel
theorem dX6_placeOfOpen_36 : decode cX6_placeOfOpen 36 = .ok (.ireturn, 1) := by decide +kernel
theorem dX6_placeOfOpen_37 : decode cX6_placeOfOpen 37 = .ok (.iinc 2 1, 3) := by decide +kernel
theorem dX6_placeOfOpen_40 : decode cX6_placeOfOpen 40 = .ok (.goto (-38), 3) := by decide +kernel
theorem dX6_placeOfOpen_43 : decode cX6_placeOfOpen 43 = .ok (.iconst (-1), 1) := by decide +kernel
theorem dX6_placeOfOpen_44 : decode cX6_placeOfOpen 44 = .ok (.ireturn, 1) := by decide +kernel
theorem nmX6_placeOfOpen : mm_nm yX6_placeOfOpen 1 := ⟨by decide, by decide, by decide +kernel⟩
theorem cdX6_placeOfOpen : mm_cd cd_Y yX6_placeOfOpen cX6_placeOfOpen 4 (some .int) := ⟨tw_514, tw_2⟩
abbrev rmX6_placeOfOpen : Room := { frames := 2, cells := 0, slots := 0, locals := 42 }
def fX6_placeOfOpen_2  : Nat → Nat → Int32 → Int32 → mm_M → Option (Int32 × mm_M)
  | 0 => fun _ _ _ _ => none
  | n + 1 => fun a0 x1 x2 σ =>
  mm_sh σ a0 (.inl 6) ((if (mm_I σ a0 1) ≤ x2 then some ((-1), σ) else mm_on (fX6_pageAt a0 x2 σ) fun q3 => (mm_nu (q3.1) (fX6_placeOfOpen_2  n a0 x1 (x2 + 1) q3.2) fun q4 => mm_sh q3.2 q4 (.inl 3) ((if (mm_I q3.2 q4 6) = 0 then (fX6_placeOfOpen_2  n a0 x1 (x2 + 1) q3.2) else (if (mm_I q3.2 q4 2) = x1 then some (x2, q3.2) else (fX6_placeOfOpen_2  n a0 x1 (x2 + 1) q3.2)))))))
def fX6_placeOfOpen (p0 : Nat) (p1 : Int32) (σ : mm_M) : Option (Int32 × mm_M) :=
  (fX6_placeOfOpen_2  mm_fuel p0 p1 0 σ)
set_option maxHeartbeats 4000000 in
set_option maxRecDepth 100000 in
theorem kX6_placeOfOpen_2 {G : mm_G} {A : Nat → Prop} {ini : Bool}  {R : (Int32 × mm_M)}  : ∀ (a0 : Nat) (x1 : Int32) (x2 : Int32) (σ : mm_M), fX6_placeOfOpen_2  mm_fuel a0 x1 x2 σ = some R → mm_J cd_Y G RX6 cX6_placeOfOpen 4 (some .int) ini rmX6_placeOfOpen A (mm_QF cd_Y G A (mm_Pi R.1 R.2) rmX6_placeOfOpen.cells rmX6_placeOfOpen.slots) 2 [(0, .ref a0), (1, .int x1), (2, .int x2)] [] σ 0 0 := by
  generalize mm_fuel = n
  induction n with
  | zero => intro a0 x1 x2 σ hf; cases hf
  | succ n ih =>
    intro a0 x1 x2 σ hf
    unfold fX6_placeOfOpen_2 at hf
    refine mm_iload_n (j := 2) dX6_placeOfOpen_2 rfl rfl ?_
    refine mm_aload_n (j := 0) dX6_placeOfOpen_3 rfl rfl ?_
    obtain ⟨hs1, hf⟩ := mm_sh_s hf
    refine mm_get (c := 6) (k := 1) (v := .int (mm_I σ a0 1)) cd_ok ⟨_, _, _, rfl, by decide, Or.inl tw_39⟩ hs1 rfl dX6_placeOfOpen_4 ?_
    refine mm_icmp_ge (tgt := 43) dX6_placeOfOpen_7 (by decide) (fun c2 => ?_) (fun c2 => ?_)
    · rw [if_pos c2] at hf
      refine mm_iconst (v := (-1)) dX6_placeOfOpen_43 (by decide) ?_
      cases hf
      exact mm_iret rfl rfl dX6_placeOfOpen_44 ⟨rfl, rfl⟩
    · rw [if_neg c2] at hf
      refine mm_aload_n (j := 0) dX6_placeOfOpen_10 rfl rfl ?_
      refine mm_iload_n (j := 2) dX6_placeOfOpen_11 rfl rfl ?_
      obtain ⟨q3, hq3, hf⟩ := mm_on_s hf
      refine mm_callVo cd_ok (kX6_pageAt a0 x2 hq3) hs1 rfl (Or.inl tw_216) cdX6_pageAt tw_217 tw_218 nmX6_pageAt rfl rfl (by simp only [List.map_cons, List.map_nil, mm_rf_cat]; exact Nat.le_of_ble_eq_true rfl) dX6_placeOfOpen_12 ⟨Nat.le_of_ble_eq_true rfl, Nat.le_of_ble_eq_true rfl⟩ ⟨Nat.le_of_ble_eq_true rfl, Nat.le_of_ble_eq_true rfl⟩ ?_
      refine mm_astore_nR (L' := [(3, va_rf (q3.1)), (0, .ref a0), (1, .int x1), (2, .int x2)]) dX6_placeOfOpen_15 rfl (by decide) rfl ?_
      refine mm_aload_nR (j := 0) dX6_placeOfOpen_16 rfl rfl ?_
      rcases hq4 : (q3.1) with _ | q4
      · rw [mm_nu_n hq4] at hf
        try rw [mm_rf_none]
        refine mm_ifnullN (tgt := 37) dX6_placeOfOpen_17 (by decide) ?_
        refine mm_iinc (j := 3) (L' := [(2, .int (x2 + 1)), (3, .null), (0, .ref a0), (1, .int x1)]) dX6_placeOfOpen_37 rfl rfl (by decide) rfl ?_
        refine mm_goto (tgt := 2) dX6_placeOfOpen_40 (by decide) ?_
        refine mm_sub [2, 3, 0] rfl ?_
        exact ih a0 x1 (x2 + 1) q3.2 hf
      · rw [mm_nu_s hq4] at hf
        try rw [mm_rf_some]
        refine mm_ifnull dX6_placeOfOpen_17 ?_
        refine mm_aload_n (j := 0) dX6_placeOfOpen_20 rfl rfl ?_
        obtain ⟨hs5, hf⟩ := mm_sh_s hf
        refine mm_get (c := 3) (k := 6) (v := .int (mm_I q3.2 q4 6)) cd_ok ⟨_, _, _, rfl, by decide, Or.inr ⟨_, tn_28⟩⟩ hs5 rfl dX6_placeOfOpen_21 ?_
        refine mm_if_eq (tgt := 37) dX6_placeOfOpen_24 (by decide) (fun c6 => ?_) (fun c6 => ?_)
        · rw [if_pos c6] at hf
          refine mm_iinc (j := 3) (L' := [(2, .int (x2 + 1)), (3, .ref q4), (0, .ref a0), (1, .int x1)]) dX6_placeOfOpen_37 rfl rfl (by decide) rfl ?_
          refine mm_goto (tgt := 2) dX6_placeOfOpen_40 (by decide) ?_
          refine mm_sub [2, 3, 0] rfl ?_
          exact ih a0 x1 (x2 + 1) q3.2 hf
        · rw [if_neg c6] at hf
          refine mm_aload_n (j := 0) dX6_placeOfOpen_27 rfl rfl ?_
          refine mm_get (c := 3) (k := 2) (v := .int (mm_I q3.2 q4 2)) cd_ok ⟨_, _, _, rfl, by decide, Or.inr ⟨_, tn_23⟩⟩ hs5 rfl dX6_placeOfOpen_28 ?_
          refine mm_iload_n (j := 2) dX6_placeOfOpen_31 rfl rfl ?_
          refine mm_icmp_ne (tgt := 37) dX6_placeOfOpen_32 (by decide) (fun c7 => ?_) (fun c7 => ?_)
          · rw [if_neg c7] at hf
            refine mm_iinc (j := 3) (L' := [(2, .int (x2 + 1)), (3, .ref q4), (0, .ref a0), (1, .int x1)]) dX6_placeOfOpen_37 rfl rfl (by decide) rfl ?_
            refine mm_goto (tgt := 2) dX6_placeOfOpen_40 (by decide) ?_
            refine mm_sub [2, 3, 0] rfl ?_
            exact ih a0 x1 (x2 + 1) q3.2 hf
          · rw [if_pos c7] at hf
            refine mm_iload_n (j := 3) dX6_placeOfOpen_35 rfl rfl ?_
            cases hf
            exact mm_iret rfl rfl dX6_placeOfOpen_36 ⟨rfl, rfl⟩
set_option maxHeartbeats 4000000 in
set_option maxRecDepth 100000 in
theorem kX6_placeOfOpen {G : mm_G} {A : Nat → Prop} (p0 : Nat) (p1 : Int32) {σ : mm_M} {R : (Int32 × mm_M)} (hf : fX6_placeOfOpen p0 p1 σ = some R) : mm_C cd_Y G yX6_placeOfOpen cX6_placeOfOpen 4 (some .int) rmX6_placeOfOpen A [.ref p0, .int p1] σ (mm_Pi R.1 R.2) := by
  refine mm_C.of (by decide) (Nat.le_of_ble_eq_true rfl) ?_
  unfold fX6_placeOfOpen at hf
  have e0 : lv_args 0 [.ref p0, .int p1] = [(0, .ref p0), (1, .int p1)] := rfl
  rw [e0]
  generalize hini : (yX6_placeOfOpen.name == "<init>") = ini
  clear e0
  clear hini
  refine mm_iconst (v := 0) dX6_placeOfOpen_0 (by decide) ?_
  refine mm_istore_n (L' := [(2, .int 0), (0, .ref p0), (1, .int p1)]) dX6_placeOfOpen_1 rfl (by decide) rfl ?_
  refine mm_sub [1, 2, 0] rfl ?_
  exact kX6_placeOfOpen_2  p0 p1 0 σ hf
theorem dX6_takeOut_0 : decode cX6_takeOut 0 = .ok (.iload_n 1, 1) := by decide +kernel
theorem dX6_takeOut_1 : decode cX6_takeOut 1 = .ok (.aload_n 0, 1) := by decide +kernel
theorem dX6_takeOut_2 : decode cX6_takeOut 2 = .ok (.getfield 17, 3) := by decide +kernel
theorem dX6_takeOut_5 : decode cX6_takeOut 5 = .ok (.invokestatic 21, 3) := by decide +kernel
theorem dX6_takeOut_8 : decode cX6_takeOut 8 = .ok (.ifCond .eq 4, 3) := by decide +kernel
theorem dX6_takeOut_11 : decode cX6_takeOut 11 = .ok (.return_, 1) := by decide +kernel
theorem dX6_takeOut_12 : decode cX6_takeOut 12 = .ok (.iload_n 1, 1) := by decide +kernel
theorem dX6_takeOut_13 : decode cX6_takeOut 13 = .ok (.istore_n 2, 1) := by decide +kernel
theorem dX6_takeOut_14 : decode cX6_takeOut 14 = .ok (.iload_n 2, 1) := by decide +kernel
theorem dX6_takeOut_15 : decode cX6_takeOut 15 = .ok (.iconst 1, 1) := by decide +kernel
theorem dX6_takeOut_16 : decode cX6_takeOut 16 = .ok (.iadd, 1) := by decide +kernel
theorem dX6_takeOut_17 : decode cX6_takeOut 17 = .ok (.aload_n 0, 1) := by decide +kernel
theorem dX6_takeOut_18 : decode cX6_takeOut 18 = .ok (.getfield 17, 3) := by decide +kernel
theorem dX6_takeOut_21 : decode cX6_takeOut 21 = .ok (.if_icmp .ge 31, 3) := by decide +kernel
theorem dX6_takeOut_24 : decode cX6_takeOut 24 = .ok (.iload_n 2, 1) := by decide +kernel
theorem dX6_takeOut_25 : decode cX6_takeOut 25 = .ok (.iconst 1, 1) := by decide +kernel
theorem dX6_takeOut_26 : decode cX6_takeOut 26 = .ok (.iadd, 1) := by decide +kernel
theorem dX6_takeOut_27 : decode cX6_takeOut 27 = .ok (.bipush 20, 2) := by decide +kernel
theorem dX6_takeOut_29 : decode cX6_takeOut 29 = .ok (.if_icmp .ge 23, 3) := by decide +kernel
theorem dX6_takeOut_32 : decode cX6_takeOut 32 = .ok (.aload_n 0, 1) := by decide +kernel
theorem dX6_takeOut_33 : decode cX6_takeOut 33 = .ok (.getfield 11, 3) := by decide +kernel
theorem dX6_takeOut_36 : decode cX6_takeOut 36 = .ok (.iload_n 2, 1) := by decide +kernel
theorem dX6_takeOut_37 : decode cX6_takeOut 37 = .ok (.aload_n 0, 1) := by decide +kernel
theorem dX6_takeOut_38 : decode cX6_takeOut 38 = .ok (.getfield 11, 3) := by decide +kernel
theorem dX6_takeOut_41 : decode cX6_takeOut 41 = .ok (.iload_n 2, 1) := by decide +kernel
theorem dX6_takeOut_42 : decode cX6_takeOut 42 = .ok (.iconst 1, 1) := by decide +kernel
theorem dX6_takeOut_43 : decode cX6_takeOut 43 = .ok (.iadd, 1) := by decide +kernel
theorem dX6_takeOut_44 : decode cX6_takeOut 44 = .ok (.aaload, 1) := by decide +kernel
theorem dX6_takeOut_45 : decode cX6_takeOut 45 = .ok (.aastore, 1) := by decide +kernel
theorem dX6_takeOut_46 : decode cX6_takeOut 46 = .ok (.iinc 2 1, 3) := by decide +kernel
theorem dX6_takeOut_49 : decode cX6_takeOut 49 = .ok (.goto (-35), 3) := by decide +kernel
theorem dX6_takeOut_52 : decode cX6_takeOut 52 = .ok (.aload_n 0, 1) := by decide +kernel
theorem dX6_takeOut_53 : decode cX6_takeOut 53 = .ok (.dup, 1) := by decide +kernel
theorem dX6_takeOut_54 : decode cX6_takeOut 54 = .ok (.getfield 17, 3) := by decide +kernel
theorem dX6_takeOut_57 : decode cX6_takeOut 57 = .ok (.iconst 1, 1) := by decide +kernel
theorem dX6_takeOut_58 : decode cX6_takeOut 58 = .ok (.isub, 1) := by decide +kernel
theorem dX6_takeOut_59 : decode cX6_takeOut 59 = .ok (.putfield 17, 3) := by decide +kernel
theorem dX6_takeOut_62 : decode cX6_takeOut 62 = .ok (.return_, 1) := by decide +kernel
theorem nmX6_takeOut : mm_nm yX6_takeOut 1 := ⟨by decide, by decide, by decide +kernel⟩
theorem cdX6_takeOut : mm_cd cd_Y yX6_takeOut cX6_takeOut 3 none := ⟨tw_584, tw_2⟩
abbrev rmX6_takeOut : Room := { frames := 1, cells := 0, slots := 0, locals := 21 }
def fX6_takeOut_14  : Nat → Nat → Int32 → Int32 → mm_M → Option mm_M
  | 0 => fun _ _ _ _ => none
  | n + 1 => fun a0 x1 x2 σ =>
  mm_sh σ a0 (.inl 6) ((if (mm_I σ a0 1) ≤ (x2 + 1) then some (mm_wI σ a0 1 ((mm_I σ a0 1) - 1)) else (if 20 ≤ (x2 + 1) then some (mm_wI σ a0 1 ((mm_I σ a0 1) - 1)) else mm_on (mm_R σ a0 0) fun q6 => mm_ar σ q6 5 fun n7 => mm_ib (x2 + 1) n7 (mm_on (mm_R σ q6 (x2 + 1).toNatClampNeg) fun q9 => mm_ib x2 n7 (mm_sh σ q9 (.inl 3) ((fX6_takeOut_14  n a0 x1 (x2 + 1) (mm_wR σ q6 (x2.toNatClampNeg) (some q9)))))))))
def fX6_takeOut (p0 : Nat) (p1 : Int32) (σ : mm_M) : Option mm_M :=
  mm_sh σ p0 (.inl 6) ((if (fX8_isOutside p1 (mm_I σ p0 1)) = 0 then (fX6_takeOut_14  mm_fuel p0 p1 p1 σ) else some (σ)))
set_option maxHeartbeats 4000000 in
set_option maxRecDepth 100000 in
theorem kX6_takeOut_14 {G : mm_G} {A : Nat → Prop} {ini : Bool}  {R : mm_M}  : ∀ (a0 : Nat) (x1 : Int32) (x2 : Int32) (σ : mm_M), fX6_takeOut_14  mm_fuel a0 x1 x2 σ = some R → mm_J cd_Y G RX6 cX6_takeOut 3 none ini rmX6_takeOut A (mm_QF cd_Y G A (mm_Pv R) rmX6_takeOut.cells rmX6_takeOut.slots) 14 [(0, .ref a0), (1, .int x1), (2, .int x2)] [] σ 0 0 := by
  generalize mm_fuel = n
  induction n with
  | zero => intro a0 x1 x2 σ hf; cases hf
  | succ n ih =>
    intro a0 x1 x2 σ hf
    unfold fX6_takeOut_14 at hf
    refine mm_iload_n (j := 2) dX6_takeOut_14 rfl rfl ?_
    refine mm_iconst (v := 1) dX6_takeOut_15 (by decide) ?_
    refine mm_iadd dX6_takeOut_16 ?_
    refine mm_aload_n (j := 0) dX6_takeOut_17 rfl rfl ?_
    obtain ⟨hs3, hf⟩ := mm_sh_s hf
    refine mm_get (c := 6) (k := 1) (v := .int (mm_I σ a0 1)) cd_ok ⟨_, _, _, rfl, by decide, Or.inl tw_39⟩ hs3 rfl dX6_takeOut_18 ?_
    refine mm_icmp_ge (tgt := 52) dX6_takeOut_21 (by decide) (fun c4 => ?_) (fun c4 => ?_)
    · rw [if_pos c4] at hf
      refine mm_aload_n (j := 0) dX6_takeOut_52 rfl rfl ?_
      refine mm_dup dX6_takeOut_53 rfl ?_
      refine mm_get (c := 6) (k := 1) (v := .int (mm_I σ a0 1)) cd_ok ⟨_, _, _, rfl, by decide, Or.inl tw_39⟩ hs3 rfl dX6_takeOut_54 ?_
      refine mm_iconst (v := 1) dX6_takeOut_57 (by decide) ?_
      refine mm_isub dX6_takeOut_58 ?_
      refine mm_putI (c := 6) (k := 1) cd_ok ⟨_, _, _, rfl, by decide, rfl, Or.inl tw_39⟩ hs3 rfl rfl rfl dX6_takeOut_59 ?_
      cases hf
      exact mm_vret rfl dX6_takeOut_62 ⟨rfl, rfl⟩
    · rw [if_neg c4] at hf
      refine mm_iload_n (j := 2) dX6_takeOut_24 rfl rfl ?_
      refine mm_iconst (v := 1) dX6_takeOut_25 (by decide) ?_
      refine mm_iadd dX6_takeOut_26 ?_
      refine mm_bipush (v := 20) dX6_takeOut_27 (by decide) ?_
      refine mm_icmp_ge (tgt := 52) dX6_takeOut_29 (by decide) (fun c5 => ?_) (fun c5 => ?_)
      · rw [if_pos c5] at hf
        refine mm_aload_n (j := 0) dX6_takeOut_52 rfl rfl ?_
        refine mm_dup dX6_takeOut_53 rfl ?_
        refine mm_get (c := 6) (k := 1) (v := .int (mm_I σ a0 1)) cd_ok ⟨_, _, _, rfl, by decide, Or.inl tw_39⟩ hs3 rfl dX6_takeOut_54 ?_
        refine mm_iconst (v := 1) dX6_takeOut_57 (by decide) ?_
        refine mm_isub dX6_takeOut_58 ?_
        refine mm_putI (c := 6) (k := 1) cd_ok ⟨_, _, _, rfl, by decide, rfl, Or.inl tw_39⟩ hs3 rfl rfl rfl dX6_takeOut_59 ?_
        cases hf
        exact mm_vret rfl dX6_takeOut_62 ⟨rfl, rfl⟩
      · rw [if_neg c5] at hf
        refine mm_aload_n (j := 0) dX6_takeOut_32 rfl rfl ?_
        refine mm_get (c := 6) (k := 0) (v := va_rf (mm_R σ a0 0)) cd_ok ⟨_, _, _, rfl, by decide, Or.inl tw_38⟩ hs3 rfl dX6_takeOut_33 ?_
        refine mm_iload_n (j := 2) dX6_takeOut_36 rfl rfl ?_
        refine mm_aload_n (j := 0) dX6_takeOut_37 rfl rfl ?_
        refine mm_get (c := 6) (k := 0) (v := va_rf (mm_R σ a0 0)) cd_ok ⟨_, _, _, rfl, by decide, Or.inl tw_38⟩ hs3 rfl dX6_takeOut_38 ?_
        refine mm_iload_n (j := 2) dX6_takeOut_41 rfl rfl ?_
        refine mm_iconst (v := 1) dX6_takeOut_42 (by decide) ?_
        refine mm_iadd dX6_takeOut_43 ?_
        obtain ⟨q6, hq6, hf⟩ := mm_on_s hf
        rw [hq6, mm_rf_some]
        obtain ⟨n7, hn7, hf⟩ := mm_ar_s hf
        obtain ⟨hi8, hf⟩ := mm_ib_s hf
        refine mm_aald (v := va_rf (mm_R σ q6 (x2 + 1).toNatClampNeg)) hn7 rfl hi8 rfl dX6_takeOut_44 ?_
        obtain ⟨q9, hq9, hf⟩ := mm_on_s hf
        rw [hq9, mm_rf_some]
        obtain ⟨hi10, hf⟩ := mm_ib_s hf
        obtain ⟨hs11, hf⟩ := mm_sh_s hf
        refine mm_aast (cv := 3) hn7 rfl hi10 hs11 rfl dX6_takeOut_45 ?_
        refine mm_iinc (j := 2) (L' := [(2, .int (x2 + 1)), (0, .ref a0), (1, .int x1)]) dX6_takeOut_46 rfl rfl (by decide) rfl ?_
        refine mm_goto (tgt := 14) dX6_takeOut_49 (by decide) ?_
        refine mm_sub [1, 2, 0] rfl ?_
        exact ih a0 x1 (x2 + 1) (mm_wR σ q6 (x2.toNatClampNeg) (some q9)) hf
set_option maxHeartbeats 4000000 in
set_option maxRecDepth 100000 in
theorem kX6_takeOut {G : mm_G} {A : Nat → Prop} (p0 : Nat) (p1 : Int32) {σ : mm_M} {R : mm_M} (hf : fX6_takeOut p0 p1 σ = some R) : mm_C cd_Y G yX6_takeOut cX6_takeOut 3 none rmX6_takeOut A [.ref p0, .int p1] σ (mm_Pv R) := by
  refine mm_C.of (by decide) (Nat.le_of_ble_eq_true rfl) ?_
  unfold fX6_takeOut at hf
  have e0 : lv_args 0 [.ref p0, .int p1] = [(0, .ref p0), (1, .int p1)] := rfl
  rw [e0]
  generalize hini : (yX6_takeOut.name == "<init>") = ini
  clear e0
  clear hini
  refine mm_iload_n (j := 1) dX6_takeOut_0 rfl rfl ?_
  refine mm_aload_n (j := 0) dX6_takeOut_1 rfl rfl ?_
  obtain ⟨hs1, hf⟩ := mm_sh_s hf
  refine mm_get (c := 6) (k := 1) (v := .int (mm_I σ p0 1)) cd_ok ⟨_, _, _, rfl, by decide, Or.inl tw_39⟩ hs1 rfl dX6_takeOut_2 ?_
  refine mm_callSi cd_ok (kX8_isOutside p1 (mm_I σ p0 1) _ rfl) (Or.inr ⟨_, tn_15⟩) cdX8_isOutside tw_221 nmX8_isOutside rfl rfl (by simp only [List.map_cons, List.map_nil, mm_rf_cat]; exact Nat.le_of_ble_eq_true rfl) dX6_takeOut_5 ⟨Nat.le_of_ble_eq_true rfl, Nat.le_of_ble_eq_true rfl⟩ ⟨Nat.le_of_ble_eq_true rfl, Nat.le_of_ble_eq_true rfl⟩ ?_
  refine mm_if_eq (tgt := 12) dX6_takeOut_8 (by decide) (fun c2 => ?_) (fun c2 => ?_)
  · rw [if_pos c2] at hf
    refine mm_iload_n (j := 1) dX6_takeOut_12 rfl rfl ?_
    refine mm_istore_n (L' := [(2, .int p1), (0, .ref p0), (1, .int p1)]) dX6_takeOut_13 rfl (by decide) rfl ?_
    refine mm_sub [1, 2, 0] rfl ?_
    exact kX6_takeOut_14  p0 p1 p1 σ hf
  · rw [if_neg c2] at hf
    cases hf
    exact mm_vret rfl dX6_takeOut_11 ⟨rfl, rfl⟩
theorem dX7_begin_0 : decode cX7_begin 0 = .ok (.aload_n 0, 1) := by decide +kernel
theorem dX7_begin_1 : decode cX7_begin 1 = .ok (.iload_n 1, 1) := by decide +kernel
theorem dX7_begin_2 : decode cX7_begin 2 = .ok (.putfield 18, 3) := by decide +kernel
theorem dX7_begin_5 : decode cX7_begin 5 = .ok (.aload_n 0, 1) := by decide +kernel
theorem dX7_begin_6 : decode cX7_begin 6 = .ok (.iload_n 2, 1) := by decide +kernel
theorem dX7_begin_7 : decode cX7_begin 7 = .ok (.putfield 22, 3) := by decide +kernel
theorem dX7_begin_10 : decode cX7_begin 10 = .ok (.aload_n 0, 1) := by decide +kernel
theorem dX7_begin_11 : decode cX7_begin 11 = .ok (.getfield 12, 3) := by decide +kernel
theorem dX7_begin_14 : decode cX7_begin 14 = .ok (.iconst 0, 1) := by decide +kernel
theorem dX7_begin_15 : decode cX7_begin 15 = .ok (.invokevirtual 25, 3) := by decide +kernel
theorem dX7_begin_18 : decode cX7_begin 18 = .ok (.return_, 1) := by decide +kernel
theorem nmX7_begin : mm_nm yX7_begin 2 := ⟨by decide, by decide, by decide +kernel⟩
theorem cdX7_begin : mm_cd cd_Y yX7_begin cX7_begin 3 none := ⟨tw_693, tw_3⟩
abbrev rmX7_begin : Room := { frames := 2, cells := 0, slots := 0, locals := 46 }
def fX7_begin (p0 : Nat) (p1 : Int32) (p2 : Int32) (σ : mm_M) : Option mm_M :=
  mm_sh σ p0 (.inl 7) (mm_on (mm_R (mm_wI (mm_wI σ p0 1 p1) p0 2 p2) p0 0) fun q2 => mm_sh (mm_wI (mm_wI σ p0 1 p1) p0 2 p2) q2 (.inl 4) (mm_on (fX4_eraseRows q2 0 (mm_wI (mm_wI σ p0 1 p1) p0 2 p2)) fun q4 => some (q4)))
set_option maxHeartbeats 4000000 in
set_option maxRecDepth 100000 in
theorem kX7_begin {G : mm_G} {A : Nat → Prop} (p0 : Nat) (p1 : Int32) (p2 : Int32) {σ : mm_M} {R : mm_M} (hf : fX7_begin p0 p1 p2 σ = some R) : mm_C cd_Y G yX7_begin cX7_begin 3 none rmX7_begin A [.ref p0, .int p1, .int p2] σ (mm_Pv R) := by
  refine mm_C.of (by decide) (Nat.le_of_ble_eq_true rfl) ?_
  unfold fX7_begin at hf
  have e0 : lv_args 0 [.ref p0, .int p1, .int p2] = [(0, .ref p0), (1, .int p1), (2, .int p2)] := rfl
  rw [e0]
  generalize hini : (yX7_begin.name == "<init>") = ini
  clear e0
  clear hini
  refine mm_aload_n (j := 0) dX7_begin_0 rfl rfl ?_
  refine mm_iload_n (j := 1) dX7_begin_1 rfl rfl ?_
  obtain ⟨hs1, hf⟩ := mm_sh_s hf
  refine mm_putI (c := 7) (k := 1) cd_ok ⟨_, _, _, rfl, by decide, rfl, Or.inl tw_68⟩ hs1 rfl rfl rfl dX7_begin_2 ?_
  refine mm_aload_n (j := 0) dX7_begin_5 rfl rfl ?_
  refine mm_iload_n (j := 2) dX7_begin_6 rfl rfl ?_
  refine mm_putI (c := 7) (k := 2) cd_ok ⟨_, _, _, rfl, by decide, rfl, Or.inl tw_69⟩ hs1 rfl rfl rfl dX7_begin_7 ?_
  refine mm_aload_n (j := 0) dX7_begin_10 rfl rfl ?_
  refine mm_get (c := 7) (k := 0) (v := va_rf (mm_R (mm_wI (mm_wI σ p0 1 p1) p0 2 p2) p0 0)) cd_ok ⟨_, _, _, rfl, by decide, Or.inl tw_67⟩ hs1 rfl dX7_begin_11 ?_
  refine mm_iconst (v := 0) dX7_begin_14 (by decide) ?_
  obtain ⟨q2, hq2, hf⟩ := mm_on_s hf
  rw [hq2, mm_rf_some]
  obtain ⟨hs3, hf⟩ := mm_sh_s hf
  obtain ⟨q4, hq4, hf⟩ := mm_on_s hf
  refine mm_callVv cd_ok (kX4_eraseRows q2 0 hq4) hs3 rfl (Or.inl tw_694) cdX4_eraseRows tw_590 tw_591 nmX4_eraseRows rfl rfl (by simp only [List.map_cons, List.map_nil, mm_rf_cat]; exact Nat.le_of_ble_eq_true rfl) dX7_begin_15 ⟨Nat.le_of_ble_eq_true rfl, Nat.le_of_ble_eq_true rfl⟩ ⟨Nat.le_of_ble_eq_true rfl, Nat.le_of_ble_eq_true rfl⟩ ?_
  cases hf
  exact mm_vret rfl dX7_begin_18 ⟨rfl, rfl⟩
theorem dX7_addTo_0 : decode cX7_addTo 0 = .ok (.aload_n 0, 1) := by decide +kernel
theorem dX7_addTo_1 : decode cX7_addTo 1 = .ok (.getfield 12, 3) := by decide +kernel
theorem dX7_addTo_4 : decode cX7_addTo 4 = .ok (.aload_n 1, 1) := by decide +kernel
theorem dX7_addTo_5 : decode cX7_addTo 5 = .ok (.invokevirtual 40, 3) := by decide +kernel
theorem dX7_addTo_8 : decode cX7_addTo 8 = .ok (.return_, 1) := by decide +kernel
theorem nmX7_addTo : mm_nm yX7_addTo 1 := ⟨by decide, by decide, by decide +kernel⟩
theorem cdX7_addTo : mm_cd cd_Y yX7_addTo cX7_addTo 2 none := ⟨tw_711, tw_3⟩
abbrev rmX7_addTo : Room := { frames := 3, cells := 0, slots := 0, locals := 69 }
def fX7_addTo (p0 : Nat) (p1 : Nat) (σ : mm_M) : Option mm_M :=
  mm_sh σ p0 (.inl 7) (mm_on (mm_R σ p0 0) fun q2 => mm_sh σ q2 (.inl 4) (mm_on (fX4_addTo q2 p1 σ) fun q4 => some (q4)))
set_option maxHeartbeats 4000000 in
set_option maxRecDepth 100000 in
theorem kX7_addTo {G : mm_G} {A : Nat → Prop} (p0 : Nat) (p1 : Nat) {σ : mm_M} {R : mm_M} (hf : fX7_addTo p0 p1 σ = some R) : mm_C cd_Y G yX7_addTo cX7_addTo 2 none rmX7_addTo A [.ref p0, .ref p1] σ (mm_Pv R) := by
  refine mm_C.of (by decide) (Nat.le_of_ble_eq_true rfl) ?_
  unfold fX7_addTo at hf
  have e0 : lv_args 0 [.ref p0, .ref p1] = [(0, .ref p0), (1, .ref p1)] := rfl
  rw [e0]
  generalize hini : (yX7_addTo.name == "<init>") = ini
  clear e0
  clear hini
  refine mm_aload_n (j := 0) dX7_addTo_0 rfl rfl ?_
  obtain ⟨hs1, hf⟩ := mm_sh_s hf
  refine mm_get (c := 7) (k := 0) (v := va_rf (mm_R σ p0 0)) cd_ok ⟨_, _, _, rfl, by decide, Or.inl tw_67⟩ hs1 rfl dX7_addTo_1 ?_
  refine mm_aload_n (j := 1) dX7_addTo_4 rfl rfl ?_
  obtain ⟨q2, hq2, hf⟩ := mm_on_s hf
  rw [hq2, mm_rf_some]
  obtain ⟨hs3, hf⟩ := mm_sh_s hf
  obtain ⟨q4, hq4, hf⟩ := mm_on_s hf
  refine mm_callVv cd_ok (kX4_addTo q2 p1 hq4) hs3 rfl (Or.inl tw_712) cdX4_addTo tw_713 tw_714 nmX4_addTo rfl rfl (by simp only [List.map_cons, List.map_nil, mm_rf_cat]; exact Nat.le_of_ble_eq_true rfl) dX7_addTo_5 ⟨Nat.le_of_ble_eq_true rfl, Nat.le_of_ble_eq_true rfl⟩ ⟨Nat.le_of_ble_eq_true rfl, Nat.le_of_ble_eq_true rfl⟩ ?_
  cases hf
  exact mm_vret rfl dX7_addTo_8 ⟨rfl, rfl⟩
theorem dX8_isRight_0 : decode cX8_isRight 0 = .ok (.iload_n 0, 1) := by decide +kernel
theorem dX8_isRight_1 : decode cX8_isRight 1 = .ok (.sipush 255, 3) := by decide +kernel
theorem dX8_isRight_4 : decode cX8_isRight 4 = .ok (.iand, 1) := by decide +kernel
theorem dX8_isRight_5 : decode cX8_isRight 5 = .ok (.invokestatic 138, 3) := by decide +kernel
theorem dX8_isRight_8 : decode cX8_isRight 8 = .ok (.iconst 1, 1) := by decide +kernel
theorem dX8_isRight_9 : decode cX8_isRight 9 = .ok (.iand, 1) := by decide +kernel
theorem dX8_isRight_10 : decode cX8_isRight 10 = .ok (.iconst 1, 1) := by decide +kernel
theorem dX8_isRight_11 : decode cX8_isRight 11 = .ok (.if_icmp .ne 7, 3) := by decide +kernel
theorem dX8_isRight_14 : decode cX8_isRight 14 = .ok (.iconst 1, 1) := by decide +kernel
theorem dX8_isRight_15 : decode cX8_isRight 15 = .ok (.goto 4, 3) := by decide +kernel
theorem dX8_isRight_18 : decode cX8_isRight 18 = .ok (.iconst 0, 1) := by decide +kernel
theorem dX8_isRight_19 : decode cX8_isRight 19 = .ok (.ireturn, 1) := by decide +kernel
theorem nmX8_isRight : mm_nm yX8_isRight 1 := ⟨by decide, by decide, by decide +kernel⟩
theorem cdX8_isRight : mm_cd cd_Y yX8_isRight cX8_isRight 1 (some .boolean) := ⟨tw_313, tw_1⟩
abbrev rmX8_isRight : Room := { frames := 1, cells := 0, slots := 0, locals := 20 }
def fX8_isRight (p0 : Int32) : Int32 :=
  (if ((fJ6_bitCount_0f7a4 (p0 &&& 255)) &&& 1) = 1 then 1 else 0)
set_option maxHeartbeats 4000000 in
set_option maxRecDepth 100000 in
theorem kX8_isRight {G : mm_G} {A : Nat → Prop} (p0 : Int32) (σ0 : mm_M) {R : Int32} (hf : fX8_isRight p0 = R) : mm_C cd_Y G yX8_isRight cX8_isRight 1 (some .boolean) rmX8_isRight A [.int p0] σ0 (mm_Pi R σ0) := by
  refine mm_C.of (by decide) (Nat.le_of_ble_eq_true rfl) ?_
  unfold fX8_isRight at hf
  have e0 : lv_args 0 [.int p0] = [(0, .int p0)] := rfl
  rw [e0]
  generalize hini : (yX8_isRight.name == "<init>") = ini
  clear e0
  clear hini
  refine mm_iload_n (j := 0) dX8_isRight_0 rfl rfl ?_
  refine mm_sipush (v := 255) dX8_isRight_1 (by decide) ?_
  refine mm_iand dX8_isRight_4 ?_
  refine mm_callSi cd_ok (kJ6_bitCount_0f7a4 (p0 &&& 255) _ rfl) (Or.inl tw_193) cdJ6_bitCount_0f7a4 tw_194 nmJ6_bitCount_0f7a4 rfl rfl (by simp only [List.map_cons, List.map_nil, mm_rf_cat]; exact Nat.le_of_ble_eq_true rfl) dX8_isRight_5 ⟨Nat.le_of_ble_eq_true rfl, Nat.le_of_ble_eq_true rfl⟩ ⟨Nat.le_of_ble_eq_true rfl, Nat.le_of_ble_eq_true rfl⟩ ?_
  refine mm_iconst (v := 1) dX8_isRight_8 (by decide) ?_
  refine mm_iand dX8_isRight_9 ?_
  refine mm_iconst (v := 1) dX8_isRight_10 (by decide) ?_
  refine mm_icmp_ne (tgt := 18) dX8_isRight_11 (by decide) (fun c1 => ?_) (fun c1 => ?_)
  · rw [if_neg c1] at hf
    refine mm_iconst (v := 0) dX8_isRight_18 (by decide) ?_
    subst hf
    exact mm_iret rfl rfl dX8_isRight_19 ⟨rfl, rfl⟩
  · rw [if_pos c1] at hf
    refine mm_iconst (v := 1) dX8_isRight_14 (by decide) ?_
    refine mm_goto (tgt := 19) dX8_isRight_15 (by decide) ?_
    subst hf
    exact mm_iret rfl rfl dX8_isRight_19 ⟨rfl, rfl⟩
theorem dX8_isOdd_0 : decode cX8_isOdd 0 = .ok (.iload_n 0, 1) := by decide +kernel
theorem dX8_isOdd_1 : decode cX8_isOdd 1 = .ok (.iload_n 1, 1) := by decide +kernel
theorem dX8_isOdd_2 : decode cX8_isOdd 2 = .ok (.iand, 1) := by decide +kernel
theorem dX8_isOdd_3 : decode cX8_isOdd 3 = .ok (.invokestatic 138, 3) := by decide +kernel
theorem dX8_isOdd_6 : decode cX8_isOdd 6 = .ok (.iconst 1, 1) := by decide +kernel
theorem dX8_isOdd_7 : decode cX8_isOdd 7 = .ok (.iand, 1) := by decide +kernel
theorem dX8_isOdd_8 : decode cX8_isOdd 8 = .ok (.iconst 1, 1) := by decide +kernel
theorem dX8_isOdd_9 : decode cX8_isOdd 9 = .ok (.if_icmp .ne 7, 3) := by decide +kernel
theorem dX8_isOdd_12 : decode cX8_isOdd 12 = .ok (.iconst 1, 1) := by decide +kernel
theorem dX8_isOdd_13 : decode cX8_isOdd 13 = .ok (.goto 4, 3) := by decide +kernel
theorem dX8_isOdd_16 : decode cX8_isOdd 16 = .ok (.iconst 0, 1) := by decide +kernel
theorem dX8_isOdd_17 : decode cX8_isOdd 17 = .ok (.ireturn, 1) := by decide +kernel
theorem nmX8_isOdd : mm_nm yX8_isOdd 2 := ⟨by decide, by decide, by decide +kernel⟩
theorem cdX8_isOdd : mm_cd cd_Y yX8_isOdd cX8_isOdd 2 (some .boolean) := ⟨tw_192, tw_1⟩
abbrev rmX8_isOdd : Room := { frames := 1, cells := 0, slots := 0, locals := 20 }
def fX8_isOdd (p0 : Int32) (p1 : Int32) : Int32 :=
  (if ((fJ6_bitCount_0f7a4 (p0 &&& p1)) &&& 1) = 1 then 1 else 0)
set_option maxHeartbeats 4000000 in
set_option maxRecDepth 100000 in
theorem kX8_isOdd {G : mm_G} {A : Nat → Prop} (p0 : Int32) (p1 : Int32) (σ0 : mm_M) {R : Int32} (hf : fX8_isOdd p0 p1 = R) : mm_C cd_Y G yX8_isOdd cX8_isOdd 2 (some .boolean) rmX8_isOdd A [.int p0, .int p1] σ0 (mm_Pi R σ0) := by
  refine mm_C.of (by decide) (Nat.le_of_ble_eq_true rfl) ?_
  unfold fX8_isOdd at hf
  have e0 : lv_args 0 [.int p0, .int p1] = [(0, .int p0), (1, .int p1)] := rfl
  rw [e0]
  generalize hini : (yX8_isOdd.name == "<init>") = ini
  clear e0
  clear hini
  refine mm_iload_n (j := 0) dX8_isOdd_0 rfl rfl ?_
  refine mm_iload_n (j := 1) dX8_isOdd_1 rfl rfl ?_
  refine mm_iand dX8_isOdd_2 ?_
  refine mm_callSi cd_ok (kJ6_bitCount_0f7a4 (p0 &&& p1) _ rfl) (Or.inl tw_193) cdJ6_bitCount_0f7a4 tw_194 nmJ6_bitCount_0f7a4 rfl rfl (by simp only [List.map_cons, List.map_nil, mm_rf_cat]; exact Nat.le_of_ble_eq_true rfl) dX8_isOdd_3 ⟨Nat.le_of_ble_eq_true rfl, Nat.le_of_ble_eq_true rfl⟩ ⟨Nat.le_of_ble_eq_true rfl, Nat.le_of_ble_eq_true rfl⟩ ?_
  refine mm_iconst (v := 1) dX8_isOdd_6 (by decide) ?_
  refine mm_iand dX8_isOdd_7 ?_
  refine mm_iconst (v := 1) dX8_isOdd_8 (by decide) ?_
  refine mm_icmp_ne (tgt := 16) dX8_isOdd_9 (by decide) (fun c1 => ?_) (fun c1 => ?_)
  · rw [if_neg c1] at hf
    refine mm_iconst (v := 0) dX8_isOdd_16 (by decide) ?_
    subst hf
    exact mm_iret rfl rfl dX8_isOdd_17 ⟨rfl, rfl⟩
  · rw [if_pos c1] at hf
    refine mm_iconst (v := 1) dX8_isOdd_12 (by decide) ?_
    refine mm_goto (tgt := 17) dX8_isOdd_13 (by decide) ?_
    subst hf
    exact mm_iret rfl rfl dX8_isOdd_17 ⟨rfl, rfl⟩
theorem dX8_find_0 : decode cX8_find 0 = .ok (.aload_n 0, 1) := by decide +kernel
theorem dX8_find_1 : decode cX8_find 1 = .ok (.getfield 34, 3) := by decide +kernel
theorem dX8_find_4 : decode cX8_find 4 = .ok (.iload_n 1, 1) := by decide +kernel
theorem dX8_find_5 : decode cX8_find 5 = .ok (.iload_n 2, 1) := by decide +kernel
theorem dX8_find_6 : decode cX8_find 6 = .ok (.iload_n 3, 1) := by decide +kernel
theorem dX8_find_7 : decode cX8_find 7 = .ok (.invokevirtual 174, 3) := by decide +kernel
theorem dX8_find_10 : decode cX8_find 10 = .ok (.ireturn, 1) := by decide +kernel
theorem nmX8_find : mm_nm yX8_find 3 := ⟨by decide, by decide, by decide +kernel⟩
theorem cdX8_find : mm_cd cd_Y yX8_find cX8_find 4 (some .int) := ⟨tw_211, tw_1⟩
abbrev rmX8_find : Room := { frames := 3, cells := 0, slots := 0, locals := 67 }
def fX8_find (p0 : Nat) (p1 : Int32) (p2 : Int32) (p3 : Int32) (σ : mm_M) : Option (Int32 × mm_M) :=
  mm_sh σ p0 (.inl 8) (mm_on (mm_R σ p0 7) fun q2 => mm_sh σ q2 (.inl 6) (mm_on (fX6_placeOf q2 p1 p2 p3 σ) fun q4 => some (q4.1, q4.2)))
set_option maxHeartbeats 4000000 in
set_option maxRecDepth 100000 in
theorem kX8_find {G : mm_G} {A : Nat → Prop} (p0 : Nat) (p1 : Int32) (p2 : Int32) (p3 : Int32) {σ : mm_M} {R : (Int32 × mm_M)} (hf : fX8_find p0 p1 p2 p3 σ = some R) : mm_C cd_Y G yX8_find cX8_find 4 (some .int) rmX8_find A [.ref p0, .int p1, .int p2, .int p3] σ (mm_Pi R.1 R.2) := by
  refine mm_C.of (by decide) (Nat.le_of_ble_eq_true rfl) ?_
  unfold fX8_find at hf
  have e0 : lv_args 0 [.ref p0, .int p1, .int p2, .int p3] = [(0, .ref p0), (1, .int p1), (2, .int p2), (3, .int p3)] := rfl
  rw [e0]
  generalize hini : (yX8_find.name == "<init>") = ini
  clear e0
  clear hini
  refine mm_aload_n (j := 0) dX8_find_0 rfl rfl ?_
  obtain ⟨hs1, hf⟩ := mm_sh_s hf
  refine mm_get (c := 8) (k := 7) (v := va_rf (mm_R σ p0 7)) cd_ok ⟨_, _, _, rfl, by decide, Or.inl tw_147⟩ hs1 rfl dX8_find_1 ?_
  refine mm_iload_n (j := 1) dX8_find_4 rfl rfl ?_
  refine mm_iload_n (j := 2) dX8_find_5 rfl rfl ?_
  refine mm_iload_n (j := 3) dX8_find_6 rfl rfl ?_
  obtain ⟨q2, hq2, hf⟩ := mm_on_s hf
  rw [hq2, mm_rf_some]
  obtain ⟨hs3, hf⟩ := mm_sh_s hf
  obtain ⟨q4, hq4, hf⟩ := mm_on_s hf
  refine mm_callVi cd_ok (kX6_placeOf q2 p1 p2 p3 hq4) hs3 rfl (Or.inl tw_212) cdX6_placeOf tw_213 tw_214 nmX6_placeOf rfl rfl (by simp only [List.map_cons, List.map_nil, mm_rf_cat]; exact Nat.le_of_ble_eq_true rfl) dX8_find_7 ⟨Nat.le_of_ble_eq_true rfl, Nat.le_of_ble_eq_true rfl⟩ ⟨Nat.le_of_ble_eq_true rfl, Nat.le_of_ble_eq_true rfl⟩ ?_
  cases hf
  exact mm_iret rfl rfl dX8_find_10 ⟨rfl, rfl⟩
theorem dX8_mend_0 : decode cX8_mend 0 = .ok (.iload_n 0, 1) := by decide +kernel
theorem dX8_mend_1 : decode cX8_mend 1 = .ok (.sipush 163, 3) := by decide +kernel
theorem dX8_mend_4 : decode cX8_mend 4 = .ok (.invokestatic 227, 3) := by decide +kernel
theorem dX8_mend_7 : decode cX8_mend 7 = .ok (.ifCond .eq 7, 3) := by decide +kernel
theorem dX8_mend_10 : decode cX8_mend 10 = .ok (.iconst 0, 1) := by decide +kernel
theorem dX8_mend_11 : decode cX8_mend 11 = .ok (.goto 4, 3) := by decide +kernel
theorem dX8_mend_14 : decode cX8_mend 14 = .ok (.iconst 1, 1) := by decide +kernel
theorem dX8_mend_15 : decode cX8_mend 15 = .ok (.iload_n 0, 1) := by decide +kernel
theorem dX8_mend_16 : decode cX8_mend 16 = .ok (.sipush 142, 3) := by decide +kernel
theorem dX8_mend_19 : decode cX8_mend 19 = .ok (.invokestatic 227, 3) := by decide +kernel
theorem dX8_mend_22 : decode cX8_mend 22 = .ok (.ifCond .eq 7, 3) := by decide +kernel
theorem dX8_mend_25 : decode cX8_mend 25 = .ok (.iconst 0, 1) := by decide +kernel
theorem dX8_mend_26 : decode cX8_mend 26 = .ok (.goto 4, 3) := by decide +kernel
theorem dX8_mend_29 : decode cX8_mend 29 = .ok (.iconst 2, 1) := by decide +kernel
theorem dX8_mend_30 : decode cX8_mend 30 = .ok (.iadd, 1) := by decide +kernel
theorem dX8_mend_31 : decode cX8_mend 31 = .ok (.iload_n 0, 1) := by decide +kernel
theorem dX8_mend_32 : decode cX8_mend 32 = .ok (.bipush 58, 2) := by decide +kernel
theorem dX8_mend_34 : decode cX8_mend 34 = .ok (.invokestatic 227, 3) := by decide +kernel
theorem dX8_mend_37 : decode cX8_mend 37 = .ok (.ifCond .eq 7, 3) := by decide +kernel
theorem dX8_mend_40 : decode cX8_mend 40 = .ok (.iconst 0, 1) := by decide +kernel
theorem dX8_mend_41 : decode cX8_mend 41 = .ok (.goto 4, 3) := by decide +kernel
theorem dX8_mend_44 : decode cX8_mend 44 = .ok (.iconst 4, 1) := by decide +kernel
theorem dX8_mend_45 : decode cX8_mend 45 = .ok (.iadd, 1) := by decide +kernel
theorem dX8_mend_46 : decode cX8_mend 46 = .ok (.istore_n 1, 1) := by decide +kernel
theorem dX8_mend_47 : decode cX8_mend 47 = .ok (.iload_n 0, 1) := by decide +kernel
theorem dX8_mend_48 : decode cX8_mend 48 = .ok (.sipush 255, 3) := by decide +kernel
theorem dX8_mend_51 : decode cX8_mend 51 = .ok (.invokestatic 227, 3) := by decide +kernel
theorem dX8_mend_54 : decode cX8_mend 54 = .ok (.ifCond .ne 17, 3) := by decide +kernel
theorem dX8_mend_57 : decode cX8_mend 57 = .ok (.bipush 16, 2) := by decide +kernel
theorem dX8_mend_59 : decode cX8_mend 59 = .ok (.iload_n 0, 1) := by decide +kernel
theorem dX8_mend_60 : decode cX8_mend 60 = .ok (.getstatic 230, 3) := by decide +kernel
theorem dX8_mend_63 : decode cX8_mend 63 = .ok (.iload_n 1, 1) := by decide +kernel
theorem dX8_mend_64 : decode cX8_mend 64 = .ok (.iaload, 1) := by decide +kernel
theorem dX8_mend_65 : decode cX8_mend 65 = .ok (.ixor, 1) := by decide +kernel
theorem dX8_mend_66 : decode cX8_mend 66 = .ok (.invokestatic 233, 3) := by decide +kernel
theorem dX8_mend_69 : decode cX8_mend 69 = .ok (.iadd, 1) := by decide +kernel
theorem dX8_mend_70 : decode cX8_mend 70 = .ok (.ireturn, 1) := by decide +kernel
theorem dX8_mend_71 : decode cX8_mend 71 = .ok (.iload_n 1, 1) := by decide +kernel
theorem dX8_mend_72 : decode cX8_mend 72 = .ok (.ifCond .ne 10, 3) := by decide +kernel
theorem dX8_mend_75 : decode cX8_mend 75 = .ok (.iload_n 0, 1) := by decide +kernel
theorem dX8_mend_76 : decode cX8_mend 76 = .ok (.invokestatic 233, 3) := by decide +kernel
theorem dX8_mend_79 : decode cX8_mend 79 = .ok (.goto 4, 3) := by decide +kernel
theorem dX8_mend_82 : decode cX8_mend 82 = .ok (.iconst (-1), 1) := by decide +kernel
theorem dX8_mend_83 : decode cX8_mend 83 = .ok (.ireturn, 1) := by decide +kernel
theorem nmX8_mend : mm_nm yX8_mend 1 := ⟨by decide, by decide, by decide +kernel⟩
theorem cdX8_mend : mm_cd cd_Y yX8_mend cX8_mend 2 (some .int) := ⟨tw_189, tw_1⟩
abbrev rmX8_mend : Room := { frames := 2, cells := 0, slots := 0, locals := 41 }
def fX8_mend_45  (x0 : Int32) (y0 : Int32) (y1 : Int32) (σ : mm_M) : Option (Int32 × mm_M) :=
  (if (fX8_isOdd x0 255) = 0 then mm_ib (y1 + y0) 8 (some (16 + (fX8_guardedValue (x0 ^^^ (([64, 1, 4, 128, 16, 32, 8, 2] : List Int32).getD (y1 + y0).toNatClampNeg 0))), σ)) else (if (y1 + y0) = 0 then some (fX8_guardedValue x0, σ) else some ((-1), σ)))
def fX8_mend_30  (x0 : Int32) (y0 : Int32) (y1 : Int32) (σ : mm_M) : Option (Int32 × mm_M) :=
  (if (fX8_isOdd x0 58) = 0 then (fX8_mend_45  x0 4 (y1 + y0) σ) else (fX8_mend_45  x0 0 (y1 + y0) σ))
def fX8_mend_15  (x0 : Int32) (y0 : Int32) (σ : mm_M) : Option (Int32 × mm_M) :=
  (if (fX8_isOdd x0 142) = 0 then (fX8_mend_30  x0 2 y0 σ) else (fX8_mend_30  x0 0 y0 σ))
def fX8_mend (p0 : Int32) (σ : mm_M) : Option (Int32 × mm_M) :=
  (if (fX8_isOdd p0 163) = 0 then (fX8_mend_15  p0 1 σ) else (fX8_mend_15  p0 0 σ))
set_option maxHeartbeats 4000000 in
set_option maxRecDepth 100000 in
theorem kX8_mend_45 {G : mm_G} {A : Nat → Prop} {ini : Bool}  {R : (Int32 × mm_M)}  (x0 : Int32) (y0 : Int32) (y1 : Int32) (σ : mm_M) (hf : fX8_mend_45  x0 y0 y1 σ = some R) : mm_J cd_Y G RX8 cX8_mend 2 (some .int) ini rmX8_mend A (mm_QF cd_Y G A (mm_Pi R.1 R.2) rmX8_mend.cells rmX8_mend.slots) 45 [(0, .int x0)] [.int y0, .int y1] σ 0 0 := by
  unfold fX8_mend_45 at hf
  refine mm_iadd dX8_mend_45 ?_
  refine mm_istore_n (L' := [(1, .int (y1 + y0)), (0, .int x0)]) dX8_mend_46 rfl (by decide) rfl ?_
  refine mm_iload_n (j := 1) dX8_mend_47 rfl rfl ?_
  refine mm_sipush (v := 255) dX8_mend_48 (by decide) ?_
  refine mm_callSi cd_ok (kX8_isOdd x0 255 _ rfl) (Or.inl tw_190) cdX8_isOdd tw_191 nmX8_isOdd rfl rfl (by simp only [List.map_cons, List.map_nil, mm_rf_cat]; exact Nat.le_of_ble_eq_true rfl) dX8_mend_51 ⟨Nat.le_of_ble_eq_true rfl, Nat.le_of_ble_eq_true rfl⟩ ⟨Nat.le_of_ble_eq_true rfl, Nat.le_of_ble_eq_true rfl⟩ ?_
  refine mm_if_ne (tgt := 71) dX8_mend_54 (by decide) (fun c4 => ?_) (fun c4 => ?_)
  · rw [if_neg c4] at hf
    refine mm_iload_n (j := 0) dX8_mend_71 rfl rfl ?_
    refine mm_if_ne (tgt := 82) dX8_mend_72 (by decide) (fun c5 => ?_) (fun c5 => ?_)
    · rw [if_neg c5] at hf
      refine mm_iconst (v := (-1)) dX8_mend_82 (by decide) ?_
      cases hf
      exact mm_iret rfl rfl dX8_mend_83 ⟨rfl, rfl⟩
    · rw [if_pos c5] at hf
      refine mm_iload_n (j := 1) dX8_mend_75 rfl rfl ?_
      refine mm_callSi cd_ok (kX8_guardedValue x0 _ rfl) (Or.inl tw_201) cdX8_guardedValue tw_202 nmX8_guardedValue rfl rfl (by simp only [List.map_cons, List.map_nil, mm_rf_cat]; exact Nat.le_of_ble_eq_true rfl) dX8_mend_76 ⟨Nat.le_of_ble_eq_true rfl, Nat.le_of_ble_eq_true rfl⟩ ⟨Nat.le_of_ble_eq_true rfl, Nat.le_of_ble_eq_true rfl⟩ ?_
      refine mm_goto (tgt := 83) dX8_mend_79 (by decide) ?_
      cases hf
      exact mm_iret rfl rfl dX8_mend_83 ⟨rfl, rfl⟩
  · rw [if_pos c4] at hf
    refine mm_bipush (v := 16) dX8_mend_57 (by decide) ?_
    refine mm_iload_n (j := 1) dX8_mend_59 rfl rfl ?_
    refine mm_gets (Y := cd_Y) (k := 1) rfl (Or.inl tw_199) dX8_mend_60 ?_
    refine mm_iload_n (j := 0) dX8_mend_63 rfl rfl ?_
    obtain ⟨hi6, hf⟩ := mm_ib_s hf
    refine mm_sald (Y := cd_Y) (k := 1) rfl hi6 dX8_mend_64 ?_
    refine mm_ixor dX8_mend_65 ?_
    refine mm_callSi cd_ok (kX8_guardedValue (x0 ^^^ (([64, 1, 4, 128, 16, 32, 8, 2] : List Int32).getD (y1 + y0).toNatClampNeg 0)) _ rfl) (Or.inl tw_201) cdX8_guardedValue tw_202 nmX8_guardedValue rfl rfl (by simp only [List.map_cons, List.map_nil, mm_rf_cat]; exact Nat.le_of_ble_eq_true rfl) dX8_mend_66 ⟨Nat.le_of_ble_eq_true rfl, Nat.le_of_ble_eq_true rfl⟩ ⟨Nat.le_of_ble_eq_true rfl, Nat.le_of_ble_eq_true rfl⟩ ?_
    refine mm_iadd dX8_mend_69 ?_
    cases hf
    exact mm_iret rfl rfl dX8_mend_70 ⟨rfl, rfl⟩
set_option maxHeartbeats 4000000 in
set_option maxRecDepth 100000 in
theorem kX8_mend_30 {G : mm_G} {A : Nat → Prop} {ini : Bool}  {R : (Int32 × mm_M)}  (x0 : Int32) (y0 : Int32) (y1 : Int32) (σ : mm_M) (hf : fX8_mend_30  x0 y0 y1 σ = some R) : mm_J cd_Y G RX8 cX8_mend 2 (some .int) ini rmX8_mend A (mm_QF cd_Y G A (mm_Pi R.1 R.2) rmX8_mend.cells rmX8_mend.slots) 30 [(0, .int x0)] [.int y0, .int y1] σ 0 0 := by
  unfold fX8_mend_30 at hf
  refine mm_iadd dX8_mend_30 ?_
  refine mm_iload_n (j := 0) dX8_mend_31 rfl rfl ?_
  refine mm_bipush (v := 58) dX8_mend_32 (by decide) ?_
  refine mm_callSi cd_ok (kX8_isOdd x0 58 _ rfl) (Or.inl tw_190) cdX8_isOdd tw_191 nmX8_isOdd rfl rfl (by simp only [List.map_cons, List.map_nil, mm_rf_cat]; exact Nat.le_of_ble_eq_true rfl) dX8_mend_34 ⟨Nat.le_of_ble_eq_true rfl, Nat.le_of_ble_eq_true rfl⟩ ⟨Nat.le_of_ble_eq_true rfl, Nat.le_of_ble_eq_true rfl⟩ ?_
  refine mm_if_eq (tgt := 44) dX8_mend_37 (by decide) (fun c3 => ?_) (fun c3 => ?_)
  · rw [if_pos c3] at hf
    refine mm_iconst (v := 4) dX8_mend_44 (by decide) ?_
    refine mm_sub [0] rfl ?_
    exact kX8_mend_45  x0 4 (y1 + y0) σ hf
  · rw [if_neg c3] at hf
    refine mm_iconst (v := 0) dX8_mend_40 (by decide) ?_
    refine mm_goto (tgt := 45) dX8_mend_41 (by decide) ?_
    refine mm_sub [0] rfl ?_
    exact kX8_mend_45  x0 0 (y1 + y0) σ hf
set_option maxHeartbeats 4000000 in
set_option maxRecDepth 100000 in
theorem kX8_mend_15 {G : mm_G} {A : Nat → Prop} {ini : Bool}  {R : (Int32 × mm_M)}  (x0 : Int32) (y0 : Int32) (σ : mm_M) (hf : fX8_mend_15  x0 y0 σ = some R) : mm_J cd_Y G RX8 cX8_mend 2 (some .int) ini rmX8_mend A (mm_QF cd_Y G A (mm_Pi R.1 R.2) rmX8_mend.cells rmX8_mend.slots) 15 [(0, .int x0)] [.int y0] σ 0 0 := by
  unfold fX8_mend_15 at hf
  refine mm_iload_n (j := 0) dX8_mend_15 rfl rfl ?_
  refine mm_sipush (v := 142) dX8_mend_16 (by decide) ?_
  refine mm_callSi cd_ok (kX8_isOdd x0 142 _ rfl) (Or.inl tw_190) cdX8_isOdd tw_191 nmX8_isOdd rfl rfl (by simp only [List.map_cons, List.map_nil, mm_rf_cat]; exact Nat.le_of_ble_eq_true rfl) dX8_mend_19 ⟨Nat.le_of_ble_eq_true rfl, Nat.le_of_ble_eq_true rfl⟩ ⟨Nat.le_of_ble_eq_true rfl, Nat.le_of_ble_eq_true rfl⟩ ?_
  refine mm_if_eq (tgt := 29) dX8_mend_22 (by decide) (fun c2 => ?_) (fun c2 => ?_)
  · rw [if_pos c2] at hf
    refine mm_iconst (v := 2) dX8_mend_29 (by decide) ?_
    refine mm_sub [0] rfl ?_
    exact kX8_mend_30  x0 2 y0 σ hf
  · rw [if_neg c2] at hf
    refine mm_iconst (v := 0) dX8_mend_25 (by decide) ?_
    refine mm_goto (tgt := 30) dX8_mend_26 (by decide) ?_
    refine mm_sub [0] rfl ?_
    exact kX8_mend_30  x0 0 y0 σ hf
set_option maxHeartbeats 4000000 in
set_option maxRecDepth 100000 in
theorem kX8_mend {G : mm_G} {A : Nat → Prop} (p0 : Int32) {σ : mm_M} {R : (Int32 × mm_M)} (hf : fX8_mend p0 σ = some R) : mm_C cd_Y G yX8_mend cX8_mend 2 (some .int) rmX8_mend A [.int p0] σ (mm_Pi R.1 R.2) := by
  refine mm_C.of (by decide) (Nat.le_of_ble_eq_true rfl) ?_
  unfold fX8_mend at hf
  have e0 : lv_args 0 [.int p0] = [(0, .int p0)] := rfl
  rw [e0]
  generalize hini : (yX8_mend.name == "<init>") = ini
  clear e0
  clear hini
  refine mm_iload_n (j := 0) dX8_mend_0 rfl rfl ?_
  refine mm_sipush (v := 163) dX8_mend_1 (by decide) ?_
  refine mm_callSi cd_ok (kX8_isOdd p0 163 _ rfl) (Or.inl tw_190) cdX8_isOdd tw_191 nmX8_isOdd rfl rfl (by simp only [List.map_cons, List.map_nil, mm_rf_cat]; exact Nat.le_of_ble_eq_true rfl) dX8_mend_4 ⟨Nat.le_of_ble_eq_true rfl, Nat.le_of_ble_eq_true rfl⟩ ⟨Nat.le_of_ble_eq_true rfl, Nat.le_of_ble_eq_true rfl⟩ ?_
  refine mm_if_eq (tgt := 14) dX8_mend_7 (by decide) (fun c1 => ?_) (fun c1 => ?_)
  · rw [if_pos c1] at hf
    refine mm_iconst (v := 1) dX8_mend_14 (by decide) ?_
    refine mm_sub [0] rfl ?_
    exact kX8_mend_15  p0 1 σ hf
  · rw [if_neg c1] at hf
    refine mm_iconst (v := 0) dX8_mend_10 (by decide) ?_
    refine mm_goto (tgt := 15) dX8_mend_11 (by decide) ?_
    refine mm_sub [0] rfl ?_
    exact kX8_mend_15  p0 0 σ hf
theorem dX8_valueAt_0 : decode cX8_valueAt 0 = .ok (.iload_n 1, 1) := by decide +kernel
theorem dX8_valueAt_1 : decode cX8_valueAt 1 = .ok (.bipush 42, 2) := by decide +kernel
theorem dX8_valueAt_3 : decode cX8_valueAt 3 = .ok (.invokestatic 62, 3) := by decide +kernel
theorem dX8_valueAt_6 : decode cX8_valueAt 6 = .ok (.ifCond .eq 5, 3) := by decide +kernel
theorem dX8_valueAt_9 : decode cX8_valueAt 9 = .ok (.iconst (-1), 1) := by decide +kernel
theorem dX8_valueAt_10 : decode cX8_valueAt 10 = .ok (.ireturn, 1) := by decide +kernel
theorem dX8_valueAt_11 : decode cX8_valueAt 11 = .ok (.aload_n 0, 1) := by decide +kernel
theorem dX8_valueAt_12 : decode cX8_valueAt 12 = .ok (.getfield 22, 3) := by decide +kernel
theorem dX8_valueAt_15 : decode cX8_valueAt 15 = .ok (.iload_n 1, 1) := by decide +kernel
theorem dX8_valueAt_16 : decode cX8_valueAt 16 = .ok (.iaload, 1) := by decide +kernel
theorem dX8_valueAt_17 : decode cX8_valueAt 17 = .ok (.invokestatic 144, 3) := by decide +kernel
theorem dX8_valueAt_20 : decode cX8_valueAt 20 = .ok (.istore_n 2, 1) := by decide +kernel
theorem dX8_valueAt_21 : decode cX8_valueAt 21 = .ok (.iload_n 2, 1) := by decide +kernel
theorem dX8_valueAt_22 : decode cX8_valueAt 22 = .ok (.iconst (-1), 1) := by decide +kernel
theorem dX8_valueAt_23 : decode cX8_valueAt 23 = .ok (.if_icmp .ne 7, 3) := by decide +kernel
theorem dX8_valueAt_26 : decode cX8_valueAt 26 = .ok (.iconst (-1), 1) := by decide +kernel
theorem dX8_valueAt_27 : decode cX8_valueAt 27 = .ok (.goto 7, 3) := by decide +kernel
theorem dX8_valueAt_30 : decode cX8_valueAt 30 = .ok (.iload_n 2, 1) := by decide +kernel
theorem dX8_valueAt_31 : decode cX8_valueAt 31 = .ok (.bipush 15, 2) := by decide +kernel
theorem dX8_valueAt_33 : decode cX8_valueAt 33 = .ok (.iand, 1) := by decide +kernel
theorem dX8_valueAt_34 : decode cX8_valueAt 34 = .ok (.ireturn, 1) := by decide +kernel
theorem nmX8_valueAt : mm_nm yX8_valueAt 1 := ⟨by decide, by decide, by decide +kernel⟩
theorem cdX8_valueAt : mm_cd cd_Y yX8_valueAt cX8_valueAt 3 (some .int) := ⟨tw_491, tw_1⟩
abbrev rmX8_valueAt : Room := { frames := 3, cells := 0, slots := 0, locals := 62 }
def fX8_valueAt (p0 : Nat) (p1 : Int32) (σ : mm_M) : Option (Int32 × mm_M) :=
  (if (fX8_isOutside p1 42) = 0 then mm_sh σ p0 (.inl 8) (mm_on (mm_R σ p0 3) fun q3 => mm_ar σ q3 0 fun n4 => mm_ib p1 n4 (mm_on (fX8_mend (mm_I σ q3 p1.toNatClampNeg) σ) fun q6 => (if q6.1 = (-1) then some ((-1), q6.2) else some (q6.1 &&& 15, q6.2)))) else some ((-1), σ))
set_option maxHeartbeats 4000000 in
set_option maxRecDepth 100000 in
theorem kX8_valueAt {G : mm_G} {A : Nat → Prop} (p0 : Nat) (p1 : Int32) {σ : mm_M} {R : (Int32 × mm_M)} (hf : fX8_valueAt p0 p1 σ = some R) : mm_C cd_Y G yX8_valueAt cX8_valueAt 3 (some .int) rmX8_valueAt A [.ref p0, .int p1] σ (mm_Pi R.1 R.2) := by
  refine mm_C.of (by decide) (Nat.le_of_ble_eq_true rfl) ?_
  unfold fX8_valueAt at hf
  have e0 : lv_args 0 [.ref p0, .int p1] = [(0, .ref p0), (1, .int p1)] := rfl
  rw [e0]
  generalize hini : (yX8_valueAt.name == "<init>") = ini
  clear e0
  clear hini
  refine mm_iload_n (j := 1) dX8_valueAt_0 rfl rfl ?_
  refine mm_bipush (v := 42) dX8_valueAt_1 (by decide) ?_
  refine mm_callSi cd_ok (kX8_isOutside p1 42 _ rfl) (Or.inl tw_239) cdX8_isOutside tw_221 nmX8_isOutside rfl rfl (by simp only [List.map_cons, List.map_nil, mm_rf_cat]; exact Nat.le_of_ble_eq_true rfl) dX8_valueAt_3 ⟨Nat.le_of_ble_eq_true rfl, Nat.le_of_ble_eq_true rfl⟩ ⟨Nat.le_of_ble_eq_true rfl, Nat.le_of_ble_eq_true rfl⟩ ?_
  refine mm_if_eq (tgt := 11) dX8_valueAt_6 (by decide) (fun c1 => ?_) (fun c1 => ?_)
  · rw [if_pos c1] at hf
    refine mm_aload_n (j := 0) dX8_valueAt_11 rfl rfl ?_
    obtain ⟨hs2, hf⟩ := mm_sh_s hf
    refine mm_get (c := 8) (k := 3) (v := va_rf (mm_R σ p0 3)) cd_ok ⟨_, _, _, rfl, by decide, Or.inl tw_143⟩ hs2 rfl dX8_valueAt_12 ?_
    refine mm_iload_n (j := 1) dX8_valueAt_15 rfl rfl ?_
    obtain ⟨q3, hq3, hf⟩ := mm_on_s hf
    rw [hq3, mm_rf_some]
    obtain ⟨n4, hn4, hf⟩ := mm_ar_s hf
    obtain ⟨hi5, hf⟩ := mm_ib_s hf
    refine mm_iald hn4 rfl hi5 dX8_valueAt_16 ?_
    obtain ⟨q6, hq6, hf⟩ := mm_on_s hf
    refine mm_callSi cd_ok (kX8_mend (mm_I σ q3 p1.toNatClampNeg) hq6) (Or.inl tw_187) cdX8_mend tw_188 nmX8_mend rfl rfl (by simp only [List.map_cons, List.map_nil, mm_rf_cat]; exact Nat.le_of_ble_eq_true rfl) dX8_valueAt_17 ⟨Nat.le_of_ble_eq_true rfl, Nat.le_of_ble_eq_true rfl⟩ ⟨Nat.le_of_ble_eq_true rfl, Nat.le_of_ble_eq_true rfl⟩ ?_
    refine mm_istore_n (L' := [(2, .int q6.1), (0, .ref p0), (1, .int p1)]) dX8_valueAt_20 rfl (by decide) rfl ?_
    refine mm_iload_n (j := 0) dX8_valueAt_21 rfl rfl ?_
    refine mm_iconst (v := (-1)) dX8_valueAt_22 (by decide) ?_
    refine mm_icmp_ne (tgt := 30) dX8_valueAt_23 (by decide) (fun c7 => ?_) (fun c7 => ?_)
    · rw [if_neg c7] at hf
      refine mm_iload_n (j := 0) dX8_valueAt_30 rfl rfl ?_
      refine mm_bipush (v := 15) dX8_valueAt_31 (by decide) ?_
      refine mm_iand dX8_valueAt_33 ?_
      cases hf
      exact mm_iret rfl rfl dX8_valueAt_34 ⟨rfl, rfl⟩
    · rw [if_pos c7] at hf
      refine mm_iconst (v := (-1)) dX8_valueAt_26 (by decide) ?_
      refine mm_goto (tgt := 34) dX8_valueAt_27 (by decide) ?_
      cases hf
      exact mm_iret rfl rfl dX8_valueAt_34 ⟨rfl, rfl⟩
  · rw [if_neg c1] at hf
    refine mm_iconst (v := (-1)) dX8_valueAt_9 (by decide) ?_
    cases hf
    exact mm_iret rfl rfl dX8_valueAt_10 ⟨rfl, rfl⟩
theorem dX8_readValues_0 : decode cX8_readValues 0 = .ok (.iconst 0, 1) := by decide +kernel
theorem dX8_readValues_1 : decode cX8_readValues 1 = .ok (.istore_n 3, 1) := by decide +kernel
theorem dX8_readValues_2 : decode cX8_readValues 2 = .ok (.iload_n 3, 1) := by decide +kernel
theorem dX8_readValues_3 : decode cX8_readValues 3 = .ok (.iload_n 2, 1) := by decide +kernel
theorem dX8_readValues_4 : decode cX8_readValues 4 = .ok (.if_icmp .ge 43, 3) := by decide +kernel
theorem dX8_readValues_7 : decode cX8_readValues 7 = .ok (.iload_n 3, 1) := by decide +kernel
theorem dX8_readValues_8 : decode cX8_readValues 8 = .ok (.aload_n 0, 1) := by decide +kernel
theorem dX8_readValues_9 : decode cX8_readValues 9 = .ok (.getfield 25, 3) := by decide +kernel
theorem dX8_readValues_12 : decode cX8_readValues 12 = .ok (.arraylength, 1) := by decide +kernel
theorem dX8_readValues_13 : decode cX8_readValues 13 = .ok (.if_icmp .ge 34, 3) := by decide +kernel
theorem dX8_readValues_16 : decode cX8_readValues 16 = .ok (.aload_n 0, 1) := by decide +kernel
theorem dX8_readValues_17 : decode cX8_readValues 17 = .ok (.iload_n 1, 1) := by decide +kernel
theorem dX8_readValues_18 : decode cX8_readValues 18 = .ok (.iload_n 3, 1) := by decide +kernel
theorem dX8_readValues_19 : decode cX8_readValues 19 = .ok (.iadd, 1) := by decide +kernel
theorem dX8_readValues_20 : decode cX8_readValues 20 = .ok (.invokevirtual 160, 3) := by decide +kernel
theorem dX8_readValues_23 : decode cX8_readValues 23 = .ok (.istore 4, 2) := by decide +kernel
theorem dX8_readValues_25 : decode cX8_readValues 25 = .ok (.iload 4, 2) := by decide +kernel
theorem dX8_readValues_27 : decode cX8_readValues 27 = .ok (.iconst (-1), 1) := by decide +kernel
theorem dX8_readValues_28 : decode cX8_readValues 28 = .ok (.if_icmp .ne 5, 3) := by decide +kernel
theorem dX8_readValues_31 : decode cX8_readValues 31 = .ok (.iconst 0, 1) := by decide +kernel
theorem dX8_readValues_32 : decode cX8_readValues 32 = .ok (.ireturn, 1) := by decide +kernel
theorem dX8_readValues_33 : decode cX8_readValues 33 = .ok (.aload_n 0, 1) := by decide +kernel
theorem dX8_readValues_34 : decode cX8_readValues 34 = .ok (.getfield 25, 3) := by decide +kernel
theorem dX8_readValues_37 : decode cX8_readValues 37 = .ok (.iload_n 3, 1) := by decide +kernel
theorem dX8_readValues_38 : decode cX8_readValues 38 = .ok (.iload 4, 2) := by decide +kernel
theorem dX8_readValues_40 : decode cX8_readValues 40 = .ok (.iastore, 1) := by decide +kernel
theorem dX8_readValues_41 : decode cX8_readValues 41 = .ok (.iinc 3 1, 3) := by decide +kernel
theorem dX8_readValues_44 : decode cX8_readValues 44 = .ok (.goto (-42), 3) := by decide +kernel
theorem dX8_readValues_47 : decode cX8_readValues 47 = .ok (.iconst 1, 1) := by decide +kernel
theorem dX8_readValues_48 : decode cX8_readValues 48 = .ok (.ireturn, 1) := by decide +kernel
theorem nmX8_readValues : mm_nm yX8_readValues 2 := ⟨by decide, by decide, by decide +kernel⟩
theorem cdX8_readValues : mm_cd cd_Y yX8_readValues cX8_readValues 5 (some .boolean) := ⟨tw_506, tw_1⟩
abbrev rmX8_readValues : Room := { frames := 4, cells := 0, slots := 0, locals := 84 }
def fX8_readValues_2  : Nat → Nat → Int32 → Int32 → Int32 → mm_M → Option (Int32 × mm_M)
  | 0 => fun _ _ _ _ _ => none
  | n + 1 => fun a0 x1 x2 x3 σ =>
  (if x2 ≤ x3 then some (1, σ) else mm_sh σ a0 (.inl 8) (mm_on (mm_R σ a0 5) fun q3 => mm_ar σ q3 0 fun n4 => (if (Int32.ofNat n4) ≤ x3 then some (1, σ) else mm_on (fX8_valueAt a0 (x1 + x3) σ) fun q6 => (if q6.1 = (-1) then some (0, q6.2) else mm_sh q6.2 a0 (.inl 8) (mm_on (mm_R q6.2 a0 5) fun q9 => mm_ar q6.2 q9 0 fun n10 => mm_ib x3 n10 ((fX8_readValues_2  n a0 x1 x2 (x3 + 1) (mm_wI q6.2 q9 (x3.toNatClampNeg) q6.1))))))))
def fX8_readValues (p0 : Nat) (p1 : Int32) (p2 : Int32) (σ : mm_M) : Option (Int32 × mm_M) :=
  (fX8_readValues_2  mm_fuel p0 p1 p2 0 σ)
set_option maxHeartbeats 4000000 in
set_option maxRecDepth 100000 in
theorem kX8_readValues_2 {G : mm_G} {A : Nat → Prop} {ini : Bool}  {R : (Int32 × mm_M)}  : ∀ (a0 : Nat) (x1 : Int32) (x2 : Int32) (x3 : Int32) (σ : mm_M), fX8_readValues_2  mm_fuel a0 x1 x2 x3 σ = some R → mm_J cd_Y G RX8 cX8_readValues 5 (some .boolean) ini rmX8_readValues A (mm_QF cd_Y G A (mm_Pi R.1 R.2) rmX8_readValues.cells rmX8_readValues.slots) 2 [(0, .ref a0), (1, .int x1), (2, .int x2), (3, .int x3)] [] σ 0 0 := by
  generalize mm_fuel = n
  induction n with
  | zero => intro a0 x1 x2 x3 σ hf; cases hf
  | succ n ih =>
    intro a0 x1 x2 x3 σ hf
    unfold fX8_readValues_2 at hf
    refine mm_iload_n (j := 3) dX8_readValues_2 rfl rfl ?_
    refine mm_iload_n (j := 2) dX8_readValues_3 rfl rfl ?_
    refine mm_icmp_ge (tgt := 47) dX8_readValues_4 (by decide) (fun c1 => ?_) (fun c1 => ?_)
    · rw [if_pos c1] at hf
      refine mm_iconst (v := 1) dX8_readValues_47 (by decide) ?_
      cases hf
      exact mm_iret rfl rfl dX8_readValues_48 ⟨rfl, rfl⟩
    · rw [if_neg c1] at hf
      refine mm_iload_n (j := 3) dX8_readValues_7 rfl rfl ?_
      refine mm_aload_n (j := 0) dX8_readValues_8 rfl rfl ?_
      obtain ⟨hs2, hf⟩ := mm_sh_s hf
      refine mm_get (c := 8) (k := 5) (v := va_rf (mm_R σ a0 5)) cd_ok ⟨_, _, _, rfl, by decide, Or.inl tw_145⟩ hs2 rfl dX8_readValues_9 ?_
      obtain ⟨q3, hq3, hf⟩ := mm_on_s hf
      rw [hq3, mm_rf_some]
      obtain ⟨n4, hn4, hf⟩ := mm_ar_s hf
      refine mm_alen (v := Int32.ofNat n4) hn4 rfl rfl dX8_readValues_12 ?_
      refine mm_icmp_ge (tgt := 47) dX8_readValues_13 (by decide) (fun c5 => ?_) (fun c5 => ?_)
      · rw [if_pos c5] at hf
        refine mm_iconst (v := 1) dX8_readValues_47 (by decide) ?_
        cases hf
        exact mm_iret rfl rfl dX8_readValues_48 ⟨rfl, rfl⟩
      · rw [if_neg c5] at hf
        refine mm_aload_n (j := 0) dX8_readValues_16 rfl rfl ?_
        refine mm_iload_n (j := 1) dX8_readValues_17 rfl rfl ?_
        refine mm_iload_n (j := 3) dX8_readValues_18 rfl rfl ?_
        refine mm_iadd dX8_readValues_19 ?_
        obtain ⟨q6, hq6, hf⟩ := mm_on_s hf
        refine mm_callVi cd_ok (kX8_valueAt a0 (x1 + x3) hq6) hs2 rfl (Or.inl tw_488) cdX8_valueAt tw_490 ts_16 nmX8_valueAt rfl rfl (by simp only [List.map_cons, List.map_nil, mm_rf_cat]; exact Nat.le_of_ble_eq_true rfl) dX8_readValues_20 ⟨Nat.le_of_ble_eq_true rfl, Nat.le_of_ble_eq_true rfl⟩ ⟨Nat.le_of_ble_eq_true rfl, Nat.le_of_ble_eq_true rfl⟩ ?_
        refine mm_istore (L' := [(4, .int q6.1), (0, .ref a0), (1, .int x1), (2, .int x2), (3, .int x3)]) dX8_readValues_23 (by decide) rfl ?_
        refine mm_iload (j := 0) dX8_readValues_25 rfl ?_
        refine mm_iconst (v := (-1)) dX8_readValues_27 (by decide) ?_
        refine mm_icmp_ne (tgt := 33) dX8_readValues_28 (by decide) (fun c7 => ?_) (fun c7 => ?_)
        · rw [if_neg c7] at hf
          refine mm_aload_n (j := 1) dX8_readValues_33 rfl rfl ?_
          obtain ⟨hs8, hf⟩ := mm_sh_s hf
          refine mm_get (c := 8) (k := 5) (v := va_rf (mm_R q6.2 a0 5)) cd_ok ⟨_, _, _, rfl, by decide, Or.inl tw_145⟩ hs8 rfl dX8_readValues_34 ?_
          refine mm_iload_n (j := 4) dX8_readValues_37 rfl rfl ?_
          refine mm_iload (j := 0) dX8_readValues_38 rfl ?_
          obtain ⟨q9, hq9, hf⟩ := mm_on_s hf
          rw [hq9, mm_rf_some]
          obtain ⟨n10, hn10, hf⟩ := mm_ar_s hf
          obtain ⟨hi11, hf⟩ := mm_ib_s hf
          refine mm_iast hn10 rfl hi11 dX8_readValues_40 ?_
          refine mm_iinc (j := 4) (L' := [(3, .int (x3 + 1)), (4, .int q6.1), (0, .ref a0), (1, .int x1), (2, .int x2)]) dX8_readValues_41 rfl rfl (by decide) rfl ?_
          refine mm_goto (tgt := 2) dX8_readValues_44 (by decide) ?_
          refine mm_sub [2, 3, 4, 0] rfl ?_
          exact ih a0 x1 x2 (x3 + 1) (mm_wI q6.2 q9 (x3.toNatClampNeg) q6.1) hf
        · rw [if_pos c7] at hf
          refine mm_iconst (v := 0) dX8_readValues_31 (by decide) ?_
          cases hf
          exact mm_iret rfl rfl dX8_readValues_32 ⟨rfl, rfl⟩
set_option maxHeartbeats 4000000 in
set_option maxRecDepth 100000 in
theorem kX8_readValues {G : mm_G} {A : Nat → Prop} (p0 : Nat) (p1 : Int32) (p2 : Int32) {σ : mm_M} {R : (Int32 × mm_M)} (hf : fX8_readValues p0 p1 p2 σ = some R) : mm_C cd_Y G yX8_readValues cX8_readValues 5 (some .boolean) rmX8_readValues A [.ref p0, .int p1, .int p2] σ (mm_Pi R.1 R.2) := by
  refine mm_C.of (by decide) (Nat.le_of_ble_eq_true rfl) ?_
  unfold fX8_readValues at hf
  have e0 : lv_args 0 [.ref p0, .int p1, .int p2] = [(0, .ref p0), (1, .int p1), (2, .int p2)] := rfl
  rw [e0]
  generalize hini : (yX8_readValues.name == "<init>") = ini
  clear e0
  clear hini
  refine mm_iconst (v := 0) dX8_readValues_0 (by decide) ?_
  refine mm_istore_n (L' := [(3, .int 0), (0, .ref p0), (1, .int p1), (2, .int p2)]) dX8_readValues_1 rfl (by decide) rfl ?_
  refine mm_sub [1, 2, 3, 0] rfl ?_
  exact kX8_readValues_2  p0 p1 p2 0 σ hf
theorem dX8_readLines_0 : decode cX8_readLines 0 = .ok (.aload_n 0, 1) := by decide +kernel
theorem dX8_readLines_1 : decode cX8_readLines 1 = .ok (.getfield 48, 3) := by decide +kernel
theorem dX8_readLines_4 : decode cX8_readLines 4 = .ok (.iconst 0, 1) := by decide +kernel
theorem dX8_readLines_5 : decode cX8_readLines 5 = .ok (.putfield 319, 3) := by decide +kernel
theorem dX8_readLines_8 : decode cX8_readLines 8 = .ok (.iload_n 1, 1) := by decide +kernel
theorem dX8_readLines_9 : decode cX8_readLines 9 = .ok (.iconst 4, 1) := by decide +kernel
theorem dX8_readLines_10 : decode cX8_readLines 10 = .ok (.if_icmp .ne 17, 3) := by decide +kernel
theorem dX8_readLines_13 : decode cX8_readLines 13 = .ok (.aload_n 0, 1) := by decide +kernel
theorem dX8_readLines_14 : decode cX8_readLines 14 = .ok (.getfield 41, 3) := by decide +kernel
theorem dX8_readLines_17 : decode cX8_readLines 17 = .ok (.aload_n 0, 1) := by decide +kernel
theorem dX8_readLines_18 : decode cX8_readLines 18 = .ok (.getfield 48, 3) := by decide +kernel
theorem dX8_readLines_21 : decode cX8_readLines 21 = .ok (.invokevirtual 322, 3) := by decide +kernel
theorem dX8_readLines_24 : decode cX8_readLines 24 = .ok (.goto 19, 3) := by decide +kernel
theorem dX8_readLines_27 : decode cX8_readLines 27 = .ok (.aload_n 0, 1) := by decide +kernel
theorem dX8_readLines_28 : decode cX8_readLines 28 = .ok (.getfield 11, 3) := by decide +kernel
theorem dX8_readLines_31 : decode cX8_readLines 31 = .ok (.iload_n 1, 1) := by decide +kernel
theorem dX8_readLines_32 : decode cX8_readLines 32 = .ok (.aaload, 1) := by decide +kernel
theorem dX8_readLines_33 : decode cX8_readLines 33 = .ok (.getfield 88, 3) := by decide +kernel
theorem dX8_readLines_36 : decode cX8_readLines 36 = .ok (.aload_n 0, 1) := by decide +kernel
theorem dX8_readLines_37 : decode cX8_readLines 37 = .ok (.getfield 48, 3) := by decide +kernel
theorem dX8_readLines_40 : decode cX8_readLines 40 = .ok (.invokevirtual 326, 3) := by decide +kernel
theorem dX8_readLines_43 : decode cX8_readLines 43 = .ok (.return_, 1) := by decide +kernel
theorem nmX8_readLines : mm_nm yX8_readLines 1 := ⟨by decide, by decide, by decide +kernel⟩
theorem cdX8_readLines : mm_cd cd_Y yX8_readLines cX8_readLines 2 none := ⟨tw_707, tw_1⟩
abbrev rmX8_readLines : Room := { frames := 4, cells := 0, slots := 0, locals := 90 }
def fX8_readLines (p0 : Nat) (p1 : Int32) (σ : mm_M) : Option mm_M :=
  mm_sh σ p0 (.inl 8) (mm_on (mm_R σ p0 9) fun q2 => mm_sh σ q2 (.inl 2) ((if p1 = 4 then mm_on (mm_R (mm_wI σ q2 1 0) p0 9) fun q14 => mm_on (mm_R (mm_wI σ q2 1 0) p0 8) fun q15 => mm_sh (mm_wI σ q2 1 0) q15 (.inl 7) (mm_on (fX7_addTo q15 q14 (mm_wI σ q2 1 0)) fun q17 => some (q17)) else mm_on (mm_R (mm_wI σ q2 1 0) p0 0) fun q5 => mm_ar (mm_wI σ q2 1 0) q5 4 fun n6 => mm_ib p1 n6 (mm_on (mm_R (mm_wI σ q2 1 0) q5 p1.toNatClampNeg) fun q8 => mm_sh (mm_wI σ q2 1 0) q8 (.inl 0) (mm_on (mm_R (mm_wI σ q2 1 0) p0 9) fun q10 => mm_on (mm_R (mm_wI σ q2 1 0) q8 0) fun q11 => mm_sh (mm_wI σ q2 1 0) q11 (.inl 5) (mm_on (fX5_addTo q11 q10 (mm_wI σ q2 1 0)) fun q13 => some (q13)))))))
set_option maxHeartbeats 4000000 in
set_option maxRecDepth 100000 in
theorem kX8_readLines {G : mm_G} {A : Nat → Prop} (p0 : Nat) (p1 : Int32) {σ : mm_M} {R : mm_M} (hf : fX8_readLines p0 p1 σ = some R) : mm_C cd_Y G yX8_readLines cX8_readLines 2 none rmX8_readLines A [.ref p0, .int p1] σ (mm_Pv R) := by
  refine mm_C.of (by decide) (Nat.le_of_ble_eq_true rfl) ?_
  unfold fX8_readLines at hf
  have e0 : lv_args 0 [.ref p0, .int p1] = [(0, .ref p0), (1, .int p1)] := rfl
  rw [e0]
  generalize hini : (yX8_readLines.name == "<init>") = ini
  clear e0
  clear hini
  refine mm_aload_n (j := 0) dX8_readLines_0 rfl rfl ?_
  obtain ⟨hs1, hf⟩ := mm_sh_s hf
  refine mm_get (c := 8) (k := 9) (v := va_rf (mm_R σ p0 9)) cd_ok ⟨_, _, _, rfl, by decide, Or.inl tw_149⟩ hs1 rfl dX8_readLines_1 ?_
  refine mm_iconst (v := 0) dX8_readLines_4 (by decide) ?_
  obtain ⟨q2, hq2, hf⟩ := mm_on_s hf
  rw [hq2, mm_rf_some]
  obtain ⟨hs3, hf⟩ := mm_sh_s hf
  refine mm_putI (c := 2) (k := 1) cd_ok ⟨_, _, _, rfl, by decide, rfl, Or.inr ⟨_, tn_5⟩⟩ hs3 rfl rfl rfl dX8_readLines_5 ?_
  refine mm_iload_n (j := 1) dX8_readLines_8 rfl rfl ?_
  refine mm_iconst (v := 4) dX8_readLines_9 (by decide) ?_
  refine mm_icmp_ne (tgt := 27) dX8_readLines_10 (by decide) (fun c4 => ?_) (fun c4 => ?_)
  · rw [if_neg c4] at hf
    refine mm_aload_n (j := 0) dX8_readLines_27 rfl rfl ?_
    refine mm_get (c := 8) (k := 0) (v := va_rf (mm_R (mm_wI σ q2 1 0) p0 0)) cd_ok ⟨_, _, _, rfl, by decide, Or.inl tw_140⟩ hs1 rfl dX8_readLines_28 ?_
    refine mm_iload_n (j := 1) dX8_readLines_31 rfl rfl ?_
    obtain ⟨q5, hq5, hf⟩ := mm_on_s hf
    rw [hq5, mm_rf_some]
    obtain ⟨n6, hn6, hf⟩ := mm_ar_s hf
    obtain ⟨hi7, hf⟩ := mm_ib_s hf
    refine mm_aald (v := va_rf (mm_R (mm_wI σ q2 1 0) q5 p1.toNatClampNeg)) hn6 rfl hi7 rfl dX8_readLines_32 ?_
    obtain ⟨q8, hq8, hf⟩ := mm_on_s hf
    rw [hq8, mm_rf_some]
    obtain ⟨hs9, hf⟩ := mm_sh_s hf
    refine mm_get (c := 0) (k := 0) (v := va_rf (mm_R (mm_wI σ q2 1 0) q8 0)) cd_ok ⟨_, _, _, rfl, by decide, Or.inr ⟨_, tn_8⟩⟩ hs9 rfl dX8_readLines_33 ?_
    refine mm_aload_n (j := 0) dX8_readLines_36 rfl rfl ?_
    refine mm_get (c := 8) (k := 9) (v := va_rf (mm_R (mm_wI σ q2 1 0) p0 9)) cd_ok ⟨_, _, _, rfl, by decide, Or.inl tw_149⟩ hs1 rfl dX8_readLines_37 ?_
    obtain ⟨q10, hq10, hf⟩ := mm_on_s hf
    rw [hq10, mm_rf_some]
    obtain ⟨q11, hq11, hf⟩ := mm_on_s hf
    rw [hq11, mm_rf_some]
    obtain ⟨hs12, hf⟩ := mm_sh_s hf
    obtain ⟨q13, hq13, hf⟩ := mm_on_s hf
    refine mm_callVv cd_ok (kX5_addTo q11 q10 hq13) hs12 rfl (Or.inl tw_725) cdX5_addTo tw_726 tw_727 nmX5_addTo rfl rfl (by simp only [List.map_cons, List.map_nil, mm_rf_cat]; exact Nat.le_of_ble_eq_true rfl) dX8_readLines_40 ⟨Nat.le_of_ble_eq_true rfl, Nat.le_of_ble_eq_true rfl⟩ ⟨Nat.le_of_ble_eq_true rfl, Nat.le_of_ble_eq_true rfl⟩ ?_
    cases hf
    exact mm_vret rfl dX8_readLines_43 ⟨rfl, rfl⟩
  · rw [if_pos c4] at hf
    refine mm_aload_n (j := 0) dX8_readLines_13 rfl rfl ?_
    refine mm_get (c := 8) (k := 8) (v := va_rf (mm_R (mm_wI σ q2 1 0) p0 8)) cd_ok ⟨_, _, _, rfl, by decide, Or.inl tw_148⟩ hs1 rfl dX8_readLines_14 ?_
    refine mm_aload_n (j := 0) dX8_readLines_17 rfl rfl ?_
    refine mm_get (c := 8) (k := 9) (v := va_rf (mm_R (mm_wI σ q2 1 0) p0 9)) cd_ok ⟨_, _, _, rfl, by decide, Or.inl tw_149⟩ hs1 rfl dX8_readLines_18 ?_
    obtain ⟨q14, hq14, hf⟩ := mm_on_s hf
    rw [hq14, mm_rf_some]
    obtain ⟨q15, hq15, hf⟩ := mm_on_s hf
    rw [hq15, mm_rf_some]
    obtain ⟨hs16, hf⟩ := mm_sh_s hf
    obtain ⟨q17, hq17, hf⟩ := mm_on_s hf
    refine mm_callVv cd_ok (kX7_addTo q15 q14 hq17) hs16 rfl (Or.inl tw_708) cdX7_addTo tw_709 tw_710 nmX7_addTo rfl rfl (by simp only [List.map_cons, List.map_nil, mm_rf_cat]; exact Nat.le_of_ble_eq_true rfl) dX8_readLines_21 ⟨Nat.le_of_ble_eq_true rfl, Nat.le_of_ble_eq_true rfl⟩ ⟨Nat.le_of_ble_eq_true rfl, Nat.le_of_ble_eq_true rfl⟩ ?_
    refine mm_goto (tgt := 43) dX8_readLines_24 (by decide) ?_
    cases hf
    exact mm_vret rfl dX8_readLines_43 ⟨rfl, rfl⟩
theorem dX9_control_0 : decode cX9_control 0 = .ok (.aload_n 0, 1) := by decide +kernel
theorem dX9_control_1 : decode cX9_control 1 = .ok (.iload_n 1, 1) := by decide +kernel
theorem dX9_control_2 : decode cX9_control 2 = .ok (.invokevirtual 136, 3) := by decide +kernel
theorem dX9_control_5 : decode cX9_control 5 = .ok (.istore_n 3, 1) := by decide +kernel
theorem dX9_control_6 : decode cX9_control 6 = .ok (.iload_n 2, 1) := by decide +kernel
theorem dX9_control_7 : decode cX9_control 7 = .ok (.tableswitch 274 0 15 #[77, 87, 274, 274, 136, 183, 183, 183, 274, 194, 204, 204, 214, 223, 241, 250], 77) := by decide +kernel
theorem dX9_control_84 : decode cX9_control 84 = .ok (.aload_n 0, 1) := by decide +kernel
theorem dX9_control_85 : decode cX9_control 85 = .ok (.getfield 19, 3) := by decide +kernel
theorem dX9_control_88 : decode cX9_control 88 = .ok (.iload_n 1, 1) := by decide +kernel
theorem dX9_control_89 : decode cX9_control 89 = .ok (.iconst 1, 1) := by decide +kernel
theorem dX9_control_90 : decode cX9_control 90 = .ok (.iastore, 1) := by decide +kernel
theorem dX9_control_91 : decode cX9_control 91 = .ok (.goto 190, 3) := by decide +kernel
theorem dX9_control_94 : decode cX9_control 94 = .ok (.iload_n 3, 1) := by decide +kernel
theorem dX9_control_95 : decode cX9_control 95 = .ok (.iconst (-1), 1) := by decide +kernel
theorem dX9_control_96 : decode cX9_control 96 = .ok (.if_icmp .eq 185, 3) := by decide +kernel
theorem dX9_control_99 : decode cX9_control 99 = .ok (.aload_n 0, 1) := by decide +kernel
theorem dX9_control_100 : decode cX9_control 100 = .ok (.getfield 25, 3) := by decide +kernel
theorem dX9_control_103 : decode cX9_control 103 = .ok (.iload_n 1, 1) := by decide +kernel
theorem dX9_control_104 : decode cX9_control 104 = .ok (.iaload, 1) := by decide +kernel
theorem dX9_control_105 : decode cX9_control 105 = .ok (.ifCond .le 176, 3) := by decide +kernel
theorem dX9_control_108 : decode cX9_control 108 = .ok (.aload_n 0, 1) := by decide +kernel
theorem dX9_control_109 : decode cX9_control 109 = .ok (.getfield 25, 3) := by decide +kernel
theorem dX9_control_112 : decode cX9_control 112 = .ok (.iload_n 1, 1) := by decide +kernel
theorem dX9_control_113 : decode cX9_control 113 = .ok (.dup2, 1) := by decide +kernel
theorem dX9_control_114 : decode cX9_control 114 = .ok (.iaload, 1) := by decide +kernel
theorem dX9_control_115 : decode cX9_control 115 = .ok (.iconst 1, 1) := by decide +kernel
theorem dX9_control_116 : decode cX9_control 116 = .ok (.isub, 1) := by decide +kernel
theorem dX9_control_117 : decode cX9_control 117 = .ok (.iastore, 1) := by decide +kernel
theorem dX9_control_118 : decode cX9_control 118 = .ok (.aload_n 0, 1) := by decide +kernel
theorem dX9_control_119 : decode cX9_control 119 = .ok (.aload_n 0, 1) := by decide +kernel
theorem dX9_control_120 : decode cX9_control 120 = .ok (.iload_n 1, 1) := by decide +kernel
theorem dX9_control_121 : decode cX9_control 121 = .ok (.iload_n 3, 1) := by decide +kernel
theorem dX9_control_122 : decode cX9_control 122 = .ok (.aload_n 0, 1) := by decide +kernel
theorem dX9_control_123 : decode cX9_control 123 = .ok (.getfield 22, 3) := by decide +kernel
theorem dX9_control_126 : decode cX9_control 126 = .ok (.iload_n 1, 1) := by decide +kernel
theorem dX9_control_127 : decode cX9_control 127 = .ok (.iaload, 1) := by decide +kernel
theorem dX9_control_128 : decode cX9_control 128 = .ok (.aload_n 0, 1) := by decide +kernel
theorem dX9_control_129 : decode cX9_control 129 = .ok (.getfield 25, 3) := by decide +kernel
theorem dX9_control_132 : decode cX9_control 132 = .ok (.iload_n 1, 1) := by decide +kernel
theorem dX9_control_133 : decode cX9_control 133 = .ok (.iaload, 1) := by decide +kernel
theorem dX9_control_134 : decode cX9_control 134 = .ok (.invokevirtual 124, 3) := by decide +kernel
theorem dX9_control_137 : decode cX9_control 137 = .ok (.invokevirtual 128, 3) := by decide +kernel
theorem dX9_control_140 : decode cX9_control 140 = .ok (.goto 141, 3) := by decide +kernel
theorem dX9_control_143 : decode cX9_control 143 = .ok (.aload_n 0, 1) := by decide +kernel
theorem dX9_control_144 : decode cX9_control 144 = .ok (.getfield 25, 3) := by decide +kernel
theorem dX9_control_147 : decode cX9_control 147 = .ok (.iload_n 1, 1) := by decide +kernel
theorem dX9_control_148 : decode cX9_control 148 = .ok (.iaload, 1) := by decide +kernel
theorem dX9_control_149 : decode cX9_control 149 = .ok (.istore 4, 2) := by decide +kernel
theorem dX9_control_151 : decode cX9_control 151 = .ok (.iload 4, 2) := by decide +kernel
theorem dX9_control_153 : decode cX9_control 153 = .ok (.bipush 32, 2) := by decide +kernel
theorem dX9_control_155 : decode cX9_control 155 = .ok (.if_icmp .ge 32, 3) := by decide +kernel
theorem dX9_control_158 : decode cX9_control 158 = .ok (.iload_n 3, 1) := by decide +kernel
theorem dX9_control_159 : decode cX9_control 159 = .ok (.iconst (-1), 1) := by decide +kernel
theorem dX9_control_160 : decode cX9_control 160 = .ok (.if_icmp .eq 27, 3) := by decide +kernel
theorem dX9_control_163 : decode cX9_control 163 = .ok (.aload_n 0, 1) := by decide +kernel
theorem dX9_control_164 : decode cX9_control 164 = .ok (.aload_n 0, 1) := by decide +kernel
theorem dX9_control_165 : decode cX9_control 165 = .ok (.iload_n 1, 1) := by decide +kernel
theorem dX9_control_166 : decode cX9_control 166 = .ok (.iload_n 3, 1) := by decide +kernel
theorem dX9_control_167 : decode cX9_control 167 = .ok (.aload_n 0, 1) := by decide +kernel
theorem dX9_control_168 : decode cX9_control 168 = .ok (.getfield 22, 3) := by decide +kernel
theorem dX9_control_171 : decode cX9_control 171 = .ok (.iload_n 1, 1) := by decide +kernel
theorem dX9_control_172 : decode cX9_control 172 = .ok (.iaload, 1) := by decide +kernel
theorem dX9_control_173 : decode cX9_control 173 = .ok (.iload 4, 2) := by decide +kernel
theorem dX9_control_175 : decode cX9_control 175 = .ok (.invokevirtual 124, 3) := by decide +kernel
theorem dX9_control_178 : decode cX9_control 178 = .ok (.invokevirtual 128, 3) := by decide +kernel
theorem dX9_control_181 : decode cX9_control 181 = .ok (.iinc 4 1, 3) := by decide +kernel
theorem dX9_control_184 : decode cX9_control 184 = .ok (.goto (-33), 3) := by decide +kernel
theorem dX9_control_187 : decode cX9_control 187 = .ok (.goto 94, 3) := by decide +kernel
theorem dX9_control_190 : decode cX9_control 190 = .ok (.aload_n 0, 1) := by decide +kernel
theorem dX9_control_191 : decode cX9_control 191 = .ok (.iload_n 1, 1) := by decide +kernel
theorem dX9_control_192 : decode cX9_control 192 = .ok (.iload_n 2, 1) := by decide +kernel
theorem dX9_control_193 : decode cX9_control 193 = .ok (.iconst 3, 1) := by decide +kernel
theorem dX9_control_194 : decode cX9_control 194 = .ok (.isub, 1) := by decide +kernel
theorem dX9_control_195 : decode cX9_control 195 = .ok (.invokevirtual 160, 3) := by decide +kernel
theorem dX9_control_198 : decode cX9_control 198 = .ok (.goto 83, 3) := by decide +kernel
theorem dX9_control_201 : decode cX9_control 201 = .ok (.aload_n 0, 1) := by decide +kernel
theorem dX9_control_202 : decode cX9_control 202 = .ok (.getfield 19, 3) := by decide +kernel
theorem dX9_control_205 : decode cX9_control 205 = .ok (.iload_n 1, 1) := by decide +kernel
theorem dX9_control_206 : decode cX9_control 206 = .ok (.iconst 3, 1) := by decide +kernel
theorem dX9_control_207 : decode cX9_control 207 = .ok (.iastore, 1) := by decide +kernel
theorem dX9_control_208 : decode cX9_control 208 = .ok (.goto 73, 3) := by decide +kernel
theorem dX9_control_211 : decode cX9_control 211 = .ok (.aload_n 0, 1) := by decide +kernel
theorem dX9_control_212 : decode cX9_control 212 = .ok (.getfield 19, 3) := by decide +kernel
theorem dX9_control_215 : decode cX9_control 215 = .ok (.iload_n 1, 1) := by decide +kernel
theorem dX9_control_216 : decode cX9_control 216 = .ok (.iconst 4, 1) := by decide +kernel
theorem dX9_control_217 : decode cX9_control 217 = .ok (.iastore, 1) := by decide +kernel
theorem dX9_control_218 : decode cX9_control 218 = .ok (.goto 63, 3) := by decide +kernel
theorem dX9_control_221 : decode cX9_control 221 = .ok (.aload_n 0, 1) := by decide +kernel
theorem dX9_control_222 : decode cX9_control 222 = .ok (.iload_n 1, 1) := by decide +kernel
theorem dX9_control_223 : decode cX9_control 223 = .ok (.iconst 0, 1) := by decide +kernel
theorem dX9_control_224 : decode cX9_control 224 = .ok (.invokevirtual 163, 3) := by decide +kernel
theorem dX9_control_227 : decode cX9_control 227 = .ok (.goto 54, 3) := by decide +kernel
theorem dX9_control_230 : decode cX9_control 230 = .ok (.aload_n 0, 1) := by decide +kernel
theorem dX9_control_231 : decode cX9_control 231 = .ok (.getfield 19, 3) := by decide +kernel
theorem dX9_control_234 : decode cX9_control 234 = .ok (.iload_n 1, 1) := by decide +kernel
theorem dX9_control_235 : decode cX9_control 235 = .ok (.iaload, 1) := by decide +kernel
theorem dX9_control_236 : decode cX9_control 236 = .ok (.iconst 2, 1) := by decide +kernel
theorem dX9_control_237 : decode cX9_control 237 = .ok (.if_icmp .ne 44, 3) := by decide +kernel
theorem dX9_control_240 : decode cX9_control 240 = .ok (.aload_n 0, 1) := by decide +kernel
theorem dX9_control_241 : decode cX9_control 241 = .ok (.iload_n 1, 1) := by decide +kernel
theorem dX9_control_242 : decode cX9_control 242 = .ok (.invokevirtual 166, 3) := by decide +kernel
theorem dX9_control_245 : decode cX9_control 245 = .ok (.goto 36, 3) := by decide +kernel
theorem dX9_control_248 : decode cX9_control 248 = .ok (.aload_n 0, 1) := by decide +kernel
theorem dX9_control_249 : decode cX9_control 249 = .ok (.iload_n 1, 1) := by decide +kernel
theorem dX9_control_250 : decode cX9_control 250 = .ok (.iconst 1, 1) := by decide +kernel
theorem dX9_control_251 : decode cX9_control 251 = .ok (.invokevirtual 163, 3) := by decide +kernel
theorem dX9_control_254 : decode cX9_control 254 = .ok (.goto 27, 3) := by decide +kernel
theorem dX9_control_257 : decode cX9_control 257 = .ok (.aload_n 0, 1) := by decide +kernel
theorem dX9_control_258 : decode cX9_control 258 = .ok (.getfield 16, 3) := by decide +kernel
theorem dX9_control_261 : decode cX9_control 261 = .ok (.iload_n 1, 1) := by decide +kernel
theorem dX9_control_262 : decode cX9_control 262 = .ok (.iconst 1, 1) := by decide +kernel
theorem dX9_control_263 : decode cX9_control 263 = .ok (.aload_n 0, 1) := by decide +kernel
theorem dX9_control_264 : decode cX9_control 264 = .ok (.getfield 16, 3) := by decide +kernel
theorem dX9_control_267 : decode cX9_control 267 = .ok (.iload_n 1, 1) := by decide +kernel
theorem dX9_control_268 : decode cX9_control 268 = .ok (.iaload, 1) := by decide +kernel
theorem dX9_control_269 : decode cX9_control 269 = .ok (.isub, 1) := by decide +kernel
theorem dX9_control_270 : decode cX9_control 270 = .ok (.iastore, 1) := by decide +kernel
theorem dX9_control_271 : decode cX9_control 271 = .ok (.aload_n 0, 1) := by decide +kernel
theorem dX9_control_272 : decode cX9_control 272 = .ok (.getfield 19, 3) := by decide +kernel
theorem dX9_control_275 : decode cX9_control 275 = .ok (.iload_n 1, 1) := by decide +kernel
theorem dX9_control_276 : decode cX9_control 276 = .ok (.iconst 1, 1) := by decide +kernel
theorem dX9_control_277 : decode cX9_control 277 = .ok (.iastore, 1) := by decide +kernel
theorem dX9_control_278 : decode cX9_control 278 = .ok (.goto 3, 3) := by decide +kernel
theorem dX9_control_281 : decode cX9_control 281 = .ok (.return_, 1) := by decide +kernel
theorem nmX9_control : mm_nm yX9_control 2 := ⟨by decide, by decide, by decide +kernel⟩
theorem cdX9_control : mm_cd cd_Y yX9_control cX9_control 5 none := ⟨tw_989, tw_8⟩
abbrev rmX9_control : Room := { frames := 4, cells := 0, slots := 0, locals := 95 }
def fX9_control_151  : Nat → Nat → Int32 → Int32 → Int32 → Int32 → mm_M → Option mm_M
  | 0 => fun _ _ _ _ _ _ => none
  | n + 1 => fun a0 x1 x2 x3 x4 σ =>
  (if 32 ≤ x4 then some (σ) else (if x3 = (-1) then some (σ) else mm_sh σ a0 (.inl 9) (mm_on (mm_R σ a0 5) fun q36 => mm_ar σ q36 0 fun n37 => mm_ib x1 n37 (mm_on (fX9_cellAt a0 x1 x3 (mm_I σ q36 x1.toNatClampNeg) x4 σ) fun q39 => mm_sh q39.2 a0 (.inl 9) (mm_on (fX9_clear a0 q39.1 q39.2) fun q41 => (fX9_control_151  n a0 x1 x2 x3 (x4 + 1) q41))))))
def fX9_control (p0 : Nat) (p1 : Int32) (p2 : Int32) (σ : mm_M) : Option mm_M :=
  mm_sh σ p0 (.inl 9) (mm_on (fX9_screenOf p0 p1 σ) fun q2 => (if p2 = 0 then mm_sh q2.2 p0 (.inl 9) (mm_on (mm_R q2.2 p0 4) fun q5 => mm_ar q2.2 q5 0 fun n6 => mm_ib p1 n6 (some (mm_wI q2.2 q5 (p1.toNatClampNeg) 1))) else (if p2 = 1 then (if q2.1 = (-1) then some (q2.2) else mm_sh q2.2 p0 (.inl 9) (mm_on (mm_R q2.2 p0 6) fun q11 => mm_ar q2.2 q11 0 fun n12 => mm_ib p1 n12 ((if (mm_I q2.2 q11 p1.toNatClampNeg) ≤ 0 then some (q2.2) else mm_on (mm_R q2.2 p0 6) fun q15 => mm_ar q2.2 q15 0 fun n16 => mm_ib p1 n16 (mm_ib p1 n16 (mm_on (mm_R (mm_wI q2.2 q15 (p1.toNatClampNeg) ((mm_I q2.2 q15 p1.toNatClampNeg) - 1)) p0 5) fun q19 => mm_ar (mm_wI q2.2 q15 (p1.toNatClampNeg) ((mm_I q2.2 q15 p1.toNatClampNeg) - 1)) q19 0 fun n20 => mm_ib p1 n20 (mm_on (mm_R (mm_wI q2.2 q15 (p1.toNatClampNeg) ((mm_I q2.2 q15 p1.toNatClampNeg) - 1)) p0 6) fun q22 => mm_ar (mm_wI q2.2 q15 (p1.toNatClampNeg) ((mm_I q2.2 q15 p1.toNatClampNeg) - 1)) q22 0 fun n23 => mm_ib p1 n23 (mm_on (fX9_cellAt p0 p1 q2.1 (mm_I (mm_wI q2.2 q15 (p1.toNatClampNeg) ((mm_I q2.2 q15 p1.toNatClampNeg) - 1)) q19 p1.toNatClampNeg) (mm_I (mm_wI q2.2 q15 (p1.toNatClampNeg) ((mm_I q2.2 q15 p1.toNatClampNeg) - 1)) q22 p1.toNatClampNeg) (mm_wI q2.2 q15 (p1.toNatClampNeg) ((mm_I q2.2 q15 p1.toNatClampNeg) - 1))) fun q25 => mm_sh q25.2 p0 (.inl 9) (mm_on (fX9_clear p0 q25.1 q25.2) fun q27 => some (q27)))))))))) else (if p2 = 4 then mm_sh q2.2 p0 (.inl 9) (mm_on (mm_R q2.2 p0 6) fun q30 => mm_ar q2.2 q30 0 fun n31 => mm_ib p1 n31 ((fX9_control_151  mm_fuel p0 p1 p2 q2.1 (mm_I q2.2 q30 p1.toNatClampNeg) q2.2))) else (if p2 = 5 then mm_sh q2.2 p0 (.inl 9) (mm_on (fX9_roll p0 p1 (p2 - 3) q2.2) fun q44 => some (q44)) else (if p2 = 6 then mm_sh q2.2 p0 (.inl 9) (mm_on (fX9_roll p0 p1 (p2 - 3) q2.2) fun q47 => some (q47)) else (if p2 = 7 then mm_sh q2.2 p0 (.inl 9) (mm_on (fX9_roll p0 p1 (p2 - 3) q2.2) fun q50 => some (q50)) else (if p2 = 9 then mm_sh q2.2 p0 (.inl 9) (mm_on (mm_R q2.2 p0 4) fun q53 => mm_ar q2.2 q53 0 fun n54 => mm_ib p1 n54 (some (mm_wI q2.2 q53 (p1.toNatClampNeg) 3))) else (if p2 = 10 then mm_sh q2.2 p0 (.inl 9) (mm_on (mm_R q2.2 p0 4) fun q58 => mm_ar q2.2 q58 0 fun n59 => mm_ib p1 n59 (some (mm_wI q2.2 q58 (p1.toNatClampNeg) 4))) else (if p2 = 11 then mm_sh q2.2 p0 (.inl 9) (mm_on (mm_R q2.2 p0 4) fun q63 => mm_ar q2.2 q63 0 fun n64 => mm_ib p1 n64 (some (mm_wI q2.2 q63 (p1.toNatClampNeg) 4))) else (if p2 = 12 then mm_sh q2.2 p0 (.inl 9) (mm_on (fX9_clearScreen p0 p1 0 q2.2) fun q68 => some (q68)) else (if p2 = 13 then mm_sh q2.2 p0 (.inl 9) (mm_on (mm_R q2.2 p0 4) fun q71 => mm_ar q2.2 q71 0 fun n72 => mm_ib p1 n72 ((if (mm_I q2.2 q71 p1.toNatClampNeg) = 2 then mm_on (fX9_up p0 p1 q2.2) fun q75 => some (q75) else some (q2.2)))) else (if p2 = 14 then mm_sh q2.2 p0 (.inl 9) (mm_on (fX9_clearScreen p0 p1 1 q2.2) fun q78 => some (q78)) else (if p2 = 15 then mm_sh q2.2 p0 (.inl 9) (mm_on (mm_R q2.2 p0 3) fun q81 => mm_ar q2.2 q81 0 fun n82 => mm_ib p1 n82 (mm_ib p1 n82 (mm_on (mm_R (mm_wI q2.2 q81 (p1.toNatClampNeg) (1 - (mm_I q2.2 q81 p1.toNatClampNeg))) p0 4) fun q85 => mm_ar (mm_wI q2.2 q81 (p1.toNatClampNeg) (1 - (mm_I q2.2 q81 p1.toNatClampNeg))) q85 0 fun n86 => mm_ib p1 n86 (some (mm_wI (mm_wI q2.2 q81 (p1.toNatClampNeg) (1 - (mm_I q2.2 q81 p1.toNatClampNeg))) q85 (p1.toNatClampNeg) 1))))) else some (q2.2)))))))))))))))
set_option maxHeartbeats 4000000 in
set_option maxRecDepth 100000 in
theorem kX9_control_151 {G : mm_G} {A : Nat → Prop} {ini : Bool}  {R : mm_M}  : ∀ (a0 : Nat) (x1 : Int32) (x2 : Int32) (x3 : Int32) (x4 : Int32) (σ : mm_M), fX9_control_151  mm_fuel a0 x1 x2 x3 x4 σ = some R → mm_J cd_Y G RX9 cX9_control 5 none ini rmX9_control A (mm_QF cd_Y G A (mm_Pv R) rmX9_control.cells rmX9_control.slots) 151 [(0, .ref a0), (1, .int x1), (2, .int x2), (3, .int x3), (4, .int x4)] [] σ 0 0 := by
  generalize mm_fuel = n
  induction n with
  | zero => intro a0 x1 x2 x3 x4 σ hf; cases hf
  | succ n ih =>
    intro a0 x1 x2 x3 x4 σ hf
    unfold fX9_control_151 at hf
    refine mm_iload (j := 4) dX9_control_151 rfl ?_
    refine mm_bipush (v := 32) dX9_control_153 (by decide) ?_
    refine mm_icmp_ge (tgt := 187) dX9_control_155 (by decide) (fun c33 => ?_) (fun c33 => ?_)
    · rw [if_pos c33] at hf
      refine mm_goto (tgt := 281) dX9_control_187 (by decide) ?_
      cases hf
      exact mm_vret rfl dX9_control_281 ⟨rfl, rfl⟩
    · rw [if_neg c33] at hf
      refine mm_iload_n (j := 3) dX9_control_158 rfl rfl ?_
      refine mm_iconst (v := (-1)) dX9_control_159 (by decide) ?_
      refine mm_icmp_eq (tgt := 187) dX9_control_160 (by decide) (fun c34 => ?_) (fun c34 => ?_)
      · rw [if_pos c34] at hf
        refine mm_goto (tgt := 281) dX9_control_187 (by decide) ?_
        cases hf
        exact mm_vret rfl dX9_control_281 ⟨rfl, rfl⟩
      · rw [if_neg c34] at hf
        refine mm_aload_n (j := 0) dX9_control_163 rfl rfl ?_
        refine mm_aload_n (j := 0) dX9_control_164 rfl rfl ?_
        refine mm_iload_n (j := 1) dX9_control_165 rfl rfl ?_
        refine mm_iload_n (j := 3) dX9_control_166 rfl rfl ?_
        refine mm_aload_n (j := 0) dX9_control_167 rfl rfl ?_
        obtain ⟨hs35, hf⟩ := mm_sh_s hf
        refine mm_get (c := 9) (k := 5) (v := va_rf (mm_R σ a0 5)) cd_ok ⟨_, _, _, rfl, by decide, Or.inl tw_799⟩ hs35 rfl dX9_control_168 ?_
        refine mm_iload_n (j := 1) dX9_control_171 rfl rfl ?_
        obtain ⟨q36, hq36, hf⟩ := mm_on_s hf
        rw [hq36, mm_rf_some]
        obtain ⟨n37, hn37, hf⟩ := mm_ar_s hf
        obtain ⟨hi38, hf⟩ := mm_ib_s hf
        refine mm_iald hn37 rfl hi38 dX9_control_172 ?_
        refine mm_iload (j := 4) dX9_control_173 rfl ?_
        obtain ⟨q39, hq39, hf⟩ := mm_on_s hf
        refine mm_callVi cd_ok (kX9_cellAt a0 x1 x3 (mm_I σ q36 x1.toNatClampNeg) x4 hq39) hs35 rfl (Or.inl tw_970) cdX9_cellAt tw_972 ts_36 nmX9_cellAt rfl rfl (by simp only [List.map_cons, List.map_nil, mm_rf_cat]; exact Nat.le_of_ble_eq_true rfl) dX9_control_175 ⟨Nat.le_of_ble_eq_true rfl, Nat.le_of_ble_eq_true rfl⟩ ⟨Nat.le_of_ble_eq_true rfl, Nat.le_of_ble_eq_true rfl⟩ ?_
        obtain ⟨hs40, hf⟩ := mm_sh_s hf
        obtain ⟨q41, hq41, hf⟩ := mm_on_s hf
        refine mm_callVv cd_ok (kX9_clear a0 q39.1 hq41) hs40 rfl (Or.inl tw_978) cdX9_clear tw_980 ts_38 nmX9_clear rfl rfl (by simp only [List.map_cons, List.map_nil, mm_rf_cat]; exact Nat.le_of_ble_eq_true rfl) dX9_control_178 ⟨Nat.le_of_ble_eq_true rfl, Nat.le_of_ble_eq_true rfl⟩ ⟨Nat.le_of_ble_eq_true rfl, Nat.le_of_ble_eq_true rfl⟩ ?_
        refine mm_iinc (j := 4) (L' := [(4, .int (x4 + 1)), (0, .ref a0), (1, .int x1), (2, .int x2), (3, .int x3)]) dX9_control_181 rfl rfl (by decide) rfl ?_
        refine mm_goto (tgt := 151) dX9_control_184 (by decide) ?_
        refine mm_sub [1, 2, 3, 4, 0] rfl ?_
        exact ih a0 x1 x2 x3 (x4 + 1) q41 hf
set_option maxHeartbeats 4000000 in
set_option maxRecDepth 100000 in
theorem kX9_control {G : mm_G} {A : Nat → Prop} (p0 : Nat) (p1 : Int32) (p2 : Int32) {σ : mm_M} {R : mm_M} (hf : fX9_control p0 p1 p2 σ = some R) : mm_C cd_Y G yX9_control cX9_control 5 none rmX9_control A [.ref p0, .int p1, .int p2] σ (mm_Pv R) := by
  refine mm_C.of (by decide) (Nat.le_of_ble_eq_true rfl) ?_
  unfold fX9_control at hf
  have e0 : lv_args 0 [.ref p0, .int p1, .int p2] = [(0, .ref p0), (1, .int p1), (2, .int p2)] := rfl
  rw [e0]
  generalize hini : (yX9_control.name == "<init>") = ini
  clear e0
  clear hini
  refine mm_aload_n (j := 0) dX9_control_0 rfl rfl ?_
  refine mm_iload_n (j := 1) dX9_control_1 rfl rfl ?_
  obtain ⟨hs1, hf⟩ := mm_sh_s hf
  obtain ⟨q2, hq2, hf⟩ := mm_on_s hf
  refine mm_callVi cd_ok (kX9_screenOf p0 p1 hq2) hs1 rfl (Or.inl tw_959) cdX9_screenOf tw_961 ts_34 nmX9_screenOf rfl rfl (by simp only [List.map_cons, List.map_nil, mm_rf_cat]; exact Nat.le_of_ble_eq_true rfl) dX9_control_2 ⟨Nat.le_of_ble_eq_true rfl, Nat.le_of_ble_eq_true rfl⟩ ⟨Nat.le_of_ble_eq_true rfl, Nat.le_of_ble_eq_true rfl⟩ ?_
  refine mm_istore_n (L' := [(3, .int q2.1), (0, .ref p0), (1, .int p1), (2, .int p2)]) dX9_control_5 rfl (by decide) rfl ?_
  refine mm_iload_n (j := 3) dX9_control_6 rfl rfl ?_
  by_cases c3 : p2 = 0
  · rw [if_pos c3] at hf
    refine mm_tableEq (off := 77) (tgt := 84) dX9_control_7 c3 (by decide) (by decide) (by decide) (by decide) ?_
    refine mm_aload_n (j := 1) dX9_control_84 rfl rfl ?_
    obtain ⟨hs4, hf⟩ := mm_sh_s hf
    refine mm_get (c := 9) (k := 4) (v := va_rf (mm_R q2.2 p0 4)) cd_ok ⟨_, _, _, rfl, by decide, Or.inl tw_798⟩ hs4 rfl dX9_control_85 ?_
    refine mm_iload_n (j := 2) dX9_control_88 rfl rfl ?_
    refine mm_iconst (v := 1) dX9_control_89 (by decide) ?_
    obtain ⟨q5, hq5, hf⟩ := mm_on_s hf
    rw [hq5, mm_rf_some]
    obtain ⟨n6, hn6, hf⟩ := mm_ar_s hf
    obtain ⟨hi7, hf⟩ := mm_ib_s hf
    refine mm_iast hn6 rfl hi7 dX9_control_90 ?_
    refine mm_goto (tgt := 281) dX9_control_91 (by decide) ?_
    cases hf
    exact mm_vret rfl dX9_control_281 ⟨rfl, rfl⟩
  rw [if_neg c3] at hf
  by_cases c8 : p2 = 1
  · rw [if_pos c8] at hf
    refine mm_tableEq (off := 87) (tgt := 94) dX9_control_7 c8 (by decide) (by decide) (by decide) (by decide) ?_
    refine mm_iload_n (j := 0) dX9_control_94 rfl rfl ?_
    refine mm_iconst (v := (-1)) dX9_control_95 (by decide) ?_
    refine mm_icmp_eq (tgt := 281) dX9_control_96 (by decide) (fun c9 => ?_) (fun c9 => ?_)
    · rw [if_pos c9] at hf
      cases hf
      exact mm_vret rfl dX9_control_281 ⟨rfl, rfl⟩
    · rw [if_neg c9] at hf
      refine mm_aload_n (j := 1) dX9_control_99 rfl rfl ?_
      obtain ⟨hs10, hf⟩ := mm_sh_s hf
      refine mm_get (c := 9) (k := 6) (v := va_rf (mm_R q2.2 p0 6)) cd_ok ⟨_, _, _, rfl, by decide, Or.inl tw_800⟩ hs10 rfl dX9_control_100 ?_
      refine mm_iload_n (j := 2) dX9_control_103 rfl rfl ?_
      obtain ⟨q11, hq11, hf⟩ := mm_on_s hf
      rw [hq11, mm_rf_some]
      obtain ⟨n12, hn12, hf⟩ := mm_ar_s hf
      obtain ⟨hi13, hf⟩ := mm_ib_s hf
      refine mm_iald hn12 rfl hi13 dX9_control_104 ?_
      refine mm_if_le (tgt := 281) dX9_control_105 (by decide) (fun c14 => ?_) (fun c14 => ?_)
      · rw [if_pos c14] at hf
        cases hf
        exact mm_vret rfl dX9_control_281 ⟨rfl, rfl⟩
      · rw [if_neg c14] at hf
        refine mm_aload_n (j := 1) dX9_control_108 rfl rfl ?_
        refine mm_get (c := 9) (k := 6) (v := va_rf (mm_R q2.2 p0 6)) cd_ok ⟨_, _, _, rfl, by decide, Or.inl tw_800⟩ hs10 rfl dX9_control_109 ?_
        refine mm_iload_n (j := 2) dX9_control_112 rfl rfl ?_
        refine mm_dup2 dX9_control_113 rfl (mm_rf_cat _) ?_
        obtain ⟨q15, hq15, hf⟩ := mm_on_s hf
        rw [hq15, mm_rf_some]
        obtain ⟨n16, hn16, hf⟩ := mm_ar_s hf
        obtain ⟨hi17, hf⟩ := mm_ib_s hf
        refine mm_iald hn16 rfl hi17 dX9_control_114 ?_
        refine mm_iconst (v := 1) dX9_control_115 (by decide) ?_
        refine mm_isub dX9_control_116 ?_
        obtain ⟨hi18, hf⟩ := mm_ib_s hf
        refine mm_iast hn16 rfl hi18 dX9_control_117 ?_
        refine mm_aload_n (j := 1) dX9_control_118 rfl rfl ?_
        refine mm_aload_n (j := 1) dX9_control_119 rfl rfl ?_
        refine mm_iload_n (j := 2) dX9_control_120 rfl rfl ?_
        refine mm_iload_n (j := 0) dX9_control_121 rfl rfl ?_
        refine mm_aload_n (j := 1) dX9_control_122 rfl rfl ?_
        refine mm_get (c := 9) (k := 5) (v := va_rf (mm_R (mm_wI q2.2 q15 (p1.toNatClampNeg) ((mm_I q2.2 q15 p1.toNatClampNeg) - 1)) p0 5)) cd_ok ⟨_, _, _, rfl, by decide, Or.inl tw_799⟩ hs10 rfl dX9_control_123 ?_
        refine mm_iload_n (j := 2) dX9_control_126 rfl rfl ?_
        obtain ⟨q19, hq19, hf⟩ := mm_on_s hf
        rw [hq19, mm_rf_some]
        obtain ⟨n20, hn20, hf⟩ := mm_ar_s hf
        obtain ⟨hi21, hf⟩ := mm_ib_s hf
        refine mm_iald hn20 rfl hi21 dX9_control_127 ?_
        refine mm_aload_n (j := 1) dX9_control_128 rfl rfl ?_
        refine mm_get (c := 9) (k := 6) (v := va_rf (mm_R (mm_wI q2.2 q15 (p1.toNatClampNeg) ((mm_I q2.2 q15 p1.toNatClampNeg) - 1)) p0 6)) cd_ok ⟨_, _, _, rfl, by decide, Or.inl tw_800⟩ hs10 rfl dX9_control_129 ?_
        refine mm_iload_n (j := 2) dX9_control_132 rfl rfl ?_
        obtain ⟨q22, hq22, hf⟩ := mm_on_s hf
        rw [hq22, mm_rf_some]
        obtain ⟨n23, hn23, hf⟩ := mm_ar_s hf
        obtain ⟨hi24, hf⟩ := mm_ib_s hf
        refine mm_iald hn23 rfl hi24 dX9_control_133 ?_
        obtain ⟨q25, hq25, hf⟩ := mm_on_s hf
        refine mm_callVi cd_ok (kX9_cellAt p0 p1 q2.1 (mm_I (mm_wI q2.2 q15 (p1.toNatClampNeg) ((mm_I q2.2 q15 p1.toNatClampNeg) - 1)) q19 p1.toNatClampNeg) (mm_I (mm_wI q2.2 q15 (p1.toNatClampNeg) ((mm_I q2.2 q15 p1.toNatClampNeg) - 1)) q22 p1.toNatClampNeg) hq25) hs10 rfl (Or.inl tw_970) cdX9_cellAt tw_972 ts_36 nmX9_cellAt rfl rfl (by simp only [List.map_cons, List.map_nil, mm_rf_cat]; exact Nat.le_of_ble_eq_true rfl) dX9_control_134 ⟨Nat.le_of_ble_eq_true rfl, Nat.le_of_ble_eq_true rfl⟩ ⟨Nat.le_of_ble_eq_true rfl, Nat.le_of_ble_eq_true rfl⟩ ?_
        obtain ⟨hs26, hf⟩ := mm_sh_s hf
        obtain ⟨q27, hq27, hf⟩ := mm_on_s hf
        refine mm_callVv cd_ok (kX9_clear p0 q25.1 hq27) hs26 rfl (Or.inl tw_978) cdX9_clear tw_980 ts_38 nmX9_clear rfl rfl (by simp only [List.map_cons, List.map_nil, mm_rf_cat]; exact Nat.le_of_ble_eq_true rfl) dX9_control_137 ⟨Nat.le_of_ble_eq_true rfl, Nat.le_of_ble_eq_true rfl⟩ ⟨Nat.le_of_ble_eq_true rfl, Nat.le_of_ble_eq_true rfl⟩ ?_
        refine mm_goto (tgt := 281) dX9_control_140 (by decide) ?_
        cases hf
        exact mm_vret rfl dX9_control_281 ⟨rfl, rfl⟩
  rw [if_neg c8] at hf
  by_cases c28 : p2 = 4
  · rw [if_pos c28] at hf
    refine mm_tableEq (off := 136) (tgt := 143) dX9_control_7 c28 (by decide) (by decide) (by decide) (by decide) ?_
    refine mm_aload_n (j := 1) dX9_control_143 rfl rfl ?_
    obtain ⟨hs29, hf⟩ := mm_sh_s hf
    refine mm_get (c := 9) (k := 6) (v := va_rf (mm_R q2.2 p0 6)) cd_ok ⟨_, _, _, rfl, by decide, Or.inl tw_800⟩ hs29 rfl dX9_control_144 ?_
    refine mm_iload_n (j := 2) dX9_control_147 rfl rfl ?_
    obtain ⟨q30, hq30, hf⟩ := mm_on_s hf
    rw [hq30, mm_rf_some]
    obtain ⟨n31, hn31, hf⟩ := mm_ar_s hf
    obtain ⟨hi32, hf⟩ := mm_ib_s hf
    refine mm_iald hn31 rfl hi32 dX9_control_148 ?_
    refine mm_istore (L' := [(4, .int (mm_I q2.2 q30 p1.toNatClampNeg)), (3, .int q2.1), (0, .ref p0), (1, .int p1), (2, .int p2)]) dX9_control_149 (by decide) rfl ?_
    refine mm_sub [2, 3, 4, 1, 0] rfl ?_
    exact kX9_control_151  p0 p1 p2 q2.1 (mm_I q2.2 q30 p1.toNatClampNeg) q2.2 hf
  rw [if_neg c28] at hf
  by_cases c42 : p2 = 5
  · rw [if_pos c42] at hf
    refine mm_tableEq (off := 183) (tgt := 190) dX9_control_7 c42 (by decide) (by decide) (by decide) (by decide) ?_
    refine mm_aload_n (j := 1) dX9_control_190 rfl rfl ?_
    refine mm_iload_n (j := 2) dX9_control_191 rfl rfl ?_
    refine mm_iload_n (j := 3) dX9_control_192 rfl rfl ?_
    refine mm_iconst (v := 3) dX9_control_193 (by decide) ?_
    refine mm_isub dX9_control_194 ?_
    obtain ⟨hs43, hf⟩ := mm_sh_s hf
    obtain ⟨q44, hq44, hf⟩ := mm_on_s hf
    refine mm_callVv cd_ok (kX9_roll p0 p1 (p2 - 3) hq44) hs43 rfl (Or.inl tw_990) cdX9_roll tw_992 ts_41 nmX9_roll rfl rfl (by simp only [List.map_cons, List.map_nil, mm_rf_cat]; exact Nat.le_of_ble_eq_true rfl) dX9_control_195 ⟨Nat.le_of_ble_eq_true rfl, Nat.le_of_ble_eq_true rfl⟩ ⟨Nat.le_of_ble_eq_true rfl, Nat.le_of_ble_eq_true rfl⟩ ?_
    refine mm_goto (tgt := 281) dX9_control_198 (by decide) ?_
    cases hf
    exact mm_vret rfl dX9_control_281 ⟨rfl, rfl⟩
  rw [if_neg c42] at hf
  by_cases c45 : p2 = 6
  · rw [if_pos c45] at hf
    refine mm_tableEq (off := 183) (tgt := 190) dX9_control_7 c45 (by decide) (by decide) (by decide) (by decide) ?_
    refine mm_aload_n (j := 1) dX9_control_190 rfl rfl ?_
    refine mm_iload_n (j := 2) dX9_control_191 rfl rfl ?_
    refine mm_iload_n (j := 3) dX9_control_192 rfl rfl ?_
    refine mm_iconst (v := 3) dX9_control_193 (by decide) ?_
    refine mm_isub dX9_control_194 ?_
    obtain ⟨hs46, hf⟩ := mm_sh_s hf
    obtain ⟨q47, hq47, hf⟩ := mm_on_s hf
    refine mm_callVv cd_ok (kX9_roll p0 p1 (p2 - 3) hq47) hs46 rfl (Or.inl tw_990) cdX9_roll tw_992 ts_41 nmX9_roll rfl rfl (by simp only [List.map_cons, List.map_nil, mm_rf_cat]; exact Nat.le_of_ble_eq_true rfl) dX9_control_195 ⟨Nat.le_of_ble_eq_true rfl, Nat.le_of_ble_eq_true rfl⟩ ⟨Nat.le_of_ble_eq_true rfl, Nat.le_of_ble_eq_true rfl⟩ ?_
    refine mm_goto (tgt := 281) dX9_control_198 (by decide) ?_
    cases hf
    exact mm_vret rfl dX9_control_281 ⟨rfl, rfl⟩
  rw [if_neg c45] at hf
  by_cases c48 : p2 = 7
  · rw [if_pos c48] at hf
    refine mm_tableEq (off := 183) (tgt := 190) dX9_control_7 c48 (by decide) (by decide) (by decide) (by decide) ?_
    refine mm_aload_n (j := 1) dX9_control_190 rfl rfl ?_
    refine mm_iload_n (j := 2) dX9_control_191 rfl rfl ?_
    refine mm_iload_n (j := 3) dX9_control_192 rfl rfl ?_
    refine mm_iconst (v := 3) dX9_control_193 (by decide) ?_
    refine mm_isub dX9_control_194 ?_
    obtain ⟨hs49, hf⟩ := mm_sh_s hf
    obtain ⟨q50, hq50, hf⟩ := mm_on_s hf
    refine mm_callVv cd_ok (kX9_roll p0 p1 (p2 - 3) hq50) hs49 rfl (Or.inl tw_990) cdX9_roll tw_992 ts_41 nmX9_roll rfl rfl (by simp only [List.map_cons, List.map_nil, mm_rf_cat]; exact Nat.le_of_ble_eq_true rfl) dX9_control_195 ⟨Nat.le_of_ble_eq_true rfl, Nat.le_of_ble_eq_true rfl⟩ ⟨Nat.le_of_ble_eq_true rfl, Nat.le_of_ble_eq_true rfl⟩ ?_
    refine mm_goto (tgt := 281) dX9_control_198 (by decide) ?_
    cases hf
    exact mm_vret rfl dX9_control_281 ⟨rfl, rfl⟩
  rw [if_neg c48] at hf
  by_cases c51 : p2 = 9
  · rw [if_pos c51] at hf
    refine mm_tableEq (off := 194) (tgt := 201) dX9_control_7 c51 (by decide) (by decide) (by decide) (by decide) ?_
    refine mm_aload_n (j := 1) dX9_control_201 rfl rfl ?_
    obtain ⟨hs52, hf⟩ := mm_sh_s hf
    refine mm_get (c := 9) (k := 4) (v := va_rf (mm_R q2.2 p0 4)) cd_ok ⟨_, _, _, rfl, by decide, Or.inl tw_798⟩ hs52 rfl dX9_control_202 ?_
    refine mm_iload_n (j := 2) dX9_control_205 rfl rfl ?_
    refine mm_iconst (v := 3) dX9_control_206 (by decide) ?_
    obtain ⟨q53, hq53, hf⟩ := mm_on_s hf
    rw [hq53, mm_rf_some]
    obtain ⟨n54, hn54, hf⟩ := mm_ar_s hf
    obtain ⟨hi55, hf⟩ := mm_ib_s hf
    refine mm_iast hn54 rfl hi55 dX9_control_207 ?_
    refine mm_goto (tgt := 281) dX9_control_208 (by decide) ?_
    cases hf
    exact mm_vret rfl dX9_control_281 ⟨rfl, rfl⟩
  rw [if_neg c51] at hf
  by_cases c56 : p2 = 10
  · rw [if_pos c56] at hf
    refine mm_tableEq (off := 204) (tgt := 211) dX9_control_7 c56 (by decide) (by decide) (by decide) (by decide) ?_
    refine mm_aload_n (j := 1) dX9_control_211 rfl rfl ?_
    obtain ⟨hs57, hf⟩ := mm_sh_s hf
    refine mm_get (c := 9) (k := 4) (v := va_rf (mm_R q2.2 p0 4)) cd_ok ⟨_, _, _, rfl, by decide, Or.inl tw_798⟩ hs57 rfl dX9_control_212 ?_
    refine mm_iload_n (j := 2) dX9_control_215 rfl rfl ?_
    refine mm_iconst (v := 4) dX9_control_216 (by decide) ?_
    obtain ⟨q58, hq58, hf⟩ := mm_on_s hf
    rw [hq58, mm_rf_some]
    obtain ⟨n59, hn59, hf⟩ := mm_ar_s hf
    obtain ⟨hi60, hf⟩ := mm_ib_s hf
    refine mm_iast hn59 rfl hi60 dX9_control_217 ?_
    refine mm_goto (tgt := 281) dX9_control_218 (by decide) ?_
    cases hf
    exact mm_vret rfl dX9_control_281 ⟨rfl, rfl⟩
  rw [if_neg c56] at hf
  by_cases c61 : p2 = 11
  · rw [if_pos c61] at hf
    refine mm_tableEq (off := 204) (tgt := 211) dX9_control_7 c61 (by decide) (by decide) (by decide) (by decide) ?_
    refine mm_aload_n (j := 1) dX9_control_211 rfl rfl ?_
    obtain ⟨hs62, hf⟩ := mm_sh_s hf
    refine mm_get (c := 9) (k := 4) (v := va_rf (mm_R q2.2 p0 4)) cd_ok ⟨_, _, _, rfl, by decide, Or.inl tw_798⟩ hs62 rfl dX9_control_212 ?_
    refine mm_iload_n (j := 2) dX9_control_215 rfl rfl ?_
    refine mm_iconst (v := 4) dX9_control_216 (by decide) ?_
    obtain ⟨q63, hq63, hf⟩ := mm_on_s hf
    rw [hq63, mm_rf_some]
    obtain ⟨n64, hn64, hf⟩ := mm_ar_s hf
    obtain ⟨hi65, hf⟩ := mm_ib_s hf
    refine mm_iast hn64 rfl hi65 dX9_control_217 ?_
    refine mm_goto (tgt := 281) dX9_control_218 (by decide) ?_
    cases hf
    exact mm_vret rfl dX9_control_281 ⟨rfl, rfl⟩
  rw [if_neg c61] at hf
  by_cases c66 : p2 = 12
  · rw [if_pos c66] at hf
    refine mm_tableEq (off := 214) (tgt := 221) dX9_control_7 c66 (by decide) (by decide) (by decide) (by decide) ?_
    refine mm_aload_n (j := 1) dX9_control_221 rfl rfl ?_
    refine mm_iload_n (j := 2) dX9_control_222 rfl rfl ?_
    refine mm_iconst (v := 0) dX9_control_223 (by decide) ?_
    obtain ⟨hs67, hf⟩ := mm_sh_s hf
    obtain ⟨q68, hq68, hf⟩ := mm_on_s hf
    refine mm_callVv cd_ok (kX9_clearScreen p0 p1 0 hq68) hs67 rfl (Or.inl tw_994) cdX9_clearScreen tw_996 ts_42 nmX9_clearScreen rfl rfl (by simp only [List.map_cons, List.map_nil, mm_rf_cat]; exact Nat.le_of_ble_eq_true rfl) dX9_control_224 ⟨Nat.le_of_ble_eq_true rfl, Nat.le_of_ble_eq_true rfl⟩ ⟨Nat.le_of_ble_eq_true rfl, Nat.le_of_ble_eq_true rfl⟩ ?_
    refine mm_goto (tgt := 281) dX9_control_227 (by decide) ?_
    cases hf
    exact mm_vret rfl dX9_control_281 ⟨rfl, rfl⟩
  rw [if_neg c66] at hf
  by_cases c69 : p2 = 13
  · rw [if_pos c69] at hf
    refine mm_tableEq (off := 223) (tgt := 230) dX9_control_7 c69 (by decide) (by decide) (by decide) (by decide) ?_
    refine mm_aload_n (j := 1) dX9_control_230 rfl rfl ?_
    obtain ⟨hs70, hf⟩ := mm_sh_s hf
    refine mm_get (c := 9) (k := 4) (v := va_rf (mm_R q2.2 p0 4)) cd_ok ⟨_, _, _, rfl, by decide, Or.inl tw_798⟩ hs70 rfl dX9_control_231 ?_
    refine mm_iload_n (j := 2) dX9_control_234 rfl rfl ?_
    obtain ⟨q71, hq71, hf⟩ := mm_on_s hf
    rw [hq71, mm_rf_some]
    obtain ⟨n72, hn72, hf⟩ := mm_ar_s hf
    obtain ⟨hi73, hf⟩ := mm_ib_s hf
    refine mm_iald hn72 rfl hi73 dX9_control_235 ?_
    refine mm_iconst (v := 2) dX9_control_236 (by decide) ?_
    refine mm_icmp_ne (tgt := 281) dX9_control_237 (by decide) (fun c74 => ?_) (fun c74 => ?_)
    · rw [if_neg c74] at hf
      cases hf
      exact mm_vret rfl dX9_control_281 ⟨rfl, rfl⟩
    · rw [if_pos c74] at hf
      refine mm_aload_n (j := 1) dX9_control_240 rfl rfl ?_
      refine mm_iload_n (j := 2) dX9_control_241 rfl rfl ?_
      obtain ⟨q75, hq75, hf⟩ := mm_on_s hf
      refine mm_callVv cd_ok (kX9_up p0 p1 hq75) hs70 rfl (Or.inl tw_998) cdX9_up tw_1000 ts_43 nmX9_up rfl rfl (by simp only [List.map_cons, List.map_nil, mm_rf_cat]; exact Nat.le_of_ble_eq_true rfl) dX9_control_242 ⟨Nat.le_of_ble_eq_true rfl, Nat.le_of_ble_eq_true rfl⟩ ⟨Nat.le_of_ble_eq_true rfl, Nat.le_of_ble_eq_true rfl⟩ ?_
      refine mm_goto (tgt := 281) dX9_control_245 (by decide) ?_
      cases hf
      exact mm_vret rfl dX9_control_281 ⟨rfl, rfl⟩
  rw [if_neg c69] at hf
  by_cases c76 : p2 = 14
  · rw [if_pos c76] at hf
    refine mm_tableEq (off := 241) (tgt := 248) dX9_control_7 c76 (by decide) (by decide) (by decide) (by decide) ?_
    refine mm_aload_n (j := 1) dX9_control_248 rfl rfl ?_
    refine mm_iload_n (j := 2) dX9_control_249 rfl rfl ?_
    refine mm_iconst (v := 1) dX9_control_250 (by decide) ?_
    obtain ⟨hs77, hf⟩ := mm_sh_s hf
    obtain ⟨q78, hq78, hf⟩ := mm_on_s hf
    refine mm_callVv cd_ok (kX9_clearScreen p0 p1 1 hq78) hs77 rfl (Or.inl tw_994) cdX9_clearScreen tw_996 ts_42 nmX9_clearScreen rfl rfl (by simp only [List.map_cons, List.map_nil, mm_rf_cat]; exact Nat.le_of_ble_eq_true rfl) dX9_control_251 ⟨Nat.le_of_ble_eq_true rfl, Nat.le_of_ble_eq_true rfl⟩ ⟨Nat.le_of_ble_eq_true rfl, Nat.le_of_ble_eq_true rfl⟩ ?_
    refine mm_goto (tgt := 281) dX9_control_254 (by decide) ?_
    cases hf
    exact mm_vret rfl dX9_control_281 ⟨rfl, rfl⟩
  rw [if_neg c76] at hf
  by_cases c79 : p2 = 15
  · rw [if_pos c79] at hf
    refine mm_tableEq (off := 250) (tgt := 257) dX9_control_7 c79 (by decide) (by decide) (by decide) (by decide) ?_
    refine mm_aload_n (j := 1) dX9_control_257 rfl rfl ?_
    obtain ⟨hs80, hf⟩ := mm_sh_s hf
    refine mm_get (c := 9) (k := 3) (v := va_rf (mm_R q2.2 p0 3)) cd_ok ⟨_, _, _, rfl, by decide, Or.inl tw_797⟩ hs80 rfl dX9_control_258 ?_
    refine mm_iload_n (j := 2) dX9_control_261 rfl rfl ?_
    refine mm_iconst (v := 1) dX9_control_262 (by decide) ?_
    refine mm_aload_n (j := 1) dX9_control_263 rfl rfl ?_
    refine mm_get (c := 9) (k := 3) (v := va_rf (mm_R q2.2 p0 3)) cd_ok ⟨_, _, _, rfl, by decide, Or.inl tw_797⟩ hs80 rfl dX9_control_264 ?_
    refine mm_iload_n (j := 2) dX9_control_267 rfl rfl ?_
    obtain ⟨q81, hq81, hf⟩ := mm_on_s hf
    rw [hq81, mm_rf_some]
    obtain ⟨n82, hn82, hf⟩ := mm_ar_s hf
    obtain ⟨hi83, hf⟩ := mm_ib_s hf
    refine mm_iald hn82 rfl hi83 dX9_control_268 ?_
    refine mm_isub dX9_control_269 ?_
    obtain ⟨hi84, hf⟩ := mm_ib_s hf
    refine mm_iast hn82 rfl hi84 dX9_control_270 ?_
    refine mm_aload_n (j := 1) dX9_control_271 rfl rfl ?_
    refine mm_get (c := 9) (k := 4) (v := va_rf (mm_R (mm_wI q2.2 q81 (p1.toNatClampNeg) (1 - (mm_I q2.2 q81 p1.toNatClampNeg))) p0 4)) cd_ok ⟨_, _, _, rfl, by decide, Or.inl tw_798⟩ hs80 rfl dX9_control_272 ?_
    refine mm_iload_n (j := 2) dX9_control_275 rfl rfl ?_
    refine mm_iconst (v := 1) dX9_control_276 (by decide) ?_
    obtain ⟨q85, hq85, hf⟩ := mm_on_s hf
    rw [hq85, mm_rf_some]
    obtain ⟨n86, hn86, hf⟩ := mm_ar_s hf
    obtain ⟨hi87, hf⟩ := mm_ib_s hf
    refine mm_iast hn86 rfl hi87 dX9_control_277 ?_
    refine mm_goto (tgt := 281) dX9_control_278 (by decide) ?_
    cases hf
    exact mm_vret rfl dX9_control_281 ⟨rfl, rfl⟩
  rw [if_neg c79] at hf
  by_cases c88 : p2 = 2
  · refine mm_tableEq (off := 274) (tgt := 281) dX9_control_7 c88 (by decide) (by decide) (by decide) (by decide) ?_
    cases hf
    exact mm_vret rfl dX9_control_281 ⟨rfl, rfl⟩
  by_cases c89 : p2 = 3
  · refine mm_tableEq (off := 274) (tgt := 281) dX9_control_7 c89 (by decide) (by decide) (by decide) (by decide) ?_
    cases hf
    exact mm_vret rfl dX9_control_281 ⟨rfl, rfl⟩
  by_cases c90 : p2 = 8
  · refine mm_tableEq (off := 274) (tgt := 281) dX9_control_7 c90 (by decide) (by decide) (by decide) (by decide) ?_
    cases hf
    exact mm_vret rfl dX9_control_281 ⟨rfl, rfl⟩
  refine mm_tableOut (tgt := 281) dX9_control_7 (by have nc3 := mm_neI (k := 0) (by decide) c3; have nc8 := mm_neI (k := 1) (by decide) c8; have nc28 := mm_neI (k := 4) (by decide) c28; have nc42 := mm_neI (k := 5) (by decide) c42; have nc45 := mm_neI (k := 6) (by decide) c45; have nc48 := mm_neI (k := 7) (by decide) c48; have nc51 := mm_neI (k := 9) (by decide) c51; have nc56 := mm_neI (k := 10) (by decide) c56; have nc61 := mm_neI (k := 11) (by decide) c61; have nc66 := mm_neI (k := 12) (by decide) c66; have nc69 := mm_neI (k := 13) (by decide) c69; have nc76 := mm_neI (k := 14) (by decide) c76; have nc79 := mm_neI (k := 15) (by decide) c79; have nc88 := mm_neI (k := 2) (by decide) c88; have nc89 := mm_neI (k := 3) (by decide) c89; have nc90 := mm_neI (k := 8) (by decide) c90; omega) (by decide) ?_
  cases hf
  exact mm_vret rfl dX9_control_281 ⟨rfl, rfl⟩
theorem dX0_put_0 : decode cX0_put 0 = .ok (.aload_n 0, 1) := by decide +kernel
theorem dX0_put_1 : decode cX0_put 1 = .ok (.invokevirtual 37, 3) := by decide +kernel
theorem dX0_put_4 : decode cX0_put 4 = .ok (.astore_n 2, 1) := by decide +kernel
theorem dX0_put_5 : decode cX0_put 5 = .ok (.aload_n 2, 1) := by decide +kernel
theorem dX0_put_6 : decode cX0_put 6 = .ok (.ifnonnull 4, 3) := by decide +kernel
theorem dX0_put_9 : decode cX0_put 9 = .ok (.return_, 1) := by decide +kernel
theorem dX0_put_10 : decode cX0_put 10 = .ok (.aload_n 2, 1) := by decide +kernel
theorem dX0_put_11 : decode cX0_put 11 = .ok (.aload_n 0, 1) := by decide +kernel
theorem dX0_put_12 : decode cX0_put 12 = .ok (.getfield 25, 3) := by decide +kernel
theorem dX0_put_15 : decode cX0_put 15 = .ok (.aload_n 0, 1) := by decide +kernel
theorem dX0_put_16 : decode cX0_put 16 = .ok (.getfield 28, 3) := by decide +kernel
theorem dX0_put_19 : decode cX0_put 19 = .ok (.bipush 31, 2) := by decide +kernel
theorem dX0_put_21 : decode cX0_put 21 = .ok (.invokestatic 41, 3) := by decide +kernel
theorem dX0_put_24 : decode cX0_put 24 = .ok (.iload_n 1, 1) := by decide +kernel
theorem dX0_put_25 : decode cX0_put 25 = .ok (.aload_n 0, 1) := by decide +kernel
theorem dX0_put_26 : decode cX0_put 26 = .ok (.getfield 31, 3) := by decide +kernel
theorem dX0_put_29 : decode cX0_put 29 = .ok (.invokevirtual 47, 3) := by decide +kernel
theorem dX0_put_32 : decode cX0_put 32 = .ok (.aload_n 0, 1) := by decide +kernel
theorem dX0_put_33 : decode cX0_put 33 = .ok (.aload_n 0, 1) := by decide +kernel
theorem dX0_put_34 : decode cX0_put 34 = .ok (.getfield 28, 3) := by decide +kernel
theorem dX0_put_37 : decode cX0_put 37 = .ok (.iconst 1, 1) := by decide +kernel
theorem dX0_put_38 : decode cX0_put 38 = .ok (.iadd, 1) := by decide +kernel
theorem dX0_put_39 : decode cX0_put 39 = .ok (.bipush 32, 2) := by decide +kernel
theorem dX0_put_41 : decode cX0_put 41 = .ok (.invokestatic 41, 3) := by decide +kernel
theorem dX0_put_44 : decode cX0_put 44 = .ok (.putfield 28, 3) := by decide +kernel
theorem dX0_put_47 : decode cX0_put 47 = .ok (.return_, 1) := by decide +kernel
theorem nmX0_put : mm_nm yX0_put 1 := ⟨by decide, by decide, by decide +kernel⟩
theorem cdX0_put : mm_cd cd_Y yX0_put cX0_put 3 none := ⟨tw_321, tw_6⟩
abbrev rmX0_put : Room := { frames := 2, cells := 0, slots := 0, locals := 45 }
def fX0_put (p0 : Nat) (p1 : Int32) (σ : mm_M) : Option mm_M :=
  mm_sh σ p0 (.inl 0) (mm_on (fX0_putScreen p0 σ) fun q2 => (mm_nu (q2.1) (some (q2.2)) fun q3 => mm_sh q2.2 p0 (.inl 0) (mm_sh q2.2 q3 (.inl 5) (mm_on (fX5_write q3 (mm_I q2.2 p0 3) (if 31 < (mm_I q2.2 p0 4) then 31 else (mm_I q2.2 p0 4)) p1 (mm_I q2.2 p0 5) q2.2) fun q6 => mm_sh q6 p0 (.inl 0) (some (mm_wI q6 p0 4 (if 32 < ((mm_I q6 p0 4) + 1) then 32 else ((mm_I q6 p0 4) + 1))))))))
set_option maxHeartbeats 4000000 in
set_option maxRecDepth 100000 in
theorem kX0_put {G : mm_G} {A : Nat → Prop} (p0 : Nat) (p1 : Int32) {σ : mm_M} {R : mm_M} (hf : fX0_put p0 p1 σ = some R) : mm_C cd_Y G yX0_put cX0_put 3 none rmX0_put A [.ref p0, .int p1] σ (mm_Pv R) := by
  refine mm_C.of (by decide) (Nat.le_of_ble_eq_true rfl) ?_
  unfold fX0_put at hf
  have e0 : lv_args 0 [.ref p0, .int p1] = [(0, .ref p0), (1, .int p1)] := rfl
  rw [e0]
  generalize hini : (yX0_put.name == "<init>") = ini
  clear e0
  clear hini
  refine mm_aload_n (j := 0) dX0_put_0 rfl rfl ?_
  obtain ⟨hs1, hf⟩ := mm_sh_s hf
  obtain ⟨q2, hq2, hf⟩ := mm_on_s hf
  refine mm_callVo cd_ok (kX0_putScreen p0 hq2) hs1 rfl (Or.inl tw_322) cdX0_putScreen tw_324 ts_2 nmX0_putScreen rfl rfl (by simp only [List.map_cons, List.map_nil, mm_rf_cat]; exact Nat.le_of_ble_eq_true rfl) dX0_put_1 ⟨Nat.le_of_ble_eq_true rfl, Nat.le_of_ble_eq_true rfl⟩ ⟨Nat.le_of_ble_eq_true rfl, Nat.le_of_ble_eq_true rfl⟩ ?_
  refine mm_astore_nR (L' := [(2, va_rf (q2.1)), (0, .ref p0), (1, .int p1)]) dX0_put_4 rfl (by decide) rfl ?_
  refine mm_aload_nR (j := 0) dX0_put_5 rfl rfl ?_
  rcases hq3 : (q2.1) with _ | q3
  · rw [mm_nu_n hq3] at hf
    try rw [mm_rf_none]
    refine mm_ifnonnullN dX0_put_6 ?_
    cases hf
    exact mm_vret rfl dX0_put_9 ⟨rfl, rfl⟩
  · rw [mm_nu_s hq3] at hf
    try rw [mm_rf_some]
    refine mm_ifnonnull (tgt := 10) dX0_put_6 (by decide) ?_
    refine mm_aload_n (j := 0) dX0_put_10 rfl rfl ?_
    refine mm_aload_n (j := 1) dX0_put_11 rfl rfl ?_
    obtain ⟨hs4, hf⟩ := mm_sh_s hf
    refine mm_get (c := 0) (k := 3) (v := .int (mm_I q2.2 p0 3)) cd_ok ⟨_, _, _, rfl, by decide, Or.inl tw_117⟩ hs4 rfl dX0_put_12 ?_
    refine mm_aload_n (j := 1) dX0_put_15 rfl rfl ?_
    refine mm_get (c := 0) (k := 4) (v := .int (mm_I q2.2 p0 4)) cd_ok ⟨_, _, _, rfl, by decide, Or.inl tw_119⟩ hs4 rfl dX0_put_16 ?_
    refine mm_bipush (v := 31) dX0_put_19 (by decide) ?_
    refine mm_mmin tw_326 tw_327 tw_14 tw_328 (by decide) (by simp only [List.map_cons, List.map_nil, mm_rf_cat]; exact Nat.le_of_ble_eq_true rfl) (by decide) (by decide) dX0_put_21 ?_
    refine mm_iload_n (j := 2) dX0_put_24 rfl rfl ?_
    refine mm_aload_n (j := 1) dX0_put_25 rfl rfl ?_
    refine mm_get (c := 0) (k := 5) (v := .int (mm_I q2.2 p0 5)) cd_ok ⟨_, _, _, rfl, by decide, Or.inl tw_121⟩ hs4 rfl dX0_put_26 ?_
    obtain ⟨hs5, hf⟩ := mm_sh_s hf
    obtain ⟨q6, hq6, hf⟩ := mm_on_s hf
    refine mm_callVv cd_ok (kX5_write q3 (mm_I q2.2 p0 3) (if 31 < (mm_I q2.2 p0 4) then 31 else (mm_I q2.2 p0 4)) p1 (mm_I q2.2 p0 5) hq6) hs5 rfl (Or.inl tw_329) cdX5_write tw_330 tw_331 nmX5_write rfl rfl (by simp only [List.map_cons, List.map_nil, mm_rf_cat]; exact Nat.le_of_ble_eq_true rfl) dX0_put_29 ⟨Nat.le_of_ble_eq_true rfl, Nat.le_of_ble_eq_true rfl⟩ ⟨Nat.le_of_ble_eq_true rfl, Nat.le_of_ble_eq_true rfl⟩ ?_
    refine mm_aload_n (j := 1) dX0_put_32 rfl rfl ?_
    refine mm_aload_n (j := 1) dX0_put_33 rfl rfl ?_
    obtain ⟨hs7, hf⟩ := mm_sh_s hf
    refine mm_get (c := 0) (k := 4) (v := .int (mm_I q6 p0 4)) cd_ok ⟨_, _, _, rfl, by decide, Or.inl tw_119⟩ hs7 rfl dX0_put_34 ?_
    refine mm_iconst (v := 1) dX0_put_37 (by decide) ?_
    refine mm_iadd dX0_put_38 ?_
    refine mm_bipush (v := 32) dX0_put_39 (by decide) ?_
    refine mm_mmin tw_326 tw_327 tw_14 tw_328 (by decide) (by simp only [List.map_cons, List.map_nil, mm_rf_cat]; exact Nat.le_of_ble_eq_true rfl) (by decide) (by decide) dX0_put_41 ?_
    refine mm_putI (c := 0) (k := 4) cd_ok ⟨_, _, _, rfl, by decide, rfl, Or.inl tw_119⟩ hs7 rfl rfl rfl dX0_put_44 ?_
    cases hf
    exact mm_vret rfl dX0_put_47 ⟨rfl, rfl⟩
theorem dX0_obeyLookOrSpecial_0 : decode cX0_obeyLookOrSpecial 0 = .ok (.iload_n 1, 1) := by decide +kernel
theorem dX0_obeyLookOrSpecial_1 : decode cX0_obeyLookOrSpecial 1 = .ok (.bipush 48, 2) := by decide +kernel
theorem dX0_obeyLookOrSpecial_3 : decode cX0_obeyLookOrSpecial 3 = .ok (.if_icmp .lt 16, 3) := by decide +kernel
theorem dX0_obeyLookOrSpecial_6 : decode cX0_obeyLookOrSpecial 6 = .ok (.aload_n 0, 1) := by decide +kernel
theorem dX0_obeyLookOrSpecial_7 : decode cX0_obeyLookOrSpecial 7 = .ok (.sipush 256, 3) := by decide +kernel
theorem dX0_obeyLookOrSpecial_10 : decode cX0_obeyLookOrSpecial 10 = .ok (.iload_n 1, 1) := by decide +kernel
theorem dX0_obeyLookOrSpecial_11 : decode cX0_obeyLookOrSpecial 11 = .ok (.iadd, 1) := by decide +kernel
theorem dX0_obeyLookOrSpecial_12 : decode cX0_obeyLookOrSpecial 12 = .ok (.bipush 48, 2) := by decide +kernel
theorem dX0_obeyLookOrSpecial_14 : decode cX0_obeyLookOrSpecial 14 = .ok (.isub, 1) := by decide +kernel
theorem dX0_obeyLookOrSpecial_15 : decode cX0_obeyLookOrSpecial 15 = .ok (.invokevirtual 62, 3) := by decide +kernel
theorem dX0_obeyLookOrSpecial_18 : decode cX0_obeyLookOrSpecial 18 = .ok (.return_, 1) := by decide +kernel
theorem dX0_obeyLookOrSpecial_19 : decode cX0_obeyLookOrSpecial 19 = .ok (.aload_n 0, 1) := by decide +kernel
theorem dX0_obeyLookOrSpecial_20 : decode cX0_obeyLookOrSpecial 20 = .ok (.iload_n 1, 1) := by decide +kernel
theorem dX0_obeyLookOrSpecial_21 : decode cX0_obeyLookOrSpecial 21 = .ok (.iconst 2, 1) := by decide +kernel
theorem dX0_obeyLookOrSpecial_22 : decode cX0_obeyLookOrSpecial 22 = .ok (.idiv, 1) := by decide +kernel
theorem dX0_obeyLookOrSpecial_23 : decode cX0_obeyLookOrSpecial 23 = .ok (.bipush 8, 2) := by decide +kernel
theorem dX0_obeyLookOrSpecial_25 : decode cX0_obeyLookOrSpecial 25 = .ok (.irem, 1) := by decide +kernel
theorem dX0_obeyLookOrSpecial_26 : decode cX0_obeyLookOrSpecial 26 = .ok (.iload_n 1, 1) := by decide +kernel
theorem dX0_obeyLookOrSpecial_27 : decode cX0_obeyLookOrSpecial 27 = .ok (.iconst 1, 1) := by decide +kernel
theorem dX0_obeyLookOrSpecial_28 : decode cX0_obeyLookOrSpecial 28 = .ok (.iand, 1) := by decide +kernel
theorem dX0_obeyLookOrSpecial_29 : decode cX0_obeyLookOrSpecial 29 = .ok (.ifCond .eq 8, 3) := by decide +kernel
theorem dX0_obeyLookOrSpecial_32 : decode cX0_obeyLookOrSpecial 32 = .ok (.bipush 8, 2) := by decide +kernel
theorem dX0_obeyLookOrSpecial_34 : decode cX0_obeyLookOrSpecial 34 = .ok (.goto 4, 3) := by decide +kernel
theorem dX0_obeyLookOrSpecial_37 : decode cX0_obeyLookOrSpecial 37 = .ok (.iconst 0, 1) := by decide +kernel
theorem dX0_obeyLookOrSpecial_38 : decode cX0_obeyLookOrSpecial 38 = .ok (.iadd, 1) := by decide +kernel
theorem dX0_obeyLookOrSpecial_39 : decode cX0_obeyLookOrSpecial 39 = .ok (.putfield 31, 3) := by decide +kernel
theorem dX0_obeyLookOrSpecial_42 : decode cX0_obeyLookOrSpecial 42 = .ok (.aload_n 0, 1) := by decide +kernel
theorem dX0_obeyLookOrSpecial_43 : decode cX0_obeyLookOrSpecial 43 = .ok (.bipush 32, 2) := by decide +kernel
theorem dX0_obeyLookOrSpecial_45 : decode cX0_obeyLookOrSpecial 45 = .ok (.invokevirtual 62, 3) := by decide +kernel
theorem dX0_obeyLookOrSpecial_48 : decode cX0_obeyLookOrSpecial 48 = .ok (.return_, 1) := by decide +kernel
theorem nmX0_obeyLookOrSpecial : mm_nm yX0_obeyLookOrSpecial 1 := ⟨by decide, by decide, by decide +kernel⟩
theorem cdX0_obeyLookOrSpecial : mm_cd cd_Y yX0_obeyLookOrSpecial cX0_obeyLookOrSpecial 2 none := ⟨tw_378, tw_6⟩
abbrev rmX0_obeyLookOrSpecial : Room := { frames := 3, cells := 0, slots := 0, locals := 67 }
def fX0_obeyLookOrSpecial_38  (a0 : Nat) (x1 : Int32) (y0 : Int32) (y1 : Int32) (y2 : Nat) (σ : mm_M) : Option mm_M :=
  mm_sh σ y2 (.inl 0) (mm_sh (mm_wI σ y2 5 (y1 + y0)) a0 (.inl 0) (mm_on (fX0_put a0 32 (mm_wI σ y2 5 (y1 + y0))) fun q5 => some (q5)))
def fX0_obeyLookOrSpecial (p0 : Nat) (p1 : Int32) (σ : mm_M) : Option mm_M :=
  (if p1 < 48 then (if (p1 &&& 1) = 0 then (fX0_obeyLookOrSpecial_38  p0 p1 0 ((p1 / 2) - (p1 / 2) / 8 * 8) p0 σ) else (fX0_obeyLookOrSpecial_38  p0 p1 8 ((p1 / 2) - (p1 / 2) / 8 * 8) p0 σ)) else mm_sh σ p0 (.inl 0) (mm_on (fX0_put p0 ((256 + p1) - 48) σ) fun q7 => some (q7)))
set_option maxHeartbeats 4000000 in
set_option maxRecDepth 100000 in
theorem kX0_obeyLookOrSpecial_38 {G : mm_G} {A : Nat → Prop} {ini : Bool}  {R : mm_M}  (a0 : Nat) (x1 : Int32) (y0 : Int32) (y1 : Int32) (y2 : Nat) (σ : mm_M) (hf : fX0_obeyLookOrSpecial_38  a0 x1 y0 y1 y2 σ = some R) : mm_J cd_Y G RX0 cX0_obeyLookOrSpecial 2 none ini rmX0_obeyLookOrSpecial A (mm_QF cd_Y G A (mm_Pv R) rmX0_obeyLookOrSpecial.cells rmX0_obeyLookOrSpecial.slots) 38 [(0, .ref a0), (1, .int x1)] [.int y0, .int y1, .ref y2] σ 0 0 := by
  unfold fX0_obeyLookOrSpecial_38 at hf
  refine mm_iadd dX0_obeyLookOrSpecial_38 ?_
  obtain ⟨hs3, hf⟩ := mm_sh_s hf
  refine mm_putI (c := 0) (k := 5) cd_ok ⟨_, _, _, rfl, by decide, rfl, Or.inl tw_121⟩ hs3 rfl rfl rfl dX0_obeyLookOrSpecial_39 ?_
  refine mm_aload_n (j := 0) dX0_obeyLookOrSpecial_42 rfl rfl ?_
  refine mm_bipush (v := 32) dX0_obeyLookOrSpecial_43 (by decide) ?_
  obtain ⟨hs4, hf⟩ := mm_sh_s hf
  obtain ⟨q5, hq5, hf⟩ := mm_on_s hf
  refine mm_callVv cd_ok (kX0_put a0 32 hq5) hs4 rfl (Or.inl tw_379) cdX0_put tw_319 tw_320 nmX0_put rfl rfl (by simp only [List.map_cons, List.map_nil, mm_rf_cat]; exact Nat.le_of_ble_eq_true rfl) dX0_obeyLookOrSpecial_45 ⟨Nat.le_of_ble_eq_true rfl, Nat.le_of_ble_eq_true rfl⟩ ⟨Nat.le_of_ble_eq_true rfl, Nat.le_of_ble_eq_true rfl⟩ ?_
  cases hf
  exact mm_vret rfl dX0_obeyLookOrSpecial_48 ⟨rfl, rfl⟩
set_option maxHeartbeats 4000000 in
set_option maxRecDepth 100000 in
theorem kX0_obeyLookOrSpecial {G : mm_G} {A : Nat → Prop} (p0 : Nat) (p1 : Int32) {σ : mm_M} {R : mm_M} (hf : fX0_obeyLookOrSpecial p0 p1 σ = some R) : mm_C cd_Y G yX0_obeyLookOrSpecial cX0_obeyLookOrSpecial 2 none rmX0_obeyLookOrSpecial A [.ref p0, .int p1] σ (mm_Pv R) := by
  refine mm_C.of (by decide) (Nat.le_of_ble_eq_true rfl) ?_
  unfold fX0_obeyLookOrSpecial at hf
  have e0 : lv_args 0 [.ref p0, .int p1] = [(0, .ref p0), (1, .int p1)] := rfl
  rw [e0]
  generalize hini : (yX0_obeyLookOrSpecial.name == "<init>") = ini
  clear e0
  clear hini
  refine mm_iload_n (j := 1) dX0_obeyLookOrSpecial_0 rfl rfl ?_
  refine mm_bipush (v := 48) dX0_obeyLookOrSpecial_1 (by decide) ?_
  refine mm_icmp_lt (tgt := 19) dX0_obeyLookOrSpecial_3 (by decide) (fun c1 => ?_) (fun c1 => ?_)
  · rw [if_pos c1] at hf
    refine mm_aload_n (j := 0) dX0_obeyLookOrSpecial_19 rfl rfl ?_
    refine mm_iload_n (j := 1) dX0_obeyLookOrSpecial_20 rfl rfl ?_
    refine mm_iconst (v := 2) dX0_obeyLookOrSpecial_21 (by decide) ?_
    refine mm_idiv dX0_obeyLookOrSpecial_22 (by decide) ?_
    refine mm_bipush (v := 8) dX0_obeyLookOrSpecial_23 (by decide) ?_
    refine mm_irem dX0_obeyLookOrSpecial_25 (by decide) ?_
    refine mm_iload_n (j := 1) dX0_obeyLookOrSpecial_26 rfl rfl ?_
    refine mm_iconst (v := 1) dX0_obeyLookOrSpecial_27 (by decide) ?_
    refine mm_iand dX0_obeyLookOrSpecial_28 ?_
    refine mm_if_eq (tgt := 37) dX0_obeyLookOrSpecial_29 (by decide) (fun c2 => ?_) (fun c2 => ?_)
    · rw [if_pos c2] at hf
      refine mm_iconst (v := 0) dX0_obeyLookOrSpecial_37 (by decide) ?_
      refine mm_sub [0, 1] rfl ?_
      exact kX0_obeyLookOrSpecial_38  p0 p1 0 ((p1 / 2) - (p1 / 2) / 8 * 8) p0 σ hf
    · rw [if_neg c2] at hf
      refine mm_bipush (v := 8) dX0_obeyLookOrSpecial_32 (by decide) ?_
      refine mm_goto (tgt := 38) dX0_obeyLookOrSpecial_34 (by decide) ?_
      refine mm_sub [0, 1] rfl ?_
      exact kX0_obeyLookOrSpecial_38  p0 p1 8 ((p1 / 2) - (p1 / 2) / 8 * 8) p0 σ hf
  · rw [if_neg c1] at hf
    refine mm_aload_n (j := 0) dX0_obeyLookOrSpecial_6 rfl rfl ?_
    refine mm_sipush (v := 256) dX0_obeyLookOrSpecial_7 (by decide) ?_
    refine mm_iload_n (j := 1) dX0_obeyLookOrSpecial_10 rfl rfl ?_
    refine mm_iadd dX0_obeyLookOrSpecial_11 ?_
    refine mm_bipush (v := 48) dX0_obeyLookOrSpecial_12 (by decide) ?_
    refine mm_isub dX0_obeyLookOrSpecial_14 ?_
    obtain ⟨hs6, hf⟩ := mm_sh_s hf
    obtain ⟨q7, hq7, hf⟩ := mm_on_s hf
    refine mm_callVv cd_ok (kX0_put p0 ((256 + p1) - 48) hq7) hs6 rfl (Or.inl tw_379) cdX0_put tw_319 tw_320 nmX0_put rfl rfl (by simp only [List.map_cons, List.map_nil, mm_rf_cat]; exact Nat.le_of_ble_eq_true rfl) dX0_obeyLookOrSpecial_15 ⟨Nat.le_of_ble_eq_true rfl, Nat.le_of_ble_eq_true rfl⟩ ⟨Nat.le_of_ble_eq_true rfl, Nat.le_of_ble_eq_true rfl⟩ ?_
    cases hf
    exact mm_vret rfl dX0_obeyLookOrSpecial_18 ⟨rfl, rfl⟩
