/-- what a helper answers: 0 and the answer in its row, or 1 where the call threw -/
abbrev mm_PH (Rr : Option Int32 × mm_M) (out : Nat) : Option Value → mm_M → Prop := fun v s => (∃ r, Rr.1 = some r ∧ v = some (.int 0) ∧ s = mm_wL Rr.2 out (0 : Int32).toNatClampNeg r.toInt64) ∨ (Rr.1 = none ∧ v = some (.int 1) ∧ ∃ z, s = (z, Rr.2.2))
theorem mm_in0 {n : Nat} (h : 0 < n) : vp_in 0 n := by
  intro q
  rcases q with q | q
  · exact absurd q (by decide)
  · rw [sb_cl0] at q; omega
theorem dL_pair_0 : decode cL_pair 0 = .ok (.aload 4, 2) := by decide +kernel
theorem dL_pair_2 : decode cL_pair 2 = .ok (.iconst 0, 1) := by decide +kernel
theorem dL_pair_3 : decode cL_pair 3 = .ok (.aload_n 0, 1) := by decide +kernel
theorem dL_pair_4 : decode cL_pair 4 = .ok (.iload_n 1, 1) := by decide +kernel
theorem dL_pair_5 : decode cL_pair 5 = .ok (.iload_n 2, 1) := by decide +kernel
theorem dL_pair_6 : decode cL_pair 6 = .ok (.iload_n 3, 1) := by decide +kernel
theorem dL_pair_7 : decode cL_pair 7 = .ok (.invokevirtual 7, 3) := by decide +kernel
theorem dL_pair_10 : decode cL_pair 10 = .ok (.i2l, 1) := by decide +kernel
theorem dL_pair_11 : decode cL_pair 11 = .ok (.lastore, 1) := by decide +kernel
theorem dL_pair_12 : decode cL_pair 12 = .ok (.goto 7, 3) := by decide +kernel
theorem dL_pair_15 : decode cL_pair 15 = .ok (.astore 5, 2) := by decide +kernel
theorem dL_pair_17 : decode cL_pair 17 = .ok (.iconst 1, 1) := by decide +kernel
theorem dL_pair_18 : decode cL_pair 18 = .ok (.ireturn, 1) := by decide +kernel
theorem dL_pair_19 : decode cL_pair 19 = .ok (.iconst 0, 1) := by decide +kernel
theorem dL_pair_20 : decode cL_pair 20 = .ok (.ireturn, 1) := by decide +kernel
theorem nmL_pair : mm_nm yL_pair 5 := ⟨by decide, by decide, by decide +kernel⟩
abbrev rmL_pair : Room := { frames := 7, cells := 1, slots := 6, locals := 165 }
set_option maxHeartbeats 4000000 in
set_option maxRecDepth 100000 in
theorem kL_pair {G : mm_G} {A : Nat → Prop} (p0 : Nat) (p1 : Int32) (p2 : Int32) (p3 : Int32) (p4 : Nat) {σ : mm_M} {Rr : Option Int32 × mm_M} {n : Nat} (hf : fX8_pair p0 p1 p2 p3 σ = some Rr) (hs : σ.2.1 p0 = some (.inl 8)) (ho : Rr.2.2.1 p4 = some (.inr (3, n))) (hn : 0 < n) : mm_CW cd_Y G yL_pair cL_pair 6 (some .int) [(0, 12, 15, 13)] rmL_pair A [.ref p0, .int p1, .int p2, .int p3, .ref p4] σ (mm_PH Rr p4) := by
  refine mm_CW.of (by decide) (Nat.le_of_ble_eq_true rfl) ?_
  have e0 : lv_args 0 [.ref p0, .int p1, .int p2, .int p3, .ref p4] = [(0, .ref p0), (1, .int p1), (2, .int p2), (3, .int p3), (4, .ref p4)] := rfl
  rw [e0]
  clear e0
  refine mm_aload (j := 4) dL_pair_0 rfl ?_
  refine mm_iconst (v := 0) dL_pair_2 (by decide) ?_
  refine mm_aload_n (j := 0) dL_pair_3 rfl rfl ?_
  refine mm_iload_n (j := 1) dL_pair_4 rfl rfl ?_
  refine mm_iload_n (j := 2) dL_pair_5 rfl rfl ?_
  refine mm_iload_n (j := 3) dL_pair_6 rfl rfl ?_
  refine mm_callVX cd_ok (kX8_pair p0 p1 p2 p3 hf) hs rfl tw_235 cdX8_pair tw_236 tw_237 nmX8_pair rfl rfl (by simp only [List.map_cons, List.map_nil, mm_rf_cat]; exact Nat.le_of_ble_eq_true rfl) dL_pair_7 ⟨Nat.le_of_ble_eq_true rfl, Nat.le_of_ble_eq_true rfl⟩ ⟨Nat.le_of_ble_eq_true rfl, Nat.le_of_ble_eq_true rfl⟩ rfl (by decide) (by decide) tw_234 tn_16 (fun r hr => ?_) (fun hx q z => ?_)
  · refine mm_i2l dL_pair_10 ?_
    refine mm_last ho rfl (mm_in0 hn) dL_pair_11 ?_
    refine mm_goto (tgt := 19) dL_pair_12 (by decide) ?_
    refine mm_iconst (v := 0) dL_pair_19 (by decide) ?_
    refine mm_widen (ck' := rmL_pair.cells) (sk' := rmL_pair.slots) (Nat.le_of_ble_eq_true rfl) (Nat.le_of_ble_eq_true rfl) ?_
    exact mm_iret rfl rfl dL_pair_20 (Or.inl ⟨r, hr, rfl, rfl⟩)
  · refine mm_astore (L' := [(5, .ref q), (0, .ref p0), (1, .int p1), (2, .int p2), (3, .int p3), (4, .ref p4)]) dL_pair_15 (by decide) rfl ?_
    refine mm_iconst (v := 1) dL_pair_17 (by decide) ?_
    refine mm_widen (ck' := rmL_pair.cells) (sk' := rmL_pair.slots) (Nat.le_of_ble_eq_true rfl) (Nat.le_of_ble_eq_true rfl) ?_
    exact mm_iret rfl rfl dL_pair_18 (Or.inr ⟨hx, rfl, z, rfl⟩)
theorem dL_cell_0 : decode cL_cell 0 = .ok (.aload 6, 2) := by decide +kernel
theorem dL_cell_2 : decode cL_cell 2 = .ok (.iconst 0, 1) := by decide +kernel
theorem dL_cell_3 : decode cL_cell 3 = .ok (.aload_n 0, 1) := by decide +kernel
theorem dL_cell_4 : decode cL_cell 4 = .ok (.iload_n 1, 1) := by decide +kernel
theorem dL_cell_5 : decode cL_cell 5 = .ok (.iload_n 2, 1) := by decide +kernel
theorem dL_cell_6 : decode cL_cell 6 = .ok (.iload_n 3, 1) := by decide +kernel
theorem dL_cell_7 : decode cL_cell 7 = .ok (.iload 4, 2) := by decide +kernel
theorem dL_cell_9 : decode cL_cell 9 = .ok (.iload 5, 2) := by decide +kernel
theorem dL_cell_11 : decode cL_cell 11 = .ok (.invokevirtual 15, 3) := by decide +kernel
theorem dL_cell_14 : decode cL_cell 14 = .ok (.i2l, 1) := by decide +kernel
theorem dL_cell_15 : decode cL_cell 15 = .ok (.lastore, 1) := by decide +kernel
theorem dL_cell_16 : decode cL_cell 16 = .ok (.goto 7, 3) := by decide +kernel
theorem dL_cell_19 : decode cL_cell 19 = .ok (.astore 7, 2) := by decide +kernel
theorem dL_cell_21 : decode cL_cell 21 = .ok (.iconst 1, 1) := by decide +kernel
theorem dL_cell_22 : decode cL_cell 22 = .ok (.ireturn, 1) := by decide +kernel
theorem dL_cell_23 : decode cL_cell 23 = .ok (.iconst 0, 1) := by decide +kernel
theorem dL_cell_24 : decode cL_cell 24 = .ok (.ireturn, 1) := by decide +kernel
theorem nmL_cell : mm_nm yL_cell 7 := ⟨by decide, by decide, by decide +kernel⟩
abbrev rmL_cell : Room := { frames := 7, cells := 1, slots := 6, locals := 109 }
set_option maxHeartbeats 4000000 in
set_option maxRecDepth 100000 in
theorem kL_cell {G : mm_G} {A : Nat → Prop} (p0 : Nat) (p1 : Int32) (p2 : Int32) (p3 : Int32) (p4 : Int32) (p5 : Int32) (p6 : Nat) {σ : mm_M} {Rr : Option Int32 × mm_M} {n : Nat} (hf : fX8_cell p0 p1 p2 p3 p4 p5 σ = some Rr) (hs : σ.2.1 p0 = some (.inl 8)) (ho : Rr.2.2.1 p6 = some (.inr (3, n))) (hn : 0 < n) : mm_CW cd_Y G yL_cell cL_cell 8 (some .int) [(0, 16, 19, 13)] rmL_cell A [.ref p0, .int p1, .int p2, .int p3, .int p4, .int p5, .ref p6] σ (mm_PH Rr p6) := by
  refine mm_CW.of (by decide) (Nat.le_of_ble_eq_true rfl) ?_
  have e0 : lv_args 0 [.ref p0, .int p1, .int p2, .int p3, .int p4, .int p5, .ref p6] = [(0, .ref p0), (1, .int p1), (2, .int p2), (3, .int p3), (4, .int p4), (5, .int p5), (6, .ref p6)] := rfl
  rw [e0]
  clear e0
  refine mm_aload (j := 6) dL_cell_0 rfl ?_
  refine mm_iconst (v := 0) dL_cell_2 (by decide) ?_
  refine mm_aload_n (j := 0) dL_cell_3 rfl rfl ?_
  refine mm_iload_n (j := 1) dL_cell_4 rfl rfl ?_
  refine mm_iload_n (j := 2) dL_cell_5 rfl rfl ?_
  refine mm_iload_n (j := 3) dL_cell_6 rfl rfl ?_
  refine mm_iload (j := 4) dL_cell_7 rfl ?_
  refine mm_iload (j := 5) dL_cell_9 rfl ?_
  refine mm_callVX cd_ok (kX8_cell p0 p1 p2 p3 p4 p5 hf) hs rfl tw_423 cdX8_cell tw_424 tw_425 nmX8_cell rfl rfl (by simp only [List.map_cons, List.map_nil, mm_rf_cat]; exact Nat.le_of_ble_eq_true rfl) dL_cell_11 ⟨Nat.le_of_ble_eq_true rfl, Nat.le_of_ble_eq_true rfl⟩ ⟨Nat.le_of_ble_eq_true rfl, Nat.le_of_ble_eq_true rfl⟩ rfl (by decide) (by decide) tw_234 tn_16 (fun r hr => ?_) (fun hx q z => ?_)
  · refine mm_i2l dL_cell_14 ?_
    refine mm_last ho rfl (mm_in0 hn) dL_cell_15 ?_
    refine mm_goto (tgt := 23) dL_cell_16 (by decide) ?_
    refine mm_iconst (v := 0) dL_cell_23 (by decide) ?_
    refine mm_widen (ck' := rmL_cell.cells) (sk' := rmL_cell.slots) (Nat.le_of_ble_eq_true rfl) (Nat.le_of_ble_eq_true rfl) ?_
    exact mm_iret rfl rfl dL_cell_24 (Or.inl ⟨r, hr, rfl, rfl⟩)
  · refine mm_astore (L' := [(7, .ref q), (0, .ref p0), (1, .int p1), (2, .int p2), (3, .int p3), (4, .int p4), (5, .int p5), (6, .ref p6)]) dL_cell_19 (by decide) rfl ?_
    refine mm_iconst (v := 1) dL_cell_21 (by decide) ?_
    refine mm_widen (ck' := rmL_cell.cells) (sk' := rmL_cell.slots) (Nat.le_of_ble_eq_true rfl) (Nat.le_of_ble_eq_true rfl) ?_
    exact mm_iret rfl rfl dL_cell_22 (Or.inr ⟨hx, rfl, z, rfl⟩)
theorem dL_state_0 : decode cL_state 0 = .ok (.aload_n 3, 1) := by decide +kernel
theorem dL_state_1 : decode cL_state 1 = .ok (.iconst 0, 1) := by decide +kernel
theorem dL_state_2 : decode cL_state 2 = .ok (.aload_n 0, 1) := by decide +kernel
theorem dL_state_3 : decode cL_state 3 = .ok (.iload_n 1, 1) := by decide +kernel
theorem dL_state_4 : decode cL_state 4 = .ok (.iload_n 2, 1) := by decide +kernel
theorem dL_state_5 : decode cL_state 5 = .ok (.invokevirtual 19, 3) := by decide +kernel
theorem dL_state_8 : decode cL_state 8 = .ok (.i2l, 1) := by decide +kernel
theorem dL_state_9 : decode cL_state 9 = .ok (.lastore, 1) := by decide +kernel
theorem dL_state_10 : decode cL_state 10 = .ok (.goto 7, 3) := by decide +kernel
theorem dL_state_13 : decode cL_state 13 = .ok (.astore 4, 2) := by decide +kernel
theorem dL_state_15 : decode cL_state 15 = .ok (.iconst 1, 1) := by decide +kernel
theorem dL_state_16 : decode cL_state 16 = .ok (.ireturn, 1) := by decide +kernel
theorem dL_state_17 : decode cL_state 17 = .ok (.iconst 0, 1) := by decide +kernel
theorem dL_state_18 : decode cL_state 18 = .ok (.ireturn, 1) := by decide +kernel
theorem nmL_state : mm_nm yL_state 4 := ⟨by decide, by decide, by decide +kernel⟩
abbrev rmL_state : Room := { frames := 7, cells := 1, slots := 6, locals := 105 }
set_option maxHeartbeats 4000000 in
set_option maxRecDepth 100000 in
theorem kL_state {G : mm_G} {A : Nat → Prop} (p0 : Nat) (p1 : Int32) (p2 : Int32) (p3 : Nat) {σ : mm_M} {Rr : Option Int32 × mm_M} {n : Nat} (hf : fX8_state p0 p1 p2 σ = some Rr) (hs : σ.2.1 p0 = some (.inl 8)) (ho : Rr.2.2.1 p3 = some (.inr (3, n))) (hn : 0 < n) : mm_CW cd_Y G yL_state cL_state 5 (some .int) [(0, 10, 13, 13)] rmL_state A [.ref p0, .int p1, .int p2, .ref p3] σ (mm_PH Rr p3) := by
  refine mm_CW.of (by decide) (Nat.le_of_ble_eq_true rfl) ?_
  have e0 : lv_args 0 [.ref p0, .int p1, .int p2, .ref p3] = [(0, .ref p0), (1, .int p1), (2, .int p2), (3, .ref p3)] := rfl
  rw [e0]
  clear e0
  refine mm_aload_n (j := 3) dL_state_0 rfl rfl ?_
  refine mm_iconst (v := 0) dL_state_1 (by decide) ?_
  refine mm_aload_n (j := 0) dL_state_2 rfl rfl ?_
  refine mm_iload_n (j := 1) dL_state_3 rfl rfl ?_
  refine mm_iload_n (j := 2) dL_state_4 rfl rfl ?_
  refine mm_callVX cd_ok (kX8_state p0 p1 p2 hf) hs rfl tw_440 cdX8_state tw_441 tw_442 nmX8_state rfl rfl (by simp only [List.map_cons, List.map_nil, mm_rf_cat]; exact Nat.le_of_ble_eq_true rfl) dL_state_5 ⟨Nat.le_of_ble_eq_true rfl, Nat.le_of_ble_eq_true rfl⟩ ⟨Nat.le_of_ble_eq_true rfl, Nat.le_of_ble_eq_true rfl⟩ rfl (by decide) (by decide) tw_234 tn_16 (fun r hr => ?_) (fun hx q z => ?_)
  · refine mm_i2l dL_state_8 ?_
    refine mm_last ho rfl (mm_in0 hn) dL_state_9 ?_
    refine mm_goto (tgt := 17) dL_state_10 (by decide) ?_
    refine mm_iconst (v := 0) dL_state_17 (by decide) ?_
    refine mm_widen (ck' := rmL_state.cells) (sk' := rmL_state.slots) (Nat.le_of_ble_eq_true rfl) (Nat.le_of_ble_eq_true rfl) ?_
    exact mm_iret rfl rfl dL_state_18 (Or.inl ⟨r, hr, rfl, rfl⟩)
  · refine mm_astore (L' := [(4, .ref q), (0, .ref p0), (1, .int p1), (2, .int p2), (3, .ref p3)]) dL_state_13 (by decide) rfl ?_
    refine mm_iconst (v := 1) dL_state_15 (by decide) ?_
    refine mm_widen (ck' := rmL_state.cells) (sk' := rmL_state.slots) (Nat.le_of_ble_eq_true rfl) (Nat.le_of_ble_eq_true rfl) ?_
    exact mm_iret rfl rfl dL_state_16 (Or.inr ⟨hx, rfl, z, rfl⟩)
theorem dL_channel_0 : decode cL_channel 0 = .ok (.aload_n 2, 1) := by decide +kernel
theorem dL_channel_1 : decode cL_channel 1 = .ok (.iconst 0, 1) := by decide +kernel
theorem dL_channel_2 : decode cL_channel 2 = .ok (.aload_n 0, 1) := by decide +kernel
theorem dL_channel_3 : decode cL_channel 3 = .ok (.iload_n 1, 1) := by decide +kernel
theorem dL_channel_4 : decode cL_channel 4 = .ok (.invokevirtual 23, 3) := by decide +kernel
theorem dL_channel_7 : decode cL_channel 7 = .ok (.i2l, 1) := by decide +kernel
theorem dL_channel_8 : decode cL_channel 8 = .ok (.lastore, 1) := by decide +kernel
theorem dL_channel_9 : decode cL_channel 9 = .ok (.goto 6, 3) := by decide +kernel
theorem dL_channel_12 : decode cL_channel 12 = .ok (.astore_n 3, 1) := by decide +kernel
theorem dL_channel_13 : decode cL_channel 13 = .ok (.iconst 1, 1) := by decide +kernel
theorem dL_channel_14 : decode cL_channel 14 = .ok (.ireturn, 1) := by decide +kernel
theorem dL_channel_15 : decode cL_channel 15 = .ok (.iconst 0, 1) := by decide +kernel
theorem dL_channel_16 : decode cL_channel 16 = .ok (.ireturn, 1) := by decide +kernel
theorem nmL_channel : mm_nm yL_channel 3 := ⟨by decide, by decide, by decide +kernel⟩
abbrev rmL_channel : Room := { frames := 7, cells := 1, slots := 6, locals := 103 }
set_option maxHeartbeats 4000000 in
set_option maxRecDepth 100000 in
theorem kL_channel {G : mm_G} {A : Nat → Prop} (p0 : Nat) (p1 : Int32) (p2 : Nat) {σ : mm_M} {Rr : Option Int32 × mm_M} {n : Nat} (hf : fX8_channel p0 p1 σ = some Rr) (hs : σ.2.1 p0 = some (.inl 8)) (ho : Rr.2.2.1 p2 = some (.inr (3, n))) (hn : 0 < n) : mm_CW cd_Y G yL_channel cL_channel 4 (some .int) [(0, 9, 12, 13)] rmL_channel A [.ref p0, .int p1, .ref p2] σ (mm_PH Rr p2) := by
  refine mm_CW.of (by decide) (Nat.le_of_ble_eq_true rfl) ?_
  have e0 : lv_args 0 [.ref p0, .int p1, .ref p2] = [(0, .ref p0), (1, .int p1), (2, .ref p2)] := rfl
  rw [e0]
  clear e0
  refine mm_aload_n (j := 2) dL_channel_0 rfl rfl ?_
  refine mm_iconst (v := 0) dL_channel_1 (by decide) ?_
  refine mm_aload_n (j := 0) dL_channel_2 rfl rfl ?_
  refine mm_iload_n (j := 1) dL_channel_3 rfl rfl ?_
  refine mm_callVX cd_ok (kX8_channel p0 p1 hf) hs rfl tw_448 cdX8_channel tw_449 tw_450 nmX8_channel rfl rfl (by simp only [List.map_cons, List.map_nil, mm_rf_cat]; exact Nat.le_of_ble_eq_true rfl) dL_channel_4 ⟨Nat.le_of_ble_eq_true rfl, Nat.le_of_ble_eq_true rfl⟩ ⟨Nat.le_of_ble_eq_true rfl, Nat.le_of_ble_eq_true rfl⟩ rfl (by decide) (by decide) tw_234 tn_16 (fun r hr => ?_) (fun hx q z => ?_)
  · refine mm_i2l dL_channel_7 ?_
    refine mm_last ho rfl (mm_in0 hn) dL_channel_8 ?_
    refine mm_goto (tgt := 15) dL_channel_9 (by decide) ?_
    refine mm_iconst (v := 0) dL_channel_15 (by decide) ?_
    refine mm_widen (ck' := rmL_channel.cells) (sk' := rmL_channel.slots) (Nat.le_of_ble_eq_true rfl) (Nat.le_of_ble_eq_true rfl) ?_
    exact mm_iret rfl rfl dL_channel_16 (Or.inl ⟨r, hr, rfl, rfl⟩)
  · refine mm_astore_n (L' := [(3, .ref q), (0, .ref p0), (1, .int p1), (2, .ref p2)]) dL_channel_12 rfl (by decide) rfl ?_
    refine mm_iconst (v := 1) dL_channel_13 (by decide) ?_
    refine mm_widen (ck' := rmL_channel.cells) (sk' := rmL_channel.slots) (Nat.le_of_ble_eq_true rfl) (Nat.le_of_ble_eq_true rfl) ?_
    exact mm_iret rfl rfl dL_channel_14 (Or.inr ⟨hx, rfl, z, rfl⟩)
theorem dL_feed_0 : decode cL_feed 0 = .ok (.aload 6, 2) := by decide +kernel
theorem dL_feed_2 : decode cL_feed 2 = .ok (.iconst 0, 1) := by decide +kernel
theorem dL_feed_3 : decode cL_feed 3 = .ok (.aload_n 0, 1) := by decide +kernel
theorem dL_feed_4 : decode cL_feed 4 = .ok (.iload_n 1, 1) := by decide +kernel
theorem dL_feed_5 : decode cL_feed 5 = .ok (.iload_n 2, 1) := by decide +kernel
theorem dL_feed_6 : decode cL_feed 6 = .ok (.iload_n 3, 1) := by decide +kernel
theorem dL_feed_7 : decode cL_feed 7 = .ok (.iload 4, 2) := by decide +kernel
theorem dL_feed_9 : decode cL_feed 9 = .ok (.iload 5, 2) := by decide +kernel
theorem dL_feed_11 : decode cL_feed 11 = .ok (.invokevirtual 27, 3) := by decide +kernel
theorem dL_feed_14 : decode cL_feed 14 = .ok (.i2l, 1) := by decide +kernel
theorem dL_feed_15 : decode cL_feed 15 = .ok (.lastore, 1) := by decide +kernel
theorem dL_feed_16 : decode cL_feed 16 = .ok (.goto 7, 3) := by decide +kernel
theorem dL_feed_19 : decode cL_feed 19 = .ok (.astore 7, 2) := by decide +kernel
theorem dL_feed_21 : decode cL_feed 21 = .ok (.iconst 1, 1) := by decide +kernel
theorem dL_feed_22 : decode cL_feed 22 = .ok (.ireturn, 1) := by decide +kernel
theorem dL_feed_23 : decode cL_feed 23 = .ok (.iconst 0, 1) := by decide +kernel
theorem dL_feed_24 : decode cL_feed 24 = .ok (.ireturn, 1) := by decide +kernel
theorem nmL_feed : mm_nm yL_feed 7 := ⟨by decide, by decide, by decide +kernel⟩
abbrev rmL_feed : Room := { frames := 7, cells := 1, slots := 6, locals := 107 }
set_option maxHeartbeats 4000000 in
set_option maxRecDepth 100000 in
theorem kL_feed {G : mm_G} {A : Nat → Prop} (p0 : Nat) (p1 : Int32) (p2 : Int32) (p3 : Int32) (p4 : Int32) (p5 : Int32) (p6 : Nat) {σ : mm_M} {Rr : Option Int32 × mm_M} {n : Nat} (hf : fX8_feed p0 p1 p2 p3 p4 p5 σ = some Rr) (hs : σ.2.1 p0 = some (.inl 8)) (ho : Rr.2.2.1 p6 = some (.inr (3, n))) (hn : 0 < n) : mm_CW cd_Y G yL_feed cL_feed 8 (some .int) [(0, 16, 19, 30)] rmL_feed A [.ref p0, .int p1, .int p2, .int p3, .int p4, .int p5, .ref p6] σ (mm_PH Rr p6) := by
  refine mm_CW.of (by decide) (Nat.le_of_ble_eq_true rfl) ?_
  have e0 : lv_args 0 [.ref p0, .int p1, .int p2, .int p3, .int p4, .int p5, .ref p6] = [(0, .ref p0), (1, .int p1), (2, .int p2), (3, .int p3), (4, .int p4), (5, .int p5), (6, .ref p6)] := rfl
  rw [e0]
  clear e0
  refine mm_aload (j := 6) dL_feed_0 rfl ?_
  refine mm_iconst (v := 0) dL_feed_2 (by decide) ?_
  refine mm_aload_n (j := 0) dL_feed_3 rfl rfl ?_
  refine mm_iload_n (j := 1) dL_feed_4 rfl rfl ?_
  refine mm_iload_n (j := 2) dL_feed_5 rfl rfl ?_
  refine mm_iload_n (j := 3) dL_feed_6 rfl rfl ?_
  refine mm_iload (j := 4) dL_feed_7 rfl ?_
  refine mm_iload (j := 5) dL_feed_9 rfl ?_
  refine mm_callVX cd_ok (kX8_feed p0 p1 p2 p3 p4 p5 hf) hs rfl tw_456 cdX8_feed tw_457 tw_458 nmX8_feed rfl rfl (by simp only [List.map_cons, List.map_nil, mm_rf_cat]; exact Nat.le_of_ble_eq_true rfl) dL_feed_11 ⟨Nat.le_of_ble_eq_true rfl, Nat.le_of_ble_eq_true rfl⟩ ⟨Nat.le_of_ble_eq_true rfl, Nat.le_of_ble_eq_true rfl⟩ rfl (by decide) (by decide) tw_455 tn_25 (fun r hr => ?_) (fun hx q z => ?_)
  · refine mm_i2l dL_feed_14 ?_
    refine mm_last ho rfl (mm_in0 hn) dL_feed_15 ?_
    refine mm_goto (tgt := 23) dL_feed_16 (by decide) ?_
    refine mm_iconst (v := 0) dL_feed_23 (by decide) ?_
    refine mm_widen (ck' := rmL_feed.cells) (sk' := rmL_feed.slots) (Nat.le_of_ble_eq_true rfl) (Nat.le_of_ble_eq_true rfl) ?_
    exact mm_iret rfl rfl dL_feed_24 (Or.inl ⟨r, hr, rfl, rfl⟩)
  · refine mm_astore (L' := [(7, .ref q), (0, .ref p0), (1, .int p1), (2, .int p2), (3, .int p3), (4, .int p4), (5, .int p5), (6, .ref p6)]) dL_feed_19 (by decide) rfl ?_
    refine mm_iconst (v := 1) dL_feed_21 (by decide) ?_
    refine mm_widen (ck' := rmL_feed.cells) (sk' := rmL_feed.slots) (Nat.le_of_ble_eq_true rfl) (Nat.le_of_ble_eq_true rfl) ?_
    exact mm_iret rfl rfl dL_feed_22 (Or.inr ⟨hx, rfl, z, rfl⟩)
theorem dL_packet_0 : decode cL_packet 0 = .ok (.aload_n 1, 1) := by decide +kernel
theorem dL_packet_1 : decode cL_packet 1 = .ok (.iconst 0, 1) := by decide +kernel
theorem dL_packet_2 : decode cL_packet 2 = .ok (.aload_n 0, 1) := by decide +kernel
theorem dL_packet_3 : decode cL_packet 3 = .ok (.invokevirtual 32, 3) := by decide +kernel
theorem dL_packet_6 : decode cL_packet 6 = .ok (.i2l, 1) := by decide +kernel
theorem dL_packet_7 : decode cL_packet 7 = .ok (.lastore, 1) := by decide +kernel
theorem dL_packet_8 : decode cL_packet 8 = .ok (.goto 6, 3) := by decide +kernel
theorem dL_packet_11 : decode cL_packet 11 = .ok (.astore_n 2, 1) := by decide +kernel
theorem dL_packet_12 : decode cL_packet 12 = .ok (.iconst 1, 1) := by decide +kernel
theorem dL_packet_13 : decode cL_packet 13 = .ok (.ireturn, 1) := by decide +kernel
theorem dL_packet_14 : decode cL_packet 14 = .ok (.iconst 0, 1) := by decide +kernel
theorem dL_packet_15 : decode cL_packet 15 = .ok (.ireturn, 1) := by decide +kernel
theorem nmL_packet : mm_nm yL_packet 2 := ⟨by decide, by decide, by decide +kernel⟩
abbrev rmL_packet : Room := { frames := 8, cells := 5, slots := 1054, locals := 179 }
set_option maxHeartbeats 4000000 in
set_option maxRecDepth 100000 in
theorem kL_packet {G : mm_G} {A : Nat → Prop} (p0 : Nat)  (p1 : Nat) {σ : mm_M} {Rr : Option Int32 × mm_M} {n : Nat} (hf : fX8_packet p0 σ = some Rr) (hs : σ.2.1 p0 = some (.inl 8)) (ho : Rr.2.2.1 p1 = some (.inr (3, n))) (hn : 0 < n) : mm_CW cd_Y G yL_packet cL_packet 3 (some .int) [(0, 8, 11, 30)] rmL_packet A [.ref p0, .ref p1] σ (mm_PH Rr p1) := by
  refine mm_CW.of (by decide) (Nat.le_of_ble_eq_true rfl) ?_
  have e0 : lv_args 0 [.ref p0, .ref p1] = [(0, .ref p0), (1, .ref p1)] := rfl
  rw [e0]
  clear e0
  refine mm_aload_n (j := 1) dL_packet_0 rfl rfl ?_
  refine mm_iconst (v := 0) dL_packet_1 (by decide) ?_
  refine mm_aload_n (j := 0) dL_packet_2 rfl rfl ?_
  refine mm_callVX cd_ok (kX8_packet p0 hf) hs rfl tw_483 cdX8_packet tw_484 tw_485 nmX8_packet rfl rfl (by simp only [List.map_cons, List.map_nil, mm_rf_cat]; exact Nat.le_of_ble_eq_true rfl) dL_packet_3 ⟨Nat.le_of_ble_eq_true rfl, Nat.le_of_ble_eq_true rfl⟩ ⟨Nat.le_of_ble_eq_true rfl, Nat.le_of_ble_eq_true rfl⟩ rfl (by decide) (by decide) tw_455 tn_25 (fun r hr => ?_) (fun hx q z => ?_)
  · refine mm_i2l dL_packet_6 ?_
    refine mm_last ho rfl (mm_in0 hn) dL_packet_7 ?_
    refine mm_goto (tgt := 14) dL_packet_8 (by decide) ?_
    refine mm_iconst (v := 0) dL_packet_14 (by decide) ?_
    refine mm_widen (ck' := rmL_packet.cells) (sk' := rmL_packet.slots) (Nat.le_of_ble_eq_true rfl) (Nat.le_of_ble_eq_true rfl) ?_
    exact mm_iret rfl rfl dL_packet_15 (Or.inl ⟨r, hr, rfl, rfl⟩)
  · refine mm_astore_n (L' := [(2, .ref q), (0, .ref p0), (1, .ref p1)]) dL_packet_11 rfl (by decide) rfl ?_
    refine mm_iconst (v := 1) dL_packet_12 (by decide) ?_
    refine mm_widen (ck' := rmL_packet.cells) (sk' := rmL_packet.slots) (Nat.le_of_ble_eq_true rfl) (Nat.le_of_ble_eq_true rfl) ?_
    exact mm_iret rfl rfl dL_packet_13 (Or.inr ⟨hx, rfl, z, rfl⟩)
theorem dL_nothing_0 : decode cL_nothing 0 = .ok (.aload_n 2, 1) := by decide +kernel
theorem dL_nothing_1 : decode cL_nothing 1 = .ok (.iconst 0, 1) := by decide +kernel
theorem dL_nothing_2 : decode cL_nothing 2 = .ok (.aload_n 0, 1) := by decide +kernel
theorem dL_nothing_3 : decode cL_nothing 3 = .ok (.iload_n 1, 1) := by decide +kernel
theorem dL_nothing_4 : decode cL_nothing 4 = .ok (.invokevirtual 36, 3) := by decide +kernel
theorem dL_nothing_7 : decode cL_nothing 7 = .ok (.i2l, 1) := by decide +kernel
theorem dL_nothing_8 : decode cL_nothing 8 = .ok (.lastore, 1) := by decide +kernel
theorem dL_nothing_9 : decode cL_nothing 9 = .ok (.goto 6, 3) := by decide +kernel
theorem dL_nothing_12 : decode cL_nothing 12 = .ok (.astore_n 3, 1) := by decide +kernel
theorem dL_nothing_13 : decode cL_nothing 13 = .ok (.iconst 1, 1) := by decide +kernel
theorem dL_nothing_14 : decode cL_nothing 14 = .ok (.ireturn, 1) := by decide +kernel
theorem dL_nothing_15 : decode cL_nothing 15 = .ok (.iconst 0, 1) := by decide +kernel
theorem dL_nothing_16 : decode cL_nothing 16 = .ok (.ireturn, 1) := by decide +kernel
theorem nmL_nothing : mm_nm yL_nothing 3 := ⟨by decide, by decide, by decide +kernel⟩
abbrev rmL_nothing : Room := { frames := 7, cells := 1, slots := 6, locals := 103 }
set_option maxHeartbeats 4000000 in
set_option maxRecDepth 100000 in
theorem kL_nothing {G : mm_G} {A : Nat → Prop} (p0 : Nat) (p1 : Int32) (p2 : Nat) {σ : mm_M} {Rr : Option Int32 × mm_M} {n : Nat} (hf : fX8_nothing p0 p1 σ = some Rr) (hs : σ.2.1 p0 = some (.inl 8)) (ho : Rr.2.2.1 p2 = some (.inr (3, n))) (hn : 0 < n) : mm_CW cd_Y G yL_nothing cL_nothing 4 (some .int) [(0, 9, 12, 13)] rmL_nothing A [.ref p0, .int p1, .ref p2] σ (mm_PH Rr p2) := by
  refine mm_CW.of (by decide) (Nat.le_of_ble_eq_true rfl) ?_
  have e0 : lv_args 0 [.ref p0, .int p1, .ref p2] = [(0, .ref p0), (1, .int p1), (2, .ref p2)] := rfl
  rw [e0]
  clear e0
  refine mm_aload_n (j := 2) dL_nothing_0 rfl rfl ?_
  refine mm_iconst (v := 0) dL_nothing_1 (by decide) ?_
  refine mm_aload_n (j := 0) dL_nothing_2 rfl rfl ?_
  refine mm_iload_n (j := 1) dL_nothing_3 rfl rfl ?_
  refine mm_callVX cd_ok (kX8_nothing p0 p1 hf) hs rfl tw_625 cdX8_nothing tw_626 tw_627 nmX8_nothing rfl rfl (by simp only [List.map_cons, List.map_nil, mm_rf_cat]; exact Nat.le_of_ble_eq_true rfl) dL_nothing_4 ⟨Nat.le_of_ble_eq_true rfl, Nat.le_of_ble_eq_true rfl⟩ ⟨Nat.le_of_ble_eq_true rfl, Nat.le_of_ble_eq_true rfl⟩ rfl (by decide) (by decide) tw_234 tn_16 (fun r hr => ?_) (fun hx q z => ?_)
  · refine mm_i2l dL_nothing_7 ?_
    refine mm_last ho rfl (mm_in0 hn) dL_nothing_8 ?_
    refine mm_goto (tgt := 15) dL_nothing_9 (by decide) ?_
    refine mm_iconst (v := 0) dL_nothing_15 (by decide) ?_
    refine mm_widen (ck' := rmL_nothing.cells) (sk' := rmL_nothing.slots) (Nat.le_of_ble_eq_true rfl) (Nat.le_of_ble_eq_true rfl) ?_
    exact mm_iret rfl rfl dL_nothing_16 (Or.inl ⟨r, hr, rfl, rfl⟩)
  · refine mm_astore_n (L' := [(3, .ref q), (0, .ref p0), (1, .int p1), (2, .ref p2)]) dL_nothing_12 rfl (by decide) rfl ?_
    refine mm_iconst (v := 1) dL_nothing_13 (by decide) ?_
    refine mm_widen (ck' := rmL_nothing.cells) (sk' := rmL_nothing.slots) (Nat.le_of_ble_eq_true rfl) (Nat.le_of_ble_eq_true rfl) ?_
    exact mm_iret rfl rfl dL_nothing_14 (Or.inr ⟨hx, rfl, z, rfl⟩)
theorem dL_page_0 : decode cL_page 0 = .ok (.aload_n 3, 1) := by decide +kernel
theorem dL_page_1 : decode cL_page 1 = .ok (.iconst 0, 1) := by decide +kernel
theorem dL_page_2 : decode cL_page 2 = .ok (.aload_n 0, 1) := by decide +kernel
theorem dL_page_3 : decode cL_page 3 = .ok (.iload_n 1, 1) := by decide +kernel
theorem dL_page_4 : decode cL_page 4 = .ok (.iload_n 2, 1) := by decide +kernel
theorem dL_page_5 : decode cL_page 5 = .ok (.invokevirtual 39, 3) := by decide +kernel
theorem dL_page_8 : decode cL_page 8 = .ok (.i2l, 1) := by decide +kernel
theorem dL_page_9 : decode cL_page 9 = .ok (.lastore, 1) := by decide +kernel
theorem dL_page_10 : decode cL_page 10 = .ok (.goto 7, 3) := by decide +kernel
theorem dL_page_13 : decode cL_page 13 = .ok (.astore 4, 2) := by decide +kernel
theorem dL_page_15 : decode cL_page 15 = .ok (.iconst 1, 1) := by decide +kernel
theorem dL_page_16 : decode cL_page 16 = .ok (.ireturn, 1) := by decide +kernel
theorem dL_page_17 : decode cL_page 17 = .ok (.iconst 0, 1) := by decide +kernel
theorem dL_page_18 : decode cL_page 18 = .ok (.ireturn, 1) := by decide +kernel
theorem nmL_page : mm_nm yL_page 4 := ⟨by decide, by decide, by decide +kernel⟩
abbrev rmL_page : Room := { frames := 7, cells := 1, slots := 6, locals := 105 }
set_option maxHeartbeats 4000000 in
set_option maxRecDepth 100000 in
theorem kL_page {G : mm_G} {A : Nat → Prop} (p0 : Nat) (p1 : Int32) (p2 : Int32) (p3 : Nat) {σ : mm_M} {Rr : Option Int32 × mm_M} {n : Nat} (hf : fX8_page p0 p1 p2 σ = some Rr) (hs : σ.2.1 p0 = some (.inl 8)) (ho : Rr.2.2.1 p3 = some (.inr (3, n))) (hn : 0 < n) : mm_CW cd_Y G yL_page cL_page 5 (some .int) [(0, 10, 13, 13)] rmL_page A [.ref p0, .int p1, .int p2, .ref p3] σ (mm_PH Rr p3) := by
  refine mm_CW.of (by decide) (Nat.le_of_ble_eq_true rfl) ?_
  have e0 : lv_args 0 [.ref p0, .int p1, .int p2, .ref p3] = [(0, .ref p0), (1, .int p1), (2, .int p2), (3, .ref p3)] := rfl
  rw [e0]
  clear e0
  refine mm_aload_n (j := 3) dL_page_0 rfl rfl ?_
  refine mm_iconst (v := 0) dL_page_1 (by decide) ?_
  refine mm_aload_n (j := 0) dL_page_2 rfl rfl ?_
  refine mm_iload_n (j := 1) dL_page_3 rfl rfl ?_
  refine mm_iload_n (j := 2) dL_page_4 rfl rfl ?_
  refine mm_callVX cd_ok (kX8_page p0 p1 p2 hf) hs rfl tw_633 cdX8_page tw_634 tw_635 nmX8_page rfl rfl (by simp only [List.map_cons, List.map_nil, mm_rf_cat]; exact Nat.le_of_ble_eq_true rfl) dL_page_5 ⟨Nat.le_of_ble_eq_true rfl, Nat.le_of_ble_eq_true rfl⟩ ⟨Nat.le_of_ble_eq_true rfl, Nat.le_of_ble_eq_true rfl⟩ rfl (by decide) (by decide) tw_234 tn_16 (fun r hr => ?_) (fun hx q z => ?_)
  · refine mm_i2l dL_page_8 ?_
    refine mm_last ho rfl (mm_in0 hn) dL_page_9 ?_
    refine mm_goto (tgt := 17) dL_page_10 (by decide) ?_
    refine mm_iconst (v := 0) dL_page_17 (by decide) ?_
    refine mm_widen (ck' := rmL_page.cells) (sk' := rmL_page.slots) (Nat.le_of_ble_eq_true rfl) (Nat.le_of_ble_eq_true rfl) ?_
    exact mm_iret rfl rfl dL_page_18 (Or.inl ⟨r, hr, rfl, rfl⟩)
  · refine mm_astore (L' := [(4, .ref q), (0, .ref p0), (1, .int p1), (2, .int p2), (3, .ref p3)]) dL_page_13 (by decide) rfl ?_
    refine mm_iconst (v := 1) dL_page_15 (by decide) ?_
    refine mm_widen (ck' := rmL_page.cells) (sk' := rmL_page.slots) (Nat.le_of_ble_eq_true rfl) (Nat.le_of_ble_eq_true rfl) ?_
    exact mm_iret rfl rfl dL_page_16 (Or.inr ⟨hx, rfl, z, rfl⟩)
theorem dL_sign_0 : decode cL_sign 0 = .ok (.aload 4, 2) := by decide +kernel
theorem dL_sign_2 : decode cL_sign 2 = .ok (.iconst 0, 1) := by decide +kernel
theorem dL_sign_3 : decode cL_sign 3 = .ok (.aload_n 0, 1) := by decide +kernel
theorem dL_sign_4 : decode cL_sign 4 = .ok (.iload_n 1, 1) := by decide +kernel
theorem dL_sign_5 : decode cL_sign 5 = .ok (.iload_n 2, 1) := by decide +kernel
theorem dL_sign_6 : decode cL_sign 6 = .ok (.iload_n 3, 1) := by decide +kernel
theorem dL_sign_7 : decode cL_sign 7 = .ok (.invokevirtual 42, 3) := by decide +kernel
theorem dL_sign_10 : decode cL_sign 10 = .ok (.i2l, 1) := by decide +kernel
theorem dL_sign_11 : decode cL_sign 11 = .ok (.lastore, 1) := by decide +kernel
theorem dL_sign_12 : decode cL_sign 12 = .ok (.goto 7, 3) := by decide +kernel
theorem dL_sign_15 : decode cL_sign 15 = .ok (.astore 5, 2) := by decide +kernel
theorem dL_sign_17 : decode cL_sign 17 = .ok (.iconst 1, 1) := by decide +kernel
theorem dL_sign_18 : decode cL_sign 18 = .ok (.ireturn, 1) := by decide +kernel
theorem dL_sign_19 : decode cL_sign 19 = .ok (.iconst 0, 1) := by decide +kernel
theorem dL_sign_20 : decode cL_sign 20 = .ok (.ireturn, 1) := by decide +kernel
theorem nmL_sign : mm_nm yL_sign 5 := ⟨by decide, by decide, by decide +kernel⟩
abbrev rmL_sign : Room := { frames := 7, cells := 1, slots := 6, locals := 106 }
set_option maxHeartbeats 4000000 in
set_option maxRecDepth 100000 in
theorem kL_sign {G : mm_G} {A : Nat → Prop} (p0 : Nat) (p1 : Int32) (p2 : Int32) (p3 : Int32) (p4 : Nat) {σ : mm_M} {Rr : Option Int32 × mm_M} {n : Nat} (hf : fX8_sign p0 p1 p2 p3 σ = some Rr) (hs : σ.2.1 p0 = some (.inl 8)) (ho : Rr.2.2.1 p4 = some (.inr (3, n))) (hn : 0 < n) : mm_CW cd_Y G yL_sign cL_sign 6 (some .int) [(0, 12, 15, 13)] rmL_sign A [.ref p0, .int p1, .int p2, .int p3, .ref p4] σ (mm_PH Rr p4) := by
  refine mm_CW.of (by decide) (Nat.le_of_ble_eq_true rfl) ?_
  have e0 : lv_args 0 [.ref p0, .int p1, .int p2, .int p3, .ref p4] = [(0, .ref p0), (1, .int p1), (2, .int p2), (3, .int p3), (4, .ref p4)] := rfl
  rw [e0]
  clear e0
  refine mm_aload (j := 4) dL_sign_0 rfl ?_
  refine mm_iconst (v := 0) dL_sign_2 (by decide) ?_
  refine mm_aload_n (j := 0) dL_sign_3 rfl rfl ?_
  refine mm_iload_n (j := 1) dL_sign_4 rfl rfl ?_
  refine mm_iload_n (j := 2) dL_sign_5 rfl rfl ?_
  refine mm_iload_n (j := 3) dL_sign_6 rfl rfl ?_
  refine mm_callVX cd_ok (kX8_sign p0 p1 p2 p3 hf) hs rfl tw_641 cdX8_sign tw_642 tw_643 nmX8_sign rfl rfl (by simp only [List.map_cons, List.map_nil, mm_rf_cat]; exact Nat.le_of_ble_eq_true rfl) dL_sign_7 ⟨Nat.le_of_ble_eq_true rfl, Nat.le_of_ble_eq_true rfl⟩ ⟨Nat.le_of_ble_eq_true rfl, Nat.le_of_ble_eq_true rfl⟩ rfl (by decide) (by decide) tw_234 tn_16 (fun r hr => ?_) (fun hx q z => ?_)
  · refine mm_i2l dL_sign_10 ?_
    refine mm_last ho rfl (mm_in0 hn) dL_sign_11 ?_
    refine mm_goto (tgt := 19) dL_sign_12 (by decide) ?_
    refine mm_iconst (v := 0) dL_sign_19 (by decide) ?_
    refine mm_widen (ck' := rmL_sign.cells) (sk' := rmL_sign.slots) (Nat.le_of_ble_eq_true rfl) (Nat.le_of_ble_eq_true rfl) ?_
    exact mm_iret rfl rfl dL_sign_20 (Or.inl ⟨r, hr, rfl, rfl⟩)
  · refine mm_astore (L' := [(5, .ref q), (0, .ref p0), (1, .int p1), (2, .int p2), (3, .int p3), (4, .ref p4)]) dL_sign_15 (by decide) rfl ?_
    refine mm_iconst (v := 1) dL_sign_17 (by decide) ?_
    refine mm_widen (ck' := rmL_sign.cells) (sk' := rmL_sign.slots) (Nat.le_of_ble_eq_true rfl) (Nat.le_of_ble_eq_true rfl) ?_
    exact mm_iret rfl rfl dL_sign_18 (Or.inr ⟨hx, rfl, z, rfl⟩)
theorem dL_link_0 : decode cL_link 0 = .ok (.aload 4, 2) := by decide +kernel
theorem dL_link_2 : decode cL_link 2 = .ok (.iconst 0, 1) := by decide +kernel
theorem dL_link_3 : decode cL_link 3 = .ok (.aload_n 0, 1) := by decide +kernel
theorem dL_link_4 : decode cL_link 4 = .ok (.iload_n 1, 1) := by decide +kernel
theorem dL_link_5 : decode cL_link 5 = .ok (.iload_n 2, 1) := by decide +kernel
theorem dL_link_6 : decode cL_link 6 = .ok (.iload_n 3, 1) := by decide +kernel
theorem dL_link_7 : decode cL_link 7 = .ok (.invokevirtual 45, 3) := by decide +kernel
theorem dL_link_10 : decode cL_link 10 = .ok (.i2l, 1) := by decide +kernel
theorem dL_link_11 : decode cL_link 11 = .ok (.lastore, 1) := by decide +kernel
theorem dL_link_12 : decode cL_link 12 = .ok (.goto 7, 3) := by decide +kernel
theorem dL_link_15 : decode cL_link 15 = .ok (.astore 5, 2) := by decide +kernel
theorem dL_link_17 : decode cL_link 17 = .ok (.iconst 1, 1) := by decide +kernel
theorem dL_link_18 : decode cL_link 18 = .ok (.ireturn, 1) := by decide +kernel
theorem dL_link_19 : decode cL_link 19 = .ok (.iconst 0, 1) := by decide +kernel
theorem dL_link_20 : decode cL_link 20 = .ok (.ireturn, 1) := by decide +kernel
theorem nmL_link : mm_nm yL_link 5 := ⟨by decide, by decide, by decide +kernel⟩
abbrev rmL_link : Room := { frames := 7, cells := 1, slots := 6, locals := 106 }
set_option maxHeartbeats 4000000 in
set_option maxRecDepth 100000 in
theorem kL_link {G : mm_G} {A : Nat → Prop} (p0 : Nat) (p1 : Int32) (p2 : Int32) (p3 : Int32) (p4 : Nat) {σ : mm_M} {Rr : Option Int32 × mm_M} {n : Nat} (hf : fX8_link p0 p1 p2 p3 σ = some Rr) (hs : σ.2.1 p0 = some (.inl 8)) (ho : Rr.2.2.1 p4 = some (.inr (3, n))) (hn : 0 < n) : mm_CW cd_Y G yL_link cL_link 6 (some .int) [(0, 12, 15, 13)] rmL_link A [.ref p0, .int p1, .int p2, .int p3, .ref p4] σ (mm_PH Rr p4) := by
  refine mm_CW.of (by decide) (Nat.le_of_ble_eq_true rfl) ?_
  have e0 : lv_args 0 [.ref p0, .int p1, .int p2, .int p3, .ref p4] = [(0, .ref p0), (1, .int p1), (2, .int p2), (3, .int p3), (4, .ref p4)] := rfl
  rw [e0]
  clear e0
  refine mm_aload (j := 4) dL_link_0 rfl ?_
  refine mm_iconst (v := 0) dL_link_2 (by decide) ?_
  refine mm_aload_n (j := 0) dL_link_3 rfl rfl ?_
  refine mm_iload_n (j := 1) dL_link_4 rfl rfl ?_
  refine mm_iload_n (j := 2) dL_link_5 rfl rfl ?_
  refine mm_iload_n (j := 3) dL_link_6 rfl rfl ?_
  refine mm_callVX cd_ok (kX8_link p0 p1 p2 p3 hf) hs rfl tw_653 cdX8_link tw_654 tw_655 nmX8_link rfl rfl (by simp only [List.map_cons, List.map_nil, mm_rf_cat]; exact Nat.le_of_ble_eq_true rfl) dL_link_7 ⟨Nat.le_of_ble_eq_true rfl, Nat.le_of_ble_eq_true rfl⟩ ⟨Nat.le_of_ble_eq_true rfl, Nat.le_of_ble_eq_true rfl⟩ rfl (by decide) (by decide) tw_234 tn_16 (fun r hr => ?_) (fun hx q z => ?_)
  · refine mm_i2l dL_link_10 ?_
    refine mm_last ho rfl (mm_in0 hn) dL_link_11 ?_
    refine mm_goto (tgt := 19) dL_link_12 (by decide) ?_
    refine mm_iconst (v := 0) dL_link_19 (by decide) ?_
    refine mm_widen (ck' := rmL_link.cells) (sk' := rmL_link.slots) (Nat.le_of_ble_eq_true rfl) (Nat.le_of_ble_eq_true rfl) ?_
    exact mm_iret rfl rfl dL_link_20 (Or.inl ⟨r, hr, rfl, rfl⟩)
  · refine mm_astore (L' := [(5, .ref q), (0, .ref p0), (1, .int p1), (2, .int p2), (3, .int p3), (4, .ref p4)]) dL_link_15 (by decide) rfl ?_
    refine mm_iconst (v := 1) dL_link_17 (by decide) ?_
    refine mm_widen (ck' := rmL_link.cells) (sk' := rmL_link.slots) (Nat.le_of_ble_eq_true rfl) (Nat.le_of_ble_eq_true rfl) ?_
    exact mm_iret rfl rfl dL_link_18 (Or.inr ⟨hx, rfl, z, rfl⟩)
theorem dL_open_0 : decode cL_open 0 = .ok (.aload_n 2, 1) := by decide +kernel
theorem dL_open_1 : decode cL_open 1 = .ok (.iconst 0, 1) := by decide +kernel
theorem dL_open_2 : decode cL_open 2 = .ok (.aload_n 0, 1) := by decide +kernel
theorem dL_open_3 : decode cL_open 3 = .ok (.iload_n 1, 1) := by decide +kernel
theorem dL_open_4 : decode cL_open 4 = .ok (.invokevirtual 48, 3) := by decide +kernel
theorem dL_open_7 : decode cL_open 7 = .ok (.i2l, 1) := by decide +kernel
theorem dL_open_8 : decode cL_open 8 = .ok (.lastore, 1) := by decide +kernel
theorem dL_open_9 : decode cL_open 9 = .ok (.goto 6, 3) := by decide +kernel
theorem dL_open_12 : decode cL_open 12 = .ok (.astore_n 3, 1) := by decide +kernel
theorem dL_open_13 : decode cL_open 13 = .ok (.iconst 1, 1) := by decide +kernel
theorem dL_open_14 : decode cL_open 14 = .ok (.ireturn, 1) := by decide +kernel
theorem dL_open_15 : decode cL_open 15 = .ok (.iconst 0, 1) := by decide +kernel
theorem dL_open_16 : decode cL_open 16 = .ok (.ireturn, 1) := by decide +kernel
theorem nmL_open : mm_nm yL_open 3 := ⟨by decide, by decide, by decide +kernel⟩
abbrev rmL_open : Room := { frames := 7, cells := 1, slots := 6, locals := 103 }
set_option maxHeartbeats 4000000 in
set_option maxRecDepth 100000 in
theorem kL_open {G : mm_G} {A : Nat → Prop} (p0 : Nat) (p1 : Int32) (p2 : Nat) {σ : mm_M} {Rr : Option Int32 × mm_M} {n : Nat} (hf : fX8_open p0 p1 σ = some Rr) (hs : σ.2.1 p0 = some (.inl 8)) (ho : Rr.2.2.1 p2 = some (.inr (3, n))) (hn : 0 < n) : mm_CW cd_Y G yL_open cL_open 4 (some .int) [(0, 9, 12, 13)] rmL_open A [.ref p0, .int p1, .ref p2] σ (mm_PH Rr p2) := by
  refine mm_CW.of (by decide) (Nat.le_of_ble_eq_true rfl) ?_
  have e0 : lv_args 0 [.ref p0, .int p1, .ref p2] = [(0, .ref p0), (1, .int p1), (2, .ref p2)] := rfl
  rw [e0]
  clear e0
  refine mm_aload_n (j := 2) dL_open_0 rfl rfl ?_
  refine mm_iconst (v := 0) dL_open_1 (by decide) ?_
  refine mm_aload_n (j := 0) dL_open_2 rfl rfl ?_
  refine mm_iload_n (j := 1) dL_open_3 rfl rfl ?_
  refine mm_callVX cd_ok (kX8_open p0 p1 hf) hs rfl tw_661 cdX8_open tw_662 tw_663 nmX8_open rfl rfl (by simp only [List.map_cons, List.map_nil, mm_rf_cat]; exact Nat.le_of_ble_eq_true rfl) dL_open_4 ⟨Nat.le_of_ble_eq_true rfl, Nat.le_of_ble_eq_true rfl⟩ ⟨Nat.le_of_ble_eq_true rfl, Nat.le_of_ble_eq_true rfl⟩ rfl (by decide) (by decide) tw_234 tn_16 (fun r hr => ?_) (fun hx q z => ?_)
  · refine mm_i2l dL_open_7 ?_
    refine mm_last ho rfl (mm_in0 hn) dL_open_8 ?_
    refine mm_goto (tgt := 15) dL_open_9 (by decide) ?_
    refine mm_iconst (v := 0) dL_open_15 (by decide) ?_
    refine mm_widen (ck' := rmL_open.cells) (sk' := rmL_open.slots) (Nat.le_of_ble_eq_true rfl) (Nat.le_of_ble_eq_true rfl) ?_
    exact mm_iret rfl rfl dL_open_16 (Or.inl ⟨r, hr, rfl, rfl⟩)
  · refine mm_astore_n (L' := [(3, .ref q), (0, .ref p0), (1, .int p1), (2, .ref p2)]) dL_open_12 rfl (by decide) rfl ?_
    refine mm_iconst (v := 1) dL_open_13 (by decide) ?_
    refine mm_widen (ck' := rmL_open.cells) (sk' := rmL_open.slots) (Nat.le_of_ble_eq_true rfl) (Nat.le_of_ble_eq_true rfl) ?_
    exact mm_iret rfl rfl dL_open_14 (Or.inr ⟨hx, rfl, z, rfl⟩)
theorem dL_watch_0 : decode cL_watch 0 = .ok (.aload_n 3, 1) := by decide +kernel
theorem dL_watch_1 : decode cL_watch 1 = .ok (.iconst 0, 1) := by decide +kernel
theorem dL_watch_2 : decode cL_watch 2 = .ok (.aload_n 0, 1) := by decide +kernel
theorem dL_watch_3 : decode cL_watch 3 = .ok (.iload_n 1, 1) := by decide +kernel
theorem dL_watch_4 : decode cL_watch 4 = .ok (.iload_n 2, 1) := by decide +kernel
theorem dL_watch_5 : decode cL_watch 5 = .ok (.invokevirtual 51, 3) := by decide +kernel
theorem dL_watch_8 : decode cL_watch 8 = .ok (.i2l, 1) := by decide +kernel
theorem dL_watch_9 : decode cL_watch 9 = .ok (.lastore, 1) := by decide +kernel
theorem dL_watch_10 : decode cL_watch 10 = .ok (.goto 7, 3) := by decide +kernel
theorem dL_watch_13 : decode cL_watch 13 = .ok (.astore 4, 2) := by decide +kernel
theorem dL_watch_15 : decode cL_watch 15 = .ok (.iconst 1, 1) := by decide +kernel
theorem dL_watch_16 : decode cL_watch 16 = .ok (.ireturn, 1) := by decide +kernel
theorem dL_watch_17 : decode cL_watch 17 = .ok (.iconst 0, 1) := by decide +kernel
theorem dL_watch_18 : decode cL_watch 18 = .ok (.ireturn, 1) := by decide +kernel
theorem nmL_watch : mm_nm yL_watch 4 := ⟨by decide, by decide, by decide +kernel⟩
abbrev rmL_watch : Room := { frames := 7, cells := 1, slots := 6, locals := 104 }
set_option maxHeartbeats 4000000 in
set_option maxRecDepth 100000 in
theorem kL_watch {G : mm_G} {A : Nat → Prop} (p0 : Nat) (p1 : Int32) (p2 : Int32) (p3 : Nat) {σ : mm_M} {Rr : Option Int32 × mm_M} {n : Nat} (hf : fX8_watch p0 p1 p2 σ = some Rr) (hs : σ.2.1 p0 = some (.inl 8)) (ho : Rr.2.2.1 p3 = some (.inr (3, n))) (hn : 0 < n) : mm_CW cd_Y G yL_watch cL_watch 5 (some .int) [(0, 10, 13, 54)] rmL_watch A [.ref p0, .int p1, .int p2, .ref p3] σ (mm_PH Rr p3) := by
  refine mm_CW.of (by decide) (Nat.le_of_ble_eq_true rfl) ?_
  have e0 : lv_args 0 [.ref p0, .int p1, .int p2, .ref p3] = [(0, .ref p0), (1, .int p1), (2, .int p2), (3, .ref p3)] := rfl
  rw [e0]
  clear e0
  refine mm_aload_n (j := 3) dL_watch_0 rfl rfl ?_
  refine mm_iconst (v := 0) dL_watch_1 (by decide) ?_
  refine mm_aload_n (j := 0) dL_watch_2 rfl rfl ?_
  refine mm_iload_n (j := 1) dL_watch_3 rfl rfl ?_
  refine mm_iload_n (j := 2) dL_watch_4 rfl rfl ?_
  refine mm_callVX cd_ok (kX8_watch p0 p1 p2 hf) hs rfl tw_670 cdX8_watch tw_671 tw_672 nmX8_watch rfl rfl (by simp only [List.map_cons, List.map_nil, mm_rf_cat]; exact Nat.le_of_ble_eq_true rfl) dL_watch_5 ⟨Nat.le_of_ble_eq_true rfl, Nat.le_of_ble_eq_true rfl⟩ ⟨Nat.le_of_ble_eq_true rfl, Nat.le_of_ble_eq_true rfl⟩ rfl (by decide) (by decide) tw_669 tn_42 (fun r hr => ?_) (fun hx q z => ?_)
  · refine mm_i2l dL_watch_8 ?_
    refine mm_last ho rfl (mm_in0 hn) dL_watch_9 ?_
    refine mm_goto (tgt := 17) dL_watch_10 (by decide) ?_
    refine mm_iconst (v := 0) dL_watch_17 (by decide) ?_
    refine mm_widen (ck' := rmL_watch.cells) (sk' := rmL_watch.slots) (Nat.le_of_ble_eq_true rfl) (Nat.le_of_ble_eq_true rfl) ?_
    exact mm_iret rfl rfl dL_watch_18 (Or.inl ⟨r, hr, rfl, rfl⟩)
  · refine mm_astore (L' := [(4, .ref q), (0, .ref p0), (1, .int p1), (2, .int p2), (3, .ref p3)]) dL_watch_13 (by decide) rfl ?_
    refine mm_iconst (v := 1) dL_watch_15 (by decide) ?_
    refine mm_widen (ck' := rmL_watch.cells) (sk' := rmL_watch.slots) (Nat.le_of_ble_eq_true rfl) (Nat.le_of_ble_eq_true rfl) ?_
    exact mm_iret rfl rfl dL_watch_16 (Or.inr ⟨hx, rfl, z, rfl⟩)
theorem dL_tick_0 : decode cL_tick 0 = .ok (.aload_n 2, 1) := by decide +kernel
theorem dL_tick_1 : decode cL_tick 1 = .ok (.iconst 0, 1) := by decide +kernel
theorem dL_tick_2 : decode cL_tick 2 = .ok (.aload_n 0, 1) := by decide +kernel
theorem dL_tick_3 : decode cL_tick 3 = .ok (.iload_n 1, 1) := by decide +kernel
theorem dL_tick_4 : decode cL_tick 4 = .ok (.invokevirtual 56, 3) := by decide +kernel
theorem dL_tick_7 : decode cL_tick 7 = .ok (.i2l, 1) := by decide +kernel
theorem dL_tick_8 : decode cL_tick 8 = .ok (.lastore, 1) := by decide +kernel
theorem dL_tick_9 : decode cL_tick 9 = .ok (.goto 6, 3) := by decide +kernel
theorem dL_tick_12 : decode cL_tick 12 = .ok (.astore_n 3, 1) := by decide +kernel
theorem dL_tick_13 : decode cL_tick 13 = .ok (.iconst 1, 1) := by decide +kernel
theorem dL_tick_14 : decode cL_tick 14 = .ok (.ireturn, 1) := by decide +kernel
theorem dL_tick_15 : decode cL_tick 15 = .ok (.iconst 0, 1) := by decide +kernel
theorem dL_tick_16 : decode cL_tick 16 = .ok (.ireturn, 1) := by decide +kernel
theorem nmL_tick : mm_nm yL_tick 3 := ⟨by decide, by decide, by decide +kernel⟩
abbrev rmL_tick : Room := { frames := 7, cells := 10, slots := 2020, locals := 133 }
set_option maxHeartbeats 4000000 in
set_option maxRecDepth 100000 in
theorem kL_tick {G : mm_G} {A : Nat → Prop} (p0 : Nat) (p1 : Int32) (p2 : Nat) {σ : mm_M} {Rr : Option Int32 × mm_M} {n : Nat} (hf : fX8_tick p0 p1 σ = some Rr) (hs : σ.2.1 p0 = some (.inl 8)) (ho : Rr.2.2.1 p2 = some (.inr (3, n))) (hn : 0 < n) : mm_CW cd_Y G yL_tick cL_tick 4 (some .int) [(0, 9, 12, 54)] rmL_tick A [.ref p0, .int p1, .ref p2] σ (mm_PH Rr p2) := by
  refine mm_CW.of (by decide) (Nat.le_of_ble_eq_true rfl) ?_
  have e0 : lv_args 0 [.ref p0, .int p1, .ref p2] = [(0, .ref p0), (1, .int p1), (2, .ref p2)] := rfl
  rw [e0]
  clear e0
  refine mm_aload_n (j := 2) dL_tick_0 rfl rfl ?_
  refine mm_iconst (v := 0) dL_tick_1 (by decide) ?_
  refine mm_aload_n (j := 0) dL_tick_2 rfl rfl ?_
  refine mm_iload_n (j := 1) dL_tick_3 rfl rfl ?_
  refine mm_callVX cd_ok (kX8_tick p0 p1 hf) hs rfl tw_698 cdX8_tick tw_699 tw_700 nmX8_tick rfl rfl (by simp only [List.map_cons, List.map_nil, mm_rf_cat]; exact Nat.le_of_ble_eq_true rfl) dL_tick_4 ⟨Nat.le_of_ble_eq_true rfl, Nat.le_of_ble_eq_true rfl⟩ ⟨Nat.le_of_ble_eq_true rfl, Nat.le_of_ble_eq_true rfl⟩ rfl (by decide) (by decide) tw_669 tn_42 (fun r hr => ?_) (fun hx q z => ?_)
  · refine mm_i2l dL_tick_7 ?_
    refine mm_last ho rfl (mm_in0 hn) dL_tick_8 ?_
    refine mm_goto (tgt := 15) dL_tick_9 (by decide) ?_
    refine mm_iconst (v := 0) dL_tick_15 (by decide) ?_
    refine mm_widen (ck' := rmL_tick.cells) (sk' := rmL_tick.slots) (Nat.le_of_ble_eq_true rfl) (Nat.le_of_ble_eq_true rfl) ?_
    exact mm_iret rfl rfl dL_tick_16 (Or.inl ⟨r, hr, rfl, rfl⟩)
  · refine mm_astore_n (L' := [(3, .ref q), (0, .ref p0), (1, .int p1), (2, .ref p2)]) dL_tick_12 rfl (by decide) rfl ?_
    refine mm_iconst (v := 1) dL_tick_13 (by decide) ?_
    refine mm_widen (ck' := rmL_tick.cells) (sk' := rmL_tick.slots) (Nat.le_of_ble_eq_true rfl) (Nat.le_of_ble_eq_true rfl) ?_
    exact mm_iret rfl rfl dL_tick_14 (Or.inr ⟨hx, rfl, z, rfl⟩)
theorem dL_cue_0 : decode cL_cue 0 = .ok (.aload_n 3, 1) := by decide +kernel
theorem dL_cue_1 : decode cL_cue 1 = .ok (.iconst 0, 1) := by decide +kernel
theorem dL_cue_2 : decode cL_cue 2 = .ok (.aload_n 0, 1) := by decide +kernel
theorem dL_cue_3 : decode cL_cue 3 = .ok (.iload_n 1, 1) := by decide +kernel
theorem dL_cue_4 : decode cL_cue 4 = .ok (.iload_n 2, 1) := by decide +kernel
theorem dL_cue_5 : decode cL_cue 5 = .ok (.invokevirtual 59, 3) := by decide +kernel
theorem dL_cue_8 : decode cL_cue 8 = .ok (.i2l, 1) := by decide +kernel
theorem dL_cue_9 : decode cL_cue 9 = .ok (.lastore, 1) := by decide +kernel
theorem dL_cue_10 : decode cL_cue 10 = .ok (.goto 7, 3) := by decide +kernel
theorem dL_cue_13 : decode cL_cue 13 = .ok (.astore 4, 2) := by decide +kernel
theorem dL_cue_15 : decode cL_cue 15 = .ok (.iconst 1, 1) := by decide +kernel
theorem dL_cue_16 : decode cL_cue 16 = .ok (.ireturn, 1) := by decide +kernel
theorem dL_cue_17 : decode cL_cue 17 = .ok (.iconst 0, 1) := by decide +kernel
theorem dL_cue_18 : decode cL_cue 18 = .ok (.ireturn, 1) := by decide +kernel
theorem nmL_cue : mm_nm yL_cue 4 := ⟨by decide, by decide, by decide +kernel⟩
abbrev rmL_cue : Room := { frames := 7, cells := 1, slots := 6, locals := 105 }
set_option maxHeartbeats 4000000 in
set_option maxRecDepth 100000 in
theorem kL_cue {G : mm_G} {A : Nat → Prop} (p0 : Nat) (p1 : Int32) (p2 : Int32) (p3 : Nat) {σ : mm_M} {Rr : Option Int32 × mm_M} {n : Nat} (hf : fX8_cue p0 p1 p2 σ = some Rr) (hs : σ.2.1 p0 = some (.inl 8)) (ho : Rr.2.2.1 p3 = some (.inr (3, n))) (hn : 0 < n) : mm_CW cd_Y G yL_cue cL_cue 5 (some .int) [(0, 10, 13, 13)] rmL_cue A [.ref p0, .int p1, .int p2, .ref p3] σ (mm_PH Rr p3) := by
  refine mm_CW.of (by decide) (Nat.le_of_ble_eq_true rfl) ?_
  have e0 : lv_args 0 [.ref p0, .int p1, .int p2, .ref p3] = [(0, .ref p0), (1, .int p1), (2, .int p2), (3, .ref p3)] := rfl
  rw [e0]
  clear e0
  refine mm_aload_n (j := 3) dL_cue_0 rfl rfl ?_
  refine mm_iconst (v := 0) dL_cue_1 (by decide) ?_
  refine mm_aload_n (j := 0) dL_cue_2 rfl rfl ?_
  refine mm_iload_n (j := 1) dL_cue_3 rfl rfl ?_
  refine mm_iload_n (j := 2) dL_cue_4 rfl rfl ?_
  refine mm_callVX cd_ok (kX8_cue p0 p1 p2 hf) hs rfl tw_775 cdX8_cue tw_776 tw_777 nmX8_cue rfl rfl (by simp only [List.map_cons, List.map_nil, mm_rf_cat]; exact Nat.le_of_ble_eq_true rfl) dL_cue_5 ⟨Nat.le_of_ble_eq_true rfl, Nat.le_of_ble_eq_true rfl⟩ ⟨Nat.le_of_ble_eq_true rfl, Nat.le_of_ble_eq_true rfl⟩ rfl (by decide) (by decide) tw_234 tn_16 (fun r hr => ?_) (fun hx q z => ?_)
  · refine mm_i2l dL_cue_8 ?_
    refine mm_last ho rfl (mm_in0 hn) dL_cue_9 ?_
    refine mm_goto (tgt := 17) dL_cue_10 (by decide) ?_
    refine mm_iconst (v := 0) dL_cue_17 (by decide) ?_
    refine mm_widen (ck' := rmL_cue.cells) (sk' := rmL_cue.slots) (Nat.le_of_ble_eq_true rfl) (Nat.le_of_ble_eq_true rfl) ?_
    exact mm_iret rfl rfl dL_cue_18 (Or.inl ⟨r, hr, rfl, rfl⟩)
  · refine mm_astore (L' := [(4, .ref q), (0, .ref p0), (1, .int p1), (2, .int p2), (3, .ref p3)]) dL_cue_13 (by decide) rfl ?_
    refine mm_iconst (v := 1) dL_cue_15 (by decide) ?_
    refine mm_widen (ck' := rmL_cue.cells) (sk' := rmL_cue.slots) (Nat.le_of_ble_eq_true rfl) (Nat.le_of_ble_eq_true rfl) ?_
    exact mm_iret rfl rfl dL_cue_16 (Or.inr ⟨hx, rfl, z, rfl⟩)
theorem dL_line_0 : decode cL_line 0 = .ok (.aload_n 3, 1) := by decide +kernel
theorem dL_line_1 : decode cL_line 1 = .ok (.iconst 0, 1) := by decide +kernel
theorem dL_line_2 : decode cL_line 2 = .ok (.aload_n 0, 1) := by decide +kernel
theorem dL_line_3 : decode cL_line 3 = .ok (.iload_n 1, 1) := by decide +kernel
theorem dL_line_4 : decode cL_line 4 = .ok (.iload_n 2, 1) := by decide +kernel
theorem dL_line_5 : decode cL_line 5 = .ok (.invokevirtual 62, 3) := by decide +kernel
theorem dL_line_8 : decode cL_line 8 = .ok (.i2l, 1) := by decide +kernel
theorem dL_line_9 : decode cL_line 9 = .ok (.lastore, 1) := by decide +kernel
theorem dL_line_10 : decode cL_line 10 = .ok (.goto 7, 3) := by decide +kernel
theorem dL_line_13 : decode cL_line 13 = .ok (.astore 4, 2) := by decide +kernel
theorem dL_line_15 : decode cL_line 15 = .ok (.iconst 1, 1) := by decide +kernel
theorem dL_line_16 : decode cL_line 16 = .ok (.ireturn, 1) := by decide +kernel
theorem dL_line_17 : decode cL_line 17 = .ok (.iconst 0, 1) := by decide +kernel
theorem dL_line_18 : decode cL_line 18 = .ok (.ireturn, 1) := by decide +kernel
theorem nmL_line : mm_nm yL_line 4 := ⟨by decide, by decide, by decide +kernel⟩
abbrev rmL_line : Room := { frames := 7, cells := 1, slots := 6, locals := 105 }
set_option maxHeartbeats 4000000 in
set_option maxRecDepth 100000 in
theorem kL_line {G : mm_G} {A : Nat → Prop} (p0 : Nat) (p1 : Int32) (p2 : Int32) (p3 : Nat) {σ : mm_M} {Rr : Option Int32 × mm_M} {n : Nat} (hf : fX8_line p0 p1 p2 σ = some Rr) (hs : σ.2.1 p0 = some (.inl 8)) (ho : Rr.2.2.1 p3 = some (.inr (3, n))) (hn : 0 < n) : mm_CW cd_Y G yL_line cL_line 5 (some .int) [(0, 10, 13, 13)] rmL_line A [.ref p0, .int p1, .int p2, .ref p3] σ (mm_PH Rr p3) := by
  refine mm_CW.of (by decide) (Nat.le_of_ble_eq_true rfl) ?_
  have e0 : lv_args 0 [.ref p0, .int p1, .int p2, .ref p3] = [(0, .ref p0), (1, .int p1), (2, .int p2), (3, .ref p3)] := rfl
  rw [e0]
  clear e0
  refine mm_aload_n (j := 3) dL_line_0 rfl rfl ?_
  refine mm_iconst (v := 0) dL_line_1 (by decide) ?_
  refine mm_aload_n (j := 0) dL_line_2 rfl rfl ?_
  refine mm_iload_n (j := 1) dL_line_3 rfl rfl ?_
  refine mm_iload_n (j := 2) dL_line_4 rfl rfl ?_
  refine mm_callVX cd_ok (kX8_line p0 p1 p2 hf) hs rfl tw_783 cdX8_line tw_784 tw_785 nmX8_line rfl rfl (by simp only [List.map_cons, List.map_nil, mm_rf_cat]; exact Nat.le_of_ble_eq_true rfl) dL_line_5 ⟨Nat.le_of_ble_eq_true rfl, Nat.le_of_ble_eq_true rfl⟩ ⟨Nat.le_of_ble_eq_true rfl, Nat.le_of_ble_eq_true rfl⟩ rfl (by decide) (by decide) tw_234 tn_16 (fun r hr => ?_) (fun hx q z => ?_)
  · refine mm_i2l dL_line_8 ?_
    refine mm_last ho rfl (mm_in0 hn) dL_line_9 ?_
    refine mm_goto (tgt := 17) dL_line_10 (by decide) ?_
    refine mm_iconst (v := 0) dL_line_17 (by decide) ?_
    refine mm_widen (ck' := rmL_line.cells) (sk' := rmL_line.slots) (Nat.le_of_ble_eq_true rfl) (Nat.le_of_ble_eq_true rfl) ?_
    exact mm_iret rfl rfl dL_line_18 (Or.inl ⟨r, hr, rfl, rfl⟩)
  · refine mm_astore (L' := [(4, .ref q), (0, .ref p0), (1, .int p1), (2, .int p2), (3, .ref p3)]) dL_line_13 (by decide) rfl ?_
    refine mm_iconst (v := 1) dL_line_15 (by decide) ?_
    refine mm_widen (ck' := rmL_line.cells) (sk' := rmL_line.slots) (Nat.le_of_ble_eq_true rfl) (Nat.le_of_ble_eq_true rfl) ?_
    exact mm_iret rfl rfl dL_line_16 (Or.inr ⟨hx, rfl, z, rfl⟩)
