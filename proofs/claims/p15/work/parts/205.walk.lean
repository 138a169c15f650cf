theorem dX0_put_0 : decode cX0_put 0 = .ok (.aload_n 0, 1) := by decide +kernel
theorem dX0_put_1 : decode cX0_put 1 = .ok (.invokevirtual 37, 3) := by decide +kernel
theorem dX0_put_4 : decode cX0_put 4 = .ok (.astore_n 2, 1) := by decide +kernel
theorem dX0_put_5 : decode cX0_put 5 = .ok (.aload_n 2, 1) := by decide +kernel
theorem dX0_put_6 : decode cX0_put 6 = .ok (.ifnonnull 4, 3) := by decide +kernel
theorem dX0_put_9 : decode cX0_put 9 = .ok (.return_, 1) := by decide +kernel
theorem dX0_put_10 : decode cX0_put 10 = .ok (.aload_n 2, 1) := by decide +kernel
theorem dX0_put_11 : decode cX0_put 11 = .ok (.aload_n 0, 1) := by decide +kernel
theorem dX0_put_12 : decode cX0_put 12 = .ok (.getfield 25, 3) := by decide +kernel
theorem dX0_put_15 : decode cX0_put 15 = .ok (.aload_n 0, 1) := by decide +kernel
theorem dX0_put_16 : decode cX0_put 16 = .ok (.getfield 28, 3) := by decide +kernel
theorem dX0_put_19 : decode cX0_put 19 = .ok (.bipush 31, 2) := by decide +kernel
theorem dX0_put_21 : decode cX0_put 21 = .ok (.invokestatic 41, 3) := by decide +kernel
theorem dX0_put_24 : decode cX0_put 24 = .ok (.iload_n 1, 1) := by decide +kernel
theorem dX0_put_25 : decode cX0_put 25 = .ok (.aload_n 0, 1) := by decide +kernel
theorem dX0_put_26 : decode cX0_put 26 = .ok (.getfield 31, 3) := by decide +kernel
theorem dX0_put_29 : decode cX0_put 29 = .ok (.invokevirtual 47, 3) := by decide +kernel
theorem dX0_put_32 : decode cX0_put 32 = .ok (.aload_n 0, 1) := by decide +kernel
theorem dX0_put_33 : decode cX0_put 33 = .ok (.aload_n 0, 1) := by decide +kernel
theorem dX0_put_34 : decode cX0_put 34 = .ok (.getfield 28, 3) := by decide +kernel
theorem dX0_put_37 : decode cX0_put 37 = .ok (.iconst 1, 1) := by decide +kernel
theorem dX0_put_38 : decode cX0_put 38 = .ok (.iadd, 1) := by decide +kernel
theorem dX0_put_39 : decode cX0_put 39 = .ok (.bipush 32, 2) := by decide +kernel
theorem dX0_put_41 : decode cX0_put 41 = .ok (.invokestatic 41, 3) := by decide +kernel
theorem dX0_put_44 : decode cX0_put 44 = .ok (.putfield 28, 3) := by decide +kernel
theorem dX0_put_47 : decode cX0_put 47 = .ok (.return_, 1) := by decide +kernel
theorem nmX0_put : mm_nm yX0_put 1 := ⟨by decide, by decide, by decide +kernel⟩
theorem cdX0_put : mm_cd cd_Y yX0_put cX0_put 3 none := ⟨tw_321, tw_6⟩
abbrev rmX0_put : Room := { frames := 2, cells := 0, slots := 0, locals := 45 }
def fX0_put (p0 : Nat) (p1 : Int32) (σ : mm_M) : Option mm_M :=
  mm_sh σ p0 (.inl 0) (mm_on (fX0_putScreen p0 σ) fun q2 => (mm_nu (q2.1) (some (q2.2)) fun q3 => mm_sh q2.2 p0 (.inl 0) (mm_sh q2.2 q3 (.inl 5) (mm_on (fX5_write q3 (mm_I q2.2 p0 3) (if 31 < (mm_I q2.2 p0 4) then 31 else (mm_I q2.2 p0 4)) p1 (mm_I q2.2 p0 5) q2.2) fun q6 => mm_sh q6 p0 (.inl 0) (mm_let (mm_wI q6 p0 4 (if 32 < ((mm_I q6 p0 4) + 1) then 32 else ((mm_I q6 p0 4) + 1))) fun s8 => some (s8))))))
set_option maxHeartbeats 4000000 in
set_option maxRecDepth 100000 in
theorem kX0_put {G : mm_G} {A : Nat → Prop} (p0 : Nat) (p1 : Int32) {σ : mm_M} {R : mm_M} (hf : fX0_put p0 p1 σ = some R) : mm_C cd_Y G yX0_put cX0_put 3 none rmX0_put A [.ref p0, .int p1] σ (mm_Pv R) := by
  refine mm_C.of (by decide) (Nat.le_of_ble_eq_true rfl) ?_
  unfold fX0_put at hf
  have e0 : lv_args 0 [.ref p0, .int p1] = [(0, .ref p0), (1, .int p1)] := rfl
  rw [e0]
  generalize hini : ((yX0_put.name == "<init>"), none) = ini
  clear e0
  clear hini
  refine mm_aload_n (j := 0) dX0_put_0 rfl rfl ?_
  obtain ⟨hs1, hf⟩ := mm_sh_s hf
  obtain ⟨q2, hq2, hf⟩ := mm_on_s hf
  refine mm_callVo cd_ok (kX0_putScreen p0 hq2) hs1 rfl (Or.inl tw_322) cdX0_putScreen tw_324 ts_2 nmX0_putScreen rfl rfl (by simp only [List.map_cons, List.map_nil, mm_rf_cat]; exact Nat.le_of_ble_eq_true rfl) dX0_put_1 ⟨Nat.le_of_ble_eq_true rfl, Nat.le_of_ble_eq_true rfl⟩ ⟨Nat.le_of_ble_eq_true rfl, Nat.le_of_ble_eq_true rfl⟩ ?_
  refine mm_astore_nR (L' := [(2, va_rf (q2.1)), (0, .ref p0), (1, .int p1)]) dX0_put_4 rfl (by decide) rfl ?_
  refine mm_aload_nR (j := 0) dX0_put_5 rfl rfl ?_
  rcases hq3 : (q2.1) with _ | q3
  · rw [mm_nu_n hq3] at hf
    try rw [mm_rf_none]
    refine mm_ifnonnullN dX0_put_6 ?_
    cases hf
    refine mm_widen (ck' := rmX0_put.cells) (sk' := rmX0_put.slots) (Nat.le_of_ble_eq_true rfl) (Nat.le_of_ble_eq_true rfl) ?_
    exact mm_vret rfl dX0_put_9 ⟨rfl, rfl⟩
  · rw [mm_nu_s hq3] at hf
    try rw [mm_rf_some]
    refine mm_ifnonnull (tgt := 10) dX0_put_6 (by decide) ?_
    refine mm_aload_n (j := 0) dX0_put_10 rfl rfl ?_
    refine mm_aload_n (j := 1) dX0_put_11 rfl rfl ?_
    obtain ⟨hs4, hf⟩ := mm_sh_s hf
    refine mm_get (c := 0) (k := 3) (v := .int (mm_I q2.2 p0 3)) cd_ok ⟨_, _, _, rfl, by decide, Or.inl tw_117⟩ hs4 rfl dX0_put_12 ?_
    refine mm_aload_n (j := 1) dX0_put_15 rfl rfl ?_
    refine mm_get (c := 0) (k := 4) (v := .int (mm_I q2.2 p0 4)) cd_ok ⟨_, _, _, rfl, by decide, Or.inl tw_119⟩ hs4 rfl dX0_put_16 ?_
    refine mm_bipush (v := 31) dX0_put_19 (by decide) ?_
    refine mm_mmin tw_326 tw_327 tw_14 tw_328 (by decide) (by simp only [List.map_cons, List.map_nil, mm_rf_cat]; exact Nat.le_of_ble_eq_true rfl) (by decide) (by decide) dX0_put_21 ?_
    refine mm_iload_n (j := 2) dX0_put_24 rfl rfl ?_
    refine mm_aload_n (j := 1) dX0_put_25 rfl rfl ?_
    refine mm_get (c := 0) (k := 5) (v := .int (mm_I q2.2 p0 5)) cd_ok ⟨_, _, _, rfl, by decide, Or.inl tw_121⟩ hs4 rfl dX0_put_26 ?_
    obtain ⟨hs5, hf⟩ := mm_sh_s hf
    obtain ⟨q6, hq6, hf⟩ := mm_on_s hf
    refine mm_callVv cd_ok (kX5_write q3 (mm_I q2.2 p0 3) (if 31 < (mm_I q2.2 p0 4) then 31 else (mm_I q2.2 p0 4)) p1 (mm_I q2.2 p0 5) hq6) hs5 rfl (Or.inl tw_329) cdX5_write tw_330 tw_331 nmX5_write rfl rfl (by simp only [List.map_cons, List.map_nil, mm_rf_cat]; exact Nat.le_of_ble_eq_true rfl) dX0_put_29 ⟨Nat.le_of_ble_eq_true rfl, Nat.le_of_ble_eq_true rfl⟩ ⟨Nat.le_of_ble_eq_true rfl, Nat.le_of_ble_eq_true rfl⟩ ?_
    refine mm_aload_n (j := 1) dX0_put_32 rfl rfl ?_
    refine mm_aload_n (j := 1) dX0_put_33 rfl rfl ?_
    obtain ⟨hs7, hf⟩ := mm_sh_s hf
    refine mm_get (c := 0) (k := 4) (v := .int (mm_I q6 p0 4)) cd_ok ⟨_, _, _, rfl, by decide, Or.inl tw_119⟩ hs7 rfl dX0_put_34 ?_
    refine mm_iconst (v := 1) dX0_put_37 (by decide) ?_
    refine mm_iadd dX0_put_38 ?_
    refine mm_bipush (v := 32) dX0_put_39 (by decide) ?_
    refine mm_mmin tw_326 tw_327 tw_14 tw_328 (by decide) (by simp only [List.map_cons, List.map_nil, mm_rf_cat]; exact Nat.le_of_ble_eq_true rfl) (by decide) (by decide) dX0_put_41 ?_
    refine mm_putI (c := 0) (k := 4) cd_ok ⟨_, _, _, rfl, by decide, rfl, Or.inl tw_119⟩ hs7 rfl rfl rfl dX0_put_44 ?_
    obtain ⟨s8, hs8, hf⟩ := mm_let_s hf
    rw [hs8]
    cases hf
    refine mm_widen (ck' := rmX0_put.cells) (sk' := rmX0_put.slots) (Nat.le_of_ble_eq_true rfl) (Nat.le_of_ble_eq_true rfl) ?_
    exact mm_vret rfl dX0_put_47 ⟨rfl, rfl⟩
theorem dX0_moveRolledRows_0 : decode cX0_moveRolledRows 0 = .ok (.iload_n 1, 1) := by decide +kernel
theorem dX0_moveRolledRows_1 : decode cX0_moveRolledRows 1 = .ok (.aload_n 0, 1) := by decide +kernel
theorem dX0_moveRolledRows_2 : decode cX0_moveRolledRows 2 = .ok (.getfield 25, 3) := by decide +kernel
theorem dX0_moveRolledRows_5 : decode cX0_moveRolledRows 5 = .ok (.if_icmp .ne 4, 3) := by decide +kernel
theorem dX0_moveRolledRows_8 : decode cX0_moveRolledRows 8 = .ok (.return_, 1) := by decide +kernel
theorem dX0_moveRolledRows_9 : decode cX0_moveRolledRows 9 = .ok (.iconst 0, 1) := by decide +kernel
theorem dX0_moveRolledRows_10 : decode cX0_moveRolledRows 10 = .ok (.istore_n 2, 1) := by decide +kernel
theorem dX0_moveRolledRows_11 : decode cX0_moveRolledRows 11 = .ok (.iload_n 2, 1) := by decide +kernel
theorem dX0_moveRolledRows_12 : decode cX0_moveRolledRows 12 = .ok (.aload_n 0, 1) := by decide +kernel
theorem dX0_moveRolledRows_13 : decode cX0_moveRolledRows 13 = .ok (.getfield 34, 3) := by decide +kernel
theorem dX0_moveRolledRows_16 : decode cX0_moveRolledRows 16 = .ok (.if_icmp .ge 46, 3) := by decide +kernel
theorem dX0_moveRolledRows_19 : decode cX0_moveRolledRows 19 = .ok (.iload_n 1, 1) := by decide +kernel
theorem dX0_moveRolledRows_20 : decode cX0_moveRolledRows 20 = .ok (.aload_n 0, 1) := by decide +kernel
theorem dX0_moveRolledRows_21 : decode cX0_moveRolledRows 21 = .ok (.getfield 25, 3) := by decide +kernel
theorem dX0_moveRolledRows_24 : decode cX0_moveRolledRows 24 = .ok (.if_icmp .ge 14, 3) := by decide +kernel
theorem dX0_moveRolledRows_27 : decode cX0_moveRolledRows 27 = .ok (.aload_n 0, 1) := by decide +kernel
theorem dX0_moveRolledRows_28 : decode cX0_moveRolledRows 28 = .ok (.getfield 34, 3) := by decide +kernel
theorem dX0_moveRolledRows_31 : decode cX0_moveRolledRows 31 = .ok (.iconst 1, 1) := by decide +kernel
theorem dX0_moveRolledRows_32 : decode cX0_moveRolledRows 32 = .ok (.isub, 1) := by decide +kernel
theorem dX0_moveRolledRows_33 : decode cX0_moveRolledRows 33 = .ok (.iload_n 2, 1) := by decide +kernel
theorem dX0_moveRolledRows_34 : decode cX0_moveRolledRows 34 = .ok (.isub, 1) := by decide +kernel
theorem dX0_moveRolledRows_35 : decode cX0_moveRolledRows 35 = .ok (.goto 4, 3) := by decide +kernel
theorem dX0_moveRolledRows_38 : decode cX0_moveRolledRows 38 = .ok (.iload_n 2, 1) := by decide +kernel
theorem dX0_moveRolledRows_39 : decode cX0_moveRolledRows 39 = .ok (.istore_n 3, 1) := by decide +kernel
theorem dX0_moveRolledRows_40 : decode cX0_moveRolledRows 40 = .ok (.aload_n 0, 1) := by decide +kernel
theorem dX0_moveRolledRows_41 : decode cX0_moveRolledRows 41 = .ok (.getfield 12, 3) := by decide +kernel
theorem dX0_moveRolledRows_44 : decode cX0_moveRolledRows 44 = .ok (.aload_n 0, 1) := by decide +kernel
theorem dX0_moveRolledRows_45 : decode cX0_moveRolledRows 45 = .ok (.getfield 25, 3) := by decide +kernel
theorem dX0_moveRolledRows_48 : decode cX0_moveRolledRows 48 = .ok (.iload_n 3, 1) := by decide +kernel
theorem dX0_moveRolledRows_49 : decode cX0_moveRolledRows 49 = .ok (.isub, 1) := by decide +kernel
theorem dX0_moveRolledRows_50 : decode cX0_moveRolledRows 50 = .ok (.iload_n 1, 1) := by decide +kernel
theorem dX0_moveRolledRows_51 : decode cX0_moveRolledRows 51 = .ok (.iload_n 3, 1) := by decide +kernel
theorem dX0_moveRolledRows_52 : decode cX0_moveRolledRows 52 = .ok (.isub, 1) := by decide +kernel
theorem dX0_moveRolledRows_53 : decode cX0_moveRolledRows 53 = .ok (.invokevirtual 82, 3) := by decide +kernel
theorem dX0_moveRolledRows_56 : decode cX0_moveRolledRows 56 = .ok (.iinc 2 1, 3) := by decide +kernel
theorem dX0_moveRolledRows_59 : decode cX0_moveRolledRows 59 = .ok (.goto (-48), 3) := by decide +kernel
theorem dX0_moveRolledRows_62 : decode cX0_moveRolledRows 62 = .ok (.return_, 1) := by decide +kernel
theorem nmX0_moveRolledRows : mm_nm yX0_moveRolledRows 1 := ⟨by decide, by decide, by decide +kernel⟩
theorem cdX0_moveRolledRows : mm_cd cd_Y yX0_moveRolledRows cX0_moveRolledRows 4 none := ⟨tw_363, tw_6⟩
abbrev rmX0_moveRolledRows : Room := { frames := 2, cells := 0, slots := 0, locals := 46 }
def fX0_moveRolledRows_39 (k11 : Nat → Int32 → Int32 → mm_M → Option mm_M) (a0 : Nat) (x1 : Int32) (x2 : Int32) (y0 : Int32) (σ : mm_M) : Option mm_M :=
  mm_sh σ a0 (.inl 0) (mm_on (mm_R σ a0 0) fun q7 => mm_sh σ q7 (.inl 5) (mm_on (fX5_moveRow q7 ((mm_I σ a0 3) - y0) (x1 - y0) σ) fun q9 => (k11 a0 x1 (x2 + 1) q9)))
def fX0_moveRolledRows_11  : Nat → Nat → Int32 → Int32 → mm_M → Option mm_M
  | 0 => fun _ _ _ _ => none
  | n + 1 => fun a0 x1 x2 σ =>
  mm_sh σ a0 (.inl 0) ((if (mm_I σ a0 6) ≤ x2 then some (σ) else (if (mm_I σ a0 3) ≤ x1 then (fX0_moveRolledRows_39 (fX0_moveRolledRows_11  n) a0 x1 x2 x2 σ) else (fX0_moveRolledRows_39 (fX0_moveRolledRows_11  n) a0 x1 x2 (((mm_I σ a0 6) - 1) - x2) σ))))
def fX0_moveRolledRows (p0 : Nat) (p1 : Int32) (σ : mm_M) : Option mm_M :=
  mm_sh σ p0 (.inl 0) ((if p1 = (mm_I σ p0 3) then some (σ) else (fX0_moveRolledRows_11  mm_fuel p0 p1 0 σ)))
set_option maxHeartbeats 4000000 in
set_option maxRecDepth 100000 in
theorem kX0_moveRolledRows_39 {G : mm_G} {A : Nat → Prop} {ini : Bool × Option (List (Nat × Nat × Nat × Nat))} {k11 : Nat → Int32 → Int32 → mm_M → Option mm_M} {R : mm_M} (hk11 : ∀ a0 x1 x2 σ, k11 a0 x1 x2 σ = some R → mm_J cd_Y G RX0 cX0_moveRolledRows 4 none ini rmX0_moveRolledRows A (mm_QF cd_Y G A (mm_Pv R) rmX0_moveRolledRows.cells rmX0_moveRolledRows.slots) 11 [(0, .ref a0), (1, .int x1), (2, .int x2)] [] σ 0 0) (a0 : Nat) (x1 : Int32) (x2 : Int32) (y0 : Int32) (σ : mm_M) (hf : fX0_moveRolledRows_39 k11 a0 x1 x2 y0 σ = some R) : mm_J cd_Y G RX0 cX0_moveRolledRows 4 none ini rmX0_moveRolledRows A (mm_QF cd_Y G A (mm_Pv R) rmX0_moveRolledRows.cells rmX0_moveRolledRows.slots) 39 [(0, .ref a0), (1, .int x1), (2, .int x2)] [.int y0] σ 0 0 := by
  unfold fX0_moveRolledRows_39 at hf
  refine mm_istore_n (L' := [(3, .int y0), (0, .ref a0), (1, .int x1), (2, .int x2)]) dX0_moveRolledRows_39 rfl (by decide) rfl ?_
  refine mm_aload_n (j := 1) dX0_moveRolledRows_40 rfl rfl ?_
  obtain ⟨hs6, hf⟩ := mm_sh_s hf
  refine mm_get (c := 0) (k := 0) (v := va_rf (mm_R σ a0 0)) cd_ok ⟨_, _, _, rfl, by decide, Or.inl tw_111⟩ hs6 rfl dX0_moveRolledRows_41 ?_
  refine mm_aload_n (j := 1) dX0_moveRolledRows_44 rfl rfl ?_
  refine mm_get (c := 0) (k := 3) (v := .int (mm_I σ a0 3)) cd_ok ⟨_, _, _, rfl, by decide, Or.inl tw_117⟩ hs6 rfl dX0_moveRolledRows_45 ?_
  refine mm_iload_n (j := 0) dX0_moveRolledRows_48 rfl rfl ?_
  refine mm_isub dX0_moveRolledRows_49 ?_
  refine mm_iload_n (j := 2) dX0_moveRolledRows_50 rfl rfl ?_
  refine mm_iload_n (j := 0) dX0_moveRolledRows_51 rfl rfl ?_
  refine mm_isub dX0_moveRolledRows_52 ?_
  obtain ⟨q7, hq7, hf⟩ := mm_on_s hf
  rw [hq7, mm_rf_some]
  obtain ⟨hs8, hf⟩ := mm_sh_s hf
  obtain ⟨q9, hq9, hf⟩ := mm_on_s hf
  refine mm_callVv cd_ok (kX5_moveRow q7 ((mm_I σ a0 3) - y0) (x1 - y0) hq9) hs8 rfl (Or.inl tw_364) cdX5_moveRow tw_365 tw_366 nmX5_moveRow rfl rfl (by simp only [List.map_cons, List.map_nil, mm_rf_cat]; exact Nat.le_of_ble_eq_true rfl) dX0_moveRolledRows_53 ⟨Nat.le_of_ble_eq_true rfl, Nat.le_of_ble_eq_true rfl⟩ ⟨Nat.le_of_ble_eq_true rfl, Nat.le_of_ble_eq_true rfl⟩ ?_
  refine mm_iinc (j := 3) (L' := [(2, .int (x2 + 1)), (3, .int y0), (0, .ref a0), (1, .int x1)]) dX0_moveRolledRows_56 rfl rfl (by decide) rfl ?_
  refine mm_goto (tgt := 11) dX0_moveRolledRows_59 (by decide) ?_
  refine mm_sub [2, 3, 0] rfl ?_
  exact hk11 a0 x1 (x2 + 1) q9 hf
set_option maxHeartbeats 4000000 in
set_option maxRecDepth 100000 in
theorem kX0_moveRolledRows_11 {G : mm_G} {A : Nat → Prop} {ini : Bool × Option (List (Nat × Nat × Nat × Nat))}  {R : mm_M}  : ∀ (a0 : Nat) (x1 : Int32) (x2 : Int32) (σ : mm_M), fX0_moveRolledRows_11  mm_fuel a0 x1 x2 σ = some R → mm_J cd_Y G RX0 cX0_moveRolledRows 4 none ini rmX0_moveRolledRows A (mm_QF cd_Y G A (mm_Pv R) rmX0_moveRolledRows.cells rmX0_moveRolledRows.slots) 11 [(0, .ref a0), (1, .int x1), (2, .int x2)] [] σ 0 0 := by
  generalize mm_fuel = n
  induction n with
  | zero => intro a0 x1 x2 σ hf; cases hf
  | succ n ih =>
    intro a0 x1 x2 σ hf
    unfold fX0_moveRolledRows_11 at hf
    refine mm_iload_n (j := 2) dX0_moveRolledRows_11 rfl rfl ?_
    refine mm_aload_n (j := 0) dX0_moveRolledRows_12 rfl rfl ?_
    obtain ⟨hs3, hf⟩ := mm_sh_s hf
    refine mm_get (c := 0) (k := 6) (v := .int (mm_I σ a0 6)) cd_ok ⟨_, _, _, rfl, by decide, Or.inl tw_123⟩ hs3 rfl dX0_moveRolledRows_13 ?_
    refine mm_icmp_ge (tgt := 62) dX0_moveRolledRows_16 (by decide) (fun c4 => ?_) (fun c4 => ?_)
    · rw [if_pos c4] at hf
      cases hf
      refine mm_widen (ck' := rmX0_moveRolledRows.cells) (sk' := rmX0_moveRolledRows.slots) (Nat.le_of_ble_eq_true rfl) (Nat.le_of_ble_eq_true rfl) ?_
      exact mm_vret rfl dX0_moveRolledRows_62 ⟨rfl, rfl⟩
    · rw [if_neg c4] at hf
      refine mm_iload_n (j := 1) dX0_moveRolledRows_19 rfl rfl ?_
      refine mm_aload_n (j := 0) dX0_moveRolledRows_20 rfl rfl ?_
      refine mm_get (c := 0) (k := 3) (v := .int (mm_I σ a0 3)) cd_ok ⟨_, _, _, rfl, by decide, Or.inl tw_117⟩ hs3 rfl dX0_moveRolledRows_21 ?_
      refine mm_icmp_ge (tgt := 38) dX0_moveRolledRows_24 (by decide) (fun c5 => ?_) (fun c5 => ?_)
      · rw [if_pos c5] at hf
        refine mm_iload_n (j := 2) dX0_moveRolledRows_38 rfl rfl ?_
        refine mm_sub [0, 1, 2] rfl ?_
        exact kX0_moveRolledRows_39 ih a0 x1 x2 x2 σ hf
      · rw [if_neg c5] at hf
        refine mm_aload_n (j := 0) dX0_moveRolledRows_27 rfl rfl ?_
        refine mm_get (c := 0) (k := 6) (v := .int (mm_I σ a0 6)) cd_ok ⟨_, _, _, rfl, by decide, Or.inl tw_123⟩ hs3 rfl dX0_moveRolledRows_28 ?_
        refine mm_iconst (v := 1) dX0_moveRolledRows_31 (by decide) ?_
        refine mm_isub dX0_moveRolledRows_32 ?_
        refine mm_iload_n (j := 2) dX0_moveRolledRows_33 rfl rfl ?_
        refine mm_isub dX0_moveRolledRows_34 ?_
        refine mm_goto (tgt := 39) dX0_moveRolledRows_35 (by decide) ?_
        refine mm_sub [0, 1, 2] rfl ?_
        exact kX0_moveRolledRows_39 ih a0 x1 x2 (((mm_I σ a0 6) - 1) - x2) σ hf
set_option maxHeartbeats 4000000 in
set_option maxRecDepth 100000 in
theorem kX0_moveRolledRows {G : mm_G} {A : Nat → Prop} (p0 : Nat) (p1 : Int32) {σ : mm_M} {R : mm_M} (hf : fX0_moveRolledRows p0 p1 σ = some R) : mm_C cd_Y G yX0_moveRolledRows cX0_moveRolledRows 4 none rmX0_moveRolledRows A [.ref p0, .int p1] σ (mm_Pv R) := by
  refine mm_C.of (by decide) (Nat.le_of_ble_eq_true rfl) ?_
  unfold fX0_moveRolledRows at hf
  have e0 : lv_args 0 [.ref p0, .int p1] = [(0, .ref p0), (1, .int p1)] := rfl
  rw [e0]
  generalize hini : ((yX0_moveRolledRows.name == "<init>"), none) = ini
  clear e0
  clear hini
  refine mm_iload_n (j := 1) dX0_moveRolledRows_0 rfl rfl ?_
  refine mm_aload_n (j := 0) dX0_moveRolledRows_1 rfl rfl ?_
  obtain ⟨hs1, hf⟩ := mm_sh_s hf
  refine mm_get (c := 0) (k := 3) (v := .int (mm_I σ p0 3)) cd_ok ⟨_, _, _, rfl, by decide, Or.inl tw_117⟩ hs1 rfl dX0_moveRolledRows_2 ?_
  refine mm_icmp_ne (tgt := 9) dX0_moveRolledRows_5 (by decide) (fun c2 => ?_) (fun c2 => ?_)
  · rw [if_neg c2] at hf
    refine mm_iconst (v := 0) dX0_moveRolledRows_9 (by decide) ?_
    refine mm_istore_n (L' := [(2, .int 0), (0, .ref p0), (1, .int p1)]) dX0_moveRolledRows_10 rfl (by decide) rfl ?_
    refine mm_sub [1, 2, 0] rfl ?_
    exact kX0_moveRolledRows_11  p0 p1 0 σ hf
  · rw [if_pos c2] at hf
    cases hf
    refine mm_widen (ck' := rmX0_moveRolledRows.cells) (sk' := rmX0_moveRolledRows.slots) (Nat.le_of_ble_eq_true rfl) (Nat.le_of_ble_eq_true rfl) ?_
    exact mm_vret rfl dX0_moveRolledRows_8 ⟨rfl, rfl⟩
theorem dX0_obeyLookOrSpecial_0 : decode cX0_obeyLookOrSpecial 0 = .ok (.iload_n 1, 1) := by decide +kernel
theorem dX0_obeyLookOrSpecial_1 : decode cX0_obeyLookOrSpecial 1 = .ok (.bipush 48, 2) := by decide +kernel
theorem dX0_obeyLookOrSpecial_3 : decode cX0_obeyLookOrSpecial 3 = .ok (.if_icmp .lt 16, 3) := by decide +kernel
theorem dX0_obeyLookOrSpecial_6 : decode cX0_obeyLookOrSpecial 6 = .ok (.aload_n 0, 1) := by decide +kernel
theorem dX0_obeyLookOrSpecial_7 : decode cX0_obeyLookOrSpecial 7 = .ok (.sipush 256, 3) := by decide +kernel
theorem dX0_obeyLookOrSpecial_10 : decode cX0_obeyLookOrSpecial 10 = .ok (.iload_n 1, 1) := by decide +kernel
theorem dX0_obeyLookOrSpecial_11 : decode cX0_obeyLookOrSpecial 11 = .ok (.iadd, 1) := by decide +kernel
theorem dX0_obeyLookOrSpecial_12 : decode cX0_obeyLookOrSpecial 12 = .ok (.bipush 48, 2) := by decide +kernel
theorem dX0_obeyLookOrSpecial_14 : decode cX0_obeyLookOrSpecial 14 = .ok (.isub, 1) := by decide +kernel
theorem dX0_obeyLookOrSpecial_15 : decode cX0_obeyLookOrSpecial 15 = .ok (.invokevirtual 62, 3) := by decide +kernel
theorem dX0_obeyLookOrSpecial_18 : decode cX0_obeyLookOrSpecial 18 = .ok (.return_, 1) := by decide +kernel
theorem dX0_obeyLookOrSpecial_19 : decode cX0_obeyLookOrSpecial 19 = .ok (.aload_n 0, 1) := by decide +kernel
theorem dX0_obeyLookOrSpecial_20 : decode cX0_obeyLookOrSpecial 20 = .ok (.iload_n 1, 1) := by decide +kernel
theorem dX0_obeyLookOrSpecial_21 : decode cX0_obeyLookOrSpecial 21 = .ok (.iconst 2, 1) := by decide +kernel
theorem dX0_obeyLookOrSpecial_22 : decode cX0_obeyLookOrSpecial 22 = .ok (.idiv, 1) := by decide +kernel
theorem dX0_obeyLookOrSpecial_23 : decode cX0_obeyLookOrSpecial 23 = .ok (.bipush 8, 2) := by decide +kernel
theorem dX0_obeyLookOrSpecial_25 : decode cX0_obeyLookOrSpecial 25 = .ok (.irem, 1) := by decide +kernel
theorem dX0_obeyLookOrSpecial_26 : decode cX0_obeyLookOrSpecial 26 = .ok (.iload_n 1, 1) := by decide +kernel
theorem dX0_obeyLookOrSpecial_27 : decode cX0_obeyLookOrSpecial 27 = .ok (.iconst 1, 1) := by decide +kernel
theorem dX0_obeyLookOrSpecial_28 : decode cX0_obeyLookOrSpecial 28 = .ok (.iand, 1) := by decide +kernel
theorem dX0_obeyLookOrSpecial_29 : decode cX0_obeyLookOrSpecial 29 = .ok (.ifCond .eq 8, 3) := by decide +kernel
theorem dX0_obeyLookOrSpecial_32 : decode cX0_obeyLookOrSpecial 32 = .ok (.bipush 8, 2) := by decide +kernel
theorem dX0_obeyLookOrSpecial_34 : decode cX0_obeyLookOrSpecial 34 = .ok (.goto 4, 3) := by decide +kernel
theorem dX0_obeyLookOrSpecial_37 : decode cX0_obeyLookOrSpecial 37 = .ok (.iconst 0, 1) := by decide +kernel
theorem dX0_obeyLookOrSpecial_38 : decode cX0_obeyLookOrSpecial 38 = .ok (.iadd, 1) := by decide +kernel
theorem dX0_obeyLookOrSpecial_39 : decode cX0_obeyLookOrSpecial 39 = .ok (.putfield 31, 3) := by decide +kernel
theorem dX0_obeyLookOrSpecial_42 : decode cX0_obeyLookOrSpecial 42 = .ok (.aload_n 0, 1) := by decide +kernel
theorem dX0_obeyLookOrSpecial_43 : decode cX0_obeyLookOrSpecial 43 = .ok (.bipush 32, 2) := by decide +kernel
theorem dX0_obeyLookOrSpecial_45 : decode cX0_obeyLookOrSpecial 45 = .ok (.invokevirtual 62, 3) := by decide +kernel
theorem dX0_obeyLookOrSpecial_48 : decode cX0_obeyLookOrSpecial 48 = .ok (.return_, 1) := by decide +kernel
theorem nmX0_obeyLookOrSpecial : mm_nm yX0_obeyLookOrSpecial 1 := ⟨by decide, by decide, by decide +kernel⟩
theorem cdX0_obeyLookOrSpecial : mm_cd cd_Y yX0_obeyLookOrSpecial cX0_obeyLookOrSpecial 2 none := ⟨tw_378, tw_6⟩
abbrev rmX0_obeyLookOrSpecial : Room := { frames := 3, cells := 0, slots := 0, locals := 67 }
def fX0_obeyLookOrSpecial_38  (a0 : Nat) (x1 : Int32) (y0 : Int32) (y1 : Int32) (y2 : Nat) (σ : mm_M) : Option mm_M :=
  mm_sh σ y2 (.inl 0) (mm_let (mm_wI σ y2 5 (y1 + y0)) fun s4 => mm_sh s4 a0 (.inl 0) (mm_on (fX0_put a0 32 s4) fun q6 => some (q6)))
def fX0_obeyLookOrSpecial (p0 : Nat) (p1 : Int32) (σ : mm_M) : Option mm_M :=
  (if p1 < 48 then (if (p1 &&& 1) = 0 then (fX0_obeyLookOrSpecial_38  p0 p1 0 ((p1 / 2) - (p1 / 2) / 8 * 8) p0 σ) else (fX0_obeyLookOrSpecial_38  p0 p1 8 ((p1 / 2) - (p1 / 2) / 8 * 8) p0 σ)) else mm_sh σ p0 (.inl 0) (mm_on (fX0_put p0 ((256 + p1) - 48) σ) fun q8 => some (q8)))
set_option maxHeartbeats 4000000 in
set_option maxRecDepth 100000 in
theorem kX0_obeyLookOrSpecial_38 {G : mm_G} {A : Nat → Prop} {ini : Bool × Option (List (Nat × Nat × Nat × Nat))}  {R : mm_M}  (a0 : Nat) (x1 : Int32) (y0 : Int32) (y1 : Int32) (y2 : Nat) (σ : mm_M) (hf : fX0_obeyLookOrSpecial_38  a0 x1 y0 y1 y2 σ = some R) : mm_J cd_Y G RX0 cX0_obeyLookOrSpecial 2 none ini rmX0_obeyLookOrSpecial A (mm_QF cd_Y G A (mm_Pv R) rmX0_obeyLookOrSpecial.cells rmX0_obeyLookOrSpecial.slots) 38 [(0, .ref a0), (1, .int x1)] [.int y0, .int y1, .ref y2] σ 0 0 := by
  unfold fX0_obeyLookOrSpecial_38 at hf
  refine mm_iadd dX0_obeyLookOrSpecial_38 ?_
  obtain ⟨hs3, hf⟩ := mm_sh_s hf
  refine mm_putI (c := 0) (k := 5) cd_ok ⟨_, _, _, rfl, by decide, rfl, Or.inl tw_121⟩ hs3 rfl rfl rfl dX0_obeyLookOrSpecial_39 ?_
  obtain ⟨s4, hs4, hf⟩ := mm_let_s hf
  rw [hs4]
  refine mm_aload_n (j := 0) dX0_obeyLookOrSpecial_42 rfl rfl ?_
  refine mm_bipush (v := 32) dX0_obeyLookOrSpecial_43 (by decide) ?_
  obtain ⟨hs5, hf⟩ := mm_sh_s hf
  obtain ⟨q6, hq6, hf⟩ := mm_on_s hf
  refine mm_callVv cd_ok (kX0_put a0 32 hq6) hs5 rfl (Or.inl tw_379) cdX0_put tw_319 tw_320 nmX0_put rfl rfl (by simp only [List.map_cons, List.map_nil, mm_rf_cat]; exact Nat.le_of_ble_eq_true rfl) dX0_obeyLookOrSpecial_45 ⟨Nat.le_of_ble_eq_true rfl, Nat.le_of_ble_eq_true rfl⟩ ⟨Nat.le_of_ble_eq_true rfl, Nat.le_of_ble_eq_true rfl⟩ ?_
  cases hf
  refine mm_widen (ck' := rmX0_obeyLookOrSpecial.cells) (sk' := rmX0_obeyLookOrSpecial.slots) (Nat.le_of_ble_eq_true rfl) (Nat.le_of_ble_eq_true rfl) ?_
  exact mm_vret rfl dX0_obeyLookOrSpecial_48 ⟨rfl, rfl⟩
set_option maxHeartbeats 4000000 in
set_option maxRecDepth 100000 in
theorem kX0_obeyLookOrSpecial {G : mm_G} {A : Nat → Prop} (p0 : Nat) (p1 : Int32) {σ : mm_M} {R : mm_M} (hf : fX0_obeyLookOrSpecial p0 p1 σ = some R) : mm_C cd_Y G yX0_obeyLookOrSpecial cX0_obeyLookOrSpecial 2 none rmX0_obeyLookOrSpecial A [.ref p0, .int p1] σ (mm_Pv R) := by
  refine mm_C.of (by decide) (Nat.le_of_ble_eq_true rfl) ?_
  unfold fX0_obeyLookOrSpecial at hf
  have e0 : lv_args 0 [.ref p0, .int p1] = [(0, .ref p0), (1, .int p1)] := rfl
  rw [e0]
  generalize hini : ((yX0_obeyLookOrSpecial.name == "<init>"), none) = ini
  clear e0
  clear hini
  refine mm_iload_n (j := 1) dX0_obeyLookOrSpecial_0 rfl rfl ?_
  refine mm_bipush (v := 48) dX0_obeyLookOrSpecial_1 (by decide) ?_
  refine mm_icmp_lt (tgt := 19) dX0_obeyLookOrSpecial_3 (by decide) (fun c1 => ?_) (fun c1 => ?_)
  · rw [if_pos c1] at hf
    refine mm_aload_n (j := 0) dX0_obeyLookOrSpecial_19 rfl rfl ?_
    refine mm_iload_n (j := 1) dX0_obeyLookOrSpecial_20 rfl rfl ?_
    refine mm_iconst (v := 2) dX0_obeyLookOrSpecial_21 (by decide) ?_
    refine mm_idiv dX0_obeyLookOrSpecial_22 (by decide) ?_
    refine mm_bipush (v := 8) dX0_obeyLookOrSpecial_23 (by decide) ?_
    refine mm_irem dX0_obeyLookOrSpecial_25 (by decide) ?_
    refine mm_iload_n (j := 1) dX0_obeyLookOrSpecial_26 rfl rfl ?_
    refine mm_iconst (v := 1) dX0_obeyLookOrSpecial_27 (by decide) ?_
    refine mm_iand dX0_obeyLookOrSpecial_28 ?_
    refine mm_if_eq (tgt := 37) dX0_obeyLookOrSpecial_29 (by decide) (fun c2 => ?_) (fun c2 => ?_)
    · rw [if_pos c2] at hf
      refine mm_iconst (v := 0) dX0_obeyLookOrSpecial_37 (by decide) ?_
      refine mm_sub [0, 1] rfl ?_
      exact kX0_obeyLookOrSpecial_38  p0 p1 0 ((p1 / 2) - (p1 / 2) / 8 * 8) p0 σ hf
    · rw [if_neg c2] at hf
      refine mm_bipush (v := 8) dX0_obeyLookOrSpecial_32 (by decide) ?_
      refine mm_goto (tgt := 38) dX0_obeyLookOrSpecial_34 (by decide) ?_
      refine mm_sub [0, 1] rfl ?_
      exact kX0_obeyLookOrSpecial_38  p0 p1 8 ((p1 / 2) - (p1 / 2) / 8 * 8) p0 σ hf
  · rw [if_neg c1] at hf
    refine mm_aload_n (j := 0) dX0_obeyLookOrSpecial_6 rfl rfl ?_
    refine mm_sipush (v := 256) dX0_obeyLookOrSpecial_7 (by decide) ?_
    refine mm_iload_n (j := 1) dX0_obeyLookOrSpecial_10 rfl rfl ?_
    refine mm_iadd dX0_obeyLookOrSpecial_11 ?_
    refine mm_bipush (v := 48) dX0_obeyLookOrSpecial_12 (by decide) ?_
    refine mm_isub dX0_obeyLookOrSpecial_14 ?_
    obtain ⟨hs7, hf⟩ := mm_sh_s hf
    obtain ⟨q8, hq8, hf⟩ := mm_on_s hf
    refine mm_callVv cd_ok (kX0_put p0 ((256 + p1) - 48) hq8) hs7 rfl (Or.inl tw_379) cdX0_put tw_319 tw_320 nmX0_put rfl rfl (by simp only [List.map_cons, List.map_nil, mm_rf_cat]; exact Nat.le_of_ble_eq_true rfl) dX0_obeyLookOrSpecial_15 ⟨Nat.le_of_ble_eq_true rfl, Nat.le_of_ble_eq_true rfl⟩ ⟨Nat.le_of_ble_eq_true rfl, Nat.le_of_ble_eq_true rfl⟩ ?_
    cases hf
    refine mm_widen (ck' := rmX0_obeyLookOrSpecial.cells) (sk' := rmX0_obeyLookOrSpecial.slots) (Nat.le_of_ble_eq_true rfl) (Nat.le_of_ble_eq_true rfl) ?_
    exact mm_vret rfl dX0_obeyLookOrSpecial_18 ⟨rfl, rfl⟩
theorem dX0_eraseBack_0 : decode cX0_eraseBack 0 = .ok (.aload_n 0, 1) := by decide +kernel
theorem dX0_eraseBack_1 : decode cX0_eraseBack 1 = .ok (.invokevirtual 37, 3) := by decide +kernel
theorem dX0_eraseBack_4 : decode cX0_eraseBack 4 = .ok (.astore_n 1, 1) := by decide +kernel
theorem dX0_eraseBack_5 : decode cX0_eraseBack 5 = .ok (.aload_n 1, 1) := by decide +kernel
theorem dX0_eraseBack_6 : decode cX0_eraseBack 6 = .ok (.ifnull 34, 3) := by decide +kernel
theorem dX0_eraseBack_9 : decode cX0_eraseBack 9 = .ok (.aload_n 0, 1) := by decide +kernel
theorem dX0_eraseBack_10 : decode cX0_eraseBack 10 = .ok (.getfield 28, 3) := by decide +kernel
theorem dX0_eraseBack_13 : decode cX0_eraseBack 13 = .ok (.ifCond .le 27, 3) := by decide +kernel
theorem dX0_eraseBack_16 : decode cX0_eraseBack 16 = .ok (.aload_n 0, 1) := by decide +kernel
theorem dX0_eraseBack_17 : decode cX0_eraseBack 17 = .ok (.dup, 1) := by decide +kernel
theorem dX0_eraseBack_18 : decode cX0_eraseBack 18 = .ok (.getfield 28, 3) := by decide +kernel
theorem dX0_eraseBack_21 : decode cX0_eraseBack 21 = .ok (.iconst 1, 1) := by decide +kernel
theorem dX0_eraseBack_22 : decode cX0_eraseBack 22 = .ok (.isub, 1) := by decide +kernel
theorem dX0_eraseBack_23 : decode cX0_eraseBack 23 = .ok (.putfield 28, 3) := by decide +kernel
theorem dX0_eraseBack_26 : decode cX0_eraseBack 26 = .ok (.aload_n 1, 1) := by decide +kernel
theorem dX0_eraseBack_27 : decode cX0_eraseBack 27 = .ok (.aload_n 0, 1) := by decide +kernel
theorem dX0_eraseBack_28 : decode cX0_eraseBack 28 = .ok (.getfield 25, 3) := by decide +kernel
theorem dX0_eraseBack_31 : decode cX0_eraseBack 31 = .ok (.aload_n 0, 1) := by decide +kernel
theorem dX0_eraseBack_32 : decode cX0_eraseBack 32 = .ok (.getfield 28, 3) := by decide +kernel
theorem dX0_eraseBack_35 : decode cX0_eraseBack 35 = .ok (.iconst 0, 1) := by decide +kernel
theorem dX0_eraseBack_36 : decode cX0_eraseBack 36 = .ok (.iconst 0, 1) := by decide +kernel
theorem dX0_eraseBack_37 : decode cX0_eraseBack 37 = .ok (.invokevirtual 47, 3) := by decide +kernel
theorem dX0_eraseBack_40 : decode cX0_eraseBack 40 = .ok (.return_, 1) := by decide +kernel
theorem nmX0_eraseBack : mm_nm yX0_eraseBack 0 := ⟨by decide, by decide, by decide +kernel⟩
theorem cdX0_eraseBack : mm_cd cd_Y yX0_eraseBack cX0_eraseBack 2 none := ⟨tw_387, tw_6⟩
abbrev rmX0_eraseBack : Room := { frames := 2, cells := 0, slots := 0, locals := 45 }
def fX0_eraseBack (p0 : Nat) (σ : mm_M) : Option mm_M :=
  mm_sh σ p0 (.inl 0) (mm_on (fX0_putScreen p0 σ) fun q2 => (mm_nu (q2.1) (some (q2.2)) fun q3 => mm_sh q2.2 p0 (.inl 0) ((if (mm_I q2.2 p0 4) ≤ 0 then some (q2.2) else mm_let (mm_wI q2.2 p0 4 ((mm_I q2.2 p0 4) - 1)) fun s6 => mm_sh s6 q3 (.inl 5) (mm_on (fX5_write q3 (mm_I s6 p0 3) (mm_I s6 p0 4) 0 0 s6) fun q8 => some (q8))))))
set_option maxHeartbeats 4000000 in
set_option maxRecDepth 100000 in
theorem kX0_eraseBack {G : mm_G} {A : Nat → Prop} (p0 : Nat) {σ : mm_M} {R : mm_M} (hf : fX0_eraseBack p0 σ = some R) : mm_C cd_Y G yX0_eraseBack cX0_eraseBack 2 none rmX0_eraseBack A [.ref p0] σ (mm_Pv R) := by
  refine mm_C.of (by decide) (Nat.le_of_ble_eq_true rfl) ?_
  unfold fX0_eraseBack at hf
  have e0 : lv_args 0 [.ref p0] = [(0, .ref p0)] := rfl
  rw [e0]
  generalize hini : ((yX0_eraseBack.name == "<init>"), none) = ini
  clear e0
  clear hini
  refine mm_aload_n (j := 0) dX0_eraseBack_0 rfl rfl ?_
  obtain ⟨hs1, hf⟩ := mm_sh_s hf
  obtain ⟨q2, hq2, hf⟩ := mm_on_s hf
  refine mm_callVo cd_ok (kX0_putScreen p0 hq2) hs1 rfl (Or.inl tw_322) cdX0_putScreen tw_324 ts_2 nmX0_putScreen rfl rfl (by simp only [List.map_cons, List.map_nil, mm_rf_cat]; exact Nat.le_of_ble_eq_true rfl) dX0_eraseBack_1 ⟨Nat.le_of_ble_eq_true rfl, Nat.le_of_ble_eq_true rfl⟩ ⟨Nat.le_of_ble_eq_true rfl, Nat.le_of_ble_eq_true rfl⟩ ?_
  refine mm_astore_nR (L' := [(1, va_rf (q2.1)), (0, .ref p0)]) dX0_eraseBack_4 rfl (by decide) rfl ?_
  refine mm_aload_nR (j := 0) dX0_eraseBack_5 rfl rfl ?_
  rcases hq3 : (q2.1) with _ | q3
  · rw [mm_nu_n hq3] at hf
    try rw [mm_rf_none]
    refine mm_ifnullN (tgt := 40) dX0_eraseBack_6 (by decide) ?_
    cases hf
    refine mm_widen (ck' := rmX0_eraseBack.cells) (sk' := rmX0_eraseBack.slots) (Nat.le_of_ble_eq_true rfl) (Nat.le_of_ble_eq_true rfl) ?_
    exact mm_vret rfl dX0_eraseBack_40 ⟨rfl, rfl⟩
  · rw [mm_nu_s hq3] at hf
    try rw [mm_rf_some]
    refine mm_ifnull dX0_eraseBack_6 ?_
    refine mm_aload_n (j := 1) dX0_eraseBack_9 rfl rfl ?_
    obtain ⟨hs4, hf⟩ := mm_sh_s hf
    refine mm_get (c := 0) (k := 4) (v := .int (mm_I q2.2 p0 4)) cd_ok ⟨_, _, _, rfl, by decide, Or.inl tw_119⟩ hs4 rfl dX0_eraseBack_10 ?_
    refine mm_if_le (tgt := 40) dX0_eraseBack_13 (by decide) (fun c5 => ?_) (fun c5 => ?_)
    · rw [if_pos c5] at hf
      cases hf
      refine mm_widen (ck' := rmX0_eraseBack.cells) (sk' := rmX0_eraseBack.slots) (Nat.le_of_ble_eq_true rfl) (Nat.le_of_ble_eq_true rfl) ?_
      exact mm_vret rfl dX0_eraseBack_40 ⟨rfl, rfl⟩
    · rw [if_neg c5] at hf
      refine mm_aload_n (j := 1) dX0_eraseBack_16 rfl rfl ?_
      refine mm_dup dX0_eraseBack_17 rfl ?_
      refine mm_get (c := 0) (k := 4) (v := .int (mm_I q2.2 p0 4)) cd_ok ⟨_, _, _, rfl, by decide, Or.inl tw_119⟩ hs4 rfl dX0_eraseBack_18 ?_
      refine mm_iconst (v := 1) dX0_eraseBack_21 (by decide) ?_
      refine mm_isub dX0_eraseBack_22 ?_
      refine mm_putI (c := 0) (k := 4) cd_ok ⟨_, _, _, rfl, by decide, rfl, Or.inl tw_119⟩ hs4 rfl rfl rfl dX0_eraseBack_23 ?_
      obtain ⟨s6, hs6, hf⟩ := mm_let_s hf
      rw [hs6]
      refine mm_aload_n (j := 0) dX0_eraseBack_26 rfl rfl ?_
      refine mm_aload_n (j := 1) dX0_eraseBack_27 rfl rfl ?_
      refine mm_get (c := 0) (k := 3) (v := .int (mm_I s6 p0 3)) cd_ok ⟨_, _, _, rfl, by decide, Or.inl tw_117⟩ (mm_ke hs6 hs4) rfl dX0_eraseBack_28 ?_
      refine mm_aload_n (j := 1) dX0_eraseBack_31 rfl rfl ?_
      refine mm_get (c := 0) (k := 4) (v := .int (mm_I s6 p0 4)) cd_ok ⟨_, _, _, rfl, by decide, Or.inl tw_119⟩ (mm_ke hs6 hs4) rfl dX0_eraseBack_32 ?_
      refine mm_iconst (v := 0) dX0_eraseBack_35 (by decide) ?_
      refine mm_iconst (v := 0) dX0_eraseBack_36 (by decide) ?_
      obtain ⟨hs7, hf⟩ := mm_sh_s hf
      obtain ⟨q8, hq8, hf⟩ := mm_on_s hf
      refine mm_callVv cd_ok (kX5_write q3 (mm_I s6 p0 3) (mm_I s6 p0 4) 0 0 hq8) hs7 rfl (Or.inl tw_329) cdX5_write tw_330 tw_331 nmX5_write rfl rfl (by simp only [List.map_cons, List.map_nil, mm_rf_cat]; exact Nat.le_of_ble_eq_true rfl) dX0_eraseBack_37 ⟨Nat.le_of_ble_eq_true rfl, Nat.le_of_ble_eq_true rfl⟩ ⟨Nat.le_of_ble_eq_true rfl, Nat.le_of_ble_eq_true rfl⟩ ?_
      cases hf
      refine mm_widen (ck' := rmX0_eraseBack.cells) (sk' := rmX0_eraseBack.slots) (Nat.le_of_ble_eq_true rfl) (Nat.le_of_ble_eq_true rfl) ?_
      exact mm_vret rfl dX0_eraseBack_40 ⟨rfl, rfl⟩
theorem dX0_eraseOn_0 : decode cX0_eraseOn 0 = .ok (.aload_n 0, 1) := by decide +kernel
theorem dX0_eraseOn_1 : decode cX0_eraseOn 1 = .ok (.invokevirtual 37, 3) := by decide +kernel
theorem dX0_eraseOn_4 : decode cX0_eraseOn 4 = .ok (.astore_n 1, 1) := by decide +kernel
theorem dX0_eraseOn_5 : decode cX0_eraseOn 5 = .ok (.aload_n 1, 1) := by decide +kernel
theorem dX0_eraseOn_6 : decode cX0_eraseOn 6 = .ok (.ifnull 22, 3) := by decide +kernel
theorem dX0_eraseOn_9 : decode cX0_eraseOn 9 = .ok (.aload_n 0, 1) := by decide +kernel
theorem dX0_eraseOn_10 : decode cX0_eraseOn 10 = .ok (.getfield 28, 3) := by decide +kernel
theorem dX0_eraseOn_13 : decode cX0_eraseOn 13 = .ok (.ifCond .le 15, 3) := by decide +kernel
theorem dX0_eraseOn_16 : decode cX0_eraseOn 16 = .ok (.aload_n 1, 1) := by decide +kernel
theorem dX0_eraseOn_17 : decode cX0_eraseOn 17 = .ok (.aload_n 0, 1) := by decide +kernel
theorem dX0_eraseOn_18 : decode cX0_eraseOn 18 = .ok (.getfield 25, 3) := by decide +kernel
theorem dX0_eraseOn_21 : decode cX0_eraseOn 21 = .ok (.aload_n 0, 1) := by decide +kernel
theorem dX0_eraseOn_22 : decode cX0_eraseOn 22 = .ok (.getfield 28, 3) := by decide +kernel
theorem dX0_eraseOn_25 : decode cX0_eraseOn 25 = .ok (.invokevirtual 103, 3) := by decide +kernel
theorem dX0_eraseOn_28 : decode cX0_eraseOn 28 = .ok (.return_, 1) := by decide +kernel
theorem nmX0_eraseOn : mm_nm yX0_eraseOn 0 := ⟨by decide, by decide, by decide +kernel⟩
theorem cdX0_eraseOn : mm_cd cd_Y yX0_eraseOn cX0_eraseOn 2 none := ⟨tw_391, tw_6⟩
abbrev rmX0_eraseOn : Room := { frames := 2, cells := 0, slots := 0, locals := 45 }
def fX0_eraseOn (p0 : Nat) (σ : mm_M) : Option mm_M :=
  mm_sh σ p0 (.inl 0) (mm_on (fX0_putScreen p0 σ) fun q2 => (mm_nu (q2.1) (some (q2.2)) fun q3 => mm_sh q2.2 p0 (.inl 0) ((if (mm_I q2.2 p0 4) ≤ 0 then some (q2.2) else mm_sh q2.2 q3 (.inl 5) (mm_on (fX5_eraseFrom q3 (mm_I q2.2 p0 3) (mm_I q2.2 p0 4) q2.2) fun q7 => some (q7))))))
set_option maxHeartbeats 4000000 in
set_option maxRecDepth 100000 in
theorem kX0_eraseOn {G : mm_G} {A : Nat → Prop} (p0 : Nat) {σ : mm_M} {R : mm_M} (hf : fX0_eraseOn p0 σ = some R) : mm_C cd_Y G yX0_eraseOn cX0_eraseOn 2 none rmX0_eraseOn A [.ref p0] σ (mm_Pv R) := by
  refine mm_C.of (by decide) (Nat.le_of_ble_eq_true rfl) ?_
  unfold fX0_eraseOn at hf
  have e0 : lv_args 0 [.ref p0] = [(0, .ref p0)] := rfl
  rw [e0]
  generalize hini : ((yX0_eraseOn.name == "<init>"), none) = ini
  clear e0
  clear hini
  refine mm_aload_n (j := 0) dX0_eraseOn_0 rfl rfl ?_
  obtain ⟨hs1, hf⟩ := mm_sh_s hf
  obtain ⟨q2, hq2, hf⟩ := mm_on_s hf
  refine mm_callVo cd_ok (kX0_putScreen p0 hq2) hs1 rfl (Or.inl tw_322) cdX0_putScreen tw_324 ts_2 nmX0_putScreen rfl rfl (by simp only [List.map_cons, List.map_nil, mm_rf_cat]; exact Nat.le_of_ble_eq_true rfl) dX0_eraseOn_1 ⟨Nat.le_of_ble_eq_true rfl, Nat.le_of_ble_eq_true rfl⟩ ⟨Nat.le_of_ble_eq_true rfl, Nat.le_of_ble_eq_true rfl⟩ ?_
  refine mm_astore_nR (L' := [(1, va_rf (q2.1)), (0, .ref p0)]) dX0_eraseOn_4 rfl (by decide) rfl ?_
  refine mm_aload_nR (j := 0) dX0_eraseOn_5 rfl rfl ?_
  rcases hq3 : (q2.1) with _ | q3
  · rw [mm_nu_n hq3] at hf
    try rw [mm_rf_none]
    refine mm_ifnullN (tgt := 28) dX0_eraseOn_6 (by decide) ?_
    cases hf
    refine mm_widen (ck' := rmX0_eraseOn.cells) (sk' := rmX0_eraseOn.slots) (Nat.le_of_ble_eq_true rfl) (Nat.le_of_ble_eq_true rfl) ?_
    exact mm_vret rfl dX0_eraseOn_28 ⟨rfl, rfl⟩
  · rw [mm_nu_s hq3] at hf
    try rw [mm_rf_some]
    refine mm_ifnull dX0_eraseOn_6 ?_
    refine mm_aload_n (j := 1) dX0_eraseOn_9 rfl rfl ?_
    obtain ⟨hs4, hf⟩ := mm_sh_s hf
    refine mm_get (c := 0) (k := 4) (v := .int (mm_I q2.2 p0 4)) cd_ok ⟨_, _, _, rfl, by decide, Or.inl tw_119⟩ hs4 rfl dX0_eraseOn_10 ?_
    refine mm_if_le (tgt := 28) dX0_eraseOn_13 (by decide) (fun c5 => ?_) (fun c5 => ?_)
    · rw [if_pos c5] at hf
      cases hf
      refine mm_widen (ck' := rmX0_eraseOn.cells) (sk' := rmX0_eraseOn.slots) (Nat.le_of_ble_eq_true rfl) (Nat.le_of_ble_eq_true rfl) ?_
      exact mm_vret rfl dX0_eraseOn_28 ⟨rfl, rfl⟩
    · rw [if_neg c5] at hf
      refine mm_aload_n (j := 0) dX0_eraseOn_16 rfl rfl ?_
      refine mm_aload_n (j := 1) dX0_eraseOn_17 rfl rfl ?_
      refine mm_get (c := 0) (k := 3) (v := .int (mm_I q2.2 p0 3)) cd_ok ⟨_, _, _, rfl, by decide, Or.inl tw_117⟩ hs4 rfl dX0_eraseOn_18 ?_
      refine mm_aload_n (j := 1) dX0_eraseOn_21 rfl rfl ?_
      refine mm_get (c := 0) (k := 4) (v := .int (mm_I q2.2 p0 4)) cd_ok ⟨_, _, _, rfl, by decide, Or.inl tw_119⟩ hs4 rfl dX0_eraseOn_22 ?_
      obtain ⟨hs6, hf⟩ := mm_sh_s hf
      obtain ⟨q7, hq7, hf⟩ := mm_on_s hf
      refine mm_callVv cd_ok (kX5_eraseFrom q3 (mm_I q2.2 p0 3) (mm_I q2.2 p0 4) hq7) hs6 rfl (Or.inl tw_392) cdX5_eraseFrom tw_393 tw_394 nmX5_eraseFrom rfl rfl (by simp only [List.map_cons, List.map_nil, mm_rf_cat]; exact Nat.le_of_ble_eq_true rfl) dX0_eraseOn_25 ⟨Nat.le_of_ble_eq_true rfl, Nat.le_of_ble_eq_true rfl⟩ ⟨Nat.le_of_ble_eq_true rfl, Nat.le_of_ble_eq_true rfl⟩ ?_
      cases hf
      refine mm_widen (ck' := rmX0_eraseOn.cells) (sk' := rmX0_eraseOn.slots) (Nat.le_of_ble_eq_true rfl) (Nat.le_of_ble_eq_true rfl) ?_
      exact mm_vret rfl dX0_eraseOn_28 ⟨rfl, rfl⟩
theorem dX0_beginRoll_0 : decode cX0_beginRoll 0 = .ok (.aload_n 0, 1) := by decide +kernel
theorem dX0_beginRoll_1 : decode cX0_beginRoll 1 = .ok (.iload_n 1, 1) := by decide +kernel
theorem dX0_beginRoll_2 : decode cX0_beginRoll 2 = .ok (.putfield 34, 3) := by decide +kernel
theorem dX0_beginRoll_5 : decode cX0_beginRoll 5 = .ok (.aload_n 0, 1) := by decide +kernel
theorem dX0_beginRoll_6 : decode cX0_beginRoll 6 = .ok (.getfield 21, 3) := by decide +kernel
theorem dX0_beginRoll_9 : decode cX0_beginRoll 9 = .ok (.iconst 2, 1) := by decide +kernel
theorem dX0_beginRoll_10 : decode cX0_beginRoll 10 = .ok (.if_icmp .ne 39, 3) := by decide +kernel
theorem dX0_beginRoll_13 : decode cX0_beginRoll 13 = .ok (.aload_n 0, 1) := by decide +kernel
theorem dX0_beginRoll_14 : decode cX0_beginRoll 14 = .ok (.getfield 12, 3) := by decide +kernel
theorem dX0_beginRoll_17 : decode cX0_beginRoll 17 = .ok (.aload_n 0, 1) := by decide +kernel
theorem dX0_beginRoll_18 : decode cX0_beginRoll 18 = .ok (.getfield 25, 3) := by decide +kernel
theorem dX0_beginRoll_21 : decode cX0_beginRoll 21 = .ok (.aload_n 0, 1) := by decide +kernel
theorem dX0_beginRoll_22 : decode cX0_beginRoll 22 = .ok (.getfield 34, 3) := by decide +kernel
theorem dX0_beginRoll_25 : decode cX0_beginRoll 25 = .ok (.isub, 1) := by decide +kernel
theorem dX0_beginRoll_26 : decode cX0_beginRoll 26 = .ok (.iconst 1, 1) := by decide +kernel
theorem dX0_beginRoll_27 : decode cX0_beginRoll 27 = .ok (.iadd, 1) := by decide +kernel
theorem dX0_beginRoll_28 : decode cX0_beginRoll 28 = .ok (.invokevirtual 106, 3) := by decide +kernel
theorem dX0_beginRoll_31 : decode cX0_beginRoll 31 = .ok (.aload_n 0, 1) := by decide +kernel
theorem dX0_beginRoll_32 : decode cX0_beginRoll 32 = .ok (.aload_n 0, 1) := by decide +kernel
theorem dX0_beginRoll_33 : decode cX0_beginRoll 33 = .ok (.getfield 25, 3) := by decide +kernel
theorem dX0_beginRoll_36 : decode cX0_beginRoll 36 = .ok (.aload_n 0, 1) := by decide +kernel
theorem dX0_beginRoll_37 : decode cX0_beginRoll 37 = .ok (.getfield 34, 3) := by decide +kernel
theorem dX0_beginRoll_40 : decode cX0_beginRoll 40 = .ok (.invokestatic 59, 3) := by decide +kernel
theorem dX0_beginRoll_43 : decode cX0_beginRoll 43 = .ok (.putfield 25, 3) := by decide +kernel
theorem dX0_beginRoll_46 : decode cX0_beginRoll 46 = .ok (.goto 23, 3) := by decide +kernel
theorem dX0_beginRoll_49 : decode cX0_beginRoll 49 = .ok (.aload_n 0, 1) := by decide +kernel
theorem dX0_beginRoll_50 : decode cX0_beginRoll 50 = .ok (.getfield 12, 3) := by decide +kernel
theorem dX0_beginRoll_53 : decode cX0_beginRoll 53 = .ok (.invokevirtual 94, 3) := by decide +kernel
theorem dX0_beginRoll_56 : decode cX0_beginRoll 56 = .ok (.aload_n 0, 1) := by decide +kernel
theorem dX0_beginRoll_57 : decode cX0_beginRoll 57 = .ok (.getfield 18, 3) := by decide +kernel
theorem dX0_beginRoll_60 : decode cX0_beginRoll 60 = .ok (.invokevirtual 94, 3) := by decide +kernel
theorem dX0_beginRoll_63 : decode cX0_beginRoll 63 = .ok (.aload_n 0, 1) := by decide +kernel
theorem dX0_beginRoll_64 : decode cX0_beginRoll 64 = .ok (.bipush 15, 2) := by decide +kernel
theorem dX0_beginRoll_66 : decode cX0_beginRoll 66 = .ok (.putfield 25, 3) := by decide +kernel
theorem dX0_beginRoll_69 : decode cX0_beginRoll 69 = .ok (.aload_n 0, 1) := by decide +kernel
theorem dX0_beginRoll_70 : decode cX0_beginRoll 70 = .ok (.iconst 2, 1) := by decide +kernel
theorem dX0_beginRoll_71 : decode cX0_beginRoll 71 = .ok (.putfield 21, 3) := by decide +kernel
theorem dX0_beginRoll_74 : decode cX0_beginRoll 74 = .ok (.aload_n 0, 1) := by decide +kernel
theorem dX0_beginRoll_75 : decode cX0_beginRoll 75 = .ok (.iconst 0, 1) := by decide +kernel
theorem dX0_beginRoll_76 : decode cX0_beginRoll 76 = .ok (.putfield 28, 3) := by decide +kernel
theorem dX0_beginRoll_79 : decode cX0_beginRoll 79 = .ok (.aload_n 0, 1) := by decide +kernel
theorem dX0_beginRoll_80 : decode cX0_beginRoll 80 = .ok (.iconst 0, 1) := by decide +kernel
theorem dX0_beginRoll_81 : decode cX0_beginRoll 81 = .ok (.putfield 31, 3) := by decide +kernel
theorem dX0_beginRoll_84 : decode cX0_beginRoll 84 = .ok (.return_, 1) := by decide +kernel
theorem nmX0_beginRoll : mm_nm yX0_beginRoll 1 := ⟨by decide, by decide, by decide +kernel⟩
theorem cdX0_beginRoll : mm_cd cd_Y yX0_beginRoll cX0_beginRoll 2 none := ⟨tw_399, tw_6⟩
abbrev rmX0_beginRoll : Room := { frames := 2, cells := 0, slots := 0, locals := 44 }
def fX0_beginRoll_69  (a0 : Nat) (x1 : Int32) (σ : mm_M) : Option mm_M :=
  mm_sh σ a0 (.inl 0) (mm_let (mm_wI σ a0 2 2) fun s14 => mm_let (mm_wI s14 a0 4 0) fun s15 => mm_let (mm_wI s15 a0 5 0) fun s16 => some (s16))
def fX0_beginRoll (p0 : Nat) (p1 : Int32) (σ : mm_M) : Option mm_M :=
  mm_sh σ p0 (.inl 0) (mm_let (mm_wI σ p0 6 p1) fun s2 => (if (mm_I s2 p0 2) = 2 then mm_on (mm_R s2 p0 0) fun q17 => mm_sh s2 q17 (.inl 5) (mm_on (fX5_eraseRowsAbove q17 (((mm_I s2 p0 3) - (mm_I s2 p0 6)) + 1) s2) fun q19 => mm_sh q19 p0 (.inl 0) (mm_let (mm_wI q19 p0 3 (if (mm_I q19 p0 3) < (mm_I q19 p0 6) then (mm_I q19 p0 6) else (mm_I q19 p0 3))) fun s21 => (fX0_beginRoll_69  p0 p1 s21))) else mm_on (mm_R s2 p0 0) fun q4 => mm_sh s2 q4 (.inl 5) (mm_on (fX5_eraseAll q4 s2) fun q6 => mm_sh q6 p0 (.inl 0) (mm_on (mm_R q6 p0 1) fun q8 => mm_sh q6 q8 (.inl 5) (mm_on (fX5_eraseAll q8 q6) fun q10 => mm_sh q10 p0 (.inl 0) (mm_let (mm_wI q10 p0 3 15) fun s12 => (fX0_beginRoll_69  p0 p1 s12)))))))
set_option maxHeartbeats 4000000 in
set_option maxRecDepth 100000 in
theorem kX0_beginRoll_69 {G : mm_G} {A : Nat → Prop} {ini : Bool × Option (List (Nat × Nat × Nat × Nat))}  {R : mm_M}  (a0 : Nat) (x1 : Int32) (σ : mm_M) (hf : fX0_beginRoll_69  a0 x1 σ = some R) : mm_J cd_Y G RX0 cX0_beginRoll 2 none ini rmX0_beginRoll A (mm_QF cd_Y G A (mm_Pv R) rmX0_beginRoll.cells rmX0_beginRoll.slots) 69 [(0, .ref a0), (1, .int x1)] [] σ 0 0 := by
  unfold fX0_beginRoll_69 at hf
  refine mm_aload_n (j := 0) dX0_beginRoll_69 rfl rfl ?_
  refine mm_iconst (v := 2) dX0_beginRoll_70 (by decide) ?_
  obtain ⟨hs13, hf⟩ := mm_sh_s hf
  refine mm_putI (c := 0) (k := 2) cd_ok ⟨_, _, _, rfl, by decide, rfl, Or.inl tw_115⟩ hs13 rfl rfl rfl dX0_beginRoll_71 ?_
  obtain ⟨s14, hs14, hf⟩ := mm_let_s hf
  rw [hs14]
  refine mm_aload_n (j := 0) dX0_beginRoll_74 rfl rfl ?_
  refine mm_iconst (v := 0) dX0_beginRoll_75 (by decide) ?_
  refine mm_putI (c := 0) (k := 4) cd_ok ⟨_, _, _, rfl, by decide, rfl, Or.inl tw_119⟩ (mm_ke hs14 hs13) rfl rfl rfl dX0_beginRoll_76 ?_
  obtain ⟨s15, hs15, hf⟩ := mm_let_s hf
  rw [hs15]
  refine mm_aload_n (j := 0) dX0_beginRoll_79 rfl rfl ?_
  refine mm_iconst (v := 0) dX0_beginRoll_80 (by decide) ?_
  refine mm_putI (c := 0) (k := 5) cd_ok ⟨_, _, _, rfl, by decide, rfl, Or.inl tw_121⟩ (mm_ke hs15 (mm_ke hs14 hs13)) rfl rfl rfl dX0_beginRoll_81 ?_
  obtain ⟨s16, hs16, hf⟩ := mm_let_s hf
  rw [hs16]
  cases hf
  refine mm_widen (ck' := rmX0_beginRoll.cells) (sk' := rmX0_beginRoll.slots) (Nat.le_of_ble_eq_true rfl) (Nat.le_of_ble_eq_true rfl) ?_
  exact mm_vret rfl dX0_beginRoll_84 ⟨rfl, rfl⟩
set_option maxHeartbeats 4000000 in
set_option maxRecDepth 100000 in
theorem kX0_beginRoll {G : mm_G} {A : Nat → Prop} (p0 : Nat) (p1 : Int32) {σ : mm_M} {R : mm_M} (hf : fX0_beginRoll p0 p1 σ = some R) : mm_C cd_Y G yX0_beginRoll cX0_beginRoll 2 none rmX0_beginRoll A [.ref p0, .int p1] σ (mm_Pv R) := by
  refine mm_C.of (by decide) (Nat.le_of_ble_eq_true rfl) ?_
  unfold fX0_beginRoll at hf
  have e0 : lv_args 0 [.ref p0, .int p1] = [(0, .ref p0), (1, .int p1)] := rfl
  rw [e0]
  generalize hini : ((yX0_beginRoll.name == "<init>"), none) = ini
  clear e0
  clear hini
  refine mm_aload_n (j := 0) dX0_beginRoll_0 rfl rfl ?_
  refine mm_iload_n (j := 1) dX0_beginRoll_1 rfl rfl ?_
  obtain ⟨hs1, hf⟩ := mm_sh_s hf
  refine mm_putI (c := 0) (k := 6) cd_ok ⟨_, _, _, rfl, by decide, rfl, Or.inl tw_123⟩ hs1 rfl rfl rfl dX0_beginRoll_2 ?_
  obtain ⟨s2, hs2, hf⟩ := mm_let_s hf
  rw [hs2]
  refine mm_aload_n (j := 0) dX0_beginRoll_5 rfl rfl ?_
  refine mm_get (c := 0) (k := 2) (v := .int (mm_I s2 p0 2)) cd_ok ⟨_, _, _, rfl, by decide, Or.inl tw_115⟩ (mm_ke hs2 hs1) rfl dX0_beginRoll_6 ?_
  refine mm_iconst (v := 2) dX0_beginRoll_9 (by decide) ?_
  refine mm_icmp_ne (tgt := 49) dX0_beginRoll_10 (by decide) (fun c3 => ?_) (fun c3 => ?_)
  · rw [if_neg c3] at hf
    refine mm_aload_n (j := 0) dX0_beginRoll_49 rfl rfl ?_
    refine mm_get (c := 0) (k := 0) (v := va_rf (mm_R s2 p0 0)) cd_ok ⟨_, _, _, rfl, by decide, Or.inl tw_111⟩ (mm_ke hs2 hs1) rfl dX0_beginRoll_50 ?_
    obtain ⟨q4, hq4, hf⟩ := mm_on_s hf
    rw [hq4, mm_rf_some]
    obtain ⟨hs5, hf⟩ := mm_sh_s hf
    obtain ⟨q6, hq6, hf⟩ := mm_on_s hf
    refine mm_callVv cd_ok (kX5_eraseAll q4 hq6) hs5 rfl (Or.inl tw_404) cdX5_eraseAll tw_405 tw_406 nmX5_eraseAll rfl rfl (by simp only [List.map_cons, List.map_nil, mm_rf_cat]; exact Nat.le_of_ble_eq_true rfl) dX0_beginRoll_53 ⟨Nat.le_of_ble_eq_true rfl, Nat.le_of_ble_eq_true rfl⟩ ⟨Nat.le_of_ble_eq_true rfl, Nat.le_of_ble_eq_true rfl⟩ ?_
    refine mm_aload_n (j := 0) dX0_beginRoll_56 rfl rfl ?_
    obtain ⟨hs7, hf⟩ := mm_sh_s hf
    refine mm_get (c := 0) (k := 1) (v := va_rf (mm_R q6 p0 1)) cd_ok ⟨_, _, _, rfl, by decide, Or.inl tw_113⟩ hs7 rfl dX0_beginRoll_57 ?_
    obtain ⟨q8, hq8, hf⟩ := mm_on_s hf
    rw [hq8, mm_rf_some]
    obtain ⟨hs9, hf⟩ := mm_sh_s hf
    obtain ⟨q10, hq10, hf⟩ := mm_on_s hf
    refine mm_callVv cd_ok (kX5_eraseAll q8 hq10) hs9 rfl (Or.inl tw_404) cdX5_eraseAll tw_405 tw_406 nmX5_eraseAll rfl rfl (by simp only [List.map_cons, List.map_nil, mm_rf_cat]; exact Nat.le_of_ble_eq_true rfl) dX0_beginRoll_60 ⟨Nat.le_of_ble_eq_true rfl, Nat.le_of_ble_eq_true rfl⟩ ⟨Nat.le_of_ble_eq_true rfl, Nat.le_of_ble_eq_true rfl⟩ ?_
    refine mm_aload_n (j := 0) dX0_beginRoll_63 rfl rfl ?_
    refine mm_bipush (v := 15) dX0_beginRoll_64 (by decide) ?_
    obtain ⟨hs11, hf⟩ := mm_sh_s hf
    refine mm_putI (c := 0) (k := 3) cd_ok ⟨_, _, _, rfl, by decide, rfl, Or.inl tw_117⟩ hs11 rfl rfl rfl dX0_beginRoll_66 ?_
    obtain ⟨s12, hs12, hf⟩ := mm_let_s hf
    rw [hs12]
    refine mm_sub [0, 1] rfl ?_
    exact kX0_beginRoll_69  p0 p1 s12 hf
  · rw [if_pos c3] at hf
    refine mm_aload_n (j := 0) dX0_beginRoll_13 rfl rfl ?_
    refine mm_get (c := 0) (k := 0) (v := va_rf (mm_R s2 p0 0)) cd_ok ⟨_, _, _, rfl, by decide, Or.inl tw_111⟩ (mm_ke hs2 hs1) rfl dX0_beginRoll_14 ?_
    refine mm_aload_n (j := 0) dX0_beginRoll_17 rfl rfl ?_
    refine mm_get (c := 0) (k := 3) (v := .int (mm_I s2 p0 3)) cd_ok ⟨_, _, _, rfl, by decide, Or.inl tw_117⟩ (mm_ke hs2 hs1) rfl dX0_beginRoll_18 ?_
    refine mm_aload_n (j := 0) dX0_beginRoll_21 rfl rfl ?_
    refine mm_get (c := 0) (k := 6) (v := .int (mm_I s2 p0 6)) cd_ok ⟨_, _, _, rfl, by decide, Or.inl tw_123⟩ (mm_ke hs2 hs1) rfl dX0_beginRoll_22 ?_
    refine mm_isub dX0_beginRoll_25 ?_
    refine mm_iconst (v := 1) dX0_beginRoll_26 (by decide) ?_
    refine mm_iadd dX0_beginRoll_27 ?_
    obtain ⟨q17, hq17, hf⟩ := mm_on_s hf
    rw [hq17, mm_rf_some]
    obtain ⟨hs18, hf⟩ := mm_sh_s hf
    obtain ⟨q19, hq19, hf⟩ := mm_on_s hf
    refine mm_callVv cd_ok (kX5_eraseRowsAbove q17 (((mm_I s2 p0 3) - (mm_I s2 p0 6)) + 1) hq19) hs18 rfl (Or.inl tw_400) cdX5_eraseRowsAbove tw_401 tw_402 nmX5_eraseRowsAbove rfl rfl (by simp only [List.map_cons, List.map_nil, mm_rf_cat]; exact Nat.le_of_ble_eq_true rfl) dX0_beginRoll_28 ⟨Nat.le_of_ble_eq_true rfl, Nat.le_of_ble_eq_true rfl⟩ ⟨Nat.le_of_ble_eq_true rfl, Nat.le_of_ble_eq_true rfl⟩ ?_
    refine mm_aload_n (j := 0) dX0_beginRoll_31 rfl rfl ?_
    refine mm_aload_n (j := 0) dX0_beginRoll_32 rfl rfl ?_
    obtain ⟨hs20, hf⟩ := mm_sh_s hf
    refine mm_get (c := 0) (k := 3) (v := .int (mm_I q19 p0 3)) cd_ok ⟨_, _, _, rfl, by decide, Or.inl tw_117⟩ hs20 rfl dX0_beginRoll_33 ?_
    refine mm_aload_n (j := 0) dX0_beginRoll_36 rfl rfl ?_
    refine mm_get (c := 0) (k := 6) (v := .int (mm_I q19 p0 6)) cd_ok ⟨_, _, _, rfl, by decide, Or.inl tw_123⟩ hs20 rfl dX0_beginRoll_37 ?_
    refine mm_mmax tw_357 tw_358 tw_14 tw_359 (by decide) (by simp only [List.map_cons, List.map_nil, mm_rf_cat]; exact Nat.le_of_ble_eq_true rfl) (by decide) (by decide) dX0_beginRoll_40 ?_
    refine mm_putI (c := 0) (k := 3) cd_ok ⟨_, _, _, rfl, by decide, rfl, Or.inl tw_117⟩ hs20 rfl rfl rfl dX0_beginRoll_43 ?_
    obtain ⟨s21, hs21, hf⟩ := mm_let_s hf
    rw [hs21]
    refine mm_goto (tgt := 69) dX0_beginRoll_46 (by decide) ?_
    refine mm_sub [0, 1] rfl ?_
    exact kX0_beginRoll_69  p0 p1 s21 hf
theorem dX0_rollUp_0 : decode cX0_rollUp 0 = .ok (.aload_n 0, 1) := by decide +kernel
theorem dX0_rollUp_1 : decode cX0_rollUp 1 = .ok (.getfield 21, 3) := by decide +kernel
theorem dX0_rollUp_4 : decode cX0_rollUp 4 = .ok (.iconst 2, 1) := by decide +kernel
theorem dX0_rollUp_5 : decode cX0_rollUp 5 = .ok (.if_icmp .eq 4, 3) := by decide +kernel
theorem dX0_rollUp_8 : decode cX0_rollUp 8 = .ok (.return_, 1) := by decide +kernel
theorem dX0_rollUp_9 : decode cX0_rollUp 9 = .ok (.aload_n 0, 1) := by decide +kernel
theorem dX0_rollUp_10 : decode cX0_rollUp 10 = .ok (.getfield 25, 3) := by decide +kernel
theorem dX0_rollUp_13 : decode cX0_rollUp 13 = .ok (.aload_n 0, 1) := by decide +kernel
theorem dX0_rollUp_14 : decode cX0_rollUp 14 = .ok (.getfield 34, 3) := by decide +kernel
theorem dX0_rollUp_17 : decode cX0_rollUp 17 = .ok (.isub, 1) := by decide +kernel
theorem dX0_rollUp_18 : decode cX0_rollUp 18 = .ok (.iconst 1, 1) := by decide +kernel
theorem dX0_rollUp_19 : decode cX0_rollUp 19 = .ok (.iadd, 1) := by decide +kernel
theorem dX0_rollUp_20 : decode cX0_rollUp 20 = .ok (.istore_n 1, 1) := by decide +kernel
theorem dX0_rollUp_21 : decode cX0_rollUp 21 = .ok (.iload_n 1, 1) := by decide +kernel
theorem dX0_rollUp_22 : decode cX0_rollUp 22 = .ok (.aload_n 0, 1) := by decide +kernel
theorem dX0_rollUp_23 : decode cX0_rollUp 23 = .ok (.getfield 25, 3) := by decide +kernel
theorem dX0_rollUp_26 : decode cX0_rollUp 26 = .ok (.if_icmp .ge 20, 3) := by decide +kernel
theorem dX0_rollUp_29 : decode cX0_rollUp 29 = .ok (.aload_n 0, 1) := by decide +kernel
theorem dX0_rollUp_30 : decode cX0_rollUp 30 = .ok (.getfield 12, 3) := by decide +kernel
theorem dX0_rollUp_33 : decode cX0_rollUp 33 = .ok (.iload_n 1, 1) := by decide +kernel
theorem dX0_rollUp_34 : decode cX0_rollUp 34 = .ok (.iconst 1, 1) := by decide +kernel
theorem dX0_rollUp_35 : decode cX0_rollUp 35 = .ok (.iadd, 1) := by decide +kernel
theorem dX0_rollUp_36 : decode cX0_rollUp 36 = .ok (.iload_n 1, 1) := by decide +kernel
theorem dX0_rollUp_37 : decode cX0_rollUp 37 = .ok (.invokevirtual 82, 3) := by decide +kernel
theorem dX0_rollUp_40 : decode cX0_rollUp 40 = .ok (.iinc 1 1, 3) := by decide +kernel
theorem dX0_rollUp_43 : decode cX0_rollUp 43 = .ok (.goto (-22), 3) := by decide +kernel
theorem dX0_rollUp_46 : decode cX0_rollUp 46 = .ok (.aload_n 0, 1) := by decide +kernel
theorem dX0_rollUp_47 : decode cX0_rollUp 47 = .ok (.iconst 0, 1) := by decide +kernel
theorem dX0_rollUp_48 : decode cX0_rollUp 48 = .ok (.putfield 28, 3) := by decide +kernel
theorem dX0_rollUp_51 : decode cX0_rollUp 51 = .ok (.aload_n 0, 1) := by decide +kernel
theorem dX0_rollUp_52 : decode cX0_rollUp 52 = .ok (.iconst 0, 1) := by decide +kernel
theorem dX0_rollUp_53 : decode cX0_rollUp 53 = .ok (.putfield 31, 3) := by decide +kernel
theorem dX0_rollUp_56 : decode cX0_rollUp 56 = .ok (.return_, 1) := by decide +kernel
theorem nmX0_rollUp : mm_nm yX0_rollUp 0 := ⟨by decide, by decide, by decide +kernel⟩
theorem cdX0_rollUp : mm_cd cd_Y yX0_rollUp cX0_rollUp 2 none := ⟨tw_411, tw_6⟩
abbrev rmX0_rollUp : Room := { frames := 2, cells := 0, slots := 0, locals := 46 }
def fX0_rollUp_21  : Nat → Nat → Int32 → mm_M → Option mm_M
  | 0 => fun _ _ _ => none
  | n + 1 => fun a0 x1 σ =>
  mm_sh σ a0 (.inl 0) ((if (mm_I σ a0 3) ≤ x1 then mm_let (mm_wI σ a0 4 0) fun s5 => mm_let (mm_wI s5 a0 5 0) fun s6 => some (s6) else mm_on (mm_R σ a0 0) fun q7 => mm_sh σ q7 (.inl 5) (mm_on (fX5_moveRow q7 (x1 + 1) x1 σ) fun q9 => (fX0_rollUp_21  n a0 (x1 + 1) q9))))
def fX0_rollUp (p0 : Nat) (σ : mm_M) : Option mm_M :=
  mm_sh σ p0 (.inl 0) ((if (mm_I σ p0 2) = 2 then (fX0_rollUp_21  mm_fuel p0 (((mm_I σ p0 3) - (mm_I σ p0 6)) + 1) σ) else some (σ)))
set_option maxHeartbeats 4000000 in
set_option maxRecDepth 100000 in
theorem kX0_rollUp_21 {G : mm_G} {A : Nat → Prop} {ini : Bool × Option (List (Nat × Nat × Nat × Nat))}  {R : mm_M}  : ∀ (a0 : Nat) (x1 : Int32) (σ : mm_M), fX0_rollUp_21  mm_fuel a0 x1 σ = some R → mm_J cd_Y G RX0 cX0_rollUp 2 none ini rmX0_rollUp A (mm_QF cd_Y G A (mm_Pv R) rmX0_rollUp.cells rmX0_rollUp.slots) 21 [(0, .ref a0), (1, .int x1)] [] σ 0 0 := by
  generalize mm_fuel = n
  induction n with
  | zero => intro a0 x1 σ hf; cases hf
  | succ n ih =>
    intro a0 x1 σ hf
    unfold fX0_rollUp_21 at hf
    refine mm_iload_n (j := 1) dX0_rollUp_21 rfl rfl ?_
    refine mm_aload_n (j := 0) dX0_rollUp_22 rfl rfl ?_
    obtain ⟨hs3, hf⟩ := mm_sh_s hf
    refine mm_get (c := 0) (k := 3) (v := .int (mm_I σ a0 3)) cd_ok ⟨_, _, _, rfl, by decide, Or.inl tw_117⟩ hs3 rfl dX0_rollUp_23 ?_
    refine mm_icmp_ge (tgt := 46) dX0_rollUp_26 (by decide) (fun c4 => ?_) (fun c4 => ?_)
    · rw [if_pos c4] at hf
      refine mm_aload_n (j := 0) dX0_rollUp_46 rfl rfl ?_
      refine mm_iconst (v := 0) dX0_rollUp_47 (by decide) ?_
      refine mm_putI (c := 0) (k := 4) cd_ok ⟨_, _, _, rfl, by decide, rfl, Or.inl tw_119⟩ hs3 rfl rfl rfl dX0_rollUp_48 ?_
      obtain ⟨s5, hs5, hf⟩ := mm_let_s hf
      rw [hs5]
      refine mm_aload_n (j := 0) dX0_rollUp_51 rfl rfl ?_
      refine mm_iconst (v := 0) dX0_rollUp_52 (by decide) ?_
      refine mm_putI (c := 0) (k := 5) cd_ok ⟨_, _, _, rfl, by decide, rfl, Or.inl tw_121⟩ (mm_ke hs5 hs3) rfl rfl rfl dX0_rollUp_53 ?_
      obtain ⟨s6, hs6, hf⟩ := mm_let_s hf
      rw [hs6]
      cases hf
      refine mm_widen (ck' := rmX0_rollUp.cells) (sk' := rmX0_rollUp.slots) (Nat.le_of_ble_eq_true rfl) (Nat.le_of_ble_eq_true rfl) ?_
      exact mm_vret rfl dX0_rollUp_56 ⟨rfl, rfl⟩
    · rw [if_neg c4] at hf
      refine mm_aload_n (j := 0) dX0_rollUp_29 rfl rfl ?_
      refine mm_get (c := 0) (k := 0) (v := va_rf (mm_R σ a0 0)) cd_ok ⟨_, _, _, rfl, by decide, Or.inl tw_111⟩ hs3 rfl dX0_rollUp_30 ?_
      refine mm_iload_n (j := 1) dX0_rollUp_33 rfl rfl ?_
      refine mm_iconst (v := 1) dX0_rollUp_34 (by decide) ?_
      refine mm_iadd dX0_rollUp_35 ?_
      refine mm_iload_n (j := 1) dX0_rollUp_36 rfl rfl ?_
      obtain ⟨q7, hq7, hf⟩ := mm_on_s hf
      rw [hq7, mm_rf_some]
      obtain ⟨hs8, hf⟩ := mm_sh_s hf
      obtain ⟨q9, hq9, hf⟩ := mm_on_s hf
      refine mm_callVv cd_ok (kX5_moveRow q7 (x1 + 1) x1 hq9) hs8 rfl (Or.inl tw_364) cdX5_moveRow tw_365 tw_366 nmX5_moveRow rfl rfl (by simp only [List.map_cons, List.map_nil, mm_rf_cat]; exact Nat.le_of_ble_eq_true rfl) dX0_rollUp_37 ⟨Nat.le_of_ble_eq_true rfl, Nat.le_of_ble_eq_true rfl⟩ ⟨Nat.le_of_ble_eq_true rfl, Nat.le_of_ble_eq_true rfl⟩ ?_
      refine mm_iinc (j := 1) (L' := [(1, .int (x1 + 1)), (0, .ref a0)]) dX0_rollUp_40 rfl rfl (by decide) rfl ?_
      refine mm_goto (tgt := 21) dX0_rollUp_43 (by decide) ?_
      refine mm_sub [1, 0] rfl ?_
      exact ih a0 (x1 + 1) q9 hf
set_option maxHeartbeats 4000000 in
set_option maxRecDepth 100000 in
theorem kX0_rollUp {G : mm_G} {A : Nat → Prop} (p0 : Nat) {σ : mm_M} {R : mm_M} (hf : fX0_rollUp p0 σ = some R) : mm_C cd_Y G yX0_rollUp cX0_rollUp 2 none rmX0_rollUp A [.ref p0] σ (mm_Pv R) := by
  refine mm_C.of (by decide) (Nat.le_of_ble_eq_true rfl) ?_
  unfold fX0_rollUp at hf
  have e0 : lv_args 0 [.ref p0] = [(0, .ref p0)] := rfl
  rw [e0]
  generalize hini : ((yX0_rollUp.name == "<init>"), none) = ini
  clear e0
  clear hini
  refine mm_aload_n (j := 0) dX0_rollUp_0 rfl rfl ?_
  obtain ⟨hs1, hf⟩ := mm_sh_s hf
  refine mm_get (c := 0) (k := 2) (v := .int (mm_I σ p0 2)) cd_ok ⟨_, _, _, rfl, by decide, Or.inl tw_115⟩ hs1 rfl dX0_rollUp_1 ?_
  refine mm_iconst (v := 2) dX0_rollUp_4 (by decide) ?_
  refine mm_icmp_eq (tgt := 9) dX0_rollUp_5 (by decide) (fun c2 => ?_) (fun c2 => ?_)
  · rw [if_pos c2] at hf
    refine mm_aload_n (j := 0) dX0_rollUp_9 rfl rfl ?_
    refine mm_get (c := 0) (k := 3) (v := .int (mm_I σ p0 3)) cd_ok ⟨_, _, _, rfl, by decide, Or.inl tw_117⟩ hs1 rfl dX0_rollUp_10 ?_
    refine mm_aload_n (j := 0) dX0_rollUp_13 rfl rfl ?_
    refine mm_get (c := 0) (k := 6) (v := .int (mm_I σ p0 6)) cd_ok ⟨_, _, _, rfl, by decide, Or.inl tw_123⟩ hs1 rfl dX0_rollUp_14 ?_
    refine mm_isub dX0_rollUp_17 ?_
    refine mm_iconst (v := 1) dX0_rollUp_18 (by decide) ?_
    refine mm_iadd dX0_rollUp_19 ?_
    refine mm_istore_n (L' := [(1, .int (((mm_I σ p0 3) - (mm_I σ p0 6)) + 1)), (0, .ref p0)]) dX0_rollUp_20 rfl (by decide) rfl ?_
    refine mm_sub [1, 0] rfl ?_
    exact kX0_rollUp_21  p0 (((mm_I σ p0 3) - (mm_I σ p0 6)) + 1) σ hf
  · rw [if_neg c2] at hf
    cases hf
    refine mm_widen (ck' := rmX0_rollUp.cells) (sk' := rmX0_rollUp.slots) (Nat.le_of_ble_eq_true rfl) (Nat.le_of_ble_eq_true rfl) ?_
    exact mm_vret rfl dX0_rollUp_8 ⟨rfl, rfl⟩
theorem dX3_become_0 : decode cX3_become 0 = .ok (.aload_n 0, 1) := by decide +kernel
theorem dX3_become_1 : decode cX3_become 1 = .ok (.iload_n 1, 1) := by decide +kernel
theorem dX3_become_2 : decode cX3_become 2 = .ok (.putfield 22, 3) := by decide +kernel
theorem dX3_become_5 : decode cX3_become 5 = .ok (.aload_n 0, 1) := by decide +kernel
theorem dX3_become_6 : decode cX3_become 6 = .ok (.iload_n 2, 1) := by decide +kernel
theorem dX3_become_7 : decode cX3_become 7 = .ok (.putfield 26, 3) := by decide +kernel
theorem dX3_become_10 : decode cX3_become 10 = .ok (.aload_n 0, 1) := by decide +kernel
theorem dX3_become_11 : decode cX3_become 11 = .ok (.iload_n 3, 1) := by decide +kernel
theorem dX3_become_12 : decode cX3_become 12 = .ok (.putfield 29, 3) := by decide +kernel
theorem dX3_become_15 : decode cX3_become 15 = .ok (.aload_n 0, 1) := by decide +kernel
theorem dX3_become_16 : decode cX3_become 16 = .ok (.iconst 0, 1) := by decide +kernel
theorem dX3_become_17 : decode cX3_become 17 = .ok (.putfield 32, 3) := by decide +kernel
theorem dX3_become_20 : decode cX3_become 20 = .ok (.aload_n 0, 1) := by decide +kernel
theorem dX3_become_21 : decode cX3_become 21 = .ok (.iconst 0, 1) := by decide +kernel
theorem dX3_become_22 : decode cX3_become 22 = .ok (.putfield 35, 3) := by decide +kernel
theorem dX3_become_25 : decode cX3_become 25 = .ok (.aload_n 0, 1) := by decide +kernel
theorem dX3_become_26 : decode cX3_become 26 = .ok (.iconst 0, 1) := by decide +kernel
theorem dX3_become_27 : decode cX3_become 27 = .ok (.putfield 39, 3) := by decide +kernel
theorem dX3_become_30 : decode cX3_become 30 = .ok (.aload_n 0, 1) := by decide +kernel
theorem dX3_become_31 : decode cX3_become 31 = .ok (.iconst 0, 1) := by decide +kernel
theorem dX3_become_32 : decode cX3_become 32 = .ok (.putfield 42, 3) := by decide +kernel
theorem dX3_become_35 : decode cX3_become 35 = .ok (.aload_n 0, 1) := by decide +kernel
theorem dX3_become_36 : decode cX3_become 36 = .ok (.getfield 12, 3) := by decide +kernel
theorem dX3_become_39 : decode cX3_become 39 = .ok (.iconst 0, 1) := by decide +kernel
theorem dX3_become_40 : decode cX3_become 40 = .ok (.invokevirtual 45, 3) := by decide +kernel
theorem dX3_become_43 : decode cX3_become 43 = .ok (.aload_n 0, 1) := by decide +kernel
theorem dX3_become_44 : decode cX3_become 44 = .ok (.invokevirtual 49, 3) := by decide +kernel
theorem dX3_become_47 : decode cX3_become 47 = .ok (.return_, 1) := by decide +kernel
theorem nmX3_become : mm_nm yX3_become 3 := ⟨by decide, by decide, by decide +kernel⟩
theorem cdX3_become : mm_cd cd_Y yX3_become cX3_become 4 none := ⟨tw_588, tw_17⟩
abbrev rmX3_become : Room := { frames := 2, cells := 0, slots := 0, locals := 46 }
def fX3_become (p0 : Nat) (p1 : Int32) (p2 : Int32) (p3 : Int32) (σ : mm_M) : Option mm_M :=
  mm_sh σ p0 (.inl 3) (mm_let (mm_wI σ p0 2 p1) fun s2 => mm_let (mm_wI s2 p0 3 p2) fun s3 => mm_let (mm_wI s3 p0 4 p3) fun s4 => mm_let (mm_wI s4 p0 5 0) fun s5 => mm_let (mm_wI s5 p0 6 0) fun s6 => mm_let (mm_wI s6 p0 7 0) fun s7 => mm_let (mm_wI s7 p0 8 0) fun s8 => mm_on (mm_R s8 p0 0) fun q9 => mm_sh s8 q9 (.inl 4) (mm_on (fX4_eraseRows q9 0 s8) fun q11 => mm_sh q11 p0 (.inl 3) (mm_on (fX3_eraseLinks p0 q11) fun q13 => some (q13))))
set_option maxHeartbeats 4000000 in
set_option maxRecDepth 100000 in
theorem kX3_become {G : mm_G} {A : Nat → Prop} (p0 : Nat) (p1 : Int32) (p2 : Int32) (p3 : Int32) {σ : mm_M} {R : mm_M} (hf : fX3_become p0 p1 p2 p3 σ = some R) : mm_C cd_Y G yX3_become cX3_become 4 none rmX3_become A [.ref p0, .int p1, .int p2, .int p3] σ (mm_Pv R) := by
  refine mm_C.of (by decide) (Nat.le_of_ble_eq_true rfl) ?_
  unfold fX3_become at hf
  have e0 : lv_args 0 [.ref p0, .int p1, .int p2, .int p3] = [(0, .ref p0), (1, .int p1), (2, .int p2), (3, .int p3)] := rfl
  rw [e0]
  generalize hini : ((yX3_become.name == "<init>"), none) = ini
  clear e0
  clear hini
  refine mm_aload_n (j := 0) dX3_become_0 rfl rfl ?_
  refine mm_iload_n (j := 1) dX3_become_1 rfl rfl ?_
  obtain ⟨hs1, hf⟩ := mm_sh_s hf
  refine mm_putI (c := 3) (k := 2) cd_ok ⟨_, _, _, rfl, by decide, rfl, Or.inl tw_546⟩ hs1 rfl rfl rfl dX3_become_2 ?_
  obtain ⟨s2, hs2, hf⟩ := mm_let_s hf
  rw [hs2]
  refine mm_aload_n (j := 0) dX3_become_5 rfl rfl ?_
  refine mm_iload_n (j := 2) dX3_become_6 rfl rfl ?_
  refine mm_putI (c := 3) (k := 3) cd_ok ⟨_, _, _, rfl, by decide, rfl, Or.inl tw_549⟩ (mm_ke hs2 hs1) rfl rfl rfl dX3_become_7 ?_
  obtain ⟨s3, hs3, hf⟩ := mm_let_s hf
  rw [hs3]
  refine mm_aload_n (j := 0) dX3_become_10 rfl rfl ?_
  refine mm_iload_n (j := 3) dX3_become_11 rfl rfl ?_
  refine mm_putI (c := 3) (k := 4) cd_ok ⟨_, _, _, rfl, by decide, rfl, Or.inl tw_551⟩ (mm_ke hs3 (mm_ke hs2 hs1)) rfl rfl rfl dX3_become_12 ?_
  obtain ⟨s4, hs4, hf⟩ := mm_let_s hf
  rw [hs4]
  refine mm_aload_n (j := 0) dX3_become_15 rfl rfl ?_
  refine mm_iconst (v := 0) dX3_become_16 (by decide) ?_
  refine mm_putI (c := 3) (k := 5) cd_ok ⟨_, _, _, rfl, by decide, rfl, Or.inl tw_553⟩ (mm_ke hs4 (mm_ke hs3 (mm_ke hs2 hs1))) rfl rfl rfl dX3_become_17 ?_
  obtain ⟨s5, hs5, hf⟩ := mm_let_s hf
  rw [hs5]
  refine mm_aload_n (j := 0) dX3_become_20 rfl rfl ?_
  refine mm_iconst (v := 0) dX3_become_21 (by decide) ?_
  refine mm_putI (c := 3) (k := 6) cd_ok ⟨_, _, _, rfl, by decide, rfl, Or.inl tw_555⟩ (mm_ke hs5 (mm_ke hs4 (mm_ke hs3 (mm_ke hs2 hs1)))) rfl rfl rfl dX3_become_22 ?_
  obtain ⟨s6, hs6, hf⟩ := mm_let_s hf
  rw [hs6]
  refine mm_aload_n (j := 0) dX3_become_25 rfl rfl ?_
  refine mm_iconst (v := 0) dX3_become_26 (by decide) ?_
  refine mm_putI (c := 3) (k := 7) cd_ok ⟨_, _, _, rfl, by decide, rfl, Or.inl tw_558⟩ (mm_ke hs6 (mm_ke hs5 (mm_ke hs4 (mm_ke hs3 (mm_ke hs2 hs1))))) rfl rfl rfl dX3_become_27 ?_
  obtain ⟨s7, hs7, hf⟩ := mm_let_s hf
  rw [hs7]
  refine mm_aload_n (j := 0) dX3_become_30 rfl rfl ?_
  refine mm_iconst (v := 0) dX3_become_31 (by decide) ?_
  refine mm_putI (c := 3) (k := 8) cd_ok ⟨_, _, _, rfl, by decide, rfl, Or.inl tw_560⟩ (mm_ke hs7 (mm_ke hs6 (mm_ke hs5 (mm_ke hs4 (mm_ke hs3 (mm_ke hs2 hs1)))))) rfl rfl rfl dX3_become_32 ?_
  obtain ⟨s8, hs8, hf⟩ := mm_let_s hf
  rw [hs8]
  refine mm_aload_n (j := 0) dX3_become_35 rfl rfl ?_
  refine mm_get (c := 3) (k := 0) (v := va_rf (mm_R s8 p0 0)) cd_ok ⟨_, _, _, rfl, by decide, Or.inl tw_541⟩ (mm_ke hs8 (mm_ke hs7 (mm_ke hs6 (mm_ke hs5 (mm_ke hs4 (mm_ke hs3 (mm_ke hs2 hs1))))))) rfl dX3_become_36 ?_
  refine mm_iconst (v := 0) dX3_become_39 (by decide) ?_
  obtain ⟨q9, hq9, hf⟩ := mm_on_s hf
  rw [hq9, mm_rf_some]
  obtain ⟨hs10, hf⟩ := mm_sh_s hf
  obtain ⟨q11, hq11, hf⟩ := mm_on_s hf
  refine mm_callVv cd_ok (kX4_eraseRows q9 0 hq11) hs10 rfl (Or.inl tw_589) cdX4_eraseRows tw_590 tw_591 nmX4_eraseRows rfl rfl (by simp only [List.map_cons, List.map_nil, mm_rf_cat]; exact Nat.le_of_ble_eq_true rfl) dX3_become_40 ⟨Nat.le_of_ble_eq_true rfl, Nat.le_of_ble_eq_true rfl⟩ ⟨Nat.le_of_ble_eq_true rfl, Nat.le_of_ble_eq_true rfl⟩ ?_
  refine mm_aload_n (j := 0) dX3_become_43 rfl rfl ?_
  obtain ⟨hs12, hf⟩ := mm_sh_s hf
  obtain ⟨q13, hq13, hf⟩ := mm_on_s hf
  refine mm_callVv cd_ok (kX3_eraseLinks p0 hq13) hs12 rfl (Or.inl tw_598) cdX3_eraseLinks tw_599 tw_600 nmX3_eraseLinks rfl rfl (by simp only [List.map_cons, List.map_nil, mm_rf_cat]; exact Nat.le_of_ble_eq_true rfl) dX3_become_44 ⟨Nat.le_of_ble_eq_true rfl, Nat.le_of_ble_eq_true rfl⟩ ⟨Nat.le_of_ble_eq_true rfl, Nat.le_of_ble_eq_true rfl⟩ ?_
  cases hf
  refine mm_widen (ck' := rmX3_become.cells) (sk' := rmX3_become.slots) (Nat.le_of_ble_eq_true rfl) (Nat.le_of_ble_eq_true rfl) ?_
  exact mm_vret rfl dX3_become_47 ⟨rfl, rfl⟩
theorem dX4_fill_0 : decode cX4_fill 0 = .ok (.iload_n 1, 1) := by decide +kernel
theorem dX4_fill_1 : decode cX4_fill 1 = .ok (.bipush 25, 2) := by decide +kernel
theorem dX4_fill_3 : decode cX4_fill 3 = .ok (.invokestatic 19, 3) := by decide +kernel
theorem dX4_fill_6 : decode cX4_fill 6 = .ok (.ifCond .eq 4, 3) := by decide +kernel
theorem dX4_fill_9 : decode cX4_fill 9 = .ok (.return_, 1) := by decide +kernel
theorem dX4_fill_10 : decode cX4_fill 10 = .ok (.aload_n 0, 1) := by decide +kernel
theorem dX4_fill_11 : decode cX4_fill 11 = .ok (.iload_n 1, 1) := by decide +kernel
theorem dX4_fill_12 : decode cX4_fill 12 = .ok (.aload_n 0, 1) := by decide +kernel
theorem dX4_fill_13 : decode cX4_fill 13 = .ok (.getfield 15, 3) := by decide +kernel
theorem dX4_fill_16 : decode cX4_fill 16 = .ok (.iload_n 1, 1) := by decide +kernel
theorem dX4_fill_17 : decode cX4_fill 17 = .ok (.baload, 1) := by decide +kernel
theorem dX4_fill_18 : decode cX4_fill 18 = .ok (.ifCond .eq 7, 3) := by decide +kernel
theorem dX4_fill_21 : decode cX4_fill 21 = .ok (.iload_n 2, 1) := by decide +kernel
theorem dX4_fill_22 : decode cX4_fill 22 = .ok (.goto 5, 3) := by decide +kernel
theorem dX4_fill_25 : decode cX4_fill 25 = .ok (.bipush 40, 2) := by decide +kernel
theorem dX4_fill_27 : decode cX4_fill 27 = .ok (.bipush 32, 2) := by decide +kernel
theorem dX4_fill_29 : decode cX4_fill 29 = .ok (.invokevirtual 29, 3) := by decide +kernel
theorem dX4_fill_32 : decode cX4_fill 32 = .ok (.aload_n 0, 1) := by decide +kernel
theorem dX4_fill_33 : decode cX4_fill 33 = .ok (.getfield 15, 3) := by decide +kernel
theorem dX4_fill_36 : decode cX4_fill 36 = .ok (.iload_n 1, 1) := by decide +kernel
theorem dX4_fill_37 : decode cX4_fill 37 = .ok (.iconst 1, 1) := by decide +kernel
theorem dX4_fill_38 : decode cX4_fill 38 = .ok (.bastore, 1) := by decide +kernel
theorem dX4_fill_39 : decode cX4_fill 39 = .ok (.iload_n 2, 1) := by decide +kernel
theorem dX4_fill_40 : decode cX4_fill 40 = .ok (.iconst 0, 1) := by decide +kernel
theorem dX4_fill_41 : decode cX4_fill 41 = .ok (.invokestatic 23, 3) := by decide +kernel
theorem dX4_fill_44 : decode cX4_fill 44 = .ok (.istore 5, 2) := by decide +kernel
theorem dX4_fill_46 : decode cX4_fill 46 = .ok (.iload 5, 2) := by decide +kernel
theorem dX4_fill_48 : decode cX4_fill 48 = .ok (.bipush 40, 2) := by decide +kernel
theorem dX4_fill_50 : decode cX4_fill 50 = .ok (.if_icmp .ge 57, 3) := by decide +kernel
theorem dX4_fill_53 : decode cX4_fill 53 = .ok (.iload 4, 2) := by decide +kernel
theorem dX4_fill_55 : decode cX4_fill 55 = .ok (.iload 5, 2) := by decide +kernel
theorem dX4_fill_57 : decode cX4_fill 57 = .ok (.iadd, 1) := by decide +kernel
theorem dX4_fill_58 : decode cX4_fill 58 = .ok (.iload_n 2, 1) := by decide +kernel
theorem dX4_fill_59 : decode cX4_fill 59 = .ok (.isub, 1) := by decide +kernel
theorem dX4_fill_60 : decode cX4_fill 60 = .ok (.istore 6, 2) := by decide +kernel
theorem dX4_fill_62 : decode cX4_fill 62 = .ok (.iload 6, 2) := by decide +kernel
theorem dX4_fill_64 : decode cX4_fill 64 = .ok (.aload_n 3, 1) := by decide +kernel
theorem dX4_fill_65 : decode cX4_fill 65 = .ok (.arraylength, 1) := by decide +kernel
theorem dX4_fill_66 : decode cX4_fill 66 = .ok (.invokestatic 19, 3) := by decide +kernel
theorem dX4_fill_69 : decode cX4_fill 69 = .ok (.ifCond .ne 32, 3) := by decide +kernel
theorem dX4_fill_72 : decode cX4_fill 72 = .ok (.aload_n 3, 1) := by decide +kernel
theorem dX4_fill_73 : decode cX4_fill 73 = .ok (.iload 6, 2) := by decide +kernel
theorem dX4_fill_75 : decode cX4_fill 75 = .ok (.iaload, 1) := by decide +kernel
theorem dX4_fill_76 : decode cX4_fill 76 = .ok (.invokestatic 33, 3) := by decide +kernel
theorem dX4_fill_79 : decode cX4_fill 79 = .ok (.ifCond .eq 22, 3) := by decide +kernel
theorem dX4_fill_82 : decode cX4_fill 82 = .ok (.aload_n 0, 1) := by decide +kernel
theorem dX4_fill_83 : decode cX4_fill 83 = .ok (.getfield 9, 3) := by decide +kernel
theorem dX4_fill_86 : decode cX4_fill 86 = .ok (.iload_n 1, 1) := by decide +kernel
theorem dX4_fill_87 : decode cX4_fill 87 = .ok (.bipush 40, 2) := by decide +kernel
theorem dX4_fill_89 : decode cX4_fill 89 = .ok (.imul, 1) := by decide +kernel
theorem dX4_fill_90 : decode cX4_fill 90 = .ok (.iload 5, 2) := by decide +kernel
theorem dX4_fill_92 : decode cX4_fill 92 = .ok (.iadd, 1) := by decide +kernel
theorem dX4_fill_93 : decode cX4_fill 93 = .ok (.aload_n 3, 1) := by decide +kernel
theorem dX4_fill_94 : decode cX4_fill 94 = .ok (.iload 6, 2) := by decide +kernel
theorem dX4_fill_96 : decode cX4_fill 96 = .ok (.iaload, 1) := by decide +kernel
theorem dX4_fill_97 : decode cX4_fill 97 = .ok (.bipush 127, 2) := by decide +kernel
theorem dX4_fill_99 : decode cX4_fill 99 = .ok (.iand, 1) := by decide +kernel
theorem dX4_fill_100 : decode cX4_fill 100 = .ok (.iastore, 1) := by decide +kernel
theorem dX4_fill_101 : decode cX4_fill 101 = .ok (.iinc 5 1, 3) := by decide +kernel
theorem dX4_fill_104 : decode cX4_fill 104 = .ok (.goto (-58), 3) := by decide +kernel
theorem dX4_fill_107 : decode cX4_fill 107 = .ok (.return_, 1) := by decide +kernel
theorem nmX4_fill : mm_nm yX4_fill 4 := ⟨by decide, by decide, by decide +kernel⟩
theorem cdX4_fill : mm_cd cd_Y yX4_fill cX4_fill 7 none := ⟨tw_615, tw_4⟩
abbrev rmX4_fill : Room := { frames := 2, cells := 0, slots := 0, locals := 40 }
def fX4_fill_46  : Nat → Nat → Int32 → Int32 → Nat → Int32 → Int32 → mm_M → Option mm_M
  | 0 => fun _ _ _ _ _ _ _ => none
  | n + 1 => fun a0 x1 x2 a3 x4 x5 σ =>
  (if 40 ≤ x5 then some (σ) else mm_ar σ a3 0 fun n15 => (if (fX8_isOutside ((x4 + x5) - x2) (Int32.ofNat n15)) = 0 then mm_ib ((x4 + x5) - x2) n15 ((if (fX8_isRight (mm_I σ a3 ((x4 + x5) - x2).toNatClampNeg)) = 0 then (fX4_fill_46  n a0 x1 x2 a3 x4 (x5 + 1) σ) else mm_sh σ a0 (.inl 4) (mm_ib ((x4 + x5) - x2) n15 (mm_on (mm_R σ a0 0) fun q21 => mm_ar σ q21 0 fun n22 => mm_ib ((x1 * 40) + x5) n22 (mm_let (mm_wI σ q21 (((x1 * 40) + x5).toNatClampNeg) ((mm_I σ a3 ((x4 + x5) - x2).toNatClampNeg) &&& 127)) fun s24 => (fX4_fill_46  n a0 x1 x2 a3 x4 (x5 + 1) s24)))))) else (fX4_fill_46  n a0 x1 x2 a3 x4 (x5 + 1) σ)))
def fX4_fill_27  (a0 : Nat) (x1 : Int32) (x2 : Int32) (a3 : Nat) (x4 : Int32) (y0 : Int32) (y1 : Int32) (y2 : Nat) (σ : mm_M) : Option mm_M :=
  mm_sh σ y2 (.inl 4) (mm_on (fX4_setSigns y2 y1 y0 32 σ) fun q8 => mm_sh q8 a0 (.inl 4) (mm_on (mm_R q8 a0 1) fun q10 => mm_ar q8 q10 1 fun n11 => mm_ib x1 n11 (mm_let (mm_wI q8 q10 (x1.toNatClampNeg) (vp_nar .boolean 1)) fun s13 => (fX4_fill_46  mm_fuel a0 x1 x2 a3 x4 (if x2 < 0 then 0 else x2) s13))))
def fX4_fill (p0 : Nat) (p1 : Int32) (p2 : Int32) (p3 : Nat) (p4 : Int32) (σ : mm_M) : Option mm_M :=
  (if (fX8_isOutside p1 25) = 0 then mm_sh σ p0 (.inl 4) (mm_on (mm_R σ p0 1) fun q3 => mm_ar σ q3 1 fun n4 => mm_ib p1 n4 ((if (mm_I σ q3 p1.toNatClampNeg) = 0 then (fX4_fill_27  p0 p1 p2 p3 p4 40 p1 p0 σ) else (fX4_fill_27  p0 p1 p2 p3 p4 p2 p1 p0 σ)))) else some (σ))
set_option maxHeartbeats 4000000 in
set_option maxRecDepth 100000 in
theorem kX4_fill_46 {G : mm_G} {A : Nat → Prop} {ini : Bool × Option (List (Nat × Nat × Nat × Nat))}  {R : mm_M}  : ∀ (a0 : Nat) (x1 : Int32) (x2 : Int32) (a3 : Nat) (x4 : Int32) (x5 : Int32) (σ : mm_M), fX4_fill_46  mm_fuel a0 x1 x2 a3 x4 x5 σ = some R → mm_J cd_Y G RX4 cX4_fill 7 none ini rmX4_fill A (mm_QF cd_Y G A (mm_Pv R) rmX4_fill.cells rmX4_fill.slots) 46 [(0, .ref a0), (1, .int x1), (2, .int x2), (3, .ref a3), (4, .int x4), (5, .int x5)] [] σ 0 0 := by
  generalize mm_fuel = n
  induction n with
  | zero => intro a0 x1 x2 a3 x4 x5 σ hf; cases hf
  | succ n ih =>
    intro a0 x1 x2 a3 x4 x5 σ hf
    unfold fX4_fill_46 at hf
    refine mm_iload (j := 5) dX4_fill_46 rfl ?_
    refine mm_bipush (v := 40) dX4_fill_48 (by decide) ?_
    refine mm_icmp_ge (tgt := 107) dX4_fill_50 (by decide) (fun c14 => ?_) (fun c14 => ?_)
    · rw [if_pos c14] at hf
      cases hf
      refine mm_widen (ck' := rmX4_fill.cells) (sk' := rmX4_fill.slots) (Nat.le_of_ble_eq_true rfl) (Nat.le_of_ble_eq_true rfl) ?_
      exact mm_vret rfl dX4_fill_107 ⟨rfl, rfl⟩
    · rw [if_neg c14] at hf
      refine mm_iload (j := 4) dX4_fill_53 rfl ?_
      refine mm_iload (j := 5) dX4_fill_55 rfl ?_
      refine mm_iadd dX4_fill_57 ?_
      refine mm_iload_n (j := 2) dX4_fill_58 rfl rfl ?_
      refine mm_isub dX4_fill_59 ?_
      refine mm_istore (L' := [(6, .int ((x4 + x5) - x2)), (0, .ref a0), (1, .int x1), (2, .int x2), (3, .ref a3), (4, .int x4), (5, .int x5)]) dX4_fill_60 (by decide) rfl ?_
      refine mm_iload (j := 0) dX4_fill_62 rfl ?_
      refine mm_aload_n (j := 4) dX4_fill_64 rfl rfl ?_
      obtain ⟨n15, hn15, hf⟩ := mm_ar_s hf
      refine mm_alen (v := Int32.ofNat n15) hn15 rfl rfl dX4_fill_65 ?_
      refine mm_callSi cd_ok (kX8_isOutside ((x4 + x5) - x2) (Int32.ofNat n15) _ rfl) (Or.inr ⟨_, tn_40⟩) cdX8_isOutside tw_221 nmX8_isOutside rfl rfl (by simp only [List.map_cons, List.map_nil, mm_rf_cat]; exact Nat.le_of_ble_eq_true rfl) dX4_fill_66 ⟨Nat.le_of_ble_eq_true rfl, Nat.le_of_ble_eq_true rfl⟩ ⟨Nat.le_of_ble_eq_true rfl, Nat.le_of_ble_eq_true rfl⟩ ?_
      refine mm_if_ne (tgt := 101) dX4_fill_69 (by decide) (fun c16 => ?_) (fun c16 => ?_)
      · rw [if_neg c16] at hf
        refine mm_iinc (j := 6) (L' := [(5, .int (x5 + 1)), (6, .int ((x4 + x5) - x2)), (0, .ref a0), (1, .int x1), (2, .int x2), (3, .ref a3), (4, .int x4)]) dX4_fill_101 rfl rfl (by decide) rfl ?_
        refine mm_goto (tgt := 46) dX4_fill_104 (by decide) ?_
        refine mm_sub [2, 3, 4, 5, 6, 0] rfl ?_
        exact ih a0 x1 x2 a3 x4 (x5 + 1) σ hf
      · rw [if_pos c16] at hf
        refine mm_aload_n (j := 4) dX4_fill_72 rfl rfl ?_
        refine mm_iload (j := 0) dX4_fill_73 rfl ?_
        obtain ⟨hi17, hf⟩ := mm_ib_s hf
        refine mm_iald hn15 rfl hi17 dX4_fill_75 ?_
        refine mm_callSi cd_ok (kX8_isRight (mm_I σ a3 ((x4 + x5) - x2).toNatClampNeg) _ rfl) (Or.inr ⟨_, tn_41⟩) cdX8_isRight tw_312 nmX8_isRight rfl rfl (by simp only [List.map_cons, List.map_nil, mm_rf_cat]; exact Nat.le_of_ble_eq_true rfl) dX4_fill_76 ⟨Nat.le_of_ble_eq_true rfl, Nat.le_of_ble_eq_true rfl⟩ ⟨Nat.le_of_ble_eq_true rfl, Nat.le_of_ble_eq_true rfl⟩ ?_
        refine mm_if_eq (tgt := 101) dX4_fill_79 (by decide) (fun c18 => ?_) (fun c18 => ?_)
        · rw [if_pos c18] at hf
          refine mm_iinc (j := 6) (L' := [(5, .int (x5 + 1)), (6, .int ((x4 + x5) - x2)), (0, .ref a0), (1, .int x1), (2, .int x2), (3, .ref a3), (4, .int x4)]) dX4_fill_101 rfl rfl (by decide) rfl ?_
          refine mm_goto (tgt := 46) dX4_fill_104 (by decide) ?_
          refine mm_sub [2, 3, 4, 5, 6, 0] rfl ?_
          exact ih a0 x1 x2 a3 x4 (x5 + 1) σ hf
        · rw [if_neg c18] at hf
          refine mm_aload_n (j := 1) dX4_fill_82 rfl rfl ?_
          obtain ⟨hs19, hf⟩ := mm_sh_s hf
          refine mm_get (c := 4) (k := 0) (v := va_rf (mm_R σ a0 0)) cd_ok ⟨_, _, _, rfl, by decide, Or.inl tw_59⟩ hs19 rfl dX4_fill_83 ?_
          refine mm_iload_n (j := 2) dX4_fill_86 rfl rfl ?_
          refine mm_bipush (v := 40) dX4_fill_87 (by decide) ?_
          refine mm_imul dX4_fill_89 ?_
          refine mm_iload (j := 6) dX4_fill_90 rfl ?_
          refine mm_iadd dX4_fill_92 ?_
          refine mm_aload_n (j := 4) dX4_fill_93 rfl rfl ?_
          refine mm_iload (j := 0) dX4_fill_94 rfl ?_
          obtain ⟨hi20, hf⟩ := mm_ib_s hf
          refine mm_iald hn15 rfl hi20 dX4_fill_96 ?_
          refine mm_bipush (v := 127) dX4_fill_97 (by decide) ?_
          refine mm_iand dX4_fill_99 ?_
          obtain ⟨q21, hq21, hf⟩ := mm_on_s hf
          rw [hq21, mm_rf_some]
          obtain ⟨n22, hn22, hf⟩ := mm_ar_s hf
          obtain ⟨hi23, hf⟩ := mm_ib_s hf
          refine mm_iast hn22 rfl hi23 dX4_fill_100 ?_
          obtain ⟨s24, hs24, hf⟩ := mm_let_s hf
          rw [hs24]
          refine mm_iinc (j := 6) (L' := [(5, .int (x5 + 1)), (6, .int ((x4 + x5) - x2)), (0, .ref a0), (1, .int x1), (2, .int x2), (3, .ref a3), (4, .int x4)]) dX4_fill_101 rfl rfl (by decide) rfl ?_
          refine mm_goto (tgt := 46) dX4_fill_104 (by decide) ?_
          refine mm_sub [2, 3, 4, 5, 6, 0] rfl ?_
          exact ih a0 x1 x2 a3 x4 (x5 + 1) s24 hf
set_option maxHeartbeats 4000000 in
set_option maxRecDepth 100000 in
theorem kX4_fill_27 {G : mm_G} {A : Nat → Prop} {ini : Bool × Option (List (Nat × Nat × Nat × Nat))}  {R : mm_M}  (a0 : Nat) (x1 : Int32) (x2 : Int32) (a3 : Nat) (x4 : Int32) (y0 : Int32) (y1 : Int32) (y2 : Nat) (σ : mm_M) (hf : fX4_fill_27  a0 x1 x2 a3 x4 y0 y1 y2 σ = some R) : mm_J cd_Y G RX4 cX4_fill 7 none ini rmX4_fill A (mm_QF cd_Y G A (mm_Pv R) rmX4_fill.cells rmX4_fill.slots) 27 [(0, .ref a0), (1, .int x1), (2, .int x2), (3, .ref a3), (4, .int x4)] [.int y0, .int y1, .ref y2] σ 0 0 := by
  unfold fX4_fill_27 at hf
  refine mm_bipush (v := 32) dX4_fill_27 (by decide) ?_
  obtain ⟨hs7, hf⟩ := mm_sh_s hf
  obtain ⟨q8, hq8, hf⟩ := mm_on_s hf
  refine mm_callVv cd_ok (kX4_setSigns y2 y1 y0 32 hq8) hs7 rfl (Or.inl tw_594) cdX4_setSigns tw_596 ts_22 nmX4_setSigns rfl rfl (by simp only [List.map_cons, List.map_nil, mm_rf_cat]; exact Nat.le_of_ble_eq_true rfl) dX4_fill_29 ⟨Nat.le_of_ble_eq_true rfl, Nat.le_of_ble_eq_true rfl⟩ ⟨Nat.le_of_ble_eq_true rfl, Nat.le_of_ble_eq_true rfl⟩ ?_
  refine mm_aload_n (j := 0) dX4_fill_32 rfl rfl ?_
  obtain ⟨hs9, hf⟩ := mm_sh_s hf
  refine mm_get (c := 4) (k := 1) (v := va_rf (mm_R q8 a0 1)) cd_ok ⟨_, _, _, rfl, by decide, Or.inl tw_60⟩ hs9 rfl dX4_fill_33 ?_
  refine mm_iload_n (j := 1) dX4_fill_36 rfl rfl ?_
  refine mm_iconst (v := 1) dX4_fill_37 (by decide) ?_
  obtain ⟨q10, hq10, hf⟩ := mm_on_s hf
  rw [hq10, mm_rf_some]
  obtain ⟨n11, hn11, hf⟩ := mm_ar_s hf
  obtain ⟨hi12, hf⟩ := mm_ib_s hf
  refine mm_zast hn11 rfl hi12 dX4_fill_38 ?_
  obtain ⟨s13, hs13, hf⟩ := mm_let_s hf
  rw [hs13]
  refine mm_iload_n (j := 2) dX4_fill_39 rfl rfl ?_
  refine mm_iconst (v := 0) dX4_fill_40 (by decide) ?_
  refine mm_mmax tw_593 tw_358 tw_14 tw_359 (by decide) (by simp only [List.map_cons, List.map_nil, mm_rf_cat]; exact Nat.le_of_ble_eq_true rfl) (by decide) (by decide) dX4_fill_41 ?_
  refine mm_istore (L' := [(5, .int (if x2 < 0 then 0 else x2)), (0, .ref a0), (1, .int x1), (2, .int x2), (3, .ref a3), (4, .int x4)]) dX4_fill_44 (by decide) rfl ?_
  refine mm_sub [1, 2, 3, 4, 5, 0] rfl ?_
  exact kX4_fill_46  a0 x1 x2 a3 x4 (if x2 < 0 then 0 else x2) s13 hf
set_option maxHeartbeats 4000000 in
set_option maxRecDepth 100000 in
theorem kX4_fill {G : mm_G} {A : Nat → Prop} (p0 : Nat) (p1 : Int32) (p2 : Int32) (p3 : Nat) (p4 : Int32) {σ : mm_M} {R : mm_M} (hf : fX4_fill p0 p1 p2 p3 p4 σ = some R) : mm_C cd_Y G yX4_fill cX4_fill 7 none rmX4_fill A [.ref p0, .int p1, .int p2, .ref p3, .int p4] σ (mm_Pv R) := by
  refine mm_C.of (by decide) (Nat.le_of_ble_eq_true rfl) ?_
  unfold fX4_fill at hf
  have e0 : lv_args 0 [.ref p0, .int p1, .int p2, .ref p3, .int p4] = [(0, .ref p0), (1, .int p1), (2, .int p2), (3, .ref p3), (4, .int p4)] := rfl
  rw [e0]
  generalize hini : ((yX4_fill.name == "<init>"), none) = ini
  clear e0
  clear hini
  refine mm_iload_n (j := 1) dX4_fill_0 rfl rfl ?_
  refine mm_bipush (v := 25) dX4_fill_1 (by decide) ?_
  refine mm_callSi cd_ok (kX8_isOutside p1 25 _ rfl) (Or.inr ⟨_, tn_40⟩) cdX8_isOutside tw_221 nmX8_isOutside rfl rfl (by simp only [List.map_cons, List.map_nil, mm_rf_cat]; exact Nat.le_of_ble_eq_true rfl) dX4_fill_3 ⟨Nat.le_of_ble_eq_true rfl, Nat.le_of_ble_eq_true rfl⟩ ⟨Nat.le_of_ble_eq_true rfl, Nat.le_of_ble_eq_true rfl⟩ ?_
  refine mm_if_eq (tgt := 10) dX4_fill_6 (by decide) (fun c1 => ?_) (fun c1 => ?_)
  · rw [if_pos c1] at hf
    refine mm_aload_n (j := 0) dX4_fill_10 rfl rfl ?_
    refine mm_iload_n (j := 1) dX4_fill_11 rfl rfl ?_
    refine mm_aload_n (j := 0) dX4_fill_12 rfl rfl ?_
    obtain ⟨hs2, hf⟩ := mm_sh_s hf
    refine mm_get (c := 4) (k := 1) (v := va_rf (mm_R σ p0 1)) cd_ok ⟨_, _, _, rfl, by decide, Or.inl tw_60⟩ hs2 rfl dX4_fill_13 ?_
    refine mm_iload_n (j := 1) dX4_fill_16 rfl rfl ?_
    obtain ⟨q3, hq3, hf⟩ := mm_on_s hf
    rw [hq3, mm_rf_some]
    obtain ⟨n4, hn4, hf⟩ := mm_ar_s hf
    obtain ⟨hi5, hf⟩ := mm_ib_s hf
    refine mm_zald hn4 rfl hi5 dX4_fill_17 ?_
    refine mm_if_eq (tgt := 25) dX4_fill_18 (by decide) (fun c6 => ?_) (fun c6 => ?_)
    · rw [if_pos c6] at hf
      refine mm_bipush (v := 40) dX4_fill_25 (by decide) ?_
      refine mm_sub [0, 1, 2, 3, 4] rfl ?_
      exact kX4_fill_27  p0 p1 p2 p3 p4 40 p1 p0 σ hf
    · rw [if_neg c6] at hf
      refine mm_iload_n (j := 2) dX4_fill_21 rfl rfl ?_
      refine mm_goto (tgt := 27) dX4_fill_22 (by decide) ?_
      refine mm_sub [0, 1, 2, 3, 4] rfl ?_
      exact kX4_fill_27  p0 p1 p2 p3 p4 p2 p1 p0 σ hf
  · rw [if_neg c1] at hf
    cases hf
    refine mm_widen (ck' := rmX4_fill.cells) (sk' := rmX4_fill.slots) (Nat.le_of_ble_eq_true rfl) (Nat.le_of_ble_eq_true rfl) ?_
    exact mm_vret rfl dX4_fill_9 ⟨rfl, rfl⟩
theorem dX6_bringToEnd_0 : decode cX6_bringToEnd 0 = .ok (.aload_n 0, 1) := by decide +kernel
theorem dX6_bringToEnd_1 : decode cX6_bringToEnd 1 = .ok (.iload_n 1, 1) := by decide +kernel
theorem dX6_bringToEnd_2 : decode cX6_bringToEnd 2 = .ok (.iload_n 2, 1) := by decide +kernel
theorem dX6_bringToEnd_3 : decode cX6_bringToEnd 3 = .ok (.iload_n 3, 1) := by decide +kernel
theorem dX6_bringToEnd_4 : decode cX6_bringToEnd 4 = .ok (.invokevirtual 40, 3) := by decide +kernel
theorem dX6_bringToEnd_7 : decode cX6_bringToEnd 7 = .ok (.istore 4, 2) := by decide +kernel
theorem dX6_bringToEnd_9 : decode cX6_bringToEnd 9 = .ok (.iload 4, 2) := by decide +kernel
theorem dX6_bringToEnd_11 : decode cX6_bringToEnd 11 = .ok (.iconst (-1), 1) := by decide +kernel
theorem dX6_bringToEnd_12 : decode cX6_bringToEnd 12 = .ok (.if_icmp .eq 7, 3) := by decide +kernel
theorem dX6_bringToEnd_15 : decode cX6_bringToEnd 15 = .ok (.iconst 1, 1) := by decide +kernel
theorem dX6_bringToEnd_16 : decode cX6_bringToEnd 16 = .ok (.goto 4, 3) := by decide +kernel
theorem dX6_bringToEnd_19 : decode cX6_bringToEnd 19 = .ok (.iconst 0, 1) := by decide +kernel
theorem dX6_bringToEnd_20 : decode cX6_bringToEnd 20 = .ok (.istore 5, 2) := by decide +kernel
theorem dX6_bringToEnd_22 : decode cX6_bringToEnd 22 = .ok (.iload 5, 2) := by decide +kernel
theorem dX6_bringToEnd_24 : decode cX6_bringToEnd 24 = .ok (.ifCond .ne 15, 3) := by decide +kernel
theorem dX6_bringToEnd_27 : decode cX6_bringToEnd 27 = .ok (.aload_n 0, 1) := by decide +kernel
theorem dX6_bringToEnd_28 : decode cX6_bringToEnd 28 = .ok (.getfield 17, 3) := by decide +kernel
theorem dX6_bringToEnd_31 : decode cX6_bringToEnd 31 = .ok (.bipush 20, 2) := by decide +kernel
theorem dX6_bringToEnd_33 : decode cX6_bringToEnd 33 = .ok (.if_icmp .ne 6, 3) := by decide +kernel
theorem dX6_bringToEnd_36 : decode cX6_bringToEnd 36 = .ok (.iconst 0, 1) := by decide +kernel
theorem dX6_bringToEnd_37 : decode cX6_bringToEnd 37 = .ok (.istore 4, 2) := by decide +kernel
theorem dX6_bringToEnd_39 : decode cX6_bringToEnd 39 = .ok (.aload_n 0, 1) := by decide +kernel
theorem dX6_bringToEnd_40 : decode cX6_bringToEnd 40 = .ok (.iload 4, 2) := by decide +kernel
theorem dX6_bringToEnd_42 : decode cX6_bringToEnd 42 = .ok (.invokevirtual 25, 3) := by decide +kernel
theorem dX6_bringToEnd_45 : decode cX6_bringToEnd 45 = .ok (.astore 6, 2) := by decide +kernel
theorem dX6_bringToEnd_47 : decode cX6_bringToEnd 47 = .ok (.aload 6, 2) := by decide +kernel
theorem dX6_bringToEnd_49 : decode cX6_bringToEnd 49 = .ok (.ifnonnull 15, 3) := by decide +kernel
theorem dX6_bringToEnd_52 : decode cX6_bringToEnd 52 = .ok (.new 9, 3) := by decide +kernel
theorem dX6_bringToEnd_55 : decode cX6_bringToEnd 55 = .ok (.dup, 1) := by decide +kernel
theorem dX6_bringToEnd_56 : decode cX6_bringToEnd 56 = .ok (.invokespecial 44, 3) := by decide +kernel
theorem dX6_bringToEnd_59 : decode cX6_bringToEnd 59 = .ok (.astore 6, 2) := by decide +kernel
theorem dX6_bringToEnd_61 : decode cX6_bringToEnd 61 = .ok (.goto 9, 3) := by decide +kernel
theorem dX6_bringToEnd_64 : decode cX6_bringToEnd 64 = .ok (.aload_n 0, 1) := by decide +kernel
theorem dX6_bringToEnd_65 : decode cX6_bringToEnd 65 = .ok (.iload 4, 2) := by decide +kernel
theorem dX6_bringToEnd_67 : decode cX6_bringToEnd 67 = .ok (.invokevirtual 45, 3) := by decide +kernel
theorem dX6_bringToEnd_70 : decode cX6_bringToEnd 70 = .ok (.iload 5, 2) := by decide +kernel
theorem dX6_bringToEnd_72 : decode cX6_bringToEnd 72 = .ok (.ifCond .ne 11, 3) := by decide +kernel
theorem dX6_bringToEnd_75 : decode cX6_bringToEnd 75 = .ok (.aload 6, 2) := by decide +kernel
theorem dX6_bringToEnd_77 : decode cX6_bringToEnd 77 = .ok (.iload_n 1, 1) := by decide +kernel
theorem dX6_bringToEnd_78 : decode cX6_bringToEnd 78 = .ok (.iload_n 2, 1) := by decide +kernel
theorem dX6_bringToEnd_79 : decode cX6_bringToEnd 79 = .ok (.iload_n 3, 1) := by decide +kernel
theorem dX6_bringToEnd_80 : decode cX6_bringToEnd 80 = .ok (.invokevirtual 49, 3) := by decide +kernel
theorem dX6_bringToEnd_83 : decode cX6_bringToEnd 83 = .ok (.aload_n 0, 1) := by decide +kernel
theorem dX6_bringToEnd_84 : decode cX6_bringToEnd 84 = .ok (.aload 6, 2) := by decide +kernel
theorem dX6_bringToEnd_86 : decode cX6_bringToEnd 86 = .ok (.invokevirtual 53, 3) := by decide +kernel
theorem dX6_bringToEnd_89 : decode cX6_bringToEnd 89 = .ok (.aload 6, 2) := by decide +kernel
theorem dX6_bringToEnd_91 : decode cX6_bringToEnd 91 = .ok (.areturn, 1) := by decide +kernel
theorem nmX6_bringToEnd : mm_nm yX6_bringToEnd 3 := ⟨by decide, by decide, by decide +kernel⟩
theorem cdX6_bringToEnd : mm_cd cd_Y yX6_bringToEnd cX6_bringToEnd 7 (some (.object "CaptionDesk$Page")) := ⟨tw_532, tw_2⟩
abbrev rmX6_bringToEnd : Room := { frames := 3, cells := 5, slots := 1054, locals := 69 }
def fX6_bringToEnd_83  (a0 : Nat) (x1 : Int32) (x2 : Int32) (x3 : Int32) (x4 : Int32) (x5 : Int32) (r6 : Option Nat) (σ : mm_M) : Option (Option Nat × mm_M) :=
  mm_on (r6) fun q11 => mm_sh σ a0 (.inl 6) (mm_on (fX6_addBehind a0 q11 σ) fun q13 => some (some q11, q13))
def fX6_bringToEnd_70  (a0 : Nat) (x1 : Int32) (x2 : Int32) (x3 : Int32) (x4 : Int32) (x5 : Int32) (r6 : Option Nat) (σ : mm_M) : Option (Option Nat × mm_M) :=
  (if x5 = 0 then mm_on (r6) fun q14 => mm_sh σ q14 (.inl 3) (mm_on (fX3_become q14 x1 x2 x3 σ) fun q16 => (fX6_bringToEnd_83  a0 x1 x2 x3 x4 x5 ((some q14)) q16)) else (fX6_bringToEnd_83  a0 x1 x2 x3 x4 x5 r6 σ))
def fX6_bringToEnd_39  (a0 : Nat) (x1 : Int32) (x2 : Int32) (x3 : Int32) (x4 : Int32) (x5 : Int32) (σ : mm_M) : Option (Option Nat × mm_M) :=
  mm_sh σ a0 (.inl 6) (mm_on (fX6_pageAt a0 x4 σ) fun q6 => (mm_nu (q6.1) (mm_let (mm_new q6.2 (.inl 3)) fun s8 => mm_on (fX3_init q6.2.1 s8) fun q9 => (fX6_bringToEnd_70  a0 x1 x2 x3 x4 x5 ((some q6.2.1)) q9)) fun q7 => mm_sh q6.2 a0 (.inl 6) (mm_on (fX6_takeOut a0 x4 q6.2) fun q18 => (fX6_bringToEnd_70  a0 x1 x2 x3 x4 x5 ((some q7)) q18))))
def fX6_bringToEnd_20  (a0 : Nat) (x1 : Int32) (x2 : Int32) (x3 : Int32) (x4 : Int32) (y0 : Int32) (σ : mm_M) : Option (Option Nat × mm_M) :=
  (if y0 = 0 then mm_sh σ a0 (.inl 6) ((if (mm_I σ a0 1) = 20 then (fX6_bringToEnd_39  a0 x1 x2 x3 0 y0 σ) else (fX6_bringToEnd_39  a0 x1 x2 x3 x4 y0 σ))) else (fX6_bringToEnd_39  a0 x1 x2 x3 x4 y0 σ))
def fX6_bringToEnd (p0 : Nat) (p1 : Int32) (p2 : Int32) (p3 : Int32) (σ : mm_M) : Option (Option Nat × mm_M) :=
  mm_sh σ p0 (.inl 6) (mm_on (fX6_placeOf p0 p1 p2 p3 σ) fun q2 => (if q2.1 = (-1) then (fX6_bringToEnd_20  p0 p1 p2 p3 q2.1 0 q2.2) else (fX6_bringToEnd_20  p0 p1 p2 p3 q2.1 1 q2.2)))
set_option maxHeartbeats 4000000 in
set_option maxRecDepth 100000 in
theorem kX6_bringToEnd_83 {G : mm_G} {A : Nat → Prop} {ini : Bool × Option (List (Nat × Nat × Nat × Nat))}  {R : (Option Nat × mm_M)}  (a0 : Nat) (x1 : Int32) (x2 : Int32) (x3 : Int32) (x4 : Int32) (x5 : Int32) (r6 : Option Nat) (σ : mm_M) (hf : fX6_bringToEnd_83  a0 x1 x2 x3 x4 x5 r6 σ = some R) : mm_J cd_Y G RX6 cX6_bringToEnd 7 (some (.object "CaptionDesk$Page")) ini rmX6_bringToEnd A (mm_QF cd_Y G A (mm_Pr R.1 R.2) rmX6_bringToEnd.cells rmX6_bringToEnd.slots) 83 [(0, .ref a0), (1, .int x1), (2, .int x2), (3, .int x3), (4, .int x4), (5, .int x5), (6, va_rf (r6))] [] σ 5 1054 := by
  unfold fX6_bringToEnd_83 at hf
  refine mm_aload_n (j := 0) dX6_bringToEnd_83 rfl rfl ?_
  refine mm_aloadR (j := 6) dX6_bringToEnd_84 rfl ?_
  obtain ⟨q11, hq11, hf⟩ := mm_on_s hf
  rw [hq11, mm_rf_some]
  obtain ⟨hs12, hf⟩ := mm_sh_s hf
  obtain ⟨q13, hq13, hf⟩ := mm_on_s hf
  refine mm_callVv cd_ok (kX6_addBehind a0 q11 hq13) hs12 rfl (Or.inl tw_602) cdX6_addBehind tw_604 ts_23 nmX6_addBehind rfl rfl (by simp only [List.map_cons, List.map_nil, mm_rf_cat]; exact Nat.le_of_ble_eq_true rfl) dX6_bringToEnd_86 ⟨Nat.le_of_ble_eq_true rfl, Nat.le_of_ble_eq_true rfl⟩ ⟨Nat.le_of_ble_eq_true rfl, Nat.le_of_ble_eq_true rfl⟩ ?_
  refine mm_aload (j := 6) dX6_bringToEnd_89 rfl ?_
  cases hf
  refine mm_widen (ck' := rmX6_bringToEnd.cells) (sk' := rmX6_bringToEnd.slots) (Nat.le_of_ble_eq_true rfl) (Nat.le_of_ble_eq_true rfl) ?_
  exact mm_aret rfl rfl (mm_rf_of (some q11)) dX6_bringToEnd_91 ⟨rfl, rfl⟩
set_option maxHeartbeats 4000000 in
set_option maxRecDepth 100000 in
theorem kX6_bringToEnd_70 {G : mm_G} {A : Nat → Prop} {ini : Bool × Option (List (Nat × Nat × Nat × Nat))}  {R : (Option Nat × mm_M)}  (a0 : Nat) (x1 : Int32) (x2 : Int32) (x3 : Int32) (x4 : Int32) (x5 : Int32) (r6 : Option Nat) (σ : mm_M) (hf : fX6_bringToEnd_70  a0 x1 x2 x3 x4 x5 r6 σ = some R) : mm_J cd_Y G RX6 cX6_bringToEnd 7 (some (.object "CaptionDesk$Page")) ini rmX6_bringToEnd A (mm_QF cd_Y G A (mm_Pr R.1 R.2) rmX6_bringToEnd.cells rmX6_bringToEnd.slots) 70 [(0, .ref a0), (1, .int x1), (2, .int x2), (3, .int x3), (4, .int x4), (5, .int x5), (6, va_rf (r6))] [] σ 5 1054 := by
  unfold fX6_bringToEnd_70 at hf
  refine mm_iload (j := 5) dX6_bringToEnd_70 rfl ?_
  refine mm_if_ne (tgt := 83) dX6_bringToEnd_72 (by decide) (fun c10 => ?_) (fun c10 => ?_)
  · rw [if_neg c10] at hf
    refine mm_sub [0, 1, 2, 3, 4, 5, 6] rfl ?_
    refine mm_widen (ck' := 5) (sk' := 1054) (Nat.le_of_ble_eq_true rfl) (Nat.le_of_ble_eq_true rfl) ?_
    exact kX6_bringToEnd_83  a0 x1 x2 x3 x4 x5 r6 σ hf
  · rw [if_pos c10] at hf
    refine mm_aloadR (j := 6) dX6_bringToEnd_75 rfl ?_
    refine mm_iload_n (j := 1) dX6_bringToEnd_77 rfl rfl ?_
    refine mm_iload_n (j := 2) dX6_bringToEnd_78 rfl rfl ?_
    refine mm_iload_n (j := 3) dX6_bringToEnd_79 rfl rfl ?_
    obtain ⟨q14, hq14, hf⟩ := mm_on_s hf
    rw [hq14, mm_rf_some]
    obtain ⟨hs15, hf⟩ := mm_sh_s hf
    obtain ⟨q16, hq16, hf⟩ := mm_on_s hf
    refine mm_callVv cd_ok (kX3_become q14 x1 x2 x3 hq16) hs15 rfl (Or.inl tw_585) cdX3_become tw_586 tw_587 nmX3_become rfl rfl (by simp only [List.map_cons, List.map_nil, mm_rf_cat]; exact Nat.le_of_ble_eq_true rfl) dX6_bringToEnd_80 ⟨Nat.le_of_ble_eq_true rfl, Nat.le_of_ble_eq_true rfl⟩ ⟨Nat.le_of_ble_eq_true rfl, Nat.le_of_ble_eq_true rfl⟩ ?_
    refine mm_sub [0, 1, 2, 3, 4, 5, 6] rfl ?_
    refine mm_widen (ck' := 5) (sk' := 1054) (Nat.le_of_ble_eq_true rfl) (Nat.le_of_ble_eq_true rfl) ?_
    exact kX6_bringToEnd_83  a0 x1 x2 x3 x4 x5 ((some q14)) q16 hf
set_option maxHeartbeats 4000000 in
set_option maxRecDepth 100000 in
theorem kX6_bringToEnd_39 {G : mm_G} {A : Nat → Prop} {ini : Bool × Option (List (Nat × Nat × Nat × Nat))}  {R : (Option Nat × mm_M)}  (a0 : Nat) (x1 : Int32) (x2 : Int32) (x3 : Int32) (x4 : Int32) (x5 : Int32) (σ : mm_M) (hf : fX6_bringToEnd_39  a0 x1 x2 x3 x4 x5 σ = some R) : mm_J cd_Y G RX6 cX6_bringToEnd 7 (some (.object "CaptionDesk$Page")) ini rmX6_bringToEnd A (mm_QF cd_Y G A (mm_Pr R.1 R.2) rmX6_bringToEnd.cells rmX6_bringToEnd.slots) 39 [(0, .ref a0), (1, .int x1), (2, .int x2), (3, .int x3), (4, .int x4), (5, .int x5)] [] σ 0 0 := by
  unfold fX6_bringToEnd_39 at hf
  refine mm_aload_n (j := 0) dX6_bringToEnd_39 rfl rfl ?_
  refine mm_iload (j := 4) dX6_bringToEnd_40 rfl ?_
  obtain ⟨hs5, hf⟩ := mm_sh_s hf
  obtain ⟨q6, hq6, hf⟩ := mm_on_s hf
  refine mm_callVo cd_ok (kX6_pageAt a0 x4 hq6) hs5 rfl (Or.inl tw_216) cdX6_pageAt tw_217 tw_218 nmX6_pageAt rfl rfl (by simp only [List.map_cons, List.map_nil, mm_rf_cat]; exact Nat.le_of_ble_eq_true rfl) dX6_bringToEnd_42 ⟨Nat.le_of_ble_eq_true rfl, Nat.le_of_ble_eq_true rfl⟩ ⟨Nat.le_of_ble_eq_true rfl, Nat.le_of_ble_eq_true rfl⟩ ?_
  refine mm_astoreR (L' := [(6, va_rf (q6.1)), (0, .ref a0), (1, .int x1), (2, .int x2), (3, .int x3), (4, .int x4), (5, .int x5)]) dX6_bringToEnd_45 (by decide) rfl ?_
  refine mm_aloadR (j := 0) dX6_bringToEnd_47 rfl ?_
  rcases hq7 : (q6.1) with _ | q7
  · rw [mm_nu_n hq7] at hf
    try rw [mm_rf_none]
    refine mm_ifnonnullN dX6_bringToEnd_49 ?_
    refine mm_newo cd_ok (c := 3) (N := 9) rfl (by decide) tw_36 tw_534 tw_17 (Nat.le_of_ble_eq_true rfl) (Nat.le_of_ble_eq_true rfl) dX6_bringToEnd_52 ?_
    obtain ⟨s8, hs8, hf⟩ := mm_let_s hf
    rw [hs8]
    refine mm_dup dX6_bringToEnd_55 rfl ?_
    obtain ⟨q9, hq9, hf⟩ := mm_on_s hf
    refine mm_callIv cd_ok (kX3_init q6.2.1 hq9) (Or.inr ⟨_, tn_26⟩) cdX3_init tw_536 rfl nmX3_init rfl rfl (by simp only [List.map_cons, List.map_nil, mm_rf_cat]; exact Nat.le_of_ble_eq_true rfl) dX6_bringToEnd_56 ⟨Nat.le_of_ble_eq_true rfl, Nat.le_of_ble_eq_true rfl⟩ ⟨Nat.le_of_ble_eq_true rfl, Nat.le_of_ble_eq_true rfl⟩ ?_
    refine mm_astore (L' := [(6, .ref q6.2.1), (0, .ref a0), (1, .int x1), (2, .int x2), (3, .int x3), (4, .int x4), (5, .int x5)]) dX6_bringToEnd_59 (by decide) rfl ?_
    refine mm_goto (tgt := 70) dX6_bringToEnd_61 (by decide) ?_
    refine mm_sub [1, 2, 3, 4, 5, 6, 0] rfl ?_
    refine mm_widen (ck' := 5) (sk' := 1054) (Nat.le_of_ble_eq_true rfl) (Nat.le_of_ble_eq_true rfl) ?_
    exact kX6_bringToEnd_70  a0 x1 x2 x3 x4 x5 ((some q6.2.1)) q9 hf
  · rw [mm_nu_s hq7] at hf
    try rw [mm_rf_some]
    refine mm_ifnonnull (tgt := 64) dX6_bringToEnd_49 (by decide) ?_
    refine mm_aload_n (j := 1) dX6_bringToEnd_64 rfl rfl ?_
    refine mm_iload (j := 5) dX6_bringToEnd_65 rfl ?_
    obtain ⟨hs17, hf⟩ := mm_sh_s hf
    obtain ⟨q18, hq18, hf⟩ := mm_on_s hf
    refine mm_callVv cd_ok (kX6_takeOut a0 x4 hq18) hs17 rfl (Or.inl tw_581) cdX6_takeOut tw_583 ts_21 nmX6_takeOut rfl rfl (by simp only [List.map_cons, List.map_nil, mm_rf_cat]; exact Nat.le_of_ble_eq_true rfl) dX6_bringToEnd_67 ⟨Nat.le_of_ble_eq_true rfl, Nat.le_of_ble_eq_true rfl⟩ ⟨Nat.le_of_ble_eq_true rfl, Nat.le_of_ble_eq_true rfl⟩ ?_
    refine mm_sub [1, 2, 3, 4, 5, 6, 0] rfl ?_
    refine mm_widen (ck' := 5) (sk' := 1054) (Nat.le_of_ble_eq_true rfl) (Nat.le_of_ble_eq_true rfl) ?_
    exact kX6_bringToEnd_70  a0 x1 x2 x3 x4 x5 ((some q7)) q18 hf
set_option maxHeartbeats 4000000 in
set_option maxRecDepth 100000 in
theorem kX6_bringToEnd_20 {G : mm_G} {A : Nat → Prop} {ini : Bool × Option (List (Nat × Nat × Nat × Nat))}  {R : (Option Nat × mm_M)}  (a0 : Nat) (x1 : Int32) (x2 : Int32) (x3 : Int32) (x4 : Int32) (y0 : Int32) (σ : mm_M) (hf : fX6_bringToEnd_20  a0 x1 x2 x3 x4 y0 σ = some R) : mm_J cd_Y G RX6 cX6_bringToEnd 7 (some (.object "CaptionDesk$Page")) ini rmX6_bringToEnd A (mm_QF cd_Y G A (mm_Pr R.1 R.2) rmX6_bringToEnd.cells rmX6_bringToEnd.slots) 20 [(0, .ref a0), (1, .int x1), (2, .int x2), (3, .int x3), (4, .int x4)] [.int y0] σ 0 0 := by
  unfold fX6_bringToEnd_20 at hf
  refine mm_istore (L' := [(5, .int y0), (0, .ref a0), (1, .int x1), (2, .int x2), (3, .int x3), (4, .int x4)]) dX6_bringToEnd_20 (by decide) rfl ?_
  refine mm_iload (j := 0) dX6_bringToEnd_22 rfl ?_
  refine mm_if_ne (tgt := 39) dX6_bringToEnd_24 (by decide) (fun c4 => ?_) (fun c4 => ?_)
  · rw [if_neg c4] at hf
    refine mm_sub [1, 2, 3, 4, 5, 0] rfl ?_
    exact kX6_bringToEnd_39  a0 x1 x2 x3 x4 y0 σ hf
  · rw [if_pos c4] at hf
    refine mm_aload_n (j := 1) dX6_bringToEnd_27 rfl rfl ?_
    obtain ⟨hs19, hf⟩ := mm_sh_s hf
    refine mm_get (c := 6) (k := 1) (v := .int (mm_I σ a0 1)) cd_ok ⟨_, _, _, rfl, by decide, Or.inl tw_39⟩ hs19 rfl dX6_bringToEnd_28 ?_
    refine mm_bipush (v := 20) dX6_bringToEnd_31 (by decide) ?_
    refine mm_icmp_ne (tgt := 39) dX6_bringToEnd_33 (by decide) (fun c20 => ?_) (fun c20 => ?_)
    · rw [if_neg c20] at hf
      refine mm_sub [1, 2, 3, 4, 5, 0] rfl ?_
      refine mm_widen (ck' := 0) (sk' := 0) (Nat.le_of_ble_eq_true rfl) (Nat.le_of_ble_eq_true rfl) ?_
      exact kX6_bringToEnd_39  a0 x1 x2 x3 x4 y0 σ hf
    · rw [if_pos c20] at hf
      refine mm_iconst (v := 0) dX6_bringToEnd_36 (by decide) ?_
      refine mm_istore (L' := [(4, .int 0), (5, .int y0), (0, .ref a0), (1, .int x1), (2, .int x2), (3, .int x3)]) dX6_bringToEnd_37 (by decide) rfl ?_
      refine mm_sub [2, 3, 4, 5, 0, 1] rfl ?_
      refine mm_widen (ck' := 0) (sk' := 0) (Nat.le_of_ble_eq_true rfl) (Nat.le_of_ble_eq_true rfl) ?_
      exact kX6_bringToEnd_39  a0 x1 x2 x3 0 y0 σ hf
set_option maxHeartbeats 4000000 in
set_option maxRecDepth 100000 in
theorem kX6_bringToEnd {G : mm_G} {A : Nat → Prop} (p0 : Nat) (p1 : Int32) (p2 : Int32) (p3 : Int32) {σ : mm_M} {R : (Option Nat × mm_M)} (hf : fX6_bringToEnd p0 p1 p2 p3 σ = some R) : mm_C cd_Y G yX6_bringToEnd cX6_bringToEnd 7 (some (.object "CaptionDesk$Page")) rmX6_bringToEnd A [.ref p0, .int p1, .int p2, .int p3] σ (mm_Pr R.1 R.2) := by
  refine mm_C.of (by decide) (Nat.le_of_ble_eq_true rfl) ?_
  unfold fX6_bringToEnd at hf
  have e0 : lv_args 0 [.ref p0, .int p1, .int p2, .int p3] = [(0, .ref p0), (1, .int p1), (2, .int p2), (3, .int p3)] := rfl
  rw [e0]
  generalize hini : ((yX6_bringToEnd.name == "<init>"), none) = ini
  clear e0
  clear hini
  refine mm_aload_n (j := 0) dX6_bringToEnd_0 rfl rfl ?_
  refine mm_iload_n (j := 1) dX6_bringToEnd_1 rfl rfl ?_
  refine mm_iload_n (j := 2) dX6_bringToEnd_2 rfl rfl ?_
  refine mm_iload_n (j := 3) dX6_bringToEnd_3 rfl rfl ?_
  obtain ⟨hs1, hf⟩ := mm_sh_s hf
  obtain ⟨q2, hq2, hf⟩ := mm_on_s hf
  refine mm_callVi cd_ok (kX6_placeOf p0 p1 p2 p3 hq2) hs1 rfl (Or.inl tw_533) cdX6_placeOf tw_213 tw_214 nmX6_placeOf rfl rfl (by simp only [List.map_cons, List.map_nil, mm_rf_cat]; exact Nat.le_of_ble_eq_true rfl) dX6_bringToEnd_4 ⟨Nat.le_of_ble_eq_true rfl, Nat.le_of_ble_eq_true rfl⟩ ⟨Nat.le_of_ble_eq_true rfl, Nat.le_of_ble_eq_true rfl⟩ ?_
  refine mm_istore (L' := [(4, .int q2.1), (0, .ref p0), (1, .int p1), (2, .int p2), (3, .int p3)]) dX6_bringToEnd_7 (by decide) rfl ?_
  refine mm_iload (j := 0) dX6_bringToEnd_9 rfl ?_
  refine mm_iconst (v := (-1)) dX6_bringToEnd_11 (by decide) ?_
  refine mm_icmp_eq (tgt := 19) dX6_bringToEnd_12 (by decide) (fun c3 => ?_) (fun c3 => ?_)
  · rw [if_pos c3] at hf
    refine mm_iconst (v := 0) dX6_bringToEnd_19 (by decide) ?_
    refine mm_sub [1, 2, 3, 4, 0] rfl ?_
    exact kX6_bringToEnd_20  p0 p1 p2 p3 q2.1 0 q2.2 hf
  · rw [if_neg c3] at hf
    refine mm_iconst (v := 1) dX6_bringToEnd_15 (by decide) ?_
    refine mm_goto (tgt := 20) dX6_bringToEnd_16 (by decide) ?_
    refine mm_sub [1, 2, 3, 4, 0] rfl ?_
    refine mm_widen (ck' := 0) (sk' := 0) (Nat.le_of_ble_eq_true rfl) (Nat.le_of_ble_eq_true rfl) ?_
    exact kX6_bringToEnd_20  p0 p1 p2 p3 q2.1 1 q2.2 hf
theorem dX8_takeSecondLetter_0 : decode cX8_takeSecondLetter 0 = .ok (.iload_n 1, 1) := by decide +kernel
theorem dX8_takeSecondLetter_1 : decode cX8_takeSecondLetter 1 = .ok (.invokestatic 126, 3) := by decide +kernel
theorem dX8_takeSecondLetter_4 : decode cX8_takeSecondLetter 4 = .ok (.ifCond .ne 12, 3) := by decide +kernel
theorem dX8_takeSecondLetter_7 : decode cX8_takeSecondLetter 7 = .ok (.aload_n 0, 1) := by decide +kernel
theorem dX8_takeSecondLetter_8 : decode cX8_takeSecondLetter 8 = .ok (.bipush 127, 2) := by decide +kernel
theorem dX8_takeSecondLetter_10 : decode cX8_takeSecondLetter 10 = .ok (.invokevirtual 130, 3) := by decide +kernel
theorem dX8_takeSecondLetter_13 : decode cX8_takeSecondLetter 13 = .ok (.goto 20, 3) := by decide +kernel
theorem dX8_takeSecondLetter_16 : decode cX8_takeSecondLetter 16 = .ok (.iload_n 1, 1) := by decide +kernel
theorem dX8_takeSecondLetter_17 : decode cX8_takeSecondLetter 17 = .ok (.bipush 127, 2) := by decide +kernel
theorem dX8_takeSecondLetter_19 : decode cX8_takeSecondLetter 19 = .ok (.iand, 1) := by decide +kernel
theorem dX8_takeSecondLetter_20 : decode cX8_takeSecondLetter 20 = .ok (.bipush 32, 2) := by decide +kernel
theorem dX8_takeSecondLetter_22 : decode cX8_takeSecondLetter 22 = .ok (.if_icmp .lt 11, 3) := by decide +kernel
theorem dX8_takeSecondLetter_25 : decode cX8_takeSecondLetter 25 = .ok (.aload_n 0, 1) := by decide +kernel
theorem dX8_takeSecondLetter_26 : decode cX8_takeSecondLetter 26 = .ok (.iload_n 1, 1) := by decide +kernel
theorem dX8_takeSecondLetter_27 : decode cX8_takeSecondLetter 27 = .ok (.bipush 127, 2) := by decide +kernel
theorem dX8_takeSecondLetter_29 : decode cX8_takeSecondLetter 29 = .ok (.iand, 1) := by decide +kernel
theorem dX8_takeSecondLetter_30 : decode cX8_takeSecondLetter 30 = .ok (.invokevirtual 130, 3) := by decide +kernel
theorem dX8_takeSecondLetter_33 : decode cX8_takeSecondLetter 33 = .ok (.return_, 1) := by decide +kernel
theorem nmX8_takeSecondLetter : mm_nm yX8_takeSecondLetter 2 := ⟨by decide, by decide, by decide +kernel⟩
theorem cdX8_takeSecondLetter : mm_cd cd_Y yX8_takeSecondLetter cX8_takeSecondLetter 2 none := ⟨tw_341, tw_1⟩
abbrev rmX8_takeSecondLetter : Room := { frames := 3, cells := 0, slots := 0, locals := 67 }
def fX8_takeSecondLetter (p0 : Nat) (p1 : Int32) (σ : mm_M) : Option mm_M :=
  (if (fX8_isRight p1) = 0 then mm_sh σ p0 (.inl 0) (mm_on (fX0_put p0 127 σ) fun q6 => some (q6)) else (if (p1 &&& 127) < 32 then some (σ) else mm_sh σ p0 (.inl 0) (mm_on (fX0_put p0 (p1 &&& 127) σ) fun q4 => some (q4))))
set_option maxHeartbeats 4000000 in
set_option maxRecDepth 100000 in
theorem kX8_takeSecondLetter {G : mm_G} {A : Nat → Prop} (p0 : Nat) (p1 : Int32) {σ : mm_M} {R : mm_M} (hf : fX8_takeSecondLetter p0 p1 σ = some R) : mm_C cd_Y G yX8_takeSecondLetter cX8_takeSecondLetter 2 none rmX8_takeSecondLetter A [.ref p0, .int p1] σ (mm_Pv R) := by
  refine mm_C.of (by decide) (Nat.le_of_ble_eq_true rfl) ?_
  unfold fX8_takeSecondLetter at hf
  have e0 : lv_args 0 [.ref p0, .int p1] = [(0, .ref p0), (1, .int p1)] := rfl
  rw [e0]
  generalize hini : ((yX8_takeSecondLetter.name == "<init>"), none) = ini
  clear e0
  clear hini
  refine mm_iload_n (j := 1) dX8_takeSecondLetter_0 rfl rfl ?_
  refine mm_callSi cd_ok (kX8_isRight p1 _ rfl) (Or.inl tw_311) cdX8_isRight tw_312 nmX8_isRight rfl rfl (by simp only [List.map_cons, List.map_nil, mm_rf_cat]; exact Nat.le_of_ble_eq_true rfl) dX8_takeSecondLetter_1 ⟨Nat.le_of_ble_eq_true rfl, Nat.le_of_ble_eq_true rfl⟩ ⟨Nat.le_of_ble_eq_true rfl, Nat.le_of_ble_eq_true rfl⟩ ?_
  refine mm_if_ne (tgt := 16) dX8_takeSecondLetter_4 (by decide) (fun c1 => ?_) (fun c1 => ?_)
  · rw [if_neg c1] at hf
    refine mm_iload_n (j := 1) dX8_takeSecondLetter_16 rfl rfl ?_
    refine mm_bipush (v := 127) dX8_takeSecondLetter_17 (by decide) ?_
    refine mm_iand dX8_takeSecondLetter_19 ?_
    refine mm_bipush (v := 32) dX8_takeSecondLetter_20 (by decide) ?_
    refine mm_icmp_lt (tgt := 33) dX8_takeSecondLetter_22 (by decide) (fun c2 => ?_) (fun c2 => ?_)
    · rw [if_pos c2] at hf
      cases hf
      refine mm_widen (ck' := rmX8_takeSecondLetter.cells) (sk' := rmX8_takeSecondLetter.slots) (Nat.le_of_ble_eq_true rfl) (Nat.le_of_ble_eq_true rfl) ?_
      exact mm_vret rfl dX8_takeSecondLetter_33 ⟨rfl, rfl⟩
    · rw [if_neg c2] at hf
      refine mm_aload_n (j := 0) dX8_takeSecondLetter_25 rfl rfl ?_
      refine mm_iload_n (j := 1) dX8_takeSecondLetter_26 rfl rfl ?_
      refine mm_bipush (v := 127) dX8_takeSecondLetter_27 (by decide) ?_
      refine mm_iand dX8_takeSecondLetter_29 ?_
      obtain ⟨hs3, hf⟩ := mm_sh_s hf
      obtain ⟨q4, hq4, hf⟩ := mm_on_s hf
      refine mm_callVv cd_ok (kX0_put p0 (p1 &&& 127) hq4) hs3 rfl (Or.inl tw_318) cdX0_put tw_319 tw_320 nmX0_put rfl rfl (by simp only [List.map_cons, List.map_nil, mm_rf_cat]; exact Nat.le_of_ble_eq_true rfl) dX8_takeSecondLetter_30 ⟨Nat.le_of_ble_eq_true rfl, Nat.le_of_ble_eq_true rfl⟩ ⟨Nat.le_of_ble_eq_true rfl, Nat.le_of_ble_eq_true rfl⟩ ?_
      cases hf
      refine mm_widen (ck' := rmX8_takeSecondLetter.cells) (sk' := rmX8_takeSecondLetter.slots) (Nat.le_of_ble_eq_true rfl) (Nat.le_of_ble_eq_true rfl) ?_
      exact mm_vret rfl dX8_takeSecondLetter_33 ⟨rfl, rfl⟩
  · rw [if_pos c1] at hf
    refine mm_aload_n (j := 0) dX8_takeSecondLetter_7 rfl rfl ?_
    refine mm_bipush (v := 127) dX8_takeSecondLetter_8 (by decide) ?_
    obtain ⟨hs5, hf⟩ := mm_sh_s hf
    obtain ⟨q6, hq6, hf⟩ := mm_on_s hf
    refine mm_callVv cd_ok (kX0_put p0 127 hq6) hs5 rfl (Or.inl tw_318) cdX0_put tw_319 tw_320 nmX0_put rfl rfl (by simp only [List.map_cons, List.map_nil, mm_rf_cat]; exact Nat.le_of_ble_eq_true rfl) dX8_takeSecondLetter_10 ⟨Nat.le_of_ble_eq_true rfl, Nat.le_of_ble_eq_true rfl⟩ ⟨Nat.le_of_ble_eq_true rfl, Nat.le_of_ble_eq_true rfl⟩ ?_
    refine mm_goto (tgt := 33) dX8_takeSecondLetter_13 (by decide) ?_
    cases hf
    refine mm_widen (ck' := rmX8_takeSecondLetter.cells) (sk' := rmX8_takeSecondLetter.slots) (Nat.le_of_ble_eq_true rfl) (Nat.le_of_ble_eq_true rfl) ?_
    exact mm_vret rfl dX8_takeSecondLetter_33 ⟨rfl, rfl⟩
theorem dX8_isCode_0 : decode cX8_isCode 0 = .ok (.iload_n 0, 1) := by decide +kernel
theorem dX8_isCode_1 : decode cX8_isCode 1 = .ok (.bipush 127, 2) := by decide +kernel
theorem dX8_isCode_3 : decode cX8_isCode 3 = .ok (.iand, 1) := by decide +kernel
theorem dX8_isCode_4 : decode cX8_isCode 4 = .ok (.istore_n 2, 1) := by decide +kernel
theorem dX8_isCode_5 : decode cX8_isCode 5 = .ok (.iload_n 0, 1) := by decide +kernel
theorem dX8_isCode_6 : decode cX8_isCode 6 = .ok (.invokestatic 126, 3) := by decide +kernel
theorem dX8_isCode_9 : decode cX8_isCode 9 = .ok (.ifCond .eq 35, 3) := by decide +kernel
theorem dX8_isCode_12 : decode cX8_isCode 12 = .ok (.iload_n 2, 1) := by decide +kernel
theorem dX8_isCode_13 : decode cX8_isCode 13 = .ok (.bipush 16, 2) := by decide +kernel
theorem dX8_isCode_15 : decode cX8_isCode 15 = .ok (.if_icmp .lt 29, 3) := by decide +kernel
theorem dX8_isCode_18 : decode cX8_isCode 18 = .ok (.iload_n 2, 1) := by decide +kernel
theorem dX8_isCode_19 : decode cX8_isCode 19 = .ok (.bipush 32, 2) := by decide +kernel
theorem dX8_isCode_21 : decode cX8_isCode 21 = .ok (.if_icmp .ge 23, 3) := by decide +kernel
theorem dX8_isCode_24 : decode cX8_isCode 24 = .ok (.iload_n 1, 1) := by decide +kernel
theorem dX8_isCode_25 : decode cX8_isCode 25 = .ok (.invokestatic 126, 3) := by decide +kernel
theorem dX8_isCode_28 : decode cX8_isCode 28 = .ok (.ifCond .eq 16, 3) := by decide +kernel
theorem dX8_isCode_31 : decode cX8_isCode 31 = .ok (.iload_n 1, 1) := by decide +kernel
theorem dX8_isCode_32 : decode cX8_isCode 32 = .ok (.bipush 127, 2) := by decide +kernel
theorem dX8_isCode_34 : decode cX8_isCode 34 = .ok (.iand, 1) := by decide +kernel
theorem dX8_isCode_35 : decode cX8_isCode 35 = .ok (.bipush 32, 2) := by decide +kernel
theorem dX8_isCode_37 : decode cX8_isCode 37 = .ok (.if_icmp .lt 7, 3) := by decide +kernel
theorem dX8_isCode_40 : decode cX8_isCode 40 = .ok (.iconst 1, 1) := by decide +kernel
theorem dX8_isCode_41 : decode cX8_isCode 41 = .ok (.goto 4, 3) := by decide +kernel
theorem dX8_isCode_44 : decode cX8_isCode 44 = .ok (.iconst 0, 1) := by decide +kernel
theorem dX8_isCode_45 : decode cX8_isCode 45 = .ok (.ireturn, 1) := by decide +kernel
theorem nmX8_isCode : mm_nm yX8_isCode 2 := ⟨by decide, by decide, by decide +kernel⟩
theorem cdX8_isCode : mm_cd cd_Y yX8_isCode cX8_isCode 3 (some .boolean) := ⟨tw_310, tw_1⟩
abbrev rmX8_isCode : Room := { frames := 2, cells := 0, slots := 0, locals := 40 }
def fX8_isCode (p0 : Int32) (p1 : Int32) : Int32 :=
  (if (fX8_isRight p0) = 0 then 0 else (if (p0 &&& 127) < 16 then 0 else (if 32 ≤ (p0 &&& 127) then 0 else (if (fX8_isRight p1) = 0 then 0 else (if (p1 &&& 127) < 32 then 0 else 1)))))
set_option maxHeartbeats 4000000 in
set_option maxRecDepth 100000 in
theorem kX8_isCode {G : mm_G} {A : Nat → Prop} (p0 : Int32) (p1 : Int32) (σ0 : mm_M) {R : Int32} (hf : fX8_isCode p0 p1 = R) : mm_C cd_Y G yX8_isCode cX8_isCode 3 (some .boolean) rmX8_isCode A [.int p0, .int p1] σ0 (mm_Pi R σ0) := by
  refine mm_C.of (by decide) (Nat.le_of_ble_eq_true rfl) ?_
  unfold fX8_isCode at hf
  have e0 : lv_args 0 [.int p0, .int p1] = [(0, .int p0), (1, .int p1)] := rfl
  rw [e0]
  generalize hini : ((yX8_isCode.name == "<init>"), none) = ini
  clear e0
  clear hini
  refine mm_iload_n (j := 0) dX8_isCode_0 rfl rfl ?_
  refine mm_bipush (v := 127) dX8_isCode_1 (by decide) ?_
  refine mm_iand dX8_isCode_3 ?_
  refine mm_istore_n (L' := [(2, .int (p0 &&& 127)), (0, .int p0), (1, .int p1)]) dX8_isCode_4 rfl (by decide) rfl ?_
  refine mm_iload_n (j := 1) dX8_isCode_5 rfl rfl ?_
  refine mm_callSi cd_ok (kX8_isRight p0 _ rfl) (Or.inl tw_311) cdX8_isRight tw_312 nmX8_isRight rfl rfl (by simp only [List.map_cons, List.map_nil, mm_rf_cat]; exact Nat.le_of_ble_eq_true rfl) dX8_isCode_6 ⟨Nat.le_of_ble_eq_true rfl, Nat.le_of_ble_eq_true rfl⟩ ⟨Nat.le_of_ble_eq_true rfl, Nat.le_of_ble_eq_true rfl⟩ ?_
  refine mm_if_eq (tgt := 44) dX8_isCode_9 (by decide) (fun c1 => ?_) (fun c1 => ?_)
  · rw [if_pos c1] at hf
    refine mm_iconst (v := 0) dX8_isCode_44 (by decide) ?_
    subst hf
    refine mm_widen (ck' := rmX8_isCode.cells) (sk' := rmX8_isCode.slots) (Nat.le_of_ble_eq_true rfl) (Nat.le_of_ble_eq_true rfl) ?_
    exact mm_iret rfl rfl dX8_isCode_45 ⟨rfl, rfl⟩
  · rw [if_neg c1] at hf
    refine mm_iload_n (j := 0) dX8_isCode_12 rfl rfl ?_
    refine mm_bipush (v := 16) dX8_isCode_13 (by decide) ?_
    refine mm_icmp_lt (tgt := 44) dX8_isCode_15 (by decide) (fun c2 => ?_) (fun c2 => ?_)
    · rw [if_pos c2] at hf
      refine mm_iconst (v := 0) dX8_isCode_44 (by decide) ?_
      subst hf
      refine mm_widen (ck' := rmX8_isCode.cells) (sk' := rmX8_isCode.slots) (Nat.le_of_ble_eq_true rfl) (Nat.le_of_ble_eq_true rfl) ?_
      exact mm_iret rfl rfl dX8_isCode_45 ⟨rfl, rfl⟩
    · rw [if_neg c2] at hf
      refine mm_iload_n (j := 0) dX8_isCode_18 rfl rfl ?_
      refine mm_bipush (v := 32) dX8_isCode_19 (by decide) ?_
      refine mm_icmp_ge (tgt := 44) dX8_isCode_21 (by decide) (fun c3 => ?_) (fun c3 => ?_)
      · rw [if_pos c3] at hf
        refine mm_iconst (v := 0) dX8_isCode_44 (by decide) ?_
        subst hf
        refine mm_widen (ck' := rmX8_isCode.cells) (sk' := rmX8_isCode.slots) (Nat.le_of_ble_eq_true rfl) (Nat.le_of_ble_eq_true rfl) ?_
        exact mm_iret rfl rfl dX8_isCode_45 ⟨rfl, rfl⟩
      · rw [if_neg c3] at hf
        refine mm_iload_n (j := 2) dX8_isCode_24 rfl rfl ?_
        refine mm_callSi cd_ok (kX8_isRight p1 _ rfl) (Or.inl tw_311) cdX8_isRight tw_312 nmX8_isRight rfl rfl (by simp only [List.map_cons, List.map_nil, mm_rf_cat]; exact Nat.le_of_ble_eq_true rfl) dX8_isCode_25 ⟨Nat.le_of_ble_eq_true rfl, Nat.le_of_ble_eq_true rfl⟩ ⟨Nat.le_of_ble_eq_true rfl, Nat.le_of_ble_eq_true rfl⟩ ?_
        refine mm_if_eq (tgt := 44) dX8_isCode_28 (by decide) (fun c4 => ?_) (fun c4 => ?_)
        · rw [if_pos c4] at hf
          refine mm_iconst (v := 0) dX8_isCode_44 (by decide) ?_
          subst hf
          refine mm_widen (ck' := rmX8_isCode.cells) (sk' := rmX8_isCode.slots) (Nat.le_of_ble_eq_true rfl) (Nat.le_of_ble_eq_true rfl) ?_
          exact mm_iret rfl rfl dX8_isCode_45 ⟨rfl, rfl⟩
        · rw [if_neg c4] at hf
          refine mm_iload_n (j := 2) dX8_isCode_31 rfl rfl ?_
          refine mm_bipush (v := 127) dX8_isCode_32 (by decide) ?_
          refine mm_iand dX8_isCode_34 ?_
          refine mm_bipush (v := 32) dX8_isCode_35 (by decide) ?_
          refine mm_icmp_lt (tgt := 44) dX8_isCode_37 (by decide) (fun c5 => ?_) (fun c5 => ?_)
          · rw [if_pos c5] at hf
            refine mm_iconst (v := 0) dX8_isCode_44 (by decide) ?_
            subst hf
            refine mm_widen (ck' := rmX8_isCode.cells) (sk' := rmX8_isCode.slots) (Nat.le_of_ble_eq_true rfl) (Nat.le_of_ble_eq_true rfl) ?_
            exact mm_iret rfl rfl dX8_isCode_45 ⟨rfl, rfl⟩
          · rw [if_neg c5] at hf
            refine mm_iconst (v := 1) dX8_isCode_40 (by decide) ?_
            refine mm_goto (tgt := 45) dX8_isCode_41 (by decide) ?_
            subst hf
            refine mm_widen (ck' := rmX8_isCode.cells) (sk' := rmX8_isCode.slots) (Nat.le_of_ble_eq_true rfl) (Nat.le_of_ble_eq_true rfl) ?_
            exact mm_iret rfl rfl dX8_isCode_45 ⟨rfl, rfl⟩
theorem dX8_guarded_0 : decode cX8_guarded 0 = .ok (.iload_n 1, 1) := by decide +kernel
theorem dX8_guarded_1 : decode cX8_guarded 1 = .ok (.sipush 255, 3) := by decide +kernel
theorem dX8_guarded_4 : decode cX8_guarded 4 = .ok (.iand, 1) := by decide +kernel
theorem dX8_guarded_5 : decode cX8_guarded 5 = .ok (.invokestatic 144, 3) := by decide +kernel
theorem dX8_guarded_8 : decode cX8_guarded 8 = .ok (.ireturn, 1) := by decide +kernel
theorem nmX8_guarded : mm_nm yX8_guarded 1 := ⟨by decide, by decide, by decide +kernel⟩
theorem cdX8_guarded : mm_cd cd_Y yX8_guarded cX8_guarded 2 (some .int) := ⟨tw_186, tw_1⟩
abbrev rmX8_guarded : Room := { frames := 3, cells := 0, slots := 0, locals := 62 }
def fX8_guarded (p0 : Nat) (p1 : Int32) (σ : mm_M) : Option (Int32 × mm_M) :=
  mm_on (fX8_mend (p1 &&& 255) σ) fun q1 => some (q1.1, q1.2)
set_option maxHeartbeats 4000000 in
set_option maxRecDepth 100000 in
theorem kX8_guarded {G : mm_G} {A : Nat → Prop} (p0 : Nat) (p1 : Int32) {σ : mm_M} {R : (Int32 × mm_M)} (hf : fX8_guarded p0 p1 σ = some R) : mm_C cd_Y G yX8_guarded cX8_guarded 2 (some .int) rmX8_guarded A [.ref p0, .int p1] σ (mm_Pi R.1 R.2) := by
  refine mm_C.of (by decide) (Nat.le_of_ble_eq_true rfl) ?_
  unfold fX8_guarded at hf
  have e0 : lv_args 0 [.ref p0, .int p1] = [(0, .ref p0), (1, .int p1)] := rfl
  rw [e0]
  generalize hini : ((yX8_guarded.name == "<init>"), none) = ini
  clear e0
  clear hini
  refine mm_iload_n (j := 1) dX8_guarded_0 rfl rfl ?_
  refine mm_sipush (v := 255) dX8_guarded_1 (by decide) ?_
  refine mm_iand dX8_guarded_4 ?_
  obtain ⟨q1, hq1, hf⟩ := mm_on_s hf
  refine mm_callSi cd_ok (kX8_mend (p1 &&& 255) hq1) (Or.inl tw_187) cdX8_mend tw_188 nmX8_mend rfl rfl (by simp only [List.map_cons, List.map_nil, mm_rf_cat]; exact Nat.le_of_ble_eq_true rfl) dX8_guarded_5 ⟨Nat.le_of_ble_eq_true rfl, Nat.le_of_ble_eq_true rfl⟩ ⟨Nat.le_of_ble_eq_true rfl, Nat.le_of_ble_eq_true rfl⟩ ?_
  cases hf
  refine mm_widen (ck' := rmX8_guarded.cells) (sk' := rmX8_guarded.slots) (Nat.le_of_ble_eq_true rfl) (Nat.le_of_ble_eq_true rfl) ?_
  exact mm_iret rfl rfl dX8_guarded_8 ⟨rfl, rfl⟩
theorem dX8_openPage_0 : decode cX8_openPage 0 = .ok (.aload_n 1, 1) := by decide +kernel
theorem dX8_openPage_1 : decode cX8_openPage 1 = .ok (.iconst 1, 1) := by decide +kernel
theorem dX8_openPage_2 : decode cX8_openPage 2 = .ok (.putfield 197, 3) := by decide +kernel
theorem dX8_openPage_5 : decode cX8_openPage 5 = .ok (.aload_n 1, 1) := by decide +kernel
theorem dX8_openPage_6 : decode cX8_openPage 6 = .ok (.dup, 1) := by decide +kernel
theorem dX8_openPage_7 : decode cX8_openPage 7 = .ok (.getfield 204, 3) := by decide +kernel
theorem dX8_openPage_10 : decode cX8_openPage 10 = .ok (.iconst 1, 1) := by decide +kernel
theorem dX8_openPage_11 : decode cX8_openPage 11 = .ok (.iadd, 1) := by decide +kernel
theorem dX8_openPage_12 : decode cX8_openPage 12 = .ok (.putfield 204, 3) := by decide +kernel
theorem dX8_openPage_15 : decode cX8_openPage 15 = .ok (.aload_n 1, 1) := by decide +kernel
theorem dX8_openPage_16 : decode cX8_openPage 16 = .ok (.aload_n 0, 1) := by decide +kernel
theorem dX8_openPage_17 : decode cX8_openPage 17 = .ok (.getfield 25, 3) := by decide +kernel
theorem dX8_openPage_20 : decode cX8_openPage 20 = .ok (.iconst 3, 1) := by decide +kernel
theorem dX8_openPage_21 : decode cX8_openPage 21 = .ok (.iaload, 1) := by decide +kernel
theorem dX8_openPage_22 : decode cX8_openPage 22 = .ok (.bipush 8, 2) := by decide +kernel
theorem dX8_openPage_24 : decode cX8_openPage 24 = .ok (.iand, 1) := by decide +kernel
theorem dX8_openPage_25 : decode cX8_openPage 25 = .ok (.ifCond .eq 7, 3) := by decide +kernel
theorem dX8_openPage_28 : decode cX8_openPage 28 = .ok (.iconst 1, 1) := by decide +kernel
theorem dX8_openPage_29 : decode cX8_openPage 29 = .ok (.goto 4, 3) := by decide +kernel
theorem dX8_openPage_32 : decode cX8_openPage 32 = .ok (.iconst 0, 1) := by decide +kernel
theorem dX8_openPage_33 : decode cX8_openPage 33 = .ok (.aload_n 0, 1) := by decide +kernel
theorem dX8_openPage_34 : decode cX8_openPage 34 = .ok (.getfield 25, 3) := by decide +kernel
theorem dX8_openPage_37 : decode cX8_openPage 37 = .ok (.iconst 5, 1) := by decide +kernel
theorem dX8_openPage_38 : decode cX8_openPage 38 = .ok (.iaload, 1) := by decide +kernel
theorem dX8_openPage_39 : decode cX8_openPage 39 = .ok (.iconst 4, 1) := by decide +kernel
theorem dX8_openPage_40 : decode cX8_openPage 40 = .ok (.iand, 1) := by decide +kernel
theorem dX8_openPage_41 : decode cX8_openPage 41 = .ok (.ifCond .eq 7, 3) := by decide +kernel
theorem dX8_openPage_44 : decode cX8_openPage 44 = .ok (.iconst 2, 1) := by decide +kernel
theorem dX8_openPage_45 : decode cX8_openPage 45 = .ok (.goto 4, 3) := by decide +kernel
theorem dX8_openPage_48 : decode cX8_openPage 48 = .ok (.iconst 0, 1) := by decide +kernel
theorem dX8_openPage_49 : decode cX8_openPage 49 = .ok (.iadd, 1) := by decide +kernel
theorem dX8_openPage_50 : decode cX8_openPage 50 = .ok (.aload_n 0, 1) := by decide +kernel
theorem dX8_openPage_51 : decode cX8_openPage 51 = .ok (.getfield 25, 3) := by decide +kernel
theorem dX8_openPage_54 : decode cX8_openPage 54 = .ok (.iconst 5, 1) := by decide +kernel
theorem dX8_openPage_55 : decode cX8_openPage 55 = .ok (.iaload, 1) := by decide +kernel
theorem dX8_openPage_56 : decode cX8_openPage 56 = .ok (.bipush 8, 2) := by decide +kernel
theorem dX8_openPage_58 : decode cX8_openPage 58 = .ok (.iand, 1) := by decide +kernel
theorem dX8_openPage_59 : decode cX8_openPage 59 = .ok (.ifCond .eq 7, 3) := by decide +kernel
theorem dX8_openPage_62 : decode cX8_openPage 62 = .ok (.iconst 4, 1) := by decide +kernel
theorem dX8_openPage_63 : decode cX8_openPage 63 = .ok (.goto 4, 3) := by decide +kernel
theorem dX8_openPage_66 : decode cX8_openPage 66 = .ok (.iconst 0, 1) := by decide +kernel
theorem dX8_openPage_67 : decode cX8_openPage 67 = .ok (.iadd, 1) := by decide +kernel
theorem dX8_openPage_68 : decode cX8_openPage 68 = .ok (.aload_n 0, 1) := by decide +kernel
theorem dX8_openPage_69 : decode cX8_openPage 69 = .ok (.getfield 25, 3) := by decide +kernel
theorem dX8_openPage_72 : decode cX8_openPage 72 = .ok (.bipush 7, 2) := by decide +kernel
theorem dX8_openPage_74 : decode cX8_openPage 74 = .ok (.iaload, 1) := by decide +kernel
theorem dX8_openPage_75 : decode cX8_openPage 75 = .ok (.iconst 1, 1) := by decide +kernel
theorem dX8_openPage_76 : decode cX8_openPage 76 = .ok (.iand, 1) := by decide +kernel
theorem dX8_openPage_77 : decode cX8_openPage 77 = .ok (.ifCond .eq 8, 3) := by decide +kernel
theorem dX8_openPage_80 : decode cX8_openPage 80 = .ok (.bipush 8, 2) := by decide +kernel
theorem dX8_openPage_82 : decode cX8_openPage 82 = .ok (.goto 4, 3) := by decide +kernel
theorem dX8_openPage_85 : decode cX8_openPage 85 = .ok (.iconst 0, 1) := by decide +kernel
theorem dX8_openPage_86 : decode cX8_openPage 86 = .ok (.iadd, 1) := by decide +kernel
theorem dX8_openPage_87 : decode cX8_openPage 87 = .ok (.putfield 194, 3) := by decide +kernel
theorem dX8_openPage_90 : decode cX8_openPage 90 = .ok (.aload_n 1, 1) := by decide +kernel
theorem dX8_openPage_91 : decode cX8_openPage 91 = .ok (.getfield 194, 3) := by decide +kernel
theorem dX8_openPage_94 : decode cX8_openPage 94 = .ok (.iconst 1, 1) := by decide +kernel
theorem dX8_openPage_95 : decode cX8_openPage 95 = .ok (.iand, 1) := by decide +kernel
theorem dX8_openPage_96 : decode cX8_openPage 96 = .ok (.ifCond .eq 15, 3) := by decide +kernel
theorem dX8_openPage_99 : decode cX8_openPage 99 = .ok (.aload_n 1, 1) := by decide +kernel
theorem dX8_openPage_100 : decode cX8_openPage 100 = .ok (.getfield 209, 3) := by decide +kernel
theorem dX8_openPage_103 : decode cX8_openPage 103 = .ok (.iconst 1, 1) := by decide +kernel
theorem dX8_openPage_104 : decode cX8_openPage 104 = .ok (.invokevirtual 268, 3) := by decide +kernel
theorem dX8_openPage_107 : decode cX8_openPage 107 = .ok (.aload_n 1, 1) := by decide +kernel
theorem dX8_openPage_108 : decode cX8_openPage 108 = .ok (.invokevirtual 271, 3) := by decide +kernel
theorem dX8_openPage_111 : decode cX8_openPage 111 = .ok (.aload_n 1, 1) := by decide +kernel
theorem dX8_openPage_112 : decode cX8_openPage 112 = .ok (.getfield 209, 3) := by decide +kernel
theorem dX8_openPage_115 : decode cX8_openPage 115 = .ok (.iconst 0, 1) := by decide +kernel
theorem dX8_openPage_116 : decode cX8_openPage 116 = .ok (.bipush 8, 2) := by decide +kernel
theorem dX8_openPage_118 : decode cX8_openPage 118 = .ok (.aload_n 0, 1) := by decide +kernel
theorem dX8_openPage_119 : decode cX8_openPage 119 = .ok (.getfield 22, 3) := by decide +kernel
theorem dX8_openPage_122 : decode cX8_openPage 122 = .ok (.bipush 10, 2) := by decide +kernel
theorem dX8_openPage_124 : decode cX8_openPage 124 = .ok (.invokevirtual 243, 3) := by decide +kernel
theorem dX8_openPage_127 : decode cX8_openPage 127 = .ok (.return_, 1) := by decide +kernel
theorem nmX8_openPage : mm_nm yX8_openPage 1 := ⟨by decide, by decide, by decide +kernel⟩
theorem cdX8_openPage : mm_cd cd_Y yX8_openPage cX8_openPage 2 none := ⟨tw_609, tw_1⟩
abbrev rmX8_openPage : Room := { frames := 3, cells := 0, slots := 0, locals := 66 }
def fX8_openPage_111  (a0 : Nat) (a1 : Nat) (σ : mm_M) : Option mm_M :=
  mm_sh σ a1 (.inl 3) (mm_sh σ a0 (.inl 8) (mm_on (mm_R σ a0 3) fun q30 => mm_on (mm_R σ a1 0) fun q31 => mm_sh σ q31 (.inl 4) (mm_on (fX4_fill q31 0 8 q30 10 σ) fun q33 => some (q33))))
def fX8_openPage_86  (a0 : Nat) (a1 : Nat) (y0 : Int32) (y1 : Int32) (y2 : Nat) (σ : mm_M) : Option mm_M :=
  mm_sh σ y2 (.inl 3) (mm_let (mm_wI σ y2 5 (y1 + y0)) fun s25 => mm_sh s25 a1 (.inl 3) ((if ((mm_I s25 a1 5) &&& 1) = 0 then (fX8_openPage_111  a0 a1 s25) else mm_on (mm_R s25 a1 0) fun q34 => mm_sh s25 q34 (.inl 4) (mm_on (fX4_eraseRows q34 1 s25) fun q36 => mm_sh q36 a1 (.inl 3) (mm_on (fX3_eraseLinks a1 q36) fun q38 => (fX8_openPage_111  a0 a1 q38))))))
def fX8_openPage_67  (a0 : Nat) (a1 : Nat) (y0 : Int32) (y1 : Int32) (y2 : Nat) (σ : mm_M) : Option mm_M :=
  mm_sh σ a0 (.inl 8) (mm_on (mm_R σ a0 5) fun q20 => mm_ar σ q20 0 fun n21 => mm_ib 7 n21 ((if ((mm_I σ q20 (7 : Int32).toNatClampNeg) &&& 1) = 0 then (fX8_openPage_86  a0 a1 0 (y1 + y0) y2 σ) else (fX8_openPage_86  a0 a1 8 (y1 + y0) y2 σ))))
def fX8_openPage_49  (a0 : Nat) (a1 : Nat) (y0 : Int32) (y1 : Int32) (y2 : Nat) (σ : mm_M) : Option mm_M :=
  mm_sh σ a0 (.inl 8) (mm_on (mm_R σ a0 5) fun q15 => mm_ar σ q15 0 fun n16 => mm_ib 5 n16 ((if ((mm_I σ q15 (5 : Int32).toNatClampNeg) &&& 8) = 0 then (fX8_openPage_67  a0 a1 0 (y1 + y0) y2 σ) else (fX8_openPage_67  a0 a1 4 (y1 + y0) y2 σ))))
def fX8_openPage_33  (a0 : Nat) (a1 : Nat) (y0 : Int32) (y1 : Nat) (σ : mm_M) : Option mm_M :=
  mm_sh σ a0 (.inl 8) (mm_on (mm_R σ a0 5) fun q10 => mm_ar σ q10 0 fun n11 => mm_ib 5 n11 ((if ((mm_I σ q10 (5 : Int32).toNatClampNeg) &&& 4) = 0 then (fX8_openPage_49  a0 a1 0 y0 y1 σ) else (fX8_openPage_49  a0 a1 2 y0 y1 σ))))
def fX8_openPage (p0 : Nat) (p1 : Nat) (σ : mm_M) : Option mm_M :=
  mm_sh σ p1 (.inl 3) (mm_let (mm_wI σ p1 6 1) fun s2 => mm_let (mm_wI s2 p1 8 ((mm_I s2 p1 8) + 1)) fun s3 => mm_sh s3 p0 (.inl 8) (mm_on (mm_R s3 p0 5) fun q5 => mm_ar s3 q5 0 fun n6 => mm_ib 3 n6 ((if ((mm_I s3 q5 (3 : Int32).toNatClampNeg) &&& 8) = 0 then (fX8_openPage_33  p0 p1 0 p1 s3) else (fX8_openPage_33  p0 p1 1 p1 s3)))))
set_option maxHeartbeats 4000000 in
set_option maxRecDepth 100000 in
theorem kX8_openPage_111 {G : mm_G} {A : Nat → Prop} {ini : Bool × Option (List (Nat × Nat × Nat × Nat))}  {R : mm_M}  (a0 : Nat) (a1 : Nat) (σ : mm_M) (hf : fX8_openPage_111  a0 a1 σ = some R) : mm_J cd_Y G RX8 cX8_openPage 2 none ini rmX8_openPage A (mm_QF cd_Y G A (mm_Pv R) rmX8_openPage.cells rmX8_openPage.slots) 111 [(0, .ref a0), (1, .ref a1)] [] σ 0 0 := by
  unfold fX8_openPage_111 at hf
  refine mm_aload_n (j := 1) dX8_openPage_111 rfl rfl ?_
  obtain ⟨hs28, hf⟩ := mm_sh_s hf
  refine mm_get (c := 3) (k := 0) (v := va_rf (mm_R σ a1 0)) cd_ok ⟨_, _, _, rfl, by decide, Or.inr ⟨_, tn_29⟩⟩ hs28 rfl dX8_openPage_112 ?_
  refine mm_iconst (v := 0) dX8_openPage_115 (by decide) ?_
  refine mm_bipush (v := 8) dX8_openPage_116 (by decide) ?_
  refine mm_aload_n (j := 0) dX8_openPage_118 rfl rfl ?_
  obtain ⟨hs29, hf⟩ := mm_sh_s hf
  refine mm_get (c := 8) (k := 3) (v := va_rf (mm_R σ a0 3)) cd_ok ⟨_, _, _, rfl, by decide, Or.inl tw_143⟩ hs29 rfl dX8_openPage_119 ?_
  refine mm_bipush (v := 10) dX8_openPage_122 (by decide) ?_
  obtain ⟨q30, hq30, hf⟩ := mm_on_s hf
  rw [hq30, mm_rf_some]
  obtain ⟨q31, hq31, hf⟩ := mm_on_s hf
  rw [hq31, mm_rf_some]
  obtain ⟨hs32, hf⟩ := mm_sh_s hf
  obtain ⟨q33, hq33, hf⟩ := mm_on_s hf
  refine mm_callVv cd_ok (kX4_fill q31 0 8 q30 10 hq33) hs32 rfl (Or.inl tw_612) cdX4_fill tw_613 tw_614 nmX4_fill rfl rfl (by simp only [List.map_cons, List.map_nil, mm_rf_cat]; exact Nat.le_of_ble_eq_true rfl) dX8_openPage_124 ⟨Nat.le_of_ble_eq_true rfl, Nat.le_of_ble_eq_true rfl⟩ ⟨Nat.le_of_ble_eq_true rfl, Nat.le_of_ble_eq_true rfl⟩ ?_
  cases hf
  refine mm_widen (ck' := rmX8_openPage.cells) (sk' := rmX8_openPage.slots) (Nat.le_of_ble_eq_true rfl) (Nat.le_of_ble_eq_true rfl) ?_
  exact mm_vret rfl dX8_openPage_127 ⟨rfl, rfl⟩
set_option maxHeartbeats 4000000 in
set_option maxRecDepth 100000 in
theorem kX8_openPage_86 {G : mm_G} {A : Nat → Prop} {ini : Bool × Option (List (Nat × Nat × Nat × Nat))}  {R : mm_M}  (a0 : Nat) (a1 : Nat) (y0 : Int32) (y1 : Int32) (y2 : Nat) (σ : mm_M) (hf : fX8_openPage_86  a0 a1 y0 y1 y2 σ = some R) : mm_J cd_Y G RX8 cX8_openPage 2 none ini rmX8_openPage A (mm_QF cd_Y G A (mm_Pv R) rmX8_openPage.cells rmX8_openPage.slots) 86 [(0, .ref a0), (1, .ref a1)] [.int y0, .int y1, .ref y2] σ 0 0 := by
  unfold fX8_openPage_86 at hf
  refine mm_iadd dX8_openPage_86 ?_
  obtain ⟨hs24, hf⟩ := mm_sh_s hf
  refine mm_putI (c := 3) (k := 5) cd_ok ⟨_, _, _, rfl, by decide, rfl, Or.inr ⟨_, tn_35⟩⟩ hs24 rfl rfl rfl dX8_openPage_87 ?_
  obtain ⟨s25, hs25, hf⟩ := mm_let_s hf
  rw [hs25]
  refine mm_aload_n (j := 1) dX8_openPage_90 rfl rfl ?_
  obtain ⟨hs26, hf⟩ := mm_sh_s hf
  refine mm_get (c := 3) (k := 5) (v := .int (mm_I s25 a1 5)) cd_ok ⟨_, _, _, rfl, by decide, Or.inr ⟨_, tn_35⟩⟩ hs26 rfl dX8_openPage_91 ?_
  refine mm_iconst (v := 1) dX8_openPage_94 (by decide) ?_
  refine mm_iand dX8_openPage_95 ?_
  refine mm_if_eq (tgt := 111) dX8_openPage_96 (by decide) (fun c27 => ?_) (fun c27 => ?_)
  · rw [if_pos c27] at hf
    refine mm_sub [0, 1] rfl ?_
    exact kX8_openPage_111  a0 a1 s25 hf
  · rw [if_neg c27] at hf
    refine mm_aload_n (j := 1) dX8_openPage_99 rfl rfl ?_
    refine mm_get (c := 3) (k := 0) (v := va_rf (mm_R s25 a1 0)) cd_ok ⟨_, _, _, rfl, by decide, Or.inr ⟨_, tn_29⟩⟩ hs26 rfl dX8_openPage_100 ?_
    refine mm_iconst (v := 1) dX8_openPage_103 (by decide) ?_
    obtain ⟨q34, hq34, hf⟩ := mm_on_s hf
    rw [hq34, mm_rf_some]
    obtain ⟨hs35, hf⟩ := mm_sh_s hf
    obtain ⟨q36, hq36, hf⟩ := mm_on_s hf
    refine mm_callVv cd_ok (kX4_eraseRows q34 1 hq36) hs35 rfl (Or.inl tw_610) cdX4_eraseRows tw_590 tw_591 nmX4_eraseRows rfl rfl (by simp only [List.map_cons, List.map_nil, mm_rf_cat]; exact Nat.le_of_ble_eq_true rfl) dX8_openPage_104 ⟨Nat.le_of_ble_eq_true rfl, Nat.le_of_ble_eq_true rfl⟩ ⟨Nat.le_of_ble_eq_true rfl, Nat.le_of_ble_eq_true rfl⟩ ?_
    refine mm_aload_n (j := 1) dX8_openPage_107 rfl rfl ?_
    obtain ⟨hs37, hf⟩ := mm_sh_s hf
    obtain ⟨q38, hq38, hf⟩ := mm_on_s hf
    refine mm_callVv cd_ok (kX3_eraseLinks a1 hq38) hs37 rfl (Or.inl tw_611) cdX3_eraseLinks tw_599 tw_600 nmX3_eraseLinks rfl rfl (by simp only [List.map_cons, List.map_nil, mm_rf_cat]; exact Nat.le_of_ble_eq_true rfl) dX8_openPage_108 ⟨Nat.le_of_ble_eq_true rfl, Nat.le_of_ble_eq_true rfl⟩ ⟨Nat.le_of_ble_eq_true rfl, Nat.le_of_ble_eq_true rfl⟩ ?_
    refine mm_sub [0, 1] rfl ?_
    exact kX8_openPage_111  a0 a1 q38 hf
set_option maxHeartbeats 4000000 in
set_option maxRecDepth 100000 in
theorem kX8_openPage_67 {G : mm_G} {A : Nat → Prop} {ini : Bool × Option (List (Nat × Nat × Nat × Nat))}  {R : mm_M}  (a0 : Nat) (a1 : Nat) (y0 : Int32) (y1 : Int32) (y2 : Nat) (σ : mm_M) (hf : fX8_openPage_67  a0 a1 y0 y1 y2 σ = some R) : mm_J cd_Y G RX8 cX8_openPage 2 none ini rmX8_openPage A (mm_QF cd_Y G A (mm_Pv R) rmX8_openPage.cells rmX8_openPage.slots) 67 [(0, .ref a0), (1, .ref a1)] [.int y0, .int y1, .ref y2] σ 0 0 := by
  unfold fX8_openPage_67 at hf
  refine mm_iadd dX8_openPage_67 ?_
  refine mm_aload_n (j := 0) dX8_openPage_68 rfl rfl ?_
  obtain ⟨hs19, hf⟩ := mm_sh_s hf
  refine mm_get (c := 8) (k := 5) (v := va_rf (mm_R σ a0 5)) cd_ok ⟨_, _, _, rfl, by decide, Or.inl tw_145⟩ hs19 rfl dX8_openPage_69 ?_
  refine mm_bipush (v := 7) dX8_openPage_72 (by decide) ?_
  obtain ⟨q20, hq20, hf⟩ := mm_on_s hf
  rw [hq20, mm_rf_some]
  obtain ⟨n21, hn21, hf⟩ := mm_ar_s hf
  obtain ⟨hi22, hf⟩ := mm_ib_s hf
  refine mm_iald hn21 rfl hi22 dX8_openPage_74 ?_
  refine mm_iconst (v := 1) dX8_openPage_75 (by decide) ?_
  refine mm_iand dX8_openPage_76 ?_
  refine mm_if_eq (tgt := 85) dX8_openPage_77 (by decide) (fun c23 => ?_) (fun c23 => ?_)
  · rw [if_pos c23] at hf
    refine mm_iconst (v := 0) dX8_openPage_85 (by decide) ?_
    refine mm_sub [0, 1] rfl ?_
    exact kX8_openPage_86  a0 a1 0 (y1 + y0) y2 σ hf
  · rw [if_neg c23] at hf
    refine mm_bipush (v := 8) dX8_openPage_80 (by decide) ?_
    refine mm_goto (tgt := 86) dX8_openPage_82 (by decide) ?_
    refine mm_sub [0, 1] rfl ?_
    exact kX8_openPage_86  a0 a1 8 (y1 + y0) y2 σ hf
set_option maxHeartbeats 4000000 in
set_option maxRecDepth 100000 in
theorem kX8_openPage_49 {G : mm_G} {A : Nat → Prop} {ini : Bool × Option (List (Nat × Nat × Nat × Nat))}  {R : mm_M}  (a0 : Nat) (a1 : Nat) (y0 : Int32) (y1 : Int32) (y2 : Nat) (σ : mm_M) (hf : fX8_openPage_49  a0 a1 y0 y1 y2 σ = some R) : mm_J cd_Y G RX8 cX8_openPage 2 none ini rmX8_openPage A (mm_QF cd_Y G A (mm_Pv R) rmX8_openPage.cells rmX8_openPage.slots) 49 [(0, .ref a0), (1, .ref a1)] [.int y0, .int y1, .ref y2] σ 0 0 := by
  unfold fX8_openPage_49 at hf
  refine mm_iadd dX8_openPage_49 ?_
  refine mm_aload_n (j := 0) dX8_openPage_50 rfl rfl ?_
  obtain ⟨hs14, hf⟩ := mm_sh_s hf
  refine mm_get (c := 8) (k := 5) (v := va_rf (mm_R σ a0 5)) cd_ok ⟨_, _, _, rfl, by decide, Or.inl tw_145⟩ hs14 rfl dX8_openPage_51 ?_
  refine mm_iconst (v := 5) dX8_openPage_54 (by decide) ?_
  obtain ⟨q15, hq15, hf⟩ := mm_on_s hf
  rw [hq15, mm_rf_some]
  obtain ⟨n16, hn16, hf⟩ := mm_ar_s hf
  obtain ⟨hi17, hf⟩ := mm_ib_s hf
  refine mm_iald hn16 rfl hi17 dX8_openPage_55 ?_
  refine mm_bipush (v := 8) dX8_openPage_56 (by decide) ?_
  refine mm_iand dX8_openPage_58 ?_
  refine mm_if_eq (tgt := 66) dX8_openPage_59 (by decide) (fun c18 => ?_) (fun c18 => ?_)
  · rw [if_pos c18] at hf
    refine mm_iconst (v := 0) dX8_openPage_66 (by decide) ?_
    refine mm_sub [0, 1] rfl ?_
    exact kX8_openPage_67  a0 a1 0 (y1 + y0) y2 σ hf
  · rw [if_neg c18] at hf
    refine mm_iconst (v := 4) dX8_openPage_62 (by decide) ?_
    refine mm_goto (tgt := 67) dX8_openPage_63 (by decide) ?_
    refine mm_sub [0, 1] rfl ?_
    exact kX8_openPage_67  a0 a1 4 (y1 + y0) y2 σ hf
set_option maxHeartbeats 4000000 in
set_option maxRecDepth 100000 in
theorem kX8_openPage_33 {G : mm_G} {A : Nat → Prop} {ini : Bool × Option (List (Nat × Nat × Nat × Nat))}  {R : mm_M}  (a0 : Nat) (a1 : Nat) (y0 : Int32) (y1 : Nat) (σ : mm_M) (hf : fX8_openPage_33  a0 a1 y0 y1 σ = some R) : mm_J cd_Y G RX8 cX8_openPage 2 none ini rmX8_openPage A (mm_QF cd_Y G A (mm_Pv R) rmX8_openPage.cells rmX8_openPage.slots) 33 [(0, .ref a0), (1, .ref a1)] [.int y0, .ref y1] σ 0 0 := by
  unfold fX8_openPage_33 at hf
  refine mm_aload_n (j := 0) dX8_openPage_33 rfl rfl ?_
  obtain ⟨hs9, hf⟩ := mm_sh_s hf
  refine mm_get (c := 8) (k := 5) (v := va_rf (mm_R σ a0 5)) cd_ok ⟨_, _, _, rfl, by decide, Or.inl tw_145⟩ hs9 rfl dX8_openPage_34 ?_
  refine mm_iconst (v := 5) dX8_openPage_37 (by decide) ?_
  obtain ⟨q10, hq10, hf⟩ := mm_on_s hf
  rw [hq10, mm_rf_some]
  obtain ⟨n11, hn11, hf⟩ := mm_ar_s hf
  obtain ⟨hi12, hf⟩ := mm_ib_s hf
  refine mm_iald hn11 rfl hi12 dX8_openPage_38 ?_
  refine mm_iconst (v := 4) dX8_openPage_39 (by decide) ?_
  refine mm_iand dX8_openPage_40 ?_
  refine mm_if_eq (tgt := 48) dX8_openPage_41 (by decide) (fun c13 => ?_) (fun c13 => ?_)
  · rw [if_pos c13] at hf
    refine mm_iconst (v := 0) dX8_openPage_48 (by decide) ?_
    refine mm_sub [0, 1] rfl ?_
    exact kX8_openPage_49  a0 a1 0 y0 y1 σ hf
  · rw [if_neg c13] at hf
    refine mm_iconst (v := 2) dX8_openPage_44 (by decide) ?_
    refine mm_goto (tgt := 49) dX8_openPage_45 (by decide) ?_
    refine mm_sub [0, 1] rfl ?_
    exact kX8_openPage_49  a0 a1 2 y0 y1 σ hf
set_option maxHeartbeats 4000000 in
set_option maxRecDepth 100000 in
theorem kX8_openPage {G : mm_G} {A : Nat → Prop} (p0 : Nat) (p1 : Nat) {σ : mm_M} {R : mm_M} (hf : fX8_openPage p0 p1 σ = some R) : mm_C cd_Y G yX8_openPage cX8_openPage 2 none rmX8_openPage A [.ref p0, .ref p1] σ (mm_Pv R) := by
  refine mm_C.of (by decide) (Nat.le_of_ble_eq_true rfl) ?_
  unfold fX8_openPage at hf
  have e0 : lv_args 0 [.ref p0, .ref p1] = [(0, .ref p0), (1, .ref p1)] := rfl
  rw [e0]
  generalize hini : ((yX8_openPage.name == "<init>"), none) = ini
  clear e0
  clear hini
  refine mm_aload_n (j := 1) dX8_openPage_0 rfl rfl ?_
  refine mm_iconst (v := 1) dX8_openPage_1 (by decide) ?_
  obtain ⟨hs1, hf⟩ := mm_sh_s hf
  refine mm_putI (c := 3) (k := 6) cd_ok ⟨_, _, _, rfl, by decide, rfl, Or.inr ⟨_, tn_37⟩⟩ hs1 rfl rfl rfl dX8_openPage_2 ?_
  obtain ⟨s2, hs2, hf⟩ := mm_let_s hf
  rw [hs2]
  refine mm_aload_n (j := 1) dX8_openPage_5 rfl rfl ?_
  refine mm_dup dX8_openPage_6 rfl ?_
  refine mm_get (c := 3) (k := 8) (v := .int (mm_I s2 p1 8)) cd_ok ⟨_, _, _, rfl, by decide, Or.inr ⟨_, tn_39⟩⟩ (mm_ke hs2 hs1) rfl dX8_openPage_7 ?_
  refine mm_iconst (v := 1) dX8_openPage_10 (by decide) ?_
  refine mm_iadd dX8_openPage_11 ?_
  refine mm_putI (c := 3) (k := 8) cd_ok ⟨_, _, _, rfl, by decide, rfl, Or.inr ⟨_, tn_39⟩⟩ (mm_ke hs2 hs1) rfl rfl rfl dX8_openPage_12 ?_
  obtain ⟨s3, hs3, hf⟩ := mm_let_s hf
  rw [hs3]
  refine mm_aload_n (j := 1) dX8_openPage_15 rfl rfl ?_
  refine mm_aload_n (j := 0) dX8_openPage_16 rfl rfl ?_
  obtain ⟨hs4, hf⟩ := mm_sh_s hf
  refine mm_get (c := 8) (k := 5) (v := va_rf (mm_R s3 p0 5)) cd_ok ⟨_, _, _, rfl, by decide, Or.inl tw_145⟩ hs4 rfl dX8_openPage_17 ?_
  refine mm_iconst (v := 3) dX8_openPage_20 (by decide) ?_
  obtain ⟨q5, hq5, hf⟩ := mm_on_s hf
  rw [hq5, mm_rf_some]
  obtain ⟨n6, hn6, hf⟩ := mm_ar_s hf
  obtain ⟨hi7, hf⟩ := mm_ib_s hf
  refine mm_iald hn6 rfl hi7 dX8_openPage_21 ?_
  refine mm_bipush (v := 8) dX8_openPage_22 (by decide) ?_
  refine mm_iand dX8_openPage_24 ?_
  refine mm_if_eq (tgt := 32) dX8_openPage_25 (by decide) (fun c8 => ?_) (fun c8 => ?_)
  · rw [if_pos c8] at hf
    refine mm_iconst (v := 0) dX8_openPage_32 (by decide) ?_
    refine mm_sub [0, 1] rfl ?_
    exact kX8_openPage_33  p0 p1 0 p1 s3 hf
  · rw [if_neg c8] at hf
    refine mm_iconst (v := 1) dX8_openPage_28 (by decide) ?_
    refine mm_goto (tgt := 33) dX8_openPage_29 (by decide) ?_
    refine mm_sub [0, 1] rfl ?_
    exact kX8_openPage_33  p0 p1 1 p1 s3 hf
theorem dX8_takeLinks_0 : decode cX8_takeLinks 0 = .ok (.aload_n 0, 1) := by decide +kernel
theorem dX8_takeLinks_1 : decode cX8_takeLinks 1 = .ok (.iconst 2, 1) := by decide +kernel
theorem dX8_takeLinks_2 : decode cX8_takeLinks 2 = .ok (.invokevirtual 160, 3) := by decide +kernel
theorem dX8_takeLinks_5 : decode cX8_takeLinks 5 = .ok (.ifCond .eq 4, 3) := by decide +kernel
theorem dX8_takeLinks_8 : decode cX8_takeLinks 8 = .ok (.return_, 1) := by decide +kernel
theorem dX8_takeLinks_9 : decode cX8_takeLinks 9 = .ok (.iconst 0, 1) := by decide +kernel
theorem dX8_takeLinks_10 : decode cX8_takeLinks 10 = .ok (.istore_n 3, 1) := by decide +kernel
theorem dX8_takeLinks_11 : decode cX8_takeLinks 11 = .ok (.iload_n 3, 1) := by decide +kernel
theorem dX8_takeLinks_12 : decode cX8_takeLinks 12 = .ok (.bipush 6, 2) := by decide +kernel
theorem dX8_takeLinks_14 : decode cX8_takeLinks 14 = .ok (.if_icmp .ge 126, 3) := by decide +kernel
theorem dX8_takeLinks_17 : decode cX8_takeLinks 17 = .ok (.aload_n 0, 1) := by decide +kernel
theorem dX8_takeLinks_18 : decode cX8_takeLinks 18 = .ok (.iconst 3, 1) := by decide +kernel
theorem dX8_takeLinks_19 : decode cX8_takeLinks 19 = .ok (.bipush 6, 2) := by decide +kernel
theorem dX8_takeLinks_21 : decode cX8_takeLinks 21 = .ok (.iload_n 3, 1) := by decide +kernel
theorem dX8_takeLinks_22 : decode cX8_takeLinks 22 = .ok (.imul, 1) := by decide +kernel
theorem dX8_takeLinks_23 : decode cX8_takeLinks 23 = .ok (.iadd, 1) := by decide +kernel
theorem dX8_takeLinks_24 : decode cX8_takeLinks 24 = .ok (.bipush 6, 2) := by decide +kernel
theorem dX8_takeLinks_26 : decode cX8_takeLinks 26 = .ok (.invokevirtual 247, 3) := by decide +kernel
theorem dX8_takeLinks_29 : decode cX8_takeLinks 29 = .ok (.ifCond .eq 105, 3) := by decide +kernel
theorem dX8_takeLinks_32 : decode cX8_takeLinks 32 = .ok (.aload_n 0, 1) := by decide +kernel
theorem dX8_takeLinks_33 : decode cX8_takeLinks 33 = .ok (.getfield 25, 3) := by decide +kernel
theorem dX8_takeLinks_36 : decode cX8_takeLinks 36 = .ok (.iconst 3, 1) := by decide +kernel
theorem dX8_takeLinks_37 : decode cX8_takeLinks 37 = .ok (.iaload, 1) := by decide +kernel
theorem dX8_takeLinks_38 : decode cX8_takeLinks 38 = .ok (.bipush 8, 2) := by decide +kernel
theorem dX8_takeLinks_40 : decode cX8_takeLinks 40 = .ok (.idiv, 1) := by decide +kernel
theorem dX8_takeLinks_41 : decode cX8_takeLinks 41 = .ok (.iconst 2, 1) := by decide +kernel
theorem dX8_takeLinks_42 : decode cX8_takeLinks 42 = .ok (.aload_n 0, 1) := by decide +kernel
theorem dX8_takeLinks_43 : decode cX8_takeLinks 43 = .ok (.getfield 25, 3) := by decide +kernel
theorem dX8_takeLinks_46 : decode cX8_takeLinks 46 = .ok (.iconst 5, 1) := by decide +kernel
theorem dX8_takeLinks_47 : decode cX8_takeLinks 47 = .ok (.iaload, 1) := by decide +kernel
theorem dX8_takeLinks_48 : decode cX8_takeLinks 48 = .ok (.iconst 4, 1) := by decide +kernel
theorem dX8_takeLinks_49 : decode cX8_takeLinks 49 = .ok (.idiv, 1) := by decide +kernel
theorem dX8_takeLinks_50 : decode cX8_takeLinks 50 = .ok (.imul, 1) := by decide +kernel
theorem dX8_takeLinks_51 : decode cX8_takeLinks 51 = .ok (.iadd, 1) := by decide +kernel
theorem dX8_takeLinks_52 : decode cX8_takeLinks 52 = .ok (.istore 4, 2) := by decide +kernel
theorem dX8_takeLinks_54 : decode cX8_takeLinks 54 = .ok (.iconst 3, 1) := by decide +kernel
theorem dX8_takeLinks_55 : decode cX8_takeLinks 55 = .ok (.iload_n 3, 1) := by decide +kernel
theorem dX8_takeLinks_56 : decode cX8_takeLinks 56 = .ok (.imul, 1) := by decide +kernel
theorem dX8_takeLinks_57 : decode cX8_takeLinks 57 = .ok (.istore 5, 2) := by decide +kernel
theorem dX8_takeLinks_59 : decode cX8_takeLinks 59 = .ok (.aload_n 1, 1) := by decide +kernel
theorem dX8_takeLinks_60 : decode cX8_takeLinks 60 = .ok (.getfield 220, 3) := by decide +kernel
theorem dX8_takeLinks_63 : decode cX8_takeLinks 63 = .ok (.iload 5, 2) := by decide +kernel
theorem dX8_takeLinks_65 : decode cX8_takeLinks 65 = .ok (.iload_n 2, 1) := by decide +kernel
theorem dX8_takeLinks_66 : decode cX8_takeLinks 66 = .ok (.iload 4, 2) := by decide +kernel
theorem dX8_takeLinks_68 : decode cX8_takeLinks 68 = .ok (.ixor, 1) := by decide +kernel
theorem dX8_takeLinks_69 : decode cX8_takeLinks 69 = .ok (.invokestatic 163, 3) := by decide +kernel
theorem dX8_takeLinks_72 : decode cX8_takeLinks 72 = .ok (.iastore, 1) := by decide +kernel
theorem dX8_takeLinks_73 : decode cX8_takeLinks 73 = .ok (.aload_n 1, 1) := by decide +kernel
theorem dX8_takeLinks_74 : decode cX8_takeLinks 74 = .ok (.getfield 220, 3) := by decide +kernel
theorem dX8_takeLinks_77 : decode cX8_takeLinks 77 = .ok (.iload 5, 2) := by decide +kernel
theorem dX8_takeLinks_79 : decode cX8_takeLinks 79 = .ok (.iconst 1, 1) := by decide +kernel
theorem dX8_takeLinks_80 : decode cX8_takeLinks 80 = .ok (.iadd, 1) := by decide +kernel
theorem dX8_takeLinks_81 : decode cX8_takeLinks 81 = .ok (.bipush 16, 2) := by decide +kernel
theorem dX8_takeLinks_83 : decode cX8_takeLinks 83 = .ok (.aload_n 0, 1) := by decide +kernel
theorem dX8_takeLinks_84 : decode cX8_takeLinks 84 = .ok (.getfield 25, 3) := by decide +kernel
theorem dX8_takeLinks_87 : decode cX8_takeLinks 87 = .ok (.iconst 1, 1) := by decide +kernel
theorem dX8_takeLinks_88 : decode cX8_takeLinks 88 = .ok (.iaload, 1) := by decide +kernel
theorem dX8_takeLinks_89 : decode cX8_takeLinks 89 = .ok (.imul, 1) := by decide +kernel
theorem dX8_takeLinks_90 : decode cX8_takeLinks 90 = .ok (.aload_n 0, 1) := by decide +kernel
theorem dX8_takeLinks_91 : decode cX8_takeLinks 91 = .ok (.getfield 25, 3) := by decide +kernel
theorem dX8_takeLinks_94 : decode cX8_takeLinks 94 = .ok (.iconst 0, 1) := by decide +kernel
theorem dX8_takeLinks_95 : decode cX8_takeLinks 95 = .ok (.iaload, 1) := by decide +kernel
theorem dX8_takeLinks_96 : decode cX8_takeLinks 96 = .ok (.iadd, 1) := by decide +kernel
theorem dX8_takeLinks_97 : decode cX8_takeLinks 97 = .ok (.iastore, 1) := by decide +kernel
theorem dX8_takeLinks_98 : decode cX8_takeLinks 98 = .ok (.aload_n 1, 1) := by decide +kernel
theorem dX8_takeLinks_99 : decode cX8_takeLinks 99 = .ok (.getfield 220, 3) := by decide +kernel
theorem dX8_takeLinks_102 : decode cX8_takeLinks 102 = .ok (.iload 5, 2) := by decide +kernel
theorem dX8_takeLinks_104 : decode cX8_takeLinks 104 = .ok (.iconst 2, 1) := by decide +kernel
theorem dX8_takeLinks_105 : decode cX8_takeLinks 105 = .ok (.iadd, 1) := by decide +kernel
theorem dX8_takeLinks_106 : decode cX8_takeLinks 106 = .ok (.aload_n 0, 1) := by decide +kernel
theorem dX8_takeLinks_107 : decode cX8_takeLinks 107 = .ok (.getfield 25, 3) := by decide +kernel
theorem dX8_takeLinks_110 : decode cX8_takeLinks 110 = .ok (.iconst 2, 1) := by decide +kernel
theorem dX8_takeLinks_111 : decode cX8_takeLinks 111 = .ok (.iaload, 1) := by decide +kernel
theorem dX8_takeLinks_112 : decode cX8_takeLinks 112 = .ok (.aload_n 0, 1) := by decide +kernel
theorem dX8_takeLinks_113 : decode cX8_takeLinks 113 = .ok (.getfield 25, 3) := by decide +kernel
theorem dX8_takeLinks_116 : decode cX8_takeLinks 116 = .ok (.iconst 3, 1) := by decide +kernel
theorem dX8_takeLinks_117 : decode cX8_takeLinks 117 = .ok (.iaload, 1) := by decide +kernel
theorem dX8_takeLinks_118 : decode cX8_takeLinks 118 = .ok (.aload_n 0, 1) := by decide +kernel
theorem dX8_takeLinks_119 : decode cX8_takeLinks 119 = .ok (.getfield 25, 3) := by decide +kernel
theorem dX8_takeLinks_122 : decode cX8_takeLinks 122 = .ok (.iconst 4, 1) := by decide +kernel
theorem dX8_takeLinks_123 : decode cX8_takeLinks 123 = .ok (.iaload, 1) := by decide +kernel
theorem dX8_takeLinks_124 : decode cX8_takeLinks 124 = .ok (.aload_n 0, 1) := by decide +kernel
theorem dX8_takeLinks_125 : decode cX8_takeLinks 125 = .ok (.getfield 25, 3) := by decide +kernel
theorem dX8_takeLinks_128 : decode cX8_takeLinks 128 = .ok (.iconst 5, 1) := by decide +kernel
theorem dX8_takeLinks_129 : decode cX8_takeLinks 129 = .ok (.iaload, 1) := by decide +kernel
theorem dX8_takeLinks_130 : decode cX8_takeLinks 130 = .ok (.invokestatic 253, 3) := by decide +kernel
theorem dX8_takeLinks_133 : decode cX8_takeLinks 133 = .ok (.iastore, 1) := by decide +kernel
theorem dX8_takeLinks_134 : decode cX8_takeLinks 134 = .ok (.iinc 3 1, 3) := by decide +kernel
theorem dX8_takeLinks_137 : decode cX8_takeLinks 137 = .ok (.goto (-126), 3) := by decide +kernel
theorem dX8_takeLinks_140 : decode cX8_takeLinks 140 = .ok (.return_, 1) := by decide +kernel
theorem nmX8_takeLinks : mm_nm yX8_takeLinks 2 := ⟨by decide, by decide, by decide +kernel⟩
theorem cdX8_takeLinks : mm_cd cd_Y yX8_takeLinks cX8_takeLinks 6 none := ⟨tw_621, tw_1⟩
abbrev rmX8_takeLinks : Room := { frames := 5, cells := 0, slots := 0, locals := 108 }
def fX8_takeLinks_11  : Nat → Nat → Nat → Int32 → Int32 → mm_M → Option mm_M
  | 0 => fun _ _ _ _ _ => none
  | n + 1 => fun a0 a1 x2 x3 σ =>
  (if 6 ≤ x3 then some (σ) else mm_sh σ a0 (.inl 8) (mm_on (fX8_readValues a0 (3 + (6 * x3)) 6 σ) fun q6 => (if q6.1 = 0 then (fX8_takeLinks_11  n a0 a1 x2 (x3 + 1) q6.2) else mm_sh q6.2 a0 (.inl 8) (mm_on (mm_R q6.2 a0 5) fun q9 => mm_ar q6.2 q9 0 fun n10 => mm_ib 3 n10 (mm_on (mm_R q6.2 a0 5) fun q12 => mm_ar q6.2 q12 0 fun n13 => mm_ib 5 n13 (mm_sh q6.2 a1 (.inl 3) (mm_on (mm_R q6.2 a1 1) fun q16 => mm_ar q6.2 q16 0 fun n17 => mm_ib (3 * x3) n17 (mm_let (mm_wI q6.2 q16 ((3 * x3).toNatClampNeg) (fX8_magazineOf (x2 ^^^ (((mm_I q6.2 q9 (3 : Int32).toNatClampNeg) / 8) + (2 * ((mm_I q6.2 q12 (5 : Int32).toNatClampNeg) / 4)))))) fun s19 => mm_on (mm_R s19 a0 5) fun q20 => mm_ar s19 q20 0 fun n21 => mm_ib 1 n21 (mm_on (mm_R s19 a0 5) fun q23 => mm_ar s19 q23 0 fun n24 => mm_ib 0 n24 (mm_on (mm_R s19 a1 1) fun q26 => mm_ar s19 q26 0 fun n27 => mm_ib ((3 * x3) + 1) n27 (mm_let (mm_wI s19 q26 (((3 * x3) + 1).toNatClampNeg) ((16 * (mm_I s19 q20 (1 : Int32).toNatClampNeg)) + (mm_I s19 q23 (0 : Int32).toNatClampNeg))) fun s29 => mm_on (mm_R s29 a0 5) fun q30 => mm_ar s29 q30 0 fun n31 => mm_ib 2 n31 (mm_on (mm_R s29 a0 5) fun q33 => mm_ar s29 q33 0 fun n34 => mm_ib 3 n34 (mm_on (mm_R s29 a0 5) fun q36 => mm_ar s29 q36 0 fun n37 => mm_ib 4 n37 (mm_on (mm_R s29 a0 5) fun q39 => mm_ar s29 q39 0 fun n40 => mm_ib 5 n40 (mm_on (mm_R s29 a1 1) fun q42 => mm_ar s29 q42 0 fun n43 => mm_ib ((3 * x3) + 2) n43 (mm_let (mm_wI s29 q42 (((3 * x3) + 2).toNatClampNeg) (fX8_subcodeOf (mm_I s29 q30 (2 : Int32).toNatClampNeg) (mm_I s29 q33 (3 : Int32).toNatClampNeg) (mm_I s29 q36 (4 : Int32).toNatClampNeg) (mm_I s29 q39 (5 : Int32).toNatClampNeg))) fun s45 => (fX8_takeLinks_11  n a0 a1 x2 (x3 + 1) s45)))))))))))))))))
def fX8_takeLinks (p0 : Nat) (p1 : Nat) (p2 : Int32) (σ : mm_M) : Option mm_M :=
  mm_sh σ p0 (.inl 8) (mm_on (fX8_valueAt p0 2 σ) fun q2 => (if q2.1 = 0 then (fX8_takeLinks_11  mm_fuel p0 p1 p2 0 q2.2) else some (q2.2)))
set_option maxHeartbeats 4000000 in
set_option maxRecDepth 100000 in
theorem kX8_takeLinks_11 {G : mm_G} {A : Nat → Prop} {ini : Bool × Option (List (Nat × Nat × Nat × Nat))}  {R : mm_M}  : ∀ (a0 : Nat) (a1 : Nat) (x2 : Int32) (x3 : Int32) (σ : mm_M), fX8_takeLinks_11  mm_fuel a0 a1 x2 x3 σ = some R → mm_J cd_Y G RX8 cX8_takeLinks 6 none ini rmX8_takeLinks A (mm_QF cd_Y G A (mm_Pv R) rmX8_takeLinks.cells rmX8_takeLinks.slots) 11 [(0, .ref a0), (1, .ref a1), (2, .int x2), (3, .int x3)] [] σ 0 0 := by
  generalize mm_fuel = n
  induction n with
  | zero => intro a0 a1 x2 x3 σ hf; cases hf
  | succ n ih =>
    intro a0 a1 x2 x3 σ hf
    unfold fX8_takeLinks_11 at hf
    refine mm_iload_n (j := 3) dX8_takeLinks_11 rfl rfl ?_
    refine mm_bipush (v := 6) dX8_takeLinks_12 (by decide) ?_
    refine mm_icmp_ge (tgt := 140) dX8_takeLinks_14 (by decide) (fun c4 => ?_) (fun c4 => ?_)
    · rw [if_pos c4] at hf
      cases hf
      refine mm_widen (ck' := rmX8_takeLinks.cells) (sk' := rmX8_takeLinks.slots) (Nat.le_of_ble_eq_true rfl) (Nat.le_of_ble_eq_true rfl) ?_
      exact mm_vret rfl dX8_takeLinks_140 ⟨rfl, rfl⟩
    · rw [if_neg c4] at hf
      refine mm_aload_n (j := 0) dX8_takeLinks_17 rfl rfl ?_
      refine mm_iconst (v := 3) dX8_takeLinks_18 (by decide) ?_
      refine mm_bipush (v := 6) dX8_takeLinks_19 (by decide) ?_
      refine mm_iload_n (j := 3) dX8_takeLinks_21 rfl rfl ?_
      refine mm_imul dX8_takeLinks_22 ?_
      refine mm_iadd dX8_takeLinks_23 ?_
      refine mm_bipush (v := 6) dX8_takeLinks_24 (by decide) ?_
      obtain ⟨hs5, hf⟩ := mm_sh_s hf
      obtain ⟨q6, hq6, hf⟩ := mm_on_s hf
      refine mm_callVi cd_ok (kX8_readValues a0 (3 + (6 * x3)) 6 hq6) hs5 rfl (Or.inl tw_503) cdX8_readValues tw_505 ts_19 nmX8_readValues rfl rfl (by simp only [List.map_cons, List.map_nil, mm_rf_cat]; exact Nat.le_of_ble_eq_true rfl) dX8_takeLinks_26 ⟨Nat.le_of_ble_eq_true rfl, Nat.le_of_ble_eq_true rfl⟩ ⟨Nat.le_of_ble_eq_true rfl, Nat.le_of_ble_eq_true rfl⟩ ?_
      refine mm_if_eq (tgt := 134) dX8_takeLinks_29 (by decide) (fun c7 => ?_) (fun c7 => ?_)
      · rw [if_pos c7] at hf
        refine mm_iinc (j := 3) (L' := [(3, .int (x3 + 1)), (0, .ref a0), (1, .ref a1), (2, .int x2)]) dX8_takeLinks_134 rfl rfl (by decide) rfl ?_
        refine mm_goto (tgt := 11) dX8_takeLinks_137 (by decide) ?_
        refine mm_sub [1, 2, 3, 0] rfl ?_
        exact ih a0 a1 x2 (x3 + 1) q6.2 hf
      · rw [if_neg c7] at hf
        refine mm_aload_n (j := 0) dX8_takeLinks_32 rfl rfl ?_
        obtain ⟨hs8, hf⟩ := mm_sh_s hf
        refine mm_get (c := 8) (k := 5) (v := va_rf (mm_R q6.2 a0 5)) cd_ok ⟨_, _, _, rfl, by decide, Or.inl tw_145⟩ hs8 rfl dX8_takeLinks_33 ?_
        refine mm_iconst (v := 3) dX8_takeLinks_36 (by decide) ?_
        obtain ⟨q9, hq9, hf⟩ := mm_on_s hf
        rw [hq9, mm_rf_some]
        obtain ⟨n10, hn10, hf⟩ := mm_ar_s hf
        obtain ⟨hi11, hf⟩ := mm_ib_s hf
        refine mm_iald hn10 rfl hi11 dX8_takeLinks_37 ?_
        refine mm_bipush (v := 8) dX8_takeLinks_38 (by decide) ?_
        refine mm_idiv dX8_takeLinks_40 (by decide) ?_
        refine mm_iconst (v := 2) dX8_takeLinks_41 (by decide) ?_
        refine mm_aload_n (j := 0) dX8_takeLinks_42 rfl rfl ?_
        refine mm_get (c := 8) (k := 5) (v := va_rf (mm_R q6.2 a0 5)) cd_ok ⟨_, _, _, rfl, by decide, Or.inl tw_145⟩ hs8 rfl dX8_takeLinks_43 ?_
        refine mm_iconst (v := 5) dX8_takeLinks_46 (by decide) ?_
        obtain ⟨q12, hq12, hf⟩ := mm_on_s hf
        rw [hq12, mm_rf_some]
        obtain ⟨n13, hn13, hf⟩ := mm_ar_s hf
        obtain ⟨hi14, hf⟩ := mm_ib_s hf
        refine mm_iald hn13 rfl hi14 dX8_takeLinks_47 ?_
        refine mm_iconst (v := 4) dX8_takeLinks_48 (by decide) ?_
        refine mm_idiv dX8_takeLinks_49 (by decide) ?_
        refine mm_imul dX8_takeLinks_50 ?_
        refine mm_iadd dX8_takeLinks_51 ?_
        refine mm_istore (L' := [(4, .int (((mm_I q6.2 q9 (3 : Int32).toNatClampNeg) / 8) + (2 * ((mm_I q6.2 q12 (5 : Int32).toNatClampNeg) / 4)))), (0, .ref a0), (1, .ref a1), (2, .int x2), (3, .int x3)]) dX8_takeLinks_52 (by decide) rfl ?_
        refine mm_iconst (v := 3) dX8_takeLinks_54 (by decide) ?_
        refine mm_iload_n (j := 4) dX8_takeLinks_55 rfl rfl ?_
        refine mm_imul dX8_takeLinks_56 ?_
        refine mm_istore (L' := [(5, .int (3 * x3)), (4, .int (((mm_I q6.2 q9 (3 : Int32).toNatClampNeg) / 8) + (2 * ((mm_I q6.2 q12 (5 : Int32).toNatClampNeg) / 4)))), (0, .ref a0), (1, .ref a1), (2, .int x2), (3, .int x3)]) dX8_takeLinks_57 (by decide) rfl ?_
        refine mm_aload_n (j := 3) dX8_takeLinks_59 rfl rfl ?_
        obtain ⟨hs15, hf⟩ := mm_sh_s hf
        refine mm_get (c := 3) (k := 1) (v := va_rf (mm_R q6.2 a1 1)) cd_ok ⟨_, _, _, rfl, by decide, Or.inr ⟨_, tn_30⟩⟩ hs15 rfl dX8_takeLinks_60 ?_
        refine mm_iload (j := 0) dX8_takeLinks_63 rfl ?_
        refine mm_iload_n (j := 4) dX8_takeLinks_65 rfl rfl ?_
        refine mm_iload (j := 1) dX8_takeLinks_66 rfl ?_
        refine mm_ixor dX8_takeLinks_68 ?_
        refine mm_callSi cd_ok (kX8_magazineOf (x2 ^^^ (((mm_I q6.2 q9 (3 : Int32).toNatClampNeg) / 8) + (2 * ((mm_I q6.2 q12 (5 : Int32).toNatClampNeg) / 4)))) _ rfl) (Or.inl tw_492) cdX8_magazineOf tw_493 nmX8_magazineOf rfl rfl (by simp only [List.map_cons, List.map_nil, mm_rf_cat]; exact Nat.le_of_ble_eq_true rfl) dX8_takeLinks_69 ⟨Nat.le_of_ble_eq_true rfl, Nat.le_of_ble_eq_true rfl⟩ ⟨Nat.le_of_ble_eq_true rfl, Nat.le_of_ble_eq_true rfl⟩ ?_
        obtain ⟨q16, hq16, hf⟩ := mm_on_s hf
        rw [hq16, mm_rf_some]
        obtain ⟨n17, hn17, hf⟩ := mm_ar_s hf
        obtain ⟨hi18, hf⟩ := mm_ib_s hf
        refine mm_iast hn17 rfl hi18 dX8_takeLinks_72 ?_
        obtain ⟨s19, hs19, hf⟩ := mm_let_s hf
        rw [hs19]
        refine mm_aload_n (j := 3) dX8_takeLinks_73 rfl rfl ?_
        refine mm_get (c := 3) (k := 1) (v := va_rf (mm_R s19 a1 1)) cd_ok ⟨_, _, _, rfl, by decide, Or.inr ⟨_, tn_30⟩⟩ (mm_ke hs19 hs15) rfl dX8_takeLinks_74 ?_
        refine mm_iload (j := 0) dX8_takeLinks_77 rfl ?_
        refine mm_iconst (v := 1) dX8_takeLinks_79 (by decide) ?_
        refine mm_iadd dX8_takeLinks_80 ?_
        refine mm_bipush (v := 16) dX8_takeLinks_81 (by decide) ?_
        refine mm_aload_n (j := 2) dX8_takeLinks_83 rfl rfl ?_
        refine mm_get (c := 8) (k := 5) (v := va_rf (mm_R s19 a0 5)) cd_ok ⟨_, _, _, rfl, by decide, Or.inl tw_145⟩ (mm_ke hs19 hs8) rfl dX8_takeLinks_84 ?_
        refine mm_iconst (v := 1) dX8_takeLinks_87 (by decide) ?_
        obtain ⟨q20, hq20, hf⟩ := mm_on_s hf
        rw [hq20, mm_rf_some]
        obtain ⟨n21, hn21, hf⟩ := mm_ar_s hf
        obtain ⟨hi22, hf⟩ := mm_ib_s hf
        refine mm_iald hn21 rfl hi22 dX8_takeLinks_88 ?_
        refine mm_imul dX8_takeLinks_89 ?_
        refine mm_aload_n (j := 2) dX8_takeLinks_90 rfl rfl ?_
        refine mm_get (c := 8) (k := 5) (v := va_rf (mm_R s19 a0 5)) cd_ok ⟨_, _, _, rfl, by decide, Or.inl tw_145⟩ (mm_ke hs19 hs8) rfl dX8_takeLinks_91 ?_
        refine mm_iconst (v := 0) dX8_takeLinks_94 (by decide) ?_
        obtain ⟨q23, hq23, hf⟩ := mm_on_s hf
        rw [hq23, mm_rf_some]
        obtain ⟨n24, hn24, hf⟩ := mm_ar_s hf
        obtain ⟨hi25, hf⟩ := mm_ib_s hf
        refine mm_iald hn24 rfl hi25 dX8_takeLinks_95 ?_
        refine mm_iadd dX8_takeLinks_96 ?_
        obtain ⟨q26, hq26, hf⟩ := mm_on_s hf
        rw [hq26, mm_rf_some]
        obtain ⟨n27, hn27, hf⟩ := mm_ar_s hf
        obtain ⟨hi28, hf⟩ := mm_ib_s hf
        refine mm_iast hn27 rfl hi28 dX8_takeLinks_97 ?_
        obtain ⟨s29, hs29, hf⟩ := mm_let_s hf
        rw [hs29]
        refine mm_aload_n (j := 3) dX8_takeLinks_98 rfl rfl ?_
        refine mm_get (c := 3) (k := 1) (v := va_rf (mm_R s29 a1 1)) cd_ok ⟨_, _, _, rfl, by decide, Or.inr ⟨_, tn_30⟩⟩ (mm_ke hs29 (mm_ke hs19 hs15)) rfl dX8_takeLinks_99 ?_
        refine mm_iload (j := 0) dX8_takeLinks_102 rfl ?_
        refine mm_iconst (v := 2) dX8_takeLinks_104 (by decide) ?_
        refine mm_iadd dX8_takeLinks_105 ?_
        refine mm_aload_n (j := 2) dX8_takeLinks_106 rfl rfl ?_
        refine mm_get (c := 8) (k := 5) (v := va_rf (mm_R s29 a0 5)) cd_ok ⟨_, _, _, rfl, by decide, Or.inl tw_145⟩ (mm_ke hs29 (mm_ke hs19 hs8)) rfl dX8_takeLinks_107 ?_
        refine mm_iconst (v := 2) dX8_takeLinks_110 (by decide) ?_
        obtain ⟨q30, hq30, hf⟩ := mm_on_s hf
        rw [hq30, mm_rf_some]
        obtain ⟨n31, hn31, hf⟩ := mm_ar_s hf
        obtain ⟨hi32, hf⟩ := mm_ib_s hf
        refine mm_iald hn31 rfl hi32 dX8_takeLinks_111 ?_
        refine mm_aload_n (j := 2) dX8_takeLinks_112 rfl rfl ?_
        refine mm_get (c := 8) (k := 5) (v := va_rf (mm_R s29 a0 5)) cd_ok ⟨_, _, _, rfl, by decide, Or.inl tw_145⟩ (mm_ke hs29 (mm_ke hs19 hs8)) rfl dX8_takeLinks_113 ?_
        refine mm_iconst (v := 3) dX8_takeLinks_116 (by decide) ?_
        obtain ⟨q33, hq33, hf⟩ := mm_on_s hf
        rw [hq33, mm_rf_some]
        obtain ⟨n34, hn34, hf⟩ := mm_ar_s hf
        obtain ⟨hi35, hf⟩ := mm_ib_s hf
        refine mm_iald hn34 rfl hi35 dX8_takeLinks_117 ?_
        refine mm_aload_n (j := 2) dX8_takeLinks_118 rfl rfl ?_
        refine mm_get (c := 8) (k := 5) (v := va_rf (mm_R s29 a0 5)) cd_ok ⟨_, _, _, rfl, by decide, Or.inl tw_145⟩ (mm_ke hs29 (mm_ke hs19 hs8)) rfl dX8_takeLinks_119 ?_
        refine mm_iconst (v := 4) dX8_takeLinks_122 (by decide) ?_
        obtain ⟨q36, hq36, hf⟩ := mm_on_s hf
        rw [hq36, mm_rf_some]
        obtain ⟨n37, hn37, hf⟩ := mm_ar_s hf
        obtain ⟨hi38, hf⟩ := mm_ib_s hf
        refine mm_iald hn37 rfl hi38 dX8_takeLinks_123 ?_
        refine mm_aload_n (j := 2) dX8_takeLinks_124 rfl rfl ?_
        refine mm_get (c := 8) (k := 5) (v := va_rf (mm_R s29 a0 5)) cd_ok ⟨_, _, _, rfl, by decide, Or.inl tw_145⟩ (mm_ke hs29 (mm_ke hs19 hs8)) rfl dX8_takeLinks_125 ?_
        refine mm_iconst (v := 5) dX8_takeLinks_128 (by decide) ?_
        obtain ⟨q39, hq39, hf⟩ := mm_on_s hf
        rw [hq39, mm_rf_some]
        obtain ⟨n40, hn40, hf⟩ := mm_ar_s hf
        obtain ⟨hi41, hf⟩ := mm_ib_s hf
        refine mm_iald hn40 rfl hi41 dX8_takeLinks_129 ?_
        refine mm_callSi cd_ok (kX8_subcodeOf (mm_I s29 q30 (2 : Int32).toNatClampNeg) (mm_I s29 q33 (3 : Int32).toNatClampNeg) (mm_I s29 q36 (4 : Int32).toNatClampNeg) (mm_I s29 q39 (5 : Int32).toNatClampNeg) _ rfl) (Or.inl tw_526) cdX8_subcodeOf tw_527 nmX8_subcodeOf rfl rfl (by simp only [List.map_cons, List.map_nil, mm_rf_cat]; exact Nat.le_of_ble_eq_true rfl) dX8_takeLinks_130 ⟨Nat.le_of_ble_eq_true rfl, Nat.le_of_ble_eq_true rfl⟩ ⟨Nat.le_of_ble_eq_true rfl, Nat.le_of_ble_eq_true rfl⟩ ?_
        obtain ⟨q42, hq42, hf⟩ := mm_on_s hf
        rw [hq42, mm_rf_some]
        obtain ⟨n43, hn43, hf⟩ := mm_ar_s hf
        obtain ⟨hi44, hf⟩ := mm_ib_s hf
        refine mm_iast hn43 rfl hi44 dX8_takeLinks_133 ?_
        obtain ⟨s45, hs45, hf⟩ := mm_let_s hf
        rw [hs45]
        refine mm_iinc (j := 5) (L' := [(3, .int (x3 + 1)), (5, .int (3 * x3)), (4, .int (((mm_I q6.2 q9 (3 : Int32).toNatClampNeg) / 8) + (2 * ((mm_I q6.2 q12 (5 : Int32).toNatClampNeg) / 4)))), (0, .ref a0), (1, .ref a1), (2, .int x2)]) dX8_takeLinks_134 rfl rfl (by decide) rfl ?_
        refine mm_goto (tgt := 11) dX8_takeLinks_137 (by decide) ?_
        refine mm_sub [3, 4, 5, 0] rfl ?_
        exact ih a0 a1 x2 (x3 + 1) s45 hf
set_option maxHeartbeats 4000000 in
set_option maxRecDepth 100000 in
theorem kX8_takeLinks {G : mm_G} {A : Nat → Prop} (p0 : Nat) (p1 : Nat) (p2 : Int32) {σ : mm_M} {R : mm_M} (hf : fX8_takeLinks p0 p1 p2 σ = some R) : mm_C cd_Y G yX8_takeLinks cX8_takeLinks 6 none rmX8_takeLinks A [.ref p0, .ref p1, .int p2] σ (mm_Pv R) := by
  refine mm_C.of (by decide) (Nat.le_of_ble_eq_true rfl) ?_
  unfold fX8_takeLinks at hf
  have e0 : lv_args 0 [.ref p0, .ref p1, .int p2] = [(0, .ref p0), (1, .ref p1), (2, .int p2)] := rfl
  rw [e0]
  generalize hini : ((yX8_takeLinks.name == "<init>"), none) = ini
  clear e0
  clear hini
  refine mm_aload_n (j := 0) dX8_takeLinks_0 rfl rfl ?_
  refine mm_iconst (v := 2) dX8_takeLinks_1 (by decide) ?_
  obtain ⟨hs1, hf⟩ := mm_sh_s hf
  obtain ⟨q2, hq2, hf⟩ := mm_on_s hf
  refine mm_callVi cd_ok (kX8_valueAt p0 2 hq2) hs1 rfl (Or.inl tw_488) cdX8_valueAt tw_490 ts_16 nmX8_valueAt rfl rfl (by simp only [List.map_cons, List.map_nil, mm_rf_cat]; exact Nat.le_of_ble_eq_true rfl) dX8_takeLinks_2 ⟨Nat.le_of_ble_eq_true rfl, Nat.le_of_ble_eq_true rfl⟩ ⟨Nat.le_of_ble_eq_true rfl, Nat.le_of_ble_eq_true rfl⟩ ?_
  refine mm_if_eq (tgt := 9) dX8_takeLinks_5 (by decide) (fun c3 => ?_) (fun c3 => ?_)
  · rw [if_pos c3] at hf
    refine mm_iconst (v := 0) dX8_takeLinks_9 (by decide) ?_
    refine mm_istore_n (L' := [(3, .int 0), (0, .ref p0), (1, .ref p1), (2, .int p2)]) dX8_takeLinks_10 rfl (by decide) rfl ?_
    refine mm_sub [1, 2, 3, 0] rfl ?_
    exact kX8_takeLinks_11  p0 p1 p2 0 q2.2 hf
  · rw [if_neg c3] at hf
    cases hf
    refine mm_widen (ck' := rmX8_takeLinks.cells) (sk' := rmX8_takeLinks.slots) (Nat.le_of_ble_eq_true rfl) (Nat.le_of_ble_eq_true rfl) ?_
    exact mm_vret rfl dX8_takeLinks_8 ⟨rfl, rfl⟩
theorem dX8_tick_0 : decode cX8_tick 0 = .ok (.iload_n 1, 1) := by decide +kernel
theorem dX8_tick_1 : decode cX8_tick 1 = .ok (.iconst 1, 1) := by decide +kernel
theorem dX8_tick_2 : decode cX8_tick 2 = .ok (.if_icmp .lt 10, 3) := by decide +kernel
theorem dX8_tick_5 : decode cX8_tick 5 = .ok (.iload_n 1, 1) := by decide +kernel
theorem dX8_tick_6 : decode cX8_tick 6 = .ok (.ldc_w 282, 3) := by decide +kernel
theorem dX8_tick_9 : decode cX8_tick 9 = .ok (.if_icmp .le 14, 3) := by decide +kernel
theorem dX8_tick_12 : decode cX8_tick 12 = .ok (.new 274, 3) := by decide +kernel
theorem dX8_tick_15 : decode cX8_tick 15 = .ok (.dup, 1) := by decide +kernel
theorem dX8_tick_16 : decode cX8_tick 16 = .ok (.ldc_w 283, 3) := by decide +kernel
theorem dX8_tick_19 : decode cX8_tick 19 = .ok (.invokespecial 278, 3) := by decide +kernel
theorem dX8_tick_22 : decode cX8_tick 22 = .ok (.athrow, 1) := by decide +kernel
theorem dX8_tick_23 : decode cX8_tick 23 = .ok (.aload_n 0, 1) := by decide +kernel
theorem dX8_tick_24 : decode cX8_tick 24 = .ok (.dup, 1) := by decide +kernel
theorem dX8_tick_25 : decode cX8_tick 25 = .ok (.getfield 285, 3) := by decide +kernel
theorem dX8_tick_28 : decode cX8_tick 28 = .ok (.iload_n 1, 1) := by decide +kernel
theorem dX8_tick_29 : decode cX8_tick 29 = .ok (.iadd, 1) := by decide +kernel
theorem dX8_tick_30 : decode cX8_tick 30 = .ok (.putfield 285, 3) := by decide +kernel
theorem dX8_tick_33 : decode cX8_tick 33 = .ok (.iconst 0, 1) := by decide +kernel
theorem dX8_tick_34 : decode cX8_tick 34 = .ok (.istore_n 2, 1) := by decide +kernel
theorem dX8_tick_35 : decode cX8_tick 35 = .ok (.iload_n 2, 1) := by decide +kernel
theorem dX8_tick_36 : decode cX8_tick 36 = .ok (.iconst 5, 1) := by decide +kernel
theorem dX8_tick_37 : decode cX8_tick 37 = .ok (.if_icmp .ge 24, 3) := by decide +kernel
theorem dX8_tick_40 : decode cX8_tick 40 = .ok (.aload_n 0, 1) := by decide +kernel
theorem dX8_tick_41 : decode cX8_tick 41 = .ok (.iload_n 2, 1) := by decide +kernel
theorem dX8_tick_42 : decode cX8_tick 42 = .ok (.invokevirtual 288, 3) := by decide +kernel
theorem dX8_tick_45 : decode cX8_tick 45 = .ok (.aload_n 0, 1) := by decide +kernel
theorem dX8_tick_46 : decode cX8_tick 46 = .ok (.iload_n 2, 1) := by decide +kernel
theorem dX8_tick_47 : decode cX8_tick 47 = .ok (.invokevirtual 291, 3) := by decide +kernel
theorem dX8_tick_50 : decode cX8_tick 50 = .ok (.aload_n 0, 1) := by decide +kernel
theorem dX8_tick_51 : decode cX8_tick 51 = .ok (.iload_n 2, 1) := by decide +kernel
theorem dX8_tick_52 : decode cX8_tick 52 = .ok (.invokevirtual 294, 3) := by decide +kernel
theorem dX8_tick_55 : decode cX8_tick 55 = .ok (.iinc 2 1, 3) := by decide +kernel
theorem dX8_tick_58 : decode cX8_tick 58 = .ok (.goto (-23), 3) := by decide +kernel
theorem dX8_tick_61 : decode cX8_tick 61 = .ok (.aload_n 0, 1) := by decide +kernel
theorem dX8_tick_62 : decode cX8_tick 62 = .ok (.getfield 285, 3) := by decide +kernel
theorem dX8_tick_65 : decode cX8_tick 65 = .ok (.ireturn, 1) := by decide +kernel
theorem nmX8_tick : mm_nm yX8_tick 1 := ⟨by decide, by decide, by decide +kernel⟩
theorem cdX8_tick : mm_cd cd_Y yX8_tick cX8_tick 3 (some .int) := ⟨tw_701, tw_1⟩
abbrev rmX8_tick : Room := { frames := 6, cells := 10, slots := 2020, locals := 111 }
def fX8_tick (p0 : Nat) (p1 : Int32) (σ : mm_M) : Option (Option Int32 × mm_M) :=
  (if p1 < 1 then some (none, σ) else (if p1 ≤ (100000 : Int32) then mm_sh σ p0 (.inl 8) (mm_let (mm_wI σ p0 13 ((mm_I σ p0 13) + p1)) fun s4 => mm_on (fX8_readLines p0 0 s4) fun q6 => mm_sh q6 p0 (.inl 8) (mm_on (fX8_endCue p0 0 q6) fun q8 => mm_sh q8 p0 (.inl 8) (mm_on (fX8_beginCue p0 0 q8) fun q10 => mm_sh q10 p0 (.inl 8) (mm_on (fX8_readLines p0 1 q10) fun q13 => mm_sh q13 p0 (.inl 8) (mm_on (fX8_endCue p0 1 q13) fun q15 => mm_sh q15 p0 (.inl 8) (mm_on (fX8_beginCue p0 1 q15) fun q17 => mm_sh q17 p0 (.inl 8) (mm_on (fX8_readLines p0 2 q17) fun q20 => mm_sh q20 p0 (.inl 8) (mm_on (fX8_endCue p0 2 q20) fun q22 => mm_sh q22 p0 (.inl 8) (mm_on (fX8_beginCue p0 2 q22) fun q24 => mm_sh q24 p0 (.inl 8) (mm_on (fX8_readLines p0 3 q24) fun q27 => mm_sh q27 p0 (.inl 8) (mm_on (fX8_endCue p0 3 q27) fun q29 => mm_sh q29 p0 (.inl 8) (mm_on (fX8_beginCue p0 3 q29) fun q31 => mm_sh q31 p0 (.inl 8) (mm_on (fX8_readLines p0 4 q31) fun q34 => mm_sh q34 p0 (.inl 8) (mm_on (fX8_endCue p0 4 q34) fun q36 => mm_sh q36 p0 (.inl 8) (mm_on (fX8_beginCue p0 4 q36) fun q38 => mm_sh q38 p0 (.inl 8) (some (some (mm_I q38 p0 13), q38))))))))))))))))) else some (none, σ)))
set_option maxHeartbeats 4000000 in
set_option maxRecDepth 100000 in
theorem kX8_tick {G : mm_G} {A : Nat → Prop} (p0 : Nat) (p1 : Int32) {σ : mm_M} {R : (Option Int32 × mm_M)} (hf : fX8_tick p0 p1 σ = some R) : mm_CX cd_Y G yX8_tick cX8_tick 3 (some .int) rmX8_tick A [.ref p0, .int p1] σ (mm_PX R) R.2 "java/lang/IllegalArgumentException" (R.1 = none) := by
  refine mm_CX.of (by decide) (Nat.le_of_ble_eq_true rfl) ?_
  unfold fX8_tick at hf
  have e0 : lv_args 0 [.ref p0, .int p1] = [(0, .ref p0), (1, .int p1)] := rfl
  rw [e0]
  clear e0
  refine mm_iload_n (j := 1) dX8_tick_0 rfl rfl ?_
  refine mm_iconst (v := 1) dX8_tick_1 (by decide) ?_
  refine mm_icmp_lt (tgt := 12) dX8_tick_2 (by decide) (fun c1 => ?_) (fun c1 => ?_)
  · rw [if_pos c1] at hf
    cases hf
    exact mm_throwW cd_ok rfl rfl th_X8_274_278 (List.mem_of_getElem? (i := 12) rfl) dX8_tick_12 dX8_tick_15 dX8_tick_16 dX8_tick_19 dX8_tick_22 (Nat.le_of_ble_eq_true rfl) (by simp only [List.map_cons, List.map_nil, mm_rf_cat]; exact Nat.le_of_ble_eq_true rfl) (Nat.le_of_ble_eq_true rfl) (Nat.le_of_ble_eq_true rfl) (Nat.le_of_ble_eq_true rfl) (Nat.le_of_ble_eq_true rfl)
  · rw [if_neg c1] at hf
    refine mm_iload_n (j := 1) dX8_tick_5 rfl rfl ?_
    refine mm_ldc_w tw_702 dX8_tick_6 ?_
    refine mm_icmp_le (tgt := 23) dX8_tick_9 (by decide) (fun c2 => ?_) (fun c2 => ?_)
    · rw [if_pos c2] at hf
      refine mm_aload_n (j := 0) dX8_tick_23 rfl rfl ?_
      refine mm_dup dX8_tick_24 rfl ?_
      obtain ⟨hs3, hf⟩ := mm_sh_s hf
      refine mm_get (c := 8) (k := 13) (v := .int (mm_I σ p0 13)) cd_ok ⟨_, _, _, rfl, by decide, Or.inl tw_153⟩ hs3 rfl dX8_tick_25 ?_
      refine mm_iload_n (j := 1) dX8_tick_28 rfl rfl ?_
      refine mm_iadd dX8_tick_29 ?_
      refine mm_putI (c := 8) (k := 13) cd_ok ⟨_, _, _, rfl, by decide, rfl, Or.inl tw_153⟩ hs3 rfl rfl rfl dX8_tick_30 ?_
      obtain ⟨s4, hs4, hf⟩ := mm_let_s hf
      rw [hs4]
      refine mm_iconst (v := 0) dX8_tick_33 (by decide) ?_
      refine mm_istore_n (L' := [(2, .int 0), (0, .ref p0), (1, .int p1)]) dX8_tick_34 rfl (by decide) rfl ?_
      refine mm_iload_n (j := 0) dX8_tick_35 rfl rfl ?_
      refine mm_iconst (v := 5) dX8_tick_36 (by decide) ?_
      refine mm_icmp_ge (tgt := 61) dX8_tick_37 (by decide) (fun c5 => ?_) (fun c5 => ?_)
      case refine_1 => exact absurd c5 (by decide)
      refine mm_aload_n (j := 1) dX8_tick_40 rfl rfl ?_
      refine mm_iload_n (j := 0) dX8_tick_41 rfl rfl ?_
      obtain ⟨q6, hq6, hf⟩ := mm_on_s hf
      refine mm_callVv cd_ok (kX8_readLines p0 0 hq6) (mm_ke hs4 hs3) rfl (Or.inl tw_704) cdX8_readLines tw_706 ts_26 nmX8_readLines rfl rfl (by simp only [List.map_cons, List.map_nil, mm_rf_cat]; exact Nat.le_of_ble_eq_true rfl) dX8_tick_42 ⟨Nat.le_of_ble_eq_true rfl, Nat.le_of_ble_eq_true rfl⟩ ⟨Nat.le_of_ble_eq_true rfl, Nat.le_of_ble_eq_true rfl⟩ ?_
      refine mm_aload_n (j := 1) dX8_tick_45 rfl rfl ?_
      refine mm_iload_n (j := 0) dX8_tick_46 rfl rfl ?_
      obtain ⟨hs7, hf⟩ := mm_sh_s hf
      obtain ⟨q8, hq8, hf⟩ := mm_on_s hf
      refine mm_callVv cd_ok (kX8_endCue p0 0 hq8) hs7 rfl (Or.inl tw_730) cdX8_endCue tw_732 ts_28 nmX8_endCue rfl rfl (by simp only [List.map_cons, List.map_nil, mm_rf_cat]; exact Nat.le_of_ble_eq_true rfl) dX8_tick_47 ⟨Nat.le_of_ble_eq_true rfl, Nat.le_of_ble_eq_true rfl⟩ ⟨Nat.le_of_ble_eq_true rfl, Nat.le_of_ble_eq_true rfl⟩ ?_
      refine mm_aload_n (j := 1) dX8_tick_50 rfl rfl ?_
      refine mm_iload_n (j := 0) dX8_tick_51 rfl rfl ?_
      obtain ⟨hs9, hf⟩ := mm_sh_s hf
      obtain ⟨q10, hq10, hf⟩ := mm_on_s hf
      refine mm_callVv cd_ok (kX8_beginCue p0 0 hq10) hs9 rfl (Or.inl tw_742) cdX8_beginCue tw_744 ts_30 nmX8_beginCue rfl rfl (by simp only [List.map_cons, List.map_nil, mm_rf_cat]; exact Nat.le_of_ble_eq_true rfl) dX8_tick_52 ⟨Nat.le_of_ble_eq_true rfl, Nat.le_of_ble_eq_true rfl⟩ ⟨Nat.le_of_ble_eq_true rfl, Nat.le_of_ble_eq_true rfl⟩ ?_
      refine mm_iinc (j := 0) (L' := [(2, .int 1), (0, .ref p0), (1, .int p1)]) dX8_tick_55 rfl (by decide) (by decide) rfl ?_
      refine mm_goto (tgt := 35) dX8_tick_58 (by decide) ?_
      refine mm_iload_n (j := 0) dX8_tick_35 rfl rfl ?_
      refine mm_iconst (v := 5) dX8_tick_36 (by decide) ?_
      refine mm_icmp_ge (tgt := 61) dX8_tick_37 (by decide) (fun c11 => ?_) (fun c11 => ?_)
      case refine_1 => exact absurd c11 (by decide)
      refine mm_aload_n (j := 1) dX8_tick_40 rfl rfl ?_
      refine mm_iload_n (j := 0) dX8_tick_41 rfl rfl ?_
      obtain ⟨hs12, hf⟩ := mm_sh_s hf
      obtain ⟨q13, hq13, hf⟩ := mm_on_s hf
      refine mm_callVv cd_ok (kX8_readLines p0 1 hq13) hs12 rfl (Or.inl tw_704) cdX8_readLines tw_706 ts_26 nmX8_readLines rfl rfl (by simp only [List.map_cons, List.map_nil, mm_rf_cat]; exact Nat.le_of_ble_eq_true rfl) dX8_tick_42 ⟨Nat.le_of_ble_eq_true rfl, Nat.le_of_ble_eq_true rfl⟩ ⟨Nat.le_of_ble_eq_true rfl, Nat.le_of_ble_eq_true rfl⟩ ?_
      refine mm_aload_n (j := 1) dX8_tick_45 rfl rfl ?_
      refine mm_iload_n (j := 0) dX8_tick_46 rfl rfl ?_
      obtain ⟨hs14, hf⟩ := mm_sh_s hf
      obtain ⟨q15, hq15, hf⟩ := mm_on_s hf
      refine mm_callVv cd_ok (kX8_endCue p0 1 hq15) hs14 rfl (Or.inl tw_730) cdX8_endCue tw_732 ts_28 nmX8_endCue rfl rfl (by simp only [List.map_cons, List.map_nil, mm_rf_cat]; exact Nat.le_of_ble_eq_true rfl) dX8_tick_47 ⟨Nat.le_of_ble_eq_true rfl, Nat.le_of_ble_eq_true rfl⟩ ⟨Nat.le_of_ble_eq_true rfl, Nat.le_of_ble_eq_true rfl⟩ ?_
      refine mm_aload_n (j := 1) dX8_tick_50 rfl rfl ?_
      refine mm_iload_n (j := 0) dX8_tick_51 rfl rfl ?_
      obtain ⟨hs16, hf⟩ := mm_sh_s hf
      obtain ⟨q17, hq17, hf⟩ := mm_on_s hf
      refine mm_callVv cd_ok (kX8_beginCue p0 1 hq17) hs16 rfl (Or.inl tw_742) cdX8_beginCue tw_744 ts_30 nmX8_beginCue rfl rfl (by simp only [List.map_cons, List.map_nil, mm_rf_cat]; exact Nat.le_of_ble_eq_true rfl) dX8_tick_52 ⟨Nat.le_of_ble_eq_true rfl, Nat.le_of_ble_eq_true rfl⟩ ⟨Nat.le_of_ble_eq_true rfl, Nat.le_of_ble_eq_true rfl⟩ ?_
      refine mm_iinc (j := 0) (L' := [(2, .int 2), (0, .ref p0), (1, .int p1)]) dX8_tick_55 rfl (by decide) (by decide) rfl ?_
      refine mm_goto (tgt := 35) dX8_tick_58 (by decide) ?_
      refine mm_iload_n (j := 0) dX8_tick_35 rfl rfl ?_
      refine mm_iconst (v := 5) dX8_tick_36 (by decide) ?_
      refine mm_icmp_ge (tgt := 61) dX8_tick_37 (by decide) (fun c18 => ?_) (fun c18 => ?_)
      case refine_1 => exact absurd c18 (by decide)
      refine mm_aload_n (j := 1) dX8_tick_40 rfl rfl ?_
      refine mm_iload_n (j := 0) dX8_tick_41 rfl rfl ?_
      obtain ⟨hs19, hf⟩ := mm_sh_s hf
      obtain ⟨q20, hq20, hf⟩ := mm_on_s hf
      refine mm_callVv cd_ok (kX8_readLines p0 2 hq20) hs19 rfl (Or.inl tw_704) cdX8_readLines tw_706 ts_26 nmX8_readLines rfl rfl (by simp only [List.map_cons, List.map_nil, mm_rf_cat]; exact Nat.le_of_ble_eq_true rfl) dX8_tick_42 ⟨Nat.le_of_ble_eq_true rfl, Nat.le_of_ble_eq_true rfl⟩ ⟨Nat.le_of_ble_eq_true rfl, Nat.le_of_ble_eq_true rfl⟩ ?_
      refine mm_aload_n (j := 1) dX8_tick_45 rfl rfl ?_
      refine mm_iload_n (j := 0) dX8_tick_46 rfl rfl ?_
      obtain ⟨hs21, hf⟩ := mm_sh_s hf
      obtain ⟨q22, hq22, hf⟩ := mm_on_s hf
      refine mm_callVv cd_ok (kX8_endCue p0 2 hq22) hs21 rfl (Or.inl tw_730) cdX8_endCue tw_732 ts_28 nmX8_endCue rfl rfl (by simp only [List.map_cons, List.map_nil, mm_rf_cat]; exact Nat.le_of_ble_eq_true rfl) dX8_tick_47 ⟨Nat.le_of_ble_eq_true rfl, Nat.le_of_ble_eq_true rfl⟩ ⟨Nat.le_of_ble_eq_true rfl, Nat.le_of_ble_eq_true rfl⟩ ?_
      refine mm_aload_n (j := 1) dX8_tick_50 rfl rfl ?_
      refine mm_iload_n (j := 0) dX8_tick_51 rfl rfl ?_
      obtain ⟨hs23, hf⟩ := mm_sh_s hf
      obtain ⟨q24, hq24, hf⟩ := mm_on_s hf
      refine mm_callVv cd_ok (kX8_beginCue p0 2 hq24) hs23 rfl (Or.inl tw_742) cdX8_beginCue tw_744 ts_30 nmX8_beginCue rfl rfl (by simp only [List.map_cons, List.map_nil, mm_rf_cat]; exact Nat.le_of_ble_eq_true rfl) dX8_tick_52 ⟨Nat.le_of_ble_eq_true rfl, Nat.le_of_ble_eq_true rfl⟩ ⟨Nat.le_of_ble_eq_true rfl, Nat.le_of_ble_eq_true rfl⟩ ?_
      refine mm_iinc (j := 0) (L' := [(2, .int 3), (0, .ref p0), (1, .int p1)]) dX8_tick_55 rfl (by decide) (by decide) rfl ?_
      refine mm_goto (tgt := 35) dX8_tick_58 (by decide) ?_
      refine mm_iload_n (j := 0) dX8_tick_35 rfl rfl ?_
      refine mm_iconst (v := 5) dX8_tick_36 (by decide) ?_
      refine mm_icmp_ge (tgt := 61) dX8_tick_37 (by decide) (fun c25 => ?_) (fun c25 => ?_)
      case refine_1 => exact absurd c25 (by decide)
      refine mm_aload_n (j := 1) dX8_tick_40 rfl rfl ?_
      refine mm_iload_n (j := 0) dX8_tick_41 rfl rfl ?_
      obtain ⟨hs26, hf⟩ := mm_sh_s hf
      obtain ⟨q27, hq27, hf⟩ := mm_on_s hf
      refine mm_callVv cd_ok (kX8_readLines p0 3 hq27) hs26 rfl (Or.inl tw_704) cdX8_readLines tw_706 ts_26 nmX8_readLines rfl rfl (by simp only [List.map_cons, List.map_nil, mm_rf_cat]; exact Nat.le_of_ble_eq_true rfl) dX8_tick_42 ⟨Nat.le_of_ble_eq_true rfl, Nat.le_of_ble_eq_true rfl⟩ ⟨Nat.le_of_ble_eq_true rfl, Nat.le_of_ble_eq_true rfl⟩ ?_
      refine mm_aload_n (j := 1) dX8_tick_45 rfl rfl ?_
      refine mm_iload_n (j := 0) dX8_tick_46 rfl rfl ?_
      obtain ⟨hs28, hf⟩ := mm_sh_s hf
      obtain ⟨q29, hq29, hf⟩ := mm_on_s hf
      refine mm_callVv cd_ok (kX8_endCue p0 3 hq29) hs28 rfl (Or.inl tw_730) cdX8_endCue tw_732 ts_28 nmX8_endCue rfl rfl (by simp only [List.map_cons, List.map_nil, mm_rf_cat]; exact Nat.le_of_ble_eq_true rfl) dX8_tick_47 ⟨Nat.le_of_ble_eq_true rfl, Nat.le_of_ble_eq_true rfl⟩ ⟨Nat.le_of_ble_eq_true rfl, Nat.le_of_ble_eq_true rfl⟩ ?_
      refine mm_aload_n (j := 1) dX8_tick_50 rfl rfl ?_
      refine mm_iload_n (j := 0) dX8_tick_51 rfl rfl ?_
      obtain ⟨hs30, hf⟩ := mm_sh_s hf
      obtain ⟨q31, hq31, hf⟩ := mm_on_s hf
      refine mm_callVv cd_ok (kX8_beginCue p0 3 hq31) hs30 rfl (Or.inl tw_742) cdX8_beginCue tw_744 ts_30 nmX8_beginCue rfl rfl (by simp only [List.map_cons, List.map_nil, mm_rf_cat]; exact Nat.le_of_ble_eq_true rfl) dX8_tick_52 ⟨Nat.le_of_ble_eq_true rfl, Nat.le_of_ble_eq_true rfl⟩ ⟨Nat.le_of_ble_eq_true rfl, Nat.le_of_ble_eq_true rfl⟩ ?_
      refine mm_iinc (j := 0) (L' := [(2, .int 4), (0, .ref p0), (1, .int p1)]) dX8_tick_55 rfl (by decide) (by decide) rfl ?_
      refine mm_goto (tgt := 35) dX8_tick_58 (by decide) ?_
      refine mm_iload_n (j := 0) dX8_tick_35 rfl rfl ?_
      refine mm_iconst (v := 5) dX8_tick_36 (by decide) ?_
      refine mm_icmp_ge (tgt := 61) dX8_tick_37 (by decide) (fun c32 => ?_) (fun c32 => ?_)
      case refine_1 => exact absurd c32 (by decide)
      refine mm_aload_n (j := 1) dX8_tick_40 rfl rfl ?_
      refine mm_iload_n (j := 0) dX8_tick_41 rfl rfl ?_
      obtain ⟨hs33, hf⟩ := mm_sh_s hf
      obtain ⟨q34, hq34, hf⟩ := mm_on_s hf
      refine mm_callVv cd_ok (kX8_readLines p0 4 hq34) hs33 rfl (Or.inl tw_704) cdX8_readLines tw_706 ts_26 nmX8_readLines rfl rfl (by simp only [List.map_cons, List.map_nil, mm_rf_cat]; exact Nat.le_of_ble_eq_true rfl) dX8_tick_42 ⟨Nat.le_of_ble_eq_true rfl, Nat.le_of_ble_eq_true rfl⟩ ⟨Nat.le_of_ble_eq_true rfl, Nat.le_of_ble_eq_true rfl⟩ ?_
      refine mm_aload_n (j := 1) dX8_tick_45 rfl rfl ?_
      refine mm_iload_n (j := 0) dX8_tick_46 rfl rfl ?_
      obtain ⟨hs35, hf⟩ := mm_sh_s hf
      obtain ⟨q36, hq36, hf⟩ := mm_on_s hf
      refine mm_callVv cd_ok (kX8_endCue p0 4 hq36) hs35 rfl (Or.inl tw_730) cdX8_endCue tw_732 ts_28 nmX8_endCue rfl rfl (by simp only [List.map_cons, List.map_nil, mm_rf_cat]; exact Nat.le_of_ble_eq_true rfl) dX8_tick_47 ⟨Nat.le_of_ble_eq_true rfl, Nat.le_of_ble_eq_true rfl⟩ ⟨Nat.le_of_ble_eq_true rfl, Nat.le_of_ble_eq_true rfl⟩ ?_
      refine mm_aload_n (j := 1) dX8_tick_50 rfl rfl ?_
      refine mm_iload_n (j := 0) dX8_tick_51 rfl rfl ?_
      obtain ⟨hs37, hf⟩ := mm_sh_s hf
      obtain ⟨q38, hq38, hf⟩ := mm_on_s hf
      refine mm_callVv cd_ok (kX8_beginCue p0 4 hq38) hs37 rfl (Or.inl tw_742) cdX8_beginCue tw_744 ts_30 nmX8_beginCue rfl rfl (by simp only [List.map_cons, List.map_nil, mm_rf_cat]; exact Nat.le_of_ble_eq_true rfl) dX8_tick_52 ⟨Nat.le_of_ble_eq_true rfl, Nat.le_of_ble_eq_true rfl⟩ ⟨Nat.le_of_ble_eq_true rfl, Nat.le_of_ble_eq_true rfl⟩ ?_
      refine mm_iinc (j := 0) (L' := [(2, .int 5), (0, .ref p0), (1, .int p1)]) dX8_tick_55 rfl (by decide) (by decide) rfl ?_
      refine mm_goto (tgt := 35) dX8_tick_58 (by decide) ?_
      refine mm_iload_n (j := 0) dX8_tick_35 rfl rfl ?_
      refine mm_iconst (v := 5) dX8_tick_36 (by decide) ?_
      refine mm_icmp_ge (tgt := 61) dX8_tick_37 (by decide) (fun c39 => ?_) (fun c39 => ?_)
      case refine_2 => exact absurd c39 (by decide)
      refine mm_aload_n (j := 1) dX8_tick_61 rfl rfl ?_
      obtain ⟨hs40, hf⟩ := mm_sh_s hf
      refine mm_get (c := 8) (k := 13) (v := .int (mm_I q38 p0 13)) cd_ok ⟨_, _, _, rfl, by decide, Or.inl tw_153⟩ hs40 rfl dX8_tick_62 ?_
      cases hf
      refine mm_widen (ck' := rmX8_tick.cells) (sk' := rmX8_tick.slots) (Nat.le_of_ble_eq_true rfl) (Nat.le_of_ble_eq_true rfl) ?_
      exact mm_x (mm_iret rfl rfl dX8_tick_65 ⟨_, rfl, rfl, rfl⟩)
    · rw [if_neg c2] at hf
      cases hf
      exact mm_throwW cd_ok rfl rfl th_X8_274_278 (List.mem_of_getElem? (i := 12) rfl) dX8_tick_12 dX8_tick_15 dX8_tick_16 dX8_tick_19 dX8_tick_22 (Nat.le_of_ble_eq_true rfl) (by simp only [List.map_cons, List.map_nil, mm_rf_cat]; exact Nat.le_of_ble_eq_true rfl) (Nat.le_of_ble_eq_true rfl) (Nat.le_of_ble_eq_true rfl) (Nat.le_of_ble_eq_true rfl) (Nat.le_of_ble_eq_true rfl)
theorem dX9_code_0 : decode cX9_code 0 = .ok (.iload_n 3, 1) := by decide +kernel
theorem dX9_code_1 : decode cX9_code 1 = .ok (.bipush 64, 2) := by decide +kernel
theorem dX9_code_3 : decode cX9_code 3 = .ok (.if_icmp .lt 26, 3) := by decide +kernel
theorem dX9_code_6 : decode cX9_code 6 = .ok (.iload_n 2, 1) := by decide +kernel
theorem dX9_code_7 : decode cX9_code 7 = .ok (.bipush 16, 2) := by decide +kernel
theorem dX9_code_9 : decode cX9_code 9 = .ok (.if_icmp .ne 10, 3) := by decide +kernel
theorem dX9_code_12 : decode cX9_code 12 = .ok (.iload_n 3, 1) := by decide +kernel
theorem dX9_code_13 : decode cX9_code 13 = .ok (.bipush 32, 2) := by decide +kernel
theorem dX9_code_15 : decode cX9_code 15 = .ok (.iand, 1) := by decide +kernel
theorem dX9_code_16 : decode cX9_code 16 = .ok (.ifCond .ne 236, 3) := by decide +kernel
theorem dX9_code_19 : decode cX9_code 19 = .ok (.aload_n 0, 1) := by decide +kernel
theorem dX9_code_20 : decode cX9_code 20 = .ok (.iload_n 1, 1) := by decide +kernel
theorem dX9_code_21 : decode cX9_code 21 = .ok (.iload_n 2, 1) := by decide +kernel
theorem dX9_code_22 : decode cX9_code 22 = .ok (.iload_n 3, 1) := by decide +kernel
theorem dX9_code_23 : decode cX9_code 23 = .ok (.invokevirtual 147, 3) := by decide +kernel
theorem dX9_code_26 : decode cX9_code 26 = .ok (.goto 226, 3) := by decide +kernel
theorem dX9_code_29 : decode cX9_code 29 = .ok (.iload_n 2, 1) := by decide +kernel
theorem dX9_code_30 : decode cX9_code 30 = .ok (.bipush 17, 2) := by decide +kernel
theorem dX9_code_32 : decode cX9_code 32 = .ok (.if_icmp .ne 45, 3) := by decide +kernel
theorem dX9_code_35 : decode cX9_code 35 = .ok (.iload_n 3, 1) := by decide +kernel
theorem dX9_code_36 : decode cX9_code 36 = .ok (.bipush 48, 2) := by decide +kernel
theorem dX9_code_38 : decode cX9_code 38 = .ok (.if_icmp .ge 39, 3) := by decide +kernel
theorem dX9_code_41 : decode cX9_code 41 = .ok (.aload_n 0, 1) := by decide +kernel
theorem dX9_code_42 : decode cX9_code 42 = .ok (.getfield 28, 3) := by decide +kernel
theorem dX9_code_45 : decode cX9_code 45 = .ok (.iload_n 1, 1) := by decide +kernel
theorem dX9_code_46 : decode cX9_code 46 = .ok (.iload_n 3, 1) := by decide +kernel
theorem dX9_code_47 : decode cX9_code 47 = .ok (.iconst 2, 1) := by decide +kernel
theorem dX9_code_48 : decode cX9_code 48 = .ok (.idiv, 1) := by decide +kernel
theorem dX9_code_49 : decode cX9_code 49 = .ok (.bipush 8, 2) := by decide +kernel
theorem dX9_code_51 : decode cX9_code 51 = .ok (.irem, 1) := by decide +kernel
theorem dX9_code_52 : decode cX9_code 52 = .ok (.iload_n 3, 1) := by decide +kernel
theorem dX9_code_53 : decode cX9_code 53 = .ok (.iconst 2, 1) := by decide +kernel
theorem dX9_code_54 : decode cX9_code 54 = .ok (.irem, 1) := by decide +kernel
theorem dX9_code_55 : decode cX9_code 55 = .ok (.iconst 1, 1) := by decide +kernel
theorem dX9_code_56 : decode cX9_code 56 = .ok (.if_icmp .ne 8, 3) := by decide +kernel
theorem dX9_code_59 : decode cX9_code 59 = .ok (.bipush 8, 2) := by decide +kernel
theorem dX9_code_61 : decode cX9_code 61 = .ok (.goto 4, 3) := by decide +kernel
theorem dX9_code_64 : decode cX9_code 64 = .ok (.iconst 0, 1) := by decide +kernel
theorem dX9_code_65 : decode cX9_code 65 = .ok (.iadd, 1) := by decide +kernel
theorem dX9_code_66 : decode cX9_code 66 = .ok (.iastore, 1) := by decide +kernel
theorem dX9_code_67 : decode cX9_code 67 = .ok (.aload_n 0, 1) := by decide +kernel
theorem dX9_code_68 : decode cX9_code 68 = .ok (.iload_n 1, 1) := by decide +kernel
theorem dX9_code_69 : decode cX9_code 69 = .ok (.bipush 32, 2) := by decide +kernel
theorem dX9_code_71 : decode cX9_code 71 = .ok (.invokevirtual 150, 3) := by decide +kernel
theorem dX9_code_74 : decode cX9_code 74 = .ok (.goto 178, 3) := by decide +kernel
theorem dX9_code_77 : decode cX9_code 77 = .ok (.iload_n 2, 1) := by decide +kernel
theorem dX9_code_78 : decode cX9_code 78 = .ok (.bipush 17, 2) := by decide +kernel
theorem dX9_code_80 : decode cX9_code 80 = .ok (.if_icmp .ne 19, 3) := by decide +kernel
theorem dX9_code_83 : decode cX9_code 83 = .ok (.aload_n 0, 1) := by decide +kernel
theorem dX9_code_84 : decode cX9_code 84 = .ok (.iload_n 1, 1) := by decide +kernel
theorem dX9_code_85 : decode cX9_code 85 = .ok (.sipush 256, 3) := by decide +kernel
theorem dX9_code_88 : decode cX9_code 88 = .ok (.iload_n 3, 1) := by decide +kernel
theorem dX9_code_89 : decode cX9_code 89 = .ok (.iadd, 1) := by decide +kernel
theorem dX9_code_90 : decode cX9_code 90 = .ok (.bipush 48, 2) := by decide +kernel
theorem dX9_code_92 : decode cX9_code 92 = .ok (.isub, 1) := by decide +kernel
theorem dX9_code_93 : decode cX9_code 93 = .ok (.invokevirtual 150, 3) := by decide +kernel
theorem dX9_code_96 : decode cX9_code 96 = .ok (.goto 156, 3) := by decide +kernel
theorem dX9_code_99 : decode cX9_code 99 = .ok (.iload_n 2, 1) := by decide +kernel
theorem dX9_code_100 : decode cX9_code 100 = .ok (.bipush 18, 2) := by decide +kernel
theorem dX9_code_102 : decode cX9_code 102 = .ok (.if_icmp .eq 9, 3) := by decide +kernel
theorem dX9_code_105 : decode cX9_code 105 = .ok (.iload_n 2, 1) := by decide +kernel
theorem dX9_code_106 : decode cX9_code 106 = .ok (.bipush 19, 2) := by decide +kernel
theorem dX9_code_108 : decode cX9_code 108 = .ok (.if_icmp .ne 54, 3) := by decide +kernel
theorem dX9_code_111 : decode cX9_code 111 = .ok (.aload_n 0, 1) := by decide +kernel
theorem dX9_code_112 : decode cX9_code 112 = .ok (.getfield 25, 3) := by decide +kernel
theorem dX9_code_115 : decode cX9_code 115 = .ok (.iload_n 1, 1) := by decide +kernel
theorem dX9_code_116 : decode cX9_code 116 = .ok (.aload_n 0, 1) := by decide +kernel
theorem dX9_code_117 : decode cX9_code 117 = .ok (.getfield 25, 3) := by decide +kernel
theorem dX9_code_120 : decode cX9_code 120 = .ok (.iload_n 1, 1) := by decide +kernel
theorem dX9_code_121 : decode cX9_code 121 = .ok (.iaload, 1) := by decide +kernel
theorem dX9_code_122 : decode cX9_code 122 = .ok (.ifCond .le 14, 3) := by decide +kernel
theorem dX9_code_125 : decode cX9_code 125 = .ok (.aload_n 0, 1) := by decide +kernel
theorem dX9_code_126 : decode cX9_code 126 = .ok (.getfield 25, 3) := by decide +kernel
theorem dX9_code_129 : decode cX9_code 129 = .ok (.iload_n 1, 1) := by decide +kernel
theorem dX9_code_130 : decode cX9_code 130 = .ok (.iaload, 1) := by decide +kernel
theorem dX9_code_131 : decode cX9_code 131 = .ok (.iconst 1, 1) := by decide +kernel
theorem dX9_code_132 : decode cX9_code 132 = .ok (.isub, 1) := by decide +kernel
theorem dX9_code_133 : decode cX9_code 133 = .ok (.goto 4, 3) := by decide +kernel
theorem dX9_code_136 : decode cX9_code 136 = .ok (.iconst 0, 1) := by decide +kernel
theorem dX9_code_137 : decode cX9_code 137 = .ok (.iastore, 1) := by decide +kernel
theorem dX9_code_138 : decode cX9_code 138 = .ok (.aload_n 0, 1) := by decide +kernel
theorem dX9_code_139 : decode cX9_code 139 = .ok (.iload_n 1, 1) := by decide +kernel
theorem dX9_code_140 : decode cX9_code 140 = .ok (.sipush 272, 3) := by decide +kernel
theorem dX9_code_143 : decode cX9_code 143 = .ok (.bipush 32, 2) := by decide +kernel
theorem dX9_code_145 : decode cX9_code 145 = .ok (.iload_n 2, 1) := by decide +kernel
theorem dX9_code_146 : decode cX9_code 146 = .ok (.bipush 18, 2) := by decide +kernel
theorem dX9_code_148 : decode cX9_code 148 = .ok (.isub, 1) := by decide +kernel
theorem dX9_code_149 : decode cX9_code 149 = .ok (.imul, 1) := by decide +kernel
theorem dX9_code_150 : decode cX9_code 150 = .ok (.iadd, 1) := by decide +kernel
theorem dX9_code_151 : decode cX9_code 151 = .ok (.iload_n 3, 1) := by decide +kernel
theorem dX9_code_152 : decode cX9_code 152 = .ok (.iadd, 1) := by decide +kernel
theorem dX9_code_153 : decode cX9_code 153 = .ok (.bipush 32, 2) := by decide +kernel
theorem dX9_code_155 : decode cX9_code 155 = .ok (.isub, 1) := by decide +kernel
theorem dX9_code_156 : decode cX9_code 156 = .ok (.invokevirtual 150, 3) := by decide +kernel
theorem dX9_code_159 : decode cX9_code 159 = .ok (.goto 93, 3) := by decide +kernel
theorem dX9_code_162 : decode cX9_code 162 = .ok (.iload_n 2, 1) := by decide +kernel
theorem dX9_code_163 : decode cX9_code 163 = .ok (.bipush 23, 2) := by decide +kernel
theorem dX9_code_165 : decode cX9_code 165 = .ok (.if_icmp .ne 66, 3) := by decide +kernel
theorem dX9_code_168 : decode cX9_code 168 = .ok (.iload_n 3, 1) := by decide +kernel
theorem dX9_code_169 : decode cX9_code 169 = .ok (.bipush 33, 2) := by decide +kernel
theorem dX9_code_171 : decode cX9_code 171 = .ok (.bipush 35, 2) := by decide +kernel
theorem dX9_code_173 : decode cX9_code 173 = .ok (.invokestatic 153, 3) := by decide +kernel
theorem dX9_code_176 : decode cX9_code 176 = .ok (.ifCond .eq 55, 3) := by decide +kernel
theorem dX9_code_179 : decode cX9_code 179 = .ok (.aload_n 0, 1) := by decide +kernel
theorem dX9_code_180 : decode cX9_code 180 = .ok (.getfield 25, 3) := by decide +kernel
theorem dX9_code_183 : decode cX9_code 183 = .ok (.iload_n 1, 1) := by decide +kernel
theorem dX9_code_184 : decode cX9_code 184 = .ok (.iaload, 1) := by decide +kernel
theorem dX9_code_185 : decode cX9_code 185 = .ok (.iload_n 3, 1) := by decide +kernel
theorem dX9_code_186 : decode cX9_code 186 = .ok (.iadd, 1) := by decide +kernel
theorem dX9_code_187 : decode cX9_code 187 = .ok (.bipush 32, 2) := by decide +kernel
theorem dX9_code_189 : decode cX9_code 189 = .ok (.isub, 1) := by decide +kernel
theorem dX9_code_190 : decode cX9_code 190 = .ok (.istore 4, 2) := by decide +kernel
theorem dX9_code_192 : decode cX9_code 192 = .ok (.aload_n 0, 1) := by decide +kernel
theorem dX9_code_193 : decode cX9_code 193 = .ok (.getfield 25, 3) := by decide +kernel
theorem dX9_code_196 : decode cX9_code 196 = .ok (.iload_n 1, 1) := by decide +kernel
theorem dX9_code_197 : decode cX9_code 197 = .ok (.aload_n 0, 1) := by decide +kernel
theorem dX9_code_198 : decode cX9_code 198 = .ok (.getfield 25, 3) := by decide +kernel
theorem dX9_code_201 : decode cX9_code 201 = .ok (.iload_n 1, 1) := by decide +kernel
theorem dX9_code_202 : decode cX9_code 202 = .ok (.iaload, 1) := by decide +kernel
theorem dX9_code_203 : decode cX9_code 203 = .ok (.bipush 32, 2) := by decide +kernel
theorem dX9_code_205 : decode cX9_code 205 = .ok (.if_icmp .ne 8, 3) := by decide +kernel
theorem dX9_code_208 : decode cX9_code 208 = .ok (.bipush 32, 2) := by decide +kernel
theorem dX9_code_210 : decode cX9_code 210 = .ok (.goto 17, 3) := by decide +kernel
theorem dX9_code_213 : decode cX9_code 213 = .ok (.iload 4, 2) := by decide +kernel
theorem dX9_code_215 : decode cX9_code 215 = .ok (.bipush 31, 2) := by decide +kernel
theorem dX9_code_217 : decode cX9_code 217 = .ok (.if_icmp .le 8, 3) := by decide +kernel
theorem dX9_code_220 : decode cX9_code 220 = .ok (.bipush 31, 2) := by decide +kernel
theorem dX9_code_222 : decode cX9_code 222 = .ok (.goto 5, 3) := by decide +kernel
theorem dX9_code_225 : decode cX9_code 225 = .ok (.iload 4, 2) := by decide +kernel
theorem dX9_code_227 : decode cX9_code 227 = .ok (.iastore, 1) := by decide +kernel
theorem dX9_code_228 : decode cX9_code 228 = .ok (.goto 24, 3) := by decide +kernel
theorem dX9_code_231 : decode cX9_code 231 = .ok (.iload_n 2, 1) := by decide +kernel
theorem dX9_code_232 : decode cX9_code 232 = .ok (.bipush 20, 2) := by decide +kernel
theorem dX9_code_234 : decode cX9_code 234 = .ok (.if_icmp .eq 9, 3) := by decide +kernel
theorem dX9_code_237 : decode cX9_code 237 = .ok (.iload_n 2, 1) := by decide +kernel
theorem dX9_code_238 : decode cX9_code 238 = .ok (.bipush 21, 2) := by decide +kernel
theorem dX9_code_240 : decode cX9_code 240 = .ok (.if_icmp .ne 12, 3) := by decide +kernel
theorem dX9_code_243 : decode cX9_code 243 = .ok (.aload_n 0, 1) := by decide +kernel
theorem dX9_code_244 : decode cX9_code 244 = .ok (.iload_n 1, 1) := by decide +kernel
theorem dX9_code_245 : decode cX9_code 245 = .ok (.iload_n 3, 1) := by decide +kernel
theorem dX9_code_246 : decode cX9_code 246 = .ok (.bipush 32, 2) := by decide +kernel
theorem dX9_code_248 : decode cX9_code 248 = .ok (.isub, 1) := by decide +kernel
theorem dX9_code_249 : decode cX9_code 249 = .ok (.invokevirtual 157, 3) := by decide +kernel
theorem dX9_code_252 : decode cX9_code 252 = .ok (.return_, 1) := by decide +kernel
theorem nmX9_code : mm_nm yX9_code 3 := ⟨by decide, by decide, by decide +kernel⟩
theorem cdX9_code : mm_cd cd_Y yX9_code cX9_code 5 none := ⟨tw_954, tw_8⟩
abbrev rmX9_code : Room := { frames := 5, cells := 0, slots := 0, locals := 119 }
def fX9_code_137  (a0 : Nat) (x1 : Int32) (x2 : Int32) (x3 : Int32) (y0 : Int32) (y1 : Int32) (y2 : Nat) (σ : mm_M) : Option mm_M :=
  mm_ar σ y2 0 fun n10 => mm_ib y1 n10 (mm_let (mm_wI σ y2 (y1.toNatClampNeg) y0) fun s12 => mm_sh s12 a0 (.inl 9) (mm_on (fX9_put a0 x1 (((272 + (32 * (x2 - 18))) + x3) - 32) s12) fun q14 => some (q14)))
def fX9_code_111  (a0 : Nat) (x1 : Int32) (x2 : Int32) (x3 : Int32) (σ : mm_M) : Option mm_M :=
  mm_sh σ a0 (.inl 9) (mm_on (mm_R σ a0 6) fun q6 => mm_ar σ q6 0 fun n7 => mm_ib x1 n7 ((if (mm_I σ q6 x1.toNatClampNeg) ≤ 0 then (fX9_code_137  a0 x1 x2 x3 0 x1 q6 σ) else mm_on (mm_R σ a0 6) fun q15 => mm_ar σ q15 0 fun n16 => mm_ib x1 n16 ((fX9_code_137  a0 x1 x2 x3 ((mm_I σ q15 x1.toNatClampNeg) - 1) x1 q6 σ)))))
def fX9_code_243  (a0 : Nat) (x1 : Int32) (x2 : Int32) (x3 : Int32) (σ : mm_M) : Option mm_M :=
  mm_sh σ a0 (.inl 9) (mm_on (fX9_control a0 x1 (x3 - 32) σ) fun q22 => some (q22))
def fX9_code_231  (a0 : Nat) (x1 : Int32) (x2 : Int32) (x3 : Int32) (σ : mm_M) : Option mm_M :=
  (if x2 = 20 then (fX9_code_243  a0 x1 x2 x3 σ) else (if x2 = 21 then (fX9_code_243  a0 x1 x2 x3 σ) else some (σ)))
def fX9_code_77  (a0 : Nat) (x1 : Int32) (x2 : Int32) (x3 : Int32) (σ : mm_M) : Option mm_M :=
  (if x2 = 17 then mm_sh σ a0 (.inl 9) (mm_on (fX9_put a0 x1 ((256 + x3) - 48) σ) fun q41 => some (q41)) else (if x2 = 18 then (fX9_code_111  a0 x1 x2 x3 σ) else (if x2 = 19 then (fX9_code_111  a0 x1 x2 x3 σ) else (if x2 = 23 then (if (fX9_in x3 33 35) = 0 then (fX9_code_231  a0 x1 x2 x3 σ) else mm_sh σ a0 (.inl 9) (mm_on (mm_R σ a0 6) fun q26 => mm_ar σ q26 0 fun n27 => mm_ib x1 n27 (mm_on (mm_R σ a0 6) fun q29 => mm_ar σ q29 0 fun n30 => mm_ib x1 n30 ((if (mm_I σ q29 x1.toNatClampNeg) = 32 then mm_ib x1 n30 (mm_let (mm_wI σ q29 (x1.toNatClampNeg) 32) fun s39 => some (s39)) else (if (((mm_I σ q26 x1.toNatClampNeg) + x3) - 32) ≤ 31 then mm_ib x1 n30 (mm_let (mm_wI σ q29 (x1.toNatClampNeg) (((mm_I σ q26 x1.toNatClampNeg) + x3) - 32)) fun s35 => some (s35)) else mm_ib x1 n30 (mm_let (mm_wI σ q29 (x1.toNatClampNeg) 31) fun s37 => some (s37)))))))) else (fX9_code_231  a0 x1 x2 x3 σ)))))
def fX9_code_65  (a0 : Nat) (x1 : Int32) (x2 : Int32) (x3 : Int32) (y0 : Int32) (y1 : Int32) (y2 : Int32) (y3 : Option Nat) (σ : mm_M) : Option mm_M :=
  mm_on (y3) fun q45 => mm_ar σ q45 0 fun n46 => mm_ib y2 n46 (mm_let (mm_wI σ q45 (y2.toNatClampNeg) (y1 + y0)) fun s48 => mm_sh s48 a0 (.inl 9) (mm_on (fX9_put a0 x1 32 s48) fun q50 => some (q50)))
def fX9_code_19  (a0 : Nat) (x1 : Int32) (x2 : Int32) (x3 : Int32) (σ : mm_M) : Option mm_M :=
  mm_sh σ a0 (.inl 9) (mm_on (fX9_rowCode a0 x1 x2 x3 σ) fun q53 => some (q53))
def fX9_code (p0 : Nat) (p1 : Int32) (p2 : Int32) (p3 : Int32) (σ : mm_M) : Option mm_M :=
  (if p3 < 64 then (if p2 = 17 then (if 48 ≤ p3 then (fX9_code_77  p0 p1 p2 p3 σ) else mm_sh σ p0 (.inl 9) ((if (p3 - p3 / 2 * 2) = 1 then (fX9_code_65  p0 p1 p2 p3 8 ((p3 / 2) - (p3 / 2) / 8 * 8) p1 (mm_R σ p0 7) σ) else (fX9_code_65  p0 p1 p2 p3 0 ((p3 / 2) - (p3 / 2) / 8 * 8) p1 (mm_R σ p0 7) σ)))) else (fX9_code_77  p0 p1 p2 p3 σ)) else (if p2 = 16 then (if (p3 &&& 32) = 0 then (fX9_code_19  p0 p1 p2 p3 σ) else some (σ)) else (fX9_code_19  p0 p1 p2 p3 σ)))
set_option maxHeartbeats 4000000 in
set_option maxRecDepth 100000 in
theorem kX9_code_137 {G : mm_G} {A : Nat → Prop} {ini : Bool × Option (List (Nat × Nat × Nat × Nat))}  {R : mm_M}  (a0 : Nat) (x1 : Int32) (x2 : Int32) (x3 : Int32) (y0 : Int32) (y1 : Int32) (y2 : Nat) (σ : mm_M) (hf : fX9_code_137  a0 x1 x2 x3 y0 y1 y2 σ = some R) : mm_J cd_Y G RX9 cX9_code 5 none ini rmX9_code A (mm_QF cd_Y G A (mm_Pv R) rmX9_code.cells rmX9_code.slots) 137 [(0, .ref a0), (1, .int x1), (2, .int x2), (3, .int x3)] [.int y0, .int y1, .ref y2] σ 0 0 := by
  unfold fX9_code_137 at hf
  obtain ⟨n10, hn10, hf⟩ := mm_ar_s hf
  obtain ⟨hi11, hf⟩ := mm_ib_s hf
  refine mm_iast hn10 rfl hi11 dX9_code_137 ?_
  obtain ⟨s12, hs12, hf⟩ := mm_let_s hf
  rw [hs12]
  refine mm_aload_n (j := 0) dX9_code_138 rfl rfl ?_
  refine mm_iload_n (j := 1) dX9_code_139 rfl rfl ?_
  refine mm_sipush (v := 272) dX9_code_140 (by decide) ?_
  refine mm_bipush (v := 32) dX9_code_143 (by decide) ?_
  refine mm_iload_n (j := 2) dX9_code_145 rfl rfl ?_
  refine mm_bipush (v := 18) dX9_code_146 (by decide) ?_
  refine mm_isub dX9_code_148 ?_
  refine mm_imul dX9_code_149 ?_
  refine mm_iadd dX9_code_150 ?_
  refine mm_iload_n (j := 3) dX9_code_151 rfl rfl ?_
  refine mm_iadd dX9_code_152 ?_
  refine mm_bipush (v := 32) dX9_code_153 (by decide) ?_
  refine mm_isub dX9_code_155 ?_
  obtain ⟨hs13, hf⟩ := mm_sh_s hf
  obtain ⟨q14, hq14, hf⟩ := mm_on_s hf
  refine mm_callVv cd_ok (kX9_put a0 x1 (((272 + (32 * (x2 - 18))) + x3) - 32) hq14) hs13 rfl (Or.inl tw_982) cdX9_put tw_984 ts_39 nmX9_put rfl rfl (by simp only [List.map_cons, List.map_nil, mm_rf_cat]; exact Nat.le_of_ble_eq_true rfl) dX9_code_156 ⟨Nat.le_of_ble_eq_true rfl, Nat.le_of_ble_eq_true rfl⟩ ⟨Nat.le_of_ble_eq_true rfl, Nat.le_of_ble_eq_true rfl⟩ ?_
  refine mm_goto (tgt := 252) dX9_code_159 (by decide) ?_
  cases hf
  refine mm_widen (ck' := rmX9_code.cells) (sk' := rmX9_code.slots) (Nat.le_of_ble_eq_true rfl) (Nat.le_of_ble_eq_true rfl) ?_
  exact mm_vret rfl dX9_code_252 ⟨rfl, rfl⟩
set_option maxHeartbeats 4000000 in
set_option maxRecDepth 100000 in
theorem kX9_code_111 {G : mm_G} {A : Nat → Prop} {ini : Bool × Option (List (Nat × Nat × Nat × Nat))}  {R : mm_M}  (a0 : Nat) (x1 : Int32) (x2 : Int32) (x3 : Int32) (σ : mm_M) (hf : fX9_code_111  a0 x1 x2 x3 σ = some R) : mm_J cd_Y G RX9 cX9_code 5 none ini rmX9_code A (mm_QF cd_Y G A (mm_Pv R) rmX9_code.cells rmX9_code.slots) 111 [(0, .ref a0), (1, .int x1), (2, .int x2), (3, .int x3)] [] σ 0 0 := by
  unfold fX9_code_111 at hf
  refine mm_aload_n (j := 0) dX9_code_111 rfl rfl ?_
  obtain ⟨hs5, hf⟩ := mm_sh_s hf
  refine mm_get (c := 9) (k := 6) (v := va_rf (mm_R σ a0 6)) cd_ok ⟨_, _, _, rfl, by decide, Or.inl tw_800⟩ hs5 rfl dX9_code_112 ?_
  refine mm_iload_n (j := 1) dX9_code_115 rfl rfl ?_
  refine mm_aload_n (j := 0) dX9_code_116 rfl rfl ?_
  refine mm_get (c := 9) (k := 6) (v := va_rf (mm_R σ a0 6)) cd_ok ⟨_, _, _, rfl, by decide, Or.inl tw_800⟩ hs5 rfl dX9_code_117 ?_
  refine mm_iload_n (j := 1) dX9_code_120 rfl rfl ?_
  obtain ⟨q6, hq6, hf⟩ := mm_on_s hf
  rw [hq6, mm_rf_some]
  obtain ⟨n7, hn7, hf⟩ := mm_ar_s hf
  obtain ⟨hi8, hf⟩ := mm_ib_s hf
  refine mm_iald hn7 rfl hi8 dX9_code_121 ?_
  refine mm_if_le (tgt := 136) dX9_code_122 (by decide) (fun c9 => ?_) (fun c9 => ?_)
  · rw [if_pos c9] at hf
    refine mm_iconst (v := 0) dX9_code_136 (by decide) ?_
    refine mm_sub [0, 1, 2, 3] rfl ?_
    exact kX9_code_137  a0 x1 x2 x3 0 x1 q6 σ hf
  · rw [if_neg c9] at hf
    refine mm_aload_n (j := 0) dX9_code_125 rfl rfl ?_
    refine mm_get (c := 9) (k := 6) (v := va_rf (mm_R σ a0 6)) cd_ok ⟨_, _, _, rfl, by decide, Or.inl tw_800⟩ hs5 rfl dX9_code_126 ?_
    refine mm_iload_n (j := 1) dX9_code_129 rfl rfl ?_
    obtain ⟨q15, hq15, hf⟩ := mm_on_s hf
    rw [hq15, mm_rf_some]
    obtain ⟨n16, hn16, hf⟩ := mm_ar_s hf
    obtain ⟨hi17, hf⟩ := mm_ib_s hf
    refine mm_iald hn16 rfl hi17 dX9_code_130 ?_
    refine mm_iconst (v := 1) dX9_code_131 (by decide) ?_
    refine mm_isub dX9_code_132 ?_
    refine mm_goto (tgt := 137) dX9_code_133 (by decide) ?_
    refine mm_sub [0, 1, 2, 3] rfl ?_
    exact kX9_code_137  a0 x1 x2 x3 ((mm_I σ q15 x1.toNatClampNeg) - 1) x1 q6 σ hf
set_option maxHeartbeats 4000000 in
set_option maxRecDepth 100000 in
theorem kX9_code_243 {G : mm_G} {A : Nat → Prop} {ini : Bool × Option (List (Nat × Nat × Nat × Nat))}  {R : mm_M}  (a0 : Nat) (x1 : Int32) (x2 : Int32) (x3 : Int32) (σ : mm_M) (hf : fX9_code_243  a0 x1 x2 x3 σ = some R) : mm_J cd_Y G RX9 cX9_code 5 none ini rmX9_code A (mm_QF cd_Y G A (mm_Pv R) rmX9_code.cells rmX9_code.slots) 243 [(0, .ref a0), (1, .int x1), (2, .int x2), (3, .int x3)] [] σ 0 0 := by
  unfold fX9_code_243 at hf
  refine mm_aload_n (j := 0) dX9_code_243 rfl rfl ?_
  refine mm_iload_n (j := 1) dX9_code_244 rfl rfl ?_
  refine mm_iload_n (j := 3) dX9_code_245 rfl rfl ?_
  refine mm_bipush (v := 32) dX9_code_246 (by decide) ?_
  refine mm_isub dX9_code_248 ?_
  obtain ⟨hs21, hf⟩ := mm_sh_s hf
  obtain ⟨q22, hq22, hf⟩ := mm_on_s hf
  refine mm_callVv cd_ok (kX9_control a0 x1 (x3 - 32) hq22) hs21 rfl (Or.inl tw_986) cdX9_control tw_988 ts_40 nmX9_control rfl rfl (by simp only [List.map_cons, List.map_nil, mm_rf_cat]; exact Nat.le_of_ble_eq_true rfl) dX9_code_249 ⟨Nat.le_of_ble_eq_true rfl, Nat.le_of_ble_eq_true rfl⟩ ⟨Nat.le_of_ble_eq_true rfl, Nat.le_of_ble_eq_true rfl⟩ ?_
  cases hf
  refine mm_widen (ck' := rmX9_code.cells) (sk' := rmX9_code.slots) (Nat.le_of_ble_eq_true rfl) (Nat.le_of_ble_eq_true rfl) ?_
  exact mm_vret rfl dX9_code_252 ⟨rfl, rfl⟩
set_option maxHeartbeats 4000000 in
set_option maxRecDepth 100000 in
theorem kX9_code_231 {G : mm_G} {A : Nat → Prop} {ini : Bool × Option (List (Nat × Nat × Nat × Nat))}  {R : mm_M}  (a0 : Nat) (x1 : Int32) (x2 : Int32) (x3 : Int32) (σ : mm_M) (hf : fX9_code_231  a0 x1 x2 x3 σ = some R) : mm_J cd_Y G RX9 cX9_code 5 none ini rmX9_code A (mm_QF cd_Y G A (mm_Pv R) rmX9_code.cells rmX9_code.slots) 231 [(0, .ref a0), (1, .int x1), (2, .int x2), (3, .int x3)] [] σ 0 0 := by
  unfold fX9_code_231 at hf
  refine mm_iload_n (j := 2) dX9_code_231 rfl rfl ?_
  refine mm_bipush (v := 20) dX9_code_232 (by decide) ?_
  refine mm_icmp_eq (tgt := 243) dX9_code_234 (by decide) (fun c20 => ?_) (fun c20 => ?_)
  · rw [if_pos c20] at hf
    refine mm_sub [0, 1, 2, 3] rfl ?_
    exact kX9_code_243  a0 x1 x2 x3 σ hf
  · rw [if_neg c20] at hf
    refine mm_iload_n (j := 2) dX9_code_237 rfl rfl ?_
    refine mm_bipush (v := 21) dX9_code_238 (by decide) ?_
    refine mm_icmp_ne (tgt := 252) dX9_code_240 (by decide) (fun c23 => ?_) (fun c23 => ?_)
    · rw [if_neg c23] at hf
      cases hf
      refine mm_widen (ck' := rmX9_code.cells) (sk' := rmX9_code.slots) (Nat.le_of_ble_eq_true rfl) (Nat.le_of_ble_eq_true rfl) ?_
      exact mm_vret rfl dX9_code_252 ⟨rfl, rfl⟩
    · rw [if_pos c23] at hf
      refine mm_sub [0, 1, 2, 3] rfl ?_
      exact kX9_code_243  a0 x1 x2 x3 σ hf
set_option maxHeartbeats 4000000 in
set_option maxRecDepth 100000 in
theorem kX9_code_77 {G : mm_G} {A : Nat → Prop} {ini : Bool × Option (List (Nat × Nat × Nat × Nat))}  {R : mm_M}  (a0 : Nat) (x1 : Int32) (x2 : Int32) (x3 : Int32) (σ : mm_M) (hf : fX9_code_77  a0 x1 x2 x3 σ = some R) : mm_J cd_Y G RX9 cX9_code 5 none ini rmX9_code A (mm_QF cd_Y G A (mm_Pv R) rmX9_code.cells rmX9_code.slots) 77 [(0, .ref a0), (1, .int x1), (2, .int x2), (3, .int x3)] [] σ 0 0 := by
  unfold fX9_code_77 at hf
  refine mm_iload_n (j := 2) dX9_code_77 rfl rfl ?_
  refine mm_bipush (v := 17) dX9_code_78 (by decide) ?_
  refine mm_icmp_ne (tgt := 99) dX9_code_80 (by decide) (fun c3 => ?_) (fun c3 => ?_)
  · rw [if_neg c3] at hf
    refine mm_iload_n (j := 2) dX9_code_99 rfl rfl ?_
    refine mm_bipush (v := 18) dX9_code_100 (by decide) ?_
    refine mm_icmp_eq (tgt := 111) dX9_code_102 (by decide) (fun c4 => ?_) (fun c4 => ?_)
    · rw [if_pos c4] at hf
      refine mm_sub [0, 1, 2, 3] rfl ?_
      exact kX9_code_111  a0 x1 x2 x3 σ hf
    · rw [if_neg c4] at hf
      refine mm_iload_n (j := 2) dX9_code_105 rfl rfl ?_
      refine mm_bipush (v := 19) dX9_code_106 (by decide) ?_
      refine mm_icmp_ne (tgt := 162) dX9_code_108 (by decide) (fun c18 => ?_) (fun c18 => ?_)
      · rw [if_neg c18] at hf
        refine mm_iload_n (j := 2) dX9_code_162 rfl rfl ?_
        refine mm_bipush (v := 23) dX9_code_163 (by decide) ?_
        refine mm_icmp_ne (tgt := 231) dX9_code_165 (by decide) (fun c19 => ?_) (fun c19 => ?_)
        · rw [if_neg c19] at hf
          refine mm_sub [0, 1, 2, 3] rfl ?_
          exact kX9_code_231  a0 x1 x2 x3 σ hf
        · rw [if_pos c19] at hf
          refine mm_iload_n (j := 3) dX9_code_168 rfl rfl ?_
          refine mm_bipush (v := 33) dX9_code_169 (by decide) ?_
          refine mm_bipush (v := 35) dX9_code_171 (by decide) ?_
          refine mm_callSi cd_ok (kX9_in x3 33 35 _ rfl) (Or.inl tw_941) cdX9_in tw_942 nmX9_in rfl rfl (by simp only [List.map_cons, List.map_nil, mm_rf_cat]; exact Nat.le_of_ble_eq_true rfl) dX9_code_173 ⟨Nat.le_of_ble_eq_true rfl, Nat.le_of_ble_eq_true rfl⟩ ⟨Nat.le_of_ble_eq_true rfl, Nat.le_of_ble_eq_true rfl⟩ ?_
          refine mm_if_eq (tgt := 231) dX9_code_176 (by decide) (fun c24 => ?_) (fun c24 => ?_)
          · rw [if_pos c24] at hf
            refine mm_sub [0, 1, 2, 3] rfl ?_
            exact kX9_code_231  a0 x1 x2 x3 σ hf
          · rw [if_neg c24] at hf
            refine mm_aload_n (j := 0) dX9_code_179 rfl rfl ?_
            obtain ⟨hs25, hf⟩ := mm_sh_s hf
            refine mm_get (c := 9) (k := 6) (v := va_rf (mm_R σ a0 6)) cd_ok ⟨_, _, _, rfl, by decide, Or.inl tw_800⟩ hs25 rfl dX9_code_180 ?_
            refine mm_iload_n (j := 1) dX9_code_183 rfl rfl ?_
            obtain ⟨q26, hq26, hf⟩ := mm_on_s hf
            rw [hq26, mm_rf_some]
            obtain ⟨n27, hn27, hf⟩ := mm_ar_s hf
            obtain ⟨hi28, hf⟩ := mm_ib_s hf
            refine mm_iald hn27 rfl hi28 dX9_code_184 ?_
            refine mm_iload_n (j := 3) dX9_code_185 rfl rfl ?_
            refine mm_iadd dX9_code_186 ?_
            refine mm_bipush (v := 32) dX9_code_187 (by decide) ?_
            refine mm_isub dX9_code_189 ?_
            refine mm_istore (L' := [(4, .int (((mm_I σ q26 x1.toNatClampNeg) + x3) - 32)), (0, .ref a0), (1, .int x1), (2, .int x2), (3, .int x3)]) dX9_code_190 (by decide) rfl ?_
            refine mm_aload_n (j := 1) dX9_code_192 rfl rfl ?_
            refine mm_get (c := 9) (k := 6) (v := va_rf (mm_R σ a0 6)) cd_ok ⟨_, _, _, rfl, by decide, Or.inl tw_800⟩ hs25 rfl dX9_code_193 ?_
            refine mm_iload_n (j := 2) dX9_code_196 rfl rfl ?_
            refine mm_aload_n (j := 1) dX9_code_197 rfl rfl ?_
            refine mm_get (c := 9) (k := 6) (v := va_rf (mm_R σ a0 6)) cd_ok ⟨_, _, _, rfl, by decide, Or.inl tw_800⟩ hs25 rfl dX9_code_198 ?_
            refine mm_iload_n (j := 2) dX9_code_201 rfl rfl ?_
            obtain ⟨q29, hq29, hf⟩ := mm_on_s hf
            rw [hq29, mm_rf_some]
            obtain ⟨n30, hn30, hf⟩ := mm_ar_s hf
            obtain ⟨hi31, hf⟩ := mm_ib_s hf
            refine mm_iald hn30 rfl hi31 dX9_code_202 ?_
            refine mm_bipush (v := 32) dX9_code_203 (by decide) ?_
            refine mm_icmp_ne (tgt := 213) dX9_code_205 (by decide) (fun c32 => ?_) (fun c32 => ?_)
            · rw [if_neg c32] at hf
              refine mm_iload (j := 0) dX9_code_213 rfl ?_
              refine mm_bipush (v := 31) dX9_code_215 (by decide) ?_
              refine mm_icmp_le (tgt := 225) dX9_code_217 (by decide) (fun c33 => ?_) (fun c33 => ?_)
              · rw [if_pos c33] at hf
                refine mm_iload (j := 0) dX9_code_225 rfl ?_
                obtain ⟨hi34, hf⟩ := mm_ib_s hf
                refine mm_iast hn30 rfl hi34 dX9_code_227 ?_
                obtain ⟨s35, hs35, hf⟩ := mm_let_s hf
                rw [hs35]
                refine mm_goto (tgt := 252) dX9_code_228 (by decide) ?_
                cases hf
                refine mm_widen (ck' := rmX9_code.cells) (sk' := rmX9_code.slots) (Nat.le_of_ble_eq_true rfl) (Nat.le_of_ble_eq_true rfl) ?_
                exact mm_vret rfl dX9_code_252 ⟨rfl, rfl⟩
              · rw [if_neg c33] at hf
                refine mm_bipush (v := 31) dX9_code_220 (by decide) ?_
                refine mm_goto (tgt := 227) dX9_code_222 (by decide) ?_
                obtain ⟨hi36, hf⟩ := mm_ib_s hf
                refine mm_iast hn30 rfl hi36 dX9_code_227 ?_
                obtain ⟨s37, hs37, hf⟩ := mm_let_s hf
                rw [hs37]
                refine mm_goto (tgt := 252) dX9_code_228 (by decide) ?_
                cases hf
                refine mm_widen (ck' := rmX9_code.cells) (sk' := rmX9_code.slots) (Nat.le_of_ble_eq_true rfl) (Nat.le_of_ble_eq_true rfl) ?_
                exact mm_vret rfl dX9_code_252 ⟨rfl, rfl⟩
            · rw [if_pos c32] at hf
              refine mm_bipush (v := 32) dX9_code_208 (by decide) ?_
              refine mm_goto (tgt := 227) dX9_code_210 (by decide) ?_
              obtain ⟨hi38, hf⟩ := mm_ib_s hf
              refine mm_iast hn30 rfl hi38 dX9_code_227 ?_
              obtain ⟨s39, hs39, hf⟩ := mm_let_s hf
              rw [hs39]
              refine mm_goto (tgt := 252) dX9_code_228 (by decide) ?_
              cases hf
              refine mm_widen (ck' := rmX9_code.cells) (sk' := rmX9_code.slots) (Nat.le_of_ble_eq_true rfl) (Nat.le_of_ble_eq_true rfl) ?_
              exact mm_vret rfl dX9_code_252 ⟨rfl, rfl⟩
      · rw [if_pos c18] at hf
        refine mm_sub [0, 1, 2, 3] rfl ?_
        exact kX9_code_111  a0 x1 x2 x3 σ hf
  · rw [if_pos c3] at hf
    refine mm_aload_n (j := 0) dX9_code_83 rfl rfl ?_
    refine mm_iload_n (j := 1) dX9_code_84 rfl rfl ?_
    refine mm_sipush (v := 256) dX9_code_85 (by decide) ?_
    refine mm_iload_n (j := 3) dX9_code_88 rfl rfl ?_
    refine mm_iadd dX9_code_89 ?_
    refine mm_bipush (v := 48) dX9_code_90 (by decide) ?_
    refine mm_isub dX9_code_92 ?_
    obtain ⟨hs40, hf⟩ := mm_sh_s hf
    obtain ⟨q41, hq41, hf⟩ := mm_on_s hf
    refine mm_callVv cd_ok (kX9_put a0 x1 ((256 + x3) - 48) hq41) hs40 rfl (Or.inl tw_982) cdX9_put tw_984 ts_39 nmX9_put rfl rfl (by simp only [List.map_cons, List.map_nil, mm_rf_cat]; exact Nat.le_of_ble_eq_true rfl) dX9_code_93 ⟨Nat.le_of_ble_eq_true rfl, Nat.le_of_ble_eq_true rfl⟩ ⟨Nat.le_of_ble_eq_true rfl, Nat.le_of_ble_eq_true rfl⟩ ?_
    refine mm_goto (tgt := 252) dX9_code_96 (by decide) ?_
    cases hf
    refine mm_widen (ck' := rmX9_code.cells) (sk' := rmX9_code.slots) (Nat.le_of_ble_eq_true rfl) (Nat.le_of_ble_eq_true rfl) ?_
    exact mm_vret rfl dX9_code_252 ⟨rfl, rfl⟩
set_option maxHeartbeats 4000000 in
set_option maxRecDepth 100000 in
theorem kX9_code_65 {G : mm_G} {A : Nat → Prop} {ini : Bool × Option (List (Nat × Nat × Nat × Nat))}  {R : mm_M}  (a0 : Nat) (x1 : Int32) (x2 : Int32) (x3 : Int32) (y0 : Int32) (y1 : Int32) (y2 : Int32) (y3 : Option Nat) (σ : mm_M) (hf : fX9_code_65  a0 x1 x2 x3 y0 y1 y2 y3 σ = some R) : mm_J cd_Y G RX9 cX9_code 5 none ini rmX9_code A (mm_QF cd_Y G A (mm_Pv R) rmX9_code.cells rmX9_code.slots) 65 [(0, .ref a0), (1, .int x1), (2, .int x2), (3, .int x3)] [.int y0, .int y1, .int y2, va_rf (y3)] σ 0 0 := by
  unfold fX9_code_65 at hf
  refine mm_iadd dX9_code_65 ?_
  obtain ⟨q45, hq45, hf⟩ := mm_on_s hf
  rw [hq45, mm_rf_some]
  obtain ⟨n46, hn46, hf⟩ := mm_ar_s hf
  obtain ⟨hi47, hf⟩ := mm_ib_s hf
  refine mm_iast hn46 rfl hi47 dX9_code_66 ?_
  obtain ⟨s48, hs48, hf⟩ := mm_let_s hf
  rw [hs48]
  refine mm_aload_n (j := 0) dX9_code_67 rfl rfl ?_
  refine mm_iload_n (j := 1) dX9_code_68 rfl rfl ?_
  refine mm_bipush (v := 32) dX9_code_69 (by decide) ?_
  obtain ⟨hs49, hf⟩ := mm_sh_s hf
  obtain ⟨q50, hq50, hf⟩ := mm_on_s hf
  refine mm_callVv cd_ok (kX9_put a0 x1 32 hq50) hs49 rfl (Or.inl tw_982) cdX9_put tw_984 ts_39 nmX9_put rfl rfl (by simp only [List.map_cons, List.map_nil, mm_rf_cat]; exact Nat.le_of_ble_eq_true rfl) dX9_code_71 ⟨Nat.le_of_ble_eq_true rfl, Nat.le_of_ble_eq_true rfl⟩ ⟨Nat.le_of_ble_eq_true rfl, Nat.le_of_ble_eq_true rfl⟩ ?_
  refine mm_goto (tgt := 252) dX9_code_74 (by decide) ?_
  cases hf
  refine mm_widen (ck' := rmX9_code.cells) (sk' := rmX9_code.slots) (Nat.le_of_ble_eq_true rfl) (Nat.le_of_ble_eq_true rfl) ?_
  exact mm_vret rfl dX9_code_252 ⟨rfl, rfl⟩
set_option maxHeartbeats 4000000 in
set_option maxRecDepth 100000 in
theorem kX9_code_19 {G : mm_G} {A : Nat → Prop} {ini : Bool × Option (List (Nat × Nat × Nat × Nat))}  {R : mm_M}  (a0 : Nat) (x1 : Int32) (x2 : Int32) (x3 : Int32) (σ : mm_M) (hf : fX9_code_19  a0 x1 x2 x3 σ = some R) : mm_J cd_Y G RX9 cX9_code 5 none ini rmX9_code A (mm_QF cd_Y G A (mm_Pv R) rmX9_code.cells rmX9_code.slots) 19 [(0, .ref a0), (1, .int x1), (2, .int x2), (3, .int x3)] [] σ 0 0 := by
  unfold fX9_code_19 at hf
  refine mm_aload_n (j := 0) dX9_code_19 rfl rfl ?_
  refine mm_iload_n (j := 1) dX9_code_20 rfl rfl ?_
  refine mm_iload_n (j := 2) dX9_code_21 rfl rfl ?_
  refine mm_iload_n (j := 3) dX9_code_22 rfl rfl ?_
  obtain ⟨hs52, hf⟩ := mm_sh_s hf
  obtain ⟨q53, hq53, hf⟩ := mm_on_s hf
  refine mm_callVv cd_ok (kX9_rowCode a0 x1 x2 x3 hq53) hs52 rfl (Or.inl tw_955) cdX9_rowCode tw_957 ts_33 nmX9_rowCode rfl rfl (by simp only [List.map_cons, List.map_nil, mm_rf_cat]; exact Nat.le_of_ble_eq_true rfl) dX9_code_23 ⟨Nat.le_of_ble_eq_true rfl, Nat.le_of_ble_eq_true rfl⟩ ⟨Nat.le_of_ble_eq_true rfl, Nat.le_of_ble_eq_true rfl⟩ ?_
  refine mm_goto (tgt := 252) dX9_code_26 (by decide) ?_
  cases hf
  refine mm_widen (ck' := rmX9_code.cells) (sk' := rmX9_code.slots) (Nat.le_of_ble_eq_true rfl) (Nat.le_of_ble_eq_true rfl) ?_
  exact mm_vret rfl dX9_code_252 ⟨rfl, rfl⟩
set_option maxHeartbeats 4000000 in
set_option maxRecDepth 100000 in
theorem kX9_code {G : mm_G} {A : Nat → Prop} (p0 : Nat) (p1 : Int32) (p2 : Int32) (p3 : Int32) {σ : mm_M} {R : mm_M} (hf : fX9_code p0 p1 p2 p3 σ = some R) : mm_C cd_Y G yX9_code cX9_code 5 none rmX9_code A [.ref p0, .int p1, .int p2, .int p3] σ (mm_Pv R) := by
  refine mm_C.of (by decide) (Nat.le_of_ble_eq_true rfl) ?_
  unfold fX9_code at hf
  have e0 : lv_args 0 [.ref p0, .int p1, .int p2, .int p3] = [(0, .ref p0), (1, .int p1), (2, .int p2), (3, .int p3)] := rfl
  rw [e0]
  generalize hini : ((yX9_code.name == "<init>"), none) = ini
  clear e0
  clear hini
  refine mm_iload_n (j := 3) dX9_code_0 rfl rfl ?_
  refine mm_bipush (v := 64) dX9_code_1 (by decide) ?_
  refine mm_icmp_lt (tgt := 29) dX9_code_3 (by decide) (fun c1 => ?_) (fun c1 => ?_)
  · rw [if_pos c1] at hf
    refine mm_iload_n (j := 2) dX9_code_29 rfl rfl ?_
    refine mm_bipush (v := 17) dX9_code_30 (by decide) ?_
    refine mm_icmp_ne (tgt := 77) dX9_code_32 (by decide) (fun c2 => ?_) (fun c2 => ?_)
    · rw [if_neg c2] at hf
      refine mm_sub [0, 1, 2, 3] rfl ?_
      exact kX9_code_77  p0 p1 p2 p3 σ hf
    · rw [if_pos c2] at hf
      refine mm_iload_n (j := 3) dX9_code_35 rfl rfl ?_
      refine mm_bipush (v := 48) dX9_code_36 (by decide) ?_
      refine mm_icmp_ge (tgt := 77) dX9_code_38 (by decide) (fun c42 => ?_) (fun c42 => ?_)
      · rw [if_pos c42] at hf
        refine mm_sub [0, 1, 2, 3] rfl ?_
        exact kX9_code_77  p0 p1 p2 p3 σ hf
      · rw [if_neg c42] at hf
        refine mm_aload_n (j := 0) dX9_code_41 rfl rfl ?_
        obtain ⟨hs43, hf⟩ := mm_sh_s hf
        refine mm_get (c := 9) (k := 7) (v := va_rf (mm_R σ p0 7)) cd_ok ⟨_, _, _, rfl, by decide, Or.inl tw_801⟩ hs43 rfl dX9_code_42 ?_
        refine mm_iload_n (j := 1) dX9_code_45 rfl rfl ?_
        refine mm_iload_n (j := 3) dX9_code_46 rfl rfl ?_
        refine mm_iconst (v := 2) dX9_code_47 (by decide) ?_
        refine mm_idiv dX9_code_48 (by decide) ?_
        refine mm_bipush (v := 8) dX9_code_49 (by decide) ?_
        refine mm_irem dX9_code_51 (by decide) ?_
        refine mm_iload_n (j := 3) dX9_code_52 rfl rfl ?_
        refine mm_iconst (v := 2) dX9_code_53 (by decide) ?_
        refine mm_irem dX9_code_54 (by decide) ?_
        refine mm_iconst (v := 1) dX9_code_55 (by decide) ?_
        refine mm_icmp_ne (tgt := 64) dX9_code_56 (by decide) (fun c44 => ?_) (fun c44 => ?_)
        · rw [if_neg c44] at hf
          refine mm_iconst (v := 0) dX9_code_64 (by decide) ?_
          refine mm_sub [0, 1, 2, 3] rfl ?_
          exact kX9_code_65  p0 p1 p2 p3 0 ((p3 / 2) - (p3 / 2) / 8 * 8) p1 (mm_R σ p0 7) σ hf
        · rw [if_pos c44] at hf
          refine mm_bipush (v := 8) dX9_code_59 (by decide) ?_
          refine mm_goto (tgt := 65) dX9_code_61 (by decide) ?_
          refine mm_sub [0, 1, 2, 3] rfl ?_
          exact kX9_code_65  p0 p1 p2 p3 8 ((p3 / 2) - (p3 / 2) / 8 * 8) p1 (mm_R σ p0 7) σ hf
  · rw [if_neg c1] at hf
    refine mm_iload_n (j := 2) dX9_code_6 rfl rfl ?_
    refine mm_bipush (v := 16) dX9_code_7 (by decide) ?_
    refine mm_icmp_ne (tgt := 19) dX9_code_9 (by decide) (fun c51 => ?_) (fun c51 => ?_)
    · rw [if_neg c51] at hf
      refine mm_sub [0, 1, 2, 3] rfl ?_
      exact kX9_code_19  p0 p1 p2 p3 σ hf
    · rw [if_pos c51] at hf
      refine mm_iload_n (j := 3) dX9_code_12 rfl rfl ?_
      refine mm_bipush (v := 32) dX9_code_13 (by decide) ?_
      refine mm_iand dX9_code_15 ?_
      refine mm_if_ne (tgt := 252) dX9_code_16 (by decide) (fun c54 => ?_) (fun c54 => ?_)
      · rw [if_neg c54] at hf
        cases hf
        refine mm_widen (ck' := rmX9_code.cells) (sk' := rmX9_code.slots) (Nat.le_of_ble_eq_true rfl) (Nat.le_of_ble_eq_true rfl) ?_
        exact mm_vret rfl dX9_code_252 ⟨rfl, rfl⟩
      · rw [if_pos c54] at hf
        refine mm_sub [0, 1, 2, 3] rfl ?_
        exact kX9_code_19  p0 p1 p2 p3 σ hf
theorem dX9_pair_0 : decode cX9_pair 0 = .ok (.aload_n 0, 1) := by decide +kernel
theorem dX9_pair_1 : decode cX9_pair 1 = .ok (.iload_n 1, 1) := by decide +kernel
theorem dX9_pair_2 : decode cX9_pair 2 = .ok (.iconst 0, 1) := by decide +kernel
theorem dX9_pair_3 : decode cX9_pair 3 = .ok (.iconst 1, 1) := by decide +kernel
theorem dX9_pair_4 : decode cX9_pair 4 = .ok (.invokestatic 153, 3) := by decide +kernel
theorem dX9_pair_7 : decode cX9_pair 7 = .ok (.invokevirtual 169, 3) := by decide +kernel
theorem dX9_pair_10 : decode cX9_pair 10 = .ok (.ifCond .ne 5, 3) := by decide +kernel
theorem dX9_pair_13 : decode cX9_pair 13 = .ok (.iconst 0, 1) := by decide +kernel
theorem dX9_pair_14 : decode cX9_pair 14 = .ok (.ireturn, 1) := by decide +kernel
theorem dX9_pair_15 : decode cX9_pair 15 = .ok (.aload_n 0, 1) := by decide +kernel
theorem dX9_pair_16 : decode cX9_pair 16 = .ok (.getfield 37, 3) := by decide +kernel
theorem dX9_pair_19 : decode cX9_pair 19 = .ok (.iload_n 1, 1) := by decide +kernel
theorem dX9_pair_20 : decode cX9_pair 20 = .ok (.iaload, 1) := by decide +kernel
theorem dX9_pair_21 : decode cX9_pair 21 = .ok (.istore 4, 2) := by decide +kernel
theorem dX9_pair_23 : decode cX9_pair 23 = .ok (.aload_n 0, 1) := by decide +kernel
theorem dX9_pair_24 : decode cX9_pair 24 = .ok (.getfield 37, 3) := by decide +kernel
theorem dX9_pair_27 : decode cX9_pair 27 = .ok (.iload_n 1, 1) := by decide +kernel
theorem dX9_pair_28 : decode cX9_pair 28 = .ok (.iconst (-1), 1) := by decide +kernel
theorem dX9_pair_29 : decode cX9_pair 29 = .ok (.iastore, 1) := by decide +kernel
theorem dX9_pair_30 : decode cX9_pair 30 = .ok (.iload_n 2, 1) := by decide +kernel
theorem dX9_pair_31 : decode cX9_pair 31 = .ok (.invokestatic 173, 3) := by decide +kernel
theorem dX9_pair_34 : decode cX9_pair 34 = .ok (.ifCond .ne 5, 3) := by decide +kernel
theorem dX9_pair_37 : decode cX9_pair 37 = .ok (.iconst (-1), 1) := by decide +kernel
theorem dX9_pair_38 : decode cX9_pair 38 = .ok (.ireturn, 1) := by decide +kernel
theorem dX9_pair_39 : decode cX9_pair 39 = .ok (.iload_n 2, 1) := by decide +kernel
theorem dX9_pair_40 : decode cX9_pair 40 = .ok (.bipush 127, 2) := by decide +kernel
theorem dX9_pair_42 : decode cX9_pair 42 = .ok (.iand, 1) := by decide +kernel
theorem dX9_pair_43 : decode cX9_pair 43 = .ok (.istore 5, 2) := by decide +kernel
theorem dX9_pair_45 : decode cX9_pair 45 = .ok (.iload_n 3, 1) := by decide +kernel
theorem dX9_pair_46 : decode cX9_pair 46 = .ok (.bipush 127, 2) := by decide +kernel
theorem dX9_pair_48 : decode cX9_pair 48 = .ok (.iand, 1) := by decide +kernel
theorem dX9_pair_49 : decode cX9_pair 49 = .ok (.istore 6, 2) := by decide +kernel
theorem dX9_pair_51 : decode cX9_pair 51 = .ok (.iload_n 3, 1) := by decide +kernel
theorem dX9_pair_52 : decode cX9_pair 52 = .ok (.invokestatic 173, 3) := by decide +kernel
theorem dX9_pair_55 : decode cX9_pair 55 = .ok (.istore 7, 2) := by decide +kernel
theorem dX9_pair_57 : decode cX9_pair 57 = .ok (.iload 5, 2) := by decide +kernel
theorem dX9_pair_59 : decode cX9_pair 59 = .ok (.bipush 16, 2) := by decide +kernel
theorem dX9_pair_61 : decode cX9_pair 61 = .ok (.bipush 31, 2) := by decide +kernel
theorem dX9_pair_63 : decode cX9_pair 63 = .ok (.invokestatic 153, 3) := by decide +kernel
theorem dX9_pair_66 : decode cX9_pair 66 = .ok (.ifCond .eq 92, 3) := by decide +kernel
theorem dX9_pair_69 : decode cX9_pair 69 = .ok (.iload 7, 2) := by decide +kernel
theorem dX9_pair_71 : decode cX9_pair 71 = .ok (.ifCond .eq 10, 3) := by decide +kernel
theorem dX9_pair_74 : decode cX9_pair 74 = .ok (.iload 6, 2) := by decide +kernel
theorem dX9_pair_76 : decode cX9_pair 76 = .ok (.bipush 32, 2) := by decide +kernel
theorem dX9_pair_78 : decode cX9_pair 78 = .ok (.if_icmp .ge 5, 3) := by decide +kernel
theorem dX9_pair_81 : decode cX9_pair 81 = .ok (.iconst (-1), 1) := by decide +kernel
theorem dX9_pair_82 : decode cX9_pair 82 = .ok (.ireturn, 1) := by decide +kernel
theorem dX9_pair_83 : decode cX9_pair 83 = .ok (.iload 4, 2) := by decide +kernel
theorem dX9_pair_85 : decode cX9_pair 85 = .ok (.sipush 128, 3) := by decide +kernel
theorem dX9_pair_88 : decode cX9_pair 88 = .ok (.iload 5, 2) := by decide +kernel
theorem dX9_pair_90 : decode cX9_pair 90 = .ok (.imul, 1) := by decide +kernel
theorem dX9_pair_91 : decode cX9_pair 91 = .ok (.iload 6, 2) := by decide +kernel
theorem dX9_pair_93 : decode cX9_pair 93 = .ok (.iadd, 1) := by decide +kernel
theorem dX9_pair_94 : decode cX9_pair 94 = .ok (.if_icmp .ne 6, 3) := by decide +kernel
theorem dX9_pair_97 : decode cX9_pair 97 = .ok (.bipush 8, 2) := by decide +kernel
theorem dX9_pair_99 : decode cX9_pair 99 = .ok (.ireturn, 1) := by decide +kernel
theorem dX9_pair_100 : decode cX9_pair 100 = .ok (.aload_n 0, 1) := by decide +kernel
theorem dX9_pair_101 : decode cX9_pair 101 = .ok (.getfield 37, 3) := by decide +kernel
theorem dX9_pair_104 : decode cX9_pair 104 = .ok (.iload_n 1, 1) := by decide +kernel
theorem dX9_pair_105 : decode cX9_pair 105 = .ok (.sipush 128, 3) := by decide +kernel
theorem dX9_pair_108 : decode cX9_pair 108 = .ok (.iload 5, 2) := by decide +kernel
theorem dX9_pair_110 : decode cX9_pair 110 = .ok (.imul, 1) := by decide +kernel
theorem dX9_pair_111 : decode cX9_pair 111 = .ok (.iload 6, 2) := by decide +kernel
theorem dX9_pair_113 : decode cX9_pair 113 = .ok (.iadd, 1) := by decide +kernel
theorem dX9_pair_114 : decode cX9_pair 114 = .ok (.iastore, 1) := by decide +kernel
theorem dX9_pair_115 : decode cX9_pair 115 = .ok (.iconst 2, 1) := by decide +kernel
theorem dX9_pair_116 : decode cX9_pair 116 = .ok (.iload_n 1, 1) := by decide +kernel
theorem dX9_pair_117 : decode cX9_pair 117 = .ok (.imul, 1) := by decide +kernel
theorem dX9_pair_118 : decode cX9_pair 118 = .ok (.iload 5, 2) := by decide +kernel
theorem dX9_pair_120 : decode cX9_pair 120 = .ok (.bipush 8, 2) := by decide +kernel
theorem dX9_pair_122 : decode cX9_pair 122 = .ok (.iand, 1) := by decide +kernel
theorem dX9_pair_123 : decode cX9_pair 123 = .ok (.ifCond .le 7, 3) := by decide +kernel
theorem dX9_pair_126 : decode cX9_pair 126 = .ok (.iconst 1, 1) := by decide +kernel
theorem dX9_pair_127 : decode cX9_pair 127 = .ok (.goto 4, 3) := by decide +kernel
theorem dX9_pair_130 : decode cX9_pair 130 = .ok (.iconst 0, 1) := by decide +kernel
theorem dX9_pair_131 : decode cX9_pair 131 = .ok (.iadd, 1) := by decide +kernel
theorem dX9_pair_132 : decode cX9_pair 132 = .ok (.istore 8, 2) := by decide +kernel
theorem dX9_pair_134 : decode cX9_pair 134 = .ok (.aload_n 0, 1) := by decide +kernel
theorem dX9_pair_135 : decode cX9_pair 135 = .ok (.getfield 34, 3) := by decide +kernel
theorem dX9_pair_138 : decode cX9_pair 138 = .ok (.iload_n 1, 1) := by decide +kernel
theorem dX9_pair_139 : decode cX9_pair 139 = .ok (.iload 8, 2) := by decide +kernel
theorem dX9_pair_141 : decode cX9_pair 141 = .ok (.iastore, 1) := by decide +kernel
theorem dX9_pair_142 : decode cX9_pair 142 = .ok (.aload_n 0, 1) := by decide +kernel
theorem dX9_pair_143 : decode cX9_pair 143 = .ok (.iload 8, 2) := by decide +kernel
theorem dX9_pair_145 : decode cX9_pair 145 = .ok (.iload 5, 2) := by decide +kernel
theorem dX9_pair_147 : decode cX9_pair 147 = .ok (.bipush (-9), 2) := by decide +kernel
theorem dX9_pair_149 : decode cX9_pair 149 = .ok (.iand, 1) := by decide +kernel
theorem dX9_pair_150 : decode cX9_pair 150 = .ok (.iload 6, 2) := by decide +kernel
theorem dX9_pair_152 : decode cX9_pair 152 = .ok (.invokevirtual 177, 3) := by decide +kernel
theorem dX9_pair_155 : decode cX9_pair 155 = .ok (.iload 8, 2) := by decide +kernel
theorem dX9_pair_157 : decode cX9_pair 157 = .ok (.ireturn, 1) := by decide +kernel
theorem dX9_pair_158 : decode cX9_pair 158 = .ok (.aload_n 0, 1) := by decide +kernel
theorem dX9_pair_159 : decode cX9_pair 159 = .ok (.getfield 34, 3) := by decide +kernel
theorem dX9_pair_162 : decode cX9_pair 162 = .ok (.iload_n 1, 1) := by decide +kernel
theorem dX9_pair_163 : decode cX9_pair 163 = .ok (.iaload, 1) := by decide +kernel
theorem dX9_pair_164 : decode cX9_pair 164 = .ok (.istore 8, 2) := by decide +kernel
theorem dX9_pair_166 : decode cX9_pair 166 = .ok (.iload 5, 2) := by decide +kernel
theorem dX9_pair_168 : decode cX9_pair 168 = .ok (.bipush 32, 2) := by decide +kernel
theorem dX9_pair_170 : decode cX9_pair 170 = .ok (.if_icmp .lt 8, 3) := by decide +kernel
theorem dX9_pair_173 : decode cX9_pair 173 = .ok (.iload 5, 2) := by decide +kernel
theorem dX9_pair_175 : decode cX9_pair 175 = .ok (.goto 4, 3) := by decide +kernel
theorem dX9_pair_178 : decode cX9_pair 178 = .ok (.iconst (-1), 1) := by decide +kernel
theorem dX9_pair_179 : decode cX9_pair 179 = .ok (.istore 9, 2) := by decide +kernel
theorem dX9_pair_181 : decode cX9_pair 181 = .ok (.iload 5, 2) := by decide +kernel
theorem dX9_pair_183 : decode cX9_pair 183 = .ok (.bipush 32, 2) := by decide +kernel
theorem dX9_pair_185 : decode cX9_pair 185 = .ok (.if_icmp .lt 13, 3) := by decide +kernel
theorem dX9_pair_188 : decode cX9_pair 188 = .ok (.iload 7, 2) := by decide +kernel
theorem dX9_pair_190 : decode cX9_pair 190 = .ok (.ifCond .ne 8, 3) := by decide +kernel
theorem dX9_pair_193 : decode cX9_pair 193 = .ok (.bipush 127, 2) := by decide +kernel
theorem dX9_pair_195 : decode cX9_pair 195 = .ok (.goto 33, 3) := by decide +kernel
theorem dX9_pair_198 : decode cX9_pair 198 = .ok (.iload 7, 2) := by decide +kernel
theorem dX9_pair_200 : decode cX9_pair 200 = .ok (.ifCond .eq 27, 3) := by decide +kernel
theorem dX9_pair_203 : decode cX9_pair 203 = .ok (.iload 6, 2) := by decide +kernel
theorem dX9_pair_205 : decode cX9_pair 205 = .ok (.bipush 32, 2) := by decide +kernel
theorem dX9_pair_207 : decode cX9_pair 207 = .ok (.if_icmp .lt 20, 3) := by decide +kernel
theorem dX9_pair_210 : decode cX9_pair 210 = .ok (.iload 5, 2) := by decide +kernel
theorem dX9_pair_212 : decode cX9_pair 212 = .ok (.bipush 32, 2) := by decide +kernel
theorem dX9_pair_214 : decode cX9_pair 214 = .ok (.if_icmp .ge 8, 3) := by decide +kernel
theorem dX9_pair_217 : decode cX9_pair 217 = .ok (.iload 5, 2) := by decide +kernel
theorem dX9_pair_219 : decode cX9_pair 219 = .ok (.ifCond .ne 8, 3) := by decide +kernel
theorem dX9_pair_222 : decode cX9_pair 222 = .ok (.iload 6, 2) := by decide +kernel
theorem dX9_pair_224 : decode cX9_pair 224 = .ok (.goto 4, 3) := by decide +kernel
theorem dX9_pair_227 : decode cX9_pair 227 = .ok (.iconst (-1), 1) := by decide +kernel
theorem dX9_pair_228 : decode cX9_pair 228 = .ok (.istore 10, 2) := by decide +kernel
theorem dX9_pair_230 : decode cX9_pair 230 = .ok (.iload 8, 2) := by decide +kernel
theorem dX9_pair_232 : decode cX9_pair 232 = .ok (.iconst (-1), 1) := by decide +kernel
theorem dX9_pair_233 : decode cX9_pair 233 = .ok (.if_icmp .eq 15, 3) := by decide +kernel
theorem dX9_pair_236 : decode cX9_pair 236 = .ok (.iload 9, 2) := by decide +kernel
theorem dX9_pair_238 : decode cX9_pair 238 = .ok (.iconst (-1), 1) := by decide +kernel
theorem dX9_pair_239 : decode cX9_pair 239 = .ok (.if_icmp .ne 11, 3) := by decide +kernel
theorem dX9_pair_242 : decode cX9_pair 242 = .ok (.iload 10, 2) := by decide +kernel
theorem dX9_pair_244 : decode cX9_pair 244 = .ok (.iconst (-1), 1) := by decide +kernel
theorem dX9_pair_245 : decode cX9_pair 245 = .ok (.if_icmp .ne 5, 3) := by decide +kernel
theorem dX9_pair_248 : decode cX9_pair 248 = .ok (.iconst (-1), 1) := by decide +kernel
theorem dX9_pair_249 : decode cX9_pair 249 = .ok (.ireturn, 1) := by decide +kernel
theorem dX9_pair_250 : decode cX9_pair 250 = .ok (.iload 9, 2) := by decide +kernel
theorem dX9_pair_252 : decode cX9_pair 252 = .ok (.iconst (-1), 1) := by decide +kernel
theorem dX9_pair_253 : decode cX9_pair 253 = .ok (.if_icmp .eq 11, 3) := by decide +kernel
theorem dX9_pair_256 : decode cX9_pair 256 = .ok (.aload_n 0, 1) := by decide +kernel
theorem dX9_pair_257 : decode cX9_pair 257 = .ok (.iload 8, 2) := by decide +kernel
theorem dX9_pair_259 : decode cX9_pair 259 = .ok (.iload 9, 2) := by decide +kernel
theorem dX9_pair_261 : decode cX9_pair 261 = .ok (.invokevirtual 150, 3) := by decide +kernel
theorem dX9_pair_264 : decode cX9_pair 264 = .ok (.iload 10, 2) := by decide +kernel
theorem dX9_pair_266 : decode cX9_pair 266 = .ok (.iconst (-1), 1) := by decide +kernel
theorem dX9_pair_267 : decode cX9_pair 267 = .ok (.if_icmp .eq 11, 3) := by decide +kernel
theorem dX9_pair_270 : decode cX9_pair 270 = .ok (.aload_n 0, 1) := by decide +kernel
theorem dX9_pair_271 : decode cX9_pair 271 = .ok (.iload 8, 2) := by decide +kernel
theorem dX9_pair_273 : decode cX9_pair 273 = .ok (.iload 10, 2) := by decide +kernel
theorem dX9_pair_275 : decode cX9_pair 275 = .ok (.invokevirtual 150, 3) := by decide +kernel
theorem dX9_pair_278 : decode cX9_pair 278 = .ok (.bipush 9, 2) := by decide +kernel
theorem dX9_pair_280 : decode cX9_pair 280 = .ok (.ireturn, 1) := by decide +kernel
theorem nmX9_pair : mm_nm yX9_pair 3 := ⟨by decide, by decide, by decide +kernel⟩
theorem cdX9_pair : mm_cd cd_Y yX9_pair cX9_pair 11 (some .int) := ⟨tw_940, tw_8⟩
abbrev rmX9_pair : Room := { frames := 6, cells := 0, slots := 0, locals := 143 }
def fX9_pair_264  (a0 : Nat) (x1 : Int32) (x2 : Int32) (x3 : Int32) (x4 : Int32) (x5 : Int32) (x6 : Int32) (x7 : Int32) (x8 : Int32) (x9 : Int32) (x10 : Int32) (σ : mm_M) : Option (Int32 × mm_M) :=
  (if x10 = (-1) then some (9, σ) else mm_sh σ a0 (.inl 9) (mm_on (fX9_put a0 x8 x10 σ) fun q28 => some (9, q28)))
def fX9_pair_250  (a0 : Nat) (x1 : Int32) (x2 : Int32) (x3 : Int32) (x4 : Int32) (x5 : Int32) (x6 : Int32) (x7 : Int32) (x8 : Int32) (x9 : Int32) (x10 : Int32) (σ : mm_M) : Option (Int32 × mm_M) :=
  (if x9 = (-1) then (fX9_pair_264  a0 x1 x2 x3 x4 x5 x6 x7 x8 x9 x10 σ) else mm_sh σ a0 (.inl 9) (mm_on (fX9_put a0 x8 x9 σ) fun q30 => (fX9_pair_264  a0 x1 x2 x3 x4 x5 x6 x7 x8 x9 x10 q30)))
def fX9_pair_228  (a0 : Nat) (x1 : Int32) (x2 : Int32) (x3 : Int32) (x4 : Int32) (x5 : Int32) (x6 : Int32) (x7 : Int32) (x8 : Int32) (x9 : Int32) (y0 : Int32) (σ : mm_M) : Option (Int32 × mm_M) :=
  (if x8 = (-1) then some ((-1), σ) else (if x9 = (-1) then (if y0 = (-1) then some ((-1), σ) else (fX9_pair_250  a0 x1 x2 x3 x4 x5 x6 x7 x8 x9 y0 σ)) else (fX9_pair_250  a0 x1 x2 x3 x4 x5 x6 x7 x8 x9 y0 σ)))
def fX9_pair_227  (a0 : Nat) (x1 : Int32) (x2 : Int32) (x3 : Int32) (x4 : Int32) (x5 : Int32) (x6 : Int32) (x7 : Int32) (x8 : Int32) (x9 : Int32) (σ : mm_M) : Option (Int32 × mm_M) :=
  (fX9_pair_228  a0 x1 x2 x3 x4 x5 x6 x7 x8 x9 (-1) σ)
def fX9_pair_222  (a0 : Nat) (x1 : Int32) (x2 : Int32) (x3 : Int32) (x4 : Int32) (x5 : Int32) (x6 : Int32) (x7 : Int32) (x8 : Int32) (x9 : Int32) (σ : mm_M) : Option (Int32 × mm_M) :=
  (fX9_pair_228  a0 x1 x2 x3 x4 x5 x6 x7 x8 x9 x6 σ)
def fX9_pair_198  (a0 : Nat) (x1 : Int32) (x2 : Int32) (x3 : Int32) (x4 : Int32) (x5 : Int32) (x6 : Int32) (x7 : Int32) (x8 : Int32) (x9 : Int32) (σ : mm_M) : Option (Int32 × mm_M) :=
  (if x7 = 0 then (fX9_pair_227  a0 x1 x2 x3 x4 x5 x6 x7 x8 x9 σ) else (if x6 < 32 then (fX9_pair_227  a0 x1 x2 x3 x4 x5 x6 x7 x8 x9 σ) else (if 32 ≤ x5 then (fX9_pair_222  a0 x1 x2 x3 x4 x5 x6 x7 x8 x9 σ) else (if x5 = 0 then (fX9_pair_222  a0 x1 x2 x3 x4 x5 x6 x7 x8 x9 σ) else (fX9_pair_227  a0 x1 x2 x3 x4 x5 x6 x7 x8 x9 σ)))))
def fX9_pair_179  (a0 : Nat) (x1 : Int32) (x2 : Int32) (x3 : Int32) (x4 : Int32) (x5 : Int32) (x6 : Int32) (x7 : Int32) (x8 : Int32) (y0 : Int32) (σ : mm_M) : Option (Int32 × mm_M) :=
  (if x5 < 32 then (fX9_pair_198  a0 x1 x2 x3 x4 x5 x6 x7 x8 y0 σ) else (if x7 = 0 then (fX9_pair_228  a0 x1 x2 x3 x4 x5 x6 x7 x8 y0 127 σ) else (fX9_pair_198  a0 x1 x2 x3 x4 x5 x6 x7 x8 y0 σ)))
def fX9_pair_131  (a0 : Nat) (x1 : Int32) (x2 : Int32) (x3 : Int32) (x4 : Int32) (x5 : Int32) (x6 : Int32) (x7 : Int32) (y0 : Int32) (y1 : Int32) (σ : mm_M) : Option (Int32 × mm_M) :=
  mm_sh σ a0 (.inl 9) (mm_on (mm_R σ a0 9) fun q46 => mm_ar σ q46 0 fun n47 => mm_ib x1 n47 (mm_let (mm_wI σ q46 (x1.toNatClampNeg) (y1 + y0)) fun s49 => mm_on (fX9_code a0 (y1 + y0) (x5 &&& (-9)) x6 s49) fun q50 => some (y1 + y0, q50)))
def fX9_pair (p0 : Nat) (p1 : Int32) (p2 : Int32) (p3 : Int32) (σ : mm_M) : Option (Int32 × mm_M) :=
  mm_sh σ p0 (.inl 9) (mm_on (fX9_goes p0 (fX9_in p1 0 1) σ) fun q2 => (if q2.1 = 0 then some (0, q2.2) else mm_sh q2.2 p0 (.inl 9) (mm_on (mm_R q2.2 p0 10) fun q5 => mm_ar q2.2 q5 0 fun n6 => mm_ib p1 n6 (mm_on (mm_R q2.2 p0 10) fun q8 => mm_ar q2.2 q8 0 fun n9 => mm_ib p1 n9 (mm_let (mm_wI q2.2 q8 (p1.toNatClampNeg) (-1)) fun s11 => mm_on (fX9_isOdd p2 s11) fun q12 => (if q12.1 = 0 then some ((-1), q12.2) else mm_on (fX9_isOdd p3 q12.2) fun q14 => (if (fX9_in (p2 &&& 127) 16 31) = 0 then mm_sh q14.2 p0 (.inl 9) (mm_on (mm_R q14.2 p0 9) fun q17 => mm_ar q14.2 q17 0 fun n18 => mm_ib p1 n18 ((if (p2 &&& 127) < 32 then (fX9_pair_179  p0 p1 p2 p3 (mm_I q2.2 q5 p1.toNatClampNeg) (p2 &&& 127) (p3 &&& 127) q14.1 (mm_I q14.2 q17 p1.toNatClampNeg) (-1) q14.2) else (fX9_pair_179  p0 p1 p2 p3 (mm_I q2.2 q5 p1.toNatClampNeg) (p2 &&& 127) (p3 &&& 127) q14.1 (mm_I q14.2 q17 p1.toNatClampNeg) (p2 &&& 127) q14.2)))) else (if q14.1 = 0 then some ((-1), q14.2) else (if 32 ≤ (p3 &&& 127) then (if (mm_I q2.2 q5 p1.toNatClampNeg) = ((128 * (p2 &&& 127)) + (p3 &&& 127)) then some (8, q14.2) else mm_sh q14.2 p0 (.inl 9) (mm_on (mm_R q14.2 p0 10) fun q40 => mm_ar q14.2 q40 0 fun n41 => mm_ib p1 n41 (mm_let (mm_wI q14.2 q40 (p1.toNatClampNeg) ((128 * (p2 &&& 127)) + (p3 &&& 127))) fun s43 => (if ((p2 &&& 127) &&& 8) ≤ 0 then (fX9_pair_131  p0 p1 p2 p3 (mm_I q2.2 q5 p1.toNatClampNeg) (p2 &&& 127) (p3 &&& 127) q14.1 0 (2 * p1) s43) else (fX9_pair_131  p0 p1 p2 p3 (mm_I q2.2 q5 p1.toNatClampNeg) (p2 &&& 127) (p3 &&& 127) q14.1 1 (2 * p1) s43))))) else some ((-1), q14.2))))))))))
set_option maxHeartbeats 4000000 in
set_option maxRecDepth 100000 in
theorem kX9_pair_264 {G : mm_G} {A : Nat → Prop} {ini : Bool × Option (List (Nat × Nat × Nat × Nat))}  {R : (Int32 × mm_M)}  (a0 : Nat) (x1 : Int32) (x2 : Int32) (x3 : Int32) (x4 : Int32) (x5 : Int32) (x6 : Int32) (x7 : Int32) (x8 : Int32) (x9 : Int32) (x10 : Int32) (σ : mm_M) (hf : fX9_pair_264  a0 x1 x2 x3 x4 x5 x6 x7 x8 x9 x10 σ = some R) : mm_J cd_Y G RX9 cX9_pair 11 (some .int) ini rmX9_pair A (mm_QF cd_Y G A (mm_Pi R.1 R.2) rmX9_pair.cells rmX9_pair.slots) 264 [(0, .ref a0), (1, .int x1), (2, .int x2), (3, .int x3), (4, .int x4), (5, .int x5), (6, .int x6), (7, .int x7), (8, .int x8), (9, .int x9), (10, .int x10)] [] σ 0 0 := by
  unfold fX9_pair_264 at hf
  refine mm_iload (j := 10) dX9_pair_264 rfl ?_
  refine mm_iconst (v := (-1)) dX9_pair_266 (by decide) ?_
  refine mm_icmp_eq (tgt := 278) dX9_pair_267 (by decide) (fun c26 => ?_) (fun c26 => ?_)
  · rw [if_pos c26] at hf
    refine mm_bipush (v := 9) dX9_pair_278 (by decide) ?_
    cases hf
    refine mm_widen (ck' := rmX9_pair.cells) (sk' := rmX9_pair.slots) (Nat.le_of_ble_eq_true rfl) (Nat.le_of_ble_eq_true rfl) ?_
    exact mm_iret rfl rfl dX9_pair_280 ⟨rfl, rfl⟩
  · rw [if_neg c26] at hf
    refine mm_aload_n (j := 0) dX9_pair_270 rfl rfl ?_
    refine mm_iload (j := 8) dX9_pair_271 rfl ?_
    refine mm_iload (j := 10) dX9_pair_273 rfl ?_
    obtain ⟨hs27, hf⟩ := mm_sh_s hf
    obtain ⟨q28, hq28, hf⟩ := mm_on_s hf
    refine mm_callVv cd_ok (kX9_put a0 x8 x10 hq28) hs27 rfl (Or.inl tw_982) cdX9_put tw_984 ts_39 nmX9_put rfl rfl (by simp only [List.map_cons, List.map_nil, mm_rf_cat]; exact Nat.le_of_ble_eq_true rfl) dX9_pair_275 ⟨Nat.le_of_ble_eq_true rfl, Nat.le_of_ble_eq_true rfl⟩ ⟨Nat.le_of_ble_eq_true rfl, Nat.le_of_ble_eq_true rfl⟩ ?_
    refine mm_bipush (v := 9) dX9_pair_278 (by decide) ?_
    cases hf
    refine mm_widen (ck' := rmX9_pair.cells) (sk' := rmX9_pair.slots) (Nat.le_of_ble_eq_true rfl) (Nat.le_of_ble_eq_true rfl) ?_
    exact mm_iret rfl rfl dX9_pair_280 ⟨rfl, rfl⟩
set_option maxHeartbeats 4000000 in
set_option maxRecDepth 100000 in
theorem kX9_pair_250 {G : mm_G} {A : Nat → Prop} {ini : Bool × Option (List (Nat × Nat × Nat × Nat))}  {R : (Int32 × mm_M)}  (a0 : Nat) (x1 : Int32) (x2 : Int32) (x3 : Int32) (x4 : Int32) (x5 : Int32) (x6 : Int32) (x7 : Int32) (x8 : Int32) (x9 : Int32) (x10 : Int32) (σ : mm_M) (hf : fX9_pair_250  a0 x1 x2 x3 x4 x5 x6 x7 x8 x9 x10 σ = some R) : mm_J cd_Y G RX9 cX9_pair 11 (some .int) ini rmX9_pair A (mm_QF cd_Y G A (mm_Pi R.1 R.2) rmX9_pair.cells rmX9_pair.slots) 250 [(0, .ref a0), (1, .int x1), (2, .int x2), (3, .int x3), (4, .int x4), (5, .int x5), (6, .int x6), (7, .int x7), (8, .int x8), (9, .int x9), (10, .int x10)] [] σ 0 0 := by
  unfold fX9_pair_250 at hf
  refine mm_iload (j := 9) dX9_pair_250 rfl ?_
  refine mm_iconst (v := (-1)) dX9_pair_252 (by decide) ?_
  refine mm_icmp_eq (tgt := 264) dX9_pair_253 (by decide) (fun c25 => ?_) (fun c25 => ?_)
  · rw [if_pos c25] at hf
    refine mm_sub [0, 1, 2, 3, 4, 5, 6, 7, 8, 9, 10] rfl ?_
    exact kX9_pair_264  a0 x1 x2 x3 x4 x5 x6 x7 x8 x9 x10 σ hf
  · rw [if_neg c25] at hf
    refine mm_aload_n (j := 0) dX9_pair_256 rfl rfl ?_
    refine mm_iload (j := 8) dX9_pair_257 rfl ?_
    refine mm_iload (j := 9) dX9_pair_259 rfl ?_
    obtain ⟨hs29, hf⟩ := mm_sh_s hf
    obtain ⟨q30, hq30, hf⟩ := mm_on_s hf
    refine mm_callVv cd_ok (kX9_put a0 x8 x9 hq30) hs29 rfl (Or.inl tw_982) cdX9_put tw_984 ts_39 nmX9_put rfl rfl (by simp only [List.map_cons, List.map_nil, mm_rf_cat]; exact Nat.le_of_ble_eq_true rfl) dX9_pair_261 ⟨Nat.le_of_ble_eq_true rfl, Nat.le_of_ble_eq_true rfl⟩ ⟨Nat.le_of_ble_eq_true rfl, Nat.le_of_ble_eq_true rfl⟩ ?_
    refine mm_sub [0, 1, 2, 3, 4, 5, 6, 7, 8, 9, 10] rfl ?_
    exact kX9_pair_264  a0 x1 x2 x3 x4 x5 x6 x7 x8 x9 x10 q30 hf
set_option maxHeartbeats 4000000 in
set_option maxRecDepth 100000 in
theorem kX9_pair_228 {G : mm_G} {A : Nat → Prop} {ini : Bool × Option (List (Nat × Nat × Nat × Nat))}  {R : (Int32 × mm_M)}  (a0 : Nat) (x1 : Int32) (x2 : Int32) (x3 : Int32) (x4 : Int32) (x5 : Int32) (x6 : Int32) (x7 : Int32) (x8 : Int32) (x9 : Int32) (y0 : Int32) (σ : mm_M) (hf : fX9_pair_228  a0 x1 x2 x3 x4 x5 x6 x7 x8 x9 y0 σ = some R) : mm_J cd_Y G RX9 cX9_pair 11 (some .int) ini rmX9_pair A (mm_QF cd_Y G A (mm_Pi R.1 R.2) rmX9_pair.cells rmX9_pair.slots) 228 [(0, .ref a0), (1, .int x1), (2, .int x2), (3, .int x3), (4, .int x4), (5, .int x5), (6, .int x6), (7, .int x7), (8, .int x8), (9, .int x9)] [.int y0] σ 0 0 := by
  unfold fX9_pair_228 at hf
  refine mm_istore (L' := [(10, .int y0), (0, .ref a0), (1, .int x1), (2, .int x2), (3, .int x3), (4, .int x4), (5, .int x5), (6, .int x6), (7, .int x7), (8, .int x8), (9, .int x9)]) dX9_pair_228 (by decide) rfl ?_
  refine mm_iload (j := 9) dX9_pair_230 rfl ?_
  refine mm_iconst (v := (-1)) dX9_pair_232 (by decide) ?_
  refine mm_icmp_eq (tgt := 248) dX9_pair_233 (by decide) (fun c23 => ?_) (fun c23 => ?_)
  · rw [if_pos c23] at hf
    refine mm_iconst (v := (-1)) dX9_pair_248 (by decide) ?_
    cases hf
    refine mm_widen (ck' := rmX9_pair.cells) (sk' := rmX9_pair.slots) (Nat.le_of_ble_eq_true rfl) (Nat.le_of_ble_eq_true rfl) ?_
    exact mm_iret rfl rfl dX9_pair_249 ⟨rfl, rfl⟩
  · rw [if_neg c23] at hf
    refine mm_iload (j := 10) dX9_pair_236 rfl ?_
    refine mm_iconst (v := (-1)) dX9_pair_238 (by decide) ?_
    refine mm_icmp_ne (tgt := 250) dX9_pair_239 (by decide) (fun c24 => ?_) (fun c24 => ?_)
    · rw [if_neg c24] at hf
      refine mm_sub [1, 2, 3, 4, 5, 6, 7, 8, 9, 10, 0] rfl ?_
      exact kX9_pair_250  a0 x1 x2 x3 x4 x5 x6 x7 x8 x9 y0 σ hf
    · rw [if_pos c24] at hf
      refine mm_iload (j := 0) dX9_pair_242 rfl ?_
      refine mm_iconst (v := (-1)) dX9_pair_244 (by decide) ?_
      refine mm_icmp_ne (tgt := 250) dX9_pair_245 (by decide) (fun c31 => ?_) (fun c31 => ?_)
      · rw [if_neg c31] at hf
        refine mm_sub [1, 2, 3, 4, 5, 6, 7, 8, 9, 10, 0] rfl ?_
        exact kX9_pair_250  a0 x1 x2 x3 x4 x5 x6 x7 x8 x9 y0 σ hf
      · rw [if_pos c31] at hf
        refine mm_iconst (v := (-1)) dX9_pair_248 (by decide) ?_
        cases hf
        refine mm_widen (ck' := rmX9_pair.cells) (sk' := rmX9_pair.slots) (Nat.le_of_ble_eq_true rfl) (Nat.le_of_ble_eq_true rfl) ?_
        exact mm_iret rfl rfl dX9_pair_249 ⟨rfl, rfl⟩
set_option maxHeartbeats 4000000 in
set_option maxRecDepth 100000 in
theorem kX9_pair_227 {G : mm_G} {A : Nat → Prop} {ini : Bool × Option (List (Nat × Nat × Nat × Nat))}  {R : (Int32 × mm_M)}  (a0 : Nat) (x1 : Int32) (x2 : Int32) (x3 : Int32) (x4 : Int32) (x5 : Int32) (x6 : Int32) (x7 : Int32) (x8 : Int32) (x9 : Int32) (σ : mm_M) (hf : fX9_pair_227  a0 x1 x2 x3 x4 x5 x6 x7 x8 x9 σ = some R) : mm_J cd_Y G RX9 cX9_pair 11 (some .int) ini rmX9_pair A (mm_QF cd_Y G A (mm_Pi R.1 R.2) rmX9_pair.cells rmX9_pair.slots) 227 [(0, .ref a0), (1, .int x1), (2, .int x2), (3, .int x3), (4, .int x4), (5, .int x5), (6, .int x6), (7, .int x7), (8, .int x8), (9, .int x9)] [] σ 0 0 := by
  unfold fX9_pair_227 at hf
  refine mm_iconst (v := (-1)) dX9_pair_227 (by decide) ?_
  refine mm_sub [0, 1, 2, 3, 4, 5, 6, 7, 8, 9] rfl ?_
  exact kX9_pair_228  a0 x1 x2 x3 x4 x5 x6 x7 x8 x9 (-1) σ hf
set_option maxHeartbeats 4000000 in
set_option maxRecDepth 100000 in
theorem kX9_pair_222 {G : mm_G} {A : Nat → Prop} {ini : Bool × Option (List (Nat × Nat × Nat × Nat))}  {R : (Int32 × mm_M)}  (a0 : Nat) (x1 : Int32) (x2 : Int32) (x3 : Int32) (x4 : Int32) (x5 : Int32) (x6 : Int32) (x7 : Int32) (x8 : Int32) (x9 : Int32) (σ : mm_M) (hf : fX9_pair_222  a0 x1 x2 x3 x4 x5 x6 x7 x8 x9 σ = some R) : mm_J cd_Y G RX9 cX9_pair 11 (some .int) ini rmX9_pair A (mm_QF cd_Y G A (mm_Pi R.1 R.2) rmX9_pair.cells rmX9_pair.slots) 222 [(0, .ref a0), (1, .int x1), (2, .int x2), (3, .int x3), (4, .int x4), (5, .int x5), (6, .int x6), (7, .int x7), (8, .int x8), (9, .int x9)] [] σ 0 0 := by
  unfold fX9_pair_222 at hf
  refine mm_iload (j := 6) dX9_pair_222 rfl ?_
  refine mm_goto (tgt := 228) dX9_pair_224 (by decide) ?_
  refine mm_sub [0, 1, 2, 3, 4, 5, 6, 7, 8, 9] rfl ?_
  exact kX9_pair_228  a0 x1 x2 x3 x4 x5 x6 x7 x8 x9 x6 σ hf
set_option maxHeartbeats 4000000 in
set_option maxRecDepth 100000 in
theorem kX9_pair_198 {G : mm_G} {A : Nat → Prop} {ini : Bool × Option (List (Nat × Nat × Nat × Nat))}  {R : (Int32 × mm_M)}  (a0 : Nat) (x1 : Int32) (x2 : Int32) (x3 : Int32) (x4 : Int32) (x5 : Int32) (x6 : Int32) (x7 : Int32) (x8 : Int32) (x9 : Int32) (σ : mm_M) (hf : fX9_pair_198  a0 x1 x2 x3 x4 x5 x6 x7 x8 x9 σ = some R) : mm_J cd_Y G RX9 cX9_pair 11 (some .int) ini rmX9_pair A (mm_QF cd_Y G A (mm_Pi R.1 R.2) rmX9_pair.cells rmX9_pair.slots) 198 [(0, .ref a0), (1, .int x1), (2, .int x2), (3, .int x3), (4, .int x4), (5, .int x5), (6, .int x6), (7, .int x7), (8, .int x8), (9, .int x9)] [] σ 0 0 := by
  unfold fX9_pair_198 at hf
  refine mm_iload (j := 7) dX9_pair_198 rfl ?_
  refine mm_if_eq (tgt := 227) dX9_pair_200 (by decide) (fun c22 => ?_) (fun c22 => ?_)
  · rw [if_pos c22] at hf
    refine mm_sub [0, 1, 2, 3, 4, 5, 6, 7, 8, 9] rfl ?_
    exact kX9_pair_227  a0 x1 x2 x3 x4 x5 x6 x7 x8 x9 σ hf
  · rw [if_neg c22] at hf
    refine mm_iload (j := 6) dX9_pair_203 rfl ?_
    refine mm_bipush (v := 32) dX9_pair_205 (by decide) ?_
    refine mm_icmp_lt (tgt := 227) dX9_pair_207 (by decide) (fun c32 => ?_) (fun c32 => ?_)
    · rw [if_pos c32] at hf
      refine mm_sub [0, 1, 2, 3, 4, 5, 6, 7, 8, 9] rfl ?_
      exact kX9_pair_227  a0 x1 x2 x3 x4 x5 x6 x7 x8 x9 σ hf
    · rw [if_neg c32] at hf
      refine mm_iload (j := 5) dX9_pair_210 rfl ?_
      refine mm_bipush (v := 32) dX9_pair_212 (by decide) ?_
      refine mm_icmp_ge (tgt := 222) dX9_pair_214 (by decide) (fun c33 => ?_) (fun c33 => ?_)
      · rw [if_pos c33] at hf
        refine mm_sub [0, 1, 2, 3, 4, 5, 6, 7, 8, 9] rfl ?_
        exact kX9_pair_222  a0 x1 x2 x3 x4 x5 x6 x7 x8 x9 σ hf
      · rw [if_neg c33] at hf
        refine mm_iload (j := 5) dX9_pair_217 rfl ?_
        refine mm_if_ne (tgt := 227) dX9_pair_219 (by decide) (fun c34 => ?_) (fun c34 => ?_)
        · rw [if_neg c34] at hf
          refine mm_sub [0, 1, 2, 3, 4, 5, 6, 7, 8, 9] rfl ?_
          exact kX9_pair_227  a0 x1 x2 x3 x4 x5 x6 x7 x8 x9 σ hf
        · rw [if_pos c34] at hf
          refine mm_sub [0, 1, 2, 3, 4, 5, 6, 7, 8, 9] rfl ?_
          exact kX9_pair_222  a0 x1 x2 x3 x4 x5 x6 x7 x8 x9 σ hf
set_option maxHeartbeats 4000000 in
set_option maxRecDepth 100000 in
theorem kX9_pair_179 {G : mm_G} {A : Nat → Prop} {ini : Bool × Option (List (Nat × Nat × Nat × Nat))}  {R : (Int32 × mm_M)}  (a0 : Nat) (x1 : Int32) (x2 : Int32) (x3 : Int32) (x4 : Int32) (x5 : Int32) (x6 : Int32) (x7 : Int32) (x8 : Int32) (y0 : Int32) (σ : mm_M) (hf : fX9_pair_179  a0 x1 x2 x3 x4 x5 x6 x7 x8 y0 σ = some R) : mm_J cd_Y G RX9 cX9_pair 11 (some .int) ini rmX9_pair A (mm_QF cd_Y G A (mm_Pi R.1 R.2) rmX9_pair.cells rmX9_pair.slots) 179 [(0, .ref a0), (1, .int x1), (2, .int x2), (3, .int x3), (4, .int x4), (5, .int x5), (6, .int x6), (7, .int x7), (8, .int x8)] [.int y0] σ 0 0 := by
  unfold fX9_pair_179 at hf
  refine mm_istore (L' := [(9, .int y0), (0, .ref a0), (1, .int x1), (2, .int x2), (3, .int x3), (4, .int x4), (5, .int x5), (6, .int x6), (7, .int x7), (8, .int x8)]) dX9_pair_179 (by decide) rfl ?_
  refine mm_iload (j := 6) dX9_pair_181 rfl ?_
  refine mm_bipush (v := 32) dX9_pair_183 (by decide) ?_
  refine mm_icmp_lt (tgt := 198) dX9_pair_185 (by decide) (fun c21 => ?_) (fun c21 => ?_)
  · rw [if_pos c21] at hf
    refine mm_sub [1, 2, 3, 4, 5, 6, 7, 8, 9, 0] rfl ?_
    exact kX9_pair_198  a0 x1 x2 x3 x4 x5 x6 x7 x8 y0 σ hf
  · rw [if_neg c21] at hf
    refine mm_iload (j := 8) dX9_pair_188 rfl ?_
    refine mm_if_ne (tgt := 198) dX9_pair_190 (by decide) (fun c35 => ?_) (fun c35 => ?_)
    · rw [if_neg c35] at hf
      refine mm_sub [1, 2, 3, 4, 5, 6, 7, 8, 9, 0] rfl ?_
      exact kX9_pair_198  a0 x1 x2 x3 x4 x5 x6 x7 x8 y0 σ hf
    · rw [if_pos c35] at hf
      refine mm_bipush (v := 127) dX9_pair_193 (by decide) ?_
      refine mm_goto (tgt := 228) dX9_pair_195 (by decide) ?_
      refine mm_sub [1, 2, 3, 4, 5, 6, 7, 8, 9, 0] rfl ?_
      exact kX9_pair_228  a0 x1 x2 x3 x4 x5 x6 x7 x8 y0 127 σ hf
set_option maxHeartbeats 4000000 in
set_option maxRecDepth 100000 in
theorem kX9_pair_131 {G : mm_G} {A : Nat → Prop} {ini : Bool × Option (List (Nat × Nat × Nat × Nat))}  {R : (Int32 × mm_M)}  (a0 : Nat) (x1 : Int32) (x2 : Int32) (x3 : Int32) (x4 : Int32) (x5 : Int32) (x6 : Int32) (x7 : Int32) (y0 : Int32) (y1 : Int32) (σ : mm_M) (hf : fX9_pair_131  a0 x1 x2 x3 x4 x5 x6 x7 y0 y1 σ = some R) : mm_J cd_Y G RX9 cX9_pair 11 (some .int) ini rmX9_pair A (mm_QF cd_Y G A (mm_Pi R.1 R.2) rmX9_pair.cells rmX9_pair.slots) 131 [(0, .ref a0), (1, .int x1), (2, .int x2), (3, .int x3), (4, .int x4), (5, .int x5), (6, .int x6), (7, .int x7)] [.int y0, .int y1] σ 0 0 := by
  unfold fX9_pair_131 at hf
  refine mm_iadd dX9_pair_131 ?_
  refine mm_istore (L' := [(8, .int (y1 + y0)), (0, .ref a0), (1, .int x1), (2, .int x2), (3, .int x3), (4, .int x4), (5, .int x5), (6, .int x6), (7, .int x7)]) dX9_pair_132 (by decide) rfl ?_
  refine mm_aload_n (j := 1) dX9_pair_134 rfl rfl ?_
  obtain ⟨hs45, hf⟩ := mm_sh_s hf
  refine mm_get (c := 9) (k := 9) (v := va_rf (mm_R σ a0 9)) cd_ok ⟨_, _, _, rfl, by decide, Or.inl tw_803⟩ hs45 rfl dX9_pair_135 ?_
  refine mm_iload_n (j := 2) dX9_pair_138 rfl rfl ?_
  refine mm_iload (j := 0) dX9_pair_139 rfl ?_
  obtain ⟨q46, hq46, hf⟩ := mm_on_s hf
  rw [hq46, mm_rf_some]
  obtain ⟨n47, hn47, hf⟩ := mm_ar_s hf
  obtain ⟨hi48, hf⟩ := mm_ib_s hf
  refine mm_iast hn47 rfl hi48 dX9_pair_141 ?_
  obtain ⟨s49, hs49, hf⟩ := mm_let_s hf
  rw [hs49]
  refine mm_aload_n (j := 1) dX9_pair_142 rfl rfl ?_
  refine mm_iload (j := 0) dX9_pair_143 rfl ?_
  refine mm_iload (j := 6) dX9_pair_145 rfl ?_
  refine mm_bipush (v := (-9)) dX9_pair_147 (by decide) ?_
  refine mm_iand dX9_pair_149 ?_
  refine mm_iload (j := 7) dX9_pair_150 rfl ?_
  obtain ⟨q50, hq50, hf⟩ := mm_on_s hf
  refine mm_callVv cd_ok (kX9_code a0 (y1 + y0) (x5 &&& (-9)) x6 hq50) (mm_ke hs49 hs45) rfl (Or.inl tw_951) cdX9_code tw_953 ts_32 nmX9_code rfl rfl (by simp only [List.map_cons, List.map_nil, mm_rf_cat]; exact Nat.le_of_ble_eq_true rfl) dX9_pair_152 ⟨Nat.le_of_ble_eq_true rfl, Nat.le_of_ble_eq_true rfl⟩ ⟨Nat.le_of_ble_eq_true rfl, Nat.le_of_ble_eq_true rfl⟩ ?_
  refine mm_iload (j := 0) dX9_pair_155 rfl ?_
  cases hf
  refine mm_widen (ck' := rmX9_pair.cells) (sk' := rmX9_pair.slots) (Nat.le_of_ble_eq_true rfl) (Nat.le_of_ble_eq_true rfl) ?_
  exact mm_iret rfl rfl dX9_pair_157 ⟨rfl, rfl⟩
set_option maxHeartbeats 4000000 in
set_option maxRecDepth 100000 in
theorem kX9_pair {G : mm_G} {A : Nat → Prop} (p0 : Nat) (p1 : Int32) (p2 : Int32) (p3 : Int32) {σ : mm_M} {R : (Int32 × mm_M)} (hf : fX9_pair p0 p1 p2 p3 σ = some R) : mm_C cd_Y G yX9_pair cX9_pair 11 (some .int) rmX9_pair A [.ref p0, .int p1, .int p2, .int p3] σ (mm_Pi R.1 R.2) := by
  refine mm_C.of (by decide) (Nat.le_of_ble_eq_true rfl) ?_
  unfold fX9_pair at hf
  have e0 : lv_args 0 [.ref p0, .int p1, .int p2, .int p3] = [(0, .ref p0), (1, .int p1), (2, .int p2), (3, .int p3)] := rfl
  rw [e0]
  generalize hini : ((yX9_pair.name == "<init>"), none) = ini
  clear e0
  clear hini
  refine mm_aload_n (j := 0) dX9_pair_0 rfl rfl ?_
  refine mm_iload_n (j := 1) dX9_pair_1 rfl rfl ?_
  refine mm_iconst (v := 0) dX9_pair_2 (by decide) ?_
  refine mm_iconst (v := 1) dX9_pair_3 (by decide) ?_
  refine mm_callSi cd_ok (kX9_in p1 0 1 _ rfl) (Or.inl tw_941) cdX9_in tw_942 nmX9_in rfl rfl (by simp only [List.map_cons, List.map_nil, mm_rf_cat]; exact Nat.le_of_ble_eq_true rfl) dX9_pair_4 ⟨Nat.le_of_ble_eq_true rfl, Nat.le_of_ble_eq_true rfl⟩ ⟨Nat.le_of_ble_eq_true rfl, Nat.le_of_ble_eq_true rfl⟩ ?_
  obtain ⟨hs1, hf⟩ := mm_sh_s hf
  obtain ⟨q2, hq2, hf⟩ := mm_on_s hf
  refine mm_callVi cd_ok (kX9_goes p0 (fX9_in p1 0 1) hq2) hs1 rfl (Or.inl tw_944) cdX9_goes tw_946 ts_31 nmX9_goes rfl rfl (by simp only [List.map_cons, List.map_nil, mm_rf_cat]; exact Nat.le_of_ble_eq_true rfl) dX9_pair_7 ⟨Nat.le_of_ble_eq_true rfl, Nat.le_of_ble_eq_true rfl⟩ ⟨Nat.le_of_ble_eq_true rfl, Nat.le_of_ble_eq_true rfl⟩ ?_
  refine mm_if_ne (tgt := 15) dX9_pair_10 (by decide) (fun c3 => ?_) (fun c3 => ?_)
  · rw [if_neg c3] at hf
    refine mm_aload_n (j := 0) dX9_pair_15 rfl rfl ?_
    obtain ⟨hs4, hf⟩ := mm_sh_s hf
    refine mm_get (c := 9) (k := 10) (v := va_rf (mm_R q2.2 p0 10)) cd_ok ⟨_, _, _, rfl, by decide, Or.inl tw_804⟩ hs4 rfl dX9_pair_16 ?_
    refine mm_iload_n (j := 1) dX9_pair_19 rfl rfl ?_
    obtain ⟨q5, hq5, hf⟩ := mm_on_s hf
    rw [hq5, mm_rf_some]
    obtain ⟨n6, hn6, hf⟩ := mm_ar_s hf
    obtain ⟨hi7, hf⟩ := mm_ib_s hf
    refine mm_iald hn6 rfl hi7 dX9_pair_20 ?_
    refine mm_istore (L' := [(4, .int (mm_I q2.2 q5 p1.toNatClampNeg)), (0, .ref p0), (1, .int p1), (2, .int p2), (3, .int p3)]) dX9_pair_21 (by decide) rfl ?_
    refine mm_aload_n (j := 1) dX9_pair_23 rfl rfl ?_
    refine mm_get (c := 9) (k := 10) (v := va_rf (mm_R q2.2 p0 10)) cd_ok ⟨_, _, _, rfl, by decide, Or.inl tw_804⟩ hs4 rfl dX9_pair_24 ?_
    refine mm_iload_n (j := 2) dX9_pair_27 rfl rfl ?_
    refine mm_iconst (v := (-1)) dX9_pair_28 (by decide) ?_
    obtain ⟨q8, hq8, hf⟩ := mm_on_s hf
    rw [hq8, mm_rf_some]
    obtain ⟨n9, hn9, hf⟩ := mm_ar_s hf
    obtain ⟨hi10, hf⟩ := mm_ib_s hf
    refine mm_iast hn9 rfl hi10 dX9_pair_29 ?_
    obtain ⟨s11, hs11, hf⟩ := mm_let_s hf
    rw [hs11]
    refine mm_iload_n (j := 3) dX9_pair_30 rfl rfl ?_
    obtain ⟨q12, hq12, hf⟩ := mm_on_s hf
    refine mm_callSi cd_ok (kX9_isOdd p2 hq12) (Or.inl tw_948) cdX9_isOdd tw_949 nmX9_isOdd rfl rfl (by simp only [List.map_cons, List.map_nil, mm_rf_cat]; exact Nat.le_of_ble_eq_true rfl) dX9_pair_31 ⟨Nat.le_of_ble_eq_true rfl, Nat.le_of_ble_eq_true rfl⟩ ⟨Nat.le_of_ble_eq_true rfl, Nat.le_of_ble_eq_true rfl⟩ ?_
    refine mm_if_ne (tgt := 39) dX9_pair_34 (by decide) (fun c13 => ?_) (fun c13 => ?_)
    · rw [if_neg c13] at hf
      refine mm_iload_n (j := 3) dX9_pair_39 rfl rfl ?_
      refine mm_bipush (v := 127) dX9_pair_40 (by decide) ?_
      refine mm_iand dX9_pair_42 ?_
      refine mm_istore (L' := [(5, .int (p2 &&& 127)), (4, .int (mm_I q2.2 q5 p1.toNatClampNeg)), (0, .ref p0), (1, .int p1), (2, .int p2), (3, .int p3)]) dX9_pair_43 (by decide) rfl ?_
      refine mm_iload_n (j := 5) dX9_pair_45 rfl rfl ?_
      refine mm_bipush (v := 127) dX9_pair_46 (by decide) ?_
      refine mm_iand dX9_pair_48 ?_
      refine mm_istore (L' := [(6, .int (p3 &&& 127)), (5, .int (p2 &&& 127)), (4, .int (mm_I q2.2 q5 p1.toNatClampNeg)), (0, .ref p0), (1, .int p1), (2, .int p2), (3, .int p3)]) dX9_pair_49 (by decide) rfl ?_
      refine mm_iload_n (j := 6) dX9_pair_51 rfl rfl ?_
      obtain ⟨q14, hq14, hf⟩ := mm_on_s hf
      refine mm_callSi cd_ok (kX9_isOdd p3 hq14) (Or.inl tw_948) cdX9_isOdd tw_949 nmX9_isOdd rfl rfl (by simp only [List.map_cons, List.map_nil, mm_rf_cat]; exact Nat.le_of_ble_eq_true rfl) dX9_pair_52 ⟨Nat.le_of_ble_eq_true rfl, Nat.le_of_ble_eq_true rfl⟩ ⟨Nat.le_of_ble_eq_true rfl, Nat.le_of_ble_eq_true rfl⟩ ?_
      refine mm_istore (L' := [(7, .int q14.1), (6, .int (p3 &&& 127)), (5, .int (p2 &&& 127)), (4, .int (mm_I q2.2 q5 p1.toNatClampNeg)), (0, .ref p0), (1, .int p1), (2, .int p2), (3, .int p3)]) dX9_pair_55 (by decide) rfl ?_
      refine mm_iload (j := 2) dX9_pair_57 rfl ?_
      refine mm_bipush (v := 16) dX9_pair_59 (by decide) ?_
      refine mm_bipush (v := 31) dX9_pair_61 (by decide) ?_
      refine mm_callSi cd_ok (kX9_in (p2 &&& 127) 16 31 _ rfl) (Or.inl tw_941) cdX9_in tw_942 nmX9_in rfl rfl (by simp only [List.map_cons, List.map_nil, mm_rf_cat]; exact Nat.le_of_ble_eq_true rfl) dX9_pair_63 ⟨Nat.le_of_ble_eq_true rfl, Nat.le_of_ble_eq_true rfl⟩ ⟨Nat.le_of_ble_eq_true rfl, Nat.le_of_ble_eq_true rfl⟩ ?_
      refine mm_if_eq (tgt := 158) dX9_pair_66 (by decide) (fun c15 => ?_) (fun c15 => ?_)
      · rw [if_pos c15] at hf
        refine mm_aload_n (j := 4) dX9_pair_158 rfl rfl ?_
        obtain ⟨hs16, hf⟩ := mm_sh_s hf
        refine mm_get (c := 9) (k := 9) (v := va_rf (mm_R q14.2 p0 9)) cd_ok ⟨_, _, _, rfl, by decide, Or.inl tw_803⟩ hs16 rfl dX9_pair_159 ?_
        refine mm_iload_n (j := 5) dX9_pair_162 rfl rfl ?_
        obtain ⟨q17, hq17, hf⟩ := mm_on_s hf
        rw [hq17, mm_rf_some]
        obtain ⟨n18, hn18, hf⟩ := mm_ar_s hf
        obtain ⟨hi19, hf⟩ := mm_ib_s hf
        refine mm_iald hn18 rfl hi19 dX9_pair_163 ?_
        refine mm_istore (L' := [(8, .int (mm_I q14.2 q17 p1.toNatClampNeg)), (7, .int q14.1), (6, .int (p3 &&& 127)), (5, .int (p2 &&& 127)), (4, .int (mm_I q2.2 q5 p1.toNatClampNeg)), (0, .ref p0), (1, .int p1), (2, .int p2), (3, .int p3)]) dX9_pair_164 (by decide) rfl ?_
        refine mm_iload (j := 3) dX9_pair_166 rfl ?_
        refine mm_bipush (v := 32) dX9_pair_168 (by decide) ?_
        refine mm_icmp_lt (tgt := 178) dX9_pair_170 (by decide) (fun c20 => ?_) (fun c20 => ?_)
        · rw [if_pos c20] at hf
          refine mm_iconst (v := (-1)) dX9_pair_178 (by decide) ?_
          refine mm_sub [5, 6, 7, 8, 4, 3, 2, 1, 0] rfl ?_
          exact kX9_pair_179  p0 p1 p2 p3 (mm_I q2.2 q5 p1.toNatClampNeg) (p2 &&& 127) (p3 &&& 127) q14.1 (mm_I q14.2 q17 p1.toNatClampNeg) (-1) q14.2 hf
        · rw [if_neg c20] at hf
          refine mm_iload (j := 3) dX9_pair_173 rfl ?_
          refine mm_goto (tgt := 179) dX9_pair_175 (by decide) ?_
          refine mm_sub [5, 6, 7, 8, 4, 3, 2, 1, 0] rfl ?_
          exact kX9_pair_179  p0 p1 p2 p3 (mm_I q2.2 q5 p1.toNatClampNeg) (p2 &&& 127) (p3 &&& 127) q14.1 (mm_I q14.2 q17 p1.toNatClampNeg) (p2 &&& 127) q14.2 hf
      · rw [if_neg c15] at hf
        refine mm_iload (j := 0) dX9_pair_69 rfl ?_
        refine mm_if_eq (tgt := 81) dX9_pair_71 (by decide) (fun c36 => ?_) (fun c36 => ?_)
        · rw [if_pos c36] at hf
          refine mm_iconst (v := (-1)) dX9_pair_81 (by decide) ?_
          cases hf
          refine mm_widen (ck' := rmX9_pair.cells) (sk' := rmX9_pair.slots) (Nat.le_of_ble_eq_true rfl) (Nat.le_of_ble_eq_true rfl) ?_
          exact mm_iret rfl rfl dX9_pair_82 ⟨rfl, rfl⟩
        · rw [if_neg c36] at hf
          refine mm_iload (j := 1) dX9_pair_74 rfl ?_
          refine mm_bipush (v := 32) dX9_pair_76 (by decide) ?_
          refine mm_icmp_ge (tgt := 83) dX9_pair_78 (by decide) (fun c37 => ?_) (fun c37 => ?_)
          · rw [if_pos c37] at hf
            refine mm_iload (j := 3) dX9_pair_83 rfl ?_
            refine mm_sipush (v := 128) dX9_pair_85 (by decide) ?_
            refine mm_iload (j := 2) dX9_pair_88 rfl ?_
            refine mm_imul dX9_pair_90 ?_
            refine mm_iload (j := 1) dX9_pair_91 rfl ?_
            refine mm_iadd dX9_pair_93 ?_
            refine mm_icmp_ne (tgt := 100) dX9_pair_94 (by decide) (fun c38 => ?_) (fun c38 => ?_)
            · rw [if_neg c38] at hf
              refine mm_aload_n (j := 4) dX9_pair_100 rfl rfl ?_
              obtain ⟨hs39, hf⟩ := mm_sh_s hf
              refine mm_get (c := 9) (k := 10) (v := va_rf (mm_R q14.2 p0 10)) cd_ok ⟨_, _, _, rfl, by decide, Or.inl tw_804⟩ hs39 rfl dX9_pair_101 ?_
              refine mm_iload_n (j := 5) dX9_pair_104 rfl rfl ?_
              refine mm_sipush (v := 128) dX9_pair_105 (by decide) ?_
              refine mm_iload (j := 2) dX9_pair_108 rfl ?_
              refine mm_imul dX9_pair_110 ?_
              refine mm_iload (j := 1) dX9_pair_111 rfl ?_
              refine mm_iadd dX9_pair_113 ?_
              obtain ⟨q40, hq40, hf⟩ := mm_on_s hf
              rw [hq40, mm_rf_some]
              obtain ⟨n41, hn41, hf⟩ := mm_ar_s hf
              obtain ⟨hi42, hf⟩ := mm_ib_s hf
              refine mm_iast hn41 rfl hi42 dX9_pair_114 ?_
              obtain ⟨s43, hs43, hf⟩ := mm_let_s hf
              rw [hs43]
              refine mm_iconst (v := 2) dX9_pair_115 (by decide) ?_
              refine mm_iload_n (j := 5) dX9_pair_116 rfl rfl ?_
              refine mm_imul dX9_pair_117 ?_
              refine mm_iload (j := 2) dX9_pair_118 rfl ?_
              refine mm_bipush (v := 8) dX9_pair_120 (by decide) ?_
              refine mm_iand dX9_pair_122 ?_
              refine mm_if_le (tgt := 130) dX9_pair_123 (by decide) (fun c44 => ?_) (fun c44 => ?_)
              · rw [if_pos c44] at hf
                refine mm_iconst (v := 0) dX9_pair_130 (by decide) ?_
                refine mm_sub [4, 5, 6, 7, 3, 2, 1, 0] rfl ?_
                exact kX9_pair_131  p0 p1 p2 p3 (mm_I q2.2 q5 p1.toNatClampNeg) (p2 &&& 127) (p3 &&& 127) q14.1 0 (2 * p1) s43 hf
              · rw [if_neg c44] at hf
                refine mm_iconst (v := 1) dX9_pair_126 (by decide) ?_
                refine mm_goto (tgt := 131) dX9_pair_127 (by decide) ?_
                refine mm_sub [4, 5, 6, 7, 3, 2, 1, 0] rfl ?_
                exact kX9_pair_131  p0 p1 p2 p3 (mm_I q2.2 q5 p1.toNatClampNeg) (p2 &&& 127) (p3 &&& 127) q14.1 1 (2 * p1) s43 hf
            · rw [if_pos c38] at hf
              refine mm_bipush (v := 8) dX9_pair_97 (by decide) ?_
              cases hf
              refine mm_widen (ck' := rmX9_pair.cells) (sk' := rmX9_pair.slots) (Nat.le_of_ble_eq_true rfl) (Nat.le_of_ble_eq_true rfl) ?_
              exact mm_iret rfl rfl dX9_pair_99 ⟨rfl, rfl⟩
          · rw [if_neg c37] at hf
            refine mm_iconst (v := (-1)) dX9_pair_81 (by decide) ?_
            cases hf
            refine mm_widen (ck' := rmX9_pair.cells) (sk' := rmX9_pair.slots) (Nat.le_of_ble_eq_true rfl) (Nat.le_of_ble_eq_true rfl) ?_
            exact mm_iret rfl rfl dX9_pair_82 ⟨rfl, rfl⟩
    · rw [if_pos c13] at hf
      refine mm_iconst (v := (-1)) dX9_pair_37 (by decide) ?_
      cases hf
      refine mm_widen (ck' := rmX9_pair.cells) (sk' := rmX9_pair.slots) (Nat.le_of_ble_eq_true rfl) (Nat.le_of_ble_eq_true rfl) ?_
      exact mm_iret rfl rfl dX9_pair_38 ⟨rfl, rfl⟩
  · rw [if_pos c3] at hf
    refine mm_iconst (v := 0) dX9_pair_13 (by decide) ?_
    cases hf
    refine mm_widen (ck' := rmX9_pair.cells) (sk' := rmX9_pair.slots) (Nat.le_of_ble_eq_true rfl) (Nat.le_of_ble_eq_true rfl) ?_
    exact mm_iret rfl rfl dX9_pair_14 ⟨rfl, rfl⟩
theorem dX0_goToRow_0 : decode cX0_goToRow 0 = .ok (.aload_n 0, 1) := by decide +kernel
theorem dX0_goToRow_1 : decode cX0_goToRow 1 = .ok (.getfield 21, 3) := by decide +kernel
theorem dX0_goToRow_4 : decode cX0_goToRow 4 = .ok (.ifCond .eq 25, 3) := by decide +kernel
theorem dX0_goToRow_7 : decode cX0_goToRow 7 = .ok (.aload_n 0, 1) := by decide +kernel
theorem dX0_goToRow_8 : decode cX0_goToRow 8 = .ok (.getfield 21, 3) := by decide +kernel
theorem dX0_goToRow_11 : decode cX0_goToRow 11 = .ok (.iconst 4, 1) := by decide +kernel
theorem dX0_goToRow_12 : decode cX0_goToRow 12 = .ok (.if_icmp .eq 17, 3) := by decide +kernel
theorem dX0_goToRow_15 : decode cX0_goToRow 15 = .ok (.iload_n 1, 1) := by decide +kernel
theorem dX0_goToRow_16 : decode cX0_goToRow 16 = .ok (.bipush 16, 2) := by decide +kernel
theorem dX0_goToRow_18 : decode cX0_goToRow 18 = .ok (.isub, 1) := by decide +kernel
theorem dX0_goToRow_19 : decode cX0_goToRow 19 = .ok (.getstatic 71, 3) := by decide +kernel
theorem dX0_goToRow_22 : decode cX0_goToRow 22 = .ok (.arraylength, 1) := by decide +kernel
theorem dX0_goToRow_23 : decode cX0_goToRow 23 = .ok (.invokestatic 75, 3) := by decide +kernel
theorem dX0_goToRow_26 : decode cX0_goToRow 26 = .ok (.ifCond .eq 4, 3) := by decide +kernel
theorem dX0_goToRow_29 : decode cX0_goToRow 29 = .ok (.return_, 1) := by decide +kernel
theorem dX0_goToRow_30 : decode cX0_goToRow 30 = .ok (.getstatic 71, 3) := by decide +kernel
theorem dX0_goToRow_33 : decode cX0_goToRow 33 = .ok (.iload_n 1, 1) := by decide +kernel
theorem dX0_goToRow_34 : decode cX0_goToRow 34 = .ok (.bipush 16, 2) := by decide +kernel
theorem dX0_goToRow_36 : decode cX0_goToRow 36 = .ok (.isub, 1) := by decide +kernel
theorem dX0_goToRow_37 : decode cX0_goToRow 37 = .ok (.iaload, 1) := by decide +kernel
theorem dX0_goToRow_38 : decode cX0_goToRow 38 = .ok (.iload_n 2, 1) := by decide +kernel
theorem dX0_goToRow_39 : decode cX0_goToRow 39 = .ok (.bipush 32, 2) := by decide +kernel
theorem dX0_goToRow_41 : decode cX0_goToRow 41 = .ok (.iand, 1) := by decide +kernel
theorem dX0_goToRow_42 : decode cX0_goToRow 42 = .ok (.ifCond .eq 7, 3) := by decide +kernel
theorem dX0_goToRow_45 : decode cX0_goToRow 45 = .ok (.iconst 1, 1) := by decide +kernel
theorem dX0_goToRow_46 : decode cX0_goToRow 46 = .ok (.goto 4, 3) := by decide +kernel
theorem dX0_goToRow_49 : decode cX0_goToRow 49 = .ok (.iconst 0, 1) := by decide +kernel
theorem dX0_goToRow_50 : decode cX0_goToRow 50 = .ok (.iadd, 1) := by decide +kernel
theorem dX0_goToRow_51 : decode cX0_goToRow 51 = .ok (.istore_n 3, 1) := by decide +kernel
theorem dX0_goToRow_52 : decode cX0_goToRow 52 = .ok (.aload_n 0, 1) := by decide +kernel
theorem dX0_goToRow_53 : decode cX0_goToRow 53 = .ok (.getfield 21, 3) := by decide +kernel
theorem dX0_goToRow_56 : decode cX0_goToRow 56 = .ok (.iconst 2, 1) := by decide +kernel
theorem dX0_goToRow_57 : decode cX0_goToRow 57 = .ok (.if_icmp .ne 17, 3) := by decide +kernel
theorem dX0_goToRow_60 : decode cX0_goToRow 60 = .ok (.iload_n 3, 1) := by decide +kernel
theorem dX0_goToRow_61 : decode cX0_goToRow 61 = .ok (.aload_n 0, 1) := by decide +kernel
theorem dX0_goToRow_62 : decode cX0_goToRow 62 = .ok (.getfield 34, 3) := by decide +kernel
theorem dX0_goToRow_65 : decode cX0_goToRow 65 = .ok (.invokestatic 59, 3) := by decide +kernel
theorem dX0_goToRow_68 : decode cX0_goToRow 68 = .ok (.istore_n 3, 1) := by decide +kernel
theorem dX0_goToRow_69 : decode cX0_goToRow 69 = .ok (.aload_n 0, 1) := by decide +kernel
theorem dX0_goToRow_70 : decode cX0_goToRow 70 = .ok (.iload_n 3, 1) := by decide +kernel
theorem dX0_goToRow_71 : decode cX0_goToRow 71 = .ok (.invokevirtual 79, 3) := by decide +kernel
theorem dX0_goToRow_74 : decode cX0_goToRow 74 = .ok (.aload_n 0, 1) := by decide +kernel
theorem dX0_goToRow_75 : decode cX0_goToRow 75 = .ok (.iload_n 3, 1) := by decide +kernel
theorem dX0_goToRow_76 : decode cX0_goToRow 76 = .ok (.putfield 25, 3) := by decide +kernel
theorem dX0_goToRow_79 : decode cX0_goToRow 79 = .ok (.iload_n 2, 1) := by decide +kernel
theorem dX0_goToRow_80 : decode cX0_goToRow 80 = .ok (.iconst 2, 1) := by decide +kernel
theorem dX0_goToRow_81 : decode cX0_goToRow 81 = .ok (.idiv, 1) := by decide +kernel
theorem dX0_goToRow_82 : decode cX0_goToRow 82 = .ok (.bipush 16, 2) := by decide +kernel
theorem dX0_goToRow_84 : decode cX0_goToRow 84 = .ok (.irem, 1) := by decide +kernel
theorem dX0_goToRow_85 : decode cX0_goToRow 85 = .ok (.istore 4, 2) := by decide +kernel
theorem dX0_goToRow_87 : decode cX0_goToRow 87 = .ok (.aload_n 0, 1) := by decide +kernel
theorem dX0_goToRow_88 : decode cX0_goToRow 88 = .ok (.iload 4, 2) := by decide +kernel
theorem dX0_goToRow_90 : decode cX0_goToRow 90 = .ok (.bipush 8, 2) := by decide +kernel
theorem dX0_goToRow_92 : decode cX0_goToRow 92 = .ok (.if_icmp .ge 8, 3) := by decide +kernel
theorem dX0_goToRow_95 : decode cX0_goToRow 95 = .ok (.iload 4, 2) := by decide +kernel
theorem dX0_goToRow_97 : decode cX0_goToRow 97 = .ok (.goto 4, 3) := by decide +kernel
theorem dX0_goToRow_100 : decode cX0_goToRow 100 = .ok (.iconst 0, 1) := by decide +kernel
theorem dX0_goToRow_101 : decode cX0_goToRow 101 = .ok (.iload_n 2, 1) := by decide +kernel
theorem dX0_goToRow_102 : decode cX0_goToRow 102 = .ok (.iconst 1, 1) := by decide +kernel
theorem dX0_goToRow_103 : decode cX0_goToRow 103 = .ok (.iand, 1) := by decide +kernel
theorem dX0_goToRow_104 : decode cX0_goToRow 104 = .ok (.ifCond .eq 8, 3) := by decide +kernel
theorem dX0_goToRow_107 : decode cX0_goToRow 107 = .ok (.bipush 8, 2) := by decide +kernel
theorem dX0_goToRow_109 : decode cX0_goToRow 109 = .ok (.goto 4, 3) := by decide +kernel
theorem dX0_goToRow_112 : decode cX0_goToRow 112 = .ok (.iconst 0, 1) := by decide +kernel
theorem dX0_goToRow_113 : decode cX0_goToRow 113 = .ok (.iadd, 1) := by decide +kernel
theorem dX0_goToRow_114 : decode cX0_goToRow 114 = .ok (.putfield 31, 3) := by decide +kernel
theorem dX0_goToRow_117 : decode cX0_goToRow 117 = .ok (.aload_n 0, 1) := by decide +kernel
theorem dX0_goToRow_118 : decode cX0_goToRow 118 = .ok (.iload 4, 2) := by decide +kernel
theorem dX0_goToRow_120 : decode cX0_goToRow 120 = .ok (.bipush 8, 2) := by decide +kernel
theorem dX0_goToRow_122 : decode cX0_goToRow 122 = .ok (.if_icmp .ge 7, 3) := by decide +kernel
theorem dX0_goToRow_125 : decode cX0_goToRow 125 = .ok (.iconst 0, 1) := by decide +kernel
theorem dX0_goToRow_126 : decode cX0_goToRow 126 = .ok (.goto 10, 3) := by decide +kernel
theorem dX0_goToRow_129 : decode cX0_goToRow 129 = .ok (.iconst 4, 1) := by decide +kernel
theorem dX0_goToRow_130 : decode cX0_goToRow 130 = .ok (.iload 4, 2) := by decide +kernel
theorem dX0_goToRow_132 : decode cX0_goToRow 132 = .ok (.bipush 8, 2) := by decide +kernel
theorem dX0_goToRow_134 : decode cX0_goToRow 134 = .ok (.isub, 1) := by decide +kernel
theorem dX0_goToRow_135 : decode cX0_goToRow 135 = .ok (.imul, 1) := by decide +kernel
theorem dX0_goToRow_136 : decode cX0_goToRow 136 = .ok (.putfield 28, 3) := by decide +kernel
theorem dX0_goToRow_139 : decode cX0_goToRow 139 = .ok (.return_, 1) := by decide +kernel
theorem nmX0_goToRow : mm_nm yX0_goToRow 2 := ⟨by decide, by decide, by decide +kernel⟩
theorem cdX0_goToRow : mm_cd cd_Y yX0_goToRow cX0_goToRow 5 none := ⟨tw_353, tw_6⟩
abbrev rmX0_goToRow : Room := { frames := 3, cells := 0, slots := 0, locals := 69 }
def fX0_goToRow_113  (a0 : Nat) (x1 : Int32) (x2 : Int32) (x3 : Int32) (x4 : Int32) (y0 : Int32) (y1 : Int32) (y2 : Nat) (σ : mm_M) : Option mm_M :=
  mm_sh σ y2 (.inl 0) (mm_let (mm_wI σ y2 5 (y1 + y0)) fun s14 => (if 8 ≤ x4 then mm_sh s14 a0 (.inl 0) (mm_let (mm_wI s14 a0 4 (4 * (x4 - 8))) fun s17 => some (s17)) else mm_sh s14 a0 (.inl 0) (mm_let (mm_wI s14 a0 4 0) fun s19 => some (s19))))
def fX0_goToRow_101  (a0 : Nat) (x1 : Int32) (x2 : Int32) (x3 : Int32) (x4 : Int32) (y0 : Int32) (y1 : Nat) (σ : mm_M) : Option mm_M :=
  (if (x2 &&& 1) = 0 then (fX0_goToRow_113  a0 x1 x2 x3 x4 0 y0 y1 σ) else (fX0_goToRow_113  a0 x1 x2 x3 x4 8 y0 y1 σ))
def fX0_goToRow_74  (a0 : Nat) (x1 : Int32) (x2 : Int32) (x3 : Int32) (σ : mm_M) : Option mm_M :=
  mm_sh σ a0 (.inl 0) (mm_let (mm_wI σ a0 3 x3) fun s10 => (if 8 ≤ ((x2 / 2) - (x2 / 2) / 16 * 16) then (fX0_goToRow_101  a0 x1 x2 x3 ((x2 / 2) - (x2 / 2) / 16 * 16) 0 a0 s10) else (fX0_goToRow_101  a0 x1 x2 x3 ((x2 / 2) - (x2 / 2) / 16 * 16) ((x2 / 2) - (x2 / 2) / 16 * 16) a0 s10)))
def fX0_goToRow_50  (a0 : Nat) (x1 : Int32) (x2 : Int32) (y0 : Int32) (y1 : Int32) (σ : mm_M) : Option mm_M :=
  mm_sh σ a0 (.inl 0) ((if (mm_I σ a0 2) = 2 then mm_on (fX0_moveRolledRows a0 (if (y1 + y0) < (mm_I σ a0 6) then (mm_I σ a0 6) else (y1 + y0)) σ) fun q20 => (fX0_goToRow_74  a0 x1 x2 (if (y1 + y0) < (mm_I σ a0 6) then (mm_I σ a0 6) else (y1 + y0)) q20) else (fX0_goToRow_74  a0 x1 x2 (y1 + y0) σ)))
def fX0_goToRow (p0 : Nat) (p1 : Int32) (p2 : Int32) (σ : mm_M) : Option mm_M :=
  mm_sh σ p0 (.inl 0) ((if (mm_I σ p0 2) = 0 then some (σ) else (if (mm_I σ p0 2) = 4 then some (σ) else (if (fX8_isOutside (p1 - 16) 8) = 0 then mm_ib (p1 - 16) 8 ((if (p2 &&& 32) = 0 then (fX0_goToRow_50  p0 p1 p2 0 (([11, 1, 3, 12, 14, 5, 7, 9] : List Int32).getD (p1 - 16).toNatClampNeg 0) σ) else (fX0_goToRow_50  p0 p1 p2 1 (([11, 1, 3, 12, 14, 5, 7, 9] : List Int32).getD (p1 - 16).toNatClampNeg 0) σ))) else some (σ)))))
set_option maxHeartbeats 4000000 in
set_option maxRecDepth 100000 in
theorem kX0_goToRow_113 {G : mm_G} {A : Nat → Prop} {ini : Bool × Option (List (Nat × Nat × Nat × Nat))}  {R : mm_M}  (a0 : Nat) (x1 : Int32) (x2 : Int32) (x3 : Int32) (x4 : Int32) (y0 : Int32) (y1 : Int32) (y2 : Nat) (σ : mm_M) (hf : fX0_goToRow_113  a0 x1 x2 x3 x4 y0 y1 y2 σ = some R) : mm_J cd_Y G RX0 cX0_goToRow 5 none ini rmX0_goToRow A (mm_QF cd_Y G A (mm_Pv R) rmX0_goToRow.cells rmX0_goToRow.slots) 113 [(0, .ref a0), (1, .int x1), (2, .int x2), (3, .int x3), (4, .int x4)] [.int y0, .int y1, .ref y2] σ 0 0 := by
  unfold fX0_goToRow_113 at hf
  refine mm_iadd dX0_goToRow_113 ?_
  obtain ⟨hs13, hf⟩ := mm_sh_s hf
  refine mm_putI (c := 0) (k := 5) cd_ok ⟨_, _, _, rfl, by decide, rfl, Or.inl tw_121⟩ hs13 rfl rfl rfl dX0_goToRow_114 ?_
  obtain ⟨s14, hs14, hf⟩ := mm_let_s hf
  rw [hs14]
  refine mm_aload_n (j := 0) dX0_goToRow_117 rfl rfl ?_
  refine mm_iload (j := 4) dX0_goToRow_118 rfl ?_
  refine mm_bipush (v := 8) dX0_goToRow_120 (by decide) ?_
  refine mm_icmp_ge (tgt := 129) dX0_goToRow_122 (by decide) (fun c15 => ?_) (fun c15 => ?_)
  · rw [if_pos c15] at hf
    refine mm_iconst (v := 4) dX0_goToRow_129 (by decide) ?_
    refine mm_iload (j := 4) dX0_goToRow_130 rfl ?_
    refine mm_bipush (v := 8) dX0_goToRow_132 (by decide) ?_
    refine mm_isub dX0_goToRow_134 ?_
    refine mm_imul dX0_goToRow_135 ?_
    obtain ⟨hs16, hf⟩ := mm_sh_s hf
    refine mm_putI (c := 0) (k := 4) cd_ok ⟨_, _, _, rfl, by decide, rfl, Or.inl tw_119⟩ hs16 rfl rfl rfl dX0_goToRow_136 ?_
    obtain ⟨s17, hs17, hf⟩ := mm_let_s hf
    rw [hs17]
    cases hf
    refine mm_widen (ck' := rmX0_goToRow.cells) (sk' := rmX0_goToRow.slots) (Nat.le_of_ble_eq_true rfl) (Nat.le_of_ble_eq_true rfl) ?_
    exact mm_vret rfl dX0_goToRow_139 ⟨rfl, rfl⟩
  · rw [if_neg c15] at hf
    refine mm_iconst (v := 0) dX0_goToRow_125 (by decide) ?_
    refine mm_goto (tgt := 136) dX0_goToRow_126 (by decide) ?_
    obtain ⟨hs18, hf⟩ := mm_sh_s hf
    refine mm_putI (c := 0) (k := 4) cd_ok ⟨_, _, _, rfl, by decide, rfl, Or.inl tw_119⟩ hs18 rfl rfl rfl dX0_goToRow_136 ?_
    obtain ⟨s19, hs19, hf⟩ := mm_let_s hf
    rw [hs19]
    cases hf
    refine mm_widen (ck' := rmX0_goToRow.cells) (sk' := rmX0_goToRow.slots) (Nat.le_of_ble_eq_true rfl) (Nat.le_of_ble_eq_true rfl) ?_
    exact mm_vret rfl dX0_goToRow_139 ⟨rfl, rfl⟩
set_option maxHeartbeats 4000000 in
set_option maxRecDepth 100000 in
theorem kX0_goToRow_101 {G : mm_G} {A : Nat → Prop} {ini : Bool × Option (List (Nat × Nat × Nat × Nat))}  {R : mm_M}  (a0 : Nat) (x1 : Int32) (x2 : Int32) (x3 : Int32) (x4 : Int32) (y0 : Int32) (y1 : Nat) (σ : mm_M) (hf : fX0_goToRow_101  a0 x1 x2 x3 x4 y0 y1 σ = some R) : mm_J cd_Y G RX0 cX0_goToRow 5 none ini rmX0_goToRow A (mm_QF cd_Y G A (mm_Pv R) rmX0_goToRow.cells rmX0_goToRow.slots) 101 [(0, .ref a0), (1, .int x1), (2, .int x2), (3, .int x3), (4, .int x4)] [.int y0, .ref y1] σ 0 0 := by
  unfold fX0_goToRow_101 at hf
  refine mm_iload_n (j := 2) dX0_goToRow_101 rfl rfl ?_
  refine mm_iconst (v := 1) dX0_goToRow_102 (by decide) ?_
  refine mm_iand dX0_goToRow_103 ?_
  refine mm_if_eq (tgt := 112) dX0_goToRow_104 (by decide) (fun c12 => ?_) (fun c12 => ?_)
  · rw [if_pos c12] at hf
    refine mm_iconst (v := 0) dX0_goToRow_112 (by decide) ?_
    refine mm_sub [0, 1, 2, 3, 4] rfl ?_
    exact kX0_goToRow_113  a0 x1 x2 x3 x4 0 y0 y1 σ hf
  · rw [if_neg c12] at hf
    refine mm_bipush (v := 8) dX0_goToRow_107 (by decide) ?_
    refine mm_goto (tgt := 113) dX0_goToRow_109 (by decide) ?_
    refine mm_sub [0, 1, 2, 3, 4] rfl ?_
    exact kX0_goToRow_113  a0 x1 x2 x3 x4 8 y0 y1 σ hf
set_option maxHeartbeats 4000000 in
set_option maxRecDepth 100000 in
theorem kX0_goToRow_74 {G : mm_G} {A : Nat → Prop} {ini : Bool × Option (List (Nat × Nat × Nat × Nat))}  {R : mm_M}  (a0 : Nat) (x1 : Int32) (x2 : Int32) (x3 : Int32) (σ : mm_M) (hf : fX0_goToRow_74  a0 x1 x2 x3 σ = some R) : mm_J cd_Y G RX0 cX0_goToRow 5 none ini rmX0_goToRow A (mm_QF cd_Y G A (mm_Pv R) rmX0_goToRow.cells rmX0_goToRow.slots) 74 [(0, .ref a0), (1, .int x1), (2, .int x2), (3, .int x3)] [] σ 0 0 := by
  unfold fX0_goToRow_74 at hf
  refine mm_aload_n (j := 0) dX0_goToRow_74 rfl rfl ?_
  refine mm_iload_n (j := 3) dX0_goToRow_75 rfl rfl ?_
  obtain ⟨hs9, hf⟩ := mm_sh_s hf
  refine mm_putI (c := 0) (k := 3) cd_ok ⟨_, _, _, rfl, by decide, rfl, Or.inl tw_117⟩ hs9 rfl rfl rfl dX0_goToRow_76 ?_
  obtain ⟨s10, hs10, hf⟩ := mm_let_s hf
  rw [hs10]
  refine mm_iload_n (j := 2) dX0_goToRow_79 rfl rfl ?_
  refine mm_iconst (v := 2) dX0_goToRow_80 (by decide) ?_
  refine mm_idiv dX0_goToRow_81 (by decide) ?_
  refine mm_bipush (v := 16) dX0_goToRow_82 (by decide) ?_
  refine mm_irem dX0_goToRow_84 (by decide) ?_
  refine mm_istore (L' := [(4, .int ((x2 / 2) - (x2 / 2) / 16 * 16)), (0, .ref a0), (1, .int x1), (2, .int x2), (3, .int x3)]) dX0_goToRow_85 (by decide) rfl ?_
  refine mm_aload_n (j := 1) dX0_goToRow_87 rfl rfl ?_
  refine mm_iload (j := 0) dX0_goToRow_88 rfl ?_
  refine mm_bipush (v := 8) dX0_goToRow_90 (by decide) ?_
  refine mm_icmp_ge (tgt := 100) dX0_goToRow_92 (by decide) (fun c11 => ?_) (fun c11 => ?_)
  · rw [if_pos c11] at hf
    refine mm_iconst (v := 0) dX0_goToRow_100 (by decide) ?_
    refine mm_sub [1, 2, 3, 4, 0] rfl ?_
    exact kX0_goToRow_101  a0 x1 x2 x3 ((x2 / 2) - (x2 / 2) / 16 * 16) 0 a0 s10 hf
  · rw [if_neg c11] at hf
    refine mm_iload (j := 0) dX0_goToRow_95 rfl ?_
    refine mm_goto (tgt := 101) dX0_goToRow_97 (by decide) ?_
    refine mm_sub [1, 2, 3, 4, 0] rfl ?_
    exact kX0_goToRow_101  a0 x1 x2 x3 ((x2 / 2) - (x2 / 2) / 16 * 16) ((x2 / 2) - (x2 / 2) / 16 * 16) a0 s10 hf
set_option maxHeartbeats 4000000 in
set_option maxRecDepth 100000 in
theorem kX0_goToRow_50 {G : mm_G} {A : Nat → Prop} {ini : Bool × Option (List (Nat × Nat × Nat × Nat))}  {R : mm_M}  (a0 : Nat) (x1 : Int32) (x2 : Int32) (y0 : Int32) (y1 : Int32) (σ : mm_M) (hf : fX0_goToRow_50  a0 x1 x2 y0 y1 σ = some R) : mm_J cd_Y G RX0 cX0_goToRow 5 none ini rmX0_goToRow A (mm_QF cd_Y G A (mm_Pv R) rmX0_goToRow.cells rmX0_goToRow.slots) 50 [(0, .ref a0), (1, .int x1), (2, .int x2)] [.int y0, .int y1] σ 0 0 := by
  unfold fX0_goToRow_50 at hf
  refine mm_iadd dX0_goToRow_50 ?_
  refine mm_istore_n (L' := [(3, .int (y1 + y0)), (0, .ref a0), (1, .int x1), (2, .int x2)]) dX0_goToRow_51 rfl (by decide) rfl ?_
  refine mm_aload_n (j := 1) dX0_goToRow_52 rfl rfl ?_
  obtain ⟨hs7, hf⟩ := mm_sh_s hf
  refine mm_get (c := 0) (k := 2) (v := .int (mm_I σ a0 2)) cd_ok ⟨_, _, _, rfl, by decide, Or.inl tw_115⟩ hs7 rfl dX0_goToRow_53 ?_
  refine mm_iconst (v := 2) dX0_goToRow_56 (by decide) ?_
  refine mm_icmp_ne (tgt := 74) dX0_goToRow_57 (by decide) (fun c8 => ?_) (fun c8 => ?_)
  · rw [if_neg c8] at hf
    refine mm_sub [1, 2, 3, 0] rfl ?_
    exact kX0_goToRow_74  a0 x1 x2 (y1 + y0) σ hf
  · rw [if_pos c8] at hf
    refine mm_iload_n (j := 0) dX0_goToRow_60 rfl rfl ?_
    refine mm_aload_n (j := 1) dX0_goToRow_61 rfl rfl ?_
    refine mm_get (c := 0) (k := 6) (v := .int (mm_I σ a0 6)) cd_ok ⟨_, _, _, rfl, by decide, Or.inl tw_123⟩ hs7 rfl dX0_goToRow_62 ?_
    refine mm_mmax tw_357 tw_358 tw_14 tw_359 (by decide) (by simp only [List.map_cons, List.map_nil, mm_rf_cat]; exact Nat.le_of_ble_eq_true rfl) (by decide) (by decide) dX0_goToRow_65 ?_
    refine mm_istore_n (L' := [(3, .int (if (y1 + y0) < (mm_I σ a0 6) then (mm_I σ a0 6) else (y1 + y0))), (0, .ref a0), (1, .int x1), (2, .int x2)]) dX0_goToRow_68 rfl (by decide) rfl ?_
    refine mm_aload_n (j := 1) dX0_goToRow_69 rfl rfl ?_
    refine mm_iload_n (j := 0) dX0_goToRow_70 rfl rfl ?_
    obtain ⟨q20, hq20, hf⟩ := mm_on_s hf
    refine mm_callVv cd_ok (kX0_moveRolledRows a0 (if (y1 + y0) < (mm_I σ a0 6) then (mm_I σ a0 6) else (y1 + y0)) hq20) hs7 rfl (Or.inl tw_360) cdX0_moveRolledRows tw_362 ts_5 nmX0_moveRolledRows rfl rfl (by simp only [List.map_cons, List.map_nil, mm_rf_cat]; exact Nat.le_of_ble_eq_true rfl) dX0_goToRow_71 ⟨Nat.le_of_ble_eq_true rfl, Nat.le_of_ble_eq_true rfl⟩ ⟨Nat.le_of_ble_eq_true rfl, Nat.le_of_ble_eq_true rfl⟩ ?_
    refine mm_sub [1, 2, 3, 0] rfl ?_
    exact kX0_goToRow_74  a0 x1 x2 (if (y1 + y0) < (mm_I σ a0 6) then (mm_I σ a0 6) else (y1 + y0)) q20 hf
set_option maxHeartbeats 4000000 in
set_option maxRecDepth 100000 in
theorem kX0_goToRow {G : mm_G} {A : Nat → Prop} (p0 : Nat) (p1 : Int32) (p2 : Int32) {σ : mm_M} {R : mm_M} (hf : fX0_goToRow p0 p1 p2 σ = some R) : mm_C cd_Y G yX0_goToRow cX0_goToRow 5 none rmX0_goToRow A [.ref p0, .int p1, .int p2] σ (mm_Pv R) := by
  refine mm_C.of (by decide) (Nat.le_of_ble_eq_true rfl) ?_
  unfold fX0_goToRow at hf
  have e0 : lv_args 0 [.ref p0, .int p1, .int p2] = [(0, .ref p0), (1, .int p1), (2, .int p2)] := rfl
  rw [e0]
  generalize hini : ((yX0_goToRow.name == "<init>"), none) = ini
  clear e0
  clear hini
  refine mm_aload_n (j := 0) dX0_goToRow_0 rfl rfl ?_
  obtain ⟨hs1, hf⟩ := mm_sh_s hf
  refine mm_get (c := 0) (k := 2) (v := .int (mm_I σ p0 2)) cd_ok ⟨_, _, _, rfl, by decide, Or.inl tw_115⟩ hs1 rfl dX0_goToRow_1 ?_
  refine mm_if_eq (tgt := 29) dX0_goToRow_4 (by decide) (fun c2 => ?_) (fun c2 => ?_)
  · rw [if_pos c2] at hf
    cases hf
    refine mm_widen (ck' := rmX0_goToRow.cells) (sk' := rmX0_goToRow.slots) (Nat.le_of_ble_eq_true rfl) (Nat.le_of_ble_eq_true rfl) ?_
    exact mm_vret rfl dX0_goToRow_29 ⟨rfl, rfl⟩
  · rw [if_neg c2] at hf
    refine mm_aload_n (j := 0) dX0_goToRow_7 rfl rfl ?_
    refine mm_get (c := 0) (k := 2) (v := .int (mm_I σ p0 2)) cd_ok ⟨_, _, _, rfl, by decide, Or.inl tw_115⟩ hs1 rfl dX0_goToRow_8 ?_
    refine mm_iconst (v := 4) dX0_goToRow_11 (by decide) ?_
    refine mm_icmp_eq (tgt := 29) dX0_goToRow_12 (by decide) (fun c3 => ?_) (fun c3 => ?_)
    · rw [if_pos c3] at hf
      cases hf
      refine mm_widen (ck' := rmX0_goToRow.cells) (sk' := rmX0_goToRow.slots) (Nat.le_of_ble_eq_true rfl) (Nat.le_of_ble_eq_true rfl) ?_
      exact mm_vret rfl dX0_goToRow_29 ⟨rfl, rfl⟩
    · rw [if_neg c3] at hf
      refine mm_iload_n (j := 1) dX0_goToRow_15 rfl rfl ?_
      refine mm_bipush (v := 16) dX0_goToRow_16 (by decide) ?_
      refine mm_isub dX0_goToRow_18 ?_
      refine mm_gets (Y := cd_Y) (k := 0) rfl (Or.inr ⟨_, tn_23⟩) dX0_goToRow_19 ?_
      refine mm_slen (Y := cd_Y) (k := 0) (v := 8) rfl rfl dX0_goToRow_22 ?_
      refine mm_callSi cd_ok (kX8_isOutside (p1 - 16) 8 _ rfl) (Or.inr ⟨_, tn_24⟩) cdX8_isOutside tw_221 nmX8_isOutside rfl rfl (by simp only [List.map_cons, List.map_nil, mm_rf_cat]; exact Nat.le_of_ble_eq_true rfl) dX0_goToRow_23 ⟨Nat.le_of_ble_eq_true rfl, Nat.le_of_ble_eq_true rfl⟩ ⟨Nat.le_of_ble_eq_true rfl, Nat.le_of_ble_eq_true rfl⟩ ?_
      refine mm_if_eq (tgt := 30) dX0_goToRow_26 (by decide) (fun c4 => ?_) (fun c4 => ?_)
      · rw [if_pos c4] at hf
        refine mm_gets (Y := cd_Y) (k := 0) rfl (Or.inr ⟨_, tn_23⟩) dX0_goToRow_30 ?_
        refine mm_iload_n (j := 1) dX0_goToRow_33 rfl rfl ?_
        refine mm_bipush (v := 16) dX0_goToRow_34 (by decide) ?_
        refine mm_isub dX0_goToRow_36 ?_
        obtain ⟨hi5, hf⟩ := mm_ib_s hf
        refine mm_sald (Y := cd_Y) (k := 0) rfl hi5 dX0_goToRow_37 ?_
        refine mm_iload_n (j := 2) dX0_goToRow_38 rfl rfl ?_
        refine mm_bipush (v := 32) dX0_goToRow_39 (by decide) ?_
        refine mm_iand dX0_goToRow_41 ?_
        refine mm_if_eq (tgt := 49) dX0_goToRow_42 (by decide) (fun c6 => ?_) (fun c6 => ?_)
        · rw [if_pos c6] at hf
          refine mm_iconst (v := 0) dX0_goToRow_49 (by decide) ?_
          refine mm_sub [0, 1, 2] rfl ?_
          exact kX0_goToRow_50  p0 p1 p2 0 (([11, 1, 3, 12, 14, 5, 7, 9] : List Int32).getD (p1 - 16).toNatClampNeg 0) σ hf
        · rw [if_neg c6] at hf
          refine mm_iconst (v := 1) dX0_goToRow_45 (by decide) ?_
          refine mm_goto (tgt := 50) dX0_goToRow_46 (by decide) ?_
          refine mm_sub [0, 1, 2] rfl ?_
          exact kX0_goToRow_50  p0 p1 p2 1 (([11, 1, 3, 12, 14, 5, 7, 9] : List Int32).getD (p1 - 16).toNatClampNeg 0) σ hf
      · rw [if_neg c4] at hf
        cases hf
        refine mm_widen (ck' := rmX0_goToRow.cells) (sk' := rmX0_goToRow.slots) (Nat.le_of_ble_eq_true rfl) (Nat.le_of_ble_eq_true rfl) ?_
        exact mm_vret rfl dX0_goToRow_29 ⟨rfl, rfl⟩
theorem dX0_obeyControl_0 : decode cX0_obeyControl 0 = .ok (.iload_n 1, 1) := by decide +kernel
theorem dX0_obeyControl_1 : decode cX0_obeyControl 1 = .ok (.tableswitch 161 0 15 #[79, 87, 161, 161, 94, 101, 101, 101, 161, 111, 119, 119, 127, 137, 144, 154], 79) := by decide +kernel
theorem dX0_obeyControl_80 : decode cX0_obeyControl 80 = .ok (.aload_n 0, 1) := by decide +kernel
theorem dX0_obeyControl_81 : decode cX0_obeyControl 81 = .ok (.iconst 1, 1) := by decide +kernel
theorem dX0_obeyControl_82 : decode cX0_obeyControl 82 = .ok (.putfield 21, 3) := by decide +kernel
theorem dX0_obeyControl_85 : decode cX0_obeyControl 85 = .ok (.goto 77, 3) := by decide +kernel
theorem dX0_obeyControl_88 : decode cX0_obeyControl 88 = .ok (.aload_n 0, 1) := by decide +kernel
theorem dX0_obeyControl_89 : decode cX0_obeyControl 89 = .ok (.invokevirtual 85, 3) := by decide +kernel
theorem dX0_obeyControl_92 : decode cX0_obeyControl 92 = .ok (.goto 70, 3) := by decide +kernel
theorem dX0_obeyControl_95 : decode cX0_obeyControl 95 = .ok (.aload_n 0, 1) := by decide +kernel
theorem dX0_obeyControl_96 : decode cX0_obeyControl 96 = .ok (.invokevirtual 88, 3) := by decide +kernel
theorem dX0_obeyControl_99 : decode cX0_obeyControl 99 = .ok (.goto 63, 3) := by decide +kernel
theorem dX0_obeyControl_102 : decode cX0_obeyControl 102 = .ok (.aload_n 0, 1) := by decide +kernel
theorem dX0_obeyControl_103 : decode cX0_obeyControl 103 = .ok (.iload_n 1, 1) := by decide +kernel
theorem dX0_obeyControl_104 : decode cX0_obeyControl 104 = .ok (.iconst 3, 1) := by decide +kernel
theorem dX0_obeyControl_105 : decode cX0_obeyControl 105 = .ok (.isub, 1) := by decide +kernel
theorem dX0_obeyControl_106 : decode cX0_obeyControl 106 = .ok (.invokevirtual 91, 3) := by decide +kernel
theorem dX0_obeyControl_109 : decode cX0_obeyControl 109 = .ok (.goto 53, 3) := by decide +kernel
theorem dX0_obeyControl_112 : decode cX0_obeyControl 112 = .ok (.aload_n 0, 1) := by decide +kernel
theorem dX0_obeyControl_113 : decode cX0_obeyControl 113 = .ok (.iconst 3, 1) := by decide +kernel
theorem dX0_obeyControl_114 : decode cX0_obeyControl 114 = .ok (.putfield 21, 3) := by decide +kernel
theorem dX0_obeyControl_117 : decode cX0_obeyControl 117 = .ok (.goto 45, 3) := by decide +kernel
theorem dX0_obeyControl_120 : decode cX0_obeyControl 120 = .ok (.aload_n 0, 1) := by decide +kernel
theorem dX0_obeyControl_121 : decode cX0_obeyControl 121 = .ok (.iconst 4, 1) := by decide +kernel
theorem dX0_obeyControl_122 : decode cX0_obeyControl 122 = .ok (.putfield 21, 3) := by decide +kernel
theorem dX0_obeyControl_125 : decode cX0_obeyControl 125 = .ok (.goto 37, 3) := by decide +kernel
theorem dX0_obeyControl_128 : decode cX0_obeyControl 128 = .ok (.aload_n 0, 1) := by decide +kernel
theorem dX0_obeyControl_129 : decode cX0_obeyControl 129 = .ok (.getfield 12, 3) := by decide +kernel
theorem dX0_obeyControl_132 : decode cX0_obeyControl 132 = .ok (.invokevirtual 94, 3) := by decide +kernel
theorem dX0_obeyControl_135 : decode cX0_obeyControl 135 = .ok (.goto 27, 3) := by decide +kernel
theorem dX0_obeyControl_138 : decode cX0_obeyControl 138 = .ok (.aload_n 0, 1) := by decide +kernel
theorem dX0_obeyControl_139 : decode cX0_obeyControl 139 = .ok (.invokevirtual 97, 3) := by decide +kernel
theorem dX0_obeyControl_142 : decode cX0_obeyControl 142 = .ok (.goto 20, 3) := by decide +kernel
theorem dX0_obeyControl_145 : decode cX0_obeyControl 145 = .ok (.aload_n 0, 1) := by decide +kernel
theorem dX0_obeyControl_146 : decode cX0_obeyControl 146 = .ok (.getfield 18, 3) := by decide +kernel
theorem dX0_obeyControl_149 : decode cX0_obeyControl 149 = .ok (.invokevirtual 94, 3) := by decide +kernel
theorem dX0_obeyControl_152 : decode cX0_obeyControl 152 = .ok (.goto 10, 3) := by decide +kernel
theorem dX0_obeyControl_155 : decode cX0_obeyControl 155 = .ok (.aload_n 0, 1) := by decide +kernel
theorem dX0_obeyControl_156 : decode cX0_obeyControl 156 = .ok (.invokevirtual 100, 3) := by decide +kernel
theorem dX0_obeyControl_159 : decode cX0_obeyControl 159 = .ok (.goto 3, 3) := by decide +kernel
theorem dX0_obeyControl_162 : decode cX0_obeyControl 162 = .ok (.return_, 1) := by decide +kernel
theorem nmX0_obeyControl : mm_nm yX0_obeyControl 1 := ⟨by decide, by decide, by decide +kernel⟩
theorem cdX0_obeyControl : mm_cd cd_Y yX0_obeyControl cX0_obeyControl 2 none := ⟨tw_383, tw_6⟩
abbrev rmX0_obeyControl : Room := { frames := 3, cells := 0, slots := 0, locals := 67 }
def fX0_obeyControl (p0 : Nat) (p1 : Int32) (σ : mm_M) : Option mm_M :=
  (if p1 = 0 then mm_sh σ p0 (.inl 0) (mm_let (mm_wI σ p0 2 1) fun s3 => some (s3)) else (if p1 = 1 then mm_sh σ p0 (.inl 0) (mm_on (fX0_eraseBack p0 σ) fun q6 => some (q6)) else (if p1 = 4 then mm_sh σ p0 (.inl 0) (mm_on (fX0_eraseOn p0 σ) fun q9 => some (q9)) else (if p1 = 5 then mm_sh σ p0 (.inl 0) (mm_on (fX0_beginRoll p0 (p1 - 3) σ) fun q12 => some (q12)) else (if p1 = 6 then mm_sh σ p0 (.inl 0) (mm_on (fX0_beginRoll p0 (p1 - 3) σ) fun q15 => some (q15)) else (if p1 = 7 then mm_sh σ p0 (.inl 0) (mm_on (fX0_beginRoll p0 (p1 - 3) σ) fun q18 => some (q18)) else (if p1 = 9 then mm_sh σ p0 (.inl 0) (mm_let (mm_wI σ p0 2 3) fun s21 => some (s21)) else (if p1 = 10 then mm_sh σ p0 (.inl 0) (mm_let (mm_wI σ p0 2 4) fun s24 => some (s24)) else (if p1 = 11 then mm_sh σ p0 (.inl 0) (mm_let (mm_wI σ p0 2 4) fun s27 => some (s27)) else (if p1 = 12 then mm_sh σ p0 (.inl 0) (mm_on (mm_R σ p0 0) fun q30 => mm_sh σ q30 (.inl 5) (mm_on (fX5_eraseAll q30 σ) fun q32 => some (q32))) else (if p1 = 13 then mm_sh σ p0 (.inl 0) (mm_on (fX0_rollUp p0 σ) fun q35 => some (q35)) else (if p1 = 14 then mm_sh σ p0 (.inl 0) (mm_on (mm_R σ p0 1) fun q38 => mm_sh σ q38 (.inl 5) (mm_on (fX5_eraseAll q38 σ) fun q40 => some (q40))) else (if p1 = 15 then mm_sh σ p0 (.inl 0) (mm_on (fX0_changeScreens p0 σ) fun q43 => some (q43)) else some (σ))))))))))))))
set_option maxHeartbeats 4000000 in
set_option maxRecDepth 100000 in
theorem kX0_obeyControl {G : mm_G} {A : Nat → Prop} (p0 : Nat) (p1 : Int32) {σ : mm_M} {R : mm_M} (hf : fX0_obeyControl p0 p1 σ = some R) : mm_C cd_Y G yX0_obeyControl cX0_obeyControl 2 none rmX0_obeyControl A [.ref p0, .int p1] σ (mm_Pv R) := by
  refine mm_C.of (by decide) (Nat.le_of_ble_eq_true rfl) ?_
  unfold fX0_obeyControl at hf
  have e0 : lv_args 0 [.ref p0, .int p1] = [(0, .ref p0), (1, .int p1)] := rfl
  rw [e0]
  generalize hini : ((yX0_obeyControl.name == "<init>"), none) = ini
  clear e0
  clear hini
  refine mm_iload_n (j := 1) dX0_obeyControl_0 rfl rfl ?_
  by_cases c1 : p1 = 0
  · rw [if_pos c1] at hf
    refine mm_tableEq (off := 79) (tgt := 80) dX0_obeyControl_1 c1 (by decide) (by decide) (by decide) (by decide) ?_
    refine mm_aload_n (j := 0) dX0_obeyControl_80 rfl rfl ?_
    refine mm_iconst (v := 1) dX0_obeyControl_81 (by decide) ?_
    obtain ⟨hs2, hf⟩ := mm_sh_s hf
    refine mm_putI (c := 0) (k := 2) cd_ok ⟨_, _, _, rfl, by decide, rfl, Or.inl tw_115⟩ hs2 rfl rfl rfl dX0_obeyControl_82 ?_
    obtain ⟨s3, hs3, hf⟩ := mm_let_s hf
    rw [hs3]
    refine mm_goto (tgt := 162) dX0_obeyControl_85 (by decide) ?_
    cases hf
    refine mm_widen (ck' := rmX0_obeyControl.cells) (sk' := rmX0_obeyControl.slots) (Nat.le_of_ble_eq_true rfl) (Nat.le_of_ble_eq_true rfl) ?_
    exact mm_vret rfl dX0_obeyControl_162 ⟨rfl, rfl⟩
  rw [if_neg c1] at hf
  by_cases c4 : p1 = 1
  · rw [if_pos c4] at hf
    refine mm_tableEq (off := 87) (tgt := 88) dX0_obeyControl_1 c4 (by decide) (by decide) (by decide) (by decide) ?_
    refine mm_aload_n (j := 0) dX0_obeyControl_88 rfl rfl ?_
    obtain ⟨hs5, hf⟩ := mm_sh_s hf
    obtain ⟨q6, hq6, hf⟩ := mm_on_s hf
    refine mm_callVv cd_ok (kX0_eraseBack p0 hq6) hs5 rfl (Or.inl tw_384) cdX0_eraseBack tw_386 ts_9 nmX0_eraseBack rfl rfl (by simp only [List.map_cons, List.map_nil, mm_rf_cat]; exact Nat.le_of_ble_eq_true rfl) dX0_obeyControl_89 ⟨Nat.le_of_ble_eq_true rfl, Nat.le_of_ble_eq_true rfl⟩ ⟨Nat.le_of_ble_eq_true rfl, Nat.le_of_ble_eq_true rfl⟩ ?_
    refine mm_goto (tgt := 162) dX0_obeyControl_92 (by decide) ?_
    cases hf
    refine mm_widen (ck' := rmX0_obeyControl.cells) (sk' := rmX0_obeyControl.slots) (Nat.le_of_ble_eq_true rfl) (Nat.le_of_ble_eq_true rfl) ?_
    exact mm_vret rfl dX0_obeyControl_162 ⟨rfl, rfl⟩
  rw [if_neg c4] at hf
  by_cases c7 : p1 = 4
  · rw [if_pos c7] at hf
    refine mm_tableEq (off := 94) (tgt := 95) dX0_obeyControl_1 c7 (by decide) (by decide) (by decide) (by decide) ?_
    refine mm_aload_n (j := 0) dX0_obeyControl_95 rfl rfl ?_
    obtain ⟨hs8, hf⟩ := mm_sh_s hf
    obtain ⟨q9, hq9, hf⟩ := mm_on_s hf
    refine mm_callVv cd_ok (kX0_eraseOn p0 hq9) hs8 rfl (Or.inl tw_388) cdX0_eraseOn tw_390 ts_10 nmX0_eraseOn rfl rfl (by simp only [List.map_cons, List.map_nil, mm_rf_cat]; exact Nat.le_of_ble_eq_true rfl) dX0_obeyControl_96 ⟨Nat.le_of_ble_eq_true rfl, Nat.le_of_ble_eq_true rfl⟩ ⟨Nat.le_of_ble_eq_true rfl, Nat.le_of_ble_eq_true rfl⟩ ?_
    refine mm_goto (tgt := 162) dX0_obeyControl_99 (by decide) ?_
    cases hf
    refine mm_widen (ck' := rmX0_obeyControl.cells) (sk' := rmX0_obeyControl.slots) (Nat.le_of_ble_eq_true rfl) (Nat.le_of_ble_eq_true rfl) ?_
    exact mm_vret rfl dX0_obeyControl_162 ⟨rfl, rfl⟩
  rw [if_neg c7] at hf
  by_cases c10 : p1 = 5
  · rw [if_pos c10] at hf
    refine mm_tableEq (off := 101) (tgt := 102) dX0_obeyControl_1 c10 (by decide) (by decide) (by decide) (by decide) ?_
    refine mm_aload_n (j := 0) dX0_obeyControl_102 rfl rfl ?_
    refine mm_iload_n (j := 1) dX0_obeyControl_103 rfl rfl ?_
    refine mm_iconst (v := 3) dX0_obeyControl_104 (by decide) ?_
    refine mm_isub dX0_obeyControl_105 ?_
    obtain ⟨hs11, hf⟩ := mm_sh_s hf
    obtain ⟨q12, hq12, hf⟩ := mm_on_s hf
    refine mm_callVv cd_ok (kX0_beginRoll p0 (p1 - 3) hq12) hs11 rfl (Or.inl tw_396) cdX0_beginRoll tw_398 ts_11 nmX0_beginRoll rfl rfl (by simp only [List.map_cons, List.map_nil, mm_rf_cat]; exact Nat.le_of_ble_eq_true rfl) dX0_obeyControl_106 ⟨Nat.le_of_ble_eq_true rfl, Nat.le_of_ble_eq_true rfl⟩ ⟨Nat.le_of_ble_eq_true rfl, Nat.le_of_ble_eq_true rfl⟩ ?_
    refine mm_goto (tgt := 162) dX0_obeyControl_109 (by decide) ?_
    cases hf
    refine mm_widen (ck' := rmX0_obeyControl.cells) (sk' := rmX0_obeyControl.slots) (Nat.le_of_ble_eq_true rfl) (Nat.le_of_ble_eq_true rfl) ?_
    exact mm_vret rfl dX0_obeyControl_162 ⟨rfl, rfl⟩
  rw [if_neg c10] at hf
  by_cases c13 : p1 = 6
  · rw [if_pos c13] at hf
    refine mm_tableEq (off := 101) (tgt := 102) dX0_obeyControl_1 c13 (by decide) (by decide) (by decide) (by decide) ?_
    refine mm_aload_n (j := 0) dX0_obeyControl_102 rfl rfl ?_
    refine mm_iload_n (j := 1) dX0_obeyControl_103 rfl rfl ?_
    refine mm_iconst (v := 3) dX0_obeyControl_104 (by decide) ?_
    refine mm_isub dX0_obeyControl_105 ?_
    obtain ⟨hs14, hf⟩ := mm_sh_s hf
    obtain ⟨q15, hq15, hf⟩ := mm_on_s hf
    refine mm_callVv cd_ok (kX0_beginRoll p0 (p1 - 3) hq15) hs14 rfl (Or.inl tw_396) cdX0_beginRoll tw_398 ts_11 nmX0_beginRoll rfl rfl (by simp only [List.map_cons, List.map_nil, mm_rf_cat]; exact Nat.le_of_ble_eq_true rfl) dX0_obeyControl_106 ⟨Nat.le_of_ble_eq_true rfl, Nat.le_of_ble_eq_true rfl⟩ ⟨Nat.le_of_ble_eq_true rfl, Nat.le_of_ble_eq_true rfl⟩ ?_
    refine mm_goto (tgt := 162) dX0_obeyControl_109 (by decide) ?_
    cases hf
    refine mm_widen (ck' := rmX0_obeyControl.cells) (sk' := rmX0_obeyControl.slots) (Nat.le_of_ble_eq_true rfl) (Nat.le_of_ble_eq_true rfl) ?_
    exact mm_vret rfl dX0_obeyControl_162 ⟨rfl, rfl⟩
  rw [if_neg c13] at hf
  by_cases c16 : p1 = 7
  · rw [if_pos c16] at hf
    refine mm_tableEq (off := 101) (tgt := 102) dX0_obeyControl_1 c16 (by decide) (by decide) (by decide) (by decide) ?_
    refine mm_aload_n (j := 0) dX0_obeyControl_102 rfl rfl ?_
    refine mm_iload_n (j := 1) dX0_obeyControl_103 rfl rfl ?_
    refine mm_iconst (v := 3) dX0_obeyControl_104 (by decide) ?_
    refine mm_isub dX0_obeyControl_105 ?_
    obtain ⟨hs17, hf⟩ := mm_sh_s hf
    obtain ⟨q18, hq18, hf⟩ := mm_on_s hf
    refine mm_callVv cd_ok (kX0_beginRoll p0 (p1 - 3) hq18) hs17 rfl (Or.inl tw_396) cdX0_beginRoll tw_398 ts_11 nmX0_beginRoll rfl rfl (by simp only [List.map_cons, List.map_nil, mm_rf_cat]; exact Nat.le_of_ble_eq_true rfl) dX0_obeyControl_106 ⟨Nat.le_of_ble_eq_true rfl, Nat.le_of_ble_eq_true rfl⟩ ⟨Nat.le_of_ble_eq_true rfl, Nat.le_of_ble_eq_true rfl⟩ ?_
    refine mm_goto (tgt := 162) dX0_obeyControl_109 (by decide) ?_
    cases hf
    refine mm_widen (ck' := rmX0_obeyControl.cells) (sk' := rmX0_obeyControl.slots) (Nat.le_of_ble_eq_true rfl) (Nat.le_of_ble_eq_true rfl) ?_
    exact mm_vret rfl dX0_obeyControl_162 ⟨rfl, rfl⟩
  rw [if_neg c16] at hf
  by_cases c19 : p1 = 9
  · rw [if_pos c19] at hf
    refine mm_tableEq (off := 111) (tgt := 112) dX0_obeyControl_1 c19 (by decide) (by decide) (by decide) (by decide) ?_
    refine mm_aload_n (j := 0) dX0_obeyControl_112 rfl rfl ?_
    refine mm_iconst (v := 3) dX0_obeyControl_113 (by decide) ?_
    obtain ⟨hs20, hf⟩ := mm_sh_s hf
    refine mm_putI (c := 0) (k := 2) cd_ok ⟨_, _, _, rfl, by decide, rfl, Or.inl tw_115⟩ hs20 rfl rfl rfl dX0_obeyControl_114 ?_
    obtain ⟨s21, hs21, hf⟩ := mm_let_s hf
    rw [hs21]
    refine mm_goto (tgt := 162) dX0_obeyControl_117 (by decide) ?_
    cases hf
    refine mm_widen (ck' := rmX0_obeyControl.cells) (sk' := rmX0_obeyControl.slots) (Nat.le_of_ble_eq_true rfl) (Nat.le_of_ble_eq_true rfl) ?_
    exact mm_vret rfl dX0_obeyControl_162 ⟨rfl, rfl⟩
  rw [if_neg c19] at hf
  by_cases c22 : p1 = 10
  · rw [if_pos c22] at hf
    refine mm_tableEq (off := 119) (tgt := 120) dX0_obeyControl_1 c22 (by decide) (by decide) (by decide) (by decide) ?_
    refine mm_aload_n (j := 0) dX0_obeyControl_120 rfl rfl ?_
    refine mm_iconst (v := 4) dX0_obeyControl_121 (by decide) ?_
    obtain ⟨hs23, hf⟩ := mm_sh_s hf
    refine mm_putI (c := 0) (k := 2) cd_ok ⟨_, _, _, rfl, by decide, rfl, Or.inl tw_115⟩ hs23 rfl rfl rfl dX0_obeyControl_122 ?_
    obtain ⟨s24, hs24, hf⟩ := mm_let_s hf
    rw [hs24]
    refine mm_goto (tgt := 162) dX0_obeyControl_125 (by decide) ?_
    cases hf
    refine mm_widen (ck' := rmX0_obeyControl.cells) (sk' := rmX0_obeyControl.slots) (Nat.le_of_ble_eq_true rfl) (Nat.le_of_ble_eq_true rfl) ?_
    exact mm_vret rfl dX0_obeyControl_162 ⟨rfl, rfl⟩
  rw [if_neg c22] at hf
  by_cases c25 : p1 = 11
  · rw [if_pos c25] at hf
    refine mm_tableEq (off := 119) (tgt := 120) dX0_obeyControl_1 c25 (by decide) (by decide) (by decide) (by decide) ?_
    refine mm_aload_n (j := 0) dX0_obeyControl_120 rfl rfl ?_
    refine mm_iconst (v := 4) dX0_obeyControl_121 (by decide) ?_
    obtain ⟨hs26, hf⟩ := mm_sh_s hf
    refine mm_putI (c := 0) (k := 2) cd_ok ⟨_, _, _, rfl, by decide, rfl, Or.inl tw_115⟩ hs26 rfl rfl rfl dX0_obeyControl_122 ?_
    obtain ⟨s27, hs27, hf⟩ := mm_let_s hf
    rw [hs27]
    refine mm_goto (tgt := 162) dX0_obeyControl_125 (by decide) ?_
    cases hf
    refine mm_widen (ck' := rmX0_obeyControl.cells) (sk' := rmX0_obeyControl.slots) (Nat.le_of_ble_eq_true rfl) (Nat.le_of_ble_eq_true rfl) ?_
    exact mm_vret rfl dX0_obeyControl_162 ⟨rfl, rfl⟩
  rw [if_neg c25] at hf
  by_cases c28 : p1 = 12
  · rw [if_pos c28] at hf
    refine mm_tableEq (off := 127) (tgt := 128) dX0_obeyControl_1 c28 (by decide) (by decide) (by decide) (by decide) ?_
    refine mm_aload_n (j := 0) dX0_obeyControl_128 rfl rfl ?_
    obtain ⟨hs29, hf⟩ := mm_sh_s hf
    refine mm_get (c := 0) (k := 0) (v := va_rf (mm_R σ p0 0)) cd_ok ⟨_, _, _, rfl, by decide, Or.inl tw_111⟩ hs29 rfl dX0_obeyControl_129 ?_
    obtain ⟨q30, hq30, hf⟩ := mm_on_s hf
    rw [hq30, mm_rf_some]
    obtain ⟨hs31, hf⟩ := mm_sh_s hf
    obtain ⟨q32, hq32, hf⟩ := mm_on_s hf
    refine mm_callVv cd_ok (kX5_eraseAll q30 hq32) hs31 rfl (Or.inl tw_404) cdX5_eraseAll tw_405 tw_406 nmX5_eraseAll rfl rfl (by simp only [List.map_cons, List.map_nil, mm_rf_cat]; exact Nat.le_of_ble_eq_true rfl) dX0_obeyControl_132 ⟨Nat.le_of_ble_eq_true rfl, Nat.le_of_ble_eq_true rfl⟩ ⟨Nat.le_of_ble_eq_true rfl, Nat.le_of_ble_eq_true rfl⟩ ?_
    refine mm_goto (tgt := 162) dX0_obeyControl_135 (by decide) ?_
    cases hf
    refine mm_widen (ck' := rmX0_obeyControl.cells) (sk' := rmX0_obeyControl.slots) (Nat.le_of_ble_eq_true rfl) (Nat.le_of_ble_eq_true rfl) ?_
    exact mm_vret rfl dX0_obeyControl_162 ⟨rfl, rfl⟩
  rw [if_neg c28] at hf
  by_cases c33 : p1 = 13
  · rw [if_pos c33] at hf
    refine mm_tableEq (off := 137) (tgt := 138) dX0_obeyControl_1 c33 (by decide) (by decide) (by decide) (by decide) ?_
    refine mm_aload_n (j := 0) dX0_obeyControl_138 rfl rfl ?_
    obtain ⟨hs34, hf⟩ := mm_sh_s hf
    obtain ⟨q35, hq35, hf⟩ := mm_on_s hf
    refine mm_callVv cd_ok (kX0_rollUp p0 hq35) hs34 rfl (Or.inl tw_408) cdX0_rollUp tw_410 ts_12 nmX0_rollUp rfl rfl (by simp only [List.map_cons, List.map_nil, mm_rf_cat]; exact Nat.le_of_ble_eq_true rfl) dX0_obeyControl_139 ⟨Nat.le_of_ble_eq_true rfl, Nat.le_of_ble_eq_true rfl⟩ ⟨Nat.le_of_ble_eq_true rfl, Nat.le_of_ble_eq_true rfl⟩ ?_
    refine mm_goto (tgt := 162) dX0_obeyControl_142 (by decide) ?_
    cases hf
    refine mm_widen (ck' := rmX0_obeyControl.cells) (sk' := rmX0_obeyControl.slots) (Nat.le_of_ble_eq_true rfl) (Nat.le_of_ble_eq_true rfl) ?_
    exact mm_vret rfl dX0_obeyControl_162 ⟨rfl, rfl⟩
  rw [if_neg c33] at hf
  by_cases c36 : p1 = 14
  · rw [if_pos c36] at hf
    refine mm_tableEq (off := 144) (tgt := 145) dX0_obeyControl_1 c36 (by decide) (by decide) (by decide) (by decide) ?_
    refine mm_aload_n (j := 0) dX0_obeyControl_145 rfl rfl ?_
    obtain ⟨hs37, hf⟩ := mm_sh_s hf
    refine mm_get (c := 0) (k := 1) (v := va_rf (mm_R σ p0 1)) cd_ok ⟨_, _, _, rfl, by decide, Or.inl tw_113⟩ hs37 rfl dX0_obeyControl_146 ?_
    obtain ⟨q38, hq38, hf⟩ := mm_on_s hf
    rw [hq38, mm_rf_some]
    obtain ⟨hs39, hf⟩ := mm_sh_s hf
    obtain ⟨q40, hq40, hf⟩ := mm_on_s hf
    refine mm_callVv cd_ok (kX5_eraseAll q38 hq40) hs39 rfl (Or.inl tw_404) cdX5_eraseAll tw_405 tw_406 nmX5_eraseAll rfl rfl (by simp only [List.map_cons, List.map_nil, mm_rf_cat]; exact Nat.le_of_ble_eq_true rfl) dX0_obeyControl_149 ⟨Nat.le_of_ble_eq_true rfl, Nat.le_of_ble_eq_true rfl⟩ ⟨Nat.le_of_ble_eq_true rfl, Nat.le_of_ble_eq_true rfl⟩ ?_
    refine mm_goto (tgt := 162) dX0_obeyControl_152 (by decide) ?_
    cases hf
    refine mm_widen (ck' := rmX0_obeyControl.cells) (sk' := rmX0_obeyControl.slots) (Nat.le_of_ble_eq_true rfl) (Nat.le_of_ble_eq_true rfl) ?_
    exact mm_vret rfl dX0_obeyControl_162 ⟨rfl, rfl⟩
  rw [if_neg c36] at hf
  by_cases c41 : p1 = 15
  · rw [if_pos c41] at hf
    refine mm_tableEq (off := 154) (tgt := 155) dX0_obeyControl_1 c41 (by decide) (by decide) (by decide) (by decide) ?_
    refine mm_aload_n (j := 0) dX0_obeyControl_155 rfl rfl ?_
    obtain ⟨hs42, hf⟩ := mm_sh_s hf
    obtain ⟨q43, hq43, hf⟩ := mm_on_s hf
    refine mm_callVv cd_ok (kX0_changeScreens p0 hq43) hs42 rfl (Or.inl tw_412) cdX0_changeScreens tw_414 ts_13 nmX0_changeScreens rfl rfl (by simp only [List.map_cons, List.map_nil, mm_rf_cat]; exact Nat.le_of_ble_eq_true rfl) dX0_obeyControl_156 ⟨Nat.le_of_ble_eq_true rfl, Nat.le_of_ble_eq_true rfl⟩ ⟨Nat.le_of_ble_eq_true rfl, Nat.le_of_ble_eq_true rfl⟩ ?_
    refine mm_goto (tgt := 162) dX0_obeyControl_159 (by decide) ?_
    cases hf
    refine mm_widen (ck' := rmX0_obeyControl.cells) (sk' := rmX0_obeyControl.slots) (Nat.le_of_ble_eq_true rfl) (Nat.le_of_ble_eq_true rfl) ?_
    exact mm_vret rfl dX0_obeyControl_162 ⟨rfl, rfl⟩
  rw [if_neg c41] at hf
  by_cases c44 : p1 = 2
  · refine mm_tableEq (off := 161) (tgt := 162) dX0_obeyControl_1 c44 (by decide) (by decide) (by decide) (by decide) ?_
    cases hf
    refine mm_widen (ck' := rmX0_obeyControl.cells) (sk' := rmX0_obeyControl.slots) (Nat.le_of_ble_eq_true rfl) (Nat.le_of_ble_eq_true rfl) ?_
    exact mm_vret rfl dX0_obeyControl_162 ⟨rfl, rfl⟩
  by_cases c45 : p1 = 3
  · refine mm_tableEq (off := 161) (tgt := 162) dX0_obeyControl_1 c45 (by decide) (by decide) (by decide) (by decide) ?_
    cases hf
    refine mm_widen (ck' := rmX0_obeyControl.cells) (sk' := rmX0_obeyControl.slots) (Nat.le_of_ble_eq_true rfl) (Nat.le_of_ble_eq_true rfl) ?_
    exact mm_vret rfl dX0_obeyControl_162 ⟨rfl, rfl⟩
  by_cases c46 : p1 = 8
  · refine mm_tableEq (off := 161) (tgt := 162) dX0_obeyControl_1 c46 (by decide) (by decide) (by decide) (by decide) ?_
    cases hf
    refine mm_widen (ck' := rmX0_obeyControl.cells) (sk' := rmX0_obeyControl.slots) (Nat.le_of_ble_eq_true rfl) (Nat.le_of_ble_eq_true rfl) ?_
    exact mm_vret rfl dX0_obeyControl_162 ⟨rfl, rfl⟩
  refine mm_tableOut (tgt := 162) dX0_obeyControl_1 (by have nc1 := mm_neI (k := 0) (by decide) c1; have nc4 := mm_neI (k := 1) (by decide) c4; have nc7 := mm_neI (k := 4) (by decide) c7; have nc10 := mm_neI (k := 5) (by decide) c10; have nc13 := mm_neI (k := 6) (by decide) c13; have nc16 := mm_neI (k := 7) (by decide) c16; have nc19 := mm_neI (k := 9) (by decide) c19; have nc22 := mm_neI (k := 10) (by decide) c22; have nc25 := mm_neI (k := 11) (by decide) c25; have nc28 := mm_neI (k := 12) (by decide) c28; have nc33 := mm_neI (k := 13) (by decide) c33; have nc36 := mm_neI (k := 14) (by decide) c36; have nc41 := mm_neI (k := 15) (by decide) c41; have nc44 := mm_neI (k := 2) (by decide) c44; have nc45 := mm_neI (k := 3) (by decide) c45; have nc46 := mm_neI (k := 8) (by decide) c46; omega) (by decide) ?_
  cases hf
  refine mm_widen (ck' := rmX0_obeyControl.cells) (sk' := rmX0_obeyControl.slots) (Nat.le_of_ble_eq_true rfl) (Nat.le_of_ble_eq_true rfl) ?_
  exact mm_vret rfl dX0_obeyControl_162 ⟨rfl, rfl⟩
theorem dX8_takeLetters_0 : decode cX8_takeLetters 0 = .ok (.aload_n 0, 1) := by decide +kernel
theorem dX8_takeLetters_1 : decode cX8_takeLetters 1 = .ok (.getfield 15, 3) := by decide +kernel
theorem dX8_takeLetters_4 : decode cX8_takeLetters 4 = .ok (.iload_n 1, 1) := by decide +kernel
theorem dX8_takeLetters_5 : decode cX8_takeLetters 5 = .ok (.iaload, 1) := by decide +kernel
theorem dX8_takeLetters_6 : decode cX8_takeLetters 6 = .ok (.istore 4, 2) := by decide +kernel
theorem dX8_takeLetters_8 : decode cX8_takeLetters 8 = .ok (.iload 4, 2) := by decide +kernel
theorem dX8_takeLetters_10 : decode cX8_takeLetters 10 = .ok (.iconst 4, 1) := by decide +kernel
theorem dX8_takeLetters_11 : decode cX8_takeLetters 11 = .ok (.invokestatic 62, 3) := by decide +kernel
theorem dX8_takeLetters_14 : decode cX8_takeLetters 14 = .ok (.ifCond .ne 10, 3) := by decide +kernel
theorem dX8_takeLetters_17 : decode cX8_takeLetters 17 = .ok (.iload_n 2, 1) := by decide +kernel
theorem dX8_takeLetters_18 : decode cX8_takeLetters 18 = .ok (.invokestatic 126, 3) := by decide +kernel
theorem dX8_takeLetters_21 : decode cX8_takeLetters 21 = .ok (.ifCond .ne 5, 3) := by decide +kernel
theorem dX8_takeLetters_24 : decode cX8_takeLetters 24 = .ok (.iconst 0, 1) := by decide +kernel
theorem dX8_takeLetters_25 : decode cX8_takeLetters 25 = .ok (.ireturn, 1) := by decide +kernel
theorem dX8_takeLetters_26 : decode cX8_takeLetters 26 = .ok (.iload_n 2, 1) := by decide +kernel
theorem dX8_takeLetters_27 : decode cX8_takeLetters 27 = .ok (.bipush 127, 2) := by decide +kernel
theorem dX8_takeLetters_29 : decode cX8_takeLetters 29 = .ok (.iand, 1) := by decide +kernel
theorem dX8_takeLetters_30 : decode cX8_takeLetters 30 = .ok (.istore 5, 2) := by decide +kernel
theorem dX8_takeLetters_32 : decode cX8_takeLetters 32 = .ok (.iload 5, 2) := by decide +kernel
theorem dX8_takeLetters_34 : decode cX8_takeLetters 34 = .ok (.bipush 32, 2) := by decide +kernel
theorem dX8_takeLetters_36 : decode cX8_takeLetters 36 = .ok (.if_icmp .lt 28, 3) := by decide +kernel
theorem dX8_takeLetters_39 : decode cX8_takeLetters 39 = .ok (.aload_n 0, 1) := by decide +kernel
theorem dX8_takeLetters_40 : decode cX8_takeLetters 40 = .ok (.getfield 11, 3) := by decide +kernel
theorem dX8_takeLetters_43 : decode cX8_takeLetters 43 = .ok (.iload 4, 2) := by decide +kernel
theorem dX8_takeLetters_45 : decode cX8_takeLetters 45 = .ok (.aaload, 1) := by decide +kernel
theorem dX8_takeLetters_46 : decode cX8_takeLetters 46 = .ok (.iload 5, 2) := by decide +kernel
theorem dX8_takeLetters_48 : decode cX8_takeLetters 48 = .ok (.invokevirtual 130, 3) := by decide +kernel
theorem dX8_takeLetters_51 : decode cX8_takeLetters 51 = .ok (.aload_n 0, 1) := by decide +kernel
theorem dX8_takeLetters_52 : decode cX8_takeLetters 52 = .ok (.getfield 11, 3) := by decide +kernel
theorem dX8_takeLetters_55 : decode cX8_takeLetters 55 = .ok (.iload 4, 2) := by decide +kernel
theorem dX8_takeLetters_57 : decode cX8_takeLetters 57 = .ok (.aaload, 1) := by decide +kernel
theorem dX8_takeLetters_58 : decode cX8_takeLetters 58 = .ok (.iload_n 3, 1) := by decide +kernel
theorem dX8_takeLetters_59 : decode cX8_takeLetters 59 = .ok (.invokestatic 134, 3) := by decide +kernel
theorem dX8_takeLetters_62 : decode cX8_takeLetters 62 = .ok (.iconst 1, 1) := by decide +kernel
theorem dX8_takeLetters_63 : decode cX8_takeLetters 63 = .ok (.ireturn, 1) := by decide +kernel
theorem dX8_takeLetters_64 : decode cX8_takeLetters 64 = .ok (.iload 5, 2) := by decide +kernel
theorem dX8_takeLetters_66 : decode cX8_takeLetters 66 = .ok (.ifCond .ne 35, 3) := by decide +kernel
theorem dX8_takeLetters_69 : decode cX8_takeLetters 69 = .ok (.iload_n 3, 1) := by decide +kernel
theorem dX8_takeLetters_70 : decode cX8_takeLetters 70 = .ok (.invokestatic 126, 3) := by decide +kernel
theorem dX8_takeLetters_73 : decode cX8_takeLetters 73 = .ok (.ifCond .eq 28, 3) := by decide +kernel
theorem dX8_takeLetters_76 : decode cX8_takeLetters 76 = .ok (.iload_n 3, 1) := by decide +kernel
theorem dX8_takeLetters_77 : decode cX8_takeLetters 77 = .ok (.bipush 127, 2) := by decide +kernel
theorem dX8_takeLetters_79 : decode cX8_takeLetters 79 = .ok (.iand, 1) := by decide +kernel
theorem dX8_takeLetters_80 : decode cX8_takeLetters 80 = .ok (.bipush 32, 2) := by decide +kernel
theorem dX8_takeLetters_82 : decode cX8_takeLetters 82 = .ok (.if_icmp .lt 19, 3) := by decide +kernel
theorem dX8_takeLetters_85 : decode cX8_takeLetters 85 = .ok (.aload_n 0, 1) := by decide +kernel
theorem dX8_takeLetters_86 : decode cX8_takeLetters 86 = .ok (.getfield 11, 3) := by decide +kernel
theorem dX8_takeLetters_89 : decode cX8_takeLetters 89 = .ok (.iload 4, 2) := by decide +kernel
theorem dX8_takeLetters_91 : decode cX8_takeLetters 91 = .ok (.aaload, 1) := by decide +kernel
theorem dX8_takeLetters_92 : decode cX8_takeLetters 92 = .ok (.iload_n 3, 1) := by decide +kernel
theorem dX8_takeLetters_93 : decode cX8_takeLetters 93 = .ok (.bipush 127, 2) := by decide +kernel
theorem dX8_takeLetters_95 : decode cX8_takeLetters 95 = .ok (.iand, 1) := by decide +kernel
theorem dX8_takeLetters_96 : decode cX8_takeLetters 96 = .ok (.invokevirtual 130, 3) := by decide +kernel
theorem dX8_takeLetters_99 : decode cX8_takeLetters 99 = .ok (.iconst 1, 1) := by decide +kernel
theorem dX8_takeLetters_100 : decode cX8_takeLetters 100 = .ok (.ireturn, 1) := by decide +kernel
theorem dX8_takeLetters_101 : decode cX8_takeLetters 101 = .ok (.iconst 0, 1) := by decide +kernel
theorem dX8_takeLetters_102 : decode cX8_takeLetters 102 = .ok (.ireturn, 1) := by decide +kernel
theorem nmX8_takeLetters : mm_nm yX8_takeLetters 3 := ⟨by decide, by decide, by decide +kernel⟩
theorem cdX8_takeLetters : mm_cd cd_Y yX8_takeLetters cX8_takeLetters 6 (some .boolean) := ⟨tw_317, tw_1⟩
abbrev rmX8_takeLetters : Room := { frames := 4, cells := 0, slots := 0, locals := 88 }
def fX8_takeLetters (p0 : Nat) (p1 : Int32) (p2 : Int32) (p3 : Int32) (σ : mm_M) : Option (Int32 × mm_M) :=
  mm_sh σ p0 (.inl 8) (mm_on (mm_R σ p0 1) fun q2 => mm_ar σ q2 0 fun n3 => mm_ib p1 n3 ((if (fX8_isOutside (mm_I σ q2 p1.toNatClampNeg) 4) = 0 then (if (fX8_isRight p2) = 0 then some (0, σ) else (if (p2 &&& 127) < 32 then (if (p2 &&& 127) = 0 then (if (fX8_isRight p3) = 0 then some (0, σ) else (if (p3 &&& 127) < 32 then some (0, σ) else mm_on (mm_R σ p0 0) fun q11 => mm_ar σ q11 4 fun n12 => mm_ib (mm_I σ q2 p1.toNatClampNeg) n12 (mm_on (mm_R σ q11 (mm_I σ q2 p1.toNatClampNeg).toNatClampNeg) fun q14 => mm_sh σ q14 (.inl 0) (mm_on (fX0_put q14 (p3 &&& 127) σ) fun q16 => some (1, q16))))) else some (0, σ)) else mm_on (mm_R σ p0 0) fun q17 => mm_ar σ q17 4 fun n18 => mm_ib (mm_I σ q2 p1.toNatClampNeg) n18 (mm_on (mm_R σ q17 (mm_I σ q2 p1.toNatClampNeg).toNatClampNeg) fun q20 => mm_sh σ q20 (.inl 0) (mm_on (fX0_put q20 (p2 &&& 127) σ) fun q22 => mm_sh q22 p0 (.inl 8) (mm_on (mm_R q22 p0 0) fun q24 => mm_ar q22 q24 4 fun n25 => mm_ib (mm_I σ q2 p1.toNatClampNeg) n25 (mm_on (mm_R q22 q24 (mm_I σ q2 p1.toNatClampNeg).toNatClampNeg) fun q27 => mm_on (fX8_takeSecondLetter q27 p3 q22) fun q28 => some (1, q28))))))) else some (0, σ))))
set_option maxHeartbeats 4000000 in
set_option maxRecDepth 100000 in
theorem kX8_takeLetters {G : mm_G} {A : Nat → Prop} (p0 : Nat) (p1 : Int32) (p2 : Int32) (p3 : Int32) {σ : mm_M} {R : (Int32 × mm_M)} (hf : fX8_takeLetters p0 p1 p2 p3 σ = some R) : mm_C cd_Y G yX8_takeLetters cX8_takeLetters 6 (some .boolean) rmX8_takeLetters A [.ref p0, .int p1, .int p2, .int p3] σ (mm_Pi R.1 R.2) := by
  refine mm_C.of (by decide) (Nat.le_of_ble_eq_true rfl) ?_
  unfold fX8_takeLetters at hf
  have e0 : lv_args 0 [.ref p0, .int p1, .int p2, .int p3] = [(0, .ref p0), (1, .int p1), (2, .int p2), (3, .int p3)] := rfl
  rw [e0]
  generalize hini : ((yX8_takeLetters.name == "<init>"), none) = ini
  clear e0
  clear hini
  refine mm_aload_n (j := 0) dX8_takeLetters_0 rfl rfl ?_
  obtain ⟨hs1, hf⟩ := mm_sh_s hf
  refine mm_get (c := 8) (k := 1) (v := va_rf (mm_R σ p0 1)) cd_ok ⟨_, _, _, rfl, by decide, Or.inl tw_141⟩ hs1 rfl dX8_takeLetters_1 ?_
  refine mm_iload_n (j := 1) dX8_takeLetters_4 rfl rfl ?_
  obtain ⟨q2, hq2, hf⟩ := mm_on_s hf
  rw [hq2, mm_rf_some]
  obtain ⟨n3, hn3, hf⟩ := mm_ar_s hf
  obtain ⟨hi4, hf⟩ := mm_ib_s hf
  refine mm_iald hn3 rfl hi4 dX8_takeLetters_5 ?_
  refine mm_istore (L' := [(4, .int (mm_I σ q2 p1.toNatClampNeg)), (0, .ref p0), (1, .int p1), (2, .int p2), (3, .int p3)]) dX8_takeLetters_6 (by decide) rfl ?_
  refine mm_iload (j := 0) dX8_takeLetters_8 rfl ?_
  refine mm_iconst (v := 4) dX8_takeLetters_10 (by decide) ?_
  refine mm_callSi cd_ok (kX8_isOutside (mm_I σ q2 p1.toNatClampNeg) 4 _ rfl) (Or.inl tw_239) cdX8_isOutside tw_221 nmX8_isOutside rfl rfl (by simp only [List.map_cons, List.map_nil, mm_rf_cat]; exact Nat.le_of_ble_eq_true rfl) dX8_takeLetters_11 ⟨Nat.le_of_ble_eq_true rfl, Nat.le_of_ble_eq_true rfl⟩ ⟨Nat.le_of_ble_eq_true rfl, Nat.le_of_ble_eq_true rfl⟩ ?_
  refine mm_if_ne (tgt := 24) dX8_takeLetters_14 (by decide) (fun c5 => ?_) (fun c5 => ?_)
  · rw [if_neg c5] at hf
    refine mm_iconst (v := 0) dX8_takeLetters_24 (by decide) ?_
    cases hf
    refine mm_widen (ck' := rmX8_takeLetters.cells) (sk' := rmX8_takeLetters.slots) (Nat.le_of_ble_eq_true rfl) (Nat.le_of_ble_eq_true rfl) ?_
    exact mm_iret rfl rfl dX8_takeLetters_25 ⟨rfl, rfl⟩
  · rw [if_pos c5] at hf
    refine mm_iload_n (j := 3) dX8_takeLetters_17 rfl rfl ?_
    refine mm_callSi cd_ok (kX8_isRight p2 _ rfl) (Or.inl tw_311) cdX8_isRight tw_312 nmX8_isRight rfl rfl (by simp only [List.map_cons, List.map_nil, mm_rf_cat]; exact Nat.le_of_ble_eq_true rfl) dX8_takeLetters_18 ⟨Nat.le_of_ble_eq_true rfl, Nat.le_of_ble_eq_true rfl⟩ ⟨Nat.le_of_ble_eq_true rfl, Nat.le_of_ble_eq_true rfl⟩ ?_
    refine mm_if_ne (tgt := 26) dX8_takeLetters_21 (by decide) (fun c6 => ?_) (fun c6 => ?_)
    · rw [if_neg c6] at hf
      refine mm_iload_n (j := 3) dX8_takeLetters_26 rfl rfl ?_
      refine mm_bipush (v := 127) dX8_takeLetters_27 (by decide) ?_
      refine mm_iand dX8_takeLetters_29 ?_
      refine mm_istore (L' := [(5, .int (p2 &&& 127)), (4, .int (mm_I σ q2 p1.toNatClampNeg)), (0, .ref p0), (1, .int p1), (2, .int p2), (3, .int p3)]) dX8_takeLetters_30 (by decide) rfl ?_
      refine mm_iload (j := 0) dX8_takeLetters_32 rfl ?_
      refine mm_bipush (v := 32) dX8_takeLetters_34 (by decide) ?_
      refine mm_icmp_lt (tgt := 64) dX8_takeLetters_36 (by decide) (fun c7 => ?_) (fun c7 => ?_)
      · rw [if_pos c7] at hf
        refine mm_iload (j := 0) dX8_takeLetters_64 rfl ?_
        refine mm_if_ne (tgt := 101) dX8_takeLetters_66 (by decide) (fun c8 => ?_) (fun c8 => ?_)
        · rw [if_neg c8] at hf
          refine mm_iconst (v := 0) dX8_takeLetters_101 (by decide) ?_
          cases hf
          refine mm_widen (ck' := rmX8_takeLetters.cells) (sk' := rmX8_takeLetters.slots) (Nat.le_of_ble_eq_true rfl) (Nat.le_of_ble_eq_true rfl) ?_
          exact mm_iret rfl rfl dX8_takeLetters_102 ⟨rfl, rfl⟩
        · rw [if_pos c8] at hf
          refine mm_iload_n (j := 5) dX8_takeLetters_69 rfl rfl ?_
          refine mm_callSi cd_ok (kX8_isRight p3 _ rfl) (Or.inl tw_311) cdX8_isRight tw_312 nmX8_isRight rfl rfl (by simp only [List.map_cons, List.map_nil, mm_rf_cat]; exact Nat.le_of_ble_eq_true rfl) dX8_takeLetters_70 ⟨Nat.le_of_ble_eq_true rfl, Nat.le_of_ble_eq_true rfl⟩ ⟨Nat.le_of_ble_eq_true rfl, Nat.le_of_ble_eq_true rfl⟩ ?_
          refine mm_if_eq (tgt := 101) dX8_takeLetters_73 (by decide) (fun c9 => ?_) (fun c9 => ?_)
          · rw [if_pos c9] at hf
            refine mm_iconst (v := 0) dX8_takeLetters_101 (by decide) ?_
            cases hf
            refine mm_widen (ck' := rmX8_takeLetters.cells) (sk' := rmX8_takeLetters.slots) (Nat.le_of_ble_eq_true rfl) (Nat.le_of_ble_eq_true rfl) ?_
            exact mm_iret rfl rfl dX8_takeLetters_102 ⟨rfl, rfl⟩
          · rw [if_neg c9] at hf
            refine mm_iload_n (j := 5) dX8_takeLetters_76 rfl rfl ?_
            refine mm_bipush (v := 127) dX8_takeLetters_77 (by decide) ?_
            refine mm_iand dX8_takeLetters_79 ?_
            refine mm_bipush (v := 32) dX8_takeLetters_80 (by decide) ?_
            refine mm_icmp_lt (tgt := 101) dX8_takeLetters_82 (by decide) (fun c10 => ?_) (fun c10 => ?_)
            · rw [if_pos c10] at hf
              refine mm_iconst (v := 0) dX8_takeLetters_101 (by decide) ?_
              cases hf
              refine mm_widen (ck' := rmX8_takeLetters.cells) (sk' := rmX8_takeLetters.slots) (Nat.le_of_ble_eq_true rfl) (Nat.le_of_ble_eq_true rfl) ?_
              exact mm_iret rfl rfl dX8_takeLetters_102 ⟨rfl, rfl⟩
            · rw [if_neg c10] at hf
              refine mm_aload_n (j := 2) dX8_takeLetters_85 rfl rfl ?_
              refine mm_get (c := 8) (k := 0) (v := va_rf (mm_R σ p0 0)) cd_ok ⟨_, _, _, rfl, by decide, Or.inl tw_140⟩ hs1 rfl dX8_takeLetters_86 ?_
              refine mm_iload (j := 1) dX8_takeLetters_89 rfl ?_
              obtain ⟨q11, hq11, hf⟩ := mm_on_s hf
              rw [hq11, mm_rf_some]
              obtain ⟨n12, hn12, hf⟩ := mm_ar_s hf
              obtain ⟨hi13, hf⟩ := mm_ib_s hf
              refine mm_aald (v := va_rf (mm_R σ q11 (mm_I σ q2 p1.toNatClampNeg).toNatClampNeg)) hn12 rfl hi13 rfl dX8_takeLetters_91 ?_
              refine mm_iload_n (j := 5) dX8_takeLetters_92 rfl rfl ?_
              refine mm_bipush (v := 127) dX8_takeLetters_93 (by decide) ?_
              refine mm_iand dX8_takeLetters_95 ?_
              obtain ⟨q14, hq14, hf⟩ := mm_on_s hf
              rw [hq14, mm_rf_some]
              obtain ⟨hs15, hf⟩ := mm_sh_s hf
              obtain ⟨q16, hq16, hf⟩ := mm_on_s hf
              refine mm_callVv cd_ok (kX0_put q14 (p3 &&& 127) hq16) hs15 rfl (Or.inl tw_318) cdX0_put tw_319 tw_320 nmX0_put rfl rfl (by simp only [List.map_cons, List.map_nil, mm_rf_cat]; exact Nat.le_of_ble_eq_true rfl) dX8_takeLetters_96 ⟨Nat.le_of_ble_eq_true rfl, Nat.le_of_ble_eq_true rfl⟩ ⟨Nat.le_of_ble_eq_true rfl, Nat.le_of_ble_eq_true rfl⟩ ?_
              refine mm_iconst (v := 1) dX8_takeLetters_99 (by decide) ?_
              cases hf
              refine mm_widen (ck' := rmX8_takeLetters.cells) (sk' := rmX8_takeLetters.slots) (Nat.le_of_ble_eq_true rfl) (Nat.le_of_ble_eq_true rfl) ?_
              exact mm_iret rfl rfl dX8_takeLetters_100 ⟨rfl, rfl⟩
      · rw [if_neg c7] at hf
        refine mm_aload_n (j := 2) dX8_takeLetters_39 rfl rfl ?_
        refine mm_get (c := 8) (k := 0) (v := va_rf (mm_R σ p0 0)) cd_ok ⟨_, _, _, rfl, by decide, Or.inl tw_140⟩ hs1 rfl dX8_takeLetters_40 ?_
        refine mm_iload (j := 1) dX8_takeLetters_43 rfl ?_
        obtain ⟨q17, hq17, hf⟩ := mm_on_s hf
        rw [hq17, mm_rf_some]
        obtain ⟨n18, hn18, hf⟩ := mm_ar_s hf
        obtain ⟨hi19, hf⟩ := mm_ib_s hf
        refine mm_aald (v := va_rf (mm_R σ q17 (mm_I σ q2 p1.toNatClampNeg).toNatClampNeg)) hn18 rfl hi19 rfl dX8_takeLetters_45 ?_
        refine mm_iload (j := 0) dX8_takeLetters_46 rfl ?_
        obtain ⟨q20, hq20, hf⟩ := mm_on_s hf
        rw [hq20, mm_rf_some]
        obtain ⟨hs21, hf⟩ := mm_sh_s hf
        obtain ⟨q22, hq22, hf⟩ := mm_on_s hf
        refine mm_callVv cd_ok (kX0_put q20 (p2 &&& 127) hq22) hs21 rfl (Or.inl tw_318) cdX0_put tw_319 tw_320 nmX0_put rfl rfl (by simp only [List.map_cons, List.map_nil, mm_rf_cat]; exact Nat.le_of_ble_eq_true rfl) dX8_takeLetters_48 ⟨Nat.le_of_ble_eq_true rfl, Nat.le_of_ble_eq_true rfl⟩ ⟨Nat.le_of_ble_eq_true rfl, Nat.le_of_ble_eq_true rfl⟩ ?_
        refine mm_aload_n (j := 2) dX8_takeLetters_51 rfl rfl ?_
        obtain ⟨hs23, hf⟩ := mm_sh_s hf
        refine mm_get (c := 8) (k := 0) (v := va_rf (mm_R q22 p0 0)) cd_ok ⟨_, _, _, rfl, by decide, Or.inl tw_140⟩ hs23 rfl dX8_takeLetters_52 ?_
        refine mm_iload (j := 1) dX8_takeLetters_55 rfl ?_
        obtain ⟨q24, hq24, hf⟩ := mm_on_s hf
        rw [hq24, mm_rf_some]
        obtain ⟨n25, hn25, hf⟩ := mm_ar_s hf
        obtain ⟨hi26, hf⟩ := mm_ib_s hf
        refine mm_aald (v := va_rf (mm_R q22 q24 (mm_I σ q2 p1.toNatClampNeg).toNatClampNeg)) hn25 rfl hi26 rfl dX8_takeLetters_57 ?_
        refine mm_iload_n (j := 5) dX8_takeLetters_58 rfl rfl ?_
        obtain ⟨q27, hq27, hf⟩ := mm_on_s hf
        rw [hq27, mm_rf_some]
        obtain ⟨q28, hq28, hf⟩ := mm_on_s hf
        refine mm_callSv cd_ok (kX8_takeSecondLetter q27 p3 hq28) (Or.inl tw_339) cdX8_takeSecondLetter tw_340 nmX8_takeSecondLetter rfl rfl (by simp only [List.map_cons, List.map_nil, mm_rf_cat]; exact Nat.le_of_ble_eq_true rfl) dX8_takeLetters_59 ⟨Nat.le_of_ble_eq_true rfl, Nat.le_of_ble_eq_true rfl⟩ ⟨Nat.le_of_ble_eq_true rfl, Nat.le_of_ble_eq_true rfl⟩ ?_
        refine mm_iconst (v := 1) dX8_takeLetters_62 (by decide) ?_
        cases hf
        refine mm_widen (ck' := rmX8_takeLetters.cells) (sk' := rmX8_takeLetters.slots) (Nat.le_of_ble_eq_true rfl) (Nat.le_of_ble_eq_true rfl) ?_
        exact mm_iret rfl rfl dX8_takeLetters_63 ⟨rfl, rfl⟩
    · rw [if_pos c6] at hf
      refine mm_iconst (v := 0) dX8_takeLetters_24 (by decide) ?_
      cases hf
      refine mm_widen (ck' := rmX8_takeLetters.cells) (sk' := rmX8_takeLetters.slots) (Nat.le_of_ble_eq_true rfl) (Nat.le_of_ble_eq_true rfl) ?_
      exact mm_iret rfl rfl dX8_takeLetters_25 ⟨rfl, rfl⟩
theorem dX8_takeHeader_0 : decode cX8_takeHeader 0 = .ok (.aload_n 0, 1) := by decide +kernel
theorem dX8_takeHeader_1 : decode cX8_takeHeader 1 = .ok (.iconst 2, 1) := by decide +kernel
theorem dX8_takeHeader_2 : decode cX8_takeHeader 2 = .ok (.bipush 8, 2) := by decide +kernel
theorem dX8_takeHeader_4 : decode cX8_takeHeader 4 = .ok (.invokevirtual 247, 3) := by decide +kernel
theorem dX8_takeHeader_7 : decode cX8_takeHeader 7 = .ok (.ifCond .ne 14, 3) := by decide +kernel
theorem dX8_takeHeader_10 : decode cX8_takeHeader 10 = .ok (.aload_n 0, 1) := by decide +kernel
theorem dX8_takeHeader_11 : decode cX8_takeHeader 11 = .ok (.getfield 28, 3) := by decide +kernel
theorem dX8_takeHeader_14 : decode cX8_takeHeader 14 = .ok (.iconst 1, 1) := by decide +kernel
theorem dX8_takeHeader_15 : decode cX8_takeHeader 15 = .ok (.dup2, 1) := by decide +kernel
theorem dX8_takeHeader_16 : decode cX8_takeHeader 16 = .ok (.iaload, 1) := by decide +kernel
theorem dX8_takeHeader_17 : decode cX8_takeHeader 17 = .ok (.iconst 1, 1) := by decide +kernel
theorem dX8_takeHeader_18 : decode cX8_takeHeader 18 = .ok (.iadd, 1) := by decide +kernel
theorem dX8_takeHeader_19 : decode cX8_takeHeader 19 = .ok (.iastore, 1) := by decide +kernel
theorem dX8_takeHeader_20 : decode cX8_takeHeader 20 = .ok (.return_, 1) := by decide +kernel
theorem dX8_takeHeader_21 : decode cX8_takeHeader 21 = .ok (.aload_n 0, 1) := by decide +kernel
theorem dX8_takeHeader_22 : decode cX8_takeHeader 22 = .ok (.getfield 25, 3) := by decide +kernel
theorem dX8_takeHeader_25 : decode cX8_takeHeader 25 = .ok (.bipush 7, 2) := by decide +kernel
theorem dX8_takeHeader_27 : decode cX8_takeHeader 27 = .ok (.iaload, 1) := by decide +kernel
theorem dX8_takeHeader_28 : decode cX8_takeHeader 28 = .ok (.iconst 1, 1) := by decide +kernel
theorem dX8_takeHeader_29 : decode cX8_takeHeader 29 = .ok (.iand, 1) := by decide +kernel
theorem dX8_takeHeader_30 : decode cX8_takeHeader 30 = .ok (.iconst 1, 1) := by decide +kernel
theorem dX8_takeHeader_31 : decode cX8_takeHeader 31 = .ok (.if_icmp .ne 7, 3) := by decide +kernel
theorem dX8_takeHeader_34 : decode cX8_takeHeader 34 = .ok (.iconst 1, 1) := by decide +kernel
theorem dX8_takeHeader_35 : decode cX8_takeHeader 35 = .ok (.goto 4, 3) := by decide +kernel
theorem dX8_takeHeader_38 : decode cX8_takeHeader 38 = .ok (.iconst 0, 1) := by decide +kernel
theorem dX8_takeHeader_39 : decode cX8_takeHeader 39 = .ok (.istore_n 2, 1) := by decide +kernel
theorem dX8_takeHeader_40 : decode cX8_takeHeader 40 = .ok (.iconst 1, 1) := by decide +kernel
theorem dX8_takeHeader_41 : decode cX8_takeHeader 41 = .ok (.istore_n 3, 1) := by decide +kernel
theorem dX8_takeHeader_42 : decode cX8_takeHeader 42 = .ok (.iload_n 3, 1) := by decide +kernel
theorem dX8_takeHeader_43 : decode cX8_takeHeader 43 = .ok (.bipush 8, 2) := by decide +kernel
theorem dX8_takeHeader_45 : decode cX8_takeHeader 45 = .ok (.if_icmp .gt 23, 3) := by decide +kernel
theorem dX8_takeHeader_48 : decode cX8_takeHeader 48 = .ok (.iload_n 2, 1) := by decide +kernel
theorem dX8_takeHeader_49 : decode cX8_takeHeader 49 = .ok (.ifCond .ne 8, 3) := by decide +kernel
theorem dX8_takeHeader_52 : decode cX8_takeHeader 52 = .ok (.iload_n 3, 1) := by decide +kernel
theorem dX8_takeHeader_53 : decode cX8_takeHeader 53 = .ok (.iload_n 1, 1) := by decide +kernel
theorem dX8_takeHeader_54 : decode cX8_takeHeader 54 = .ok (.if_icmp .ne 8, 3) := by decide +kernel
theorem dX8_takeHeader_57 : decode cX8_takeHeader 57 = .ok (.aload_n 0, 1) := by decide +kernel
theorem dX8_takeHeader_58 : decode cX8_takeHeader 58 = .ok (.iload_n 3, 1) := by decide +kernel
theorem dX8_takeHeader_59 : decode cX8_takeHeader 59 = .ok (.invokevirtual 250, 3) := by decide +kernel
theorem dX8_takeHeader_62 : decode cX8_takeHeader 62 = .ok (.iinc 3 1, 3) := by decide +kernel
theorem dX8_takeHeader_65 : decode cX8_takeHeader 65 = .ok (.goto (-23), 3) := by decide +kernel
theorem dX8_takeHeader_68 : decode cX8_takeHeader 68 = .ok (.bipush 16, 2) := by decide +kernel
theorem dX8_takeHeader_70 : decode cX8_takeHeader 70 = .ok (.aload_n 0, 1) := by decide +kernel
theorem dX8_takeHeader_71 : decode cX8_takeHeader 71 = .ok (.getfield 25, 3) := by decide +kernel
theorem dX8_takeHeader_74 : decode cX8_takeHeader 74 = .ok (.iconst 1, 1) := by decide +kernel
theorem dX8_takeHeader_75 : decode cX8_takeHeader 75 = .ok (.iaload, 1) := by decide +kernel
theorem dX8_takeHeader_76 : decode cX8_takeHeader 76 = .ok (.imul, 1) := by decide +kernel
theorem dX8_takeHeader_77 : decode cX8_takeHeader 77 = .ok (.aload_n 0, 1) := by decide +kernel
theorem dX8_takeHeader_78 : decode cX8_takeHeader 78 = .ok (.getfield 25, 3) := by decide +kernel
theorem dX8_takeHeader_81 : decode cX8_takeHeader 81 = .ok (.iconst 0, 1) := by decide +kernel
theorem dX8_takeHeader_82 : decode cX8_takeHeader 82 = .ok (.iaload, 1) := by decide +kernel
theorem dX8_takeHeader_83 : decode cX8_takeHeader 83 = .ok (.iadd, 1) := by decide +kernel
theorem dX8_takeHeader_84 : decode cX8_takeHeader 84 = .ok (.istore_n 3, 1) := by decide +kernel
theorem dX8_takeHeader_85 : decode cX8_takeHeader 85 = .ok (.iload_n 3, 1) := by decide +kernel
theorem dX8_takeHeader_86 : decode cX8_takeHeader 86 = .ok (.sipush 255, 3) := by decide +kernel
theorem dX8_takeHeader_89 : decode cX8_takeHeader 89 = .ok (.if_icmp .ne 4, 3) := by decide +kernel
theorem dX8_takeHeader_92 : decode cX8_takeHeader 92 = .ok (.return_, 1) := by decide +kernel
theorem dX8_takeHeader_93 : decode cX8_takeHeader 93 = .ok (.aload_n 0, 1) := by decide +kernel
theorem dX8_takeHeader_94 : decode cX8_takeHeader 94 = .ok (.getfield 25, 3) := by decide +kernel
theorem dX8_takeHeader_97 : decode cX8_takeHeader 97 = .ok (.iconst 2, 1) := by decide +kernel
theorem dX8_takeHeader_98 : decode cX8_takeHeader 98 = .ok (.iaload, 1) := by decide +kernel
theorem dX8_takeHeader_99 : decode cX8_takeHeader 99 = .ok (.aload_n 0, 1) := by decide +kernel
theorem dX8_takeHeader_100 : decode cX8_takeHeader 100 = .ok (.getfield 25, 3) := by decide +kernel
theorem dX8_takeHeader_103 : decode cX8_takeHeader 103 = .ok (.iconst 3, 1) := by decide +kernel
theorem dX8_takeHeader_104 : decode cX8_takeHeader 104 = .ok (.iaload, 1) := by decide +kernel
theorem dX8_takeHeader_105 : decode cX8_takeHeader 105 = .ok (.aload_n 0, 1) := by decide +kernel
theorem dX8_takeHeader_106 : decode cX8_takeHeader 106 = .ok (.getfield 25, 3) := by decide +kernel
theorem dX8_takeHeader_109 : decode cX8_takeHeader 109 = .ok (.iconst 4, 1) := by decide +kernel
theorem dX8_takeHeader_110 : decode cX8_takeHeader 110 = .ok (.iaload, 1) := by decide +kernel
theorem dX8_takeHeader_111 : decode cX8_takeHeader 111 = .ok (.aload_n 0, 1) := by decide +kernel
theorem dX8_takeHeader_112 : decode cX8_takeHeader 112 = .ok (.getfield 25, 3) := by decide +kernel
theorem dX8_takeHeader_115 : decode cX8_takeHeader 115 = .ok (.iconst 5, 1) := by decide +kernel
theorem dX8_takeHeader_116 : decode cX8_takeHeader 116 = .ok (.iaload, 1) := by decide +kernel
theorem dX8_takeHeader_117 : decode cX8_takeHeader 117 = .ok (.invokestatic 253, 3) := by decide +kernel
theorem dX8_takeHeader_120 : decode cX8_takeHeader 120 = .ok (.istore 4, 2) := by decide +kernel
theorem dX8_takeHeader_122 : decode cX8_takeHeader 122 = .ok (.aload_n 0, 1) := by decide +kernel
theorem dX8_takeHeader_123 : decode cX8_takeHeader 123 = .ok (.aload_n 0, 1) := by decide +kernel
theorem dX8_takeHeader_124 : decode cX8_takeHeader 124 = .ok (.getfield 34, 3) := by decide +kernel
theorem dX8_takeHeader_127 : decode cX8_takeHeader 127 = .ok (.iload_n 1, 1) := by decide +kernel
theorem dX8_takeHeader_128 : decode cX8_takeHeader 128 = .ok (.iload_n 3, 1) := by decide +kernel
theorem dX8_takeHeader_129 : decode cX8_takeHeader 129 = .ok (.iload 4, 2) := by decide +kernel
theorem dX8_takeHeader_131 : decode cX8_takeHeader 131 = .ok (.invokevirtual 257, 3) := by decide +kernel
theorem dX8_takeHeader_134 : decode cX8_takeHeader 134 = .ok (.invokevirtual 261, 3) := by decide +kernel
theorem dX8_takeHeader_137 : decode cX8_takeHeader 137 = .ok (.return_, 1) := by decide +kernel
theorem nmX8_takeHeader : mm_nm yX8_takeHeader 1 := ⟨by decide, by decide, by decide +kernel⟩
theorem cdX8_takeHeader : mm_cd cd_Y yX8_takeHeader cX8_takeHeader 5 none := ⟨tw_502, tw_1⟩
abbrev rmX8_takeHeader : Room := { frames := 5, cells := 5, slots := 1054, locals := 108 }
def fX8_takeHeader_57 (k42 : Nat → Int32 → Int32 → Int32 → mm_M → Option mm_M) (a0 : Nat) (x1 : Int32) (x2 : Int32) (x3 : Int32) (σ : mm_M) : Option mm_M :=
  mm_sh σ a0 (.inl 8) (mm_on (fX8_closePage a0 x3 σ) fun q38 => (k42 a0 x1 x2 (x3 + 1) q38))
def fX8_takeHeader_42  : Nat → Nat → Int32 → Int32 → Int32 → mm_M → Option mm_M
  | 0 => fun _ _ _ _ _ => none
  | n + 1 => fun a0 x1 x2 x3 σ =>
  (if 8 < x3 then mm_sh σ a0 (.inl 8) (mm_on (mm_R σ a0 5) fun q11 => mm_ar σ q11 0 fun n12 => mm_ib 1 n12 (mm_on (mm_R σ a0 5) fun q14 => mm_ar σ q14 0 fun n15 => mm_ib 0 n15 ((if ((16 * (mm_I σ q11 (1 : Int32).toNatClampNeg)) + (mm_I σ q14 (0 : Int32).toNatClampNeg)) = 255 then some (σ) else mm_on (mm_R σ a0 5) fun q18 => mm_ar σ q18 0 fun n19 => mm_ib 2 n19 (mm_on (mm_R σ a0 5) fun q21 => mm_ar σ q21 0 fun n22 => mm_ib 3 n22 (mm_on (mm_R σ a0 5) fun q24 => mm_ar σ q24 0 fun n25 => mm_ib 4 n25 (mm_on (mm_R σ a0 5) fun q27 => mm_ar σ q27 0 fun n28 => mm_ib 5 n28 (mm_on (mm_R σ a0 7) fun q30 => mm_sh σ q30 (.inl 6) (mm_on (fX6_bringToEnd q30 x1 ((16 * (mm_I σ q11 (1 : Int32).toNatClampNeg)) + (mm_I σ q14 (0 : Int32).toNatClampNeg)) (fX8_subcodeOf (mm_I σ q18 (2 : Int32).toNatClampNeg) (mm_I σ q21 (3 : Int32).toNatClampNeg) (mm_I σ q24 (4 : Int32).toNatClampNeg) (mm_I σ q27 (5 : Int32).toNatClampNeg)) σ) fun q32 => mm_on (q32.1) fun q33 => mm_sh q32.2 a0 (.inl 8) (mm_on (fX8_openPage a0 q33 q32.2) fun q35 => some (q35))))))))))) else (if x2 = 0 then (if x3 = x1 then (fX8_takeHeader_57 (fX8_takeHeader_42  n) a0 x1 x2 x3 σ) else (fX8_takeHeader_42  n a0 x1 x2 (x3 + 1) σ)) else (fX8_takeHeader_57 (fX8_takeHeader_42  n) a0 x1 x2 x3 σ)))
def fX8_takeHeader (p0 : Nat) (p1 : Int32) (σ : mm_M) : Option mm_M :=
  mm_sh σ p0 (.inl 8) (mm_on (fX8_readValues p0 2 8 σ) fun q2 => (if q2.1 = 0 then mm_sh q2.2 p0 (.inl 8) (mm_on (mm_R q2.2 p0 6) fun q41 => mm_ar q2.2 q41 0 fun n42 => mm_ib 1 n42 (mm_ib 1 n42 (mm_let (mm_wI q2.2 q41 ((1 : Int32).toNatClampNeg) ((mm_I q2.2 q41 (1 : Int32).toNatClampNeg) + 1)) fun s45 => some (s45)))) else mm_sh q2.2 p0 (.inl 8) (mm_on (mm_R q2.2 p0 5) fun q5 => mm_ar q2.2 q5 0 fun n6 => mm_ib 7 n6 ((if ((mm_I q2.2 q5 (7 : Int32).toNatClampNeg) &&& 1) = 1 then (fX8_takeHeader_42  mm_fuel p0 p1 1 1 q2.2) else (fX8_takeHeader_42  mm_fuel p0 p1 0 1 q2.2))))))
set_option maxHeartbeats 4000000 in
set_option maxRecDepth 100000 in
theorem kX8_takeHeader_57 {G : mm_G} {A : Nat → Prop} {ini : Bool × Option (List (Nat × Nat × Nat × Nat))} {k42 : Nat → Int32 → Int32 → Int32 → mm_M → Option mm_M} {R : mm_M} (hk42 : ∀ a0 x1 x2 x3 σ, k42 a0 x1 x2 x3 σ = some R → mm_J cd_Y G RX8 cX8_takeHeader 5 none ini rmX8_takeHeader A (mm_QF cd_Y G A (mm_Pv R) rmX8_takeHeader.cells rmX8_takeHeader.slots) 42 [(0, .ref a0), (1, .int x1), (2, .int x2), (3, .int x3)] [] σ 0 0) (a0 : Nat) (x1 : Int32) (x2 : Int32) (x3 : Int32) (σ : mm_M) (hf : fX8_takeHeader_57 k42 a0 x1 x2 x3 σ = some R) : mm_J cd_Y G RX8 cX8_takeHeader 5 none ini rmX8_takeHeader A (mm_QF cd_Y G A (mm_Pv R) rmX8_takeHeader.cells rmX8_takeHeader.slots) 57 [(0, .ref a0), (1, .int x1), (2, .int x2), (3, .int x3)] [] σ 0 0 := by
  unfold fX8_takeHeader_57 at hf
  refine mm_aload_n (j := 0) dX8_takeHeader_57 rfl rfl ?_
  refine mm_iload_n (j := 3) dX8_takeHeader_58 rfl rfl ?_
  obtain ⟨hs37, hf⟩ := mm_sh_s hf
  obtain ⟨q38, hq38, hf⟩ := mm_on_s hf
  refine mm_callVv cd_ok (kX8_closePage a0 x3 hq38) hs37 rfl (Or.inl tw_507) cdX8_closePage tw_509 ts_20 nmX8_closePage rfl rfl (by simp only [List.map_cons, List.map_nil, mm_rf_cat]; exact Nat.le_of_ble_eq_true rfl) dX8_takeHeader_59 ⟨Nat.le_of_ble_eq_true rfl, Nat.le_of_ble_eq_true rfl⟩ ⟨Nat.le_of_ble_eq_true rfl, Nat.le_of_ble_eq_true rfl⟩ ?_
  refine mm_iinc (j := 3) (L' := [(3, .int (x3 + 1)), (0, .ref a0), (1, .int x1), (2, .int x2)]) dX8_takeHeader_62 rfl rfl (by decide) rfl ?_
  refine mm_goto (tgt := 42) dX8_takeHeader_65 (by decide) ?_
  refine mm_sub [1, 2, 3, 0] rfl ?_
  refine mm_widen (ck' := 0) (sk' := 0) (Nat.le_of_ble_eq_true rfl) (Nat.le_of_ble_eq_true rfl) ?_
  exact hk42 a0 x1 x2 (x3 + 1) q38 hf
set_option maxHeartbeats 4000000 in
set_option maxRecDepth 100000 in
theorem kX8_takeHeader_42 {G : mm_G} {A : Nat → Prop} {ini : Bool × Option (List (Nat × Nat × Nat × Nat))}  {R : mm_M}  : ∀ (a0 : Nat) (x1 : Int32) (x2 : Int32) (x3 : Int32) (σ : mm_M), fX8_takeHeader_42  mm_fuel a0 x1 x2 x3 σ = some R → mm_J cd_Y G RX8 cX8_takeHeader 5 none ini rmX8_takeHeader A (mm_QF cd_Y G A (mm_Pv R) rmX8_takeHeader.cells rmX8_takeHeader.slots) 42 [(0, .ref a0), (1, .int x1), (2, .int x2), (3, .int x3)] [] σ 0 0 := by
  generalize mm_fuel = n
  induction n with
  | zero => intro a0 x1 x2 x3 σ hf; cases hf
  | succ n ih =>
    intro a0 x1 x2 x3 σ hf
    unfold fX8_takeHeader_42 at hf
    refine mm_iload_n (j := 3) dX8_takeHeader_42 rfl rfl ?_
    refine mm_bipush (v := 8) dX8_takeHeader_43 (by decide) ?_
    refine mm_icmp_gt (tgt := 68) dX8_takeHeader_45 (by decide) (fun c9 => ?_) (fun c9 => ?_)
    · rw [if_pos c9] at hf
      refine mm_bipush (v := 16) dX8_takeHeader_68 (by decide) ?_
      refine mm_aload_n (j := 0) dX8_takeHeader_70 rfl rfl ?_
      obtain ⟨hs10, hf⟩ := mm_sh_s hf
      refine mm_get (c := 8) (k := 5) (v := va_rf (mm_R σ a0 5)) cd_ok ⟨_, _, _, rfl, by decide, Or.inl tw_145⟩ hs10 rfl dX8_takeHeader_71 ?_
      refine mm_iconst (v := 1) dX8_takeHeader_74 (by decide) ?_
      obtain ⟨q11, hq11, hf⟩ := mm_on_s hf
      rw [hq11, mm_rf_some]
      obtain ⟨n12, hn12, hf⟩ := mm_ar_s hf
      obtain ⟨hi13, hf⟩ := mm_ib_s hf
      refine mm_iald hn12 rfl hi13 dX8_takeHeader_75 ?_
      refine mm_imul dX8_takeHeader_76 ?_
      refine mm_aload_n (j := 0) dX8_takeHeader_77 rfl rfl ?_
      refine mm_get (c := 8) (k := 5) (v := va_rf (mm_R σ a0 5)) cd_ok ⟨_, _, _, rfl, by decide, Or.inl tw_145⟩ hs10 rfl dX8_takeHeader_78 ?_
      refine mm_iconst (v := 0) dX8_takeHeader_81 (by decide) ?_
      obtain ⟨q14, hq14, hf⟩ := mm_on_s hf
      rw [hq14, mm_rf_some]
      obtain ⟨n15, hn15, hf⟩ := mm_ar_s hf
      obtain ⟨hi16, hf⟩ := mm_ib_s hf
      refine mm_iald hn15 rfl hi16 dX8_takeHeader_82 ?_
      refine mm_iadd dX8_takeHeader_83 ?_
      refine mm_istore_n (L' := [(3, .int ((16 * (mm_I σ q11 (1 : Int32).toNatClampNeg)) + (mm_I σ q14 (0 : Int32).toNatClampNeg))), (0, .ref a0), (1, .int x1), (2, .int x2)]) dX8_takeHeader_84 rfl (by decide) rfl ?_
      refine mm_iload_n (j := 0) dX8_takeHeader_85 rfl rfl ?_
      refine mm_sipush (v := 255) dX8_takeHeader_86 (by decide) ?_
      refine mm_icmp_ne (tgt := 93) dX8_takeHeader_89 (by decide) (fun c17 => ?_) (fun c17 => ?_)
      · rw [if_neg c17] at hf
        refine mm_aload_n (j := 1) dX8_takeHeader_93 rfl rfl ?_
        refine mm_get (c := 8) (k := 5) (v := va_rf (mm_R σ a0 5)) cd_ok ⟨_, _, _, rfl, by decide, Or.inl tw_145⟩ hs10 rfl dX8_takeHeader_94 ?_
        refine mm_iconst (v := 2) dX8_takeHeader_97 (by decide) ?_
        obtain ⟨q18, hq18, hf⟩ := mm_on_s hf
        rw [hq18, mm_rf_some]
        obtain ⟨n19, hn19, hf⟩ := mm_ar_s hf
        obtain ⟨hi20, hf⟩ := mm_ib_s hf
        refine mm_iald hn19 rfl hi20 dX8_takeHeader_98 ?_
        refine mm_aload_n (j := 1) dX8_takeHeader_99 rfl rfl ?_
        refine mm_get (c := 8) (k := 5) (v := va_rf (mm_R σ a0 5)) cd_ok ⟨_, _, _, rfl, by decide, Or.inl tw_145⟩ hs10 rfl dX8_takeHeader_100 ?_
        refine mm_iconst (v := 3) dX8_takeHeader_103 (by decide) ?_
        obtain ⟨q21, hq21, hf⟩ := mm_on_s hf
        rw [hq21, mm_rf_some]
        obtain ⟨n22, hn22, hf⟩ := mm_ar_s hf
        obtain ⟨hi23, hf⟩ := mm_ib_s hf
        refine mm_iald hn22 rfl hi23 dX8_takeHeader_104 ?_
        refine mm_aload_n (j := 1) dX8_takeHeader_105 rfl rfl ?_
        refine mm_get (c := 8) (k := 5) (v := va_rf (mm_R σ a0 5)) cd_ok ⟨_, _, _, rfl, by decide, Or.inl tw_145⟩ hs10 rfl dX8_takeHeader_106 ?_
        refine mm_iconst (v := 4) dX8_takeHeader_109 (by decide) ?_
        obtain ⟨q24, hq24, hf⟩ := mm_on_s hf
        rw [hq24, mm_rf_some]
        obtain ⟨n25, hn25, hf⟩ := mm_ar_s hf
        obtain ⟨hi26, hf⟩ := mm_ib_s hf
        refine mm_iald hn25 rfl hi26 dX8_takeHeader_110 ?_
        refine mm_aload_n (j := 1) dX8_takeHeader_111 rfl rfl ?_
        refine mm_get (c := 8) (k := 5) (v := va_rf (mm_R σ a0 5)) cd_ok ⟨_, _, _, rfl, by decide, Or.inl tw_145⟩ hs10 rfl dX8_takeHeader_112 ?_
        refine mm_iconst (v := 5) dX8_takeHeader_115 (by decide) ?_
        obtain ⟨q27, hq27, hf⟩ := mm_on_s hf
        rw [hq27, mm_rf_some]
        obtain ⟨n28, hn28, hf⟩ := mm_ar_s hf
        obtain ⟨hi29, hf⟩ := mm_ib_s hf
        refine mm_iald hn28 rfl hi29 dX8_takeHeader_116 ?_
        refine mm_callSi cd_ok (kX8_subcodeOf (mm_I σ q18 (2 : Int32).toNatClampNeg) (mm_I σ q21 (3 : Int32).toNatClampNeg) (mm_I σ q24 (4 : Int32).toNatClampNeg) (mm_I σ q27 (5 : Int32).toNatClampNeg) _ rfl) (Or.inl tw_526) cdX8_subcodeOf tw_527 nmX8_subcodeOf rfl rfl (by simp only [List.map_cons, List.map_nil, mm_rf_cat]; exact Nat.le_of_ble_eq_true rfl) dX8_takeHeader_117 ⟨Nat.le_of_ble_eq_true rfl, Nat.le_of_ble_eq_true rfl⟩ ⟨Nat.le_of_ble_eq_true rfl, Nat.le_of_ble_eq_true rfl⟩ ?_
        refine mm_istore (L' := [(4, .int (fX8_subcodeOf (mm_I σ q18 (2 : Int32).toNatClampNeg) (mm_I σ q21 (3 : Int32).toNatClampNeg) (mm_I σ q24 (4 : Int32).toNatClampNeg) (mm_I σ q27 (5 : Int32).toNatClampNeg))), (3, .int ((16 * (mm_I σ q11 (1 : Int32).toNatClampNeg)) + (mm_I σ q14 (0 : Int32).toNatClampNeg))), (0, .ref a0), (1, .int x1), (2, .int x2)]) dX8_takeHeader_120 (by decide) rfl ?_
        refine mm_aload_n (j := 2) dX8_takeHeader_122 rfl rfl ?_
        refine mm_aload_n (j := 2) dX8_takeHeader_123 rfl rfl ?_
        refine mm_get (c := 8) (k := 7) (v := va_rf (mm_R σ a0 7)) cd_ok ⟨_, _, _, rfl, by decide, Or.inl tw_147⟩ hs10 rfl dX8_takeHeader_124 ?_
        refine mm_iload_n (j := 3) dX8_takeHeader_127 rfl rfl ?_
        refine mm_iload_n (j := 1) dX8_takeHeader_128 rfl rfl ?_
        refine mm_iload (j := 0) dX8_takeHeader_129 rfl ?_
        obtain ⟨q30, hq30, hf⟩ := mm_on_s hf
        rw [hq30, mm_rf_some]
        obtain ⟨hs31, hf⟩ := mm_sh_s hf
        obtain ⟨q32, hq32, hf⟩ := mm_on_s hf
        refine mm_callVo cd_ok (kX6_bringToEnd q30 x1 ((16 * (mm_I σ q11 (1 : Int32).toNatClampNeg)) + (mm_I σ q14 (0 : Int32).toNatClampNeg)) (fX8_subcodeOf (mm_I σ q18 (2 : Int32).toNatClampNeg) (mm_I σ q21 (3 : Int32).toNatClampNeg) (mm_I σ q24 (4 : Int32).toNatClampNeg) (mm_I σ q27 (5 : Int32).toNatClampNeg)) hq32) hs31 rfl (Or.inl tw_529) cdX6_bringToEnd tw_530 tw_531 nmX6_bringToEnd rfl rfl (by simp only [List.map_cons, List.map_nil, mm_rf_cat]; exact Nat.le_of_ble_eq_true rfl) dX8_takeHeader_131 ⟨Nat.le_of_ble_eq_true rfl, Nat.le_of_ble_eq_true rfl⟩ ⟨Nat.le_of_ble_eq_true rfl, Nat.le_of_ble_eq_true rfl⟩ ?_
        obtain ⟨q33, hq33, hf⟩ := mm_on_s hf
        rw [hq33, mm_rf_some]
        obtain ⟨hs34, hf⟩ := mm_sh_s hf
        obtain ⟨q35, hq35, hf⟩ := mm_on_s hf
        refine mm_callVv cd_ok (kX8_openPage a0 q33 hq35) hs34 rfl (Or.inl tw_606) cdX8_openPage tw_608 ts_24 nmX8_openPage rfl rfl (by simp only [List.map_cons, List.map_nil, mm_rf_cat]; exact Nat.le_of_ble_eq_true rfl) dX8_takeHeader_134 ⟨Nat.le_of_ble_eq_true rfl, Nat.le_of_ble_eq_true rfl⟩ ⟨Nat.le_of_ble_eq_true rfl, Nat.le_of_ble_eq_true rfl⟩ ?_
        cases hf
        refine mm_widen (ck' := rmX8_takeHeader.cells) (sk' := rmX8_takeHeader.slots) (Nat.le_of_ble_eq_true rfl) (Nat.le_of_ble_eq_true rfl) ?_
        exact mm_vret rfl dX8_takeHeader_137 ⟨rfl, rfl⟩
      · rw [if_pos c17] at hf
        cases hf
        refine mm_widen (ck' := rmX8_takeHeader.cells) (sk' := rmX8_takeHeader.slots) (Nat.le_of_ble_eq_true rfl) (Nat.le_of_ble_eq_true rfl) ?_
        exact mm_vret rfl dX8_takeHeader_92 ⟨rfl, rfl⟩
    · rw [if_neg c9] at hf
      refine mm_iload_n (j := 2) dX8_takeHeader_48 rfl rfl ?_
      refine mm_if_ne (tgt := 57) dX8_takeHeader_49 (by decide) (fun c36 => ?_) (fun c36 => ?_)
      · rw [if_neg c36] at hf
        refine mm_sub [0, 1, 2, 3] rfl ?_
        refine mm_widen (ck' := 0) (sk' := 0) (Nat.le_of_ble_eq_true rfl) (Nat.le_of_ble_eq_true rfl) ?_
        exact kX8_takeHeader_57 ih a0 x1 x2 x3 σ hf
      · rw [if_pos c36] at hf
        refine mm_iload_n (j := 3) dX8_takeHeader_52 rfl rfl ?_
        refine mm_iload_n (j := 1) dX8_takeHeader_53 rfl rfl ?_
        refine mm_icmp_ne (tgt := 62) dX8_takeHeader_54 (by decide) (fun c39 => ?_) (fun c39 => ?_)
        · rw [if_neg c39] at hf
          refine mm_iinc (j := 3) (L' := [(3, .int (x3 + 1)), (0, .ref a0), (1, .int x1), (2, .int x2)]) dX8_takeHeader_62 rfl rfl (by decide) rfl ?_
          refine mm_goto (tgt := 42) dX8_takeHeader_65 (by decide) ?_
          refine mm_sub [1, 2, 3, 0] rfl ?_
          refine mm_widen (ck' := 0) (sk' := 0) (Nat.le_of_ble_eq_true rfl) (Nat.le_of_ble_eq_true rfl) ?_
          exact ih a0 x1 x2 (x3 + 1) σ hf
        · rw [if_pos c39] at hf
          refine mm_sub [0, 1, 2, 3] rfl ?_
          refine mm_widen (ck' := 0) (sk' := 0) (Nat.le_of_ble_eq_true rfl) (Nat.le_of_ble_eq_true rfl) ?_
          exact kX8_takeHeader_57 ih a0 x1 x2 x3 σ hf
set_option maxHeartbeats 4000000 in
set_option maxRecDepth 100000 in
theorem kX8_takeHeader {G : mm_G} {A : Nat → Prop} (p0 : Nat) (p1 : Int32) {σ : mm_M} {R : mm_M} (hf : fX8_takeHeader p0 p1 σ = some R) : mm_C cd_Y G yX8_takeHeader cX8_takeHeader 5 none rmX8_takeHeader A [.ref p0, .int p1] σ (mm_Pv R) := by
  refine mm_C.of (by decide) (Nat.le_of_ble_eq_true rfl) ?_
  unfold fX8_takeHeader at hf
  have e0 : lv_args 0 [.ref p0, .int p1] = [(0, .ref p0), (1, .int p1)] := rfl
  rw [e0]
  generalize hini : ((yX8_takeHeader.name == "<init>"), none) = ini
  clear e0
  clear hini
  refine mm_aload_n (j := 0) dX8_takeHeader_0 rfl rfl ?_
  refine mm_iconst (v := 2) dX8_takeHeader_1 (by decide) ?_
  refine mm_bipush (v := 8) dX8_takeHeader_2 (by decide) ?_
  obtain ⟨hs1, hf⟩ := mm_sh_s hf
  obtain ⟨q2, hq2, hf⟩ := mm_on_s hf
  refine mm_callVi cd_ok (kX8_readValues p0 2 8 hq2) hs1 rfl (Or.inl tw_503) cdX8_readValues tw_505 ts_19 nmX8_readValues rfl rfl (by simp only [List.map_cons, List.map_nil, mm_rf_cat]; exact Nat.le_of_ble_eq_true rfl) dX8_takeHeader_4 ⟨Nat.le_of_ble_eq_true rfl, Nat.le_of_ble_eq_true rfl⟩ ⟨Nat.le_of_ble_eq_true rfl, Nat.le_of_ble_eq_true rfl⟩ ?_
  refine mm_if_ne (tgt := 21) dX8_takeHeader_7 (by decide) (fun c3 => ?_) (fun c3 => ?_)
  · rw [if_neg c3] at hf
    refine mm_aload_n (j := 0) dX8_takeHeader_21 rfl rfl ?_
    obtain ⟨hs4, hf⟩ := mm_sh_s hf
    refine mm_get (c := 8) (k := 5) (v := va_rf (mm_R q2.2 p0 5)) cd_ok ⟨_, _, _, rfl, by decide, Or.inl tw_145⟩ hs4 rfl dX8_takeHeader_22 ?_
    refine mm_bipush (v := 7) dX8_takeHeader_25 (by decide) ?_
    obtain ⟨q5, hq5, hf⟩ := mm_on_s hf
    rw [hq5, mm_rf_some]
    obtain ⟨n6, hn6, hf⟩ := mm_ar_s hf
    obtain ⟨hi7, hf⟩ := mm_ib_s hf
    refine mm_iald hn6 rfl hi7 dX8_takeHeader_27 ?_
    refine mm_iconst (v := 1) dX8_takeHeader_28 (by decide) ?_
    refine mm_iand dX8_takeHeader_29 ?_
    refine mm_iconst (v := 1) dX8_takeHeader_30 (by decide) ?_
    refine mm_icmp_ne (tgt := 38) dX8_takeHeader_31 (by decide) (fun c8 => ?_) (fun c8 => ?_)
    · rw [if_neg c8] at hf
      refine mm_iconst (v := 0) dX8_takeHeader_38 (by decide) ?_
      refine mm_istore_n (L' := [(2, .int 0), (0, .ref p0), (1, .int p1)]) dX8_takeHeader_39 rfl (by decide) rfl ?_
      refine mm_iconst (v := 1) dX8_takeHeader_40 (by decide) ?_
      refine mm_istore_n (L' := [(3, .int 1), (2, .int 0), (0, .ref p0), (1, .int p1)]) dX8_takeHeader_41 rfl (by decide) rfl ?_
      refine mm_sub [2, 3, 1, 0] rfl ?_
      exact kX8_takeHeader_42  p0 p1 0 1 q2.2 hf
    · rw [if_pos c8] at hf
      refine mm_iconst (v := 1) dX8_takeHeader_34 (by decide) ?_
      refine mm_goto (tgt := 39) dX8_takeHeader_35 (by decide) ?_
      refine mm_istore_n (L' := [(2, .int 1), (0, .ref p0), (1, .int p1)]) dX8_takeHeader_39 rfl (by decide) rfl ?_
      refine mm_iconst (v := 1) dX8_takeHeader_40 (by decide) ?_
      refine mm_istore_n (L' := [(3, .int 1), (2, .int 1), (0, .ref p0), (1, .int p1)]) dX8_takeHeader_41 rfl (by decide) rfl ?_
      refine mm_sub [2, 3, 1, 0] rfl ?_
      refine mm_widen (ck' := 0) (sk' := 0) (Nat.le_of_ble_eq_true rfl) (Nat.le_of_ble_eq_true rfl) ?_
      exact kX8_takeHeader_42  p0 p1 1 1 q2.2 hf
  · rw [if_pos c3] at hf
    refine mm_aload_n (j := 0) dX8_takeHeader_10 rfl rfl ?_
    obtain ⟨hs40, hf⟩ := mm_sh_s hf
    refine mm_get (c := 8) (k := 6) (v := va_rf (mm_R q2.2 p0 6)) cd_ok ⟨_, _, _, rfl, by decide, Or.inl tw_146⟩ hs40 rfl dX8_takeHeader_11 ?_
    refine mm_iconst (v := 1) dX8_takeHeader_14 (by decide) ?_
    refine mm_dup2 dX8_takeHeader_15 rfl (mm_rf_cat _) ?_
    obtain ⟨q41, hq41, hf⟩ := mm_on_s hf
    rw [hq41, mm_rf_some]
    obtain ⟨n42, hn42, hf⟩ := mm_ar_s hf
    obtain ⟨hi43, hf⟩ := mm_ib_s hf
    refine mm_iald hn42 rfl hi43 dX8_takeHeader_16 ?_
    refine mm_iconst (v := 1) dX8_takeHeader_17 (by decide) ?_
    refine mm_iadd dX8_takeHeader_18 ?_
    obtain ⟨hi44, hf⟩ := mm_ib_s hf
    refine mm_iast hn42 rfl hi44 dX8_takeHeader_19 ?_
    obtain ⟨s45, hs45, hf⟩ := mm_let_s hf
    rw [hs45]
    cases hf
    refine mm_widen (ck' := rmX8_takeHeader.cells) (sk' := rmX8_takeHeader.slots) (Nat.le_of_ble_eq_true rfl) (Nat.le_of_ble_eq_true rfl) ?_
    exact mm_vret rfl dX8_takeHeader_20 ⟨rfl, rfl⟩
theorem dX0_obey_0 : decode cX0_obey 0 = .ok (.iload_n 2, 1) := by decide +kernel
theorem dX0_obey_1 : decode cX0_obey 1 = .ok (.bipush 64, 2) := by decide +kernel
theorem dX0_obey_3 : decode cX0_obey 3 = .ok (.if_icmp .lt 25, 3) := by decide +kernel
theorem dX0_obey_6 : decode cX0_obey 6 = .ok (.iload_n 1, 1) := by decide +kernel
theorem dX0_obey_7 : decode cX0_obey 7 = .ok (.bipush 16, 2) := by decide +kernel
theorem dX0_obey_9 : decode cX0_obey 9 = .ok (.if_icmp .ne 10, 3) := by decide +kernel
theorem dX0_obey_12 : decode cX0_obey 12 = .ok (.iload_n 2, 1) := by decide +kernel
theorem dX0_obey_13 : decode cX0_obey 13 = .ok (.bipush 32, 2) := by decide +kernel
theorem dX0_obey_15 : decode cX0_obey 15 = .ok (.iand, 1) := by decide +kernel
theorem dX0_obey_16 : decode cX0_obey 16 = .ok (.ifCond .ne 124, 3) := by decide +kernel
theorem dX0_obey_19 : decode cX0_obey 19 = .ok (.aload_n 0, 1) := by decide +kernel
theorem dX0_obey_20 : decode cX0_obey 20 = .ok (.iload_n 1, 1) := by decide +kernel
theorem dX0_obey_21 : decode cX0_obey 21 = .ok (.iload_n 2, 1) := by decide +kernel
theorem dX0_obey_22 : decode cX0_obey 22 = .ok (.invokevirtual 51, 3) := by decide +kernel
theorem dX0_obey_25 : decode cX0_obey 25 = .ok (.goto 115, 3) := by decide +kernel
theorem dX0_obey_28 : decode cX0_obey 28 = .ok (.iload_n 1, 1) := by decide +kernel
theorem dX0_obey_29 : decode cX0_obey 29 = .ok (.bipush 17, 2) := by decide +kernel
theorem dX0_obey_31 : decode cX0_obey 31 = .ok (.if_icmp .ne 11, 3) := by decide +kernel
theorem dX0_obey_34 : decode cX0_obey 34 = .ok (.aload_n 0, 1) := by decide +kernel
theorem dX0_obey_35 : decode cX0_obey 35 = .ok (.iload_n 2, 1) := by decide +kernel
theorem dX0_obey_36 : decode cX0_obey 36 = .ok (.invokevirtual 55, 3) := by decide +kernel
theorem dX0_obey_39 : decode cX0_obey 39 = .ok (.goto 101, 3) := by decide +kernel
theorem dX0_obey_42 : decode cX0_obey 42 = .ok (.iload_n 1, 1) := by decide +kernel
theorem dX0_obey_43 : decode cX0_obey 43 = .ok (.bipush 18, 2) := by decide +kernel
theorem dX0_obey_45 : decode cX0_obey 45 = .ok (.if_icmp .eq 9, 3) := by decide +kernel
theorem dX0_obey_48 : decode cX0_obey 48 = .ok (.iload_n 1, 1) := by decide +kernel
theorem dX0_obey_49 : decode cX0_obey 49 = .ok (.bipush 19, 2) := by decide +kernel
theorem dX0_obey_51 : decode cX0_obey 51 = .ok (.if_icmp .ne 40, 3) := by decide +kernel
theorem dX0_obey_54 : decode cX0_obey 54 = .ok (.aload_n 0, 1) := by decide +kernel
theorem dX0_obey_55 : decode cX0_obey 55 = .ok (.aload_n 0, 1) := by decide +kernel
theorem dX0_obey_56 : decode cX0_obey 56 = .ok (.getfield 28, 3) := by decide +kernel
theorem dX0_obey_59 : decode cX0_obey 59 = .ok (.iconst 1, 1) := by decide +kernel
theorem dX0_obey_60 : decode cX0_obey 60 = .ok (.isub, 1) := by decide +kernel
theorem dX0_obey_61 : decode cX0_obey 61 = .ok (.iconst 0, 1) := by decide +kernel
theorem dX0_obey_62 : decode cX0_obey 62 = .ok (.invokestatic 59, 3) := by decide +kernel
theorem dX0_obey_65 : decode cX0_obey 65 = .ok (.putfield 28, 3) := by decide +kernel
theorem dX0_obey_68 : decode cX0_obey 68 = .ok (.aload_n 0, 1) := by decide +kernel
theorem dX0_obey_69 : decode cX0_obey 69 = .ok (.sipush 272, 3) := by decide +kernel
theorem dX0_obey_72 : decode cX0_obey 72 = .ok (.bipush 32, 2) := by decide +kernel
theorem dX0_obey_74 : decode cX0_obey 74 = .ok (.iload_n 1, 1) := by decide +kernel
theorem dX0_obey_75 : decode cX0_obey 75 = .ok (.bipush 18, 2) := by decide +kernel
theorem dX0_obey_77 : decode cX0_obey 77 = .ok (.isub, 1) := by decide +kernel
theorem dX0_obey_78 : decode cX0_obey 78 = .ok (.imul, 1) := by decide +kernel
theorem dX0_obey_79 : decode cX0_obey 79 = .ok (.iadd, 1) := by decide +kernel
theorem dX0_obey_80 : decode cX0_obey 80 = .ok (.iload_n 2, 1) := by decide +kernel
theorem dX0_obey_81 : decode cX0_obey 81 = .ok (.iadd, 1) := by decide +kernel
theorem dX0_obey_82 : decode cX0_obey 82 = .ok (.bipush 32, 2) := by decide +kernel
theorem dX0_obey_84 : decode cX0_obey 84 = .ok (.isub, 1) := by decide +kernel
theorem dX0_obey_85 : decode cX0_obey 85 = .ok (.invokevirtual 62, 3) := by decide +kernel
theorem dX0_obey_88 : decode cX0_obey 88 = .ok (.goto 52, 3) := by decide +kernel
theorem dX0_obey_91 : decode cX0_obey 91 = .ok (.iload_n 1, 1) := by decide +kernel
theorem dX0_obey_92 : decode cX0_obey 92 = .ok (.bipush 20, 2) := by decide +kernel
theorem dX0_obey_94 : decode cX0_obey 94 = .ok (.if_icmp .eq 9, 3) := by decide +kernel
theorem dX0_obey_97 : decode cX0_obey 97 = .ok (.iload_n 1, 1) := by decide +kernel
theorem dX0_obey_98 : decode cX0_obey 98 = .ok (.bipush 21, 2) := by decide +kernel
theorem dX0_obey_100 : decode cX0_obey 100 = .ok (.if_icmp .ne 14, 3) := by decide +kernel
theorem dX0_obey_103 : decode cX0_obey 103 = .ok (.aload_n 0, 1) := by decide +kernel
theorem dX0_obey_104 : decode cX0_obey 104 = .ok (.iload_n 2, 1) := by decide +kernel
theorem dX0_obey_105 : decode cX0_obey 105 = .ok (.bipush 32, 2) := by decide +kernel
theorem dX0_obey_107 : decode cX0_obey 107 = .ok (.isub, 1) := by decide +kernel
theorem dX0_obey_108 : decode cX0_obey 108 = .ok (.invokevirtual 65, 3) := by decide +kernel
theorem dX0_obey_111 : decode cX0_obey 111 = .ok (.goto 29, 3) := by decide +kernel
theorem dX0_obey_114 : decode cX0_obey 114 = .ok (.iload_n 1, 1) := by decide +kernel
theorem dX0_obey_115 : decode cX0_obey 115 = .ok (.bipush 23, 2) := by decide +kernel
theorem dX0_obey_117 : decode cX0_obey 117 = .ok (.if_icmp .ne 23, 3) := by decide +kernel
theorem dX0_obey_120 : decode cX0_obey 120 = .ok (.iload_n 2, 1) := by decide +kernel
theorem dX0_obey_121 : decode cX0_obey 121 = .ok (.bipush 33, 2) := by decide +kernel
theorem dX0_obey_123 : decode cX0_obey 123 = .ok (.if_icmp .lt 17, 3) := by decide +kernel
theorem dX0_obey_126 : decode cX0_obey 126 = .ok (.iload_n 2, 1) := by decide +kernel
theorem dX0_obey_127 : decode cX0_obey 127 = .ok (.bipush 35, 2) := by decide +kernel
theorem dX0_obey_129 : decode cX0_obey 129 = .ok (.if_icmp .gt 11, 3) := by decide +kernel
theorem dX0_obey_132 : decode cX0_obey 132 = .ok (.aload_n 0, 1) := by decide +kernel
theorem dX0_obey_133 : decode cX0_obey 133 = .ok (.iload_n 2, 1) := by decide +kernel
theorem dX0_obey_134 : decode cX0_obey 134 = .ok (.bipush 32, 2) := by decide +kernel
theorem dX0_obey_136 : decode cX0_obey 136 = .ok (.isub, 1) := by decide +kernel
theorem dX0_obey_137 : decode cX0_obey 137 = .ok (.invokevirtual 68, 3) := by decide +kernel
theorem dX0_obey_140 : decode cX0_obey 140 = .ok (.return_, 1) := by decide +kernel
theorem nmX0_obey : mm_nm yX0_obey 2 := ⟨by decide, by decide, by decide +kernel⟩
theorem cdX0_obey : mm_cd cd_Y yX0_obey cX0_obey 3 none := ⟨tw_349, tw_6⟩
abbrev rmX0_obey : Room := { frames := 4, cells := 0, slots := 0, locals := 93 }
def fX0_obey_54  (a0 : Nat) (x1 : Int32) (x2 : Int32) (σ : mm_M) : Option mm_M :=
  mm_sh σ a0 (.inl 0) (mm_let (mm_wI σ a0 4 (if ((mm_I σ a0 4) - 1) < 0 then 0 else ((mm_I σ a0 4) - 1))) fun s5 => mm_on (fX0_put a0 (((272 + (32 * (x1 - 18))) + x2) - 32) s5) fun q6 => some (q6))
def fX0_obey_103  (a0 : Nat) (x1 : Int32) (x2 : Int32) (σ : mm_M) : Option mm_M :=
  mm_sh σ a0 (.inl 0) (mm_on (fX0_obeyControl a0 (x2 - 32) σ) fun q10 => some (q10))
def fX0_obey_19  (a0 : Nat) (x1 : Int32) (x2 : Int32) (σ : mm_M) : Option mm_M :=
  mm_sh σ a0 (.inl 0) (mm_on (fX0_goToRow a0 x1 x2 σ) fun q21 => some (q21))
def fX0_obey (p0 : Nat) (p1 : Int32) (p2 : Int32) (σ : mm_M) : Option mm_M :=
  (if p2 < 64 then (if p1 = 17 then mm_sh σ p0 (.inl 0) (mm_on (fX0_obeyLookOrSpecial p0 p2 σ) fun q18 => some (q18)) else (if p1 = 18 then (fX0_obey_54  p0 p1 p2 σ) else (if p1 = 19 then (fX0_obey_54  p0 p1 p2 σ) else (if p1 = 20 then (fX0_obey_103  p0 p1 p2 σ) else (if p1 = 21 then (fX0_obey_103  p0 p1 p2 σ) else (if p1 = 23 then (if p2 < 33 then some (σ) else (if 35 < p2 then some (σ) else mm_sh σ p0 (.inl 0) (mm_on (fX0_skipColumns p0 (p2 - 32) σ) fun q16 => some (q16)))) else some (σ))))))) else (if p1 = 16 then (if (p2 &&& 32) = 0 then (fX0_obey_19  p0 p1 p2 σ) else some (σ)) else (fX0_obey_19  p0 p1 p2 σ)))
set_option maxHeartbeats 4000000 in
set_option maxRecDepth 100000 in
theorem kX0_obey_54 {G : mm_G} {A : Nat → Prop} {ini : Bool × Option (List (Nat × Nat × Nat × Nat))}  {R : mm_M}  (a0 : Nat) (x1 : Int32) (x2 : Int32) (σ : mm_M) (hf : fX0_obey_54  a0 x1 x2 σ = some R) : mm_J cd_Y G RX0 cX0_obey 3 none ini rmX0_obey A (mm_QF cd_Y G A (mm_Pv R) rmX0_obey.cells rmX0_obey.slots) 54 [(0, .ref a0), (1, .int x1), (2, .int x2)] [] σ 0 0 := by
  unfold fX0_obey_54 at hf
  refine mm_aload_n (j := 0) dX0_obey_54 rfl rfl ?_
  refine mm_aload_n (j := 0) dX0_obey_55 rfl rfl ?_
  obtain ⟨hs4, hf⟩ := mm_sh_s hf
  refine mm_get (c := 0) (k := 4) (v := .int (mm_I σ a0 4)) cd_ok ⟨_, _, _, rfl, by decide, Or.inl tw_119⟩ hs4 rfl dX0_obey_56 ?_
  refine mm_iconst (v := 1) dX0_obey_59 (by decide) ?_
  refine mm_isub dX0_obey_60 ?_
  refine mm_iconst (v := 0) dX0_obey_61 (by decide) ?_
  refine mm_mmax tw_357 tw_358 tw_14 tw_359 (by decide) (by simp only [List.map_cons, List.map_nil, mm_rf_cat]; exact Nat.le_of_ble_eq_true rfl) (by decide) (by decide) dX0_obey_62 ?_
  refine mm_putI (c := 0) (k := 4) cd_ok ⟨_, _, _, rfl, by decide, rfl, Or.inl tw_119⟩ hs4 rfl rfl rfl dX0_obey_65 ?_
  obtain ⟨s5, hs5, hf⟩ := mm_let_s hf
  rw [hs5]
  refine mm_aload_n (j := 0) dX0_obey_68 rfl rfl ?_
  refine mm_sipush (v := 272) dX0_obey_69 (by decide) ?_
  refine mm_bipush (v := 32) dX0_obey_72 (by decide) ?_
  refine mm_iload_n (j := 1) dX0_obey_74 rfl rfl ?_
  refine mm_bipush (v := 18) dX0_obey_75 (by decide) ?_
  refine mm_isub dX0_obey_77 ?_
  refine mm_imul dX0_obey_78 ?_
  refine mm_iadd dX0_obey_79 ?_
  refine mm_iload_n (j := 2) dX0_obey_80 rfl rfl ?_
  refine mm_iadd dX0_obey_81 ?_
  refine mm_bipush (v := 32) dX0_obey_82 (by decide) ?_
  refine mm_isub dX0_obey_84 ?_
  obtain ⟨q6, hq6, hf⟩ := mm_on_s hf
  refine mm_callVv cd_ok (kX0_put a0 (((272 + (32 * (x1 - 18))) + x2) - 32) hq6) (mm_ke hs5 hs4) rfl (Or.inl tw_379) cdX0_put tw_319 tw_320 nmX0_put rfl rfl (by simp only [List.map_cons, List.map_nil, mm_rf_cat]; exact Nat.le_of_ble_eq_true rfl) dX0_obey_85 ⟨Nat.le_of_ble_eq_true rfl, Nat.le_of_ble_eq_true rfl⟩ ⟨Nat.le_of_ble_eq_true rfl, Nat.le_of_ble_eq_true rfl⟩ ?_
  refine mm_goto (tgt := 140) dX0_obey_88 (by decide) ?_
  cases hf
  refine mm_widen (ck' := rmX0_obey.cells) (sk' := rmX0_obey.slots) (Nat.le_of_ble_eq_true rfl) (Nat.le_of_ble_eq_true rfl) ?_
  exact mm_vret rfl dX0_obey_140 ⟨rfl, rfl⟩
set_option maxHeartbeats 4000000 in
set_option maxRecDepth 100000 in
theorem kX0_obey_103 {G : mm_G} {A : Nat → Prop} {ini : Bool × Option (List (Nat × Nat × Nat × Nat))}  {R : mm_M}  (a0 : Nat) (x1 : Int32) (x2 : Int32) (σ : mm_M) (hf : fX0_obey_103  a0 x1 x2 σ = some R) : mm_J cd_Y G RX0 cX0_obey 3 none ini rmX0_obey A (mm_QF cd_Y G A (mm_Pv R) rmX0_obey.cells rmX0_obey.slots) 103 [(0, .ref a0), (1, .int x1), (2, .int x2)] [] σ 0 0 := by
  unfold fX0_obey_103 at hf
  refine mm_aload_n (j := 0) dX0_obey_103 rfl rfl ?_
  refine mm_iload_n (j := 2) dX0_obey_104 rfl rfl ?_
  refine mm_bipush (v := 32) dX0_obey_105 (by decide) ?_
  refine mm_isub dX0_obey_107 ?_
  obtain ⟨hs9, hf⟩ := mm_sh_s hf
  obtain ⟨q10, hq10, hf⟩ := mm_on_s hf
  refine mm_callVv cd_ok (kX0_obeyControl a0 (x2 - 32) hq10) hs9 rfl (Or.inl tw_380) cdX0_obeyControl tw_382 ts_8 nmX0_obeyControl rfl rfl (by simp only [List.map_cons, List.map_nil, mm_rf_cat]; exact Nat.le_of_ble_eq_true rfl) dX0_obey_108 ⟨Nat.le_of_ble_eq_true rfl, Nat.le_of_ble_eq_true rfl⟩ ⟨Nat.le_of_ble_eq_true rfl, Nat.le_of_ble_eq_true rfl⟩ ?_
  refine mm_goto (tgt := 140) dX0_obey_111 (by decide) ?_
  cases hf
  refine mm_widen (ck' := rmX0_obey.cells) (sk' := rmX0_obey.slots) (Nat.le_of_ble_eq_true rfl) (Nat.le_of_ble_eq_true rfl) ?_
  exact mm_vret rfl dX0_obey_140 ⟨rfl, rfl⟩
set_option maxHeartbeats 4000000 in
set_option maxRecDepth 100000 in
theorem kX0_obey_19 {G : mm_G} {A : Nat → Prop} {ini : Bool × Option (List (Nat × Nat × Nat × Nat))}  {R : mm_M}  (a0 : Nat) (x1 : Int32) (x2 : Int32) (σ : mm_M) (hf : fX0_obey_19  a0 x1 x2 σ = some R) : mm_J cd_Y G RX0 cX0_obey 3 none ini rmX0_obey A (mm_QF cd_Y G A (mm_Pv R) rmX0_obey.cells rmX0_obey.slots) 19 [(0, .ref a0), (1, .int x1), (2, .int x2)] [] σ 0 0 := by
  unfold fX0_obey_19 at hf
  refine mm_aload_n (j := 0) dX0_obey_19 rfl rfl ?_
  refine mm_iload_n (j := 1) dX0_obey_20 rfl rfl ?_
  refine mm_iload_n (j := 2) dX0_obey_21 rfl rfl ?_
  obtain ⟨hs20, hf⟩ := mm_sh_s hf
  obtain ⟨q21, hq21, hf⟩ := mm_on_s hf
  refine mm_callVv cd_ok (kX0_goToRow a0 x1 x2 hq21) hs20 rfl (Or.inl tw_350) cdX0_goToRow tw_352 ts_4 nmX0_goToRow rfl rfl (by simp only [List.map_cons, List.map_nil, mm_rf_cat]; exact Nat.le_of_ble_eq_true rfl) dX0_obey_22 ⟨Nat.le_of_ble_eq_true rfl, Nat.le_of_ble_eq_true rfl⟩ ⟨Nat.le_of_ble_eq_true rfl, Nat.le_of_ble_eq_true rfl⟩ ?_
  refine mm_goto (tgt := 140) dX0_obey_25 (by decide) ?_
  cases hf
  refine mm_widen (ck' := rmX0_obey.cells) (sk' := rmX0_obey.slots) (Nat.le_of_ble_eq_true rfl) (Nat.le_of_ble_eq_true rfl) ?_
  exact mm_vret rfl dX0_obey_140 ⟨rfl, rfl⟩
set_option maxHeartbeats 4000000 in
set_option maxRecDepth 100000 in
theorem kX0_obey {G : mm_G} {A : Nat → Prop} (p0 : Nat) (p1 : Int32) (p2 : Int32) {σ : mm_M} {R : mm_M} (hf : fX0_obey p0 p1 p2 σ = some R) : mm_C cd_Y G yX0_obey cX0_obey 3 none rmX0_obey A [.ref p0, .int p1, .int p2] σ (mm_Pv R) := by
  refine mm_C.of (by decide) (Nat.le_of_ble_eq_true rfl) ?_
  unfold fX0_obey at hf
  have e0 : lv_args 0 [.ref p0, .int p1, .int p2] = [(0, .ref p0), (1, .int p1), (2, .int p2)] := rfl
  rw [e0]
  generalize hini : ((yX0_obey.name == "<init>"), none) = ini
  clear e0
  clear hini
  refine mm_iload_n (j := 2) dX0_obey_0 rfl rfl ?_
  refine mm_bipush (v := 64) dX0_obey_1 (by decide) ?_
  refine mm_icmp_lt (tgt := 28) dX0_obey_3 (by decide) (fun c1 => ?_) (fun c1 => ?_)
  · rw [if_pos c1] at hf
    refine mm_iload_n (j := 1) dX0_obey_28 rfl rfl ?_
    refine mm_bipush (v := 17) dX0_obey_29 (by decide) ?_
    refine mm_icmp_ne (tgt := 42) dX0_obey_31 (by decide) (fun c2 => ?_) (fun c2 => ?_)
    · rw [if_neg c2] at hf
      refine mm_iload_n (j := 1) dX0_obey_42 rfl rfl ?_
      refine mm_bipush (v := 18) dX0_obey_43 (by decide) ?_
      refine mm_icmp_eq (tgt := 54) dX0_obey_45 (by decide) (fun c3 => ?_) (fun c3 => ?_)
      · rw [if_pos c3] at hf
        refine mm_sub [0, 1, 2] rfl ?_
        exact kX0_obey_54  p0 p1 p2 σ hf
      · rw [if_neg c3] at hf
        refine mm_iload_n (j := 1) dX0_obey_48 rfl rfl ?_
        refine mm_bipush (v := 19) dX0_obey_49 (by decide) ?_
        refine mm_icmp_ne (tgt := 91) dX0_obey_51 (by decide) (fun c7 => ?_) (fun c7 => ?_)
        · rw [if_neg c7] at hf
          refine mm_iload_n (j := 1) dX0_obey_91 rfl rfl ?_
          refine mm_bipush (v := 20) dX0_obey_92 (by decide) ?_
          refine mm_icmp_eq (tgt := 103) dX0_obey_94 (by decide) (fun c8 => ?_) (fun c8 => ?_)
          · rw [if_pos c8] at hf
            refine mm_sub [0, 1, 2] rfl ?_
            exact kX0_obey_103  p0 p1 p2 σ hf
          · rw [if_neg c8] at hf
            refine mm_iload_n (j := 1) dX0_obey_97 rfl rfl ?_
            refine mm_bipush (v := 21) dX0_obey_98 (by decide) ?_
            refine mm_icmp_ne (tgt := 114) dX0_obey_100 (by decide) (fun c11 => ?_) (fun c11 => ?_)
            · rw [if_neg c11] at hf
              refine mm_iload_n (j := 1) dX0_obey_114 rfl rfl ?_
              refine mm_bipush (v := 23) dX0_obey_115 (by decide) ?_
              refine mm_icmp_ne (tgt := 140) dX0_obey_117 (by decide) (fun c12 => ?_) (fun c12 => ?_)
              · rw [if_neg c12] at hf
                cases hf
                refine mm_widen (ck' := rmX0_obey.cells) (sk' := rmX0_obey.slots) (Nat.le_of_ble_eq_true rfl) (Nat.le_of_ble_eq_true rfl) ?_
                exact mm_vret rfl dX0_obey_140 ⟨rfl, rfl⟩
              · rw [if_pos c12] at hf
                refine mm_iload_n (j := 2) dX0_obey_120 rfl rfl ?_
                refine mm_bipush (v := 33) dX0_obey_121 (by decide) ?_
                refine mm_icmp_lt (tgt := 140) dX0_obey_123 (by decide) (fun c13 => ?_) (fun c13 => ?_)
                · rw [if_pos c13] at hf
                  cases hf
                  refine mm_widen (ck' := rmX0_obey.cells) (sk' := rmX0_obey.slots) (Nat.le_of_ble_eq_true rfl) (Nat.le_of_ble_eq_true rfl) ?_
                  exact mm_vret rfl dX0_obey_140 ⟨rfl, rfl⟩
                · rw [if_neg c13] at hf
                  refine mm_iload_n (j := 2) dX0_obey_126 rfl rfl ?_
                  refine mm_bipush (v := 35) dX0_obey_127 (by decide) ?_
                  refine mm_icmp_gt (tgt := 140) dX0_obey_129 (by decide) (fun c14 => ?_) (fun c14 => ?_)
                  · rw [if_pos c14] at hf
                    cases hf
                    refine mm_widen (ck' := rmX0_obey.cells) (sk' := rmX0_obey.slots) (Nat.le_of_ble_eq_true rfl) (Nat.le_of_ble_eq_true rfl) ?_
                    exact mm_vret rfl dX0_obey_140 ⟨rfl, rfl⟩
                  · rw [if_neg c14] at hf
                    refine mm_aload_n (j := 0) dX0_obey_132 rfl rfl ?_
                    refine mm_iload_n (j := 2) dX0_obey_133 rfl rfl ?_
                    refine mm_bipush (v := 32) dX0_obey_134 (by decide) ?_
                    refine mm_isub dX0_obey_136 ?_
                    obtain ⟨hs15, hf⟩ := mm_sh_s hf
                    obtain ⟨q16, hq16, hf⟩ := mm_on_s hf
                    refine mm_callVv cd_ok (kX0_skipColumns p0 (p2 - 32) hq16) hs15 rfl (Or.inl tw_416) cdX0_skipColumns tw_418 ts_14 nmX0_skipColumns rfl rfl (by simp only [List.map_cons, List.map_nil, mm_rf_cat]; exact Nat.le_of_ble_eq_true rfl) dX0_obey_137 ⟨Nat.le_of_ble_eq_true rfl, Nat.le_of_ble_eq_true rfl⟩ ⟨Nat.le_of_ble_eq_true rfl, Nat.le_of_ble_eq_true rfl⟩ ?_
                    cases hf
                    refine mm_widen (ck' := rmX0_obey.cells) (sk' := rmX0_obey.slots) (Nat.le_of_ble_eq_true rfl) (Nat.le_of_ble_eq_true rfl) ?_
                    exact mm_vret rfl dX0_obey_140 ⟨rfl, rfl⟩
            · rw [if_pos c11] at hf
              refine mm_sub [0, 1, 2] rfl ?_
              exact kX0_obey_103  p0 p1 p2 σ hf
        · rw [if_pos c7] at hf
          refine mm_sub [0, 1, 2] rfl ?_
          exact kX0_obey_54  p0 p1 p2 σ hf
    · rw [if_pos c2] at hf
      refine mm_aload_n (j := 0) dX0_obey_34 rfl rfl ?_
      refine mm_iload_n (j := 2) dX0_obey_35 rfl rfl ?_
      obtain ⟨hs17, hf⟩ := mm_sh_s hf
      obtain ⟨q18, hq18, hf⟩ := mm_on_s hf
      refine mm_callVv cd_ok (kX0_obeyLookOrSpecial p0 p2 hq18) hs17 rfl (Or.inl tw_375) cdX0_obeyLookOrSpecial tw_377 ts_7 nmX0_obeyLookOrSpecial rfl rfl (by simp only [List.map_cons, List.map_nil, mm_rf_cat]; exact Nat.le_of_ble_eq_true rfl) dX0_obey_36 ⟨Nat.le_of_ble_eq_true rfl, Nat.le_of_ble_eq_true rfl⟩ ⟨Nat.le_of_ble_eq_true rfl, Nat.le_of_ble_eq_true rfl⟩ ?_
      refine mm_goto (tgt := 140) dX0_obey_39 (by decide) ?_
      cases hf
      refine mm_widen (ck' := rmX0_obey.cells) (sk' := rmX0_obey.slots) (Nat.le_of_ble_eq_true rfl) (Nat.le_of_ble_eq_true rfl) ?_
      exact mm_vret rfl dX0_obey_140 ⟨rfl, rfl⟩
  · rw [if_neg c1] at hf
    refine mm_iload_n (j := 1) dX0_obey_6 rfl rfl ?_
    refine mm_bipush (v := 16) dX0_obey_7 (by decide) ?_
    refine mm_icmp_ne (tgt := 19) dX0_obey_9 (by decide) (fun c19 => ?_) (fun c19 => ?_)
    · rw [if_neg c19] at hf
      refine mm_sub [0, 1, 2] rfl ?_
      exact kX0_obey_19  p0 p1 p2 σ hf
    · rw [if_pos c19] at hf
      refine mm_iload_n (j := 2) dX0_obey_12 rfl rfl ?_
      refine mm_bipush (v := 32) dX0_obey_13 (by decide) ?_
      refine mm_iand dX0_obey_15 ?_
      refine mm_if_ne (tgt := 140) dX0_obey_16 (by decide) (fun c22 => ?_) (fun c22 => ?_)
      · rw [if_neg c22] at hf
        cases hf
        refine mm_widen (ck' := rmX0_obey.cells) (sk' := rmX0_obey.slots) (Nat.le_of_ble_eq_true rfl) (Nat.le_of_ble_eq_true rfl) ?_
        exact mm_vret rfl dX0_obey_140 ⟨rfl, rfl⟩
      · rw [if_pos c22] at hf
        refine mm_sub [0, 1, 2] rfl ?_
        exact kX0_obey_19  p0 p1 p2 σ hf
theorem dX8_takeCode_0 : decode cX8_takeCode 0 = .ok (.iconst 2, 1) := by decide +kernel
theorem dX8_takeCode_1 : decode cX8_takeCode 1 = .ok (.iload_n 1, 1) := by decide +kernel
theorem dX8_takeCode_2 : decode cX8_takeCode 2 = .ok (.imul, 1) := by decide +kernel
theorem dX8_takeCode_3 : decode cX8_takeCode 3 = .ok (.iload_n 2, 1) := by decide +kernel
theorem dX8_takeCode_4 : decode cX8_takeCode 4 = .ok (.bipush 8, 2) := by decide +kernel
theorem dX8_takeCode_6 : decode cX8_takeCode 6 = .ok (.iand, 1) := by decide +kernel
theorem dX8_takeCode_7 : decode cX8_takeCode 7 = .ok (.ifCond .eq 7, 3) := by decide +kernel
theorem dX8_takeCode_10 : decode cX8_takeCode 10 = .ok (.iconst 1, 1) := by decide +kernel
theorem dX8_takeCode_11 : decode cX8_takeCode 11 = .ok (.goto 4, 3) := by decide +kernel
theorem dX8_takeCode_14 : decode cX8_takeCode 14 = .ok (.iconst 0, 1) := by decide +kernel
theorem dX8_takeCode_15 : decode cX8_takeCode 15 = .ok (.iadd, 1) := by decide +kernel
theorem dX8_takeCode_16 : decode cX8_takeCode 16 = .ok (.istore 4, 2) := by decide +kernel
theorem dX8_takeCode_18 : decode cX8_takeCode 18 = .ok (.aload_n 0, 1) := by decide +kernel
theorem dX8_takeCode_19 : decode cX8_takeCode 19 = .ok (.getfield 15, 3) := by decide +kernel
theorem dX8_takeCode_22 : decode cX8_takeCode 22 = .ok (.iload_n 1, 1) := by decide +kernel
theorem dX8_takeCode_23 : decode cX8_takeCode 23 = .ok (.iload 4, 2) := by decide +kernel
theorem dX8_takeCode_25 : decode cX8_takeCode 25 = .ok (.iastore, 1) := by decide +kernel
theorem dX8_takeCode_26 : decode cX8_takeCode 26 = .ok (.aload_n 0, 1) := by decide +kernel
theorem dX8_takeCode_27 : decode cX8_takeCode 27 = .ok (.getfield 11, 3) := by decide +kernel
theorem dX8_takeCode_30 : decode cX8_takeCode 30 = .ok (.iload 4, 2) := by decide +kernel
theorem dX8_takeCode_32 : decode cX8_takeCode 32 = .ok (.aaload, 1) := by decide +kernel
theorem dX8_takeCode_33 : decode cX8_takeCode 33 = .ok (.iload_n 2, 1) := by decide +kernel
theorem dX8_takeCode_34 : decode cX8_takeCode 34 = .ok (.bipush (-9), 2) := by decide +kernel
theorem dX8_takeCode_36 : decode cX8_takeCode 36 = .ok (.iand, 1) := by decide +kernel
theorem dX8_takeCode_37 : decode cX8_takeCode 37 = .ok (.iload_n 3, 1) := by decide +kernel
theorem dX8_takeCode_38 : decode cX8_takeCode 38 = .ok (.invokevirtual 122, 3) := by decide +kernel
theorem dX8_takeCode_41 : decode cX8_takeCode 41 = .ok (.iload 4, 2) := by decide +kernel
theorem dX8_takeCode_43 : decode cX8_takeCode 43 = .ok (.ireturn, 1) := by decide +kernel
theorem nmX8_takeCode : mm_nm yX8_takeCode 3 := ⟨by decide, by decide, by decide +kernel⟩
theorem cdX8_takeCode : mm_cd cd_Y yX8_takeCode cX8_takeCode 5 (some .int) := ⟨tw_345, tw_1⟩
abbrev rmX8_takeCode : Room := { frames := 5, cells := 0, slots := 0, locals := 115 }
def fX8_takeCode_15  (a0 : Nat) (x1 : Int32) (x2 : Int32) (x3 : Int32) (y0 : Int32) (y1 : Int32) (σ : mm_M) : Option (Int32 × mm_M) :=
  mm_sh σ a0 (.inl 8) (mm_on (mm_R σ a0 1) fun q3 => mm_ar σ q3 0 fun n4 => mm_ib x1 n4 (mm_let (mm_wI σ q3 (x1.toNatClampNeg) (y1 + y0)) fun s6 => mm_on (mm_R s6 a0 0) fun q7 => mm_ar s6 q7 4 fun n8 => mm_ib (y1 + y0) n8 (mm_on (mm_R s6 q7 (y1 + y0).toNatClampNeg) fun q10 => mm_sh s6 q10 (.inl 0) (mm_on (fX0_obey q10 (x2 &&& (-9)) x3 s6) fun q12 => some (y1 + y0, q12)))))
def fX8_takeCode (p0 : Nat) (p1 : Int32) (p2 : Int32) (p3 : Int32) (σ : mm_M) : Option (Int32 × mm_M) :=
  (if (p2 &&& 8) = 0 then (fX8_takeCode_15  p0 p1 p2 p3 0 (2 * p1) σ) else (fX8_takeCode_15  p0 p1 p2 p3 1 (2 * p1) σ))
set_option maxHeartbeats 4000000 in
set_option maxRecDepth 100000 in
theorem kX8_takeCode_15 {G : mm_G} {A : Nat → Prop} {ini : Bool × Option (List (Nat × Nat × Nat × Nat))}  {R : (Int32 × mm_M)}  (a0 : Nat) (x1 : Int32) (x2 : Int32) (x3 : Int32) (y0 : Int32) (y1 : Int32) (σ : mm_M) (hf : fX8_takeCode_15  a0 x1 x2 x3 y0 y1 σ = some R) : mm_J cd_Y G RX8 cX8_takeCode 5 (some .int) ini rmX8_takeCode A (mm_QF cd_Y G A (mm_Pi R.1 R.2) rmX8_takeCode.cells rmX8_takeCode.slots) 15 [(0, .ref a0), (1, .int x1), (2, .int x2), (3, .int x3)] [.int y0, .int y1] σ 0 0 := by
  unfold fX8_takeCode_15 at hf
  refine mm_iadd dX8_takeCode_15 ?_
  refine mm_istore (L' := [(4, .int (y1 + y0)), (0, .ref a0), (1, .int x1), (2, .int x2), (3, .int x3)]) dX8_takeCode_16 (by decide) rfl ?_
  refine mm_aload_n (j := 1) dX8_takeCode_18 rfl rfl ?_
  obtain ⟨hs2, hf⟩ := mm_sh_s hf
  refine mm_get (c := 8) (k := 1) (v := va_rf (mm_R σ a0 1)) cd_ok ⟨_, _, _, rfl, by decide, Or.inl tw_141⟩ hs2 rfl dX8_takeCode_19 ?_
  refine mm_iload_n (j := 2) dX8_takeCode_22 rfl rfl ?_
  refine mm_iload (j := 0) dX8_takeCode_23 rfl ?_
  obtain ⟨q3, hq3, hf⟩ := mm_on_s hf
  rw [hq3, mm_rf_some]
  obtain ⟨n4, hn4, hf⟩ := mm_ar_s hf
  obtain ⟨hi5, hf⟩ := mm_ib_s hf
  refine mm_iast hn4 rfl hi5 dX8_takeCode_25 ?_
  obtain ⟨s6, hs6, hf⟩ := mm_let_s hf
  rw [hs6]
  refine mm_aload_n (j := 1) dX8_takeCode_26 rfl rfl ?_
  refine mm_get (c := 8) (k := 0) (v := va_rf (mm_R s6 a0 0)) cd_ok ⟨_, _, _, rfl, by decide, Or.inl tw_140⟩ (mm_ke hs6 hs2) rfl dX8_takeCode_27 ?_
  refine mm_iload (j := 0) dX8_takeCode_30 rfl ?_
  obtain ⟨q7, hq7, hf⟩ := mm_on_s hf
  rw [hq7, mm_rf_some]
  obtain ⟨n8, hn8, hf⟩ := mm_ar_s hf
  obtain ⟨hi9, hf⟩ := mm_ib_s hf
  refine mm_aald (v := va_rf (mm_R s6 q7 (y1 + y0).toNatClampNeg)) hn8 rfl hi9 rfl dX8_takeCode_32 ?_
  refine mm_iload_n (j := 3) dX8_takeCode_33 rfl rfl ?_
  refine mm_bipush (v := (-9)) dX8_takeCode_34 (by decide) ?_
  refine mm_iand dX8_takeCode_36 ?_
  refine mm_iload_n (j := 4) dX8_takeCode_37 rfl rfl ?_
  obtain ⟨q10, hq10, hf⟩ := mm_on_s hf
  rw [hq10, mm_rf_some]
  obtain ⟨hs11, hf⟩ := mm_sh_s hf
  obtain ⟨q12, hq12, hf⟩ := mm_on_s hf
  refine mm_callVv cd_ok (kX0_obey q10 (x2 &&& (-9)) x3 hq12) hs11 rfl (Or.inl tw_346) cdX0_obey tw_347 tw_348 nmX0_obey rfl rfl (by simp only [List.map_cons, List.map_nil, mm_rf_cat]; exact Nat.le_of_ble_eq_true rfl) dX8_takeCode_38 ⟨Nat.le_of_ble_eq_true rfl, Nat.le_of_ble_eq_true rfl⟩ ⟨Nat.le_of_ble_eq_true rfl, Nat.le_of_ble_eq_true rfl⟩ ?_
  refine mm_iload (j := 0) dX8_takeCode_41 rfl ?_
  cases hf
  refine mm_widen (ck' := rmX8_takeCode.cells) (sk' := rmX8_takeCode.slots) (Nat.le_of_ble_eq_true rfl) (Nat.le_of_ble_eq_true rfl) ?_
  exact mm_iret rfl rfl dX8_takeCode_43 ⟨rfl, rfl⟩
set_option maxHeartbeats 4000000 in
set_option maxRecDepth 100000 in
theorem kX8_takeCode {G : mm_G} {A : Nat → Prop} (p0 : Nat) (p1 : Int32) (p2 : Int32) (p3 : Int32) {σ : mm_M} {R : (Int32 × mm_M)} (hf : fX8_takeCode p0 p1 p2 p3 σ = some R) : mm_C cd_Y G yX8_takeCode cX8_takeCode 5 (some .int) rmX8_takeCode A [.ref p0, .int p1, .int p2, .int p3] σ (mm_Pi R.1 R.2) := by
  refine mm_C.of (by decide) (Nat.le_of_ble_eq_true rfl) ?_
  unfold fX8_takeCode at hf
  have e0 : lv_args 0 [.ref p0, .int p1, .int p2, .int p3] = [(0, .ref p0), (1, .int p1), (2, .int p2), (3, .int p3)] := rfl
  rw [e0]
  generalize hini : ((yX8_takeCode.name == "<init>"), none) = ini
  clear e0
  clear hini
  refine mm_iconst (v := 2) dX8_takeCode_0 (by decide) ?_
  refine mm_iload_n (j := 1) dX8_takeCode_1 rfl rfl ?_
  refine mm_imul dX8_takeCode_2 ?_
  refine mm_iload_n (j := 2) dX8_takeCode_3 rfl rfl ?_
  refine mm_bipush (v := 8) dX8_takeCode_4 (by decide) ?_
  refine mm_iand dX8_takeCode_6 ?_
  refine mm_if_eq (tgt := 14) dX8_takeCode_7 (by decide) (fun c1 => ?_) (fun c1 => ?_)
  · rw [if_pos c1] at hf
    refine mm_iconst (v := 0) dX8_takeCode_14 (by decide) ?_
    refine mm_sub [0, 1, 2, 3] rfl ?_
    exact kX8_takeCode_15  p0 p1 p2 p3 0 (2 * p1) σ hf
  · rw [if_neg c1] at hf
    refine mm_iconst (v := 1) dX8_takeCode_10 (by decide) ?_
    refine mm_goto (tgt := 15) dX8_takeCode_11 (by decide) ?_
    refine mm_sub [0, 1, 2, 3] rfl ?_
    exact kX8_takeCode_15  p0 p1 p2 p3 1 (2 * p1) σ hf
theorem dX8_takeRow_0 : decode cX8_takeRow 0 = .ok (.iload_n 2, 1) := by decide +kernel
theorem dX8_takeRow_1 : decode cX8_takeRow 1 = .ok (.ifCond .ne 9, 3) := by decide +kernel
theorem dX8_takeRow_4 : decode cX8_takeRow 4 = .ok (.aload_n 0, 1) := by decide +kernel
theorem dX8_takeRow_5 : decode cX8_takeRow 5 = .ok (.iload_n 1, 1) := by decide +kernel
theorem dX8_takeRow_6 : decode cX8_takeRow 6 = .ok (.invokevirtual 236, 3) := by decide +kernel
theorem dX8_takeRow_9 : decode cX8_takeRow 9 = .ok (.return_, 1) := by decide +kernel
theorem dX8_takeRow_10 : decode cX8_takeRow 10 = .ok (.iload_n 2, 1) := by decide +kernel
theorem dX8_takeRow_11 : decode cX8_takeRow 11 = .ok (.bipush 24, 2) := by decide +kernel
theorem dX8_takeRow_13 : decode cX8_takeRow 13 = .ok (.if_icmp .le 10, 3) := by decide +kernel
theorem dX8_takeRow_16 : decode cX8_takeRow 16 = .ok (.iload_n 2, 1) := by decide +kernel
theorem dX8_takeRow_17 : decode cX8_takeRow 17 = .ok (.bipush 27, 2) := by decide +kernel
theorem dX8_takeRow_19 : decode cX8_takeRow 19 = .ok (.if_icmp .eq 4, 3) := by decide +kernel
theorem dX8_takeRow_22 : decode cX8_takeRow 22 = .ok (.return_, 1) := by decide +kernel
theorem dX8_takeRow_23 : decode cX8_takeRow 23 = .ok (.aload_n 0, 1) := by decide +kernel
theorem dX8_takeRow_24 : decode cX8_takeRow 24 = .ok (.getfield 34, 3) := by decide +kernel
theorem dX8_takeRow_27 : decode cX8_takeRow 27 = .ok (.aload_n 0, 1) := by decide +kernel
theorem dX8_takeRow_28 : decode cX8_takeRow 28 = .ok (.getfield 34, 3) := by decide +kernel
theorem dX8_takeRow_31 : decode cX8_takeRow 31 = .ok (.iload_n 1, 1) := by decide +kernel
theorem dX8_takeRow_32 : decode cX8_takeRow 32 = .ok (.invokevirtual 224, 3) := by decide +kernel
theorem dX8_takeRow_35 : decode cX8_takeRow 35 = .ok (.invokevirtual 177, 3) := by decide +kernel
theorem dX8_takeRow_38 : decode cX8_takeRow 38 = .ok (.astore_n 3, 1) := by decide +kernel
theorem dX8_takeRow_39 : decode cX8_takeRow 39 = .ok (.aload_n 3, 1) := by decide +kernel
theorem dX8_takeRow_40 : decode cX8_takeRow 40 = .ok (.ifnonnull 16, 3) := by decide +kernel
theorem dX8_takeRow_43 : decode cX8_takeRow 43 = .ok (.aload_n 0, 1) := by decide +kernel
theorem dX8_takeRow_44 : decode cX8_takeRow 44 = .ok (.getfield 28, 3) := by decide +kernel
theorem dX8_takeRow_47 : decode cX8_takeRow 47 = .ok (.iconst 2, 1) := by decide +kernel
theorem dX8_takeRow_48 : decode cX8_takeRow 48 = .ok (.dup2, 1) := by decide +kernel
theorem dX8_takeRow_49 : decode cX8_takeRow 49 = .ok (.iaload, 1) := by decide +kernel
theorem dX8_takeRow_50 : decode cX8_takeRow 50 = .ok (.iconst 1, 1) := by decide +kernel
theorem dX8_takeRow_51 : decode cX8_takeRow 51 = .ok (.iadd, 1) := by decide +kernel
theorem dX8_takeRow_52 : decode cX8_takeRow 52 = .ok (.iastore, 1) := by decide +kernel
theorem dX8_takeRow_53 : decode cX8_takeRow 53 = .ok (.goto 32, 3) := by decide +kernel
theorem dX8_takeRow_56 : decode cX8_takeRow 56 = .ok (.iload_n 2, 1) := by decide +kernel
theorem dX8_takeRow_57 : decode cX8_takeRow 57 = .ok (.bipush 27, 2) := by decide +kernel
theorem dX8_takeRow_59 : decode cX8_takeRow 59 = .ok (.if_icmp .ne 12, 3) := by decide +kernel
theorem dX8_takeRow_62 : decode cX8_takeRow 62 = .ok (.aload_n 0, 1) := by decide +kernel
theorem dX8_takeRow_63 : decode cX8_takeRow 63 = .ok (.aload_n 3, 1) := by decide +kernel
theorem dX8_takeRow_64 : decode cX8_takeRow 64 = .ok (.iload_n 1, 1) := by decide +kernel
theorem dX8_takeRow_65 : decode cX8_takeRow 65 = .ok (.invokevirtual 239, 3) := by decide +kernel
theorem dX8_takeRow_68 : decode cX8_takeRow 68 = .ok (.goto 17, 3) := by decide +kernel
theorem dX8_takeRow_71 : decode cX8_takeRow 71 = .ok (.aload_n 3, 1) := by decide +kernel
theorem dX8_takeRow_72 : decode cX8_takeRow 72 = .ok (.getfield 209, 3) := by decide +kernel
theorem dX8_takeRow_75 : decode cX8_takeRow 75 = .ok (.iload_n 2, 1) := by decide +kernel
theorem dX8_takeRow_76 : decode cX8_takeRow 76 = .ok (.iconst 0, 1) := by decide +kernel
theorem dX8_takeRow_77 : decode cX8_takeRow 77 = .ok (.aload_n 0, 1) := by decide +kernel
theorem dX8_takeRow_78 : decode cX8_takeRow 78 = .ok (.getfield 22, 3) := by decide +kernel
theorem dX8_takeRow_81 : decode cX8_takeRow 81 = .ok (.iconst 2, 1) := by decide +kernel
theorem dX8_takeRow_82 : decode cX8_takeRow 82 = .ok (.invokevirtual 243, 3) := by decide +kernel
theorem dX8_takeRow_85 : decode cX8_takeRow 85 = .ok (.return_, 1) := by decide +kernel
theorem nmX8_takeRow : mm_nm yX8_takeRow 2 := ⟨by decide, by decide, by decide +kernel⟩
theorem cdX8_takeRow : mm_cd cd_Y yX8_takeRow cX8_takeRow 4 none := ⟨tw_498, tw_1⟩
abbrev rmX8_takeRow : Room := { frames := 6, cells := 5, slots := 1054, locals := 133 }
def fX8_takeRow_23  (a0 : Nat) (x1 : Int32) (x2 : Int32) (σ : mm_M) : Option mm_M :=
  mm_sh σ a0 (.inl 8) (mm_on (mm_R σ a0 7) fun q4 => mm_sh σ q4 (.inl 6) (mm_on (fX6_placeOfOpen q4 x1 σ) fun q6 => mm_sh q6.2 q4 (.inl 6) (mm_on (fX6_pageAt q4 q6.1 q6.2) fun q8 => (mm_nu (q8.1) (mm_sh q8.2 a0 (.inl 8) (mm_on (mm_R q8.2 a0 6) fun q11 => mm_ar q8.2 q11 0 fun n12 => mm_ib 2 n12 (mm_ib 2 n12 (mm_let (mm_wI q8.2 q11 ((2 : Int32).toNatClampNeg) ((mm_I q8.2 q11 (2 : Int32).toNatClampNeg) + 1)) fun s15 => some (s15))))) fun q9 => (if x2 = 27 then mm_sh q8.2 a0 (.inl 8) (mm_on (fX8_takeLinks a0 q9 x1 q8.2) fun q24 => some (q24)) else mm_sh q8.2 q9 (.inl 3) (mm_sh q8.2 a0 (.inl 8) (mm_on (mm_R q8.2 a0 3) fun q19 => mm_on (mm_R q8.2 q9 0) fun q20 => mm_sh q8.2 q20 (.inl 4) (mm_on (fX4_fill q20 x2 0 q19 2 q8.2) fun q22 => some (q22)))))))))
def fX8_takeRow (p0 : Nat) (p1 : Int32) (p2 : Int32) (σ : mm_M) : Option mm_M :=
  (if p2 = 0 then mm_sh σ p0 (.inl 8) (mm_on (fX8_takeHeader p0 p1 σ) fun q27 => some (q27)) else (if p2 ≤ 24 then (fX8_takeRow_23  p0 p1 p2 σ) else (if p2 = 27 then (fX8_takeRow_23  p0 p1 p2 σ) else some (σ))))
set_option maxHeartbeats 4000000 in
set_option maxRecDepth 100000 in
theorem kX8_takeRow_23 {G : mm_G} {A : Nat → Prop} {ini : Bool × Option (List (Nat × Nat × Nat × Nat))}  {R : mm_M}  (a0 : Nat) (x1 : Int32) (x2 : Int32) (σ : mm_M) (hf : fX8_takeRow_23  a0 x1 x2 σ = some R) : mm_J cd_Y G RX8 cX8_takeRow 4 none ini rmX8_takeRow A (mm_QF cd_Y G A (mm_Pv R) rmX8_takeRow.cells rmX8_takeRow.slots) 23 [(0, .ref a0), (1, .int x1), (2, .int x2)] [] σ 0 0 := by
  unfold fX8_takeRow_23 at hf
  refine mm_aload_n (j := 0) dX8_takeRow_23 rfl rfl ?_
  obtain ⟨hs3, hf⟩ := mm_sh_s hf
  refine mm_get (c := 8) (k := 7) (v := va_rf (mm_R σ a0 7)) cd_ok ⟨_, _, _, rfl, by decide, Or.inl tw_147⟩ hs3 rfl dX8_takeRow_24 ?_
  refine mm_aload_n (j := 0) dX8_takeRow_27 rfl rfl ?_
  refine mm_get (c := 8) (k := 7) (v := va_rf (mm_R σ a0 7)) cd_ok ⟨_, _, _, rfl, by decide, Or.inl tw_147⟩ hs3 rfl dX8_takeRow_28 ?_
  refine mm_iload_n (j := 1) dX8_takeRow_31 rfl rfl ?_
  obtain ⟨q4, hq4, hf⟩ := mm_on_s hf
  rw [hq4, mm_rf_some]
  obtain ⟨hs5, hf⟩ := mm_sh_s hf
  obtain ⟨q6, hq6, hf⟩ := mm_on_s hf
  refine mm_callVi cd_ok (kX6_placeOfOpen q4 x1 hq6) hs5 rfl (Or.inl tw_511) cdX6_placeOfOpen tw_512 tw_513 nmX6_placeOfOpen rfl rfl (by simp only [List.map_cons, List.map_nil, mm_rf_cat]; exact Nat.le_of_ble_eq_true rfl) dX8_takeRow_32 ⟨Nat.le_of_ble_eq_true rfl, Nat.le_of_ble_eq_true rfl⟩ ⟨Nat.le_of_ble_eq_true rfl, Nat.le_of_ble_eq_true rfl⟩ ?_
  obtain ⟨hs7, hf⟩ := mm_sh_s hf
  obtain ⟨q8, hq8, hf⟩ := mm_on_s hf
  refine mm_callVo cd_ok (kX6_pageAt q4 q6.1 hq8) hs7 rfl (Or.inl tw_515) cdX6_pageAt tw_217 tw_218 nmX6_pageAt rfl rfl (by simp only [List.map_cons, List.map_nil, mm_rf_cat]; exact Nat.le_of_ble_eq_true rfl) dX8_takeRow_35 ⟨Nat.le_of_ble_eq_true rfl, Nat.le_of_ble_eq_true rfl⟩ ⟨Nat.le_of_ble_eq_true rfl, Nat.le_of_ble_eq_true rfl⟩ ?_
  refine mm_astore_nR (L' := [(3, va_rf (q8.1)), (0, .ref a0), (1, .int x1), (2, .int x2)]) dX8_takeRow_38 rfl (by decide) rfl ?_
  refine mm_aload_nR (j := 0) dX8_takeRow_39 rfl rfl ?_
  rcases hq9 : (q8.1) with _ | q9
  · rw [mm_nu_n hq9] at hf
    try rw [mm_rf_none]
    refine mm_ifnonnullN dX8_takeRow_40 ?_
    refine mm_aload_n (j := 1) dX8_takeRow_43 rfl rfl ?_
    obtain ⟨hs10, hf⟩ := mm_sh_s hf
    refine mm_get (c := 8) (k := 6) (v := va_rf (mm_R q8.2 a0 6)) cd_ok ⟨_, _, _, rfl, by decide, Or.inl tw_146⟩ hs10 rfl dX8_takeRow_44 ?_
    refine mm_iconst (v := 2) dX8_takeRow_47 (by decide) ?_
    refine mm_dup2 dX8_takeRow_48 rfl (mm_rf_cat _) ?_
    obtain ⟨q11, hq11, hf⟩ := mm_on_s hf
    rw [hq11, mm_rf_some]
    obtain ⟨n12, hn12, hf⟩ := mm_ar_s hf
    obtain ⟨hi13, hf⟩ := mm_ib_s hf
    refine mm_iald hn12 rfl hi13 dX8_takeRow_49 ?_
    refine mm_iconst (v := 1) dX8_takeRow_50 (by decide) ?_
    refine mm_iadd dX8_takeRow_51 ?_
    obtain ⟨hi14, hf⟩ := mm_ib_s hf
    refine mm_iast hn12 rfl hi14 dX8_takeRow_52 ?_
    obtain ⟨s15, hs15, hf⟩ := mm_let_s hf
    rw [hs15]
    refine mm_goto (tgt := 85) dX8_takeRow_53 (by decide) ?_
    cases hf
    refine mm_widen (ck' := rmX8_takeRow.cells) (sk' := rmX8_takeRow.slots) (Nat.le_of_ble_eq_true rfl) (Nat.le_of_ble_eq_true rfl) ?_
    exact mm_vret rfl dX8_takeRow_85 ⟨rfl, rfl⟩
  · rw [mm_nu_s hq9] at hf
    try rw [mm_rf_some]
    refine mm_ifnonnull (tgt := 56) dX8_takeRow_40 (by decide) ?_
    refine mm_iload_n (j := 3) dX8_takeRow_56 rfl rfl ?_
    refine mm_bipush (v := 27) dX8_takeRow_57 (by decide) ?_
    refine mm_icmp_ne (tgt := 71) dX8_takeRow_59 (by decide) (fun c16 => ?_) (fun c16 => ?_)
    · rw [if_neg c16] at hf
      refine mm_aload_n (j := 0) dX8_takeRow_71 rfl rfl ?_
      obtain ⟨hs17, hf⟩ := mm_sh_s hf
      refine mm_get (c := 3) (k := 0) (v := va_rf (mm_R q8.2 q9 0)) cd_ok ⟨_, _, _, rfl, by decide, Or.inr ⟨_, tn_29⟩⟩ hs17 rfl dX8_takeRow_72 ?_
      refine mm_iload_n (j := 3) dX8_takeRow_75 rfl rfl ?_
      refine mm_iconst (v := 0) dX8_takeRow_76 (by decide) ?_
      refine mm_aload_n (j := 1) dX8_takeRow_77 rfl rfl ?_
      obtain ⟨hs18, hf⟩ := mm_sh_s hf
      refine mm_get (c := 8) (k := 3) (v := va_rf (mm_R q8.2 a0 3)) cd_ok ⟨_, _, _, rfl, by decide, Or.inl tw_143⟩ hs18 rfl dX8_takeRow_78 ?_
      refine mm_iconst (v := 2) dX8_takeRow_81 (by decide) ?_
      obtain ⟨q19, hq19, hf⟩ := mm_on_s hf
      rw [hq19, mm_rf_some]
      obtain ⟨q20, hq20, hf⟩ := mm_on_s hf
      rw [hq20, mm_rf_some]
      obtain ⟨hs21, hf⟩ := mm_sh_s hf
      obtain ⟨q22, hq22, hf⟩ := mm_on_s hf
      refine mm_callVv cd_ok (kX4_fill q20 x2 0 q19 2 hq22) hs21 rfl (Or.inl tw_612) cdX4_fill tw_613 tw_614 nmX4_fill rfl rfl (by simp only [List.map_cons, List.map_nil, mm_rf_cat]; exact Nat.le_of_ble_eq_true rfl) dX8_takeRow_82 ⟨Nat.le_of_ble_eq_true rfl, Nat.le_of_ble_eq_true rfl⟩ ⟨Nat.le_of_ble_eq_true rfl, Nat.le_of_ble_eq_true rfl⟩ ?_
      cases hf
      refine mm_widen (ck' := rmX8_takeRow.cells) (sk' := rmX8_takeRow.slots) (Nat.le_of_ble_eq_true rfl) (Nat.le_of_ble_eq_true rfl) ?_
      exact mm_vret rfl dX8_takeRow_85 ⟨rfl, rfl⟩
    · rw [if_pos c16] at hf
      refine mm_aload_n (j := 1) dX8_takeRow_62 rfl rfl ?_
      refine mm_aload_n (j := 0) dX8_takeRow_63 rfl rfl ?_
      refine mm_iload_n (j := 2) dX8_takeRow_64 rfl rfl ?_
      obtain ⟨hs23, hf⟩ := mm_sh_s hf
      obtain ⟨q24, hq24, hf⟩ := mm_on_s hf
      refine mm_callVv cd_ok (kX8_takeLinks a0 q9 x1 hq24) hs23 rfl (Or.inl tw_618) cdX8_takeLinks tw_620 ts_25 nmX8_takeLinks rfl rfl (by simp only [List.map_cons, List.map_nil, mm_rf_cat]; exact Nat.le_of_ble_eq_true rfl) dX8_takeRow_65 ⟨Nat.le_of_ble_eq_true rfl, Nat.le_of_ble_eq_true rfl⟩ ⟨Nat.le_of_ble_eq_true rfl, Nat.le_of_ble_eq_true rfl⟩ ?_
      refine mm_goto (tgt := 85) dX8_takeRow_68 (by decide) ?_
      cases hf
      refine mm_widen (ck' := rmX8_takeRow.cells) (sk' := rmX8_takeRow.slots) (Nat.le_of_ble_eq_true rfl) (Nat.le_of_ble_eq_true rfl) ?_
      exact mm_vret rfl dX8_takeRow_85 ⟨rfl, rfl⟩
set_option maxHeartbeats 4000000 in
set_option maxRecDepth 100000 in
theorem kX8_takeRow {G : mm_G} {A : Nat → Prop} (p0 : Nat) (p1 : Int32) (p2 : Int32) {σ : mm_M} {R : mm_M} (hf : fX8_takeRow p0 p1 p2 σ = some R) : mm_C cd_Y G yX8_takeRow cX8_takeRow 4 none rmX8_takeRow A [.ref p0, .int p1, .int p2] σ (mm_Pv R) := by
  refine mm_C.of (by decide) (Nat.le_of_ble_eq_true rfl) ?_
  unfold fX8_takeRow at hf
  have e0 : lv_args 0 [.ref p0, .int p1, .int p2] = [(0, .ref p0), (1, .int p1), (2, .int p2)] := rfl
  rw [e0]
  generalize hini : ((yX8_takeRow.name == "<init>"), none) = ini
  clear e0
  clear hini
  refine mm_iload_n (j := 2) dX8_takeRow_0 rfl rfl ?_
  refine mm_if_ne (tgt := 10) dX8_takeRow_1 (by decide) (fun c1 => ?_) (fun c1 => ?_)
  · rw [if_neg c1] at hf
    refine mm_iload_n (j := 2) dX8_takeRow_10 rfl rfl ?_
    refine mm_bipush (v := 24) dX8_takeRow_11 (by decide) ?_
    refine mm_icmp_le (tgt := 23) dX8_takeRow_13 (by decide) (fun c2 => ?_) (fun c2 => ?_)
    · rw [if_pos c2] at hf
      refine mm_sub [0, 1, 2] rfl ?_
      exact kX8_takeRow_23  p0 p1 p2 σ hf
    · rw [if_neg c2] at hf
      refine mm_iload_n (j := 2) dX8_takeRow_16 rfl rfl ?_
      refine mm_bipush (v := 27) dX8_takeRow_17 (by decide) ?_
      refine mm_icmp_eq (tgt := 23) dX8_takeRow_19 (by decide) (fun c25 => ?_) (fun c25 => ?_)
      · rw [if_pos c25] at hf
        refine mm_sub [0, 1, 2] rfl ?_
        exact kX8_takeRow_23  p0 p1 p2 σ hf
      · rw [if_neg c25] at hf
        cases hf
        refine mm_widen (ck' := rmX8_takeRow.cells) (sk' := rmX8_takeRow.slots) (Nat.le_of_ble_eq_true rfl) (Nat.le_of_ble_eq_true rfl) ?_
        exact mm_vret rfl dX8_takeRow_22 ⟨rfl, rfl⟩
  · rw [if_pos c1] at hf
    refine mm_aload_n (j := 0) dX8_takeRow_4 rfl rfl ?_
    refine mm_iload_n (j := 1) dX8_takeRow_5 rfl rfl ?_
    obtain ⟨hs26, hf⟩ := mm_sh_s hf
    obtain ⟨q27, hq27, hf⟩ := mm_on_s hf
    refine mm_callVv cd_ok (kX8_takeHeader p0 p1 hq27) hs26 rfl (Or.inl tw_499) cdX8_takeHeader tw_501 ts_18 nmX8_takeHeader rfl rfl (by simp only [List.map_cons, List.map_nil, mm_rf_cat]; exact Nat.le_of_ble_eq_true rfl) dX8_takeRow_6 ⟨Nat.le_of_ble_eq_true rfl, Nat.le_of_ble_eq_true rfl⟩ ⟨Nat.le_of_ble_eq_true rfl, Nat.le_of_ble_eq_true rfl⟩ ?_
    cases hf
    refine mm_widen (ck' := rmX8_takeRow.cells) (sk' := rmX8_takeRow.slots) (Nat.le_of_ble_eq_true rfl) (Nat.le_of_ble_eq_true rfl) ?_
    exact mm_vret rfl dX8_takeRow_9 ⟨rfl, rfl⟩
