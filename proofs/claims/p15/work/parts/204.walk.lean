theorem dX6_placeOfOpen_0 : decode cX6_placeOfOpen 0 = .ok (.iconst 0, 1) := by decide +kernel
theorem dX6_placeOfOpen_1 : decode cX6_placeOfOpen 1 = .ok (.istore_n 2, 1) := by decide +kernel
theorem dX6_placeOfOpen_2 : decode cX6_placeOfOpen 2 = .ok (.iload_n 2, 1) := by decide +kernel
theorem dX6_placeOfOpen_3 : decode cX6_placeOfOpen 3 = .ok (.aload_n 0, 1) := by decide +kernel
theorem dX6_placeOfOpen_4 : decode cX6_placeOfOpen 4 = .ok (.getfield 17, 3) := by decide +kernel
theorem dX6_placeOfOpen_7 : decode cX6_placeOfOpen 7 = .ok (.if_icmp .ge 36, 3) := by decide +kernel
theorem dX6_placeOfOpen_10 : decode cX6_placeOfOpen 10 = .ok (.aload_n 0, 1) := by decide +kernel
theorem dX6_placeOfOpen_11 : decode cX6_placeOfOpen 11 = .ok (.iload_n 2, 1) := by decide +kernel
theorem dX6_placeOfOpen_12 : decode cX6_placeOfOpen 12 = .ok (.invokevirtual 25, 3) := by decide +kernel
theorem dX6_placeOfOpen_15 : decode cX6_placeOfOpen 15 = .ok (.astore_n 3, 1) := by decide +kernel
theorem dX6_placeOfOpen_16 : decode cX6_placeOfOpen 16 = .ok (.aload_n 3, 1) := by decide +kernel
theorem dX6_placeOfOpen_17 : decode cX6_placeOfOpen 17 = .ok (.ifnull 20, 3) := by decide +kernel
theorem dX6_placeOfOpen_20 : decode cX6_placeOfOpen 20 = .ok (.aload_n 3, 1) := by decide +kernel
theorem dX6_placeOfOpen_21 : decode cX6_placeOfOpen 21 = .ok (.getfield 33, 3) := by decide +kernel
theorem dX6_placeOfOpen_24 : decode cX6_placeOfOpen 24 = .ok (.ifCond .eq 13, 3) := by decide +kernel
theorem dX6_placeOfOpen_27 : decode cX6_placeOfOpen 27 = .ok (.aload_n 3, 1) := by decide +kernel
theorem dX6_placeOfOpen_28 : decode cX6_placeOfOpen 28 = .ok (.getfield 37, 3) := by decide +kernel
theorem dX6_placeOfOpen_31 : decode cX6_placeOfOpen 31 = .ok (.iload_n 1, 1) := by decide +kernel
theorem dX6_placeOfOpen_32 : decode cX6_placeOfOpen 32 = .ok (.if_icmp .ne 5, 3) := by decide +kernel
theorem dX6_placeOfOpen_35 : decode cX6_placeOfOpen 35 = .ok (.iload_n 2, 1) := by decide +kernel
theorem dX6_placeOfOpen_36 : decode cX6_placeOfOpen 36 = .ok (.ireturn, 1) := by decide +kernel
theorem dX6_placeOfOpen_37 : decode cX6_placeOfOpen 37 = .ok (.iinc 2 1, 3) := by decide +kernel
theorem dX6_placeOfOpen_40 : decode cX6_placeOfOpen 40 = .ok (.goto (-38), 3) := by decide +kernel
theorem dX6_placeOfOpen_43 : decode cX6_placeOfOpen 43 = .ok (.iconst (-1), 1) := by decide +kernel
theorem dX6_placeOfOpen_44 : decode cX6_placeOfOpen 44 = .ok (.ireturn, 1) := by decide +kernel
theorem nmX6_placeOfOpen : mm_nm yX6_placeOfOpen 1 := ⟨by decide, by decide, by decide +kernel⟩
theorem cdX6_placeOfOpen : mm_cd cd_Y yX6_placeOfOpen cX6_placeOfOpen 4 (some .int) := ⟨tw_514, tw_2⟩
abbrev rmX6_placeOfOpen : Room := { frames := 2, cells := 0, slots := 0, locals := 42 }
def fX6_placeOfOpen_2  : Nat → Nat → Int32 → Int32 → mm_M → Option (Int32 × mm_M)
  | 0 => fun _ _ _ _ => none
  | n + 1 => fun a0 x1 x2 σ =>
  mm_sh σ a0 (.inl 6) ((if (mm_I σ a0 1) ≤ x2 then some ((-1), σ) else mm_on (fX6_pageAt a0 x2 σ) fun q3 => (mm_nu (q3.1) (fX6_placeOfOpen_2  n a0 x1 (x2 + 1) q3.2) fun q4 => mm_sh q3.2 q4 (.inl 3) ((if (mm_I q3.2 q4 6) = 0 then (fX6_placeOfOpen_2  n a0 x1 (x2 + 1) q3.2) else (if (mm_I q3.2 q4 2) = x1 then some (x2, q3.2) else (fX6_placeOfOpen_2  n a0 x1 (x2 + 1) q3.2)))))))
def fX6_placeOfOpen (p0 : Nat) (p1 : Int32) (σ : mm_M) : Option (Int32 × mm_M) :=
  (fX6_placeOfOpen_2  mm_fuel p0 p1 0 σ)
set_option maxHeartbeats 4000000 in
set_option maxRecDepth 100000 in
theorem kX6_placeOfOpen_2 {G : mm_G} {A : Nat → Prop} {ini : Bool × Option (List (Nat × Nat × Nat × Nat))}  {R : (Int32 × mm_M)}  : ∀ (a0 : Nat) (x1 : Int32) (x2 : Int32) (σ : mm_M), fX6_placeOfOpen_2  mm_fuel a0 x1 x2 σ = some R → mm_J cd_Y G RX6 cX6_placeOfOpen 4 (some .int) ini rmX6_placeOfOpen A (mm_QF cd_Y G A (mm_Pi R.1 R.2) rmX6_placeOfOpen.cells rmX6_placeOfOpen.slots) 2 [(0, .ref a0), (1, .int x1), (2, .int x2)] [] σ 0 0 := by
  generalize mm_fuel = n
  induction n with
  | zero => intro a0 x1 x2 σ hf; cases hf
  | succ n ih =>
    intro a0 x1 x2 σ hf
    unfold fX6_placeOfOpen_2 at hf
    refine mm_iload_n (j := 2) dX6_placeOfOpen_2 rfl rfl ?_
    refine mm_aload_n (j := 0) dX6_placeOfOpen_3 rfl rfl ?_
    obtain ⟨hs1, hf⟩ := mm_sh_s hf
    refine mm_get (c := 6) (k := 1) (v := .int (mm_I σ a0 1)) cd_ok ⟨_, _, _, rfl, by decide, Or.inl tw_39⟩ hs1 rfl dX6_placeOfOpen_4 ?_
    refine mm_icmp_ge (tgt := 43) dX6_placeOfOpen_7 (by decide) (fun c2 => ?_) (fun c2 => ?_)
    · rw [if_pos c2] at hf
      refine mm_iconst (v := (-1)) dX6_placeOfOpen_43 (by decide) ?_
      cases hf
      refine mm_widen (ck' := rmX6_placeOfOpen.cells) (sk' := rmX6_placeOfOpen.slots) (Nat.le_of_ble_eq_true rfl) (Nat.le_of_ble_eq_true rfl) ?_
      exact mm_iret rfl rfl dX6_placeOfOpen_44 ⟨rfl, rfl⟩
    · rw [if_neg c2] at hf
      refine mm_aload_n (j := 0) dX6_placeOfOpen_10 rfl rfl ?_
      refine mm_iload_n (j := 2) dX6_placeOfOpen_11 rfl rfl ?_
      obtain ⟨q3, hq3, hf⟩ := mm_on_s hf
      refine mm_callVo cd_ok (kX6_pageAt a0 x2 hq3) hs1 rfl (Or.inl tw_216) cdX6_pageAt tw_217 tw_218 nmX6_pageAt rfl rfl (by simp only [List.map_cons, List.map_nil, mm_rf_cat]; exact Nat.le_of_ble_eq_true rfl) dX6_placeOfOpen_12 ⟨Nat.le_of_ble_eq_true rfl, Nat.le_of_ble_eq_true rfl⟩ ⟨Nat.le_of_ble_eq_true rfl, Nat.le_of_ble_eq_true rfl⟩ ?_
      refine mm_astore_nR (L' := [(3, va_rf (q3.1)), (0, .ref a0), (1, .int x1), (2, .int x2)]) dX6_placeOfOpen_15 rfl (by decide) rfl ?_
      refine mm_aload_nR (j := 0) dX6_placeOfOpen_16 rfl rfl ?_
      rcases hq4 : (q3.1) with _ | q4
      · rw [mm_nu_n hq4] at hf
        try rw [mm_rf_none]
        refine mm_ifnullN (tgt := 37) dX6_placeOfOpen_17 (by decide) ?_
        refine mm_iinc (j := 3) (L' := [(2, .int (x2 + 1)), (3, .null), (0, .ref a0), (1, .int x1)]) dX6_placeOfOpen_37 rfl rfl (by decide) rfl ?_
        refine mm_goto (tgt := 2) dX6_placeOfOpen_40 (by decide) ?_
        refine mm_sub [2, 3, 0] rfl ?_
        exact ih a0 x1 (x2 + 1) q3.2 hf
      · rw [mm_nu_s hq4] at hf
        try rw [mm_rf_some]
        refine mm_ifnull dX6_placeOfOpen_17 ?_
        refine mm_aload_n (j := 0) dX6_placeOfOpen_20 rfl rfl ?_
        obtain ⟨hs5, hf⟩ := mm_sh_s hf
        refine mm_get (c := 3) (k := 6) (v := .int (mm_I q3.2 q4 6)) cd_ok ⟨_, _, _, rfl, by decide, Or.inr ⟨_, tn_36⟩⟩ hs5 rfl dX6_placeOfOpen_21 ?_
        refine mm_if_eq (tgt := 37) dX6_placeOfOpen_24 (by decide) (fun c6 => ?_) (fun c6 => ?_)
        · rw [if_pos c6] at hf
          refine mm_iinc (j := 3) (L' := [(2, .int (x2 + 1)), (3, .ref q4), (0, .ref a0), (1, .int x1)]) dX6_placeOfOpen_37 rfl rfl (by decide) rfl ?_
          refine mm_goto (tgt := 2) dX6_placeOfOpen_40 (by decide) ?_
          refine mm_sub [2, 3, 0] rfl ?_
          exact ih a0 x1 (x2 + 1) q3.2 hf
        · rw [if_neg c6] at hf
          refine mm_aload_n (j := 0) dX6_placeOfOpen_27 rfl rfl ?_
          refine mm_get (c := 3) (k := 2) (v := .int (mm_I q3.2 q4 2)) cd_ok ⟨_, _, _, rfl, by decide, Or.inr ⟨_, tn_31⟩⟩ hs5 rfl dX6_placeOfOpen_28 ?_
          refine mm_iload_n (j := 2) dX6_placeOfOpen_31 rfl rfl ?_
          refine mm_icmp_ne (tgt := 37) dX6_placeOfOpen_32 (by decide) (fun c7 => ?_) (fun c7 => ?_)
          · rw [if_neg c7] at hf
            refine mm_iinc (j := 3) (L' := [(2, .int (x2 + 1)), (3, .ref q4), (0, .ref a0), (1, .int x1)]) dX6_placeOfOpen_37 rfl rfl (by decide) rfl ?_
            refine mm_goto (tgt := 2) dX6_placeOfOpen_40 (by decide) ?_
            refine mm_sub [2, 3, 0] rfl ?_
            exact ih a0 x1 (x2 + 1) q3.2 hf
          · rw [if_pos c7] at hf
            refine mm_iload_n (j := 3) dX6_placeOfOpen_35 rfl rfl ?_
            cases hf
            refine mm_widen (ck' := rmX6_placeOfOpen.cells) (sk' := rmX6_placeOfOpen.slots) (Nat.le_of_ble_eq_true rfl) (Nat.le_of_ble_eq_true rfl) ?_
            exact mm_iret rfl rfl dX6_placeOfOpen_36 ⟨rfl, rfl⟩
set_option maxHeartbeats 4000000 in
set_option maxRecDepth 100000 in
theorem kX6_placeOfOpen {G : mm_G} {A : Nat → Prop} (p0 : Nat) (p1 : Int32) {σ : mm_M} {R : (Int32 × mm_M)} (hf : fX6_placeOfOpen p0 p1 σ = some R) : mm_C cd_Y G yX6_placeOfOpen cX6_placeOfOpen 4 (some .int) rmX6_placeOfOpen A [.ref p0, .int p1] σ (mm_Pi R.1 R.2) := by
  refine mm_C.of (by decide) (Nat.le_of_ble_eq_true rfl) ?_
  unfold fX6_placeOfOpen at hf
  have e0 : lv_args 0 [.ref p0, .int p1] = [(0, .ref p0), (1, .int p1)] := rfl
  rw [e0]
  generalize hini : ((yX6_placeOfOpen.name == "<init>"), none) = ini
  clear e0
  clear hini
  refine mm_iconst (v := 0) dX6_placeOfOpen_0 (by decide) ?_
  refine mm_istore_n (L' := [(2, .int 0), (0, .ref p0), (1, .int p1)]) dX6_placeOfOpen_1 rfl (by decide) rfl ?_
  refine mm_sub [1, 2, 0] rfl ?_
  exact kX6_placeOfOpen_2  p0 p1 0 σ hf
theorem dX6_takeOut_0 : decode cX6_takeOut 0 = .ok (.iload_n 1, 1) := by decide +kernel
theorem dX6_takeOut_1 : decode cX6_takeOut 1 = .ok (.aload_n 0, 1) := by decide +kernel
theorem dX6_takeOut_2 : decode cX6_takeOut 2 = .ok (.getfield 17, 3) := by decide +kernel
theorem dX6_takeOut_5 : decode cX6_takeOut 5 = .ok (.invokestatic 21, 3) := by decide +kernel
theorem dX6_takeOut_8 : decode cX6_takeOut 8 = .ok (.ifCond .eq 4, 3) := by decide +kernel
theorem dX6_takeOut_11 : decode cX6_takeOut 11 = .ok (.return_, 1) := by decide +kernel
theorem dX6_takeOut_12 : decode cX6_takeOut 12 = .ok (.iload_n 1, 1) := by decide +kernel
theorem dX6_takeOut_13 : decode cX6_takeOut 13 = .ok (.istore_n 2, 1) := by decide +kernel
theorem dX6_takeOut_14 : decode cX6_takeOut 14 = .ok (.iload_n 2, 1) := by decide +kernel
theorem dX6_takeOut_15 : decode cX6_takeOut 15 = .ok (.iconst 1, 1) := by decide +kernel
theorem dX6_takeOut_16 : decode cX6_takeOut 16 = .ok (.iadd, 1) := by decide +kernel
theorem dX6_takeOut_17 : decode cX6_takeOut 17 = .ok (.aload_n 0, 1) := by decide +kernel
theorem dX6_takeOut_18 : decode cX6_takeOut 18 = .ok (.getfield 17, 3) := by decide +kernel
theorem dX6_takeOut_21 : decode cX6_takeOut 21 = .ok (.if_icmp .ge 31, 3) := by decide +kernel
theorem dX6_takeOut_24 : decode cX6_takeOut 24 = .ok (.iload_n 2, 1) := by decide +kernel
theorem dX6_takeOut_25 : decode cX6_takeOut 25 = .ok (.iconst 1, 1) := by decide +kernel
theorem dX6_takeOut_26 : decode cX6_takeOut 26 = .ok (.iadd, 1) := by decide +kernel
theorem dX6_takeOut_27 : decode cX6_takeOut 27 = .ok (.bipush 20, 2) := by decide +kernel
theorem dX6_takeOut_29 : decode cX6_takeOut 29 = .ok (.if_icmp .ge 23, 3) := by decide +kernel
theorem dX6_takeOut_32 : decode cX6_takeOut 32 = .ok (.aload_n 0, 1) := by decide +kernel
theorem dX6_takeOut_33 : decode cX6_takeOut 33 = .ok (.getfield 11, 3) := by decide +kernel
theorem dX6_takeOut_36 : decode cX6_takeOut 36 = .ok (.iload_n 2, 1) := by decide +kernel
theorem dX6_takeOut_37 : decode cX6_takeOut 37 = .ok (.aload_n 0, 1) := by decide +kernel
theorem dX6_takeOut_38 : decode cX6_takeOut 38 = .ok (.getfield 11, 3) := by decide +kernel
theorem dX6_takeOut_41 : decode cX6_takeOut 41 = .ok (.iload_n 2, 1) := by decide +kernel
theorem dX6_takeOut_42 : decode cX6_takeOut 42 = .ok (.iconst 1, 1) := by decide +kernel
theorem dX6_takeOut_43 : decode cX6_takeOut 43 = .ok (.iadd, 1) := by decide +kernel
theorem dX6_takeOut_44 : decode cX6_takeOut 44 = .ok (.aaload, 1) := by decide +kernel
theorem dX6_takeOut_45 : decode cX6_takeOut 45 = .ok (.aastore, 1) := by decide +kernel
theorem dX6_takeOut_46 : decode cX6_takeOut 46 = .ok (.iinc 2 1, 3) := by decide +kernel
theorem dX6_takeOut_49 : decode cX6_takeOut 49 = .ok (.goto (-35), 3) := by decide +kernel
theorem dX6_takeOut_52 : decode cX6_takeOut 52 = .ok (.aload_n 0, 1) := by decide +kernel
theorem dX6_takeOut_53 : decode cX6_takeOut 53 = .ok (.dup, 1) := by decide +kernel
theorem dX6_takeOut_54 : decode cX6_takeOut 54 = .ok (.getfield 17, 3) := by decide +kernel
theorem dX6_takeOut_57 : decode cX6_takeOut 57 = .ok (.iconst 1, 1) := by decide +kernel
theorem dX6_takeOut_58 : decode cX6_takeOut 58 = .ok (.isub, 1) := by decide +kernel
theorem dX6_takeOut_59 : decode cX6_takeOut 59 = .ok (.putfield 17, 3) := by decide +kernel
theorem dX6_takeOut_62 : decode cX6_takeOut 62 = .ok (.return_, 1) := by decide +kernel
theorem nmX6_takeOut : mm_nm yX6_takeOut 1 := ⟨by decide, by decide, by decide +kernel⟩
theorem cdX6_takeOut : mm_cd cd_Y yX6_takeOut cX6_takeOut 3 none := ⟨tw_584, tw_2⟩
abbrev rmX6_takeOut : Room := { frames := 1, cells := 0, slots := 0, locals := 21 }
def fX6_takeOut_14  : Nat → Nat → Int32 → Int32 → mm_M → Option mm_M
  | 0 => fun _ _ _ _ => none
  | n + 1 => fun a0 x1 x2 σ =>
  mm_sh σ a0 (.inl 6) ((if (mm_I σ a0 1) ≤ (x2 + 1) then mm_let (mm_wI σ a0 1 ((mm_I σ a0 1) - 1)) fun s5 => some (s5) else (if 20 ≤ (x2 + 1) then mm_let (mm_wI σ a0 1 ((mm_I σ a0 1) - 1)) fun s7 => some (s7) else mm_on (mm_R σ a0 0) fun q8 => mm_ar σ q8 5 fun n9 => mm_ib (x2 + 1) n9 (mm_on (mm_R σ q8 (x2 + 1).toNatClampNeg) fun q11 => mm_ib x2 n9 (mm_sh σ q11 (.inl 3) (mm_let (mm_wR σ q8 (x2.toNatClampNeg) (some q11)) fun s14 => (fX6_takeOut_14  n a0 x1 (x2 + 1) s14)))))))
def fX6_takeOut (p0 : Nat) (p1 : Int32) (σ : mm_M) : Option mm_M :=
  mm_sh σ p0 (.inl 6) ((if (fX8_isOutside p1 (mm_I σ p0 1)) = 0 then (fX6_takeOut_14  mm_fuel p0 p1 p1 σ) else some (σ)))
set_option maxHeartbeats 4000000 in
set_option maxRecDepth 100000 in
theorem kX6_takeOut_14 {G : mm_G} {A : Nat → Prop} {ini : Bool × Option (List (Nat × Nat × Nat × Nat))}  {R : mm_M}  : ∀ (a0 : Nat) (x1 : Int32) (x2 : Int32) (σ : mm_M), fX6_takeOut_14  mm_fuel a0 x1 x2 σ = some R → mm_J cd_Y G RX6 cX6_takeOut 3 none ini rmX6_takeOut A (mm_QF cd_Y G A (mm_Pv R) rmX6_takeOut.cells rmX6_takeOut.slots) 14 [(0, .ref a0), (1, .int x1), (2, .int x2)] [] σ 0 0 := by
  generalize mm_fuel = n
  induction n with
  | zero => intro a0 x1 x2 σ hf; cases hf
  | succ n ih =>
    intro a0 x1 x2 σ hf
    unfold fX6_takeOut_14 at hf
    refine mm_iload_n (j := 2) dX6_takeOut_14 rfl rfl ?_
    refine mm_iconst (v := 1) dX6_takeOut_15 (by decide) ?_
    refine mm_iadd dX6_takeOut_16 ?_
    refine mm_aload_n (j := 0) dX6_takeOut_17 rfl rfl ?_
    obtain ⟨hs3, hf⟩ := mm_sh_s hf
    refine mm_get (c := 6) (k := 1) (v := .int (mm_I σ a0 1)) cd_ok ⟨_, _, _, rfl, by decide, Or.inl tw_39⟩ hs3 rfl dX6_takeOut_18 ?_
    refine mm_icmp_ge (tgt := 52) dX6_takeOut_21 (by decide) (fun c4 => ?_) (fun c4 => ?_)
    · rw [if_pos c4] at hf
      refine mm_aload_n (j := 0) dX6_takeOut_52 rfl rfl ?_
      refine mm_dup dX6_takeOut_53 rfl ?_
      refine mm_get (c := 6) (k := 1) (v := .int (mm_I σ a0 1)) cd_ok ⟨_, _, _, rfl, by decide, Or.inl tw_39⟩ hs3 rfl dX6_takeOut_54 ?_
      refine mm_iconst (v := 1) dX6_takeOut_57 (by decide) ?_
      refine mm_isub dX6_takeOut_58 ?_
      refine mm_putI (c := 6) (k := 1) cd_ok ⟨_, _, _, rfl, by decide, rfl, Or.inl tw_39⟩ hs3 rfl rfl rfl dX6_takeOut_59 ?_
      obtain ⟨s5, hs5, hf⟩ := mm_let_s hf
      rw [hs5]
      cases hf
      refine mm_widen (ck' := rmX6_takeOut.cells) (sk' := rmX6_takeOut.slots) (Nat.le_of_ble_eq_true rfl) (Nat.le_of_ble_eq_true rfl) ?_
      exact mm_vret rfl dX6_takeOut_62 ⟨rfl, rfl⟩
    · rw [if_neg c4] at hf
      refine mm_iload_n (j := 2) dX6_takeOut_24 rfl rfl ?_
      refine mm_iconst (v := 1) dX6_takeOut_25 (by decide) ?_
      refine mm_iadd dX6_takeOut_26 ?_
      refine mm_bipush (v := 20) dX6_takeOut_27 (by decide) ?_
      refine mm_icmp_ge (tgt := 52) dX6_takeOut_29 (by decide) (fun c6 => ?_) (fun c6 => ?_)
      · rw [if_pos c6] at hf
        refine mm_aload_n (j := 0) dX6_takeOut_52 rfl rfl ?_
        refine mm_dup dX6_takeOut_53 rfl ?_
        refine mm_get (c := 6) (k := 1) (v := .int (mm_I σ a0 1)) cd_ok ⟨_, _, _, rfl, by decide, Or.inl tw_39⟩ hs3 rfl dX6_takeOut_54 ?_
        refine mm_iconst (v := 1) dX6_takeOut_57 (by decide) ?_
        refine mm_isub dX6_takeOut_58 ?_
        refine mm_putI (c := 6) (k := 1) cd_ok ⟨_, _, _, rfl, by decide, rfl, Or.inl tw_39⟩ hs3 rfl rfl rfl dX6_takeOut_59 ?_
        obtain ⟨s7, hs7, hf⟩ := mm_let_s hf
        rw [hs7]
        cases hf
        refine mm_widen (ck' := rmX6_takeOut.cells) (sk' := rmX6_takeOut.slots) (Nat.le_of_ble_eq_true rfl) (Nat.le_of_ble_eq_true rfl) ?_
        exact mm_vret rfl dX6_takeOut_62 ⟨rfl, rfl⟩
      · rw [if_neg c6] at hf
        refine mm_aload_n (j := 0) dX6_takeOut_32 rfl rfl ?_
        refine mm_get (c := 6) (k := 0) (v := va_rf (mm_R σ a0 0)) cd_ok ⟨_, _, _, rfl, by decide, Or.inl tw_38⟩ hs3 rfl dX6_takeOut_33 ?_
        refine mm_iload_n (j := 2) dX6_takeOut_36 rfl rfl ?_
        refine mm_aload_n (j := 0) dX6_takeOut_37 rfl rfl ?_
        refine mm_get (c := 6) (k := 0) (v := va_rf (mm_R σ a0 0)) cd_ok ⟨_, _, _, rfl, by decide, Or.inl tw_38⟩ hs3 rfl dX6_takeOut_38 ?_
        refine mm_iload_n (j := 2) dX6_takeOut_41 rfl rfl ?_
        refine mm_iconst (v := 1) dX6_takeOut_42 (by decide) ?_
        refine mm_iadd dX6_takeOut_43 ?_
        obtain ⟨q8, hq8, hf⟩ := mm_on_s hf
        rw [hq8, mm_rf_some]
        obtain ⟨n9, hn9, hf⟩ := mm_ar_s hf
        obtain ⟨hi10, hf⟩ := mm_ib_s hf
        refine mm_aald (v := va_rf (mm_R σ q8 (x2 + 1).toNatClampNeg)) hn9 rfl hi10 rfl dX6_takeOut_44 ?_
        obtain ⟨q11, hq11, hf⟩ := mm_on_s hf
        rw [hq11, mm_rf_some]
        obtain ⟨hi12, hf⟩ := mm_ib_s hf
        obtain ⟨hs13, hf⟩ := mm_sh_s hf
        refine mm_aast (cv := 3) hn9 rfl hi12 hs13 rfl dX6_takeOut_45 ?_
        obtain ⟨s14, hs14, hf⟩ := mm_let_s hf
        rw [hs14]
        refine mm_iinc (j := 2) (L' := [(2, .int (x2 + 1)), (0, .ref a0), (1, .int x1)]) dX6_takeOut_46 rfl rfl (by decide) rfl ?_
        refine mm_goto (tgt := 14) dX6_takeOut_49 (by decide) ?_
        refine mm_sub [1, 2, 0] rfl ?_
        exact ih a0 x1 (x2 + 1) s14 hf
set_option maxHeartbeats 4000000 in
set_option maxRecDepth 100000 in
theorem kX6_takeOut {G : mm_G} {A : Nat → Prop} (p0 : Nat) (p1 : Int32) {σ : mm_M} {R : mm_M} (hf : fX6_takeOut p0 p1 σ = some R) : mm_C cd_Y G yX6_takeOut cX6_takeOut 3 none rmX6_takeOut A [.ref p0, .int p1] σ (mm_Pv R) := by
  refine mm_C.of (by decide) (Nat.le_of_ble_eq_true rfl) ?_
  unfold fX6_takeOut at hf
  have e0 : lv_args 0 [.ref p0, .int p1] = [(0, .ref p0), (1, .int p1)] := rfl
  rw [e0]
  generalize hini : ((yX6_takeOut.name == "<init>"), none) = ini
  clear e0
  clear hini
  refine mm_iload_n (j := 1) dX6_takeOut_0 rfl rfl ?_
  refine mm_aload_n (j := 0) dX6_takeOut_1 rfl rfl ?_
  obtain ⟨hs1, hf⟩ := mm_sh_s hf
  refine mm_get (c := 6) (k := 1) (v := .int (mm_I σ p0 1)) cd_ok ⟨_, _, _, rfl, by decide, Or.inl tw_39⟩ hs1 rfl dX6_takeOut_2 ?_
  refine mm_callSi cd_ok (kX8_isOutside p1 (mm_I σ p0 1) _ rfl) (Or.inr ⟨_, tn_15⟩) cdX8_isOutside tw_221 nmX8_isOutside rfl rfl (by simp only [List.map_cons, List.map_nil, mm_rf_cat]; exact Nat.le_of_ble_eq_true rfl) dX6_takeOut_5 ⟨Nat.le_of_ble_eq_true rfl, Nat.le_of_ble_eq_true rfl⟩ ⟨Nat.le_of_ble_eq_true rfl, Nat.le_of_ble_eq_true rfl⟩ ?_
  refine mm_if_eq (tgt := 12) dX6_takeOut_8 (by decide) (fun c2 => ?_) (fun c2 => ?_)
  · rw [if_pos c2] at hf
    refine mm_iload_n (j := 1) dX6_takeOut_12 rfl rfl ?_
    refine mm_istore_n (L' := [(2, .int p1), (0, .ref p0), (1, .int p1)]) dX6_takeOut_13 rfl (by decide) rfl ?_
    refine mm_sub [1, 2, 0] rfl ?_
    exact kX6_takeOut_14  p0 p1 p1 σ hf
  · rw [if_neg c2] at hf
    cases hf
    refine mm_widen (ck' := rmX6_takeOut.cells) (sk' := rmX6_takeOut.slots) (Nat.le_of_ble_eq_true rfl) (Nat.le_of_ble_eq_true rfl) ?_
    exact mm_vret rfl dX6_takeOut_11 ⟨rfl, rfl⟩
theorem dX7_begin_0 : decode cX7_begin 0 = .ok (.aload_n 0, 1) := by decide +kernel
theorem dX7_begin_1 : decode cX7_begin 1 = .ok (.iload_n 1, 1) := by decide +kernel
theorem dX7_begin_2 : decode cX7_begin 2 = .ok (.putfield 18, 3) := by decide +kernel
theorem dX7_begin_5 : decode cX7_begin 5 = .ok (.aload_n 0, 1) := by decide +kernel
theorem dX7_begin_6 : decode cX7_begin 6 = .ok (.iload_n 2, 1) := by decide +kernel
theorem dX7_begin_7 : decode cX7_begin 7 = .ok (.putfield 22, 3) := by decide +kernel
theorem dX7_begin_10 : decode cX7_begin 10 = .ok (.aload_n 0, 1) := by decide +kernel
theorem dX7_begin_11 : decode cX7_begin 11 = .ok (.getfield 12, 3) := by decide +kernel
theorem dX7_begin_14 : decode cX7_begin 14 = .ok (.iconst 0, 1) := by decide +kernel
theorem dX7_begin_15 : decode cX7_begin 15 = .ok (.invokevirtual 25, 3) := by decide +kernel
theorem dX7_begin_18 : decode cX7_begin 18 = .ok (.return_, 1) := by decide +kernel
theorem nmX7_begin : mm_nm yX7_begin 2 := ⟨by decide, by decide, by decide +kernel⟩
theorem cdX7_begin : mm_cd cd_Y yX7_begin cX7_begin 3 none := ⟨tw_693, tw_3⟩
abbrev rmX7_begin : Room := { frames := 2, cells := 0, slots := 0, locals := 46 }
def fX7_begin (p0 : Nat) (p1 : Int32) (p2 : Int32) (σ : mm_M) : Option mm_M :=
  mm_sh σ p0 (.inl 7) (mm_let (mm_wI σ p0 1 p1) fun s2 => mm_let (mm_wI s2 p0 2 p2) fun s3 => mm_on (mm_R s3 p0 0) fun q4 => mm_sh s3 q4 (.inl 4) (mm_on (fX4_eraseRows q4 0 s3) fun q6 => some (q6)))
set_option maxHeartbeats 4000000 in
set_option maxRecDepth 100000 in
theorem kX7_begin {G : mm_G} {A : Nat → Prop} (p0 : Nat) (p1 : Int32) (p2 : Int32) {σ : mm_M} {R : mm_M} (hf : fX7_begin p0 p1 p2 σ = some R) : mm_C cd_Y G yX7_begin cX7_begin 3 none rmX7_begin A [.ref p0, .int p1, .int p2] σ (mm_Pv R) := by
  refine mm_C.of (by decide) (Nat.le_of_ble_eq_true rfl) ?_
  unfold fX7_begin at hf
  have e0 : lv_args 0 [.ref p0, .int p1, .int p2] = [(0, .ref p0), (1, .int p1), (2, .int p2)] := rfl
  rw [e0]
  generalize hini : ((yX7_begin.name == "<init>"), none) = ini
  clear e0
  clear hini
  refine mm_aload_n (j := 0) dX7_begin_0 rfl rfl ?_
  refine mm_iload_n (j := 1) dX7_begin_1 rfl rfl ?_
  obtain ⟨hs1, hf⟩ := mm_sh_s hf
  refine mm_putI (c := 7) (k := 1) cd_ok ⟨_, _, _, rfl, by decide, rfl, Or.inl tw_68⟩ hs1 rfl rfl rfl dX7_begin_2 ?_
  obtain ⟨s2, hs2, hf⟩ := mm_let_s hf
  rw [hs2]
  refine mm_aload_n (j := 0) dX7_begin_5 rfl rfl ?_
  refine mm_iload_n (j := 2) dX7_begin_6 rfl rfl ?_
  refine mm_putI (c := 7) (k := 2) cd_ok ⟨_, _, _, rfl, by decide, rfl, Or.inl tw_69⟩ (mm_ke hs2 hs1) rfl rfl rfl dX7_begin_7 ?_
  obtain ⟨s3, hs3, hf⟩ := mm_let_s hf
  rw [hs3]
  refine mm_aload_n (j := 0) dX7_begin_10 rfl rfl ?_
  refine mm_get (c := 7) (k := 0) (v := va_rf (mm_R s3 p0 0)) cd_ok ⟨_, _, _, rfl, by decide, Or.inl tw_67⟩ (mm_ke hs3 (mm_ke hs2 hs1)) rfl dX7_begin_11 ?_
  refine mm_iconst (v := 0) dX7_begin_14 (by decide) ?_
  obtain ⟨q4, hq4, hf⟩ := mm_on_s hf
  rw [hq4, mm_rf_some]
  obtain ⟨hs5, hf⟩ := mm_sh_s hf
  obtain ⟨q6, hq6, hf⟩ := mm_on_s hf
  refine mm_callVv cd_ok (kX4_eraseRows q4 0 hq6) hs5 rfl (Or.inl tw_694) cdX4_eraseRows tw_590 tw_591 nmX4_eraseRows rfl rfl (by simp only [List.map_cons, List.map_nil, mm_rf_cat]; exact Nat.le_of_ble_eq_true rfl) dX7_begin_15 ⟨Nat.le_of_ble_eq_true rfl, Nat.le_of_ble_eq_true rfl⟩ ⟨Nat.le_of_ble_eq_true rfl, Nat.le_of_ble_eq_true rfl⟩ ?_
  cases hf
  refine mm_widen (ck' := rmX7_begin.cells) (sk' := rmX7_begin.slots) (Nat.le_of_ble_eq_true rfl) (Nat.le_of_ble_eq_true rfl) ?_
  exact mm_vret rfl dX7_begin_18 ⟨rfl, rfl⟩
theorem dX7_addTo_0 : decode cX7_addTo 0 = .ok (.aload_n 0, 1) := by decide +kernel
theorem dX7_addTo_1 : decode cX7_addTo 1 = .ok (.getfield 12, 3) := by decide +kernel
theorem dX7_addTo_4 : decode cX7_addTo 4 = .ok (.aload_n 1, 1) := by decide +kernel
theorem dX7_addTo_5 : decode cX7_addTo 5 = .ok (.invokevirtual 40, 3) := by decide +kernel
theorem dX7_addTo_8 : decode cX7_addTo 8 = .ok (.return_, 1) := by decide +kernel
theorem nmX7_addTo : mm_nm yX7_addTo 1 := ⟨by decide, by decide, by decide +kernel⟩
theorem cdX7_addTo : mm_cd cd_Y yX7_addTo cX7_addTo 2 none := ⟨tw_711, tw_3⟩
abbrev rmX7_addTo : Room := { frames := 3, cells := 0, slots := 0, locals := 69 }
def fX7_addTo (p0 : Nat) (p1 : Nat) (σ : mm_M) : Option mm_M :=
  mm_sh σ p0 (.inl 7) (mm_on (mm_R σ p0 0) fun q2 => mm_sh σ q2 (.inl 4) (mm_on (fX4_addTo q2 p1 σ) fun q4 => some (q4)))
set_option maxHeartbeats 4000000 in
set_option maxRecDepth 100000 in
theorem kX7_addTo {G : mm_G} {A : Nat → Prop} (p0 : Nat) (p1 : Nat) {σ : mm_M} {R : mm_M} (hf : fX7_addTo p0 p1 σ = some R) : mm_C cd_Y G yX7_addTo cX7_addTo 2 none rmX7_addTo A [.ref p0, .ref p1] σ (mm_Pv R) := by
  refine mm_C.of (by decide) (Nat.le_of_ble_eq_true rfl) ?_
  unfold fX7_addTo at hf
  have e0 : lv_args 0 [.ref p0, .ref p1] = [(0, .ref p0), (1, .ref p1)] := rfl
  rw [e0]
  generalize hini : ((yX7_addTo.name == "<init>"), none) = ini
  clear e0
  clear hini
  refine mm_aload_n (j := 0) dX7_addTo_0 rfl rfl ?_
  obtain ⟨hs1, hf⟩ := mm_sh_s hf
  refine mm_get (c := 7) (k := 0) (v := va_rf (mm_R σ p0 0)) cd_ok ⟨_, _, _, rfl, by decide, Or.inl tw_67⟩ hs1 rfl dX7_addTo_1 ?_
  refine mm_aload_n (j := 1) dX7_addTo_4 rfl rfl ?_
  obtain ⟨q2, hq2, hf⟩ := mm_on_s hf
  rw [hq2, mm_rf_some]
  obtain ⟨hs3, hf⟩ := mm_sh_s hf
  obtain ⟨q4, hq4, hf⟩ := mm_on_s hf
  refine mm_callVv cd_ok (kX4_addTo q2 p1 hq4) hs3 rfl (Or.inl tw_712) cdX4_addTo tw_713 tw_714 nmX4_addTo rfl rfl (by simp only [List.map_cons, List.map_nil, mm_rf_cat]; exact Nat.le_of_ble_eq_true rfl) dX7_addTo_5 ⟨Nat.le_of_ble_eq_true rfl, Nat.le_of_ble_eq_true rfl⟩ ⟨Nat.le_of_ble_eq_true rfl, Nat.le_of_ble_eq_true rfl⟩ ?_
  cases hf
  refine mm_widen (ck' := rmX7_addTo.cells) (sk' := rmX7_addTo.slots) (Nat.le_of_ble_eq_true rfl) (Nat.le_of_ble_eq_true rfl) ?_
  exact mm_vret rfl dX7_addTo_8 ⟨rfl, rfl⟩
theorem dX8_init_0 : decode cX8_init 0 = .ok (.aload_n 0, 1) := by decide +kernel
theorem dX8_init_1 : decode cX8_init 1 = .ok (.invokespecial 1, 3) := by decide +kernel
theorem dX8_init_4 : decode cX8_init 4 = .ok (.aload_n 0, 1) := by decide +kernel
theorem dX8_init_5 : decode cX8_init 5 = .ok (.iconst 4, 1) := by decide +kernel
theorem dX8_init_6 : decode cX8_init 6 = .ok (.anewarray 9, 3) := by decide +kernel
theorem dX8_init_9 : decode cX8_init 9 = .ok (.putfield 11, 3) := by decide +kernel
theorem dX8_init_12 : decode cX8_init 12 = .ok (.aload_n 0, 1) := by decide +kernel
theorem dX8_init_13 : decode cX8_init 13 = .ok (.iconst 2, 1) := by decide +kernel
theorem dX8_init_14 : decode cX8_init 14 = .ok (.newarray .int, 2) := by decide +kernel
theorem dX8_init_16 : decode cX8_init 16 = .ok (.dup, 1) := by decide +kernel
theorem dX8_init_17 : decode cX8_init 17 = .ok (.iconst 0, 1) := by decide +kernel
theorem dX8_init_18 : decode cX8_init 18 = .ok (.iconst (-1), 1) := by decide +kernel
theorem dX8_init_19 : decode cX8_init 19 = .ok (.iastore, 1) := by decide +kernel
theorem dX8_init_20 : decode cX8_init 20 = .ok (.dup, 1) := by decide +kernel
theorem dX8_init_21 : decode cX8_init 21 = .ok (.iconst 1, 1) := by decide +kernel
theorem dX8_init_22 : decode cX8_init 22 = .ok (.iconst (-1), 1) := by decide +kernel
theorem dX8_init_23 : decode cX8_init 23 = .ok (.iastore, 1) := by decide +kernel
theorem dX8_init_24 : decode cX8_init 24 = .ok (.putfield 15, 3) := by decide +kernel
theorem dX8_init_27 : decode cX8_init 27 = .ok (.aload_n 0, 1) := by decide +kernel
theorem dX8_init_28 : decode cX8_init 28 = .ok (.iconst 2, 1) := by decide +kernel
theorem dX8_init_29 : decode cX8_init 29 = .ok (.newarray .int, 2) := by decide +kernel
theorem dX8_init_31 : decode cX8_init 31 = .ok (.dup, 1) := by decide +kernel
theorem dX8_init_32 : decode cX8_init 32 = .ok (.iconst 0, 1) := by decide +kernel
theorem dX8_init_33 : decode cX8_init 33 = .ok (.iconst (-1), 1) := by decide +kernel
theorem dX8_init_34 : decode cX8_init 34 = .ok (.iastore, 1) := by decide +kernel
theorem dX8_init_35 : decode cX8_init 35 = .ok (.dup, 1) := by decide +kernel
theorem dX8_init_36 : decode cX8_init 36 = .ok (.iconst 1, 1) := by decide +kernel
theorem dX8_init_37 : decode cX8_init 37 = .ok (.iconst (-1), 1) := by decide +kernel
theorem dX8_init_38 : decode cX8_init 38 = .ok (.iastore, 1) := by decide +kernel
theorem dX8_init_39 : decode cX8_init 39 = .ok (.putfield 19, 3) := by decide +kernel
theorem dX8_init_42 : decode cX8_init 42 = .ok (.aload_n 0, 1) := by decide +kernel
theorem dX8_init_43 : decode cX8_init 43 = .ok (.bipush 60, 2) := by decide +kernel
theorem dX8_init_45 : decode cX8_init 45 = .ok (.newarray .int, 2) := by decide +kernel
theorem dX8_init_47 : decode cX8_init 47 = .ok (.putfield 22, 3) := by decide +kernel
theorem dX8_init_50 : decode cX8_init 50 = .ok (.aload_n 0, 1) := by decide +kernel
theorem dX8_init_51 : decode cX8_init 51 = .ok (.bipush 8, 2) := by decide +kernel
theorem dX8_init_53 : decode cX8_init 53 = .ok (.newarray .int, 2) := by decide +kernel
theorem dX8_init_55 : decode cX8_init 55 = .ok (.putfield 25, 3) := by decide +kernel
theorem dX8_init_58 : decode cX8_init 58 = .ok (.aload_n 0, 1) := by decide +kernel
theorem dX8_init_59 : decode cX8_init 59 = .ok (.iconst 3, 1) := by decide +kernel
theorem dX8_init_60 : decode cX8_init 60 = .ok (.newarray .int, 2) := by decide +kernel
theorem dX8_init_62 : decode cX8_init 62 = .ok (.putfield 28, 3) := by decide +kernel
theorem dX8_init_65 : decode cX8_init 65 = .ok (.aload_n 0, 1) := by decide +kernel
theorem dX8_init_66 : decode cX8_init 66 = .ok (.new 31, 3) := by decide +kernel
theorem dX8_init_69 : decode cX8_init 69 = .ok (.dup, 1) := by decide +kernel
theorem dX8_init_70 : decode cX8_init 70 = .ok (.invokespecial 33, 3) := by decide +kernel
theorem dX8_init_73 : decode cX8_init 73 = .ok (.putfield 34, 3) := by decide +kernel
theorem dX8_init_76 : decode cX8_init 76 = .ok (.aload_n 0, 1) := by decide +kernel
theorem dX8_init_77 : decode cX8_init 77 = .ok (.new 38, 3) := by decide +kernel
theorem dX8_init_80 : decode cX8_init 80 = .ok (.dup, 1) := by decide +kernel
theorem dX8_init_81 : decode cX8_init 81 = .ok (.invokespecial 40, 3) := by decide +kernel
theorem dX8_init_84 : decode cX8_init 84 = .ok (.putfield 41, 3) := by decide +kernel
theorem dX8_init_87 : decode cX8_init 87 = .ok (.aload_n 0, 1) := by decide +kernel
theorem dX8_init_88 : decode cX8_init 88 = .ok (.new 45, 3) := by decide +kernel
theorem dX8_init_91 : decode cX8_init 91 = .ok (.dup, 1) := by decide +kernel
theorem dX8_init_92 : decode cX8_init 92 = .ok (.invokespecial 47, 3) := by decide +kernel
theorem dX8_init_95 : decode cX8_init 95 = .ok (.putfield 48, 3) := by decide +kernel
theorem dX8_init_98 : decode cX8_init 98 = .ok (.aload_n 0, 1) := by decide +kernel
theorem dX8_init_99 : decode cX8_init 99 = .ok (.bipush 60, 2) := by decide +kernel
theorem dX8_init_101 : decode cX8_init 101 = .ok (.anewarray 52, 3) := by decide +kernel
theorem dX8_init_104 : decode cX8_init 104 = .ok (.putfield 54, 3) := by decide +kernel
theorem dX8_init_107 : decode cX8_init 107 = .ok (.aload_n 0, 1) := by decide +kernel
theorem dX8_init_108 : decode cX8_init 108 = .ok (.iconst 5, 1) := by decide +kernel
theorem dX8_init_109 : decode cX8_init 109 = .ok (.newarray .int, 2) := by decide +kernel
theorem dX8_init_111 : decode cX8_init 111 = .ok (.dup, 1) := by decide +kernel
theorem dX8_init_112 : decode cX8_init 112 = .ok (.iconst 0, 1) := by decide +kernel
theorem dX8_init_113 : decode cX8_init 113 = .ok (.iconst (-1), 1) := by decide +kernel
theorem dX8_init_114 : decode cX8_init 114 = .ok (.iastore, 1) := by decide +kernel
theorem dX8_init_115 : decode cX8_init 115 = .ok (.dup, 1) := by decide +kernel
theorem dX8_init_116 : decode cX8_init 116 = .ok (.iconst 1, 1) := by decide +kernel
theorem dX8_init_117 : decode cX8_init 117 = .ok (.iconst (-1), 1) := by decide +kernel
theorem dX8_init_118 : decode cX8_init 118 = .ok (.iastore, 1) := by decide +kernel
theorem dX8_init_119 : decode cX8_init 119 = .ok (.dup, 1) := by decide +kernel
theorem dX8_init_120 : decode cX8_init 120 = .ok (.iconst 2, 1) := by decide +kernel
theorem dX8_init_121 : decode cX8_init 121 = .ok (.iconst (-1), 1) := by decide +kernel
theorem dX8_init_122 : decode cX8_init 122 = .ok (.iastore, 1) := by decide +kernel
theorem dX8_init_123 : decode cX8_init 123 = .ok (.dup, 1) := by decide +kernel
theorem dX8_init_124 : decode cX8_init 124 = .ok (.iconst 3, 1) := by decide +kernel
theorem dX8_init_125 : decode cX8_init 125 = .ok (.iconst (-1), 1) := by decide +kernel
theorem dX8_init_126 : decode cX8_init 126 = .ok (.iastore, 1) := by decide +kernel
theorem dX8_init_127 : decode cX8_init 127 = .ok (.dup, 1) := by decide +kernel
theorem dX8_init_128 : decode cX8_init 128 = .ok (.iconst 4, 1) := by decide +kernel
theorem dX8_init_129 : decode cX8_init 129 = .ok (.iconst (-1), 1) := by decide +kernel
theorem dX8_init_130 : decode cX8_init 130 = .ok (.iastore, 1) := by decide +kernel
theorem dX8_init_131 : decode cX8_init 131 = .ok (.putfield 58, 3) := by decide +kernel
theorem dX8_init_134 : decode cX8_init 134 = .ok (.iconst 0, 1) := by decide +kernel
theorem dX8_init_135 : decode cX8_init 135 = .ok (.istore_n 1, 1) := by decide +kernel
theorem dX8_init_136 : decode cX8_init 136 = .ok (.iload_n 1, 1) := by decide +kernel
theorem dX8_init_137 : decode cX8_init 137 = .ok (.iconst 4, 1) := by decide +kernel
theorem dX8_init_138 : decode cX8_init 138 = .ok (.if_icmp .ge 22, 3) := by decide +kernel
theorem dX8_init_141 : decode cX8_init 141 = .ok (.aload_n 0, 1) := by decide +kernel
theorem dX8_init_142 : decode cX8_init 142 = .ok (.getfield 11, 3) := by decide +kernel
theorem dX8_init_145 : decode cX8_init 145 = .ok (.iload_n 1, 1) := by decide +kernel
theorem dX8_init_146 : decode cX8_init 146 = .ok (.new 9, 3) := by decide +kernel
theorem dX8_init_149 : decode cX8_init 149 = .ok (.dup, 1) := by decide +kernel
theorem dX8_init_150 : decode cX8_init 150 = .ok (.invokespecial 61, 3) := by decide +kernel
theorem dX8_init_153 : decode cX8_init 153 = .ok (.aastore, 1) := by decide +kernel
theorem dX8_init_154 : decode cX8_init 154 = .ok (.iinc 1 1, 3) := by decide +kernel
theorem dX8_init_157 : decode cX8_init 157 = .ok (.goto (-21), 3) := by decide +kernel
theorem dX8_init_160 : decode cX8_init 160 = .ok (.return_, 1) := by decide +kernel
theorem nmX8_init : mm_nm yX8_init 0 := ⟨by decide, by decide, by decide +kernel⟩
theorem cdX8_init : mm_cd cd_Y yX8_init cX8_init 2 none := ⟨tw_24, tw_1⟩
abbrev rmX8_init : Room := { frames := 3, cells := 44, slots := 9322, locals := 52 }
def fX8_init (p0 : Nat) (σ : mm_M) : Option mm_M :=
  mm_let (mm_new σ (.inr (4, 4))) fun s1 => mm_sh s1 p0 (.inl 8) (mm_let (mm_wR s1 p0 0 (some σ.1)) fun s3 => mm_let (mm_new s3 (.inr (0, 2))) fun s4 => mm_ar s4 s3.1 0 fun n5 => mm_ib 0 n5 (mm_let (mm_wI s4 s3.1 ((0 : Int32).toNatClampNeg) (-1)) fun s7 => mm_ib 1 n5 (mm_let (mm_wI s7 s3.1 ((1 : Int32).toNatClampNeg) (-1)) fun s9 => mm_sh s9 p0 (.inl 8) (mm_let (mm_wR s9 p0 1 (some s3.1)) fun s11 => mm_let (mm_new s11 (.inr (0, 2))) fun s12 => mm_ar s12 s11.1 0 fun n13 => mm_ib 0 n13 (mm_let (mm_wI s12 s11.1 ((0 : Int32).toNatClampNeg) (-1)) fun s15 => mm_ib 1 n13 (mm_let (mm_wI s15 s11.1 ((1 : Int32).toNatClampNeg) (-1)) fun s17 => mm_sh s17 p0 (.inl 8) (mm_let (mm_wR s17 p0 2 (some s11.1)) fun s19 => mm_let (mm_new s19 (.inr (0, 60))) fun s20 => mm_sh s20 p0 (.inl 8) (mm_let (mm_wR s20 p0 3 (some s19.1)) fun s22 => mm_let (mm_new s22 (.inr (0, 8))) fun s23 => mm_sh s23 p0 (.inl 8) (mm_let (mm_wR s23 p0 5 (some s22.1)) fun s25 => mm_let (mm_new s25 (.inr (0, 3))) fun s26 => mm_sh s26 p0 (.inl 8) (mm_let (mm_wR s26 p0 6 (some s25.1)) fun s28 => mm_let (mm_new s28 (.inl 6)) fun s29 => mm_on (fX6_init s28.1 s29) fun q30 => mm_sh q30 p0 (.inl 8) (mm_let (mm_wR q30 p0 7 (some s28.1)) fun s32 => mm_let (mm_new s32 (.inl 7)) fun s33 => mm_on (fX7_init s32.1 s33) fun q34 => mm_sh q34 p0 (.inl 8) (mm_let (mm_wR q34 p0 8 (some s32.1)) fun s36 => mm_let (mm_new s36 (.inl 2)) fun s37 => mm_on (fX2_init s36.1 s37) fun q38 => mm_sh q38 p0 (.inl 8) (mm_let (mm_wR q38 p0 9 (some s36.1)) fun s40 => mm_let (mm_new s40 (.inr (6, 60))) fun s41 => mm_sh s41 p0 (.inl 8) (mm_let (mm_wR s41 p0 10 (some s40.1)) fun s43 => mm_let (mm_new s43 (.inr (0, 5))) fun s44 => mm_ar s44 s43.1 0 fun n45 => mm_ib 0 n45 (mm_let (mm_wI s44 s43.1 ((0 : Int32).toNatClampNeg) (-1)) fun s47 => mm_ib 1 n45 (mm_let (mm_wI s47 s43.1 ((1 : Int32).toNatClampNeg) (-1)) fun s49 => mm_ib 2 n45 (mm_let (mm_wI s49 s43.1 ((2 : Int32).toNatClampNeg) (-1)) fun s51 => mm_ib 3 n45 (mm_let (mm_wI s51 s43.1 ((3 : Int32).toNatClampNeg) (-1)) fun s53 => mm_ib 4 n45 (mm_let (mm_wI s53 s43.1 ((4 : Int32).toNatClampNeg) (-1)) fun s55 => mm_sh s55 p0 (.inl 8) (mm_let (mm_wR s55 p0 12 (some s43.1)) fun s57 => mm_let (mm_new s57 (.inl 0)) fun s59 => mm_on (fX0_init s57.1 s59) fun q60 => mm_on (mm_R s57 p0 0) fun q61 => mm_ar q60 q61 4 fun n62 => mm_ib 0 n62 (mm_sh q60 s57.1 (.inl 0) (mm_let (mm_wR q60 q61 ((0 : Int32).toNatClampNeg) (some s57.1)) fun s65 => mm_sh s65 p0 (.inl 8) (mm_let (mm_new s65 (.inl 0)) fun s68 => mm_on (fX0_init s65.1 s68) fun q69 => mm_on (mm_R s65 p0 0) fun q70 => mm_ar q69 q70 4 fun n71 => mm_ib 1 n71 (mm_sh q69 s65.1 (.inl 0) (mm_let (mm_wR q69 q70 ((1 : Int32).toNatClampNeg) (some s65.1)) fun s74 => mm_sh s74 p0 (.inl 8) (mm_let (mm_new s74 (.inl 0)) fun s77 => mm_on (fX0_init s74.1 s77) fun q78 => mm_on (mm_R s74 p0 0) fun q79 => mm_ar q78 q79 4 fun n80 => mm_ib 2 n80 (mm_sh q78 s74.1 (.inl 0) (mm_let (mm_wR q78 q79 ((2 : Int32).toNatClampNeg) (some s74.1)) fun s83 => mm_sh s83 p0 (.inl 8) (mm_let (mm_new s83 (.inl 0)) fun s86 => mm_on (fX0_init s83.1 s86) fun q87 => mm_on (mm_R s83 p0 0) fun q88 => mm_ar q87 q88 4 fun n89 => mm_ib 3 n89 (mm_sh q87 s83.1 (.inl 0) (mm_let (mm_wR q87 q88 ((3 : Int32).toNatClampNeg) (some s83.1)) fun s92 => some (s92))))))))))))))))))))))))))))))))
set_option maxHeartbeats 4000000 in
set_option maxRecDepth 100000 in
theorem kX8_init {G : mm_G} {A : Nat → Prop} (p0 : Nat) {σ : mm_M} {R : mm_M} (hf : fX8_init p0 σ = some R) : mm_C cd_Y G yX8_init cX8_init 2 none rmX8_init A [.ref p0] σ (mm_Pv R) := by
  refine mm_C.of (by decide) (Nat.le_of_ble_eq_true rfl) ?_
  unfold fX8_init at hf
  have e0 : lv_args 0 [.ref p0] = [(0, .ref p0)] := rfl
  rw [e0]
  have hini : (yX8_init.name == "<init>") = true := by decide
  rw [hini]
  clear e0 hini
  refine mm_aload_n (j := 0) dX8_init_0 rfl rfl ?_
  refine mm_objInit tw_25 tw_26 tw_27 dX8_init_1 (by decide) (by simp only [List.map_cons, List.map_nil, mm_rf_cat]; exact Nat.le_of_ble_eq_true rfl) ?_
  refine mm_aload_n (j := 0) dX8_init_4 rfl rfl ?_
  refine mm_iconst (v := 4) dX8_init_5 (by decide) ?_
  refine mm_newq (t := 4) (N' := 4) rfl tw_28 (by decide) (by decide) (by decide) (Nat.le_of_ble_eq_true rfl) (Nat.le_of_ble_eq_true rfl) dX8_init_6 ?_
  obtain ⟨s1, hs1, hf⟩ := mm_let_s hf
  rw [hs1]
  obtain ⟨hs2, hf⟩ := mm_sh_s hf
  refine mm_putFR (c := 8) (k := 0) cd_ok (some σ.1) rfl ⟨_, _, _, rfl, by decide, rfl, rfl, tw_140⟩ hs2 rfl dX8_init_9 ?_
  obtain ⟨s3, hs3, hf⟩ := mm_let_s hf
  rw [hs3]
  refine mm_aload_n (j := 0) dX8_init_12 rfl rfl ?_
  refine mm_iconst (v := 2) dX8_init_13 (by decide) ?_
  refine mm_newa (atype := .int) (t := 0) (N' := 2) rfl rfl tw_46 (by decide) (by decide) (by decide) (Nat.le_of_ble_eq_true rfl) (Nat.le_of_ble_eq_true rfl) dX8_init_14 ?_
  obtain ⟨s4, hs4, hf⟩ := mm_let_s hf
  rw [hs4]
  refine mm_dup dX8_init_16 rfl ?_
  refine mm_iconst (v := 0) dX8_init_17 (by decide) ?_
  refine mm_iconst (v := (-1)) dX8_init_18 (by decide) ?_
  obtain ⟨n5, hn5, hf⟩ := mm_ar_s hf
  obtain ⟨hi6, hf⟩ := mm_ib_s hf
  refine mm_iast hn5 rfl hi6 dX8_init_19 ?_
  obtain ⟨s7, hs7, hf⟩ := mm_let_s hf
  rw [hs7]
  refine mm_dup dX8_init_20 rfl ?_
  refine mm_iconst (v := 1) dX8_init_21 (by decide) ?_
  refine mm_iconst (v := (-1)) dX8_init_22 (by decide) ?_
  obtain ⟨hi8, hf⟩ := mm_ib_s hf
  refine mm_iast (mm_ke hs7 hn5) rfl hi8 dX8_init_23 ?_
  obtain ⟨s9, hs9, hf⟩ := mm_let_s hf
  rw [hs9]
  obtain ⟨hs10, hf⟩ := mm_sh_s hf
  refine mm_putFR (c := 8) (k := 1) cd_ok (some s3.1) rfl ⟨_, _, _, rfl, by decide, rfl, rfl, tw_141⟩ hs10 rfl dX8_init_24 ?_
  obtain ⟨s11, hs11, hf⟩ := mm_let_s hf
  rw [hs11]
  refine mm_aload_n (j := 0) dX8_init_27 rfl rfl ?_
  refine mm_iconst (v := 2) dX8_init_28 (by decide) ?_
  refine mm_newa (atype := .int) (t := 0) (N' := 2) rfl rfl tw_46 (by decide) (by decide) (by decide) (Nat.le_of_ble_eq_true rfl) (Nat.le_of_ble_eq_true rfl) dX8_init_29 ?_
  obtain ⟨s12, hs12, hf⟩ := mm_let_s hf
  rw [hs12]
  refine mm_dup dX8_init_31 rfl ?_
  refine mm_iconst (v := 0) dX8_init_32 (by decide) ?_
  refine mm_iconst (v := (-1)) dX8_init_33 (by decide) ?_
  obtain ⟨n13, hn13, hf⟩ := mm_ar_s hf
  obtain ⟨hi14, hf⟩ := mm_ib_s hf
  refine mm_iast hn13 rfl hi14 dX8_init_34 ?_
  obtain ⟨s15, hs15, hf⟩ := mm_let_s hf
  rw [hs15]
  refine mm_dup dX8_init_35 rfl ?_
  refine mm_iconst (v := 1) dX8_init_36 (by decide) ?_
  refine mm_iconst (v := (-1)) dX8_init_37 (by decide) ?_
  obtain ⟨hi16, hf⟩ := mm_ib_s hf
  refine mm_iast (mm_ke hs15 hn13) rfl hi16 dX8_init_38 ?_
  obtain ⟨s17, hs17, hf⟩ := mm_let_s hf
  rw [hs17]
  obtain ⟨hs18, hf⟩ := mm_sh_s hf
  refine mm_putFR (c := 8) (k := 2) cd_ok (some s11.1) rfl ⟨_, _, _, rfl, by decide, rfl, rfl, tw_142⟩ hs18 rfl dX8_init_39 ?_
  obtain ⟨s19, hs19, hf⟩ := mm_let_s hf
  rw [hs19]
  refine mm_aload_n (j := 0) dX8_init_42 rfl rfl ?_
  refine mm_bipush (v := 60) dX8_init_43 (by decide) ?_
  refine mm_newa (atype := .int) (t := 0) (N' := 60) rfl rfl tw_46 (by decide) (by decide) (by decide) (Nat.le_of_ble_eq_true rfl) (Nat.le_of_ble_eq_true rfl) dX8_init_45 ?_
  obtain ⟨s20, hs20, hf⟩ := mm_let_s hf
  rw [hs20]
  obtain ⟨hs21, hf⟩ := mm_sh_s hf
  refine mm_putFR (c := 8) (k := 3) cd_ok (some s19.1) rfl ⟨_, _, _, rfl, by decide, rfl, rfl, tw_143⟩ hs21 rfl dX8_init_47 ?_
  obtain ⟨s22, hs22, hf⟩ := mm_let_s hf
  rw [hs22]
  refine mm_aload_n (j := 0) dX8_init_50 rfl rfl ?_
  refine mm_bipush (v := 8) dX8_init_51 (by decide) ?_
  refine mm_newa (atype := .int) (t := 0) (N' := 8) rfl rfl tw_46 (by decide) (by decide) (by decide) (Nat.le_of_ble_eq_true rfl) (Nat.le_of_ble_eq_true rfl) dX8_init_53 ?_
  obtain ⟨s23, hs23, hf⟩ := mm_let_s hf
  rw [hs23]
  obtain ⟨hs24, hf⟩ := mm_sh_s hf
  refine mm_putFR (c := 8) (k := 5) cd_ok (some s22.1) rfl ⟨_, _, _, rfl, by decide, rfl, rfl, tw_145⟩ hs24 rfl dX8_init_55 ?_
  obtain ⟨s25, hs25, hf⟩ := mm_let_s hf
  rw [hs25]
  refine mm_aload_n (j := 0) dX8_init_58 rfl rfl ?_
  refine mm_iconst (v := 3) dX8_init_59 (by decide) ?_
  refine mm_newa (atype := .int) (t := 0) (N' := 3) rfl rfl tw_46 (by decide) (by decide) (by decide) (Nat.le_of_ble_eq_true rfl) (Nat.le_of_ble_eq_true rfl) dX8_init_60 ?_
  obtain ⟨s26, hs26, hf⟩ := mm_let_s hf
  rw [hs26]
  obtain ⟨hs27, hf⟩ := mm_sh_s hf
  refine mm_putFR (c := 8) (k := 6) cd_ok (some s25.1) rfl ⟨_, _, _, rfl, by decide, rfl, rfl, tw_146⟩ hs27 rfl dX8_init_62 ?_
  obtain ⟨s28, hs28, hf⟩ := mm_let_s hf
  rw [hs28]
  refine mm_aload_n (j := 0) dX8_init_65 rfl rfl ?_
  refine mm_newo cd_ok (c := 6) (N := 2) rfl (by decide) tw_30 tw_31 tw_2 (Nat.le_of_ble_eq_true rfl) (Nat.le_of_ble_eq_true rfl) dX8_init_66 ?_
  obtain ⟨s29, hs29, hf⟩ := mm_let_s hf
  rw [hs29]
  refine mm_dup dX8_init_69 rfl ?_
  obtain ⟨q30, hq30, hf⟩ := mm_on_s hf
  refine mm_callIv cd_ok (kX6_init s28.1 hq30) (Or.inr ⟨_, tn_0⟩) cdX6_init tw_33 rfl nmX6_init rfl rfl (by simp only [List.map_cons, List.map_nil, mm_rf_cat]; exact Nat.le_of_ble_eq_true rfl) dX8_init_70 ⟨Nat.le_of_ble_eq_true rfl, Nat.le_of_ble_eq_true rfl⟩ ⟨Nat.le_of_ble_eq_true rfl, Nat.le_of_ble_eq_true rfl⟩ ?_
  obtain ⟨hs31, hf⟩ := mm_sh_s hf
  refine mm_putFR (c := 8) (k := 7) cd_ok (some s28.1) rfl ⟨_, _, _, rfl, by decide, rfl, rfl, tw_147⟩ hs31 rfl dX8_init_73 ?_
  obtain ⟨s32, hs32, hf⟩ := mm_let_s hf
  rw [hs32]
  refine mm_aload_n (j := 0) dX8_init_76 rfl rfl ?_
  refine mm_newo cd_ok (c := 7) (N := 3) rfl (by decide) tw_47 tw_48 tw_3 (Nat.le_of_ble_eq_true rfl) (Nat.le_of_ble_eq_true rfl) dX8_init_77 ?_
  obtain ⟨s33, hs33, hf⟩ := mm_let_s hf
  rw [hs33]
  refine mm_dup dX8_init_80 rfl ?_
  obtain ⟨q34, hq34, hf⟩ := mm_on_s hf
  refine mm_callIv cd_ok (kX7_init s32.1 hq34) (Or.inr ⟨_, tn_2⟩) cdX7_init tw_50 rfl nmX7_init rfl rfl (by simp only [List.map_cons, List.map_nil, mm_rf_cat]; exact Nat.le_of_ble_eq_true rfl) dX8_init_81 ⟨Nat.le_of_ble_eq_true rfl, Nat.le_of_ble_eq_true rfl⟩ ⟨Nat.le_of_ble_eq_true rfl, Nat.le_of_ble_eq_true rfl⟩ ?_
  obtain ⟨hs35, hf⟩ := mm_sh_s hf
  refine mm_putFR (c := 8) (k := 8) cd_ok (some s32.1) rfl ⟨_, _, _, rfl, by decide, rfl, rfl, tw_148⟩ hs35 rfl dX8_init_84 ?_
  obtain ⟨s36, hs36, hf⟩ := mm_let_s hf
  rw [hs36]
  refine mm_aload_n (j := 0) dX8_init_87 rfl rfl ?_
  refine mm_newo cd_ok (c := 2) (N := 2) rfl (by decide) tw_77 tw_78 tw_5 (Nat.le_of_ble_eq_true rfl) (Nat.le_of_ble_eq_true rfl) dX8_init_88 ?_
  obtain ⟨s37, hs37, hf⟩ := mm_let_s hf
  rw [hs37]
  refine mm_dup dX8_init_91 rfl ?_
  obtain ⟨q38, hq38, hf⟩ := mm_on_s hf
  refine mm_callIv cd_ok (kX2_init s36.1 hq38) (Or.inr ⟨_, tn_4⟩) cdX2_init tw_80 rfl nmX2_init rfl rfl (by simp only [List.map_cons, List.map_nil, mm_rf_cat]; exact Nat.le_of_ble_eq_true rfl) dX8_init_92 ⟨Nat.le_of_ble_eq_true rfl, Nat.le_of_ble_eq_true rfl⟩ ⟨Nat.le_of_ble_eq_true rfl, Nat.le_of_ble_eq_true rfl⟩ ?_
  obtain ⟨hs39, hf⟩ := mm_sh_s hf
  refine mm_putFR (c := 8) (k := 9) cd_ok (some s36.1) rfl ⟨_, _, _, rfl, by decide, rfl, rfl, tw_149⟩ hs39 rfl dX8_init_95 ?_
  obtain ⟨s40, hs40, hf⟩ := mm_let_s hf
  rw [hs40]
  refine mm_aload_n (j := 0) dX8_init_98 rfl rfl ?_
  refine mm_bipush (v := 60) dX8_init_99 (by decide) ?_
  refine mm_newq (t := 6) (N' := 60) rfl tw_91 (by decide) (by decide) (by decide) (Nat.le_of_ble_eq_true rfl) (Nat.le_of_ble_eq_true rfl) dX8_init_101 ?_
  obtain ⟨s41, hs41, hf⟩ := mm_let_s hf
  rw [hs41]
  obtain ⟨hs42, hf⟩ := mm_sh_s hf
  refine mm_putFR (c := 8) (k := 10) cd_ok (some s40.1) rfl ⟨_, _, _, rfl, by decide, rfl, rfl, tw_150⟩ hs42 rfl dX8_init_104 ?_
  obtain ⟨s43, hs43, hf⟩ := mm_let_s hf
  rw [hs43]
  refine mm_aload_n (j := 0) dX8_init_107 rfl rfl ?_
  refine mm_iconst (v := 5) dX8_init_108 (by decide) ?_
  refine mm_newa (atype := .int) (t := 0) (N' := 5) rfl rfl tw_46 (by decide) (by decide) (by decide) (Nat.le_of_ble_eq_true rfl) (Nat.le_of_ble_eq_true rfl) dX8_init_109 ?_
  obtain ⟨s44, hs44, hf⟩ := mm_let_s hf
  rw [hs44]
  refine mm_dup dX8_init_111 rfl ?_
  refine mm_iconst (v := 0) dX8_init_112 (by decide) ?_
  refine mm_iconst (v := (-1)) dX8_init_113 (by decide) ?_
  obtain ⟨n45, hn45, hf⟩ := mm_ar_s hf
  obtain ⟨hi46, hf⟩ := mm_ib_s hf
  refine mm_iast hn45 rfl hi46 dX8_init_114 ?_
  obtain ⟨s47, hs47, hf⟩ := mm_let_s hf
  rw [hs47]
  refine mm_dup dX8_init_115 rfl ?_
  refine mm_iconst (v := 1) dX8_init_116 (by decide) ?_
  refine mm_iconst (v := (-1)) dX8_init_117 (by decide) ?_
  obtain ⟨hi48, hf⟩ := mm_ib_s hf
  refine mm_iast (mm_ke hs47 hn45) rfl hi48 dX8_init_118 ?_
  obtain ⟨s49, hs49, hf⟩ := mm_let_s hf
  rw [hs49]
  refine mm_dup dX8_init_119 rfl ?_
  refine mm_iconst (v := 2) dX8_init_120 (by decide) ?_
  refine mm_iconst (v := (-1)) dX8_init_121 (by decide) ?_
  obtain ⟨hi50, hf⟩ := mm_ib_s hf
  refine mm_iast (mm_ke hs49 (mm_ke hs47 hn45)) rfl hi50 dX8_init_122 ?_
  obtain ⟨s51, hs51, hf⟩ := mm_let_s hf
  rw [hs51]
  refine mm_dup dX8_init_123 rfl ?_
  refine mm_iconst (v := 3) dX8_init_124 (by decide) ?_
  refine mm_iconst (v := (-1)) dX8_init_125 (by decide) ?_
  obtain ⟨hi52, hf⟩ := mm_ib_s hf
  refine mm_iast (mm_ke hs51 (mm_ke hs49 (mm_ke hs47 hn45))) rfl hi52 dX8_init_126 ?_
  obtain ⟨s53, hs53, hf⟩ := mm_let_s hf
  rw [hs53]
  refine mm_dup dX8_init_127 rfl ?_
  refine mm_iconst (v := 4) dX8_init_128 (by decide) ?_
  refine mm_iconst (v := (-1)) dX8_init_129 (by decide) ?_
  obtain ⟨hi54, hf⟩ := mm_ib_s hf
  refine mm_iast (mm_ke hs53 (mm_ke hs51 (mm_ke hs49 (mm_ke hs47 hn45)))) rfl hi54 dX8_init_130 ?_
  obtain ⟨s55, hs55, hf⟩ := mm_let_s hf
  rw [hs55]
  obtain ⟨hs56, hf⟩ := mm_sh_s hf
  refine mm_putFR (c := 8) (k := 12) cd_ok (some s43.1) rfl ⟨_, _, _, rfl, by decide, rfl, rfl, tw_152⟩ hs56 rfl dX8_init_131 ?_
  obtain ⟨s57, hs57, hf⟩ := mm_let_s hf
  rw [hs57]
  refine mm_iconst (v := 0) dX8_init_134 (by decide) ?_
  refine mm_istore_n (L' := [(1, .int 0), (0, .ref p0)]) dX8_init_135 rfl (by decide) rfl ?_
  refine mm_iload_n (j := 0) dX8_init_136 rfl rfl ?_
  refine mm_iconst (v := 4) dX8_init_137 (by decide) ?_
  refine mm_icmp_ge (tgt := 160) dX8_init_138 (by decide) (fun c58 => ?_) (fun c58 => ?_)
  case refine_1 => exact absurd c58 (by decide)
  refine mm_aload_n (j := 1) dX8_init_141 rfl rfl ?_
  refine mm_get (c := 8) (k := 0) (v := va_rf (mm_R s57 p0 0)) cd_ok ⟨_, _, _, rfl, by decide, Or.inl tw_140⟩ (mm_ke hs57 hs56) rfl dX8_init_142 ?_
  refine mm_iload_n (j := 0) dX8_init_145 rfl rfl ?_
  refine mm_newo cd_ok (c := 0) (N := 7) rfl (by decide) tw_28 tw_93 tw_6 (Nat.le_of_ble_eq_true rfl) (Nat.le_of_ble_eq_true rfl) dX8_init_146 ?_
  obtain ⟨s59, hs59, hf⟩ := mm_let_s hf
  rw [hs59]
  refine mm_dup dX8_init_149 rfl ?_
  obtain ⟨q60, hq60, hf⟩ := mm_on_s hf
  refine mm_callIv cd_ok (kX0_init s57.1 hq60) (Or.inr ⟨_, tn_6⟩) cdX0_init tw_95 rfl nmX0_init rfl rfl (by simp only [List.map_cons, List.map_nil, mm_rf_cat]; exact Nat.le_of_ble_eq_true rfl) dX8_init_150 ⟨Nat.le_of_ble_eq_true rfl, Nat.le_of_ble_eq_true rfl⟩ ⟨Nat.le_of_ble_eq_true rfl, Nat.le_of_ble_eq_true rfl⟩ ?_
  obtain ⟨q61, hq61, hf⟩ := mm_on_s hf
  rw [hq61, mm_rf_some]
  obtain ⟨n62, hn62, hf⟩ := mm_ar_s hf
  obtain ⟨hi63, hf⟩ := mm_ib_s hf
  obtain ⟨hs64, hf⟩ := mm_sh_s hf
  refine mm_aast (cv := 0) hn62 rfl hi63 hs64 rfl dX8_init_153 ?_
  obtain ⟨s65, hs65, hf⟩ := mm_let_s hf
  rw [hs65]
  refine mm_iinc (j := 0) (L' := [(1, .int 1), (0, .ref p0)]) dX8_init_154 rfl (by decide) (by decide) rfl ?_
  refine mm_goto (tgt := 136) dX8_init_157 (by decide) ?_
  refine mm_iload_n (j := 0) dX8_init_136 rfl rfl ?_
  refine mm_iconst (v := 4) dX8_init_137 (by decide) ?_
  refine mm_icmp_ge (tgt := 160) dX8_init_138 (by decide) (fun c66 => ?_) (fun c66 => ?_)
  case refine_1 => exact absurd c66 (by decide)
  refine mm_aload_n (j := 1) dX8_init_141 rfl rfl ?_
  obtain ⟨hs67, hf⟩ := mm_sh_s hf
  refine mm_get (c := 8) (k := 0) (v := va_rf (mm_R s65 p0 0)) cd_ok ⟨_, _, _, rfl, by decide, Or.inl tw_140⟩ hs67 rfl dX8_init_142 ?_
  refine mm_iload_n (j := 0) dX8_init_145 rfl rfl ?_
  refine mm_newo cd_ok (c := 0) (N := 7) rfl (by decide) tw_28 tw_93 tw_6 (Nat.le_of_ble_eq_true rfl) (Nat.le_of_ble_eq_true rfl) dX8_init_146 ?_
  obtain ⟨s68, hs68, hf⟩ := mm_let_s hf
  rw [hs68]
  refine mm_dup dX8_init_149 rfl ?_
  obtain ⟨q69, hq69, hf⟩ := mm_on_s hf
  refine mm_callIv cd_ok (kX0_init s65.1 hq69) (Or.inr ⟨_, tn_6⟩) cdX0_init tw_95 rfl nmX0_init rfl rfl (by simp only [List.map_cons, List.map_nil, mm_rf_cat]; exact Nat.le_of_ble_eq_true rfl) dX8_init_150 ⟨Nat.le_of_ble_eq_true rfl, Nat.le_of_ble_eq_true rfl⟩ ⟨Nat.le_of_ble_eq_true rfl, Nat.le_of_ble_eq_true rfl⟩ ?_
  obtain ⟨q70, hq70, hf⟩ := mm_on_s hf
  rw [hq70, mm_rf_some]
  obtain ⟨n71, hn71, hf⟩ := mm_ar_s hf
  obtain ⟨hi72, hf⟩ := mm_ib_s hf
  obtain ⟨hs73, hf⟩ := mm_sh_s hf
  refine mm_aast (cv := 0) hn71 rfl hi72 hs73 rfl dX8_init_153 ?_
  obtain ⟨s74, hs74, hf⟩ := mm_let_s hf
  rw [hs74]
  refine mm_iinc (j := 0) (L' := [(1, .int 2), (0, .ref p0)]) dX8_init_154 rfl (by decide) (by decide) rfl ?_
  refine mm_goto (tgt := 136) dX8_init_157 (by decide) ?_
  refine mm_iload_n (j := 0) dX8_init_136 rfl rfl ?_
  refine mm_iconst (v := 4) dX8_init_137 (by decide) ?_
  refine mm_icmp_ge (tgt := 160) dX8_init_138 (by decide) (fun c75 => ?_) (fun c75 => ?_)
  case refine_1 => exact absurd c75 (by decide)
  refine mm_aload_n (j := 1) dX8_init_141 rfl rfl ?_
  obtain ⟨hs76, hf⟩ := mm_sh_s hf
  refine mm_get (c := 8) (k := 0) (v := va_rf (mm_R s74 p0 0)) cd_ok ⟨_, _, _, rfl, by decide, Or.inl tw_140⟩ hs76 rfl dX8_init_142 ?_
  refine mm_iload_n (j := 0) dX8_init_145 rfl rfl ?_
  refine mm_newo cd_ok (c := 0) (N := 7) rfl (by decide) tw_28 tw_93 tw_6 (Nat.le_of_ble_eq_true rfl) (Nat.le_of_ble_eq_true rfl) dX8_init_146 ?_
  obtain ⟨s77, hs77, hf⟩ := mm_let_s hf
  rw [hs77]
  refine mm_dup dX8_init_149 rfl ?_
  obtain ⟨q78, hq78, hf⟩ := mm_on_s hf
  refine mm_callIv cd_ok (kX0_init s74.1 hq78) (Or.inr ⟨_, tn_6⟩) cdX0_init tw_95 rfl nmX0_init rfl rfl (by simp only [List.map_cons, List.map_nil, mm_rf_cat]; exact Nat.le_of_ble_eq_true rfl) dX8_init_150 ⟨Nat.le_of_ble_eq_true rfl, Nat.le_of_ble_eq_true rfl⟩ ⟨Nat.le_of_ble_eq_true rfl, Nat.le_of_ble_eq_true rfl⟩ ?_
  obtain ⟨q79, hq79, hf⟩ := mm_on_s hf
  rw [hq79, mm_rf_some]
  obtain ⟨n80, hn80, hf⟩ := mm_ar_s hf
  obtain ⟨hi81, hf⟩ := mm_ib_s hf
  obtain ⟨hs82, hf⟩ := mm_sh_s hf
  refine mm_aast (cv := 0) hn80 rfl hi81 hs82 rfl dX8_init_153 ?_
  obtain ⟨s83, hs83, hf⟩ := mm_let_s hf
  rw [hs83]
  refine mm_iinc (j := 0) (L' := [(1, .int 3), (0, .ref p0)]) dX8_init_154 rfl (by decide) (by decide) rfl ?_
  refine mm_goto (tgt := 136) dX8_init_157 (by decide) ?_
  refine mm_iload_n (j := 0) dX8_init_136 rfl rfl ?_
  refine mm_iconst (v := 4) dX8_init_137 (by decide) ?_
  refine mm_icmp_ge (tgt := 160) dX8_init_138 (by decide) (fun c84 => ?_) (fun c84 => ?_)
  case refine_1 => exact absurd c84 (by decide)
  refine mm_aload_n (j := 1) dX8_init_141 rfl rfl ?_
  obtain ⟨hs85, hf⟩ := mm_sh_s hf
  refine mm_get (c := 8) (k := 0) (v := va_rf (mm_R s83 p0 0)) cd_ok ⟨_, _, _, rfl, by decide, Or.inl tw_140⟩ hs85 rfl dX8_init_142 ?_
  refine mm_iload_n (j := 0) dX8_init_145 rfl rfl ?_
  refine mm_newo cd_ok (c := 0) (N := 7) rfl (by decide) tw_28 tw_93 tw_6 (Nat.le_of_ble_eq_true rfl) (Nat.le_of_ble_eq_true rfl) dX8_init_146 ?_
  obtain ⟨s86, hs86, hf⟩ := mm_let_s hf
  rw [hs86]
  refine mm_dup dX8_init_149 rfl ?_
  obtain ⟨q87, hq87, hf⟩ := mm_on_s hf
  refine mm_callIv cd_ok (kX0_init s83.1 hq87) (Or.inr ⟨_, tn_6⟩) cdX0_init tw_95 rfl nmX0_init rfl rfl (by simp only [List.map_cons, List.map_nil, mm_rf_cat]; exact Nat.le_of_ble_eq_true rfl) dX8_init_150 ⟨Nat.le_of_ble_eq_true rfl, Nat.le_of_ble_eq_true rfl⟩ ⟨Nat.le_of_ble_eq_true rfl, Nat.le_of_ble_eq_true rfl⟩ ?_
  obtain ⟨q88, hq88, hf⟩ := mm_on_s hf
  rw [hq88, mm_rf_some]
  obtain ⟨n89, hn89, hf⟩ := mm_ar_s hf
  obtain ⟨hi90, hf⟩ := mm_ib_s hf
  obtain ⟨hs91, hf⟩ := mm_sh_s hf
  refine mm_aast (cv := 0) hn89 rfl hi90 hs91 rfl dX8_init_153 ?_
  obtain ⟨s92, hs92, hf⟩ := mm_let_s hf
  rw [hs92]
  refine mm_iinc (j := 0) (L' := [(1, .int 4), (0, .ref p0)]) dX8_init_154 rfl (by decide) (by decide) rfl ?_
  refine mm_goto (tgt := 136) dX8_init_157 (by decide) ?_
  refine mm_iload_n (j := 0) dX8_init_136 rfl rfl ?_
  refine mm_iconst (v := 4) dX8_init_137 (by decide) ?_
  refine mm_icmp_ge (tgt := 160) dX8_init_138 (by decide) (fun c93 => ?_) (fun c93 => ?_)
  case refine_2 => exact absurd c93 (by decide)
  cases hf
  refine mm_widen (ck' := rmX8_init.cells) (sk' := rmX8_init.slots) (Nat.le_of_ble_eq_true rfl) (Nat.le_of_ble_eq_true rfl) ?_
  exact mm_vret rfl dX8_init_160 ⟨rfl, rfl⟩
theorem dX8_cell_0 : decode cX8_cell 0 = .ok (.iload_n 1, 1) := by decide +kernel
theorem dX8_cell_1 : decode cX8_cell 1 = .ok (.iconst 4, 1) := by decide +kernel
theorem dX8_cell_2 : decode cX8_cell 2 = .ok (.invokestatic 62, 3) := by decide +kernel
theorem dX8_cell_5 : decode cX8_cell 5 = .ok (.ifCond .ne 20, 3) := by decide +kernel
theorem dX8_cell_8 : decode cX8_cell 8 = .ok (.iload_n 2, 1) := by decide +kernel
theorem dX8_cell_9 : decode cX8_cell 9 = .ok (.iconst 2, 1) := by decide +kernel
theorem dX8_cell_10 : decode cX8_cell 10 = .ok (.invokestatic 62, 3) := by decide +kernel
theorem dX8_cell_13 : decode cX8_cell 13 = .ok (.ifCond .ne 12, 3) := by decide +kernel
theorem dX8_cell_16 : decode cX8_cell 16 = .ok (.iload 5, 2) := by decide +kernel
theorem dX8_cell_18 : decode cX8_cell 18 = .ok (.iconst 2, 1) := by decide +kernel
theorem dX8_cell_19 : decode cX8_cell 19 = .ok (.invokestatic 62, 3) := by decide +kernel
theorem dX8_cell_22 : decode cX8_cell 22 = .ok (.ifCond .eq 13, 3) := by decide +kernel
theorem dX8_cell_25 : decode cX8_cell 25 = .ok (.new 66, 3) := by decide +kernel
theorem dX8_cell_28 : decode cX8_cell 28 = .ok (.dup, 1) := by decide +kernel
theorem dX8_cell_29 : decode cX8_cell 29 = .ok (.ldc 84, 2) := by decide +kernel
theorem dX8_cell_31 : decode cX8_cell 31 = .ok (.invokespecial 70, 3) := by decide +kernel
theorem dX8_cell_34 : decode cX8_cell 34 = .ok (.athrow, 1) := by decide +kernel
theorem dX8_cell_35 : decode cX8_cell 35 = .ok (.iload_n 3, 1) := by decide +kernel
theorem dX8_cell_36 : decode cX8_cell 36 = .ok (.iconst 1, 1) := by decide +kernel
theorem dX8_cell_37 : decode cX8_cell 37 = .ok (.isub, 1) := by decide +kernel
theorem dX8_cell_38 : decode cX8_cell 38 = .ok (.bipush 15, 2) := by decide +kernel
theorem dX8_cell_40 : decode cX8_cell 40 = .ok (.invokestatic 62, 3) := by decide +kernel
theorem dX8_cell_43 : decode cX8_cell 43 = .ok (.ifCond .ne 13, 3) := by decide +kernel
theorem dX8_cell_46 : decode cX8_cell 46 = .ok (.iload 4, 2) := by decide +kernel
theorem dX8_cell_48 : decode cX8_cell 48 = .ok (.bipush 32, 2) := by decide +kernel
theorem dX8_cell_50 : decode cX8_cell 50 = .ok (.invokestatic 62, 3) := by decide +kernel
theorem dX8_cell_53 : decode cX8_cell 53 = .ok (.ifCond .eq 13, 3) := by decide +kernel
theorem dX8_cell_56 : decode cX8_cell 56 = .ok (.new 66, 3) := by decide +kernel
theorem dX8_cell_59 : decode cX8_cell 59 = .ok (.dup, 1) := by decide +kernel
theorem dX8_cell_60 : decode cX8_cell 60 = .ok (.ldc 86, 2) := by decide +kernel
theorem dX8_cell_62 : decode cX8_cell 62 = .ok (.invokespecial 70, 3) := by decide +kernel
theorem dX8_cell_65 : decode cX8_cell 65 = .ok (.athrow, 1) := by decide +kernel
theorem dX8_cell_66 : decode cX8_cell 66 = .ok (.aload_n 0, 1) := by decide +kernel
theorem dX8_cell_67 : decode cX8_cell 67 = .ok (.getfield 11, 3) := by decide +kernel
theorem dX8_cell_70 : decode cX8_cell 70 = .ok (.iload_n 1, 1) := by decide +kernel
theorem dX8_cell_71 : decode cX8_cell 71 = .ok (.aaload, 1) := by decide +kernel
theorem dX8_cell_72 : decode cX8_cell 72 = .ok (.astore 6, 2) := by decide +kernel
theorem dX8_cell_74 : decode cX8_cell 74 = .ok (.iload_n 2, 1) := by decide +kernel
theorem dX8_cell_75 : decode cX8_cell 75 = .ok (.ifCond .ne 11, 3) := by decide +kernel
theorem dX8_cell_78 : decode cX8_cell 78 = .ok (.aload 6, 2) := by decide +kernel
theorem dX8_cell_80 : decode cX8_cell 80 = .ok (.getfield 88, 3) := by decide +kernel
theorem dX8_cell_83 : decode cX8_cell 83 = .ok (.goto 8, 3) := by decide +kernel
theorem dX8_cell_86 : decode cX8_cell 86 = .ok (.aload 6, 2) := by decide +kernel
theorem dX8_cell_88 : decode cX8_cell 88 = .ok (.getfield 92, 3) := by decide +kernel
theorem dX8_cell_91 : decode cX8_cell 91 = .ok (.astore 7, 2) := by decide +kernel
theorem dX8_cell_93 : decode cX8_cell 93 = .ok (.iload 5, 2) := by decide +kernel
theorem dX8_cell_95 : decode cX8_cell 95 = .ok (.ifCond .ne 14, 3) := by decide +kernel
theorem dX8_cell_98 : decode cX8_cell 98 = .ok (.aload 7, 2) := by decide +kernel
theorem dX8_cell_100 : decode cX8_cell 100 = .ok (.iload_n 3, 1) := by decide +kernel
theorem dX8_cell_101 : decode cX8_cell 101 = .ok (.iload 4, 2) := by decide +kernel
theorem dX8_cell_103 : decode cX8_cell 103 = .ok (.invokevirtual 95, 3) := by decide +kernel
theorem dX8_cell_106 : decode cX8_cell 106 = .ok (.goto 11, 3) := by decide +kernel
theorem dX8_cell_109 : decode cX8_cell 109 = .ok (.aload 7, 2) := by decide +kernel
theorem dX8_cell_111 : decode cX8_cell 111 = .ok (.iload_n 3, 1) := by decide +kernel
theorem dX8_cell_112 : decode cX8_cell 112 = .ok (.iload 4, 2) := by decide +kernel
theorem dX8_cell_114 : decode cX8_cell 114 = .ok (.invokevirtual 101, 3) := by decide +kernel
theorem dX8_cell_117 : decode cX8_cell 117 = .ok (.ireturn, 1) := by decide +kernel
theorem nmX8_cell : mm_nm yX8_cell 5 := ⟨by decide, by decide, by decide +kernel⟩
theorem cdX8_cell : mm_cd cd_Y yX8_cell cX8_cell 8 (some .int) := ⟨tw_426, tw_1⟩
abbrev rmX8_cell : Room := { frames := 6, cells := 1, slots := 6, locals := 82 }
def fX8_cell_91  (a0 : Nat) (x1 : Int32) (x2 : Int32) (x3 : Int32) (x4 : Int32) (x5 : Int32) (r6 : Option Nat) (y0 : Option Nat) (σ : mm_M) : Option (Option Int32 × mm_M) :=
  (if x5 = 0 then mm_on (y0) fun q17 => mm_sh σ q17 (.inl 5) (mm_on (fX5_letterAt q17 x3 x4 σ) fun q19 => some (some (q19.1), q19.2)) else mm_on (y0) fun q14 => mm_sh σ q14 (.inl 5) (mm_on (fX5_lookAt q14 x3 x4 σ) fun q16 => some (some (q16.1), q16.2)))
def fX8_cell (p0 : Nat) (p1 : Int32) (p2 : Int32) (p3 : Int32) (p4 : Int32) (p5 : Int32) (σ : mm_M) : Option (Option Int32 × mm_M) :=
  (if (fX8_isOutside p1 4) = 0 then (if (fX8_isOutside p2 2) = 0 then (if (fX8_isOutside p5 2) = 0 then (if (fX8_isOutside (p3 - 1) 15) = 0 then (if (fX8_isOutside p4 32) = 0 then mm_sh σ p0 (.inl 8) (mm_on (mm_R σ p0 0) fun q7 => mm_ar σ q7 4 fun n8 => mm_ib p1 n8 ((if p2 = 0 then mm_on (mm_R σ q7 p1.toNatClampNeg) fun q20 => mm_sh σ q20 (.inl 0) ((fX8_cell_91  p0 p1 p2 p3 p4 p5 ((some q20)) (mm_R σ q20 0) σ)) else mm_on (mm_R σ q7 p1.toNatClampNeg) fun q11 => mm_sh σ q11 (.inl 0) ((fX8_cell_91  p0 p1 p2 p3 p4 p5 ((some q11)) (mm_R σ q11 1) σ))))) else some (none, σ)) else some (none, σ)) else some (none, σ)) else some (none, σ)) else some (none, σ))
set_option maxHeartbeats 4000000 in
set_option maxRecDepth 100000 in
theorem kX8_cell_91 {G : mm_G} {A : Nat → Prop}  {R : (Option Int32 × mm_M)}  (a0 : Nat) (x1 : Int32) (x2 : Int32) (x3 : Int32) (x4 : Int32) (x5 : Int32) (r6 : Option Nat) (y0 : Option Nat) (σ : mm_M) (hf : fX8_cell_91  a0 x1 x2 x3 x4 x5 r6 y0 σ = some R) : mm_J cd_Y G RX8 cX8_cell 8 (some .int) (false, some []) rmX8_cell A (mm_XF cd_Y G A (mm_PX R) R.2 "java/lang/IndexOutOfBoundsException" (R.1 = none) rmX8_cell.cells rmX8_cell.slots) 91 [(0, .ref a0), (1, .int x1), (2, .int x2), (3, .int x3), (4, .int x4), (5, .int x5), (6, va_rf (r6))] [va_rf (y0)] σ 0 0 := by
  unfold fX8_cell_91 at hf
  refine mm_astoreR (L' := [(7, va_rf (y0)), (0, .ref a0), (1, .int x1), (2, .int x2), (3, .int x3), (4, .int x4), (5, .int x5), (6, va_rf (r6))]) dX8_cell_91 (by decide) (by simp [mm_rf_cat]) ?_
  refine mm_iload (j := 6) dX8_cell_93 rfl ?_
  refine mm_if_ne (tgt := 109) dX8_cell_95 (by decide) (fun c13 => ?_) (fun c13 => ?_)
  · rw [if_neg c13] at hf
    refine mm_aloadR (j := 0) dX8_cell_109 rfl ?_
    refine mm_iload_n (j := 4) dX8_cell_111 rfl rfl ?_
    refine mm_iload (j := 5) dX8_cell_112 rfl ?_
    obtain ⟨q14, hq14, hf⟩ := mm_on_s hf
    rw [hq14, mm_rf_some]
    obtain ⟨hs15, hf⟩ := mm_sh_s hf
    obtain ⟨q16, hq16, hf⟩ := mm_on_s hf
    refine mm_callVi cd_ok (kX5_lookAt q14 x3 x4 hq16) hs15 rfl (Or.inl tw_433) cdX5_lookAt tw_434 tw_435 nmX5_lookAt rfl rfl (by simp only [List.map_cons, List.map_nil, mm_rf_cat]; exact Nat.le_of_ble_eq_true rfl) dX8_cell_114 ⟨Nat.le_of_ble_eq_true rfl, Nat.le_of_ble_eq_true rfl⟩ ⟨Nat.le_of_ble_eq_true rfl, Nat.le_of_ble_eq_true rfl⟩ ?_
    cases hf
    refine mm_widen (ck' := rmX8_cell.cells) (sk' := rmX8_cell.slots) (Nat.le_of_ble_eq_true rfl) (Nat.le_of_ble_eq_true rfl) ?_
    exact mm_x (mm_iret rfl rfl dX8_cell_117 ⟨_, rfl, rfl, rfl⟩)
  · rw [if_pos c13] at hf
    refine mm_aloadR (j := 0) dX8_cell_98 rfl ?_
    refine mm_iload_n (j := 4) dX8_cell_100 rfl rfl ?_
    refine mm_iload (j := 5) dX8_cell_101 rfl ?_
    obtain ⟨q17, hq17, hf⟩ := mm_on_s hf
    rw [hq17, mm_rf_some]
    obtain ⟨hs18, hf⟩ := mm_sh_s hf
    obtain ⟨q19, hq19, hf⟩ := mm_on_s hf
    refine mm_callVi cd_ok (kX5_letterAt q17 x3 x4 hq19) hs18 rfl (Or.inl tw_429) cdX5_letterAt tw_430 tw_431 nmX5_letterAt rfl rfl (by simp only [List.map_cons, List.map_nil, mm_rf_cat]; exact Nat.le_of_ble_eq_true rfl) dX8_cell_103 ⟨Nat.le_of_ble_eq_true rfl, Nat.le_of_ble_eq_true rfl⟩ ⟨Nat.le_of_ble_eq_true rfl, Nat.le_of_ble_eq_true rfl⟩ ?_
    refine mm_goto (tgt := 117) dX8_cell_106 (by decide) ?_
    cases hf
    refine mm_widen (ck' := rmX8_cell.cells) (sk' := rmX8_cell.slots) (Nat.le_of_ble_eq_true rfl) (Nat.le_of_ble_eq_true rfl) ?_
    exact mm_x (mm_iret rfl rfl dX8_cell_117 ⟨_, rfl, rfl, rfl⟩)
set_option maxHeartbeats 4000000 in
set_option maxRecDepth 100000 in
theorem kX8_cell {G : mm_G} {A : Nat → Prop} (p0 : Nat) (p1 : Int32) (p2 : Int32) (p3 : Int32) (p4 : Int32) (p5 : Int32) {σ : mm_M} {R : (Option Int32 × mm_M)} (hf : fX8_cell p0 p1 p2 p3 p4 p5 σ = some R) : mm_CX cd_Y G yX8_cell cX8_cell 8 (some .int) rmX8_cell A [.ref p0, .int p1, .int p2, .int p3, .int p4, .int p5] σ (mm_PX R) R.2 "java/lang/IndexOutOfBoundsException" (R.1 = none) := by
  refine mm_CX.of (by decide) (Nat.le_of_ble_eq_true rfl) ?_
  unfold fX8_cell at hf
  have e0 : lv_args 0 [.ref p0, .int p1, .int p2, .int p3, .int p4, .int p5] = [(0, .ref p0), (1, .int p1), (2, .int p2), (3, .int p3), (4, .int p4), (5, .int p5)] := rfl
  rw [e0]
  clear e0
  refine mm_iload_n (j := 1) dX8_cell_0 rfl rfl ?_
  refine mm_iconst (v := 4) dX8_cell_1 (by decide) ?_
  refine mm_callSi cd_ok (kX8_isOutside p1 4 _ rfl) (Or.inl tw_239) cdX8_isOutside tw_221 nmX8_isOutside rfl rfl (by simp only [List.map_cons, List.map_nil, mm_rf_cat]; exact Nat.le_of_ble_eq_true rfl) dX8_cell_2 ⟨Nat.le_of_ble_eq_true rfl, Nat.le_of_ble_eq_true rfl⟩ ⟨Nat.le_of_ble_eq_true rfl, Nat.le_of_ble_eq_true rfl⟩ ?_
  refine mm_if_ne (tgt := 25) dX8_cell_5 (by decide) (fun c1 => ?_) (fun c1 => ?_)
  · rw [if_neg c1] at hf
    cases hf
    exact mm_throw cd_ok rfl rfl th_X8_66_70 (List.mem_of_getElem? (i := 1) rfl) dX8_cell_25 dX8_cell_28 dX8_cell_29 dX8_cell_31 dX8_cell_34 (Nat.le_of_ble_eq_true rfl) (by simp only [List.map_cons, List.map_nil, mm_rf_cat]; exact Nat.le_of_ble_eq_true rfl) (Nat.le_of_ble_eq_true rfl) (Nat.le_of_ble_eq_true rfl) (Nat.le_of_ble_eq_true rfl) (Nat.le_of_ble_eq_true rfl)
  · rw [if_pos c1] at hf
    refine mm_iload_n (j := 2) dX8_cell_8 rfl rfl ?_
    refine mm_iconst (v := 2) dX8_cell_9 (by decide) ?_
    refine mm_callSi cd_ok (kX8_isOutside p2 2 _ rfl) (Or.inl tw_239) cdX8_isOutside tw_221 nmX8_isOutside rfl rfl (by simp only [List.map_cons, List.map_nil, mm_rf_cat]; exact Nat.le_of_ble_eq_true rfl) dX8_cell_10 ⟨Nat.le_of_ble_eq_true rfl, Nat.le_of_ble_eq_true rfl⟩ ⟨Nat.le_of_ble_eq_true rfl, Nat.le_of_ble_eq_true rfl⟩ ?_
    refine mm_if_ne (tgt := 25) dX8_cell_13 (by decide) (fun c2 => ?_) (fun c2 => ?_)
    · rw [if_neg c2] at hf
      cases hf
      exact mm_throw cd_ok rfl rfl th_X8_66_70 (List.mem_of_getElem? (i := 1) rfl) dX8_cell_25 dX8_cell_28 dX8_cell_29 dX8_cell_31 dX8_cell_34 (Nat.le_of_ble_eq_true rfl) (by simp only [List.map_cons, List.map_nil, mm_rf_cat]; exact Nat.le_of_ble_eq_true rfl) (Nat.le_of_ble_eq_true rfl) (Nat.le_of_ble_eq_true rfl) (Nat.le_of_ble_eq_true rfl) (Nat.le_of_ble_eq_true rfl)
    · rw [if_pos c2] at hf
      refine mm_iload (j := 5) dX8_cell_16 rfl ?_
      refine mm_iconst (v := 2) dX8_cell_18 (by decide) ?_
      refine mm_callSi cd_ok (kX8_isOutside p5 2 _ rfl) (Or.inl tw_239) cdX8_isOutside tw_221 nmX8_isOutside rfl rfl (by simp only [List.map_cons, List.map_nil, mm_rf_cat]; exact Nat.le_of_ble_eq_true rfl) dX8_cell_19 ⟨Nat.le_of_ble_eq_true rfl, Nat.le_of_ble_eq_true rfl⟩ ⟨Nat.le_of_ble_eq_true rfl, Nat.le_of_ble_eq_true rfl⟩ ?_
      refine mm_if_eq (tgt := 35) dX8_cell_22 (by decide) (fun c3 => ?_) (fun c3 => ?_)
      · rw [if_pos c3] at hf
        refine mm_iload_n (j := 3) dX8_cell_35 rfl rfl ?_
        refine mm_iconst (v := 1) dX8_cell_36 (by decide) ?_
        refine mm_isub dX8_cell_37 ?_
        refine mm_bipush (v := 15) dX8_cell_38 (by decide) ?_
        refine mm_callSi cd_ok (kX8_isOutside (p3 - 1) 15 _ rfl) (Or.inl tw_239) cdX8_isOutside tw_221 nmX8_isOutside rfl rfl (by simp only [List.map_cons, List.map_nil, mm_rf_cat]; exact Nat.le_of_ble_eq_true rfl) dX8_cell_40 ⟨Nat.le_of_ble_eq_true rfl, Nat.le_of_ble_eq_true rfl⟩ ⟨Nat.le_of_ble_eq_true rfl, Nat.le_of_ble_eq_true rfl⟩ ?_
        refine mm_if_ne (tgt := 56) dX8_cell_43 (by decide) (fun c4 => ?_) (fun c4 => ?_)
        · rw [if_neg c4] at hf
          cases hf
          exact mm_throw cd_ok rfl rfl th_X8_66_70 (List.mem_of_getElem? (i := 2) rfl) dX8_cell_56 dX8_cell_59 dX8_cell_60 dX8_cell_62 dX8_cell_65 (Nat.le_of_ble_eq_true rfl) (by simp only [List.map_cons, List.map_nil, mm_rf_cat]; exact Nat.le_of_ble_eq_true rfl) (Nat.le_of_ble_eq_true rfl) (Nat.le_of_ble_eq_true rfl) (Nat.le_of_ble_eq_true rfl) (Nat.le_of_ble_eq_true rfl)
        · rw [if_pos c4] at hf
          refine mm_iload (j := 4) dX8_cell_46 rfl ?_
          refine mm_bipush (v := 32) dX8_cell_48 (by decide) ?_
          refine mm_callSi cd_ok (kX8_isOutside p4 32 _ rfl) (Or.inl tw_239) cdX8_isOutside tw_221 nmX8_isOutside rfl rfl (by simp only [List.map_cons, List.map_nil, mm_rf_cat]; exact Nat.le_of_ble_eq_true rfl) dX8_cell_50 ⟨Nat.le_of_ble_eq_true rfl, Nat.le_of_ble_eq_true rfl⟩ ⟨Nat.le_of_ble_eq_true rfl, Nat.le_of_ble_eq_true rfl⟩ ?_
          refine mm_if_eq (tgt := 66) dX8_cell_53 (by decide) (fun c5 => ?_) (fun c5 => ?_)
          · rw [if_pos c5] at hf
            refine mm_aload_n (j := 0) dX8_cell_66 rfl rfl ?_
            obtain ⟨hs6, hf⟩ := mm_sh_s hf
            refine mm_get (c := 8) (k := 0) (v := va_rf (mm_R σ p0 0)) cd_ok ⟨_, _, _, rfl, by decide, Or.inl tw_140⟩ hs6 rfl dX8_cell_67 ?_
            refine mm_iload_n (j := 1) dX8_cell_70 rfl rfl ?_
            obtain ⟨q7, hq7, hf⟩ := mm_on_s hf
            rw [hq7, mm_rf_some]
            obtain ⟨n8, hn8, hf⟩ := mm_ar_s hf
            obtain ⟨hi9, hf⟩ := mm_ib_s hf
            refine mm_aald (v := va_rf (mm_R σ q7 p1.toNatClampNeg)) hn8 rfl hi9 rfl dX8_cell_71 ?_
            refine mm_astoreR (L' := [(6, va_rf (mm_R σ q7 p1.toNatClampNeg)), (0, .ref p0), (1, .int p1), (2, .int p2), (3, .int p3), (4, .int p4), (5, .int p5)]) dX8_cell_72 (by decide) rfl ?_
            refine mm_iload_n (j := 3) dX8_cell_74 rfl rfl ?_
            refine mm_if_ne (tgt := 86) dX8_cell_75 (by decide) (fun c10 => ?_) (fun c10 => ?_)
            · rw [if_neg c10] at hf
              refine mm_aloadR (j := 0) dX8_cell_86 rfl ?_
              obtain ⟨q11, hq11, hf⟩ := mm_on_s hf
              rw [hq11, mm_rf_some]
              obtain ⟨hs12, hf⟩ := mm_sh_s hf
              refine mm_get (c := 0) (k := 1) (v := va_rf (mm_R σ q11 1)) cd_ok ⟨_, _, _, rfl, by decide, Or.inr ⟨_, tn_9⟩⟩ hs12 rfl dX8_cell_88 ?_
              refine mm_sub [1, 2, 3, 4, 5, 6, 0] rfl ?_
              refine mm_widen (ck' := 0) (sk' := 0) (Nat.le_of_ble_eq_true rfl) (Nat.le_of_ble_eq_true rfl) ?_
              exact kX8_cell_91  p0 p1 p2 p3 p4 p5 ((some q11)) (mm_R σ q11 1) σ hf
            · rw [if_pos c10] at hf
              refine mm_aloadR (j := 0) dX8_cell_78 rfl ?_
              obtain ⟨q20, hq20, hf⟩ := mm_on_s hf
              rw [hq20, mm_rf_some]
              obtain ⟨hs21, hf⟩ := mm_sh_s hf
              refine mm_get (c := 0) (k := 0) (v := va_rf (mm_R σ q20 0)) cd_ok ⟨_, _, _, rfl, by decide, Or.inr ⟨_, tn_8⟩⟩ hs21 rfl dX8_cell_80 ?_
              refine mm_goto (tgt := 91) dX8_cell_83 (by decide) ?_
              refine mm_sub [1, 2, 3, 4, 5, 6, 0] rfl ?_
              refine mm_widen (ck' := 0) (sk' := 0) (Nat.le_of_ble_eq_true rfl) (Nat.le_of_ble_eq_true rfl) ?_
              exact kX8_cell_91  p0 p1 p2 p3 p4 p5 ((some q20)) (mm_R σ q20 0) σ hf
          · rw [if_neg c5] at hf
            cases hf
            exact mm_throw cd_ok rfl rfl th_X8_66_70 (List.mem_of_getElem? (i := 2) rfl) dX8_cell_56 dX8_cell_59 dX8_cell_60 dX8_cell_62 dX8_cell_65 (Nat.le_of_ble_eq_true rfl) (by simp only [List.map_cons, List.map_nil, mm_rf_cat]; exact Nat.le_of_ble_eq_true rfl) (Nat.le_of_ble_eq_true rfl) (Nat.le_of_ble_eq_true rfl) (Nat.le_of_ble_eq_true rfl) (Nat.le_of_ble_eq_true rfl)
      · rw [if_neg c3] at hf
        cases hf
        exact mm_throw cd_ok rfl rfl th_X8_66_70 (List.mem_of_getElem? (i := 1) rfl) dX8_cell_25 dX8_cell_28 dX8_cell_29 dX8_cell_31 dX8_cell_34 (Nat.le_of_ble_eq_true rfl) (by simp only [List.map_cons, List.map_nil, mm_rf_cat]; exact Nat.le_of_ble_eq_true rfl) (Nat.le_of_ble_eq_true rfl) (Nat.le_of_ble_eq_true rfl) (Nat.le_of_ble_eq_true rfl) (Nat.le_of_ble_eq_true rfl)
theorem dX8_state_0 : decode cX8_state 0 = .ok (.iload_n 1, 1) := by decide +kernel
theorem dX8_state_1 : decode cX8_state 1 = .ok (.iconst 4, 1) := by decide +kernel
theorem dX8_state_2 : decode cX8_state 2 = .ok (.invokestatic 62, 3) := by decide +kernel
theorem dX8_state_5 : decode cX8_state 5 = .ok (.ifCond .ne 11, 3) := by decide +kernel
theorem dX8_state_8 : decode cX8_state 8 = .ok (.iload_n 2, 1) := by decide +kernel
theorem dX8_state_9 : decode cX8_state 9 = .ok (.iconst 5, 1) := by decide +kernel
theorem dX8_state_10 : decode cX8_state 10 = .ok (.invokestatic 62, 3) := by decide +kernel
theorem dX8_state_13 : decode cX8_state 13 = .ok (.ifCond .eq 13, 3) := by decide +kernel
theorem dX8_state_16 : decode cX8_state 16 = .ok (.new 66, 3) := by decide +kernel
theorem dX8_state_19 : decode cX8_state 19 = .ok (.dup, 1) := by decide +kernel
theorem dX8_state_20 : decode cX8_state 20 = .ok (.ldc 104, 2) := by decide +kernel
theorem dX8_state_22 : decode cX8_state 22 = .ok (.invokespecial 70, 3) := by decide +kernel
theorem dX8_state_25 : decode cX8_state 25 = .ok (.athrow, 1) := by decide +kernel
theorem dX8_state_26 : decode cX8_state 26 = .ok (.aload_n 0, 1) := by decide +kernel
theorem dX8_state_27 : decode cX8_state 27 = .ok (.getfield 11, 3) := by decide +kernel
theorem dX8_state_30 : decode cX8_state 30 = .ok (.iload_n 1, 1) := by decide +kernel
theorem dX8_state_31 : decode cX8_state 31 = .ok (.aaload, 1) := by decide +kernel
theorem dX8_state_32 : decode cX8_state 32 = .ok (.astore_n 3, 1) := by decide +kernel
theorem dX8_state_33 : decode cX8_state 33 = .ok (.iload_n 2, 1) := by decide +kernel
theorem dX8_state_34 : decode cX8_state 34 = .ok (.tableswitch 50 0 3 #[30, 35, 40, 45], 30) := by decide +kernel
theorem dX8_state_64 : decode cX8_state 64 = .ok (.aload_n 3, 1) := by decide +kernel
theorem dX8_state_65 : decode cX8_state 65 = .ok (.getfield 106, 3) := by decide +kernel
theorem dX8_state_68 : decode cX8_state 68 = .ok (.ireturn, 1) := by decide +kernel
theorem dX8_state_69 : decode cX8_state 69 = .ok (.aload_n 3, 1) := by decide +kernel
theorem dX8_state_70 : decode cX8_state 70 = .ok (.getfield 110, 3) := by decide +kernel
theorem dX8_state_73 : decode cX8_state 73 = .ok (.ireturn, 1) := by decide +kernel
theorem dX8_state_74 : decode cX8_state 74 = .ok (.aload_n 3, 1) := by decide +kernel
theorem dX8_state_75 : decode cX8_state 75 = .ok (.getfield 113, 3) := by decide +kernel
theorem dX8_state_78 : decode cX8_state 78 = .ok (.ireturn, 1) := by decide +kernel
theorem dX8_state_79 : decode cX8_state 79 = .ok (.aload_n 3, 1) := by decide +kernel
theorem dX8_state_80 : decode cX8_state 80 = .ok (.getfield 116, 3) := by decide +kernel
theorem dX8_state_83 : decode cX8_state 83 = .ok (.ireturn, 1) := by decide +kernel
theorem dX8_state_84 : decode cX8_state 84 = .ok (.aload_n 3, 1) := by decide +kernel
theorem dX8_state_85 : decode cX8_state 85 = .ok (.getfield 119, 3) := by decide +kernel
theorem dX8_state_88 : decode cX8_state 88 = .ok (.ireturn, 1) := by decide +kernel
theorem nmX8_state : mm_nm yX8_state 2 := ⟨by decide, by decide, by decide +kernel⟩
theorem cdX8_state : mm_cd cd_Y yX8_state cX8_state 4 (some .int) := ⟨tw_443, tw_1⟩
abbrev rmX8_state : Room := { frames := 6, cells := 1, slots := 6, locals := 82 }
def fX8_state (p0 : Nat) (p1 : Int32) (p2 : Int32) (σ : mm_M) : Option (Option Int32 × mm_M) :=
  (if (fX8_isOutside p1 4) = 0 then (if (fX8_isOutside p2 5) = 0 then mm_sh σ p0 (.inl 8) (mm_on (mm_R σ p0 0) fun q4 => mm_ar σ q4 4 fun n5 => mm_ib p1 n5 ((if p2 = 0 then mm_on (mm_R σ q4 p1.toNatClampNeg) fun q8 => mm_sh σ q8 (.inl 0) (some (some (mm_I σ q8 2), σ)) else (if p2 = 1 then mm_on (mm_R σ q4 p1.toNatClampNeg) fun q11 => mm_sh σ q11 (.inl 0) (some (some (mm_I σ q11 3), σ)) else (if p2 = 2 then mm_on (mm_R σ q4 p1.toNatClampNeg) fun q14 => mm_sh σ q14 (.inl 0) (some (some (mm_I σ q14 4), σ)) else (if p2 = 3 then mm_on (mm_R σ q4 p1.toNatClampNeg) fun q17 => mm_sh σ q17 (.inl 0) (some (some (mm_I σ q17 5), σ)) else mm_on (mm_R σ q4 p1.toNatClampNeg) fun q19 => mm_sh σ q19 (.inl 0) (some (some (mm_I σ q19 6), σ)))))))) else some (none, σ)) else some (none, σ))
set_option maxHeartbeats 4000000 in
set_option maxRecDepth 100000 in
theorem kX8_state {G : mm_G} {A : Nat → Prop} (p0 : Nat) (p1 : Int32) (p2 : Int32) {σ : mm_M} {R : (Option Int32 × mm_M)} (hf : fX8_state p0 p1 p2 σ = some R) : mm_CX cd_Y G yX8_state cX8_state 4 (some .int) rmX8_state A [.ref p0, .int p1, .int p2] σ (mm_PX R) R.2 "java/lang/IndexOutOfBoundsException" (R.1 = none) := by
  refine mm_CX.of (by decide) (Nat.le_of_ble_eq_true rfl) ?_
  unfold fX8_state at hf
  have e0 : lv_args 0 [.ref p0, .int p1, .int p2] = [(0, .ref p0), (1, .int p1), (2, .int p2)] := rfl
  rw [e0]
  clear e0
  refine mm_iload_n (j := 1) dX8_state_0 rfl rfl ?_
  refine mm_iconst (v := 4) dX8_state_1 (by decide) ?_
  refine mm_callSi cd_ok (kX8_isOutside p1 4 _ rfl) (Or.inl tw_239) cdX8_isOutside tw_221 nmX8_isOutside rfl rfl (by simp only [List.map_cons, List.map_nil, mm_rf_cat]; exact Nat.le_of_ble_eq_true rfl) dX8_state_2 ⟨Nat.le_of_ble_eq_true rfl, Nat.le_of_ble_eq_true rfl⟩ ⟨Nat.le_of_ble_eq_true rfl, Nat.le_of_ble_eq_true rfl⟩ ?_
  refine mm_if_ne (tgt := 16) dX8_state_5 (by decide) (fun c1 => ?_) (fun c1 => ?_)
  · rw [if_neg c1] at hf
    cases hf
    exact mm_throw cd_ok rfl rfl th_X8_66_70 (List.mem_of_getElem? (i := 3) rfl) dX8_state_16 dX8_state_19 dX8_state_20 dX8_state_22 dX8_state_25 (Nat.le_of_ble_eq_true rfl) (by simp only [List.map_cons, List.map_nil, mm_rf_cat]; exact Nat.le_of_ble_eq_true rfl) (Nat.le_of_ble_eq_true rfl) (Nat.le_of_ble_eq_true rfl) (Nat.le_of_ble_eq_true rfl) (Nat.le_of_ble_eq_true rfl)
  · rw [if_pos c1] at hf
    refine mm_iload_n (j := 2) dX8_state_8 rfl rfl ?_
    refine mm_iconst (v := 5) dX8_state_9 (by decide) ?_
    refine mm_callSi cd_ok (kX8_isOutside p2 5 _ rfl) (Or.inl tw_239) cdX8_isOutside tw_221 nmX8_isOutside rfl rfl (by simp only [List.map_cons, List.map_nil, mm_rf_cat]; exact Nat.le_of_ble_eq_true rfl) dX8_state_10 ⟨Nat.le_of_ble_eq_true rfl, Nat.le_of_ble_eq_true rfl⟩ ⟨Nat.le_of_ble_eq_true rfl, Nat.le_of_ble_eq_true rfl⟩ ?_
    refine mm_if_eq (tgt := 26) dX8_state_13 (by decide) (fun c2 => ?_) (fun c2 => ?_)
    · rw [if_pos c2] at hf
      refine mm_aload_n (j := 0) dX8_state_26 rfl rfl ?_
      obtain ⟨hs3, hf⟩ := mm_sh_s hf
      refine mm_get (c := 8) (k := 0) (v := va_rf (mm_R σ p0 0)) cd_ok ⟨_, _, _, rfl, by decide, Or.inl tw_140⟩ hs3 rfl dX8_state_27 ?_
      refine mm_iload_n (j := 1) dX8_state_30 rfl rfl ?_
      obtain ⟨q4, hq4, hf⟩ := mm_on_s hf
      rw [hq4, mm_rf_some]
      obtain ⟨n5, hn5, hf⟩ := mm_ar_s hf
      obtain ⟨hi6, hf⟩ := mm_ib_s hf
      refine mm_aald (v := va_rf (mm_R σ q4 p1.toNatClampNeg)) hn5 rfl hi6 rfl dX8_state_31 ?_
      refine mm_astore_nR (L' := [(3, va_rf (mm_R σ q4 p1.toNatClampNeg)), (0, .ref p0), (1, .int p1), (2, .int p2)]) dX8_state_32 rfl (by decide) rfl ?_
      refine mm_iload_n (j := 3) dX8_state_33 rfl rfl ?_
      by_cases c7 : p2 = 0
      · rw [if_pos c7] at hf
        refine mm_tableEq (off := 30) (tgt := 64) dX8_state_34 c7 (by decide) (by decide) (by decide) (by decide) ?_
        refine mm_aload_nR (j := 0) dX8_state_64 rfl rfl ?_
        obtain ⟨q8, hq8, hf⟩ := mm_on_s hf
        rw [hq8, mm_rf_some]
        obtain ⟨hs9, hf⟩ := mm_sh_s hf
        refine mm_get (c := 0) (k := 2) (v := .int (mm_I σ q8 2)) cd_ok ⟨_, _, _, rfl, by decide, Or.inr ⟨_, tn_10⟩⟩ hs9 rfl dX8_state_65 ?_
        cases hf
        refine mm_widen (ck' := rmX8_state.cells) (sk' := rmX8_state.slots) (Nat.le_of_ble_eq_true rfl) (Nat.le_of_ble_eq_true rfl) ?_
        exact mm_x (mm_iret rfl rfl dX8_state_68 ⟨_, rfl, rfl, rfl⟩)
      rw [if_neg c7] at hf
      by_cases c10 : p2 = 1
      · rw [if_pos c10] at hf
        refine mm_tableEq (off := 35) (tgt := 69) dX8_state_34 c10 (by decide) (by decide) (by decide) (by decide) ?_
        refine mm_aload_nR (j := 0) dX8_state_69 rfl rfl ?_
        obtain ⟨q11, hq11, hf⟩ := mm_on_s hf
        rw [hq11, mm_rf_some]
        obtain ⟨hs12, hf⟩ := mm_sh_s hf
        refine mm_get (c := 0) (k := 3) (v := .int (mm_I σ q11 3)) cd_ok ⟨_, _, _, rfl, by decide, Or.inr ⟨_, tn_11⟩⟩ hs12 rfl dX8_state_70 ?_
        cases hf
        refine mm_widen (ck' := rmX8_state.cells) (sk' := rmX8_state.slots) (Nat.le_of_ble_eq_true rfl) (Nat.le_of_ble_eq_true rfl) ?_
        exact mm_x (mm_iret rfl rfl dX8_state_73 ⟨_, rfl, rfl, rfl⟩)
      rw [if_neg c10] at hf
      by_cases c13 : p2 = 2
      · rw [if_pos c13] at hf
        refine mm_tableEq (off := 40) (tgt := 74) dX8_state_34 c13 (by decide) (by decide) (by decide) (by decide) ?_
        refine mm_aload_nR (j := 0) dX8_state_74 rfl rfl ?_
        obtain ⟨q14, hq14, hf⟩ := mm_on_s hf
        rw [hq14, mm_rf_some]
        obtain ⟨hs15, hf⟩ := mm_sh_s hf
        refine mm_get (c := 0) (k := 4) (v := .int (mm_I σ q14 4)) cd_ok ⟨_, _, _, rfl, by decide, Or.inr ⟨_, tn_12⟩⟩ hs15 rfl dX8_state_75 ?_
        cases hf
        refine mm_widen (ck' := rmX8_state.cells) (sk' := rmX8_state.slots) (Nat.le_of_ble_eq_true rfl) (Nat.le_of_ble_eq_true rfl) ?_
        exact mm_x (mm_iret rfl rfl dX8_state_78 ⟨_, rfl, rfl, rfl⟩)
      rw [if_neg c13] at hf
      by_cases c16 : p2 = 3
      · rw [if_pos c16] at hf
        refine mm_tableEq (off := 45) (tgt := 79) dX8_state_34 c16 (by decide) (by decide) (by decide) (by decide) ?_
        refine mm_aload_nR (j := 0) dX8_state_79 rfl rfl ?_
        obtain ⟨q17, hq17, hf⟩ := mm_on_s hf
        rw [hq17, mm_rf_some]
        obtain ⟨hs18, hf⟩ := mm_sh_s hf
        refine mm_get (c := 0) (k := 5) (v := .int (mm_I σ q17 5)) cd_ok ⟨_, _, _, rfl, by decide, Or.inr ⟨_, tn_13⟩⟩ hs18 rfl dX8_state_80 ?_
        cases hf
        refine mm_widen (ck' := rmX8_state.cells) (sk' := rmX8_state.slots) (Nat.le_of_ble_eq_true rfl) (Nat.le_of_ble_eq_true rfl) ?_
        exact mm_x (mm_iret rfl rfl dX8_state_83 ⟨_, rfl, rfl, rfl⟩)
      rw [if_neg c16] at hf
      refine mm_tableOut (tgt := 84) dX8_state_34 (by have nc7 := mm_neI (k := 0) (by decide) c7; have nc10 := mm_neI (k := 1) (by decide) c10; have nc13 := mm_neI (k := 2) (by decide) c13; have nc16 := mm_neI (k := 3) (by decide) c16; omega) (by decide) ?_
      refine mm_aload_nR (j := 0) dX8_state_84 rfl rfl ?_
      obtain ⟨q19, hq19, hf⟩ := mm_on_s hf
      rw [hq19, mm_rf_some]
      obtain ⟨hs20, hf⟩ := mm_sh_s hf
      refine mm_get (c := 0) (k := 6) (v := .int (mm_I σ q19 6)) cd_ok ⟨_, _, _, rfl, by decide, Or.inr ⟨_, tn_14⟩⟩ hs20 rfl dX8_state_85 ?_
      cases hf
      refine mm_widen (ck' := rmX8_state.cells) (sk' := rmX8_state.slots) (Nat.le_of_ble_eq_true rfl) (Nat.le_of_ble_eq_true rfl) ?_
      exact mm_x (mm_iret rfl rfl dX8_state_88 ⟨_, rfl, rfl, rfl⟩)
    · rw [if_neg c2] at hf
      cases hf
      exact mm_throw cd_ok rfl rfl th_X8_66_70 (List.mem_of_getElem? (i := 3) rfl) dX8_state_16 dX8_state_19 dX8_state_20 dX8_state_22 dX8_state_25 (Nat.le_of_ble_eq_true rfl) (by simp only [List.map_cons, List.map_nil, mm_rf_cat]; exact Nat.le_of_ble_eq_true rfl) (Nat.le_of_ble_eq_true rfl) (Nat.le_of_ble_eq_true rfl) (Nat.le_of_ble_eq_true rfl) (Nat.le_of_ble_eq_true rfl)
theorem dX8_channel_0 : decode cX8_channel 0 = .ok (.iload_n 1, 1) := by decide +kernel
theorem dX8_channel_1 : decode cX8_channel 1 = .ok (.iconst 2, 1) := by decide +kernel
theorem dX8_channel_2 : decode cX8_channel 2 = .ok (.invokestatic 62, 3) := by decide +kernel
theorem dX8_channel_5 : decode cX8_channel 5 = .ok (.ifCond .eq 13, 3) := by decide +kernel
theorem dX8_channel_8 : decode cX8_channel 8 = .ok (.new 66, 3) := by decide +kernel
theorem dX8_channel_11 : decode cX8_channel 11 = .ok (.dup, 1) := by decide +kernel
theorem dX8_channel_12 : decode cX8_channel 12 = .ok (.ldc 68, 2) := by decide +kernel
theorem dX8_channel_14 : decode cX8_channel 14 = .ok (.invokespecial 70, 3) := by decide +kernel
theorem dX8_channel_17 : decode cX8_channel 17 = .ok (.athrow, 1) := by decide +kernel
theorem dX8_channel_18 : decode cX8_channel 18 = .ok (.aload_n 0, 1) := by decide +kernel
theorem dX8_channel_19 : decode cX8_channel 19 = .ok (.getfield 15, 3) := by decide +kernel
theorem dX8_channel_22 : decode cX8_channel 22 = .ok (.iload_n 1, 1) := by decide +kernel
theorem dX8_channel_23 : decode cX8_channel 23 = .ok (.iaload, 1) := by decide +kernel
theorem dX8_channel_24 : decode cX8_channel 24 = .ok (.ireturn, 1) := by decide +kernel
theorem nmX8_channel : mm_nm yX8_channel 1 := ⟨by decide, by decide, by decide +kernel⟩
theorem cdX8_channel : mm_cd cd_Y yX8_channel cX8_channel 2 (some .int) := ⟨tw_451, tw_1⟩
abbrev rmX8_channel : Room := { frames := 6, cells := 1, slots := 6, locals := 82 }
def fX8_channel (p0 : Nat) (p1 : Int32) (σ : mm_M) : Option (Option Int32 × mm_M) :=
  (if (fX8_isOutside p1 2) = 0 then mm_sh σ p0 (.inl 8) (mm_on (mm_R σ p0 1) fun q3 => mm_ar σ q3 0 fun n4 => mm_ib p1 n4 (some (some (mm_I σ q3 p1.toNatClampNeg), σ))) else some (none, σ))
set_option maxHeartbeats 4000000 in
set_option maxRecDepth 100000 in
theorem kX8_channel {G : mm_G} {A : Nat → Prop} (p0 : Nat) (p1 : Int32) {σ : mm_M} {R : (Option Int32 × mm_M)} (hf : fX8_channel p0 p1 σ = some R) : mm_CX cd_Y G yX8_channel cX8_channel 2 (some .int) rmX8_channel A [.ref p0, .int p1] σ (mm_PX R) R.2 "java/lang/IndexOutOfBoundsException" (R.1 = none) := by
  refine mm_CX.of (by decide) (Nat.le_of_ble_eq_true rfl) ?_
  unfold fX8_channel at hf
  have e0 : lv_args 0 [.ref p0, .int p1] = [(0, .ref p0), (1, .int p1)] := rfl
  rw [e0]
  clear e0
  refine mm_iload_n (j := 1) dX8_channel_0 rfl rfl ?_
  refine mm_iconst (v := 2) dX8_channel_1 (by decide) ?_
  refine mm_callSi cd_ok (kX8_isOutside p1 2 _ rfl) (Or.inl tw_239) cdX8_isOutside tw_221 nmX8_isOutside rfl rfl (by simp only [List.map_cons, List.map_nil, mm_rf_cat]; exact Nat.le_of_ble_eq_true rfl) dX8_channel_2 ⟨Nat.le_of_ble_eq_true rfl, Nat.le_of_ble_eq_true rfl⟩ ⟨Nat.le_of_ble_eq_true rfl, Nat.le_of_ble_eq_true rfl⟩ ?_
  refine mm_if_eq (tgt := 18) dX8_channel_5 (by decide) (fun c1 => ?_) (fun c1 => ?_)
  · rw [if_pos c1] at hf
    refine mm_aload_n (j := 0) dX8_channel_18 rfl rfl ?_
    obtain ⟨hs2, hf⟩ := mm_sh_s hf
    refine mm_get (c := 8) (k := 1) (v := va_rf (mm_R σ p0 1)) cd_ok ⟨_, _, _, rfl, by decide, Or.inl tw_141⟩ hs2 rfl dX8_channel_19 ?_
    refine mm_iload_n (j := 1) dX8_channel_22 rfl rfl ?_
    obtain ⟨q3, hq3, hf⟩ := mm_on_s hf
    rw [hq3, mm_rf_some]
    obtain ⟨n4, hn4, hf⟩ := mm_ar_s hf
    obtain ⟨hi5, hf⟩ := mm_ib_s hf
    refine mm_iald hn4 rfl hi5 dX8_channel_23 ?_
    cases hf
    refine mm_widen (ck' := rmX8_channel.cells) (sk' := rmX8_channel.slots) (Nat.le_of_ble_eq_true rfl) (Nat.le_of_ble_eq_true rfl) ?_
    exact mm_x (mm_iret rfl rfl dX8_channel_24 ⟨_, rfl, rfl, rfl⟩)
  · rw [if_neg c1] at hf
    cases hf
    exact mm_throw cd_ok rfl rfl th_X8_66_70 (List.mem_of_getElem? (i := 0) rfl) dX8_channel_8 dX8_channel_11 dX8_channel_12 dX8_channel_14 dX8_channel_17 (Nat.le_of_ble_eq_true rfl) (by simp only [List.map_cons, List.map_nil, mm_rf_cat]; exact Nat.le_of_ble_eq_true rfl) (Nat.le_of_ble_eq_true rfl) (Nat.le_of_ble_eq_true rfl) (Nat.le_of_ble_eq_true rfl) (Nat.le_of_ble_eq_true rfl)
theorem dX8_isRight_0 : decode cX8_isRight 0 = .ok (.iload_n 0, 1) := by decide +kernel
theorem dX8_isRight_1 : decode cX8_isRight 1 = .ok (.sipush 255, 3) := by decide +kernel
theorem dX8_isRight_4 : decode cX8_isRight 4 = .ok (.iand, 1) := by decide +kernel
theorem dX8_isRight_5 : decode cX8_isRight 5 = .ok (.invokestatic 138, 3) := by decide +kernel
theorem dX8_isRight_8 : decode cX8_isRight 8 = .ok (.iconst 1, 1) := by decide +kernel
theorem dX8_isRight_9 : decode cX8_isRight 9 = .ok (.iand, 1) := by decide +kernel
theorem dX8_isRight_10 : decode cX8_isRight 10 = .ok (.iconst 1, 1) := by decide +kernel
theorem dX8_isRight_11 : decode cX8_isRight 11 = .ok (.if_icmp .ne 7, 3) := by decide +kernel
theorem dX8_isRight_14 : decode cX8_isRight 14 = .ok (.iconst 1, 1) := by decide +kernel
theorem dX8_isRight_15 : decode cX8_isRight 15 = .ok (.goto 4, 3) := by decide +kernel
theorem dX8_isRight_18 : decode cX8_isRight 18 = .ok (.iconst 0, 1) := by decide +kernel
theorem dX8_isRight_19 : decode cX8_isRight 19 = .ok (.ireturn, 1) := by decide +kernel
theorem nmX8_isRight : mm_nm yX8_isRight 1 := ⟨by decide, by decide, by decide +kernel⟩
theorem cdX8_isRight : mm_cd cd_Y yX8_isRight cX8_isRight 1 (some .boolean) := ⟨tw_313, tw_1⟩
abbrev rmX8_isRight : Room := { frames := 1, cells := 0, slots := 0, locals := 20 }
def fX8_isRight (p0 : Int32) : Int32 :=
  (if ((fJ6_bitCount_0f7a4 (p0 &&& 255)) &&& 1) = 1 then 1 else 0)
set_option maxHeartbeats 4000000 in
set_option maxRecDepth 100000 in
theorem kX8_isRight {G : mm_G} {A : Nat → Prop} (p0 : Int32) (σ0 : mm_M) {R : Int32} (hf : fX8_isRight p0 = R) : mm_C cd_Y G yX8_isRight cX8_isRight 1 (some .boolean) rmX8_isRight A [.int p0] σ0 (mm_Pi R σ0) := by
  refine mm_C.of (by decide) (Nat.le_of_ble_eq_true rfl) ?_
  unfold fX8_isRight at hf
  have e0 : lv_args 0 [.int p0] = [(0, .int p0)] := rfl
  rw [e0]
  generalize hini : ((yX8_isRight.name == "<init>"), none) = ini
  clear e0
  clear hini
  refine mm_iload_n (j := 0) dX8_isRight_0 rfl rfl ?_
  refine mm_sipush (v := 255) dX8_isRight_1 (by decide) ?_
  refine mm_iand dX8_isRight_4 ?_
  refine mm_callSi cd_ok (kJ6_bitCount_0f7a4 (p0 &&& 255) _ rfl) (Or.inl tw_193) cdJ6_bitCount_0f7a4 tw_194 nmJ6_bitCount_0f7a4 rfl rfl (by simp only [List.map_cons, List.map_nil, mm_rf_cat]; exact Nat.le_of_ble_eq_true rfl) dX8_isRight_5 ⟨Nat.le_of_ble_eq_true rfl, Nat.le_of_ble_eq_true rfl⟩ ⟨Nat.le_of_ble_eq_true rfl, Nat.le_of_ble_eq_true rfl⟩ ?_
  refine mm_iconst (v := 1) dX8_isRight_8 (by decide) ?_
  refine mm_iand dX8_isRight_9 ?_
  refine mm_iconst (v := 1) dX8_isRight_10 (by decide) ?_
  refine mm_icmp_ne (tgt := 18) dX8_isRight_11 (by decide) (fun c1 => ?_) (fun c1 => ?_)
  · rw [if_neg c1] at hf
    refine mm_iconst (v := 0) dX8_isRight_18 (by decide) ?_
    subst hf
    refine mm_widen (ck' := rmX8_isRight.cells) (sk' := rmX8_isRight.slots) (Nat.le_of_ble_eq_true rfl) (Nat.le_of_ble_eq_true rfl) ?_
    exact mm_iret rfl rfl dX8_isRight_19 ⟨rfl, rfl⟩
  · rw [if_pos c1] at hf
    refine mm_iconst (v := 1) dX8_isRight_14 (by decide) ?_
    refine mm_goto (tgt := 19) dX8_isRight_15 (by decide) ?_
    subst hf
    refine mm_widen (ck' := rmX8_isRight.cells) (sk' := rmX8_isRight.slots) (Nat.le_of_ble_eq_true rfl) (Nat.le_of_ble_eq_true rfl) ?_
    exact mm_iret rfl rfl dX8_isRight_19 ⟨rfl, rfl⟩
theorem dX8_isOdd_0 : decode cX8_isOdd 0 = .ok (.iload_n 0, 1) := by decide +kernel
theorem dX8_isOdd_1 : decode cX8_isOdd 1 = .ok (.iload_n 1, 1) := by decide +kernel
theorem dX8_isOdd_2 : decode cX8_isOdd 2 = .ok (.iand, 1) := by decide +kernel
theorem dX8_isOdd_3 : decode cX8_isOdd 3 = .ok (.invokestatic 138, 3) := by decide +kernel
theorem dX8_isOdd_6 : decode cX8_isOdd 6 = .ok (.iconst 1, 1) := by decide +kernel
theorem dX8_isOdd_7 : decode cX8_isOdd 7 = .ok (.iand, 1) := by decide +kernel
theorem dX8_isOdd_8 : decode cX8_isOdd 8 = .ok (.iconst 1, 1) := by decide +kernel
theorem dX8_isOdd_9 : decode cX8_isOdd 9 = .ok (.if_icmp .ne 7, 3) := by decide +kernel
theorem dX8_isOdd_12 : decode cX8_isOdd 12 = .ok (.iconst 1, 1) := by decide +kernel
theorem dX8_isOdd_13 : decode cX8_isOdd 13 = .ok (.goto 4, 3) := by decide +kernel
theorem dX8_isOdd_16 : decode cX8_isOdd 16 = .ok (.iconst 0, 1) := by decide +kernel
theorem dX8_isOdd_17 : decode cX8_isOdd 17 = .ok (.ireturn, 1) := by decide +kernel
theorem nmX8_isOdd : mm_nm yX8_isOdd 2 := ⟨by decide, by decide, by decide +kernel⟩
theorem cdX8_isOdd : mm_cd cd_Y yX8_isOdd cX8_isOdd 2 (some .boolean) := ⟨tw_192, tw_1⟩
abbrev rmX8_isOdd : Room := { frames := 1, cells := 0, slots := 0, locals := 20 }
def fX8_isOdd (p0 : Int32) (p1 : Int32) : Int32 :=
  (if ((fJ6_bitCount_0f7a4 (p0 &&& p1)) &&& 1) = 1 then 1 else 0)
set_option maxHeartbeats 4000000 in
set_option maxRecDepth 100000 in
theorem kX8_isOdd {G : mm_G} {A : Nat → Prop} (p0 : Int32) (p1 : Int32) (σ0 : mm_M) {R : Int32} (hf : fX8_isOdd p0 p1 = R) : mm_C cd_Y G yX8_isOdd cX8_isOdd 2 (some .boolean) rmX8_isOdd A [.int p0, .int p1] σ0 (mm_Pi R σ0) := by
  refine mm_C.of (by decide) (Nat.le_of_ble_eq_true rfl) ?_
  unfold fX8_isOdd at hf
  have e0 : lv_args 0 [.int p0, .int p1] = [(0, .int p0), (1, .int p1)] := rfl
  rw [e0]
  generalize hini : ((yX8_isOdd.name == "<init>"), none) = ini
  clear e0
  clear hini
  refine mm_iload_n (j := 0) dX8_isOdd_0 rfl rfl ?_
  refine mm_iload_n (j := 1) dX8_isOdd_1 rfl rfl ?_
  refine mm_iand dX8_isOdd_2 ?_
  refine mm_callSi cd_ok (kJ6_bitCount_0f7a4 (p0 &&& p1) _ rfl) (Or.inl tw_193) cdJ6_bitCount_0f7a4 tw_194 nmJ6_bitCount_0f7a4 rfl rfl (by simp only [List.map_cons, List.map_nil, mm_rf_cat]; exact Nat.le_of_ble_eq_true rfl) dX8_isOdd_3 ⟨Nat.le_of_ble_eq_true rfl, Nat.le_of_ble_eq_true rfl⟩ ⟨Nat.le_of_ble_eq_true rfl, Nat.le_of_ble_eq_true rfl⟩ ?_
  refine mm_iconst (v := 1) dX8_isOdd_6 (by decide) ?_
  refine mm_iand dX8_isOdd_7 ?_
  refine mm_iconst (v := 1) dX8_isOdd_8 (by decide) ?_
  refine mm_icmp_ne (tgt := 16) dX8_isOdd_9 (by decide) (fun c1 => ?_) (fun c1 => ?_)
  · rw [if_neg c1] at hf
    refine mm_iconst (v := 0) dX8_isOdd_16 (by decide) ?_
    subst hf
    refine mm_widen (ck' := rmX8_isOdd.cells) (sk' := rmX8_isOdd.slots) (Nat.le_of_ble_eq_true rfl) (Nat.le_of_ble_eq_true rfl) ?_
    exact mm_iret rfl rfl dX8_isOdd_17 ⟨rfl, rfl⟩
  · rw [if_pos c1] at hf
    refine mm_iconst (v := 1) dX8_isOdd_12 (by decide) ?_
    refine mm_goto (tgt := 17) dX8_isOdd_13 (by decide) ?_
    subst hf
    refine mm_widen (ck' := rmX8_isOdd.cells) (sk' := rmX8_isOdd.slots) (Nat.le_of_ble_eq_true rfl) (Nat.le_of_ble_eq_true rfl) ?_
    exact mm_iret rfl rfl dX8_isOdd_17 ⟨rfl, rfl⟩
theorem dX8_feed_0 : decode cX8_feed 0 = .ok (.aload_n 0, 1) := by decide +kernel
theorem dX8_feed_1 : decode cX8_feed 1 = .ok (.getfield 147, 3) := by decide +kernel
theorem dX8_feed_4 : decode cX8_feed 4 = .ok (.bipush 20, 2) := by decide +kernel
theorem dX8_feed_6 : decode cX8_feed 6 = .ok (.iadd, 1) := by decide +kernel
theorem dX8_feed_7 : decode cX8_feed 7 = .ok (.bipush 60, 2) := by decide +kernel
theorem dX8_feed_9 : decode cX8_feed 9 = .ok (.if_icmp .le 13, 3) := by decide +kernel
theorem dX8_feed_12 : decode cX8_feed 12 = .ok (.new 150, 3) := by decide +kernel
theorem dX8_feed_15 : decode cX8_feed 15 = .ok (.dup, 1) := by decide +kernel
theorem dX8_feed_16 : decode cX8_feed 16 = .ok (.ldc 152, 2) := by decide +kernel
theorem dX8_feed_18 : decode cX8_feed 18 = .ok (.invokespecial 154, 3) := by decide +kernel
theorem dX8_feed_21 : decode cX8_feed 21 = .ok (.athrow, 1) := by decide +kernel
theorem dX8_feed_22 : decode cX8_feed 22 = .ok (.aload_n 0, 1) := by decide +kernel
theorem dX8_feed_23 : decode cX8_feed 23 = .ok (.iload_n 1, 1) := by decide +kernel
theorem dX8_feed_24 : decode cX8_feed 24 = .ok (.invokevirtual 155, 3) := by decide +kernel
theorem dX8_feed_27 : decode cX8_feed 27 = .ok (.aload_n 0, 1) := by decide +kernel
theorem dX8_feed_28 : decode cX8_feed 28 = .ok (.iload_n 2, 1) := by decide +kernel
theorem dX8_feed_29 : decode cX8_feed 29 = .ok (.invokevirtual 155, 3) := by decide +kernel
theorem dX8_feed_32 : decode cX8_feed 32 = .ok (.aload_n 0, 1) := by decide +kernel
theorem dX8_feed_33 : decode cX8_feed 33 = .ok (.iload_n 3, 1) := by decide +kernel
theorem dX8_feed_34 : decode cX8_feed 34 = .ok (.invokevirtual 155, 3) := by decide +kernel
theorem dX8_feed_37 : decode cX8_feed 37 = .ok (.aload_n 0, 1) := by decide +kernel
theorem dX8_feed_38 : decode cX8_feed 38 = .ok (.iload 4, 2) := by decide +kernel
theorem dX8_feed_40 : decode cX8_feed 40 = .ok (.invokevirtual 155, 3) := by decide +kernel
theorem dX8_feed_43 : decode cX8_feed 43 = .ok (.aload_n 0, 1) := by decide +kernel
theorem dX8_feed_44 : decode cX8_feed 44 = .ok (.iload 5, 2) := by decide +kernel
theorem dX8_feed_46 : decode cX8_feed 46 = .ok (.invokevirtual 155, 3) := by decide +kernel
theorem dX8_feed_49 : decode cX8_feed 49 = .ok (.aload_n 0, 1) := by decide +kernel
theorem dX8_feed_50 : decode cX8_feed 50 = .ok (.getfield 147, 3) := by decide +kernel
theorem dX8_feed_53 : decode cX8_feed 53 = .ok (.ireturn, 1) := by decide +kernel
theorem nmX8_feed : mm_nm yX8_feed 5 := ⟨by decide, by decide, by decide +kernel⟩
theorem cdX8_feed : mm_cd cd_Y yX8_feed cX8_feed 6 (some .int) := ⟨tw_459, tw_1⟩
abbrev rmX8_feed : Room := { frames := 6, cells := 1, slots := 6, locals := 82 }
def fX8_feed (p0 : Nat) (p1 : Int32) (p2 : Int32) (p3 : Int32) (p4 : Int32) (p5 : Int32) (σ : mm_M) : Option (Option Int32 × mm_M) :=
  mm_sh σ p0 (.inl 8) ((if ((mm_I σ p0 4) + 20) ≤ 60 then mm_on (fX8_addToTape p0 p1 σ) fun q3 => mm_sh q3 p0 (.inl 8) (mm_on (fX8_addToTape p0 p2 q3) fun q5 => mm_sh q5 p0 (.inl 8) (mm_on (fX8_addToTape p0 p3 q5) fun q7 => mm_sh q7 p0 (.inl 8) (mm_on (fX8_addToTape p0 p4 q7) fun q9 => mm_sh q9 p0 (.inl 8) (mm_on (fX8_addToTape p0 p5 q9) fun q11 => mm_sh q11 p0 (.inl 8) (some (some (mm_I q11 p0 4), q11)))))) else some (none, σ)))
set_option maxHeartbeats 4000000 in
set_option maxRecDepth 100000 in
theorem kX8_feed {G : mm_G} {A : Nat → Prop} (p0 : Nat) (p1 : Int32) (p2 : Int32) (p3 : Int32) (p4 : Int32) (p5 : Int32) {σ : mm_M} {R : (Option Int32 × mm_M)} (hf : fX8_feed p0 p1 p2 p3 p4 p5 σ = some R) : mm_CX cd_Y G yX8_feed cX8_feed 6 (some .int) rmX8_feed A [.ref p0, .int p1, .int p2, .int p3, .int p4, .int p5] σ (mm_PX R) R.2 "java/lang/IllegalStateException" (R.1 = none) := by
  refine mm_CX.of (by decide) (Nat.le_of_ble_eq_true rfl) ?_
  unfold fX8_feed at hf
  have e0 : lv_args 0 [.ref p0, .int p1, .int p2, .int p3, .int p4, .int p5] = [(0, .ref p0), (1, .int p1), (2, .int p2), (3, .int p3), (4, .int p4), (5, .int p5)] := rfl
  rw [e0]
  clear e0
  refine mm_aload_n (j := 0) dX8_feed_0 rfl rfl ?_
  obtain ⟨hs1, hf⟩ := mm_sh_s hf
  refine mm_get (c := 8) (k := 4) (v := .int (mm_I σ p0 4)) cd_ok ⟨_, _, _, rfl, by decide, Or.inl tw_144⟩ hs1 rfl dX8_feed_1 ?_
  refine mm_bipush (v := 20) dX8_feed_4 (by decide) ?_
  refine mm_iadd dX8_feed_6 ?_
  refine mm_bipush (v := 60) dX8_feed_7 (by decide) ?_
  refine mm_icmp_le (tgt := 22) dX8_feed_9 (by decide) (fun c2 => ?_) (fun c2 => ?_)
  · rw [if_pos c2] at hf
    refine mm_aload_n (j := 0) dX8_feed_22 rfl rfl ?_
    refine mm_iload_n (j := 1) dX8_feed_23 rfl rfl ?_
    obtain ⟨q3, hq3, hf⟩ := mm_on_s hf
    refine mm_callVv cd_ok (kX8_addToTape p0 p1 hq3) hs1 rfl (Or.inl tw_476) cdX8_addToTape tw_478 ts_15 nmX8_addToTape rfl rfl (by simp only [List.map_cons, List.map_nil, mm_rf_cat]; exact Nat.le_of_ble_eq_true rfl) dX8_feed_24 ⟨Nat.le_of_ble_eq_true rfl, Nat.le_of_ble_eq_true rfl⟩ ⟨Nat.le_of_ble_eq_true rfl, Nat.le_of_ble_eq_true rfl⟩ ?_
    refine mm_aload_n (j := 0) dX8_feed_27 rfl rfl ?_
    refine mm_iload_n (j := 2) dX8_feed_28 rfl rfl ?_
    obtain ⟨hs4, hf⟩ := mm_sh_s hf
    obtain ⟨q5, hq5, hf⟩ := mm_on_s hf
    refine mm_callVv cd_ok (kX8_addToTape p0 p2 hq5) hs4 rfl (Or.inl tw_476) cdX8_addToTape tw_478 ts_15 nmX8_addToTape rfl rfl (by simp only [List.map_cons, List.map_nil, mm_rf_cat]; exact Nat.le_of_ble_eq_true rfl) dX8_feed_29 ⟨Nat.le_of_ble_eq_true rfl, Nat.le_of_ble_eq_true rfl⟩ ⟨Nat.le_of_ble_eq_true rfl, Nat.le_of_ble_eq_true rfl⟩ ?_
    refine mm_aload_n (j := 0) dX8_feed_32 rfl rfl ?_
    refine mm_iload_n (j := 3) dX8_feed_33 rfl rfl ?_
    obtain ⟨hs6, hf⟩ := mm_sh_s hf
    obtain ⟨q7, hq7, hf⟩ := mm_on_s hf
    refine mm_callVv cd_ok (kX8_addToTape p0 p3 hq7) hs6 rfl (Or.inl tw_476) cdX8_addToTape tw_478 ts_15 nmX8_addToTape rfl rfl (by simp only [List.map_cons, List.map_nil, mm_rf_cat]; exact Nat.le_of_ble_eq_true rfl) dX8_feed_34 ⟨Nat.le_of_ble_eq_true rfl, Nat.le_of_ble_eq_true rfl⟩ ⟨Nat.le_of_ble_eq_true rfl, Nat.le_of_ble_eq_true rfl⟩ ?_
    refine mm_aload_n (j := 0) dX8_feed_37 rfl rfl ?_
    refine mm_iload (j := 4) dX8_feed_38 rfl ?_
    obtain ⟨hs8, hf⟩ := mm_sh_s hf
    obtain ⟨q9, hq9, hf⟩ := mm_on_s hf
    refine mm_callVv cd_ok (kX8_addToTape p0 p4 hq9) hs8 rfl (Or.inl tw_476) cdX8_addToTape tw_478 ts_15 nmX8_addToTape rfl rfl (by simp only [List.map_cons, List.map_nil, mm_rf_cat]; exact Nat.le_of_ble_eq_true rfl) dX8_feed_40 ⟨Nat.le_of_ble_eq_true rfl, Nat.le_of_ble_eq_true rfl⟩ ⟨Nat.le_of_ble_eq_true rfl, Nat.le_of_ble_eq_true rfl⟩ ?_
    refine mm_aload_n (j := 0) dX8_feed_43 rfl rfl ?_
    refine mm_iload (j := 5) dX8_feed_44 rfl ?_
    obtain ⟨hs10, hf⟩ := mm_sh_s hf
    obtain ⟨q11, hq11, hf⟩ := mm_on_s hf
    refine mm_callVv cd_ok (kX8_addToTape p0 p5 hq11) hs10 rfl (Or.inl tw_476) cdX8_addToTape tw_478 ts_15 nmX8_addToTape rfl rfl (by simp only [List.map_cons, List.map_nil, mm_rf_cat]; exact Nat.le_of_ble_eq_true rfl) dX8_feed_46 ⟨Nat.le_of_ble_eq_true rfl, Nat.le_of_ble_eq_true rfl⟩ ⟨Nat.le_of_ble_eq_true rfl, Nat.le_of_ble_eq_true rfl⟩ ?_
    refine mm_aload_n (j := 0) dX8_feed_49 rfl rfl ?_
    obtain ⟨hs12, hf⟩ := mm_sh_s hf
    refine mm_get (c := 8) (k := 4) (v := .int (mm_I q11 p0 4)) cd_ok ⟨_, _, _, rfl, by decide, Or.inl tw_144⟩ hs12 rfl dX8_feed_50 ?_
    cases hf
    refine mm_widen (ck' := rmX8_feed.cells) (sk' := rmX8_feed.slots) (Nat.le_of_ble_eq_true rfl) (Nat.le_of_ble_eq_true rfl) ?_
    exact mm_x (mm_iret rfl rfl dX8_feed_53 ⟨_, rfl, rfl, rfl⟩)
  · rw [if_neg c2] at hf
    cases hf
    exact mm_throw cd_ok rfl rfl th_X8_150_154 (List.mem_of_getElem? (i := 4) rfl) dX8_feed_12 dX8_feed_15 dX8_feed_16 dX8_feed_18 dX8_feed_21 (Nat.le_of_ble_eq_true rfl) (by simp only [List.map_cons, List.map_nil, mm_rf_cat]; exact Nat.le_of_ble_eq_true rfl) (Nat.le_of_ble_eq_true rfl) (Nat.le_of_ble_eq_true rfl) (Nat.le_of_ble_eq_true rfl) (Nat.le_of_ble_eq_true rfl)
theorem dX8_find_0 : decode cX8_find 0 = .ok (.aload_n 0, 1) := by decide +kernel
theorem dX8_find_1 : decode cX8_find 1 = .ok (.getfield 34, 3) := by decide +kernel
theorem dX8_find_4 : decode cX8_find 4 = .ok (.iload_n 1, 1) := by decide +kernel
theorem dX8_find_5 : decode cX8_find 5 = .ok (.iload_n 2, 1) := by decide +kernel
theorem dX8_find_6 : decode cX8_find 6 = .ok (.iload_n 3, 1) := by decide +kernel
theorem dX8_find_7 : decode cX8_find 7 = .ok (.invokevirtual 174, 3) := by decide +kernel
theorem dX8_find_10 : decode cX8_find 10 = .ok (.ireturn, 1) := by decide +kernel
theorem nmX8_find : mm_nm yX8_find 3 := ⟨by decide, by decide, by decide +kernel⟩
theorem cdX8_find : mm_cd cd_Y yX8_find cX8_find 4 (some .int) := ⟨tw_211, tw_1⟩
abbrev rmX8_find : Room := { frames := 3, cells := 0, slots := 0, locals := 67 }
def fX8_find (p0 : Nat) (p1 : Int32) (p2 : Int32) (p3 : Int32) (σ : mm_M) : Option (Int32 × mm_M) :=
  mm_sh σ p0 (.inl 8) (mm_on (mm_R σ p0 7) fun q2 => mm_sh σ q2 (.inl 6) (mm_on (fX6_placeOf q2 p1 p2 p3 σ) fun q4 => some (q4.1, q4.2)))
set_option maxHeartbeats 4000000 in
set_option maxRecDepth 100000 in
theorem kX8_find {G : mm_G} {A : Nat → Prop} (p0 : Nat) (p1 : Int32) (p2 : Int32) (p3 : Int32) {σ : mm_M} {R : (Int32 × mm_M)} (hf : fX8_find p0 p1 p2 p3 σ = some R) : mm_C cd_Y G yX8_find cX8_find 4 (some .int) rmX8_find A [.ref p0, .int p1, .int p2, .int p3] σ (mm_Pi R.1 R.2) := by
  refine mm_C.of (by decide) (Nat.le_of_ble_eq_true rfl) ?_
  unfold fX8_find at hf
  have e0 : lv_args 0 [.ref p0, .int p1, .int p2, .int p3] = [(0, .ref p0), (1, .int p1), (2, .int p2), (3, .int p3)] := rfl
  rw [e0]
  generalize hini : ((yX8_find.name == "<init>"), none) = ini
  clear e0
  clear hini
  refine mm_aload_n (j := 0) dX8_find_0 rfl rfl ?_
  obtain ⟨hs1, hf⟩ := mm_sh_s hf
  refine mm_get (c := 8) (k := 7) (v := va_rf (mm_R σ p0 7)) cd_ok ⟨_, _, _, rfl, by decide, Or.inl tw_147⟩ hs1 rfl dX8_find_1 ?_
  refine mm_iload_n (j := 1) dX8_find_4 rfl rfl ?_
  refine mm_iload_n (j := 2) dX8_find_5 rfl rfl ?_
  refine mm_iload_n (j := 3) dX8_find_6 rfl rfl ?_
  obtain ⟨q2, hq2, hf⟩ := mm_on_s hf
  rw [hq2, mm_rf_some]
  obtain ⟨hs3, hf⟩ := mm_sh_s hf
  obtain ⟨q4, hq4, hf⟩ := mm_on_s hf
  refine mm_callVi cd_ok (kX6_placeOf q2 p1 p2 p3 hq4) hs3 rfl (Or.inl tw_212) cdX6_placeOf tw_213 tw_214 nmX6_placeOf rfl rfl (by simp only [List.map_cons, List.map_nil, mm_rf_cat]; exact Nat.le_of_ble_eq_true rfl) dX8_find_7 ⟨Nat.le_of_ble_eq_true rfl, Nat.le_of_ble_eq_true rfl⟩ ⟨Nat.le_of_ble_eq_true rfl, Nat.le_of_ble_eq_true rfl⟩ ?_
  cases hf
  refine mm_widen (ck' := rmX8_find.cells) (sk' := rmX8_find.slots) (Nat.le_of_ble_eq_true rfl) (Nat.le_of_ble_eq_true rfl) ?_
  exact mm_iret rfl rfl dX8_find_10 ⟨rfl, rfl⟩
theorem dX8_page_0 : decode cX8_page 0 = .ok (.aload_n 0, 1) := by decide +kernel
theorem dX8_page_1 : decode cX8_page 1 = .ok (.getfield 34, 3) := by decide +kernel
theorem dX8_page_4 : decode cX8_page 4 = .ok (.iload_n 1, 1) := by decide +kernel
theorem dX8_page_5 : decode cX8_page 5 = .ok (.invokevirtual 177, 3) := by decide +kernel
theorem dX8_page_8 : decode cX8_page 8 = .ok (.astore_n 3, 1) := by decide +kernel
theorem dX8_page_9 : decode cX8_page 9 = .ok (.aload_n 3, 1) := by decide +kernel
theorem dX8_page_10 : decode cX8_page 10 = .ok (.ifnull 12, 3) := by decide +kernel
theorem dX8_page_13 : decode cX8_page 13 = .ok (.iload_n 2, 1) := by decide +kernel
theorem dX8_page_14 : decode cX8_page 14 = .ok (.bipush 7, 2) := by decide +kernel
theorem dX8_page_16 : decode cX8_page 16 = .ok (.invokestatic 62, 3) := by decide +kernel
theorem dX8_page_19 : decode cX8_page 19 = .ok (.ifCond .eq 13, 3) := by decide +kernel
theorem dX8_page_22 : decode cX8_page 22 = .ok (.new 66, 3) := by decide +kernel
theorem dX8_page_25 : decode cX8_page 25 = .ok (.dup, 1) := by decide +kernel
theorem dX8_page_26 : decode cX8_page 26 = .ok (.ldc 181, 2) := by decide +kernel
theorem dX8_page_28 : decode cX8_page 28 = .ok (.invokespecial 70, 3) := by decide +kernel
theorem dX8_page_31 : decode cX8_page 31 = .ok (.athrow, 1) := by decide +kernel
theorem dX8_page_32 : decode cX8_page 32 = .ok (.iload_n 2, 1) := by decide +kernel
theorem dX8_page_33 : decode cX8_page 33 = .ok (.tableswitch 77 0 5 #[39, 44, 49, 54, 59, 72], 39) := by decide +kernel
theorem dX8_page_72 : decode cX8_page 72 = .ok (.aload_n 3, 1) := by decide +kernel
theorem dX8_page_73 : decode cX8_page 73 = .ok (.getfield 183, 3) := by decide +kernel
theorem dX8_page_76 : decode cX8_page 76 = .ok (.ireturn, 1) := by decide +kernel
theorem dX8_page_77 : decode cX8_page 77 = .ok (.aload_n 3, 1) := by decide +kernel
theorem dX8_page_78 : decode cX8_page 78 = .ok (.getfield 188, 3) := by decide +kernel
theorem dX8_page_81 : decode cX8_page 81 = .ok (.ireturn, 1) := by decide +kernel
theorem dX8_page_82 : decode cX8_page 82 = .ok (.aload_n 3, 1) := by decide +kernel
theorem dX8_page_83 : decode cX8_page 83 = .ok (.getfield 191, 3) := by decide +kernel
theorem dX8_page_86 : decode cX8_page 86 = .ok (.ireturn, 1) := by decide +kernel
theorem dX8_page_87 : decode cX8_page 87 = .ok (.aload_n 3, 1) := by decide +kernel
theorem dX8_page_88 : decode cX8_page 88 = .ok (.getfield 194, 3) := by decide +kernel
theorem dX8_page_91 : decode cX8_page 91 = .ok (.ireturn, 1) := by decide +kernel
theorem dX8_page_92 : decode cX8_page 92 = .ok (.aload_n 3, 1) := by decide +kernel
theorem dX8_page_93 : decode cX8_page 93 = .ok (.getfield 197, 3) := by decide +kernel
theorem dX8_page_96 : decode cX8_page 96 = .ok (.ifCond .eq 7, 3) := by decide +kernel
theorem dX8_page_99 : decode cX8_page 99 = .ok (.iconst 1, 1) := by decide +kernel
theorem dX8_page_100 : decode cX8_page 100 = .ok (.goto 4, 3) := by decide +kernel
theorem dX8_page_103 : decode cX8_page 103 = .ok (.iconst 0, 1) := by decide +kernel
theorem dX8_page_104 : decode cX8_page 104 = .ok (.ireturn, 1) := by decide +kernel
theorem dX8_page_105 : decode cX8_page 105 = .ok (.aload_n 3, 1) := by decide +kernel
theorem dX8_page_106 : decode cX8_page 106 = .ok (.getfield 201, 3) := by decide +kernel
theorem dX8_page_109 : decode cX8_page 109 = .ok (.ireturn, 1) := by decide +kernel
theorem dX8_page_110 : decode cX8_page 110 = .ok (.aload_n 3, 1) := by decide +kernel
theorem dX8_page_111 : decode cX8_page 111 = .ok (.getfield 204, 3) := by decide +kernel
theorem dX8_page_114 : decode cX8_page 114 = .ok (.ireturn, 1) := by decide +kernel
theorem nmX8_page : mm_nm yX8_page 2 := ⟨by decide, by decide, by decide +kernel⟩
theorem cdX8_page : mm_cd cd_Y yX8_page cX8_page 4 (some .int) := ⟨tw_636, tw_1⟩
abbrev rmX8_page : Room := { frames := 6, cells := 1, slots := 6, locals := 82 }
def fX8_page (p0 : Nat) (p1 : Int32) (p2 : Int32) (σ : mm_M) : Option (Option Int32 × mm_M) :=
  mm_sh σ p0 (.inl 8) (mm_on (mm_R σ p0 7) fun q2 => mm_sh σ q2 (.inl 6) (mm_on (fX6_pageAt q2 p1 σ) fun q4 => (mm_nu (q4.1) (some (none, q4.2)) fun q5 => (if (fX8_isOutside p2 7) = 0 then (if p2 = 0 then mm_sh q4.2 q5 (.inl 3) (some (some (mm_I q4.2 q5 2), q4.2)) else (if p2 = 1 then mm_sh q4.2 q5 (.inl 3) (some (some (mm_I q4.2 q5 3), q4.2)) else (if p2 = 2 then mm_sh q4.2 q5 (.inl 3) (some (some (mm_I q4.2 q5 4), q4.2)) else (if p2 = 3 then mm_sh q4.2 q5 (.inl 3) (some (some (mm_I q4.2 q5 5), q4.2)) else (if p2 = 4 then mm_sh q4.2 q5 (.inl 3) ((if (mm_I q4.2 q5 6) = 0 then some (some (0), q4.2) else some (some (1), q4.2))) else (if p2 = 5 then mm_sh q4.2 q5 (.inl 3) (some (some (mm_I q4.2 q5 7), q4.2)) else mm_sh q4.2 q5 (.inl 3) (some (some (mm_I q4.2 q5 8), q4.2)))))))) else some (none, q4.2)))))
set_option maxHeartbeats 4000000 in
set_option maxRecDepth 100000 in
theorem kX8_page {G : mm_G} {A : Nat → Prop} (p0 : Nat) (p1 : Int32) (p2 : Int32) {σ : mm_M} {R : (Option Int32 × mm_M)} (hf : fX8_page p0 p1 p2 σ = some R) : mm_CX cd_Y G yX8_page cX8_page 4 (some .int) rmX8_page A [.ref p0, .int p1, .int p2] σ (mm_PX R) R.2 "java/lang/IndexOutOfBoundsException" (R.1 = none) := by
  refine mm_CX.of (by decide) (Nat.le_of_ble_eq_true rfl) ?_
  unfold fX8_page at hf
  have e0 : lv_args 0 [.ref p0, .int p1, .int p2] = [(0, .ref p0), (1, .int p1), (2, .int p2)] := rfl
  rw [e0]
  clear e0
  refine mm_aload_n (j := 0) dX8_page_0 rfl rfl ?_
  obtain ⟨hs1, hf⟩ := mm_sh_s hf
  refine mm_get (c := 8) (k := 7) (v := va_rf (mm_R σ p0 7)) cd_ok ⟨_, _, _, rfl, by decide, Or.inl tw_147⟩ hs1 rfl dX8_page_1 ?_
  refine mm_iload_n (j := 1) dX8_page_4 rfl rfl ?_
  obtain ⟨q2, hq2, hf⟩ := mm_on_s hf
  rw [hq2, mm_rf_some]
  obtain ⟨hs3, hf⟩ := mm_sh_s hf
  obtain ⟨q4, hq4, hf⟩ := mm_on_s hf
  refine mm_callVo cd_ok (kX6_pageAt q2 p1 hq4) hs3 rfl (Or.inl tw_515) cdX6_pageAt tw_217 tw_218 nmX6_pageAt rfl rfl (by simp only [List.map_cons, List.map_nil, mm_rf_cat]; exact Nat.le_of_ble_eq_true rfl) dX8_page_5 ⟨Nat.le_of_ble_eq_true rfl, Nat.le_of_ble_eq_true rfl⟩ ⟨Nat.le_of_ble_eq_true rfl, Nat.le_of_ble_eq_true rfl⟩ ?_
  refine mm_astore_nR (L' := [(3, va_rf (q4.1)), (0, .ref p0), (1, .int p1), (2, .int p2)]) dX8_page_8 rfl (by decide) rfl ?_
  refine mm_aload_nR (j := 0) dX8_page_9 rfl rfl ?_
  rcases hq5 : (q4.1) with _ | q5
  · rw [mm_nu_n hq5] at hf
    try rw [mm_rf_none]
    refine mm_ifnullN (tgt := 22) dX8_page_10 (by decide) ?_
    cases hf
    exact mm_throw cd_ok rfl rfl th_X8_66_70 (List.mem_of_getElem? (i := 7) rfl) dX8_page_22 dX8_page_25 dX8_page_26 dX8_page_28 dX8_page_31 (Nat.le_of_ble_eq_true rfl) (by simp only [List.map_cons, List.map_nil, mm_rf_cat]; exact Nat.le_of_ble_eq_true rfl) (Nat.le_of_ble_eq_true rfl) (Nat.le_of_ble_eq_true rfl) (Nat.le_of_ble_eq_true rfl) (Nat.le_of_ble_eq_true rfl)
  · rw [mm_nu_s hq5] at hf
    try rw [mm_rf_some]
    refine mm_ifnull dX8_page_10 ?_
    refine mm_iload_n (j := 3) dX8_page_13 rfl rfl ?_
    refine mm_bipush (v := 7) dX8_page_14 (by decide) ?_
    refine mm_callSi cd_ok (kX8_isOutside p2 7 _ rfl) (Or.inl tw_239) cdX8_isOutside tw_221 nmX8_isOutside rfl rfl (by simp only [List.map_cons, List.map_nil, mm_rf_cat]; exact Nat.le_of_ble_eq_true rfl) dX8_page_16 ⟨Nat.le_of_ble_eq_true rfl, Nat.le_of_ble_eq_true rfl⟩ ⟨Nat.le_of_ble_eq_true rfl, Nat.le_of_ble_eq_true rfl⟩ ?_
    refine mm_if_eq (tgt := 32) dX8_page_19 (by decide) (fun c6 => ?_) (fun c6 => ?_)
    · rw [if_pos c6] at hf
      refine mm_iload_n (j := 3) dX8_page_32 rfl rfl ?_
      by_cases c7 : p2 = 0
      · rw [if_pos c7] at hf
        refine mm_tableEq (off := 39) (tgt := 72) dX8_page_33 c7 (by decide) (by decide) (by decide) (by decide) ?_
        refine mm_aload_n (j := 0) dX8_page_72 rfl rfl ?_
        obtain ⟨hs8, hf⟩ := mm_sh_s hf
        refine mm_get (c := 3) (k := 2) (v := .int (mm_I q4.2 q5 2)) cd_ok ⟨_, _, _, rfl, by decide, Or.inr ⟨_, tn_32⟩⟩ hs8 rfl dX8_page_73 ?_
        cases hf
        refine mm_widen (ck' := rmX8_page.cells) (sk' := rmX8_page.slots) (Nat.le_of_ble_eq_true rfl) (Nat.le_of_ble_eq_true rfl) ?_
        exact mm_x (mm_iret rfl rfl dX8_page_76 ⟨_, rfl, rfl, rfl⟩)
      rw [if_neg c7] at hf
      by_cases c9 : p2 = 1
      · rw [if_pos c9] at hf
        refine mm_tableEq (off := 44) (tgt := 77) dX8_page_33 c9 (by decide) (by decide) (by decide) (by decide) ?_
        refine mm_aload_n (j := 0) dX8_page_77 rfl rfl ?_
        obtain ⟨hs10, hf⟩ := mm_sh_s hf
        refine mm_get (c := 3) (k := 3) (v := .int (mm_I q4.2 q5 3)) cd_ok ⟨_, _, _, rfl, by decide, Or.inr ⟨_, tn_33⟩⟩ hs10 rfl dX8_page_78 ?_
        cases hf
        refine mm_widen (ck' := rmX8_page.cells) (sk' := rmX8_page.slots) (Nat.le_of_ble_eq_true rfl) (Nat.le_of_ble_eq_true rfl) ?_
        exact mm_x (mm_iret rfl rfl dX8_page_81 ⟨_, rfl, rfl, rfl⟩)
      rw [if_neg c9] at hf
      by_cases c11 : p2 = 2
      · rw [if_pos c11] at hf
        refine mm_tableEq (off := 49) (tgt := 82) dX8_page_33 c11 (by decide) (by decide) (by decide) (by decide) ?_
        refine mm_aload_n (j := 0) dX8_page_82 rfl rfl ?_
        obtain ⟨hs12, hf⟩ := mm_sh_s hf
        refine mm_get (c := 3) (k := 4) (v := .int (mm_I q4.2 q5 4)) cd_ok ⟨_, _, _, rfl, by decide, Or.inr ⟨_, tn_34⟩⟩ hs12 rfl dX8_page_83 ?_
        cases hf
        refine mm_widen (ck' := rmX8_page.cells) (sk' := rmX8_page.slots) (Nat.le_of_ble_eq_true rfl) (Nat.le_of_ble_eq_true rfl) ?_
        exact mm_x (mm_iret rfl rfl dX8_page_86 ⟨_, rfl, rfl, rfl⟩)
      rw [if_neg c11] at hf
      by_cases c13 : p2 = 3
      · rw [if_pos c13] at hf
        refine mm_tableEq (off := 54) (tgt := 87) dX8_page_33 c13 (by decide) (by decide) (by decide) (by decide) ?_
        refine mm_aload_n (j := 0) dX8_page_87 rfl rfl ?_
        obtain ⟨hs14, hf⟩ := mm_sh_s hf
        refine mm_get (c := 3) (k := 5) (v := .int (mm_I q4.2 q5 5)) cd_ok ⟨_, _, _, rfl, by decide, Or.inr ⟨_, tn_35⟩⟩ hs14 rfl dX8_page_88 ?_
        cases hf
        refine mm_widen (ck' := rmX8_page.cells) (sk' := rmX8_page.slots) (Nat.le_of_ble_eq_true rfl) (Nat.le_of_ble_eq_true rfl) ?_
        exact mm_x (mm_iret rfl rfl dX8_page_91 ⟨_, rfl, rfl, rfl⟩)
      rw [if_neg c13] at hf
      by_cases c15 : p2 = 4
      · rw [if_pos c15] at hf
        refine mm_tableEq (off := 59) (tgt := 92) dX8_page_33 c15 (by decide) (by decide) (by decide) (by decide) ?_
        refine mm_aload_n (j := 0) dX8_page_92 rfl rfl ?_
        obtain ⟨hs16, hf⟩ := mm_sh_s hf
        refine mm_get (c := 3) (k := 6) (v := .int (mm_I q4.2 q5 6)) cd_ok ⟨_, _, _, rfl, by decide, Or.inr ⟨_, tn_37⟩⟩ hs16 rfl dX8_page_93 ?_
        refine mm_if_eq (tgt := 103) dX8_page_96 (by decide) (fun c17 => ?_) (fun c17 => ?_)
        · rw [if_pos c17] at hf
          refine mm_iconst (v := 0) dX8_page_103 (by decide) ?_
          cases hf
          refine mm_widen (ck' := rmX8_page.cells) (sk' := rmX8_page.slots) (Nat.le_of_ble_eq_true rfl) (Nat.le_of_ble_eq_true rfl) ?_
          exact mm_x (mm_iret rfl rfl dX8_page_104 ⟨_, rfl, rfl, rfl⟩)
        · rw [if_neg c17] at hf
          refine mm_iconst (v := 1) dX8_page_99 (by decide) ?_
          refine mm_goto (tgt := 104) dX8_page_100 (by decide) ?_
          cases hf
          refine mm_widen (ck' := rmX8_page.cells) (sk' := rmX8_page.slots) (Nat.le_of_ble_eq_true rfl) (Nat.le_of_ble_eq_true rfl) ?_
          exact mm_x (mm_iret rfl rfl dX8_page_104 ⟨_, rfl, rfl, rfl⟩)
      rw [if_neg c15] at hf
      by_cases c18 : p2 = 5
      · rw [if_pos c18] at hf
        refine mm_tableEq (off := 72) (tgt := 105) dX8_page_33 c18 (by decide) (by decide) (by decide) (by decide) ?_
        refine mm_aload_n (j := 0) dX8_page_105 rfl rfl ?_
        obtain ⟨hs19, hf⟩ := mm_sh_s hf
        refine mm_get (c := 3) (k := 7) (v := .int (mm_I q4.2 q5 7)) cd_ok ⟨_, _, _, rfl, by decide, Or.inr ⟨_, tn_38⟩⟩ hs19 rfl dX8_page_106 ?_
        cases hf
        refine mm_widen (ck' := rmX8_page.cells) (sk' := rmX8_page.slots) (Nat.le_of_ble_eq_true rfl) (Nat.le_of_ble_eq_true rfl) ?_
        exact mm_x (mm_iret rfl rfl dX8_page_109 ⟨_, rfl, rfl, rfl⟩)
      rw [if_neg c18] at hf
      refine mm_tableOut (tgt := 110) dX8_page_33 (by have nc7 := mm_neI (k := 0) (by decide) c7; have nc9 := mm_neI (k := 1) (by decide) c9; have nc11 := mm_neI (k := 2) (by decide) c11; have nc13 := mm_neI (k := 3) (by decide) c13; have nc15 := mm_neI (k := 4) (by decide) c15; have nc18 := mm_neI (k := 5) (by decide) c18; omega) (by decide) ?_
      refine mm_aload_n (j := 0) dX8_page_110 rfl rfl ?_
      obtain ⟨hs20, hf⟩ := mm_sh_s hf
      refine mm_get (c := 3) (k := 8) (v := .int (mm_I q4.2 q5 8)) cd_ok ⟨_, _, _, rfl, by decide, Or.inr ⟨_, tn_39⟩⟩ hs20 rfl dX8_page_111 ?_
      cases hf
      refine mm_widen (ck' := rmX8_page.cells) (sk' := rmX8_page.slots) (Nat.le_of_ble_eq_true rfl) (Nat.le_of_ble_eq_true rfl) ?_
      exact mm_x (mm_iret rfl rfl dX8_page_114 ⟨_, rfl, rfl, rfl⟩)
    · rw [if_neg c6] at hf
      cases hf
      exact mm_throw cd_ok rfl rfl th_X8_66_70 (List.mem_of_getElem? (i := 7) rfl) dX8_page_22 dX8_page_25 dX8_page_26 dX8_page_28 dX8_page_31 (Nat.le_of_ble_eq_true rfl) (by simp only [List.map_cons, List.map_nil, mm_rf_cat]; exact Nat.le_of_ble_eq_true rfl) (Nat.le_of_ble_eq_true rfl) (Nat.le_of_ble_eq_true rfl) (Nat.le_of_ble_eq_true rfl) (Nat.le_of_ble_eq_true rfl)
theorem dX8_sign_0 : decode cX8_sign 0 = .ok (.aload_n 0, 1) := by decide +kernel
theorem dX8_sign_1 : decode cX8_sign 1 = .ok (.getfield 34, 3) := by decide +kernel
theorem dX8_sign_4 : decode cX8_sign 4 = .ok (.iload_n 1, 1) := by decide +kernel
theorem dX8_sign_5 : decode cX8_sign 5 = .ok (.invokevirtual 177, 3) := by decide +kernel
theorem dX8_sign_8 : decode cX8_sign 8 = .ok (.astore 4, 2) := by decide +kernel
theorem dX8_sign_10 : decode cX8_sign 10 = .ok (.aload 4, 2) := by decide +kernel
theorem dX8_sign_12 : decode cX8_sign 12 = .ok (.ifnull 21, 3) := by decide +kernel
theorem dX8_sign_15 : decode cX8_sign 15 = .ok (.iload_n 2, 1) := by decide +kernel
theorem dX8_sign_16 : decode cX8_sign 16 = .ok (.bipush 25, 2) := by decide +kernel
theorem dX8_sign_18 : decode cX8_sign 18 = .ok (.invokestatic 62, 3) := by decide +kernel
theorem dX8_sign_21 : decode cX8_sign 21 = .ok (.ifCond .ne 12, 3) := by decide +kernel
theorem dX8_sign_24 : decode cX8_sign 24 = .ok (.iload_n 3, 1) := by decide +kernel
theorem dX8_sign_25 : decode cX8_sign 25 = .ok (.bipush 40, 2) := by decide +kernel
theorem dX8_sign_27 : decode cX8_sign 27 = .ok (.invokestatic 62, 3) := by decide +kernel
theorem dX8_sign_30 : decode cX8_sign 30 = .ok (.ifCond .eq 13, 3) := by decide +kernel
theorem dX8_sign_33 : decode cX8_sign 33 = .ok (.new 66, 3) := by decide +kernel
theorem dX8_sign_36 : decode cX8_sign 36 = .ok (.dup, 1) := by decide +kernel
theorem dX8_sign_37 : decode cX8_sign 37 = .ok (.ldc 207, 2) := by decide +kernel
theorem dX8_sign_39 : decode cX8_sign 39 = .ok (.invokespecial 70, 3) := by decide +kernel
theorem dX8_sign_42 : decode cX8_sign 42 = .ok (.athrow, 1) := by decide +kernel
theorem dX8_sign_43 : decode cX8_sign 43 = .ok (.aload 4, 2) := by decide +kernel
theorem dX8_sign_45 : decode cX8_sign 45 = .ok (.getfield 209, 3) := by decide +kernel
theorem dX8_sign_48 : decode cX8_sign 48 = .ok (.iload_n 2, 1) := by decide +kernel
theorem dX8_sign_49 : decode cX8_sign 49 = .ok (.iload_n 3, 1) := by decide +kernel
theorem dX8_sign_50 : decode cX8_sign 50 = .ok (.invokevirtual 213, 3) := by decide +kernel
theorem dX8_sign_53 : decode cX8_sign 53 = .ok (.ireturn, 1) := by decide +kernel
theorem nmX8_sign : mm_nm yX8_sign 3 := ⟨by decide, by decide, by decide +kernel⟩
theorem cdX8_sign : mm_cd cd_Y yX8_sign cX8_sign 5 (some .int) := ⟨tw_644, tw_1⟩
abbrev rmX8_sign : Room := { frames := 6, cells := 1, slots := 6, locals := 82 }
def fX8_sign (p0 : Nat) (p1 : Int32) (p2 : Int32) (p3 : Int32) (σ : mm_M) : Option (Option Int32 × mm_M) :=
  mm_sh σ p0 (.inl 8) (mm_on (mm_R σ p0 7) fun q2 => mm_sh σ q2 (.inl 6) (mm_on (fX6_pageAt q2 p1 σ) fun q4 => (mm_nu (q4.1) (some (none, q4.2)) fun q5 => (if (fX8_isOutside p2 25) = 0 then (if (fX8_isOutside p3 40) = 0 then mm_sh q4.2 q5 (.inl 3) (mm_on (mm_R q4.2 q5 0) fun q9 => mm_sh q4.2 q9 (.inl 4) (mm_on (fX4_signAt q9 p2 p3 q4.2) fun q11 => some (some (q11.1), q11.2))) else some (none, q4.2)) else some (none, q4.2)))))
set_option maxHeartbeats 4000000 in
set_option maxRecDepth 100000 in
theorem kX8_sign {G : mm_G} {A : Nat → Prop} (p0 : Nat) (p1 : Int32) (p2 : Int32) (p3 : Int32) {σ : mm_M} {R : (Option Int32 × mm_M)} (hf : fX8_sign p0 p1 p2 p3 σ = some R) : mm_CX cd_Y G yX8_sign cX8_sign 5 (some .int) rmX8_sign A [.ref p0, .int p1, .int p2, .int p3] σ (mm_PX R) R.2 "java/lang/IndexOutOfBoundsException" (R.1 = none) := by
  refine mm_CX.of (by decide) (Nat.le_of_ble_eq_true rfl) ?_
  unfold fX8_sign at hf
  have e0 : lv_args 0 [.ref p0, .int p1, .int p2, .int p3] = [(0, .ref p0), (1, .int p1), (2, .int p2), (3, .int p3)] := rfl
  rw [e0]
  clear e0
  refine mm_aload_n (j := 0) dX8_sign_0 rfl rfl ?_
  obtain ⟨hs1, hf⟩ := mm_sh_s hf
  refine mm_get (c := 8) (k := 7) (v := va_rf (mm_R σ p0 7)) cd_ok ⟨_, _, _, rfl, by decide, Or.inl tw_147⟩ hs1 rfl dX8_sign_1 ?_
  refine mm_iload_n (j := 1) dX8_sign_4 rfl rfl ?_
  obtain ⟨q2, hq2, hf⟩ := mm_on_s hf
  rw [hq2, mm_rf_some]
  obtain ⟨hs3, hf⟩ := mm_sh_s hf
  obtain ⟨q4, hq4, hf⟩ := mm_on_s hf
  refine mm_callVo cd_ok (kX6_pageAt q2 p1 hq4) hs3 rfl (Or.inl tw_515) cdX6_pageAt tw_217 tw_218 nmX6_pageAt rfl rfl (by simp only [List.map_cons, List.map_nil, mm_rf_cat]; exact Nat.le_of_ble_eq_true rfl) dX8_sign_5 ⟨Nat.le_of_ble_eq_true rfl, Nat.le_of_ble_eq_true rfl⟩ ⟨Nat.le_of_ble_eq_true rfl, Nat.le_of_ble_eq_true rfl⟩ ?_
  refine mm_astoreR (L' := [(4, va_rf (q4.1)), (0, .ref p0), (1, .int p1), (2, .int p2), (3, .int p3)]) dX8_sign_8 (by decide) rfl ?_
  refine mm_aloadR (j := 0) dX8_sign_10 rfl ?_
  rcases hq5 : (q4.1) with _ | q5
  · rw [mm_nu_n hq5] at hf
    try rw [mm_rf_none]
    refine mm_ifnullN (tgt := 33) dX8_sign_12 (by decide) ?_
    cases hf
    exact mm_throw cd_ok rfl rfl th_X8_66_70 (List.mem_of_getElem? (i := 8) rfl) dX8_sign_33 dX8_sign_36 dX8_sign_37 dX8_sign_39 dX8_sign_42 (Nat.le_of_ble_eq_true rfl) (by simp only [List.map_cons, List.map_nil, mm_rf_cat]; exact Nat.le_of_ble_eq_true rfl) (Nat.le_of_ble_eq_true rfl) (Nat.le_of_ble_eq_true rfl) (Nat.le_of_ble_eq_true rfl) (Nat.le_of_ble_eq_true rfl)
  · rw [mm_nu_s hq5] at hf
    try rw [mm_rf_some]
    refine mm_ifnull dX8_sign_12 ?_
    refine mm_iload_n (j := 3) dX8_sign_15 rfl rfl ?_
    refine mm_bipush (v := 25) dX8_sign_16 (by decide) ?_
    refine mm_callSi cd_ok (kX8_isOutside p2 25 _ rfl) (Or.inl tw_239) cdX8_isOutside tw_221 nmX8_isOutside rfl rfl (by simp only [List.map_cons, List.map_nil, mm_rf_cat]; exact Nat.le_of_ble_eq_true rfl) dX8_sign_18 ⟨Nat.le_of_ble_eq_true rfl, Nat.le_of_ble_eq_true rfl⟩ ⟨Nat.le_of_ble_eq_true rfl, Nat.le_of_ble_eq_true rfl⟩ ?_
    refine mm_if_ne (tgt := 33) dX8_sign_21 (by decide) (fun c6 => ?_) (fun c6 => ?_)
    · rw [if_neg c6] at hf
      cases hf
      exact mm_throw cd_ok rfl rfl th_X8_66_70 (List.mem_of_getElem? (i := 8) rfl) dX8_sign_33 dX8_sign_36 dX8_sign_37 dX8_sign_39 dX8_sign_42 (Nat.le_of_ble_eq_true rfl) (by simp only [List.map_cons, List.map_nil, mm_rf_cat]; exact Nat.le_of_ble_eq_true rfl) (Nat.le_of_ble_eq_true rfl) (Nat.le_of_ble_eq_true rfl) (Nat.le_of_ble_eq_true rfl) (Nat.le_of_ble_eq_true rfl)
    · rw [if_pos c6] at hf
      refine mm_iload_n (j := 4) dX8_sign_24 rfl rfl ?_
      refine mm_bipush (v := 40) dX8_sign_25 (by decide) ?_
      refine mm_callSi cd_ok (kX8_isOutside p3 40 _ rfl) (Or.inl tw_239) cdX8_isOutside tw_221 nmX8_isOutside rfl rfl (by simp only [List.map_cons, List.map_nil, mm_rf_cat]; exact Nat.le_of_ble_eq_true rfl) dX8_sign_27 ⟨Nat.le_of_ble_eq_true rfl, Nat.le_of_ble_eq_true rfl⟩ ⟨Nat.le_of_ble_eq_true rfl, Nat.le_of_ble_eq_true rfl⟩ ?_
      refine mm_if_eq (tgt := 43) dX8_sign_30 (by decide) (fun c7 => ?_) (fun c7 => ?_)
      · rw [if_pos c7] at hf
        refine mm_aload (j := 0) dX8_sign_43 rfl ?_
        obtain ⟨hs8, hf⟩ := mm_sh_s hf
        refine mm_get (c := 3) (k := 0) (v := va_rf (mm_R q4.2 q5 0)) cd_ok ⟨_, _, _, rfl, by decide, Or.inr ⟨_, tn_29⟩⟩ hs8 rfl dX8_sign_45 ?_
        refine mm_iload_n (j := 3) dX8_sign_48 rfl rfl ?_
        refine mm_iload_n (j := 4) dX8_sign_49 rfl rfl ?_
        obtain ⟨q9, hq9, hf⟩ := mm_on_s hf
        rw [hq9, mm_rf_some]
        obtain ⟨hs10, hf⟩ := mm_sh_s hf
        obtain ⟨q11, hq11, hf⟩ := mm_on_s hf
        refine mm_callVi cd_ok (kX4_signAt q9 p2 p3 hq11) hs10 rfl (Or.inl tw_646) cdX4_signAt tw_647 tw_648 nmX4_signAt rfl rfl (by simp only [List.map_cons, List.map_nil, mm_rf_cat]; exact Nat.le_of_ble_eq_true rfl) dX8_sign_50 ⟨Nat.le_of_ble_eq_true rfl, Nat.le_of_ble_eq_true rfl⟩ ⟨Nat.le_of_ble_eq_true rfl, Nat.le_of_ble_eq_true rfl⟩ ?_
        cases hf
        refine mm_widen (ck' := rmX8_sign.cells) (sk' := rmX8_sign.slots) (Nat.le_of_ble_eq_true rfl) (Nat.le_of_ble_eq_true rfl) ?_
        exact mm_x (mm_iret rfl rfl dX8_sign_53 ⟨_, rfl, rfl, rfl⟩)
      · rw [if_neg c7] at hf
        cases hf
        exact mm_throw cd_ok rfl rfl th_X8_66_70 (List.mem_of_getElem? (i := 8) rfl) dX8_sign_33 dX8_sign_36 dX8_sign_37 dX8_sign_39 dX8_sign_42 (Nat.le_of_ble_eq_true rfl) (by simp only [List.map_cons, List.map_nil, mm_rf_cat]; exact Nat.le_of_ble_eq_true rfl) (Nat.le_of_ble_eq_true rfl) (Nat.le_of_ble_eq_true rfl) (Nat.le_of_ble_eq_true rfl) (Nat.le_of_ble_eq_true rfl)
theorem dX8_link_0 : decode cX8_link 0 = .ok (.aload_n 0, 1) := by decide +kernel
theorem dX8_link_1 : decode cX8_link 1 = .ok (.getfield 34, 3) := by decide +kernel
theorem dX8_link_4 : decode cX8_link 4 = .ok (.iload_n 1, 1) := by decide +kernel
theorem dX8_link_5 : decode cX8_link 5 = .ok (.invokevirtual 177, 3) := by decide +kernel
theorem dX8_link_8 : decode cX8_link 8 = .ok (.astore 4, 2) := by decide +kernel
theorem dX8_link_10 : decode cX8_link 10 = .ok (.aload 4, 2) := by decide +kernel
theorem dX8_link_12 : decode cX8_link 12 = .ok (.ifnull 20, 3) := by decide +kernel
theorem dX8_link_15 : decode cX8_link 15 = .ok (.iload_n 2, 1) := by decide +kernel
theorem dX8_link_16 : decode cX8_link 16 = .ok (.bipush 6, 2) := by decide +kernel
theorem dX8_link_18 : decode cX8_link 18 = .ok (.invokestatic 62, 3) := by decide +kernel
theorem dX8_link_21 : decode cX8_link 21 = .ok (.ifCond .ne 11, 3) := by decide +kernel
theorem dX8_link_24 : decode cX8_link 24 = .ok (.iload_n 3, 1) := by decide +kernel
theorem dX8_link_25 : decode cX8_link 25 = .ok (.iconst 3, 1) := by decide +kernel
theorem dX8_link_26 : decode cX8_link 26 = .ok (.invokestatic 62, 3) := by decide +kernel
theorem dX8_link_29 : decode cX8_link 29 = .ok (.ifCond .eq 13, 3) := by decide +kernel
theorem dX8_link_32 : decode cX8_link 32 = .ok (.new 66, 3) := by decide +kernel
theorem dX8_link_35 : decode cX8_link 35 = .ok (.dup, 1) := by decide +kernel
theorem dX8_link_36 : decode cX8_link 36 = .ok (.ldc 218, 2) := by decide +kernel
theorem dX8_link_38 : decode cX8_link 38 = .ok (.invokespecial 70, 3) := by decide +kernel
theorem dX8_link_41 : decode cX8_link 41 = .ok (.athrow, 1) := by decide +kernel
theorem dX8_link_42 : decode cX8_link 42 = .ok (.aload 4, 2) := by decide +kernel
theorem dX8_link_44 : decode cX8_link 44 = .ok (.getfield 220, 3) := by decide +kernel
theorem dX8_link_47 : decode cX8_link 47 = .ok (.iconst 3, 1) := by decide +kernel
theorem dX8_link_48 : decode cX8_link 48 = .ok (.iload_n 2, 1) := by decide +kernel
theorem dX8_link_49 : decode cX8_link 49 = .ok (.imul, 1) := by decide +kernel
theorem dX8_link_50 : decode cX8_link 50 = .ok (.iload_n 3, 1) := by decide +kernel
theorem dX8_link_51 : decode cX8_link 51 = .ok (.iadd, 1) := by decide +kernel
theorem dX8_link_52 : decode cX8_link 52 = .ok (.iaload, 1) := by decide +kernel
theorem dX8_link_53 : decode cX8_link 53 = .ok (.ireturn, 1) := by decide +kernel
theorem nmX8_link : mm_nm yX8_link 3 := ⟨by decide, by decide, by decide +kernel⟩
theorem cdX8_link : mm_cd cd_Y yX8_link cX8_link 5 (some .int) := ⟨tw_656, tw_1⟩
abbrev rmX8_link : Room := { frames := 6, cells := 1, slots := 6, locals := 82 }
def fX8_link (p0 : Nat) (p1 : Int32) (p2 : Int32) (p3 : Int32) (σ : mm_M) : Option (Option Int32 × mm_M) :=
  mm_sh σ p0 (.inl 8) (mm_on (mm_R σ p0 7) fun q2 => mm_sh σ q2 (.inl 6) (mm_on (fX6_pageAt q2 p1 σ) fun q4 => (mm_nu (q4.1) (some (none, q4.2)) fun q5 => (if (fX8_isOutside p2 6) = 0 then (if (fX8_isOutside p3 3) = 0 then mm_sh q4.2 q5 (.inl 3) (mm_on (mm_R q4.2 q5 1) fun q9 => mm_ar q4.2 q9 0 fun n10 => mm_ib ((3 * p2) + p3) n10 (some (some (mm_I q4.2 q9 ((3 * p2) + p3).toNatClampNeg), q4.2))) else some (none, q4.2)) else some (none, q4.2)))))
set_option maxHeartbeats 4000000 in
set_option maxRecDepth 100000 in
theorem kX8_link {G : mm_G} {A : Nat → Prop} (p0 : Nat) (p1 : Int32) (p2 : Int32) (p3 : Int32) {σ : mm_M} {R : (Option Int32 × mm_M)} (hf : fX8_link p0 p1 p2 p3 σ = some R) : mm_CX cd_Y G yX8_link cX8_link 5 (some .int) rmX8_link A [.ref p0, .int p1, .int p2, .int p3] σ (mm_PX R) R.2 "java/lang/IndexOutOfBoundsException" (R.1 = none) := by
  refine mm_CX.of (by decide) (Nat.le_of_ble_eq_true rfl) ?_
  unfold fX8_link at hf
  have e0 : lv_args 0 [.ref p0, .int p1, .int p2, .int p3] = [(0, .ref p0), (1, .int p1), (2, .int p2), (3, .int p3)] := rfl
  rw [e0]
  clear e0
  refine mm_aload_n (j := 0) dX8_link_0 rfl rfl ?_
  obtain ⟨hs1, hf⟩ := mm_sh_s hf
  refine mm_get (c := 8) (k := 7) (v := va_rf (mm_R σ p0 7)) cd_ok ⟨_, _, _, rfl, by decide, Or.inl tw_147⟩ hs1 rfl dX8_link_1 ?_
  refine mm_iload_n (j := 1) dX8_link_4 rfl rfl ?_
  obtain ⟨q2, hq2, hf⟩ := mm_on_s hf
  rw [hq2, mm_rf_some]
  obtain ⟨hs3, hf⟩ := mm_sh_s hf
  obtain ⟨q4, hq4, hf⟩ := mm_on_s hf
  refine mm_callVo cd_ok (kX6_pageAt q2 p1 hq4) hs3 rfl (Or.inl tw_515) cdX6_pageAt tw_217 tw_218 nmX6_pageAt rfl rfl (by simp only [List.map_cons, List.map_nil, mm_rf_cat]; exact Nat.le_of_ble_eq_true rfl) dX8_link_5 ⟨Nat.le_of_ble_eq_true rfl, Nat.le_of_ble_eq_true rfl⟩ ⟨Nat.le_of_ble_eq_true rfl, Nat.le_of_ble_eq_true rfl⟩ ?_
  refine mm_astoreR (L' := [(4, va_rf (q4.1)), (0, .ref p0), (1, .int p1), (2, .int p2), (3, .int p3)]) dX8_link_8 (by decide) rfl ?_
  refine mm_aloadR (j := 0) dX8_link_10 rfl ?_
  rcases hq5 : (q4.1) with _ | q5
  · rw [mm_nu_n hq5] at hf
    try rw [mm_rf_none]
    refine mm_ifnullN (tgt := 32) dX8_link_12 (by decide) ?_
    cases hf
    exact mm_throw cd_ok rfl rfl th_X8_66_70 (List.mem_of_getElem? (i := 9) rfl) dX8_link_32 dX8_link_35 dX8_link_36 dX8_link_38 dX8_link_41 (Nat.le_of_ble_eq_true rfl) (by simp only [List.map_cons, List.map_nil, mm_rf_cat]; exact Nat.le_of_ble_eq_true rfl) (Nat.le_of_ble_eq_true rfl) (Nat.le_of_ble_eq_true rfl) (Nat.le_of_ble_eq_true rfl) (Nat.le_of_ble_eq_true rfl)
  · rw [mm_nu_s hq5] at hf
    try rw [mm_rf_some]
    refine mm_ifnull dX8_link_12 ?_
    refine mm_iload_n (j := 3) dX8_link_15 rfl rfl ?_
    refine mm_bipush (v := 6) dX8_link_16 (by decide) ?_
    refine mm_callSi cd_ok (kX8_isOutside p2 6 _ rfl) (Or.inl tw_239) cdX8_isOutside tw_221 nmX8_isOutside rfl rfl (by simp only [List.map_cons, List.map_nil, mm_rf_cat]; exact Nat.le_of_ble_eq_true rfl) dX8_link_18 ⟨Nat.le_of_ble_eq_true rfl, Nat.le_of_ble_eq_true rfl⟩ ⟨Nat.le_of_ble_eq_true rfl, Nat.le_of_ble_eq_true rfl⟩ ?_
    refine mm_if_ne (tgt := 32) dX8_link_21 (by decide) (fun c6 => ?_) (fun c6 => ?_)
    · rw [if_neg c6] at hf
      cases hf
      exact mm_throw cd_ok rfl rfl th_X8_66_70 (List.mem_of_getElem? (i := 9) rfl) dX8_link_32 dX8_link_35 dX8_link_36 dX8_link_38 dX8_link_41 (Nat.le_of_ble_eq_true rfl) (by simp only [List.map_cons, List.map_nil, mm_rf_cat]; exact Nat.le_of_ble_eq_true rfl) (Nat.le_of_ble_eq_true rfl) (Nat.le_of_ble_eq_true rfl) (Nat.le_of_ble_eq_true rfl) (Nat.le_of_ble_eq_true rfl)
    · rw [if_pos c6] at hf
      refine mm_iload_n (j := 4) dX8_link_24 rfl rfl ?_
      refine mm_iconst (v := 3) dX8_link_25 (by decide) ?_
      refine mm_callSi cd_ok (kX8_isOutside p3 3 _ rfl) (Or.inl tw_239) cdX8_isOutside tw_221 nmX8_isOutside rfl rfl (by simp only [List.map_cons, List.map_nil, mm_rf_cat]; exact Nat.le_of_ble_eq_true rfl) dX8_link_26 ⟨Nat.le_of_ble_eq_true rfl, Nat.le_of_ble_eq_true rfl⟩ ⟨Nat.le_of_ble_eq_true rfl, Nat.le_of_ble_eq_true rfl⟩ ?_
      refine mm_if_eq (tgt := 42) dX8_link_29 (by decide) (fun c7 => ?_) (fun c7 => ?_)
      · rw [if_pos c7] at hf
        refine mm_aload (j := 0) dX8_link_42 rfl ?_
        obtain ⟨hs8, hf⟩ := mm_sh_s hf
        refine mm_get (c := 3) (k := 1) (v := va_rf (mm_R q4.2 q5 1)) cd_ok ⟨_, _, _, rfl, by decide, Or.inr ⟨_, tn_30⟩⟩ hs8 rfl dX8_link_44 ?_
        refine mm_iconst (v := 3) dX8_link_47 (by decide) ?_
        refine mm_iload_n (j := 3) dX8_link_48 rfl rfl ?_
        refine mm_imul dX8_link_49 ?_
        refine mm_iload_n (j := 4) dX8_link_50 rfl rfl ?_
        refine mm_iadd dX8_link_51 ?_
        obtain ⟨q9, hq9, hf⟩ := mm_on_s hf
        rw [hq9, mm_rf_some]
        obtain ⟨n10, hn10, hf⟩ := mm_ar_s hf
        obtain ⟨hi11, hf⟩ := mm_ib_s hf
        refine mm_iald hn10 rfl hi11 dX8_link_52 ?_
        cases hf
        refine mm_widen (ck' := rmX8_link.cells) (sk' := rmX8_link.slots) (Nat.le_of_ble_eq_true rfl) (Nat.le_of_ble_eq_true rfl) ?_
        exact mm_x (mm_iret rfl rfl dX8_link_53 ⟨_, rfl, rfl, rfl⟩)
      · rw [if_neg c7] at hf
        cases hf
        exact mm_throw cd_ok rfl rfl th_X8_66_70 (List.mem_of_getElem? (i := 9) rfl) dX8_link_32 dX8_link_35 dX8_link_36 dX8_link_38 dX8_link_41 (Nat.le_of_ble_eq_true rfl) (by simp only [List.map_cons, List.map_nil, mm_rf_cat]; exact Nat.le_of_ble_eq_true rfl) (Nat.le_of_ble_eq_true rfl) (Nat.le_of_ble_eq_true rfl) (Nat.le_of_ble_eq_true rfl) (Nat.le_of_ble_eq_true rfl)
theorem dX8_open_0 : decode cX8_open 0 = .ok (.iload_n 1, 1) := by decide +kernel
theorem dX8_open_1 : decode cX8_open 1 = .ok (.iconst 1, 1) := by decide +kernel
theorem dX8_open_2 : decode cX8_open 2 = .ok (.isub, 1) := by decide +kernel
theorem dX8_open_3 : decode cX8_open 3 = .ok (.bipush 8, 2) := by decide +kernel
theorem dX8_open_5 : decode cX8_open 5 = .ok (.invokestatic 62, 3) := by decide +kernel
theorem dX8_open_8 : decode cX8_open 8 = .ok (.ifCond .eq 13, 3) := by decide +kernel
theorem dX8_open_11 : decode cX8_open 11 = .ok (.new 66, 3) := by decide +kernel
theorem dX8_open_14 : decode cX8_open 14 = .ok (.dup, 1) := by decide +kernel
theorem dX8_open_15 : decode cX8_open 15 = .ok (.ldc 223, 2) := by decide +kernel
theorem dX8_open_17 : decode cX8_open 17 = .ok (.invokespecial 70, 3) := by decide +kernel
theorem dX8_open_20 : decode cX8_open 20 = .ok (.athrow, 1) := by decide +kernel
theorem dX8_open_21 : decode cX8_open 21 = .ok (.aload_n 0, 1) := by decide +kernel
theorem dX8_open_22 : decode cX8_open 22 = .ok (.getfield 34, 3) := by decide +kernel
theorem dX8_open_25 : decode cX8_open 25 = .ok (.iload_n 1, 1) := by decide +kernel
theorem dX8_open_26 : decode cX8_open 26 = .ok (.invokevirtual 224, 3) := by decide +kernel
theorem dX8_open_29 : decode cX8_open 29 = .ok (.ireturn, 1) := by decide +kernel
theorem nmX8_open : mm_nm yX8_open 1 := ⟨by decide, by decide, by decide +kernel⟩
theorem cdX8_open : mm_cd cd_Y yX8_open cX8_open 2 (some .int) := ⟨tw_664, tw_1⟩
abbrev rmX8_open : Room := { frames := 6, cells := 1, slots := 6, locals := 82 }
def fX8_open (p0 : Nat) (p1 : Int32) (σ : mm_M) : Option (Option Int32 × mm_M) :=
  (if (fX8_isOutside (p1 - 1) 8) = 0 then mm_sh σ p0 (.inl 8) (mm_on (mm_R σ p0 7) fun q3 => mm_sh σ q3 (.inl 6) (mm_on (fX6_placeOfOpen q3 p1 σ) fun q5 => some (some (q5.1), q5.2))) else some (none, σ))
set_option maxHeartbeats 4000000 in
set_option maxRecDepth 100000 in
theorem kX8_open {G : mm_G} {A : Nat → Prop} (p0 : Nat) (p1 : Int32) {σ : mm_M} {R : (Option Int32 × mm_M)} (hf : fX8_open p0 p1 σ = some R) : mm_CX cd_Y G yX8_open cX8_open 2 (some .int) rmX8_open A [.ref p0, .int p1] σ (mm_PX R) R.2 "java/lang/IndexOutOfBoundsException" (R.1 = none) := by
  refine mm_CX.of (by decide) (Nat.le_of_ble_eq_true rfl) ?_
  unfold fX8_open at hf
  have e0 : lv_args 0 [.ref p0, .int p1] = [(0, .ref p0), (1, .int p1)] := rfl
  rw [e0]
  clear e0
  refine mm_iload_n (j := 1) dX8_open_0 rfl rfl ?_
  refine mm_iconst (v := 1) dX8_open_1 (by decide) ?_
  refine mm_isub dX8_open_2 ?_
  refine mm_bipush (v := 8) dX8_open_3 (by decide) ?_
  refine mm_callSi cd_ok (kX8_isOutside (p1 - 1) 8 _ rfl) (Or.inl tw_239) cdX8_isOutside tw_221 nmX8_isOutside rfl rfl (by simp only [List.map_cons, List.map_nil, mm_rf_cat]; exact Nat.le_of_ble_eq_true rfl) dX8_open_5 ⟨Nat.le_of_ble_eq_true rfl, Nat.le_of_ble_eq_true rfl⟩ ⟨Nat.le_of_ble_eq_true rfl, Nat.le_of_ble_eq_true rfl⟩ ?_
  refine mm_if_eq (tgt := 21) dX8_open_8 (by decide) (fun c1 => ?_) (fun c1 => ?_)
  · rw [if_pos c1] at hf
    refine mm_aload_n (j := 0) dX8_open_21 rfl rfl ?_
    obtain ⟨hs2, hf⟩ := mm_sh_s hf
    refine mm_get (c := 8) (k := 7) (v := va_rf (mm_R σ p0 7)) cd_ok ⟨_, _, _, rfl, by decide, Or.inl tw_147⟩ hs2 rfl dX8_open_22 ?_
    refine mm_iload_n (j := 1) dX8_open_25 rfl rfl ?_
    obtain ⟨q3, hq3, hf⟩ := mm_on_s hf
    rw [hq3, mm_rf_some]
    obtain ⟨hs4, hf⟩ := mm_sh_s hf
    obtain ⟨q5, hq5, hf⟩ := mm_on_s hf
    refine mm_callVi cd_ok (kX6_placeOfOpen q3 p1 hq5) hs4 rfl (Or.inl tw_511) cdX6_placeOfOpen tw_512 tw_513 nmX6_placeOfOpen rfl rfl (by simp only [List.map_cons, List.map_nil, mm_rf_cat]; exact Nat.le_of_ble_eq_true rfl) dX8_open_26 ⟨Nat.le_of_ble_eq_true rfl, Nat.le_of_ble_eq_true rfl⟩ ⟨Nat.le_of_ble_eq_true rfl, Nat.le_of_ble_eq_true rfl⟩ ?_
    cases hf
    refine mm_widen (ck' := rmX8_open.cells) (sk' := rmX8_open.slots) (Nat.le_of_ble_eq_true rfl) (Nat.le_of_ble_eq_true rfl) ?_
    exact mm_x (mm_iret rfl rfl dX8_open_29 ⟨_, rfl, rfl, rfl⟩)
  · rw [if_neg c1] at hf
    cases hf
    exact mm_throw cd_ok rfl rfl th_X8_66_70 (List.mem_of_getElem? (i := 10) rfl) dX8_open_11 dX8_open_14 dX8_open_15 dX8_open_17 dX8_open_20 (Nat.le_of_ble_eq_true rfl) (by simp only [List.map_cons, List.map_nil, mm_rf_cat]; exact Nat.le_of_ble_eq_true rfl) (Nat.le_of_ble_eq_true rfl) (Nat.le_of_ble_eq_true rfl) (Nat.le_of_ble_eq_true rfl) (Nat.le_of_ble_eq_true rfl)
theorem dX8_mend_0 : decode cX8_mend 0 = .ok (.iload_n 0, 1) := by decide +kernel
theorem dX8_mend_1 : decode cX8_mend 1 = .ok (.sipush 163, 3) := by decide +kernel
theorem dX8_mend_4 : decode cX8_mend 4 = .ok (.invokestatic 227, 3) := by decide +kernel
theorem dX8_mend_7 : decode cX8_mend 7 = .ok (.ifCond .eq 7, 3) := by decide +kernel
theorem dX8_mend_10 : decode cX8_mend 10 = .ok (.iconst 0, 1) := by decide +kernel
theorem dX8_mend_11 : decode cX8_mend 11 = .ok (.goto 4, 3) := by decide +kernel
theorem dX8_mend_14 : decode cX8_mend 14 = .ok (.iconst 1, 1) := by decide +kernel
theorem dX8_mend_15 : decode cX8_mend 15 = .ok (.iload_n 0, 1) := by decide +kernel
theorem dX8_mend_16 : decode cX8_mend 16 = .ok (.sipush 142, 3) := by decide +kernel
theorem dX8_mend_19 : decode cX8_mend 19 = .ok (.invokestatic 227, 3) := by decide +kernel
theorem dX8_mend_22 : decode cX8_mend 22 = .ok (.ifCond .eq 7, 3) := by decide +kernel
theorem dX8_mend_25 : decode cX8_mend 25 = .ok (.iconst 0, 1) := by decide +kernel
theorem dX8_mend_26 : decode cX8_mend 26 = .ok (.goto 4, 3) := by decide +kernel
theorem dX8_mend_29 : decode cX8_mend 29 = .ok (.iconst 2, 1) := by decide +kernel
theorem dX8_mend_30 : decode cX8_mend 30 = .ok (.iadd, 1) := by decide +kernel
theorem dX8_mend_31 : decode cX8_mend 31 = .ok (.iload_n 0, 1) := by decide +kernel
theorem dX8_mend_32 : decode cX8_mend 32 = .ok (.bipush 58, 2) := by decide +kernel
theorem dX8_mend_34 : decode cX8_mend 34 = .ok (.invokestatic 227, 3) := by decide +kernel
theorem dX8_mend_37 : decode cX8_mend 37 = .ok (.ifCond .eq 7, 3) := by decide +kernel
theorem dX8_mend_40 : decode cX8_mend 40 = .ok (.iconst 0, 1) := by decide +kernel
theorem dX8_mend_41 : decode cX8_mend 41 = .ok (.goto 4, 3) := by decide +kernel
theorem dX8_mend_44 : decode cX8_mend 44 = .ok (.iconst 4, 1) := by decide +kernel
theorem dX8_mend_45 : decode cX8_mend 45 = .ok (.iadd, 1) := by decide +kernel
theorem dX8_mend_46 : decode cX8_mend 46 = .ok (.istore_n 1, 1) := by decide +kernel
theorem dX8_mend_47 : decode cX8_mend 47 = .ok (.iload_n 0, 1) := by decide +kernel
theorem dX8_mend_48 : decode cX8_mend 48 = .ok (.sipush 255, 3) := by decide +kernel
theorem dX8_mend_51 : decode cX8_mend 51 = .ok (.invokestatic 227, 3) := by decide +kernel
theorem dX8_mend_54 : decode cX8_mend 54 = .ok (.ifCond .ne 17, 3) := by decide +kernel
theorem dX8_mend_57 : decode cX8_mend 57 = .ok (.bipush 16, 2) := by decide +kernel
theorem dX8_mend_59 : decode cX8_mend 59 = .ok (.iload_n 0, 1) := by decide +kernel
theorem dX8_mend_60 : decode cX8_mend 60 = .ok (.getstatic 230, 3) := by decide +kernel
theorem dX8_mend_63 : decode cX8_mend 63 = .ok (.iload_n 1, 1) := by decide +kernel
theorem dX8_mend_64 : decode cX8_mend 64 = .ok (.iaload, 1) := by decide +kernel
theorem dX8_mend_65 : decode cX8_mend 65 = .ok (.ixor, 1) := by decide +kernel
theorem dX8_mend_66 : decode cX8_mend 66 = .ok (.invokestatic 233, 3) := by decide +kernel
theorem dX8_mend_69 : decode cX8_mend 69 = .ok (.iadd, 1) := by decide +kernel
theorem dX8_mend_70 : decode cX8_mend 70 = .ok (.ireturn, 1) := by decide +kernel
theorem dX8_mend_71 : decode cX8_mend 71 = .ok (.iload_n 1, 1) := by decide +kernel
theorem dX8_mend_72 : decode cX8_mend 72 = .ok (.ifCond .ne 10, 3) := by decide +kernel
theorem dX8_mend_75 : decode cX8_mend 75 = .ok (.iload_n 0, 1) := by decide +kernel
theorem dX8_mend_76 : decode cX8_mend 76 = .ok (.invokestatic 233, 3) := by decide +kernel
theorem dX8_mend_79 : decode cX8_mend 79 = .ok (.goto 4, 3) := by decide +kernel
theorem dX8_mend_82 : decode cX8_mend 82 = .ok (.iconst (-1), 1) := by decide +kernel
theorem dX8_mend_83 : decode cX8_mend 83 = .ok (.ireturn, 1) := by decide +kernel
theorem nmX8_mend : mm_nm yX8_mend 1 := ⟨by decide, by decide, by decide +kernel⟩
theorem cdX8_mend : mm_cd cd_Y yX8_mend cX8_mend 2 (some .int) := ⟨tw_189, tw_1⟩
abbrev rmX8_mend : Room := { frames := 2, cells := 0, slots := 0, locals := 41 }
def fX8_mend_45  (x0 : Int32) (y0 : Int32) (y1 : Int32) (σ : mm_M) : Option (Int32 × mm_M) :=
  (if (fX8_isOdd x0 255) = 0 then mm_ib (y1 + y0) 8 (some (16 + (fX8_guardedValue (x0 ^^^ (([64, 1, 4, 128, 16, 32, 8, 2] : List Int32).getD (y1 + y0).toNatClampNeg 0))), σ)) else (if (y1 + y0) = 0 then some (fX8_guardedValue x0, σ) else some ((-1), σ)))
def fX8_mend_30  (x0 : Int32) (y0 : Int32) (y1 : Int32) (σ : mm_M) : Option (Int32 × mm_M) :=
  (if (fX8_isOdd x0 58) = 0 then (fX8_mend_45  x0 4 (y1 + y0) σ) else (fX8_mend_45  x0 0 (y1 + y0) σ))
def fX8_mend_15  (x0 : Int32) (y0 : Int32) (σ : mm_M) : Option (Int32 × mm_M) :=
  (if (fX8_isOdd x0 142) = 0 then (fX8_mend_30  x0 2 y0 σ) else (fX8_mend_30  x0 0 y0 σ))
def fX8_mend (p0 : Int32) (σ : mm_M) : Option (Int32 × mm_M) :=
  (if (fX8_isOdd p0 163) = 0 then (fX8_mend_15  p0 1 σ) else (fX8_mend_15  p0 0 σ))
set_option maxHeartbeats 4000000 in
set_option maxRecDepth 100000 in
theorem kX8_mend_45 {G : mm_G} {A : Nat → Prop} {ini : Bool × Option (List (Nat × Nat × Nat × Nat))}  {R : (Int32 × mm_M)}  (x0 : Int32) (y0 : Int32) (y1 : Int32) (σ : mm_M) (hf : fX8_mend_45  x0 y0 y1 σ = some R) : mm_J cd_Y G RX8 cX8_mend 2 (some .int) ini rmX8_mend A (mm_QF cd_Y G A (mm_Pi R.1 R.2) rmX8_mend.cells rmX8_mend.slots) 45 [(0, .int x0)] [.int y0, .int y1] σ 0 0 := by
  unfold fX8_mend_45 at hf
  refine mm_iadd dX8_mend_45 ?_
  refine mm_istore_n (L' := [(1, .int (y1 + y0)), (0, .int x0)]) dX8_mend_46 rfl (by decide) rfl ?_
  refine mm_iload_n (j := 1) dX8_mend_47 rfl rfl ?_
  refine mm_sipush (v := 255) dX8_mend_48 (by decide) ?_
  refine mm_callSi cd_ok (kX8_isOdd x0 255 _ rfl) (Or.inl tw_190) cdX8_isOdd tw_191 nmX8_isOdd rfl rfl (by simp only [List.map_cons, List.map_nil, mm_rf_cat]; exact Nat.le_of_ble_eq_true rfl) dX8_mend_51 ⟨Nat.le_of_ble_eq_true rfl, Nat.le_of_ble_eq_true rfl⟩ ⟨Nat.le_of_ble_eq_true rfl, Nat.le_of_ble_eq_true rfl⟩ ?_
  refine mm_if_ne (tgt := 71) dX8_mend_54 (by decide) (fun c4 => ?_) (fun c4 => ?_)
  · rw [if_neg c4] at hf
    refine mm_iload_n (j := 0) dX8_mend_71 rfl rfl ?_
    refine mm_if_ne (tgt := 82) dX8_mend_72 (by decide) (fun c5 => ?_) (fun c5 => ?_)
    · rw [if_neg c5] at hf
      refine mm_iconst (v := (-1)) dX8_mend_82 (by decide) ?_
      cases hf
      refine mm_widen (ck' := rmX8_mend.cells) (sk' := rmX8_mend.slots) (Nat.le_of_ble_eq_true rfl) (Nat.le_of_ble_eq_true rfl) ?_
      exact mm_iret rfl rfl dX8_mend_83 ⟨rfl, rfl⟩
    · rw [if_pos c5] at hf
      refine mm_iload_n (j := 1) dX8_mend_75 rfl rfl ?_
      refine mm_callSi cd_ok (kX8_guardedValue x0 _ rfl) (Or.inl tw_201) cdX8_guardedValue tw_202 nmX8_guardedValue rfl rfl (by simp only [List.map_cons, List.map_nil, mm_rf_cat]; exact Nat.le_of_ble_eq_true rfl) dX8_mend_76 ⟨Nat.le_of_ble_eq_true rfl, Nat.le_of_ble_eq_true rfl⟩ ⟨Nat.le_of_ble_eq_true rfl, Nat.le_of_ble_eq_true rfl⟩ ?_
      refine mm_goto (tgt := 83) dX8_mend_79 (by decide) ?_
      cases hf
      refine mm_widen (ck' := rmX8_mend.cells) (sk' := rmX8_mend.slots) (Nat.le_of_ble_eq_true rfl) (Nat.le_of_ble_eq_true rfl) ?_
      exact mm_iret rfl rfl dX8_mend_83 ⟨rfl, rfl⟩
  · rw [if_pos c4] at hf
    refine mm_bipush (v := 16) dX8_mend_57 (by decide) ?_
    refine mm_iload_n (j := 1) dX8_mend_59 rfl rfl ?_
    refine mm_gets (Y := cd_Y) (k := 1) rfl (Or.inl tw_199) dX8_mend_60 ?_
    refine mm_iload_n (j := 0) dX8_mend_63 rfl rfl ?_
    obtain ⟨hi6, hf⟩ := mm_ib_s hf
    refine mm_sald (Y := cd_Y) (k := 1) rfl hi6 dX8_mend_64 ?_
    refine mm_ixor dX8_mend_65 ?_
    refine mm_callSi cd_ok (kX8_guardedValue (x0 ^^^ (([64, 1, 4, 128, 16, 32, 8, 2] : List Int32).getD (y1 + y0).toNatClampNeg 0)) _ rfl) (Or.inl tw_201) cdX8_guardedValue tw_202 nmX8_guardedValue rfl rfl (by simp only [List.map_cons, List.map_nil, mm_rf_cat]; exact Nat.le_of_ble_eq_true rfl) dX8_mend_66 ⟨Nat.le_of_ble_eq_true rfl, Nat.le_of_ble_eq_true rfl⟩ ⟨Nat.le_of_ble_eq_true rfl, Nat.le_of_ble_eq_true rfl⟩ ?_
    refine mm_iadd dX8_mend_69 ?_
    cases hf
    refine mm_widen (ck' := rmX8_mend.cells) (sk' := rmX8_mend.slots) (Nat.le_of_ble_eq_true rfl) (Nat.le_of_ble_eq_true rfl) ?_
    exact mm_iret rfl rfl dX8_mend_70 ⟨rfl, rfl⟩
set_option maxHeartbeats 4000000 in
set_option maxRecDepth 100000 in
theorem kX8_mend_30 {G : mm_G} {A : Nat → Prop} {ini : Bool × Option (List (Nat × Nat × Nat × Nat))}  {R : (Int32 × mm_M)}  (x0 : Int32) (y0 : Int32) (y1 : Int32) (σ : mm_M) (hf : fX8_mend_30  x0 y0 y1 σ = some R) : mm_J cd_Y G RX8 cX8_mend 2 (some .int) ini rmX8_mend A (mm_QF cd_Y G A (mm_Pi R.1 R.2) rmX8_mend.cells rmX8_mend.slots) 30 [(0, .int x0)] [.int y0, .int y1] σ 0 0 := by
  unfold fX8_mend_30 at hf
  refine mm_iadd dX8_mend_30 ?_
  refine mm_iload_n (j := 0) dX8_mend_31 rfl rfl ?_
  refine mm_bipush (v := 58) dX8_mend_32 (by decide) ?_
  refine mm_callSi cd_ok (kX8_isOdd x0 58 _ rfl) (Or.inl tw_190) cdX8_isOdd tw_191 nmX8_isOdd rfl rfl (by simp only [List.map_cons, List.map_nil, mm_rf_cat]; exact Nat.le_of_ble_eq_true rfl) dX8_mend_34 ⟨Nat.le_of_ble_eq_true rfl, Nat.le_of_ble_eq_true rfl⟩ ⟨Nat.le_of_ble_eq_true rfl, Nat.le_of_ble_eq_true rfl⟩ ?_
  refine mm_if_eq (tgt := 44) dX8_mend_37 (by decide) (fun c3 => ?_) (fun c3 => ?_)
  · rw [if_pos c3] at hf
    refine mm_iconst (v := 4) dX8_mend_44 (by decide) ?_
    refine mm_sub [0] rfl ?_
    exact kX8_mend_45  x0 4 (y1 + y0) σ hf
  · rw [if_neg c3] at hf
    refine mm_iconst (v := 0) dX8_mend_40 (by decide) ?_
    refine mm_goto (tgt := 45) dX8_mend_41 (by decide) ?_
    refine mm_sub [0] rfl ?_
    exact kX8_mend_45  x0 0 (y1 + y0) σ hf
set_option maxHeartbeats 4000000 in
set_option maxRecDepth 100000 in
theorem kX8_mend_15 {G : mm_G} {A : Nat → Prop} {ini : Bool × Option (List (Nat × Nat × Nat × Nat))}  {R : (Int32 × mm_M)}  (x0 : Int32) (y0 : Int32) (σ : mm_M) (hf : fX8_mend_15  x0 y0 σ = some R) : mm_J cd_Y G RX8 cX8_mend 2 (some .int) ini rmX8_mend A (mm_QF cd_Y G A (mm_Pi R.1 R.2) rmX8_mend.cells rmX8_mend.slots) 15 [(0, .int x0)] [.int y0] σ 0 0 := by
  unfold fX8_mend_15 at hf
  refine mm_iload_n (j := 0) dX8_mend_15 rfl rfl ?_
  refine mm_sipush (v := 142) dX8_mend_16 (by decide) ?_
  refine mm_callSi cd_ok (kX8_isOdd x0 142 _ rfl) (Or.inl tw_190) cdX8_isOdd tw_191 nmX8_isOdd rfl rfl (by simp only [List.map_cons, List.map_nil, mm_rf_cat]; exact Nat.le_of_ble_eq_true rfl) dX8_mend_19 ⟨Nat.le_of_ble_eq_true rfl, Nat.le_of_ble_eq_true rfl⟩ ⟨Nat.le_of_ble_eq_true rfl, Nat.le_of_ble_eq_true rfl⟩ ?_
  refine mm_if_eq (tgt := 29) dX8_mend_22 (by decide) (fun c2 => ?_) (fun c2 => ?_)
  · rw [if_pos c2] at hf
    refine mm_iconst (v := 2) dX8_mend_29 (by decide) ?_
    refine mm_sub [0] rfl ?_
    exact kX8_mend_30  x0 2 y0 σ hf
  · rw [if_neg c2] at hf
    refine mm_iconst (v := 0) dX8_mend_25 (by decide) ?_
    refine mm_goto (tgt := 30) dX8_mend_26 (by decide) ?_
    refine mm_sub [0] rfl ?_
    exact kX8_mend_30  x0 0 y0 σ hf
set_option maxHeartbeats 4000000 in
set_option maxRecDepth 100000 in
theorem kX8_mend {G : mm_G} {A : Nat → Prop} (p0 : Int32) {σ : mm_M} {R : (Int32 × mm_M)} (hf : fX8_mend p0 σ = some R) : mm_C cd_Y G yX8_mend cX8_mend 2 (some .int) rmX8_mend A [.int p0] σ (mm_Pi R.1 R.2) := by
  refine mm_C.of (by decide) (Nat.le_of_ble_eq_true rfl) ?_
  unfold fX8_mend at hf
  have e0 : lv_args 0 [.int p0] = [(0, .int p0)] := rfl
  rw [e0]
  generalize hini : ((yX8_mend.name == "<init>"), none) = ini
  clear e0
  clear hini
  refine mm_iload_n (j := 0) dX8_mend_0 rfl rfl ?_
  refine mm_sipush (v := 163) dX8_mend_1 (by decide) ?_
  refine mm_callSi cd_ok (kX8_isOdd p0 163 _ rfl) (Or.inl tw_190) cdX8_isOdd tw_191 nmX8_isOdd rfl rfl (by simp only [List.map_cons, List.map_nil, mm_rf_cat]; exact Nat.le_of_ble_eq_true rfl) dX8_mend_4 ⟨Nat.le_of_ble_eq_true rfl, Nat.le_of_ble_eq_true rfl⟩ ⟨Nat.le_of_ble_eq_true rfl, Nat.le_of_ble_eq_true rfl⟩ ?_
  refine mm_if_eq (tgt := 14) dX8_mend_7 (by decide) (fun c1 => ?_) (fun c1 => ?_)
  · rw [if_pos c1] at hf
    refine mm_iconst (v := 1) dX8_mend_14 (by decide) ?_
    refine mm_sub [0] rfl ?_
    exact kX8_mend_15  p0 1 σ hf
  · rw [if_neg c1] at hf
    refine mm_iconst (v := 0) dX8_mend_10 (by decide) ?_
    refine mm_goto (tgt := 15) dX8_mend_11 (by decide) ?_
    refine mm_sub [0] rfl ?_
    exact kX8_mend_15  p0 0 σ hf
theorem dX8_valueAt_0 : decode cX8_valueAt 0 = .ok (.iload_n 1, 1) := by decide +kernel
theorem dX8_valueAt_1 : decode cX8_valueAt 1 = .ok (.bipush 42, 2) := by decide +kernel
theorem dX8_valueAt_3 : decode cX8_valueAt 3 = .ok (.invokestatic 62, 3) := by decide +kernel
theorem dX8_valueAt_6 : decode cX8_valueAt 6 = .ok (.ifCond .eq 5, 3) := by decide +kernel
theorem dX8_valueAt_9 : decode cX8_valueAt 9 = .ok (.iconst (-1), 1) := by decide +kernel
theorem dX8_valueAt_10 : decode cX8_valueAt 10 = .ok (.ireturn, 1) := by decide +kernel
theorem dX8_valueAt_11 : decode cX8_valueAt 11 = .ok (.aload_n 0, 1) := by decide +kernel
theorem dX8_valueAt_12 : decode cX8_valueAt 12 = .ok (.getfield 22, 3) := by decide +kernel
theorem dX8_valueAt_15 : decode cX8_valueAt 15 = .ok (.iload_n 1, 1) := by decide +kernel
theorem dX8_valueAt_16 : decode cX8_valueAt 16 = .ok (.iaload, 1) := by decide +kernel
theorem dX8_valueAt_17 : decode cX8_valueAt 17 = .ok (.invokestatic 144, 3) := by decide +kernel
theorem dX8_valueAt_20 : decode cX8_valueAt 20 = .ok (.istore_n 2, 1) := by decide +kernel
theorem dX8_valueAt_21 : decode cX8_valueAt 21 = .ok (.iload_n 2, 1) := by decide +kernel
theorem dX8_valueAt_22 : decode cX8_valueAt 22 = .ok (.iconst (-1), 1) := by decide +kernel
theorem dX8_valueAt_23 : decode cX8_valueAt 23 = .ok (.if_icmp .ne 7, 3) := by decide +kernel
theorem dX8_valueAt_26 : decode cX8_valueAt 26 = .ok (.iconst (-1), 1) := by decide +kernel
theorem dX8_valueAt_27 : decode cX8_valueAt 27 = .ok (.goto 7, 3) := by decide +kernel
theorem dX8_valueAt_30 : decode cX8_valueAt 30 = .ok (.iload_n 2, 1) := by decide +kernel
theorem dX8_valueAt_31 : decode cX8_valueAt 31 = .ok (.bipush 15, 2) := by decide +kernel
theorem dX8_valueAt_33 : decode cX8_valueAt 33 = .ok (.iand, 1) := by decide +kernel
theorem dX8_valueAt_34 : decode cX8_valueAt 34 = .ok (.ireturn, 1) := by decide +kernel
theorem nmX8_valueAt : mm_nm yX8_valueAt 1 := ⟨by decide, by decide, by decide +kernel⟩
theorem cdX8_valueAt : mm_cd cd_Y yX8_valueAt cX8_valueAt 3 (some .int) := ⟨tw_491, tw_1⟩
abbrev rmX8_valueAt : Room := { frames := 3, cells := 0, slots := 0, locals := 62 }
def fX8_valueAt (p0 : Nat) (p1 : Int32) (σ : mm_M) : Option (Int32 × mm_M) :=
  (if (fX8_isOutside p1 42) = 0 then mm_sh σ p0 (.inl 8) (mm_on (mm_R σ p0 3) fun q3 => mm_ar σ q3 0 fun n4 => mm_ib p1 n4 (mm_on (fX8_mend (mm_I σ q3 p1.toNatClampNeg) σ) fun q6 => (if q6.1 = (-1) then some ((-1), q6.2) else some (q6.1 &&& 15, q6.2)))) else some ((-1), σ))
set_option maxHeartbeats 4000000 in
set_option maxRecDepth 100000 in
theorem kX8_valueAt {G : mm_G} {A : Nat → Prop} (p0 : Nat) (p1 : Int32) {σ : mm_M} {R : (Int32 × mm_M)} (hf : fX8_valueAt p0 p1 σ = some R) : mm_C cd_Y G yX8_valueAt cX8_valueAt 3 (some .int) rmX8_valueAt A [.ref p0, .int p1] σ (mm_Pi R.1 R.2) := by
  refine mm_C.of (by decide) (Nat.le_of_ble_eq_true rfl) ?_
  unfold fX8_valueAt at hf
  have e0 : lv_args 0 [.ref p0, .int p1] = [(0, .ref p0), (1, .int p1)] := rfl
  rw [e0]
  generalize hini : ((yX8_valueAt.name == "<init>"), none) = ini
  clear e0
  clear hini
  refine mm_iload_n (j := 1) dX8_valueAt_0 rfl rfl ?_
  refine mm_bipush (v := 42) dX8_valueAt_1 (by decide) ?_
  refine mm_callSi cd_ok (kX8_isOutside p1 42 _ rfl) (Or.inl tw_239) cdX8_isOutside tw_221 nmX8_isOutside rfl rfl (by simp only [List.map_cons, List.map_nil, mm_rf_cat]; exact Nat.le_of_ble_eq_true rfl) dX8_valueAt_3 ⟨Nat.le_of_ble_eq_true rfl, Nat.le_of_ble_eq_true rfl⟩ ⟨Nat.le_of_ble_eq_true rfl, Nat.le_of_ble_eq_true rfl⟩ ?_
  refine mm_if_eq (tgt := 11) dX8_valueAt_6 (by decide) (fun c1 => ?_) (fun c1 => ?_)
  · rw [if_pos c1] at hf
    refine mm_aload_n (j := 0) dX8_valueAt_11 rfl rfl ?_
    obtain ⟨hs2, hf⟩ := mm_sh_s hf
    refine mm_get (c := 8) (k := 3) (v := va_rf (mm_R σ p0 3)) cd_ok ⟨_, _, _, rfl, by decide, Or.inl tw_143⟩ hs2 rfl dX8_valueAt_12 ?_
    refine mm_iload_n (j := 1) dX8_valueAt_15 rfl rfl ?_
    obtain ⟨q3, hq3, hf⟩ := mm_on_s hf
    rw [hq3, mm_rf_some]
    obtain ⟨n4, hn4, hf⟩ := mm_ar_s hf
    obtain ⟨hi5, hf⟩ := mm_ib_s hf
    refine mm_iald hn4 rfl hi5 dX8_valueAt_16 ?_
    obtain ⟨q6, hq6, hf⟩ := mm_on_s hf
    refine mm_callSi cd_ok (kX8_mend (mm_I σ q3 p1.toNatClampNeg) hq6) (Or.inl tw_187) cdX8_mend tw_188 nmX8_mend rfl rfl (by simp only [List.map_cons, List.map_nil, mm_rf_cat]; exact Nat.le_of_ble_eq_true rfl) dX8_valueAt_17 ⟨Nat.le_of_ble_eq_true rfl, Nat.le_of_ble_eq_true rfl⟩ ⟨Nat.le_of_ble_eq_true rfl, Nat.le_of_ble_eq_true rfl⟩ ?_
    refine mm_istore_n (L' := [(2, .int q6.1), (0, .ref p0), (1, .int p1)]) dX8_valueAt_20 rfl (by decide) rfl ?_
    refine mm_iload_n (j := 0) dX8_valueAt_21 rfl rfl ?_
    refine mm_iconst (v := (-1)) dX8_valueAt_22 (by decide) ?_
    refine mm_icmp_ne (tgt := 30) dX8_valueAt_23 (by decide) (fun c7 => ?_) (fun c7 => ?_)
    · rw [if_neg c7] at hf
      refine mm_iload_n (j := 0) dX8_valueAt_30 rfl rfl ?_
      refine mm_bipush (v := 15) dX8_valueAt_31 (by decide) ?_
      refine mm_iand dX8_valueAt_33 ?_
      cases hf
      refine mm_widen (ck' := rmX8_valueAt.cells) (sk' := rmX8_valueAt.slots) (Nat.le_of_ble_eq_true rfl) (Nat.le_of_ble_eq_true rfl) ?_
      exact mm_iret rfl rfl dX8_valueAt_34 ⟨rfl, rfl⟩
    · rw [if_pos c7] at hf
      refine mm_iconst (v := (-1)) dX8_valueAt_26 (by decide) ?_
      refine mm_goto (tgt := 34) dX8_valueAt_27 (by decide) ?_
      cases hf
      refine mm_widen (ck' := rmX8_valueAt.cells) (sk' := rmX8_valueAt.slots) (Nat.le_of_ble_eq_true rfl) (Nat.le_of_ble_eq_true rfl) ?_
      exact mm_iret rfl rfl dX8_valueAt_34 ⟨rfl, rfl⟩
  · rw [if_neg c1] at hf
    refine mm_iconst (v := (-1)) dX8_valueAt_9 (by decide) ?_
    cases hf
    refine mm_widen (ck' := rmX8_valueAt.cells) (sk' := rmX8_valueAt.slots) (Nat.le_of_ble_eq_true rfl) (Nat.le_of_ble_eq_true rfl) ?_
    exact mm_iret rfl rfl dX8_valueAt_10 ⟨rfl, rfl⟩
theorem dX8_closePage_0 : decode cX8_closePage 0 = .ok (.aload_n 0, 1) := by decide +kernel
theorem dX8_closePage_1 : decode cX8_closePage 1 = .ok (.getfield 34, 3) := by decide +kernel
theorem dX8_closePage_4 : decode cX8_closePage 4 = .ok (.aload_n 0, 1) := by decide +kernel
theorem dX8_closePage_5 : decode cX8_closePage 5 = .ok (.getfield 34, 3) := by decide +kernel
theorem dX8_closePage_8 : decode cX8_closePage 8 = .ok (.iload_n 1, 1) := by decide +kernel
theorem dX8_closePage_9 : decode cX8_closePage 9 = .ok (.invokevirtual 224, 3) := by decide +kernel
theorem dX8_closePage_12 : decode cX8_closePage 12 = .ok (.invokevirtual 177, 3) := by decide +kernel
theorem dX8_closePage_15 : decode cX8_closePage 15 = .ok (.astore_n 2, 1) := by decide +kernel
theorem dX8_closePage_16 : decode cX8_closePage 16 = .ok (.aload_n 2, 1) := by decide +kernel
theorem dX8_closePage_17 : decode cX8_closePage 17 = .ok (.ifnonnull 4, 3) := by decide +kernel
theorem dX8_closePage_20 : decode cX8_closePage 20 = .ok (.return_, 1) := by decide +kernel
theorem dX8_closePage_21 : decode cX8_closePage 21 = .ok (.aload_n 2, 1) := by decide +kernel
theorem dX8_closePage_22 : decode cX8_closePage 22 = .ok (.iconst 0, 1) := by decide +kernel
theorem dX8_closePage_23 : decode cX8_closePage 23 = .ok (.putfield 197, 3) := by decide +kernel
theorem dX8_closePage_26 : decode cX8_closePage 26 = .ok (.aload_n 2, 1) := by decide +kernel
theorem dX8_closePage_27 : decode cX8_closePage 27 = .ok (.dup, 1) := by decide +kernel
theorem dX8_closePage_28 : decode cX8_closePage 28 = .ok (.getfield 201, 3) := by decide +kernel
theorem dX8_closePage_31 : decode cX8_closePage 31 = .ok (.iconst 1, 1) := by decide +kernel
theorem dX8_closePage_32 : decode cX8_closePage 32 = .ok (.iadd, 1) := by decide +kernel
theorem dX8_closePage_33 : decode cX8_closePage 33 = .ok (.putfield 201, 3) := by decide +kernel
theorem dX8_closePage_36 : decode cX8_closePage 36 = .ok (.aload_n 0, 1) := by decide +kernel
theorem dX8_closePage_37 : decode cX8_closePage 37 = .ok (.getfield 41, 3) := by decide +kernel
theorem dX8_closePage_40 : decode cX8_closePage 40 = .ok (.aload_n 2, 1) := by decide +kernel
theorem dX8_closePage_41 : decode cX8_closePage 41 = .ok (.invokevirtual 265, 3) := by decide +kernel
theorem dX8_closePage_44 : decode cX8_closePage 44 = .ok (.return_, 1) := by decide +kernel
theorem nmX8_closePage : mm_nm yX8_closePage 1 := ⟨by decide, by decide, by decide +kernel⟩
theorem cdX8_closePage : mm_cd cd_Y yX8_closePage cX8_closePage 3 none := ⟨tw_510, tw_1⟩
abbrev rmX8_closePage : Room := { frames := 3, cells := 0, slots := 0, locals := 65 }
def fX8_closePage (p0 : Nat) (p1 : Int32) (σ : mm_M) : Option mm_M :=
  mm_sh σ p0 (.inl 8) (mm_on (mm_R σ p0 7) fun q2 => mm_sh σ q2 (.inl 6) (mm_on (fX6_placeOfOpen q2 p1 σ) fun q4 => mm_sh q4.2 q2 (.inl 6) (mm_on (fX6_pageAt q2 q4.1 q4.2) fun q6 => (mm_nu (q6.1) (some (q6.2)) fun q7 => mm_sh q6.2 q7 (.inl 3) (mm_let (mm_wI q6.2 q7 6 0) fun s9 => mm_let (mm_wI s9 q7 7 ((mm_I s9 q7 7) + 1)) fun s10 => mm_sh s10 p0 (.inl 8) (mm_on (mm_R s10 p0 8) fun q12 => mm_sh s10 q12 (.inl 7) (mm_on (fX7_see q12 q7 s10) fun q14 => some (q14))))))))
set_option maxHeartbeats 4000000 in
set_option maxRecDepth 100000 in
theorem kX8_closePage {G : mm_G} {A : Nat → Prop} (p0 : Nat) (p1 : Int32) {σ : mm_M} {R : mm_M} (hf : fX8_closePage p0 p1 σ = some R) : mm_C cd_Y G yX8_closePage cX8_closePage 3 none rmX8_closePage A [.ref p0, .int p1] σ (mm_Pv R) := by
  refine mm_C.of (by decide) (Nat.le_of_ble_eq_true rfl) ?_
  unfold fX8_closePage at hf
  have e0 : lv_args 0 [.ref p0, .int p1] = [(0, .ref p0), (1, .int p1)] := rfl
  rw [e0]
  generalize hini : ((yX8_closePage.name == "<init>"), none) = ini
  clear e0
  clear hini
  refine mm_aload_n (j := 0) dX8_closePage_0 rfl rfl ?_
  obtain ⟨hs1, hf⟩ := mm_sh_s hf
  refine mm_get (c := 8) (k := 7) (v := va_rf (mm_R σ p0 7)) cd_ok ⟨_, _, _, rfl, by decide, Or.inl tw_147⟩ hs1 rfl dX8_closePage_1 ?_
  refine mm_aload_n (j := 0) dX8_closePage_4 rfl rfl ?_
  refine mm_get (c := 8) (k := 7) (v := va_rf (mm_R σ p0 7)) cd_ok ⟨_, _, _, rfl, by decide, Or.inl tw_147⟩ hs1 rfl dX8_closePage_5 ?_
  refine mm_iload_n (j := 1) dX8_closePage_8 rfl rfl ?_
  obtain ⟨q2, hq2, hf⟩ := mm_on_s hf
  rw [hq2, mm_rf_some]
  obtain ⟨hs3, hf⟩ := mm_sh_s hf
  obtain ⟨q4, hq4, hf⟩ := mm_on_s hf
  refine mm_callVi cd_ok (kX6_placeOfOpen q2 p1 hq4) hs3 rfl (Or.inl tw_511) cdX6_placeOfOpen tw_512 tw_513 nmX6_placeOfOpen rfl rfl (by simp only [List.map_cons, List.map_nil, mm_rf_cat]; exact Nat.le_of_ble_eq_true rfl) dX8_closePage_9 ⟨Nat.le_of_ble_eq_true rfl, Nat.le_of_ble_eq_true rfl⟩ ⟨Nat.le_of_ble_eq_true rfl, Nat.le_of_ble_eq_true rfl⟩ ?_
  obtain ⟨hs5, hf⟩ := mm_sh_s hf
  obtain ⟨q6, hq6, hf⟩ := mm_on_s hf
  refine mm_callVo cd_ok (kX6_pageAt q2 q4.1 hq6) hs5 rfl (Or.inl tw_515) cdX6_pageAt tw_217 tw_218 nmX6_pageAt rfl rfl (by simp only [List.map_cons, List.map_nil, mm_rf_cat]; exact Nat.le_of_ble_eq_true rfl) dX8_closePage_12 ⟨Nat.le_of_ble_eq_true rfl, Nat.le_of_ble_eq_true rfl⟩ ⟨Nat.le_of_ble_eq_true rfl, Nat.le_of_ble_eq_true rfl⟩ ?_
  refine mm_astore_nR (L' := [(2, va_rf (q6.1)), (0, .ref p0), (1, .int p1)]) dX8_closePage_15 rfl (by decide) rfl ?_
  refine mm_aload_nR (j := 0) dX8_closePage_16 rfl rfl ?_
  rcases hq7 : (q6.1) with _ | q7
  · rw [mm_nu_n hq7] at hf
    try rw [mm_rf_none]
    refine mm_ifnonnullN dX8_closePage_17 ?_
    cases hf
    refine mm_widen (ck' := rmX8_closePage.cells) (sk' := rmX8_closePage.slots) (Nat.le_of_ble_eq_true rfl) (Nat.le_of_ble_eq_true rfl) ?_
    exact mm_vret rfl dX8_closePage_20 ⟨rfl, rfl⟩
  · rw [mm_nu_s hq7] at hf
    try rw [mm_rf_some]
    refine mm_ifnonnull (tgt := 21) dX8_closePage_17 (by decide) ?_
    refine mm_aload_n (j := 0) dX8_closePage_21 rfl rfl ?_
    refine mm_iconst (v := 0) dX8_closePage_22 (by decide) ?_
    obtain ⟨hs8, hf⟩ := mm_sh_s hf
    refine mm_putI (c := 3) (k := 6) cd_ok ⟨_, _, _, rfl, by decide, rfl, Or.inr ⟨_, tn_37⟩⟩ hs8 rfl rfl rfl dX8_closePage_23 ?_
    obtain ⟨s9, hs9, hf⟩ := mm_let_s hf
    rw [hs9]
    refine mm_aload_n (j := 0) dX8_closePage_26 rfl rfl ?_
    refine mm_dup dX8_closePage_27 rfl ?_
    refine mm_get (c := 3) (k := 7) (v := .int (mm_I s9 q7 7)) cd_ok ⟨_, _, _, rfl, by decide, Or.inr ⟨_, tn_38⟩⟩ (mm_ke hs9 hs8) rfl dX8_closePage_28 ?_
    refine mm_iconst (v := 1) dX8_closePage_31 (by decide) ?_
    refine mm_iadd dX8_closePage_32 ?_
    refine mm_putI (c := 3) (k := 7) cd_ok ⟨_, _, _, rfl, by decide, rfl, Or.inr ⟨_, tn_38⟩⟩ (mm_ke hs9 hs8) rfl rfl rfl dX8_closePage_33 ?_
    obtain ⟨s10, hs10, hf⟩ := mm_let_s hf
    rw [hs10]
    refine mm_aload_n (j := 1) dX8_closePage_36 rfl rfl ?_
    obtain ⟨hs11, hf⟩ := mm_sh_s hf
    refine mm_get (c := 8) (k := 8) (v := va_rf (mm_R s10 p0 8)) cd_ok ⟨_, _, _, rfl, by decide, Or.inl tw_148⟩ hs11 rfl dX8_closePage_37 ?_
    refine mm_aload_n (j := 0) dX8_closePage_40 rfl rfl ?_
    obtain ⟨q12, hq12, hf⟩ := mm_on_s hf
    rw [hq12, mm_rf_some]
    obtain ⟨hs13, hf⟩ := mm_sh_s hf
    obtain ⟨q14, hq14, hf⟩ := mm_on_s hf
    refine mm_callVv cd_ok (kX7_see q12 q7 hq14) hs13 rfl (Or.inl tw_516) cdX7_see tw_517 tw_518 nmX7_see rfl rfl (by simp only [List.map_cons, List.map_nil, mm_rf_cat]; exact Nat.le_of_ble_eq_true rfl) dX8_closePage_41 ⟨Nat.le_of_ble_eq_true rfl, Nat.le_of_ble_eq_true rfl⟩ ⟨Nat.le_of_ble_eq_true rfl, Nat.le_of_ble_eq_true rfl⟩ ?_
    cases hf
    refine mm_widen (ck' := rmX8_closePage.cells) (sk' := rmX8_closePage.slots) (Nat.le_of_ble_eq_true rfl) (Nat.le_of_ble_eq_true rfl) ?_
    exact mm_vret rfl dX8_closePage_44 ⟨rfl, rfl⟩
theorem dX8_readValues_0 : decode cX8_readValues 0 = .ok (.iconst 0, 1) := by decide +kernel
theorem dX8_readValues_1 : decode cX8_readValues 1 = .ok (.istore_n 3, 1) := by decide +kernel
theorem dX8_readValues_2 : decode cX8_readValues 2 = .ok (.iload_n 3, 1) := by decide +kernel
theorem dX8_readValues_3 : decode cX8_readValues 3 = .ok (.iload_n 2, 1) := by decide +kernel
theorem dX8_readValues_4 : decode cX8_readValues 4 = .ok (.if_icmp .ge 43, 3) := by decide +kernel
theorem dX8_readValues_7 : decode cX8_readValues 7 = .ok (.iload_n 3, 1) := by decide +kernel
theorem dX8_readValues_8 : decode cX8_readValues 8 = .ok (.aload_n 0, 1) := by decide +kernel
theorem dX8_readValues_9 : decode cX8_readValues 9 = .ok (.getfield 25, 3) := by decide +kernel
theorem dX8_readValues_12 : decode cX8_readValues 12 = .ok (.arraylength, 1) := by decide +kernel
theorem dX8_readValues_13 : decode cX8_readValues 13 = .ok (.if_icmp .ge 34, 3) := by decide +kernel
theorem dX8_readValues_16 : decode cX8_readValues 16 = .ok (.aload_n 0, 1) := by decide +kernel
theorem dX8_readValues_17 : decode cX8_readValues 17 = .ok (.iload_n 1, 1) := by decide +kernel
theorem dX8_readValues_18 : decode cX8_readValues 18 = .ok (.iload_n 3, 1) := by decide +kernel
theorem dX8_readValues_19 : decode cX8_readValues 19 = .ok (.iadd, 1) := by decide +kernel
theorem dX8_readValues_20 : decode cX8_readValues 20 = .ok (.invokevirtual 160, 3) := by decide +kernel
theorem dX8_readValues_23 : decode cX8_readValues 23 = .ok (.istore 4, 2) := by decide +kernel
theorem dX8_readValues_25 : decode cX8_readValues 25 = .ok (.iload 4, 2) := by decide +kernel
theorem dX8_readValues_27 : decode cX8_readValues 27 = .ok (.iconst (-1), 1) := by decide +kernel
theorem dX8_readValues_28 : decode cX8_readValues 28 = .ok (.if_icmp .ne 5, 3) := by decide +kernel
theorem dX8_readValues_31 : decode cX8_readValues 31 = .ok (.iconst 0, 1) := by decide +kernel
theorem dX8_readValues_32 : decode cX8_readValues 32 = .ok (.ireturn, 1) := by decide +kernel
theorem dX8_readValues_33 : decode cX8_readValues 33 = .ok (.aload_n 0, 1) := by decide +kernel
theorem dX8_readValues_34 : decode cX8_readValues 34 = .ok (.getfield 25, 3) := by decide +kernel
theorem dX8_readValues_37 : decode cX8_readValues 37 = .ok (.iload_n 3, 1) := by decide +kernel
theorem dX8_readValues_38 : decode cX8_readValues 38 = .ok (.iload 4, 2) := by decide +kernel
theorem dX8_readValues_40 : decode cX8_readValues 40 = .ok (.iastore, 1) := by decide +kernel
theorem dX8_readValues_41 : decode cX8_readValues 41 = .ok (.iinc 3 1, 3) := by decide +kernel
theorem dX8_readValues_44 : decode cX8_readValues 44 = .ok (.goto (-42), 3) := by decide +kernel
theorem dX8_readValues_47 : decode cX8_readValues 47 = .ok (.iconst 1, 1) := by decide +kernel
theorem dX8_readValues_48 : decode cX8_readValues 48 = .ok (.ireturn, 1) := by decide +kernel
theorem nmX8_readValues : mm_nm yX8_readValues 2 := ⟨by decide, by decide, by decide +kernel⟩
theorem cdX8_readValues : mm_cd cd_Y yX8_readValues cX8_readValues 5 (some .boolean) := ⟨tw_506, tw_1⟩
abbrev rmX8_readValues : Room := { frames := 4, cells := 0, slots := 0, locals := 84 }
def fX8_readValues_2  : Nat → Nat → Int32 → Int32 → Int32 → mm_M → Option (Int32 × mm_M)
  | 0 => fun _ _ _ _ _ => none
  | n + 1 => fun a0 x1 x2 x3 σ =>
  (if x2 ≤ x3 then some (1, σ) else mm_sh σ a0 (.inl 8) (mm_on (mm_R σ a0 5) fun q3 => mm_ar σ q3 0 fun n4 => (if (Int32.ofNat n4) ≤ x3 then some (1, σ) else mm_on (fX8_valueAt a0 (x1 + x3) σ) fun q6 => (if q6.1 = (-1) then some (0, q6.2) else mm_sh q6.2 a0 (.inl 8) (mm_on (mm_R q6.2 a0 5) fun q9 => mm_ar q6.2 q9 0 fun n10 => mm_ib x3 n10 (mm_let (mm_wI q6.2 q9 (x3.toNatClampNeg) q6.1) fun s12 => (fX8_readValues_2  n a0 x1 x2 (x3 + 1) s12)))))))
def fX8_readValues (p0 : Nat) (p1 : Int32) (p2 : Int32) (σ : mm_M) : Option (Int32 × mm_M) :=
  (fX8_readValues_2  mm_fuel p0 p1 p2 0 σ)
set_option maxHeartbeats 4000000 in
set_option maxRecDepth 100000 in
theorem kX8_readValues_2 {G : mm_G} {A : Nat → Prop} {ini : Bool × Option (List (Nat × Nat × Nat × Nat))}  {R : (Int32 × mm_M)}  : ∀ (a0 : Nat) (x1 : Int32) (x2 : Int32) (x3 : Int32) (σ : mm_M), fX8_readValues_2  mm_fuel a0 x1 x2 x3 σ = some R → mm_J cd_Y G RX8 cX8_readValues 5 (some .boolean) ini rmX8_readValues A (mm_QF cd_Y G A (mm_Pi R.1 R.2) rmX8_readValues.cells rmX8_readValues.slots) 2 [(0, .ref a0), (1, .int x1), (2, .int x2), (3, .int x3)] [] σ 0 0 := by
  generalize mm_fuel = n
  induction n with
  | zero => intro a0 x1 x2 x3 σ hf; cases hf
  | succ n ih =>
    intro a0 x1 x2 x3 σ hf
    unfold fX8_readValues_2 at hf
    refine mm_iload_n (j := 3) dX8_readValues_2 rfl rfl ?_
    refine mm_iload_n (j := 2) dX8_readValues_3 rfl rfl ?_
    refine mm_icmp_ge (tgt := 47) dX8_readValues_4 (by decide) (fun c1 => ?_) (fun c1 => ?_)
    · rw [if_pos c1] at hf
      refine mm_iconst (v := 1) dX8_readValues_47 (by decide) ?_
      cases hf
      refine mm_widen (ck' := rmX8_readValues.cells) (sk' := rmX8_readValues.slots) (Nat.le_of_ble_eq_true rfl) (Nat.le_of_ble_eq_true rfl) ?_
      exact mm_iret rfl rfl dX8_readValues_48 ⟨rfl, rfl⟩
    · rw [if_neg c1] at hf
      refine mm_iload_n (j := 3) dX8_readValues_7 rfl rfl ?_
      refine mm_aload_n (j := 0) dX8_readValues_8 rfl rfl ?_
      obtain ⟨hs2, hf⟩ := mm_sh_s hf
      refine mm_get (c := 8) (k := 5) (v := va_rf (mm_R σ a0 5)) cd_ok ⟨_, _, _, rfl, by decide, Or.inl tw_145⟩ hs2 rfl dX8_readValues_9 ?_
      obtain ⟨q3, hq3, hf⟩ := mm_on_s hf
      rw [hq3, mm_rf_some]
      obtain ⟨n4, hn4, hf⟩ := mm_ar_s hf
      refine mm_alen (v := Int32.ofNat n4) hn4 rfl rfl dX8_readValues_12 ?_
      refine mm_icmp_ge (tgt := 47) dX8_readValues_13 (by decide) (fun c5 => ?_) (fun c5 => ?_)
      · rw [if_pos c5] at hf
        refine mm_iconst (v := 1) dX8_readValues_47 (by decide) ?_
        cases hf
        refine mm_widen (ck' := rmX8_readValues.cells) (sk' := rmX8_readValues.slots) (Nat.le_of_ble_eq_true rfl) (Nat.le_of_ble_eq_true rfl) ?_
        exact mm_iret rfl rfl dX8_readValues_48 ⟨rfl, rfl⟩
      · rw [if_neg c5] at hf
        refine mm_aload_n (j := 0) dX8_readValues_16 rfl rfl ?_
        refine mm_iload_n (j := 1) dX8_readValues_17 rfl rfl ?_
        refine mm_iload_n (j := 3) dX8_readValues_18 rfl rfl ?_
        refine mm_iadd dX8_readValues_19 ?_
        obtain ⟨q6, hq6, hf⟩ := mm_on_s hf
        refine mm_callVi cd_ok (kX8_valueAt a0 (x1 + x3) hq6) hs2 rfl (Or.inl tw_488) cdX8_valueAt tw_490 ts_16 nmX8_valueAt rfl rfl (by simp only [List.map_cons, List.map_nil, mm_rf_cat]; exact Nat.le_of_ble_eq_true rfl) dX8_readValues_20 ⟨Nat.le_of_ble_eq_true rfl, Nat.le_of_ble_eq_true rfl⟩ ⟨Nat.le_of_ble_eq_true rfl, Nat.le_of_ble_eq_true rfl⟩ ?_
        refine mm_istore (L' := [(4, .int q6.1), (0, .ref a0), (1, .int x1), (2, .int x2), (3, .int x3)]) dX8_readValues_23 (by decide) rfl ?_
        refine mm_iload (j := 0) dX8_readValues_25 rfl ?_
        refine mm_iconst (v := (-1)) dX8_readValues_27 (by decide) ?_
        refine mm_icmp_ne (tgt := 33) dX8_readValues_28 (by decide) (fun c7 => ?_) (fun c7 => ?_)
        · rw [if_neg c7] at hf
          refine mm_aload_n (j := 1) dX8_readValues_33 rfl rfl ?_
          obtain ⟨hs8, hf⟩ := mm_sh_s hf
          refine mm_get (c := 8) (k := 5) (v := va_rf (mm_R q6.2 a0 5)) cd_ok ⟨_, _, _, rfl, by decide, Or.inl tw_145⟩ hs8 rfl dX8_readValues_34 ?_
          refine mm_iload_n (j := 4) dX8_readValues_37 rfl rfl ?_
          refine mm_iload (j := 0) dX8_readValues_38 rfl ?_
          obtain ⟨q9, hq9, hf⟩ := mm_on_s hf
          rw [hq9, mm_rf_some]
          obtain ⟨n10, hn10, hf⟩ := mm_ar_s hf
          obtain ⟨hi11, hf⟩ := mm_ib_s hf
          refine mm_iast hn10 rfl hi11 dX8_readValues_40 ?_
          obtain ⟨s12, hs12, hf⟩ := mm_let_s hf
          rw [hs12]
          refine mm_iinc (j := 4) (L' := [(3, .int (x3 + 1)), (4, .int q6.1), (0, .ref a0), (1, .int x1), (2, .int x2)]) dX8_readValues_41 rfl rfl (by decide) rfl ?_
          refine mm_goto (tgt := 2) dX8_readValues_44 (by decide) ?_
          refine mm_sub [2, 3, 4, 0] rfl ?_
          exact ih a0 x1 x2 (x3 + 1) s12 hf
        · rw [if_pos c7] at hf
          refine mm_iconst (v := 0) dX8_readValues_31 (by decide) ?_
          cases hf
          refine mm_widen (ck' := rmX8_readValues.cells) (sk' := rmX8_readValues.slots) (Nat.le_of_ble_eq_true rfl) (Nat.le_of_ble_eq_true rfl) ?_
          exact mm_iret rfl rfl dX8_readValues_32 ⟨rfl, rfl⟩
set_option maxHeartbeats 4000000 in
set_option maxRecDepth 100000 in
theorem kX8_readValues {G : mm_G} {A : Nat → Prop} (p0 : Nat) (p1 : Int32) (p2 : Int32) {σ : mm_M} {R : (Int32 × mm_M)} (hf : fX8_readValues p0 p1 p2 σ = some R) : mm_C cd_Y G yX8_readValues cX8_readValues 5 (some .boolean) rmX8_readValues A [.ref p0, .int p1, .int p2] σ (mm_Pi R.1 R.2) := by
  refine mm_C.of (by decide) (Nat.le_of_ble_eq_true rfl) ?_
  unfold fX8_readValues at hf
  have e0 : lv_args 0 [.ref p0, .int p1, .int p2] = [(0, .ref p0), (1, .int p1), (2, .int p2)] := rfl
  rw [e0]
  generalize hini : ((yX8_readValues.name == "<init>"), none) = ini
  clear e0
  clear hini
  refine mm_iconst (v := 0) dX8_readValues_0 (by decide) ?_
  refine mm_istore_n (L' := [(3, .int 0), (0, .ref p0), (1, .int p1), (2, .int p2)]) dX8_readValues_1 rfl (by decide) rfl ?_
  refine mm_sub [1, 2, 3, 0] rfl ?_
  exact kX8_readValues_2  p0 p1 p2 0 σ hf
theorem dX8_watch_0 : decode cX8_watch 0 = .ok (.iload_n 1, 1) := by decide +kernel
theorem dX8_watch_1 : decode cX8_watch 1 = .ok (.iconst 1, 1) := by decide +kernel
theorem dX8_watch_2 : decode cX8_watch 2 = .ok (.isub, 1) := by decide +kernel
theorem dX8_watch_3 : decode cX8_watch 3 = .ok (.bipush 8, 2) := by decide +kernel
theorem dX8_watch_5 : decode cX8_watch 5 = .ok (.invokestatic 62, 3) := by decide +kernel
theorem dX8_watch_8 : decode cX8_watch 8 = .ok (.ifCond .ne 13, 3) := by decide +kernel
theorem dX8_watch_11 : decode cX8_watch 11 = .ok (.iload_n 2, 1) := by decide +kernel
theorem dX8_watch_12 : decode cX8_watch 12 = .ok (.sipush 255, 3) := by decide +kernel
theorem dX8_watch_15 : decode cX8_watch 15 = .ok (.invokestatic 62, 3) := by decide +kernel
theorem dX8_watch_18 : decode cX8_watch 18 = .ok (.ifCond .eq 14, 3) := by decide +kernel
theorem dX8_watch_21 : decode cX8_watch 21 = .ok (.new 274, 3) := by decide +kernel
theorem dX8_watch_24 : decode cX8_watch 24 = .ok (.dup, 1) := by decide +kernel
theorem dX8_watch_25 : decode cX8_watch 25 = .ok (.ldc_w 276, 3) := by decide +kernel
theorem dX8_watch_28 : decode cX8_watch 28 = .ok (.invokespecial 278, 3) := by decide +kernel
theorem dX8_watch_31 : decode cX8_watch 31 = .ok (.athrow, 1) := by decide +kernel
theorem dX8_watch_32 : decode cX8_watch 32 = .ok (.aload_n 0, 1) := by decide +kernel
theorem dX8_watch_33 : decode cX8_watch 33 = .ok (.getfield 41, 3) := by decide +kernel
theorem dX8_watch_36 : decode cX8_watch 36 = .ok (.iload_n 1, 1) := by decide +kernel
theorem dX8_watch_37 : decode cX8_watch 37 = .ok (.iload_n 2, 1) := by decide +kernel
theorem dX8_watch_38 : decode cX8_watch 38 = .ok (.invokevirtual 279, 3) := by decide +kernel
theorem dX8_watch_41 : decode cX8_watch 41 = .ok (.iconst 1, 1) := by decide +kernel
theorem dX8_watch_42 : decode cX8_watch 42 = .ok (.ireturn, 1) := by decide +kernel
theorem nmX8_watch : mm_nm yX8_watch 2 := ⟨by decide, by decide, by decide +kernel⟩
theorem cdX8_watch : mm_cd cd_Y yX8_watch cX8_watch 3 (some .int) := ⟨tw_673, tw_1⟩
abbrev rmX8_watch : Room := { frames := 6, cells := 1, slots := 6, locals := 82 }
def fX8_watch (p0 : Nat) (p1 : Int32) (p2 : Int32) (σ : mm_M) : Option (Option Int32 × mm_M) :=
  (if (fX8_isOutside (p1 - 1) 8) = 0 then (if (fX8_isOutside p2 255) = 0 then mm_sh σ p0 (.inl 8) (mm_on (mm_R σ p0 8) fun q4 => mm_sh σ q4 (.inl 7) (mm_on (fX7_begin q4 p1 p2 σ) fun q6 => some (some (1), q6))) else some (none, σ)) else some (none, σ))
set_option maxHeartbeats 4000000 in
set_option maxRecDepth 100000 in
theorem kX8_watch {G : mm_G} {A : Nat → Prop} (p0 : Nat) (p1 : Int32) (p2 : Int32) {σ : mm_M} {R : (Option Int32 × mm_M)} (hf : fX8_watch p0 p1 p2 σ = some R) : mm_CX cd_Y G yX8_watch cX8_watch 3 (some .int) rmX8_watch A [.ref p0, .int p1, .int p2] σ (mm_PX R) R.2 "java/lang/IllegalArgumentException" (R.1 = none) := by
  refine mm_CX.of (by decide) (Nat.le_of_ble_eq_true rfl) ?_
  unfold fX8_watch at hf
  have e0 : lv_args 0 [.ref p0, .int p1, .int p2] = [(0, .ref p0), (1, .int p1), (2, .int p2)] := rfl
  rw [e0]
  clear e0
  refine mm_iload_n (j := 1) dX8_watch_0 rfl rfl ?_
  refine mm_iconst (v := 1) dX8_watch_1 (by decide) ?_
  refine mm_isub dX8_watch_2 ?_
  refine mm_bipush (v := 8) dX8_watch_3 (by decide) ?_
  refine mm_callSi cd_ok (kX8_isOutside (p1 - 1) 8 _ rfl) (Or.inl tw_239) cdX8_isOutside tw_221 nmX8_isOutside rfl rfl (by simp only [List.map_cons, List.map_nil, mm_rf_cat]; exact Nat.le_of_ble_eq_true rfl) dX8_watch_5 ⟨Nat.le_of_ble_eq_true rfl, Nat.le_of_ble_eq_true rfl⟩ ⟨Nat.le_of_ble_eq_true rfl, Nat.le_of_ble_eq_true rfl⟩ ?_
  refine mm_if_ne (tgt := 21) dX8_watch_8 (by decide) (fun c1 => ?_) (fun c1 => ?_)
  · rw [if_neg c1] at hf
    cases hf
    exact mm_throwW cd_ok rfl rfl th_X8_274_278 (List.mem_of_getElem? (i := 11) rfl) dX8_watch_21 dX8_watch_24 dX8_watch_25 dX8_watch_28 dX8_watch_31 (Nat.le_of_ble_eq_true rfl) (by simp only [List.map_cons, List.map_nil, mm_rf_cat]; exact Nat.le_of_ble_eq_true rfl) (Nat.le_of_ble_eq_true rfl) (Nat.le_of_ble_eq_true rfl) (Nat.le_of_ble_eq_true rfl) (Nat.le_of_ble_eq_true rfl)
  · rw [if_pos c1] at hf
    refine mm_iload_n (j := 2) dX8_watch_11 rfl rfl ?_
    refine mm_sipush (v := 255) dX8_watch_12 (by decide) ?_
    refine mm_callSi cd_ok (kX8_isOutside p2 255 _ rfl) (Or.inl tw_239) cdX8_isOutside tw_221 nmX8_isOutside rfl rfl (by simp only [List.map_cons, List.map_nil, mm_rf_cat]; exact Nat.le_of_ble_eq_true rfl) dX8_watch_15 ⟨Nat.le_of_ble_eq_true rfl, Nat.le_of_ble_eq_true rfl⟩ ⟨Nat.le_of_ble_eq_true rfl, Nat.le_of_ble_eq_true rfl⟩ ?_
    refine mm_if_eq (tgt := 32) dX8_watch_18 (by decide) (fun c2 => ?_) (fun c2 => ?_)
    · rw [if_pos c2] at hf
      refine mm_aload_n (j := 0) dX8_watch_32 rfl rfl ?_
      obtain ⟨hs3, hf⟩ := mm_sh_s hf
      refine mm_get (c := 8) (k := 8) (v := va_rf (mm_R σ p0 8)) cd_ok ⟨_, _, _, rfl, by decide, Or.inl tw_148⟩ hs3 rfl dX8_watch_33 ?_
      refine mm_iload_n (j := 1) dX8_watch_36 rfl rfl ?_
      refine mm_iload_n (j := 2) dX8_watch_37 rfl rfl ?_
      obtain ⟨q4, hq4, hf⟩ := mm_on_s hf
      rw [hq4, mm_rf_some]
      obtain ⟨hs5, hf⟩ := mm_sh_s hf
      obtain ⟨q6, hq6, hf⟩ := mm_on_s hf
      refine mm_callVv cd_ok (kX7_begin q4 p1 p2 hq6) hs5 rfl (Or.inl tw_690) cdX7_begin tw_691 tw_692 nmX7_begin rfl rfl (by simp only [List.map_cons, List.map_nil, mm_rf_cat]; exact Nat.le_of_ble_eq_true rfl) dX8_watch_38 ⟨Nat.le_of_ble_eq_true rfl, Nat.le_of_ble_eq_true rfl⟩ ⟨Nat.le_of_ble_eq_true rfl, Nat.le_of_ble_eq_true rfl⟩ ?_
      refine mm_iconst (v := 1) dX8_watch_41 (by decide) ?_
      cases hf
      refine mm_widen (ck' := rmX8_watch.cells) (sk' := rmX8_watch.slots) (Nat.le_of_ble_eq_true rfl) (Nat.le_of_ble_eq_true rfl) ?_
      exact mm_x (mm_iret rfl rfl dX8_watch_42 ⟨_, rfl, rfl, rfl⟩)
    · rw [if_neg c2] at hf
      cases hf
      exact mm_throwW cd_ok rfl rfl th_X8_274_278 (List.mem_of_getElem? (i := 11) rfl) dX8_watch_21 dX8_watch_24 dX8_watch_25 dX8_watch_28 dX8_watch_31 (Nat.le_of_ble_eq_true rfl) (by simp only [List.map_cons, List.map_nil, mm_rf_cat]; exact Nat.le_of_ble_eq_true rfl) (Nat.le_of_ble_eq_true rfl) (Nat.le_of_ble_eq_true rfl) (Nat.le_of_ble_eq_true rfl) (Nat.le_of_ble_eq_true rfl)
theorem dX8_cue_0 : decode cX8_cue 0 = .ok (.aload_n 0, 1) := by decide +kernel
theorem dX8_cue_1 : decode cX8_cue 1 = .ok (.iload_n 1, 1) := by decide +kernel
theorem dX8_cue_2 : decode cX8_cue 2 = .ok (.invokevirtual 300, 3) := by decide +kernel
theorem dX8_cue_5 : decode cX8_cue 5 = .ok (.astore_n 3, 1) := by decide +kernel
theorem dX8_cue_6 : decode cX8_cue 6 = .ok (.aload_n 3, 1) := by decide +kernel
theorem dX8_cue_7 : decode cX8_cue 7 = .ok (.ifnull 11, 3) := by decide +kernel
theorem dX8_cue_10 : decode cX8_cue 10 = .ok (.iload_n 2, 1) := by decide +kernel
theorem dX8_cue_11 : decode cX8_cue 11 = .ok (.iconst 4, 1) := by decide +kernel
theorem dX8_cue_12 : decode cX8_cue 12 = .ok (.invokestatic 62, 3) := by decide +kernel
theorem dX8_cue_15 : decode cX8_cue 15 = .ok (.ifCond .eq 14, 3) := by decide +kernel
theorem dX8_cue_18 : decode cX8_cue 18 = .ok (.new 66, 3) := by decide +kernel
theorem dX8_cue_21 : decode cX8_cue 21 = .ok (.dup, 1) := by decide +kernel
theorem dX8_cue_22 : decode cX8_cue 22 = .ok (.ldc_w 304, 3) := by decide +kernel
theorem dX8_cue_25 : decode cX8_cue 25 = .ok (.invokespecial 70, 3) := by decide +kernel
theorem dX8_cue_28 : decode cX8_cue 28 = .ok (.athrow, 1) := by decide +kernel
theorem dX8_cue_29 : decode cX8_cue 29 = .ok (.iload_n 2, 1) := by decide +kernel
theorem dX8_cue_30 : decode cX8_cue 30 = .ok (.tableswitch 41 0 2 #[26, 31, 36], 26) := by decide +kernel
theorem dX8_cue_56 : decode cX8_cue 56 = .ok (.aload_n 3, 1) := by decide +kernel
theorem dX8_cue_57 : decode cX8_cue 57 = .ok (.getfield 306, 3) := by decide +kernel
theorem dX8_cue_60 : decode cX8_cue 60 = .ok (.ireturn, 1) := by decide +kernel
theorem dX8_cue_61 : decode cX8_cue 61 = .ok (.aload_n 3, 1) := by decide +kernel
theorem dX8_cue_62 : decode cX8_cue 62 = .ok (.getfield 309, 3) := by decide +kernel
theorem dX8_cue_65 : decode cX8_cue 65 = .ok (.ireturn, 1) := by decide +kernel
theorem dX8_cue_66 : decode cX8_cue 66 = .ok (.aload_n 3, 1) := by decide +kernel
theorem dX8_cue_67 : decode cX8_cue 67 = .ok (.getfield 311, 3) := by decide +kernel
theorem dX8_cue_70 : decode cX8_cue 70 = .ok (.ireturn, 1) := by decide +kernel
theorem dX8_cue_71 : decode cX8_cue 71 = .ok (.aload_n 3, 1) := by decide +kernel
theorem dX8_cue_72 : decode cX8_cue 72 = .ok (.getfield 314, 3) := by decide +kernel
theorem dX8_cue_75 : decode cX8_cue 75 = .ok (.arraylength, 1) := by decide +kernel
theorem dX8_cue_76 : decode cX8_cue 76 = .ok (.ireturn, 1) := by decide +kernel
theorem nmX8_cue : mm_nm yX8_cue 2 := ⟨by decide, by decide, by decide +kernel⟩
theorem cdX8_cue : mm_cd cd_Y yX8_cue cX8_cue 4 (some .int) := ⟨tw_778, tw_1⟩
abbrev rmX8_cue : Room := { frames := 6, cells := 1, slots := 6, locals := 82 }
def fX8_cue (p0 : Nat) (p1 : Int32) (p2 : Int32) (σ : mm_M) : Option (Option Int32 × mm_M) :=
  mm_sh σ p0 (.inl 8) (mm_on (fX8_cueAt p0 p1 σ) fun q2 => (mm_nu (q2.1) (some (none, q2.2)) fun q3 => (if (fX8_isOutside p2 4) = 0 then (if p2 = 0 then mm_sh q2.2 q3 (.inl 1) (some (some (mm_I q2.2 q3 0), q2.2)) else (if p2 = 1 then mm_sh q2.2 q3 (.inl 1) (some (some (mm_I q2.2 q3 1), q2.2)) else (if p2 = 2 then mm_sh q2.2 q3 (.inl 1) (some (some (mm_I q2.2 q3 3), q2.2)) else mm_sh q2.2 q3 (.inl 1) (mm_on (mm_R q2.2 q3 2) fun q12 => mm_ar q2.2 q12 0 fun n13 => some (some (Int32.ofNat n13), q2.2))))) else some (none, q2.2))))
set_option maxHeartbeats 4000000 in
set_option maxRecDepth 100000 in
theorem kX8_cue {G : mm_G} {A : Nat → Prop} (p0 : Nat) (p1 : Int32) (p2 : Int32) {σ : mm_M} {R : (Option Int32 × mm_M)} (hf : fX8_cue p0 p1 p2 σ = some R) : mm_CX cd_Y G yX8_cue cX8_cue 4 (some .int) rmX8_cue A [.ref p0, .int p1, .int p2] σ (mm_PX R) R.2 "java/lang/IndexOutOfBoundsException" (R.1 = none) := by
  refine mm_CX.of (by decide) (Nat.le_of_ble_eq_true rfl) ?_
  unfold fX8_cue at hf
  have e0 : lv_args 0 [.ref p0, .int p1, .int p2] = [(0, .ref p0), (1, .int p1), (2, .int p2)] := rfl
  rw [e0]
  clear e0
  refine mm_aload_n (j := 0) dX8_cue_0 rfl rfl ?_
  refine mm_iload_n (j := 1) dX8_cue_1 rfl rfl ?_
  obtain ⟨hs1, hf⟩ := mm_sh_s hf
  obtain ⟨q2, hq2, hf⟩ := mm_on_s hf
  refine mm_callVo cd_ok (kX8_cueAt p0 p1 hq2) hs1 rfl (Or.inl tw_734) cdX8_cueAt tw_736 ts_29 nmX8_cueAt rfl rfl (by simp only [List.map_cons, List.map_nil, mm_rf_cat]; exact Nat.le_of_ble_eq_true rfl) dX8_cue_2 ⟨Nat.le_of_ble_eq_true rfl, Nat.le_of_ble_eq_true rfl⟩ ⟨Nat.le_of_ble_eq_true rfl, Nat.le_of_ble_eq_true rfl⟩ ?_
  refine mm_astore_nR (L' := [(3, va_rf (q2.1)), (0, .ref p0), (1, .int p1), (2, .int p2)]) dX8_cue_5 rfl (by decide) rfl ?_
  refine mm_aload_nR (j := 0) dX8_cue_6 rfl rfl ?_
  rcases hq3 : (q2.1) with _ | q3
  · rw [mm_nu_n hq3] at hf
    try rw [mm_rf_none]
    refine mm_ifnullN (tgt := 18) dX8_cue_7 (by decide) ?_
    cases hf
    exact mm_throwW cd_ok rfl rfl th_X8_66_70 (List.mem_of_getElem? (i := 13) rfl) dX8_cue_18 dX8_cue_21 dX8_cue_22 dX8_cue_25 dX8_cue_28 (Nat.le_of_ble_eq_true rfl) (by simp only [List.map_cons, List.map_nil, mm_rf_cat]; exact Nat.le_of_ble_eq_true rfl) (Nat.le_of_ble_eq_true rfl) (Nat.le_of_ble_eq_true rfl) (Nat.le_of_ble_eq_true rfl) (Nat.le_of_ble_eq_true rfl)
  · rw [mm_nu_s hq3] at hf
    try rw [mm_rf_some]
    refine mm_ifnull dX8_cue_7 ?_
    refine mm_iload_n (j := 3) dX8_cue_10 rfl rfl ?_
    refine mm_iconst (v := 4) dX8_cue_11 (by decide) ?_
    refine mm_callSi cd_ok (kX8_isOutside p2 4 _ rfl) (Or.inl tw_239) cdX8_isOutside tw_221 nmX8_isOutside rfl rfl (by simp only [List.map_cons, List.map_nil, mm_rf_cat]; exact Nat.le_of_ble_eq_true rfl) dX8_cue_12 ⟨Nat.le_of_ble_eq_true rfl, Nat.le_of_ble_eq_true rfl⟩ ⟨Nat.le_of_ble_eq_true rfl, Nat.le_of_ble_eq_true rfl⟩ ?_
    refine mm_if_eq (tgt := 29) dX8_cue_15 (by decide) (fun c4 => ?_) (fun c4 => ?_)
    · rw [if_pos c4] at hf
      refine mm_iload_n (j := 3) dX8_cue_29 rfl rfl ?_
      by_cases c5 : p2 = 0
      · rw [if_pos c5] at hf
        refine mm_tableEq (off := 26) (tgt := 56) dX8_cue_30 c5 (by decide) (by decide) (by decide) (by decide) ?_
        refine mm_aload_n (j := 0) dX8_cue_56 rfl rfl ?_
        obtain ⟨hs6, hf⟩ := mm_sh_s hf
        refine mm_get (c := 1) (k := 0) (v := .int (mm_I q2.2 q3 0)) cd_ok ⟨_, _, _, rfl, by decide, Or.inr ⟨_, tn_43⟩⟩ hs6 rfl dX8_cue_57 ?_
        cases hf
        refine mm_widen (ck' := rmX8_cue.cells) (sk' := rmX8_cue.slots) (Nat.le_of_ble_eq_true rfl) (Nat.le_of_ble_eq_true rfl) ?_
        exact mm_x (mm_iret rfl rfl dX8_cue_60 ⟨_, rfl, rfl, rfl⟩)
      rw [if_neg c5] at hf
      by_cases c7 : p2 = 1
      · rw [if_pos c7] at hf
        refine mm_tableEq (off := 31) (tgt := 61) dX8_cue_30 c7 (by decide) (by decide) (by decide) (by decide) ?_
        refine mm_aload_n (j := 0) dX8_cue_61 rfl rfl ?_
        obtain ⟨hs8, hf⟩ := mm_sh_s hf
        refine mm_get (c := 1) (k := 1) (v := .int (mm_I q2.2 q3 1)) cd_ok ⟨_, _, _, rfl, by decide, Or.inr ⟨_, tn_44⟩⟩ hs8 rfl dX8_cue_62 ?_
        cases hf
        refine mm_widen (ck' := rmX8_cue.cells) (sk' := rmX8_cue.slots) (Nat.le_of_ble_eq_true rfl) (Nat.le_of_ble_eq_true rfl) ?_
        exact mm_x (mm_iret rfl rfl dX8_cue_65 ⟨_, rfl, rfl, rfl⟩)
      rw [if_neg c7] at hf
      by_cases c9 : p2 = 2
      · rw [if_pos c9] at hf
        refine mm_tableEq (off := 36) (tgt := 66) dX8_cue_30 c9 (by decide) (by decide) (by decide) (by decide) ?_
        refine mm_aload_n (j := 0) dX8_cue_66 rfl rfl ?_
        obtain ⟨hs10, hf⟩ := mm_sh_s hf
        refine mm_get (c := 1) (k := 3) (v := .int (mm_I q2.2 q3 3)) cd_ok ⟨_, _, _, rfl, by decide, Or.inr ⟨_, tn_46⟩⟩ hs10 rfl dX8_cue_67 ?_
        cases hf
        refine mm_widen (ck' := rmX8_cue.cells) (sk' := rmX8_cue.slots) (Nat.le_of_ble_eq_true rfl) (Nat.le_of_ble_eq_true rfl) ?_
        exact mm_x (mm_iret rfl rfl dX8_cue_70 ⟨_, rfl, rfl, rfl⟩)
      rw [if_neg c9] at hf
      refine mm_tableOut (tgt := 71) dX8_cue_30 (by have nc5 := mm_neI (k := 0) (by decide) c5; have nc7 := mm_neI (k := 1) (by decide) c7; have nc9 := mm_neI (k := 2) (by decide) c9; omega) (by decide) ?_
      refine mm_aload_n (j := 0) dX8_cue_71 rfl rfl ?_
      obtain ⟨hs11, hf⟩ := mm_sh_s hf
      refine mm_get (c := 1) (k := 2) (v := va_rf (mm_R q2.2 q3 2)) cd_ok ⟨_, _, _, rfl, by decide, Or.inr ⟨_, tn_45⟩⟩ hs11 rfl dX8_cue_72 ?_
      obtain ⟨q12, hq12, hf⟩ := mm_on_s hf
      rw [hq12, mm_rf_some]
      obtain ⟨n13, hn13, hf⟩ := mm_ar_s hf
      refine mm_alen (v := Int32.ofNat n13) hn13 rfl rfl dX8_cue_75 ?_
      cases hf
      refine mm_widen (ck' := rmX8_cue.cells) (sk' := rmX8_cue.slots) (Nat.le_of_ble_eq_true rfl) (Nat.le_of_ble_eq_true rfl) ?_
      exact mm_x (mm_iret rfl rfl dX8_cue_76 ⟨_, rfl, rfl, rfl⟩)
    · rw [if_neg c4] at hf
      cases hf
      exact mm_throwW cd_ok rfl rfl th_X8_66_70 (List.mem_of_getElem? (i := 13) rfl) dX8_cue_18 dX8_cue_21 dX8_cue_22 dX8_cue_25 dX8_cue_28 (Nat.le_of_ble_eq_true rfl) (by simp only [List.map_cons, List.map_nil, mm_rf_cat]; exact Nat.le_of_ble_eq_true rfl) (Nat.le_of_ble_eq_true rfl) (Nat.le_of_ble_eq_true rfl) (Nat.le_of_ble_eq_true rfl) (Nat.le_of_ble_eq_true rfl)
theorem dX8_line_0 : decode cX8_line 0 = .ok (.aload_n 0, 1) := by decide +kernel
theorem dX8_line_1 : decode cX8_line 1 = .ok (.iload_n 1, 1) := by decide +kernel
theorem dX8_line_2 : decode cX8_line 2 = .ok (.invokevirtual 300, 3) := by decide +kernel
theorem dX8_line_5 : decode cX8_line 5 = .ok (.astore_n 3, 1) := by decide +kernel
theorem dX8_line_6 : decode cX8_line 6 = .ok (.aload_n 3, 1) := by decide +kernel
theorem dX8_line_7 : decode cX8_line 7 = .ok (.ifnull 15, 3) := by decide +kernel
theorem dX8_line_10 : decode cX8_line 10 = .ok (.iload_n 2, 1) := by decide +kernel
theorem dX8_line_11 : decode cX8_line 11 = .ok (.aload_n 3, 1) := by decide +kernel
theorem dX8_line_12 : decode cX8_line 12 = .ok (.getfield 314, 3) := by decide +kernel
theorem dX8_line_15 : decode cX8_line 15 = .ok (.arraylength, 1) := by decide +kernel
theorem dX8_line_16 : decode cX8_line 16 = .ok (.invokestatic 62, 3) := by decide +kernel
theorem dX8_line_19 : decode cX8_line 19 = .ok (.ifCond .eq 14, 3) := by decide +kernel
theorem dX8_line_22 : decode cX8_line 22 = .ok (.new 66, 3) := by decide +kernel
theorem dX8_line_25 : decode cX8_line 25 = .ok (.dup, 1) := by decide +kernel
theorem dX8_line_26 : decode cX8_line 26 = .ok (.ldc_w 317, 3) := by decide +kernel
theorem dX8_line_29 : decode cX8_line 29 = .ok (.invokespecial 70, 3) := by decide +kernel
theorem dX8_line_32 : decode cX8_line 32 = .ok (.athrow, 1) := by decide +kernel
theorem dX8_line_33 : decode cX8_line 33 = .ok (.aload_n 3, 1) := by decide +kernel
theorem dX8_line_34 : decode cX8_line 34 = .ok (.getfield 314, 3) := by decide +kernel
theorem dX8_line_37 : decode cX8_line 37 = .ok (.iload_n 2, 1) := by decide +kernel
theorem dX8_line_38 : decode cX8_line 38 = .ok (.iaload, 1) := by decide +kernel
theorem dX8_line_39 : decode cX8_line 39 = .ok (.ireturn, 1) := by decide +kernel
theorem nmX8_line : mm_nm yX8_line 2 := ⟨by decide, by decide, by decide +kernel⟩
theorem cdX8_line : mm_cd cd_Y yX8_line cX8_line 4 (some .int) := ⟨tw_786, tw_1⟩
abbrev rmX8_line : Room := { frames := 6, cells := 1, slots := 6, locals := 82 }
def fX8_line (p0 : Nat) (p1 : Int32) (p2 : Int32) (σ : mm_M) : Option (Option Int32 × mm_M) :=
  mm_sh σ p0 (.inl 8) (mm_on (fX8_cueAt p0 p1 σ) fun q2 => (mm_nu (q2.1) (some (none, q2.2)) fun q3 => mm_sh q2.2 q3 (.inl 1) (mm_on (mm_R q2.2 q3 2) fun q5 => mm_ar q2.2 q5 0 fun n6 => (if (fX8_isOutside p2 (Int32.ofNat n6)) = 0 then mm_on (mm_R q2.2 q3 2) fun q8 => mm_ar q2.2 q8 0 fun n9 => mm_ib p2 n9 (some (some (mm_I q2.2 q8 p2.toNatClampNeg), q2.2)) else some (none, q2.2)))))
set_option maxHeartbeats 4000000 in
set_option maxRecDepth 100000 in
theorem kX8_line {G : mm_G} {A : Nat → Prop} (p0 : Nat) (p1 : Int32) (p2 : Int32) {σ : mm_M} {R : (Option Int32 × mm_M)} (hf : fX8_line p0 p1 p2 σ = some R) : mm_CX cd_Y G yX8_line cX8_line 4 (some .int) rmX8_line A [.ref p0, .int p1, .int p2] σ (mm_PX R) R.2 "java/lang/IndexOutOfBoundsException" (R.1 = none) := by
  refine mm_CX.of (by decide) (Nat.le_of_ble_eq_true rfl) ?_
  unfold fX8_line at hf
  have e0 : lv_args 0 [.ref p0, .int p1, .int p2] = [(0, .ref p0), (1, .int p1), (2, .int p2)] := rfl
  rw [e0]
  clear e0
  refine mm_aload_n (j := 0) dX8_line_0 rfl rfl ?_
  refine mm_iload_n (j := 1) dX8_line_1 rfl rfl ?_
  obtain ⟨hs1, hf⟩ := mm_sh_s hf
  obtain ⟨q2, hq2, hf⟩ := mm_on_s hf
  refine mm_callVo cd_ok (kX8_cueAt p0 p1 hq2) hs1 rfl (Or.inl tw_734) cdX8_cueAt tw_736 ts_29 nmX8_cueAt rfl rfl (by simp only [List.map_cons, List.map_nil, mm_rf_cat]; exact Nat.le_of_ble_eq_true rfl) dX8_line_2 ⟨Nat.le_of_ble_eq_true rfl, Nat.le_of_ble_eq_true rfl⟩ ⟨Nat.le_of_ble_eq_true rfl, Nat.le_of_ble_eq_true rfl⟩ ?_
  refine mm_astore_nR (L' := [(3, va_rf (q2.1)), (0, .ref p0), (1, .int p1), (2, .int p2)]) dX8_line_5 rfl (by decide) rfl ?_
  refine mm_aload_nR (j := 0) dX8_line_6 rfl rfl ?_
  rcases hq3 : (q2.1) with _ | q3
  · rw [mm_nu_n hq3] at hf
    try rw [mm_rf_none]
    refine mm_ifnullN (tgt := 22) dX8_line_7 (by decide) ?_
    cases hf
    exact mm_throwW cd_ok rfl rfl th_X8_66_70 (List.mem_of_getElem? (i := 14) rfl) dX8_line_22 dX8_line_25 dX8_line_26 dX8_line_29 dX8_line_32 (Nat.le_of_ble_eq_true rfl) (by simp only [List.map_cons, List.map_nil, mm_rf_cat]; exact Nat.le_of_ble_eq_true rfl) (Nat.le_of_ble_eq_true rfl) (Nat.le_of_ble_eq_true rfl) (Nat.le_of_ble_eq_true rfl) (Nat.le_of_ble_eq_true rfl)
  · rw [mm_nu_s hq3] at hf
    try rw [mm_rf_some]
    refine mm_ifnull dX8_line_7 ?_
    refine mm_iload_n (j := 3) dX8_line_10 rfl rfl ?_
    refine mm_aload_n (j := 0) dX8_line_11 rfl rfl ?_
    obtain ⟨hs4, hf⟩ := mm_sh_s hf
    refine mm_get (c := 1) (k := 2) (v := va_rf (mm_R q2.2 q3 2)) cd_ok ⟨_, _, _, rfl, by decide, Or.inr ⟨_, tn_45⟩⟩ hs4 rfl dX8_line_12 ?_
    obtain ⟨q5, hq5, hf⟩ := mm_on_s hf
    rw [hq5, mm_rf_some]
    obtain ⟨n6, hn6, hf⟩ := mm_ar_s hf
    refine mm_alen (v := Int32.ofNat n6) hn6 rfl rfl dX8_line_15 ?_
    refine mm_callSi cd_ok (kX8_isOutside p2 (Int32.ofNat n6) _ rfl) (Or.inl tw_239) cdX8_isOutside tw_221 nmX8_isOutside rfl rfl (by simp only [List.map_cons, List.map_nil, mm_rf_cat]; exact Nat.le_of_ble_eq_true rfl) dX8_line_16 ⟨Nat.le_of_ble_eq_true rfl, Nat.le_of_ble_eq_true rfl⟩ ⟨Nat.le_of_ble_eq_true rfl, Nat.le_of_ble_eq_true rfl⟩ ?_
    refine mm_if_eq (tgt := 33) dX8_line_19 (by decide) (fun c7 => ?_) (fun c7 => ?_)
    · rw [if_pos c7] at hf
      refine mm_aload_n (j := 0) dX8_line_33 rfl rfl ?_
      refine mm_get (c := 1) (k := 2) (v := va_rf (mm_R q2.2 q3 2)) cd_ok ⟨_, _, _, rfl, by decide, Or.inr ⟨_, tn_45⟩⟩ hs4 rfl dX8_line_34 ?_
      refine mm_iload_n (j := 3) dX8_line_37 rfl rfl ?_
      obtain ⟨q8, hq8, hf⟩ := mm_on_s hf
      rw [hq8, mm_rf_some]
      obtain ⟨n9, hn9, hf⟩ := mm_ar_s hf
      obtain ⟨hi10, hf⟩ := mm_ib_s hf
      refine mm_iald hn9 rfl hi10 dX8_line_38 ?_
      cases hf
      refine mm_widen (ck' := rmX8_line.cells) (sk' := rmX8_line.slots) (Nat.le_of_ble_eq_true rfl) (Nat.le_of_ble_eq_true rfl) ?_
      exact mm_x (mm_iret rfl rfl dX8_line_39 ⟨_, rfl, rfl, rfl⟩)
    · rw [if_neg c7] at hf
      cases hf
      exact mm_throwW cd_ok rfl rfl th_X8_66_70 (List.mem_of_getElem? (i := 14) rfl) dX8_line_22 dX8_line_25 dX8_line_26 dX8_line_29 dX8_line_32 (Nat.le_of_ble_eq_true rfl) (by simp only [List.map_cons, List.map_nil, mm_rf_cat]; exact Nat.le_of_ble_eq_true rfl) (Nat.le_of_ble_eq_true rfl) (Nat.le_of_ble_eq_true rfl) (Nat.le_of_ble_eq_true rfl) (Nat.le_of_ble_eq_true rfl)
theorem dX8_readLines_0 : decode cX8_readLines 0 = .ok (.aload_n 0, 1) := by decide +kernel
theorem dX8_readLines_1 : decode cX8_readLines 1 = .ok (.getfield 48, 3) := by decide +kernel
theorem dX8_readLines_4 : decode cX8_readLines 4 = .ok (.iconst 0, 1) := by decide +kernel
theorem dX8_readLines_5 : decode cX8_readLines 5 = .ok (.putfield 319, 3) := by decide +kernel
theorem dX8_readLines_8 : decode cX8_readLines 8 = .ok (.iload_n 1, 1) := by decide +kernel
theorem dX8_readLines_9 : decode cX8_readLines 9 = .ok (.iconst 4, 1) := by decide +kernel
theorem dX8_readLines_10 : decode cX8_readLines 10 = .ok (.if_icmp .ne 17, 3) := by decide +kernel
theorem dX8_readLines_13 : decode cX8_readLines 13 = .ok (.aload_n 0, 1) := by decide +kernel
theorem dX8_readLines_14 : decode cX8_readLines 14 = .ok (.getfield 41, 3) := by decide +kernel
theorem dX8_readLines_17 : decode cX8_readLines 17 = .ok (.aload_n 0, 1) := by decide +kernel
theorem dX8_readLines_18 : decode cX8_readLines 18 = .ok (.getfield 48, 3) := by decide +kernel
theorem dX8_readLines_21 : decode cX8_readLines 21 = .ok (.invokevirtual 322, 3) := by decide +kernel
theorem dX8_readLines_24 : decode cX8_readLines 24 = .ok (.goto 19, 3) := by decide +kernel
theorem dX8_readLines_27 : decode cX8_readLines 27 = .ok (.aload_n 0, 1) := by decide +kernel
theorem dX8_readLines_28 : decode cX8_readLines 28 = .ok (.getfield 11, 3) := by decide +kernel
theorem dX8_readLines_31 : decode cX8_readLines 31 = .ok (.iload_n 1, 1) := by decide +kernel
theorem dX8_readLines_32 : decode cX8_readLines 32 = .ok (.aaload, 1) := by decide +kernel
theorem dX8_readLines_33 : decode cX8_readLines 33 = .ok (.getfield 88, 3) := by decide +kernel
theorem dX8_readLines_36 : decode cX8_readLines 36 = .ok (.aload_n 0, 1) := by decide +kernel
theorem dX8_readLines_37 : decode cX8_readLines 37 = .ok (.getfield 48, 3) := by decide +kernel
theorem dX8_readLines_40 : decode cX8_readLines 40 = .ok (.invokevirtual 326, 3) := by decide +kernel
theorem dX8_readLines_43 : decode cX8_readLines 43 = .ok (.return_, 1) := by decide +kernel
theorem nmX8_readLines : mm_nm yX8_readLines 1 := ⟨by decide, by decide, by decide +kernel⟩
theorem cdX8_readLines : mm_cd cd_Y yX8_readLines cX8_readLines 2 none := ⟨tw_707, tw_1⟩
abbrev rmX8_readLines : Room := { frames := 4, cells := 0, slots := 0, locals := 90 }
def fX8_readLines (p0 : Nat) (p1 : Int32) (σ : mm_M) : Option mm_M :=
  mm_sh σ p0 (.inl 8) (mm_on (mm_R σ p0 9) fun q2 => mm_sh σ q2 (.inl 2) (mm_let (mm_wI σ q2 1 0) fun s4 => (if p1 = 4 then mm_on (mm_R s4 p0 9) fun q15 => mm_on (mm_R s4 p0 8) fun q16 => mm_sh s4 q16 (.inl 7) (mm_on (fX7_addTo q16 q15 s4) fun q18 => some (q18)) else mm_on (mm_R s4 p0 0) fun q6 => mm_ar s4 q6 4 fun n7 => mm_ib p1 n7 (mm_on (mm_R s4 q6 p1.toNatClampNeg) fun q9 => mm_sh s4 q9 (.inl 0) (mm_on (mm_R s4 p0 9) fun q11 => mm_on (mm_R s4 q9 0) fun q12 => mm_sh s4 q12 (.inl 5) (mm_on (fX5_addTo q12 q11 s4) fun q14 => some (q14)))))))
set_option maxHeartbeats 4000000 in
set_option maxRecDepth 100000 in
theorem kX8_readLines {G : mm_G} {A : Nat → Prop} (p0 : Nat) (p1 : Int32) {σ : mm_M} {R : mm_M} (hf : fX8_readLines p0 p1 σ = some R) : mm_C cd_Y G yX8_readLines cX8_readLines 2 none rmX8_readLines A [.ref p0, .int p1] σ (mm_Pv R) := by
  refine mm_C.of (by decide) (Nat.le_of_ble_eq_true rfl) ?_
  unfold fX8_readLines at hf
  have e0 : lv_args 0 [.ref p0, .int p1] = [(0, .ref p0), (1, .int p1)] := rfl
  rw [e0]
  generalize hini : ((yX8_readLines.name == "<init>"), none) = ini
  clear e0
  clear hini
  refine mm_aload_n (j := 0) dX8_readLines_0 rfl rfl ?_
  obtain ⟨hs1, hf⟩ := mm_sh_s hf
  refine mm_get (c := 8) (k := 9) (v := va_rf (mm_R σ p0 9)) cd_ok ⟨_, _, _, rfl, by decide, Or.inl tw_149⟩ hs1 rfl dX8_readLines_1 ?_
  refine mm_iconst (v := 0) dX8_readLines_4 (by decide) ?_
  obtain ⟨q2, hq2, hf⟩ := mm_on_s hf
  rw [hq2, mm_rf_some]
  obtain ⟨hs3, hf⟩ := mm_sh_s hf
  refine mm_putI (c := 2) (k := 1) cd_ok ⟨_, _, _, rfl, by decide, rfl, Or.inr ⟨_, tn_5⟩⟩ hs3 rfl rfl rfl dX8_readLines_5 ?_
  obtain ⟨s4, hs4, hf⟩ := mm_let_s hf
  rw [hs4]
  refine mm_iload_n (j := 1) dX8_readLines_8 rfl rfl ?_
  refine mm_iconst (v := 4) dX8_readLines_9 (by decide) ?_
  refine mm_icmp_ne (tgt := 27) dX8_readLines_10 (by decide) (fun c5 => ?_) (fun c5 => ?_)
  · rw [if_neg c5] at hf
    refine mm_aload_n (j := 0) dX8_readLines_27 rfl rfl ?_
    refine mm_get (c := 8) (k := 0) (v := va_rf (mm_R s4 p0 0)) cd_ok ⟨_, _, _, rfl, by decide, Or.inl tw_140⟩ (mm_ke hs4 hs1) rfl dX8_readLines_28 ?_
    refine mm_iload_n (j := 1) dX8_readLines_31 rfl rfl ?_
    obtain ⟨q6, hq6, hf⟩ := mm_on_s hf
    rw [hq6, mm_rf_some]
    obtain ⟨n7, hn7, hf⟩ := mm_ar_s hf
    obtain ⟨hi8, hf⟩ := mm_ib_s hf
    refine mm_aald (v := va_rf (mm_R s4 q6 p1.toNatClampNeg)) hn7 rfl hi8 rfl dX8_readLines_32 ?_
    obtain ⟨q9, hq9, hf⟩ := mm_on_s hf
    rw [hq9, mm_rf_some]
    obtain ⟨hs10, hf⟩ := mm_sh_s hf
    refine mm_get (c := 0) (k := 0) (v := va_rf (mm_R s4 q9 0)) cd_ok ⟨_, _, _, rfl, by decide, Or.inr ⟨_, tn_8⟩⟩ hs10 rfl dX8_readLines_33 ?_
    refine mm_aload_n (j := 0) dX8_readLines_36 rfl rfl ?_
    refine mm_get (c := 8) (k := 9) (v := va_rf (mm_R s4 p0 9)) cd_ok ⟨_, _, _, rfl, by decide, Or.inl tw_149⟩ (mm_ke hs4 hs1) rfl dX8_readLines_37 ?_
    obtain ⟨q11, hq11, hf⟩ := mm_on_s hf
    rw [hq11, mm_rf_some]
    obtain ⟨q12, hq12, hf⟩ := mm_on_s hf
    rw [hq12, mm_rf_some]
    obtain ⟨hs13, hf⟩ := mm_sh_s hf
    obtain ⟨q14, hq14, hf⟩ := mm_on_s hf
    refine mm_callVv cd_ok (kX5_addTo q12 q11 hq14) hs13 rfl (Or.inl tw_725) cdX5_addTo tw_726 tw_727 nmX5_addTo rfl rfl (by simp only [List.map_cons, List.map_nil, mm_rf_cat]; exact Nat.le_of_ble_eq_true rfl) dX8_readLines_40 ⟨Nat.le_of_ble_eq_true rfl, Nat.le_of_ble_eq_true rfl⟩ ⟨Nat.le_of_ble_eq_true rfl, Nat.le_of_ble_eq_true rfl⟩ ?_
    cases hf
    refine mm_widen (ck' := rmX8_readLines.cells) (sk' := rmX8_readLines.slots) (Nat.le_of_ble_eq_true rfl) (Nat.le_of_ble_eq_true rfl) ?_
    exact mm_vret rfl dX8_readLines_43 ⟨rfl, rfl⟩
  · rw [if_pos c5] at hf
    refine mm_aload_n (j := 0) dX8_readLines_13 rfl rfl ?_
    refine mm_get (c := 8) (k := 8) (v := va_rf (mm_R s4 p0 8)) cd_ok ⟨_, _, _, rfl, by decide, Or.inl tw_148⟩ (mm_ke hs4 hs1) rfl dX8_readLines_14 ?_
    refine mm_aload_n (j := 0) dX8_readLines_17 rfl rfl ?_
    refine mm_get (c := 8) (k := 9) (v := va_rf (mm_R s4 p0 9)) cd_ok ⟨_, _, _, rfl, by decide, Or.inl tw_149⟩ (mm_ke hs4 hs1) rfl dX8_readLines_18 ?_
    obtain ⟨q15, hq15, hf⟩ := mm_on_s hf
    rw [hq15, mm_rf_some]
    obtain ⟨q16, hq16, hf⟩ := mm_on_s hf
    rw [hq16, mm_rf_some]
    obtain ⟨hs17, hf⟩ := mm_sh_s hf
    obtain ⟨q18, hq18, hf⟩ := mm_on_s hf
    refine mm_callVv cd_ok (kX7_addTo q16 q15 hq18) hs17 rfl (Or.inl tw_708) cdX7_addTo tw_709 tw_710 nmX7_addTo rfl rfl (by simp only [List.map_cons, List.map_nil, mm_rf_cat]; exact Nat.le_of_ble_eq_true rfl) dX8_readLines_21 ⟨Nat.le_of_ble_eq_true rfl, Nat.le_of_ble_eq_true rfl⟩ ⟨Nat.le_of_ble_eq_true rfl, Nat.le_of_ble_eq_true rfl⟩ ?_
    refine mm_goto (tgt := 43) dX8_readLines_24 (by decide) ?_
    cases hf
    refine mm_widen (ck' := rmX8_readLines.cells) (sk' := rmX8_readLines.slots) (Nat.le_of_ble_eq_true rfl) (Nat.le_of_ble_eq_true rfl) ?_
    exact mm_vret rfl dX8_readLines_43 ⟨rfl, rfl⟩
theorem dX9_control_0 : decode cX9_control 0 = .ok (.aload_n 0, 1) := by decide +kernel
theorem dX9_control_1 : decode cX9_control 1 = .ok (.iload_n 1, 1) := by decide +kernel
theorem dX9_control_2 : decode cX9_control 2 = .ok (.invokevirtual 136, 3) := by decide +kernel
theorem dX9_control_5 : decode cX9_control 5 = .ok (.istore_n 3, 1) := by decide +kernel
theorem dX9_control_6 : decode cX9_control 6 = .ok (.iload_n 2, 1) := by decide +kernel
theorem dX9_control_7 : decode cX9_control 7 = .ok (.tableswitch 274 0 15 #[77, 87, 274, 274, 136, 183, 183, 183, 274, 194, 204, 204, 214, 223, 241, 250], 77) := by decide +kernel
theorem dX9_control_84 : decode cX9_control 84 = .ok (.aload_n 0, 1) := by decide +kernel
theorem dX9_control_85 : decode cX9_control 85 = .ok (.getfield 19, 3) := by decide +kernel
theorem dX9_control_88 : decode cX9_control 88 = .ok (.iload_n 1, 1) := by decide +kernel
theorem dX9_control_89 : decode cX9_control 89 = .ok (.iconst 1, 1) := by decide +kernel
theorem dX9_control_90 : decode cX9_control 90 = .ok (.iastore, 1) := by decide +kernel
theorem dX9_control_91 : decode cX9_control 91 = .ok (.goto 190, 3) := by decide +kernel
theorem dX9_control_94 : decode cX9_control 94 = .ok (.iload_n 3, 1) := by decide +kernel
theorem dX9_control_95 : decode cX9_control 95 = .ok (.iconst (-1), 1) := by decide +kernel
theorem dX9_control_96 : decode cX9_control 96 = .ok (.if_icmp .eq 185, 3) := by decide +kernel
theorem dX9_control_99 : decode cX9_control 99 = .ok (.aload_n 0, 1) := by decide +kernel
theorem dX9_control_100 : decode cX9_control 100 = .ok (.getfield 25, 3) := by decide +kernel
theorem dX9_control_103 : decode cX9_control 103 = .ok (.iload_n 1, 1) := by decide +kernel
theorem dX9_control_104 : decode cX9_control 104 = .ok (.iaload, 1) := by decide +kernel
theorem dX9_control_105 : decode cX9_control 105 = .ok (.ifCond .le 176, 3) := by decide +kernel
theorem dX9_control_108 : decode cX9_control 108 = .ok (.aload_n 0, 1) := by decide +kernel
theorem dX9_control_109 : decode cX9_control 109 = .ok (.getfield 25, 3) := by decide +kernel
theorem dX9_control_112 : decode cX9_control 112 = .ok (.iload_n 1, 1) := by decide +kernel
theorem dX9_control_113 : decode cX9_control 113 = .ok (.dup2, 1) := by decide +kernel
theorem dX9_control_114 : decode cX9_control 114 = .ok (.iaload, 1) := by decide +kernel
theorem dX9_control_115 : decode cX9_control 115 = .ok (.iconst 1, 1) := by decide +kernel
theorem dX9_control_116 : decode cX9_control 116 = .ok (.isub, 1) := by decide +kernel
theorem dX9_control_117 : decode cX9_control 117 = .ok (.iastore, 1) := by decide +kernel
theorem dX9_control_118 : decode cX9_control 118 = .ok (.aload_n 0, 1) := by decide +kernel
theorem dX9_control_119 : decode cX9_control 119 = .ok (.aload_n 0, 1) := by decide +kernel
theorem dX9_control_120 : decode cX9_control 120 = .ok (.iload_n 1, 1) := by decide +kernel
theorem dX9_control_121 : decode cX9_control 121 = .ok (.iload_n 3, 1) := by decide +kernel
theorem dX9_control_122 : decode cX9_control 122 = .ok (.aload_n 0, 1) := by decide +kernel
theorem dX9_control_123 : decode cX9_control 123 = .ok (.getfield 22, 3) := by decide +kernel
theorem dX9_control_126 : decode cX9_control 126 = .ok (.iload_n 1, 1) := by decide +kernel
theorem dX9_control_127 : decode cX9_control 127 = .ok (.iaload, 1) := by decide +kernel
theorem dX9_control_128 : decode cX9_control 128 = .ok (.aload_n 0, 1) := by decide +kernel
theorem dX9_control_129 : decode cX9_control 129 = .ok (.getfield 25, 3) := by decide +kernel
theorem dX9_control_132 : decode cX9_control 132 = .ok (.iload_n 1, 1) := by decide +kernel
theorem dX9_control_133 : decode cX9_control 133 = .ok (.iaload, 1) := by decide +kernel
theorem dX9_control_134 : decode cX9_control 134 = .ok (.invokevirtual 124, 3) := by decide +kernel
theorem dX9_control_137 : decode cX9_control 137 = .ok (.invokevirtual 128, 3) := by decide +kernel
theorem dX9_control_140 : decode cX9_control 140 = .ok (.goto 141, 3) := by decide +kernel
theorem dX9_control_143 : decode cX9_control 143 = .ok (.aload_n 0, 1) := by decide +kernel
theorem dX9_control_144 : decode cX9_control 144 = .ok (.getfield 25, 3) := by decide +kernel
theorem dX9_control_147 : decode cX9_control 147 = .ok (.iload_n 1, 1) := by decide +kernel
theorem dX9_control_148 : decode cX9_control 148 = .ok (.iaload, 1) := by decide +kernel
theorem dX9_control_149 : decode cX9_control 149 = .ok (.istore 4, 2) := by decide +kernel
theorem dX9_control_151 : decode cX9_control 151 = .ok (.iload 4, 2) := by decide +kernel
theorem dX9_control_153 : decode cX9_control 153 = .ok (.bipush 32, 2) := by decide +kernel
theorem dX9_control_155 : decode cX9_control 155 = .ok (.if_icmp .ge 32, 3) := by decide +kernel
theorem dX9_control_158 : decode cX9_control 158 = .ok (.iload_n 3, 1) := by decide +kernel
theorem dX9_control_159 : decode cX9_control 159 = .ok (.iconst (-1), 1) := by decide +kernel
theorem dX9_control_160 : decode cX9_control 160 = .ok (.if_icmp .eq 27, 3) := by decide +kernel
theorem dX9_control_163 : decode cX9_control 163 = .ok (.aload_n 0, 1) := by decide +kernel
theorem dX9_control_164 : decode cX9_control 164 = .ok (.aload_n 0, 1) := by decide +kernel
theorem dX9_control_165 : decode cX9_control 165 = .ok (.iload_n 1, 1) := by decide +kernel
theorem dX9_control_166 : decode cX9_control 166 = .ok (.iload_n 3, 1) := by decide +kernel
theorem dX9_control_167 : decode cX9_control 167 = .ok (.aload_n 0, 1) := by decide +kernel
theorem dX9_control_168 : decode cX9_control 168 = .ok (.getfield 22, 3) := by decide +kernel
theorem dX9_control_171 : decode cX9_control 171 = .ok (.iload_n 1, 1) := by decide +kernel
theorem dX9_control_172 : decode cX9_control 172 = .ok (.iaload, 1) := by decide +kernel
theorem dX9_control_173 : decode cX9_control 173 = .ok (.iload 4, 2) := by decide +kernel
theorem dX9_control_175 : decode cX9_control 175 = .ok (.invokevirtual 124, 3) := by decide +kernel
theorem dX9_control_178 : decode cX9_control 178 = .ok (.invokevirtual 128, 3) := by decide +kernel
theorem dX9_control_181 : decode cX9_control 181 = .ok (.iinc 4 1, 3) := by decide +kernel
theorem dX9_control_184 : decode cX9_control 184 = .ok (.goto (-33), 3) := by decide +kernel
theorem dX9_control_187 : decode cX9_control 187 = .ok (.goto 94, 3) := by decide +kernel
theorem dX9_control_190 : decode cX9_control 190 = .ok (.aload_n 0, 1) := by decide +kernel
theorem dX9_control_191 : decode cX9_control 191 = .ok (.iload_n 1, 1) := by decide +kernel
theorem dX9_control_192 : decode cX9_control 192 = .ok (.iload_n 2, 1) := by decide +kernel
theorem dX9_control_193 : decode cX9_control 193 = .ok (.iconst 3, 1) := by decide +kernel
theorem dX9_control_194 : decode cX9_control 194 = .ok (.isub, 1) := by decide +kernel
theorem dX9_control_195 : decode cX9_control 195 = .ok (.invokevirtual 160, 3) := by decide +kernel
theorem dX9_control_198 : decode cX9_control 198 = .ok (.goto 83, 3) := by decide +kernel
theorem dX9_control_201 : decode cX9_control 201 = .ok (.aload_n 0, 1) := by decide +kernel
theorem dX9_control_202 : decode cX9_control 202 = .ok (.getfield 19, 3) := by decide +kernel
theorem dX9_control_205 : decode cX9_control 205 = .ok (.iload_n 1, 1) := by decide +kernel
theorem dX9_control_206 : decode cX9_control 206 = .ok (.iconst 3, 1) := by decide +kernel
theorem dX9_control_207 : decode cX9_control 207 = .ok (.iastore, 1) := by decide +kernel
theorem dX9_control_208 : decode cX9_control 208 = .ok (.goto 73, 3) := by decide +kernel
theorem dX9_control_211 : decode cX9_control 211 = .ok (.aload_n 0, 1) := by decide +kernel
theorem dX9_control_212 : decode cX9_control 212 = .ok (.getfield 19, 3) := by decide +kernel
theorem dX9_control_215 : decode cX9_control 215 = .ok (.iload_n 1, 1) := by decide +kernel
theorem dX9_control_216 : decode cX9_control 216 = .ok (.iconst 4, 1) := by decide +kernel
theorem dX9_control_217 : decode cX9_control 217 = .ok (.iastore, 1) := by decide +kernel
theorem dX9_control_218 : decode cX9_control 218 = .ok (.goto 63, 3) := by decide +kernel
theorem dX9_control_221 : decode cX9_control 221 = .ok (.aload_n 0, 1) := by decide +kernel
theorem dX9_control_222 : decode cX9_control 222 = .ok (.iload_n 1, 1) := by decide +kernel
theorem dX9_control_223 : decode cX9_control 223 = .ok (.iconst 0, 1) := by decide +kernel
theorem dX9_control_224 : decode cX9_control 224 = .ok (.invokevirtual 163, 3) := by decide +kernel
theorem dX9_control_227 : decode cX9_control 227 = .ok (.goto 54, 3) := by decide +kernel
theorem dX9_control_230 : decode cX9_control 230 = .ok (.aload_n 0, 1) := by decide +kernel
theorem dX9_control_231 : decode cX9_control 231 = .ok (.getfield 19, 3) := by decide +kernel
theorem dX9_control_234 : decode cX9_control 234 = .ok (.iload_n 1, 1) := by decide +kernel
theorem dX9_control_235 : decode cX9_control 235 = .ok (.iaload, 1) := by decide +kernel
theorem dX9_control_236 : decode cX9_control 236 = .ok (.iconst 2, 1) := by decide +kernel
theorem dX9_control_237 : decode cX9_control 237 = .ok (.if_icmp .ne 44, 3) := by decide +kernel
theorem dX9_control_240 : decode cX9_control 240 = .ok (.aload_n 0, 1) := by decide +kernel
theorem dX9_control_241 : decode cX9_control 241 = .ok (.iload_n 1, 1) := by decide +kernel
theorem dX9_control_242 : decode cX9_control 242 = .ok (.invokevirtual 166, 3) := by decide +kernel
theorem dX9_control_245 : decode cX9_control 245 = .ok (.goto 36, 3) := by decide +kernel
theorem dX9_control_248 : decode cX9_control 248 = .ok (.aload_n 0, 1) := by decide +kernel
theorem dX9_control_249 : decode cX9_control 249 = .ok (.iload_n 1, 1) := by decide +kernel
theorem dX9_control_250 : decode cX9_control 250 = .ok (.iconst 1, 1) := by decide +kernel
theorem dX9_control_251 : decode cX9_control 251 = .ok (.invokevirtual 163, 3) := by decide +kernel
theorem dX9_control_254 : decode cX9_control 254 = .ok (.goto 27, 3) := by decide +kernel
theorem dX9_control_257 : decode cX9_control 257 = .ok (.aload_n 0, 1) := by decide +kernel
theorem dX9_control_258 : decode cX9_control 258 = .ok (.getfield 16, 3) := by decide +kernel
theorem dX9_control_261 : decode cX9_control 261 = .ok (.iload_n 1, 1) := by decide +kernel
theorem dX9_control_262 : decode cX9_control 262 = .ok (.iconst 1, 1) := by decide +kernel
theorem dX9_control_263 : decode cX9_control 263 = .ok (.aload_n 0, 1) := by decide +kernel
theorem dX9_control_264 : decode cX9_control 264 = .ok (.getfield 16, 3) := by decide +kernel
theorem dX9_control_267 : decode cX9_control 267 = .ok (.iload_n 1, 1) := by decide +kernel
theorem dX9_control_268 : decode cX9_control 268 = .ok (.iaload, 1) := by decide +kernel
theorem dX9_control_269 : decode cX9_control 269 = .ok (.isub, 1) := by decide +kernel
theorem dX9_control_270 : decode cX9_control 270 = .ok (.iastore, 1) := by decide +kernel
theorem dX9_control_271 : decode cX9_control 271 = .ok (.aload_n 0, 1) := by decide +kernel
theorem dX9_control_272 : decode cX9_control 272 = .ok (.getfield 19, 3) := by decide +kernel
theorem dX9_control_275 : decode cX9_control 275 = .ok (.iload_n 1, 1) := by decide +kernel
theorem dX9_control_276 : decode cX9_control 276 = .ok (.iconst 1, 1) := by decide +kernel
theorem dX9_control_277 : decode cX9_control 277 = .ok (.iastore, 1) := by decide +kernel
theorem dX9_control_278 : decode cX9_control 278 = .ok (.goto 3, 3) := by decide +kernel
theorem dX9_control_281 : decode cX9_control 281 = .ok (.return_, 1) := by decide +kernel
theorem nmX9_control : mm_nm yX9_control 2 := ⟨by decide, by decide, by decide +kernel⟩
theorem cdX9_control : mm_cd cd_Y yX9_control cX9_control 5 none := ⟨tw_989, tw_8⟩
abbrev rmX9_control : Room := { frames := 4, cells := 0, slots := 0, locals := 95 }
def fX9_control_151  : Nat → Nat → Int32 → Int32 → Int32 → Int32 → mm_M → Option mm_M
  | 0 => fun _ _ _ _ _ _ => none
  | n + 1 => fun a0 x1 x2 x3 x4 σ =>
  (if 32 ≤ x4 then some (σ) else (if x3 = (-1) then some (σ) else mm_sh σ a0 (.inl 9) (mm_on (mm_R σ a0 5) fun q38 => mm_ar σ q38 0 fun n39 => mm_ib x1 n39 (mm_on (fX9_cellAt a0 x1 x3 (mm_I σ q38 x1.toNatClampNeg) x4 σ) fun q41 => mm_sh q41.2 a0 (.inl 9) (mm_on (fX9_clear a0 q41.1 q41.2) fun q43 => (fX9_control_151  n a0 x1 x2 x3 (x4 + 1) q43))))))
def fX9_control (p0 : Nat) (p1 : Int32) (p2 : Int32) (σ : mm_M) : Option mm_M :=
  mm_sh σ p0 (.inl 9) (mm_on (fX9_screenOf p0 p1 σ) fun q2 => (if p2 = 0 then mm_sh q2.2 p0 (.inl 9) (mm_on (mm_R q2.2 p0 4) fun q5 => mm_ar q2.2 q5 0 fun n6 => mm_ib p1 n6 (mm_let (mm_wI q2.2 q5 (p1.toNatClampNeg) 1) fun s8 => some (s8))) else (if p2 = 1 then (if q2.1 = (-1) then some (q2.2) else mm_sh q2.2 p0 (.inl 9) (mm_on (mm_R q2.2 p0 6) fun q12 => mm_ar q2.2 q12 0 fun n13 => mm_ib p1 n13 ((if (mm_I q2.2 q12 p1.toNatClampNeg) ≤ 0 then some (q2.2) else mm_on (mm_R q2.2 p0 6) fun q16 => mm_ar q2.2 q16 0 fun n17 => mm_ib p1 n17 (mm_ib p1 n17 (mm_let (mm_wI q2.2 q16 (p1.toNatClampNeg) ((mm_I q2.2 q16 p1.toNatClampNeg) - 1)) fun s20 => mm_on (mm_R s20 p0 5) fun q21 => mm_ar s20 q21 0 fun n22 => mm_ib p1 n22 (mm_on (mm_R s20 p0 6) fun q24 => mm_ar s20 q24 0 fun n25 => mm_ib p1 n25 (mm_on (fX9_cellAt p0 p1 q2.1 (mm_I s20 q21 p1.toNatClampNeg) (mm_I s20 q24 p1.toNatClampNeg) s20) fun q27 => mm_sh q27.2 p0 (.inl 9) (mm_on (fX9_clear p0 q27.1 q27.2) fun q29 => some (q29)))))))))) else (if p2 = 4 then mm_sh q2.2 p0 (.inl 9) (mm_on (mm_R q2.2 p0 6) fun q32 => mm_ar q2.2 q32 0 fun n33 => mm_ib p1 n33 ((fX9_control_151  mm_fuel p0 p1 p2 q2.1 (mm_I q2.2 q32 p1.toNatClampNeg) q2.2))) else (if p2 = 5 then mm_sh q2.2 p0 (.inl 9) (mm_on (fX9_roll p0 p1 (p2 - 3) q2.2) fun q46 => some (q46)) else (if p2 = 6 then mm_sh q2.2 p0 (.inl 9) (mm_on (fX9_roll p0 p1 (p2 - 3) q2.2) fun q49 => some (q49)) else (if p2 = 7 then mm_sh q2.2 p0 (.inl 9) (mm_on (fX9_roll p0 p1 (p2 - 3) q2.2) fun q52 => some (q52)) else (if p2 = 9 then mm_sh q2.2 p0 (.inl 9) (mm_on (mm_R q2.2 p0 4) fun q55 => mm_ar q2.2 q55 0 fun n56 => mm_ib p1 n56 (mm_let (mm_wI q2.2 q55 (p1.toNatClampNeg) 3) fun s58 => some (s58))) else (if p2 = 10 then mm_sh q2.2 p0 (.inl 9) (mm_on (mm_R q2.2 p0 4) fun q61 => mm_ar q2.2 q61 0 fun n62 => mm_ib p1 n62 (mm_let (mm_wI q2.2 q61 (p1.toNatClampNeg) 4) fun s64 => some (s64))) else (if p2 = 11 then mm_sh q2.2 p0 (.inl 9) (mm_on (mm_R q2.2 p0 4) fun q67 => mm_ar q2.2 q67 0 fun n68 => mm_ib p1 n68 (mm_let (mm_wI q2.2 q67 (p1.toNatClampNeg) 4) fun s70 => some (s70))) else (if p2 = 12 then mm_sh q2.2 p0 (.inl 9) (mm_on (fX9_clearScreen p0 p1 0 q2.2) fun q73 => some (q73)) else (if p2 = 13 then mm_sh q2.2 p0 (.inl 9) (mm_on (mm_R q2.2 p0 4) fun q76 => mm_ar q2.2 q76 0 fun n77 => mm_ib p1 n77 ((if (mm_I q2.2 q76 p1.toNatClampNeg) = 2 then mm_on (fX9_up p0 p1 q2.2) fun q80 => some (q80) else some (q2.2)))) else (if p2 = 14 then mm_sh q2.2 p0 (.inl 9) (mm_on (fX9_clearScreen p0 p1 1 q2.2) fun q83 => some (q83)) else (if p2 = 15 then mm_sh q2.2 p0 (.inl 9) (mm_on (mm_R q2.2 p0 3) fun q86 => mm_ar q2.2 q86 0 fun n87 => mm_ib p1 n87 (mm_ib p1 n87 (mm_let (mm_wI q2.2 q86 (p1.toNatClampNeg) (1 - (mm_I q2.2 q86 p1.toNatClampNeg))) fun s90 => mm_on (mm_R s90 p0 4) fun q91 => mm_ar s90 q91 0 fun n92 => mm_ib p1 n92 (mm_let (mm_wI s90 q91 (p1.toNatClampNeg) 1) fun s94 => some (s94))))) else some (q2.2)))))))))))))))
set_option maxHeartbeats 4000000 in
set_option maxRecDepth 100000 in
theorem kX9_control_151 {G : mm_G} {A : Nat → Prop} {ini : Bool × Option (List (Nat × Nat × Nat × Nat))}  {R : mm_M}  : ∀ (a0 : Nat) (x1 : Int32) (x2 : Int32) (x3 : Int32) (x4 : Int32) (σ : mm_M), fX9_control_151  mm_fuel a0 x1 x2 x3 x4 σ = some R → mm_J cd_Y G RX9 cX9_control 5 none ini rmX9_control A (mm_QF cd_Y G A (mm_Pv R) rmX9_control.cells rmX9_control.slots) 151 [(0, .ref a0), (1, .int x1), (2, .int x2), (3, .int x3), (4, .int x4)] [] σ 0 0 := by
  generalize mm_fuel = n
  induction n with
  | zero => intro a0 x1 x2 x3 x4 σ hf; cases hf
  | succ n ih =>
    intro a0 x1 x2 x3 x4 σ hf
    unfold fX9_control_151 at hf
    refine mm_iload (j := 4) dX9_control_151 rfl ?_
    refine mm_bipush (v := 32) dX9_control_153 (by decide) ?_
    refine mm_icmp_ge (tgt := 187) dX9_control_155 (by decide) (fun c35 => ?_) (fun c35 => ?_)
    · rw [if_pos c35] at hf
      refine mm_goto (tgt := 281) dX9_control_187 (by decide) ?_
      cases hf
      refine mm_widen (ck' := rmX9_control.cells) (sk' := rmX9_control.slots) (Nat.le_of_ble_eq_true rfl) (Nat.le_of_ble_eq_true rfl) ?_
      exact mm_vret rfl dX9_control_281 ⟨rfl, rfl⟩
    · rw [if_neg c35] at hf
      refine mm_iload_n (j := 3) dX9_control_158 rfl rfl ?_
      refine mm_iconst (v := (-1)) dX9_control_159 (by decide) ?_
      refine mm_icmp_eq (tgt := 187) dX9_control_160 (by decide) (fun c36 => ?_) (fun c36 => ?_)
      · rw [if_pos c36] at hf
        refine mm_goto (tgt := 281) dX9_control_187 (by decide) ?_
        cases hf
        refine mm_widen (ck' := rmX9_control.cells) (sk' := rmX9_control.slots) (Nat.le_of_ble_eq_true rfl) (Nat.le_of_ble_eq_true rfl) ?_
        exact mm_vret rfl dX9_control_281 ⟨rfl, rfl⟩
      · rw [if_neg c36] at hf
        refine mm_aload_n (j := 0) dX9_control_163 rfl rfl ?_
        refine mm_aload_n (j := 0) dX9_control_164 rfl rfl ?_
        refine mm_iload_n (j := 1) dX9_control_165 rfl rfl ?_
        refine mm_iload_n (j := 3) dX9_control_166 rfl rfl ?_
        refine mm_aload_n (j := 0) dX9_control_167 rfl rfl ?_
        obtain ⟨hs37, hf⟩ := mm_sh_s hf
        refine mm_get (c := 9) (k := 5) (v := va_rf (mm_R σ a0 5)) cd_ok ⟨_, _, _, rfl, by decide, Or.inl tw_799⟩ hs37 rfl dX9_control_168 ?_
        refine mm_iload_n (j := 1) dX9_control_171 rfl rfl ?_
        obtain ⟨q38, hq38, hf⟩ := mm_on_s hf
        rw [hq38, mm_rf_some]
        obtain ⟨n39, hn39, hf⟩ := mm_ar_s hf
        obtain ⟨hi40, hf⟩ := mm_ib_s hf
        refine mm_iald hn39 rfl hi40 dX9_control_172 ?_
        refine mm_iload (j := 4) dX9_control_173 rfl ?_
        obtain ⟨q41, hq41, hf⟩ := mm_on_s hf
        refine mm_callVi cd_ok (kX9_cellAt a0 x1 x3 (mm_I σ q38 x1.toNatClampNeg) x4 hq41) hs37 rfl (Or.inl tw_970) cdX9_cellAt tw_972 ts_36 nmX9_cellAt rfl rfl (by simp only [List.map_cons, List.map_nil, mm_rf_cat]; exact Nat.le_of_ble_eq_true rfl) dX9_control_175 ⟨Nat.le_of_ble_eq_true rfl, Nat.le_of_ble_eq_true rfl⟩ ⟨Nat.le_of_ble_eq_true rfl, Nat.le_of_ble_eq_true rfl⟩ ?_
        obtain ⟨hs42, hf⟩ := mm_sh_s hf
        obtain ⟨q43, hq43, hf⟩ := mm_on_s hf
        refine mm_callVv cd_ok (kX9_clear a0 q41.1 hq43) hs42 rfl (Or.inl tw_978) cdX9_clear tw_980 ts_38 nmX9_clear rfl rfl (by simp only [List.map_cons, List.map_nil, mm_rf_cat]; exact Nat.le_of_ble_eq_true rfl) dX9_control_178 ⟨Nat.le_of_ble_eq_true rfl, Nat.le_of_ble_eq_true rfl⟩ ⟨Nat.le_of_ble_eq_true rfl, Nat.le_of_ble_eq_true rfl⟩ ?_
        refine mm_iinc (j := 4) (L' := [(4, .int (x4 + 1)), (0, .ref a0), (1, .int x1), (2, .int x2), (3, .int x3)]) dX9_control_181 rfl rfl (by decide) rfl ?_
        refine mm_goto (tgt := 151) dX9_control_184 (by decide) ?_
        refine mm_sub [1, 2, 3, 4, 0] rfl ?_
        exact ih a0 x1 x2 x3 (x4 + 1) q43 hf
set_option maxHeartbeats 4000000 in
set_option maxRecDepth 100000 in
theorem kX9_control {G : mm_G} {A : Nat → Prop} (p0 : Nat) (p1 : Int32) (p2 : Int32) {σ : mm_M} {R : mm_M} (hf : fX9_control p0 p1 p2 σ = some R) : mm_C cd_Y G yX9_control cX9_control 5 none rmX9_control A [.ref p0, .int p1, .int p2] σ (mm_Pv R) := by
  refine mm_C.of (by decide) (Nat.le_of_ble_eq_true rfl) ?_
  unfold fX9_control at hf
  have e0 : lv_args 0 [.ref p0, .int p1, .int p2] = [(0, .ref p0), (1, .int p1), (2, .int p2)] := rfl
  rw [e0]
  generalize hini : ((yX9_control.name == "<init>"), none) = ini
  clear e0
  clear hini
  refine mm_aload_n (j := 0) dX9_control_0 rfl rfl ?_
  refine mm_iload_n (j := 1) dX9_control_1 rfl rfl ?_
  obtain ⟨hs1, hf⟩ := mm_sh_s hf
  obtain ⟨q2, hq2, hf⟩ := mm_on_s hf
  refine mm_callVi cd_ok (kX9_screenOf p0 p1 hq2) hs1 rfl (Or.inl tw_959) cdX9_screenOf tw_961 ts_34 nmX9_screenOf rfl rfl (by simp only [List.map_cons, List.map_nil, mm_rf_cat]; exact Nat.le_of_ble_eq_true rfl) dX9_control_2 ⟨Nat.le_of_ble_eq_true rfl, Nat.le_of_ble_eq_true rfl⟩ ⟨Nat.le_of_ble_eq_true rfl, Nat.le_of_ble_eq_true rfl⟩ ?_
  refine mm_istore_n (L' := [(3, .int q2.1), (0, .ref p0), (1, .int p1), (2, .int p2)]) dX9_control_5 rfl (by decide) rfl ?_
  refine mm_iload_n (j := 3) dX9_control_6 rfl rfl ?_
  by_cases c3 : p2 = 0
  · rw [if_pos c3] at hf
    refine mm_tableEq (off := 77) (tgt := 84) dX9_control_7 c3 (by decide) (by decide) (by decide) (by decide) ?_
    refine mm_aload_n (j := 1) dX9_control_84 rfl rfl ?_
    obtain ⟨hs4, hf⟩ := mm_sh_s hf
    refine mm_get (c := 9) (k := 4) (v := va_rf (mm_R q2.2 p0 4)) cd_ok ⟨_, _, _, rfl, by decide, Or.inl tw_798⟩ hs4 rfl dX9_control_85 ?_
    refine mm_iload_n (j := 2) dX9_control_88 rfl rfl ?_
    refine mm_iconst (v := 1) dX9_control_89 (by decide) ?_
    obtain ⟨q5, hq5, hf⟩ := mm_on_s hf
    rw [hq5, mm_rf_some]
    obtain ⟨n6, hn6, hf⟩ := mm_ar_s hf
    obtain ⟨hi7, hf⟩ := mm_ib_s hf
    refine mm_iast hn6 rfl hi7 dX9_control_90 ?_
    obtain ⟨s8, hs8, hf⟩ := mm_let_s hf
    rw [hs8]
    refine mm_goto (tgt := 281) dX9_control_91 (by decide) ?_
    cases hf
    refine mm_widen (ck' := rmX9_control.cells) (sk' := rmX9_control.slots) (Nat.le_of_ble_eq_true rfl) (Nat.le_of_ble_eq_true rfl) ?_
    exact mm_vret rfl dX9_control_281 ⟨rfl, rfl⟩
  rw [if_neg c3] at hf
  by_cases c9 : p2 = 1
  · rw [if_pos c9] at hf
    refine mm_tableEq (off := 87) (tgt := 94) dX9_control_7 c9 (by decide) (by decide) (by decide) (by decide) ?_
    refine mm_iload_n (j := 0) dX9_control_94 rfl rfl ?_
    refine mm_iconst (v := (-1)) dX9_control_95 (by decide) ?_
    refine mm_icmp_eq (tgt := 281) dX9_control_96 (by decide) (fun c10 => ?_) (fun c10 => ?_)
    · rw [if_pos c10] at hf
      cases hf
      refine mm_widen (ck' := rmX9_control.cells) (sk' := rmX9_control.slots) (Nat.le_of_ble_eq_true rfl) (Nat.le_of_ble_eq_true rfl) ?_
      exact mm_vret rfl dX9_control_281 ⟨rfl, rfl⟩
    · rw [if_neg c10] at hf
      refine mm_aload_n (j := 1) dX9_control_99 rfl rfl ?_
      obtain ⟨hs11, hf⟩ := mm_sh_s hf
      refine mm_get (c := 9) (k := 6) (v := va_rf (mm_R q2.2 p0 6)) cd_ok ⟨_, _, _, rfl, by decide, Or.inl tw_800⟩ hs11 rfl dX9_control_100 ?_
      refine mm_iload_n (j := 2) dX9_control_103 rfl rfl ?_
      obtain ⟨q12, hq12, hf⟩ := mm_on_s hf
      rw [hq12, mm_rf_some]
      obtain ⟨n13, hn13, hf⟩ := mm_ar_s hf
      obtain ⟨hi14, hf⟩ := mm_ib_s hf
      refine mm_iald hn13 rfl hi14 dX9_control_104 ?_
      refine mm_if_le (tgt := 281) dX9_control_105 (by decide) (fun c15 => ?_) (fun c15 => ?_)
      · rw [if_pos c15] at hf
        cases hf
        refine mm_widen (ck' := rmX9_control.cells) (sk' := rmX9_control.slots) (Nat.le_of_ble_eq_true rfl) (Nat.le_of_ble_eq_true rfl) ?_
        exact mm_vret rfl dX9_control_281 ⟨rfl, rfl⟩
      · rw [if_neg c15] at hf
        refine mm_aload_n (j := 1) dX9_control_108 rfl rfl ?_
        refine mm_get (c := 9) (k := 6) (v := va_rf (mm_R q2.2 p0 6)) cd_ok ⟨_, _, _, rfl, by decide, Or.inl tw_800⟩ hs11 rfl dX9_control_109 ?_
        refine mm_iload_n (j := 2) dX9_control_112 rfl rfl ?_
        refine mm_dup2 dX9_control_113 rfl (mm_rf_cat _) ?_
        obtain ⟨q16, hq16, hf⟩ := mm_on_s hf
        rw [hq16, mm_rf_some]
        obtain ⟨n17, hn17, hf⟩ := mm_ar_s hf
        obtain ⟨hi18, hf⟩ := mm_ib_s hf
        refine mm_iald hn17 rfl hi18 dX9_control_114 ?_
        refine mm_iconst (v := 1) dX9_control_115 (by decide) ?_
        refine mm_isub dX9_control_116 ?_
        obtain ⟨hi19, hf⟩ := mm_ib_s hf
        refine mm_iast hn17 rfl hi19 dX9_control_117 ?_
        obtain ⟨s20, hs20, hf⟩ := mm_let_s hf
        rw [hs20]
        refine mm_aload_n (j := 1) dX9_control_118 rfl rfl ?_
        refine mm_aload_n (j := 1) dX9_control_119 rfl rfl ?_
        refine mm_iload_n (j := 2) dX9_control_120 rfl rfl ?_
        refine mm_iload_n (j := 0) dX9_control_121 rfl rfl ?_
        refine mm_aload_n (j := 1) dX9_control_122 rfl rfl ?_
        refine mm_get (c := 9) (k := 5) (v := va_rf (mm_R s20 p0 5)) cd_ok ⟨_, _, _, rfl, by decide, Or.inl tw_799⟩ (mm_ke hs20 hs11) rfl dX9_control_123 ?_
        refine mm_iload_n (j := 2) dX9_control_126 rfl rfl ?_
        obtain ⟨q21, hq21, hf⟩ := mm_on_s hf
        rw [hq21, mm_rf_some]
        obtain ⟨n22, hn22, hf⟩ := mm_ar_s hf
        obtain ⟨hi23, hf⟩ := mm_ib_s hf
        refine mm_iald hn22 rfl hi23 dX9_control_127 ?_
        refine mm_aload_n (j := 1) dX9_control_128 rfl rfl ?_
        refine mm_get (c := 9) (k := 6) (v := va_rf (mm_R s20 p0 6)) cd_ok ⟨_, _, _, rfl, by decide, Or.inl tw_800⟩ (mm_ke hs20 hs11) rfl dX9_control_129 ?_
        refine mm_iload_n (j := 2) dX9_control_132 rfl rfl ?_
        obtain ⟨q24, hq24, hf⟩ := mm_on_s hf
        rw [hq24, mm_rf_some]
        obtain ⟨n25, hn25, hf⟩ := mm_ar_s hf
        obtain ⟨hi26, hf⟩ := mm_ib_s hf
        refine mm_iald hn25 rfl hi26 dX9_control_133 ?_
        obtain ⟨q27, hq27, hf⟩ := mm_on_s hf
        refine mm_callVi cd_ok (kX9_cellAt p0 p1 q2.1 (mm_I s20 q21 p1.toNatClampNeg) (mm_I s20 q24 p1.toNatClampNeg) hq27) (mm_ke hs20 hs11) rfl (Or.inl tw_970) cdX9_cellAt tw_972 ts_36 nmX9_cellAt rfl rfl (by simp only [List.map_cons, List.map_nil, mm_rf_cat]; exact Nat.le_of_ble_eq_true rfl) dX9_control_134 ⟨Nat.le_of_ble_eq_true rfl, Nat.le_of_ble_eq_true rfl⟩ ⟨Nat.le_of_ble_eq_true rfl, Nat.le_of_ble_eq_true rfl⟩ ?_
        obtain ⟨hs28, hf⟩ := mm_sh_s hf
        obtain ⟨q29, hq29, hf⟩ := mm_on_s hf
        refine mm_callVv cd_ok (kX9_clear p0 q27.1 hq29) hs28 rfl (Or.inl tw_978) cdX9_clear tw_980 ts_38 nmX9_clear rfl rfl (by simp only [List.map_cons, List.map_nil, mm_rf_cat]; exact Nat.le_of_ble_eq_true rfl) dX9_control_137 ⟨Nat.le_of_ble_eq_true rfl, Nat.le_of_ble_eq_true rfl⟩ ⟨Nat.le_of_ble_eq_true rfl, Nat.le_of_ble_eq_true rfl⟩ ?_
        refine mm_goto (tgt := 281) dX9_control_140 (by decide) ?_
        cases hf
        refine mm_widen (ck' := rmX9_control.cells) (sk' := rmX9_control.slots) (Nat.le_of_ble_eq_true rfl) (Nat.le_of_ble_eq_true rfl) ?_
        exact mm_vret rfl dX9_control_281 ⟨rfl, rfl⟩
  rw [if_neg c9] at hf
  by_cases c30 : p2 = 4
  · rw [if_pos c30] at hf
    refine mm_tableEq (off := 136) (tgt := 143) dX9_control_7 c30 (by decide) (by decide) (by decide) (by decide) ?_
    refine mm_aload_n (j := 1) dX9_control_143 rfl rfl ?_
    obtain ⟨hs31, hf⟩ := mm_sh_s hf
    refine mm_get (c := 9) (k := 6) (v := va_rf (mm_R q2.2 p0 6)) cd_ok ⟨_, _, _, rfl, by decide, Or.inl tw_800⟩ hs31 rfl dX9_control_144 ?_
    refine mm_iload_n (j := 2) dX9_control_147 rfl rfl ?_
    obtain ⟨q32, hq32, hf⟩ := mm_on_s hf
    rw [hq32, mm_rf_some]
    obtain ⟨n33, hn33, hf⟩ := mm_ar_s hf
    obtain ⟨hi34, hf⟩ := mm_ib_s hf
    refine mm_iald hn33 rfl hi34 dX9_control_148 ?_
    refine mm_istore (L' := [(4, .int (mm_I q2.2 q32 p1.toNatClampNeg)), (3, .int q2.1), (0, .ref p0), (1, .int p1), (2, .int p2)]) dX9_control_149 (by decide) rfl ?_
    refine mm_sub [2, 3, 4, 1, 0] rfl ?_
    exact kX9_control_151  p0 p1 p2 q2.1 (mm_I q2.2 q32 p1.toNatClampNeg) q2.2 hf
  rw [if_neg c30] at hf
  by_cases c44 : p2 = 5
  · rw [if_pos c44] at hf
    refine mm_tableEq (off := 183) (tgt := 190) dX9_control_7 c44 (by decide) (by decide) (by decide) (by decide) ?_
    refine mm_aload_n (j := 1) dX9_control_190 rfl rfl ?_
    refine mm_iload_n (j := 2) dX9_control_191 rfl rfl ?_
    refine mm_iload_n (j := 3) dX9_control_192 rfl rfl ?_
    refine mm_iconst (v := 3) dX9_control_193 (by decide) ?_
    refine mm_isub dX9_control_194 ?_
    obtain ⟨hs45, hf⟩ := mm_sh_s hf
    obtain ⟨q46, hq46, hf⟩ := mm_on_s hf
    refine mm_callVv cd_ok (kX9_roll p0 p1 (p2 - 3) hq46) hs45 rfl (Or.inl tw_990) cdX9_roll tw_992 ts_41 nmX9_roll rfl rfl (by simp only [List.map_cons, List.map_nil, mm_rf_cat]; exact Nat.le_of_ble_eq_true rfl) dX9_control_195 ⟨Nat.le_of_ble_eq_true rfl, Nat.le_of_ble_eq_true rfl⟩ ⟨Nat.le_of_ble_eq_true rfl, Nat.le_of_ble_eq_true rfl⟩ ?_
    refine mm_goto (tgt := 281) dX9_control_198 (by decide) ?_
    cases hf
    refine mm_widen (ck' := rmX9_control.cells) (sk' := rmX9_control.slots) (Nat.le_of_ble_eq_true rfl) (Nat.le_of_ble_eq_true rfl) ?_
    exact mm_vret rfl dX9_control_281 ⟨rfl, rfl⟩
  rw [if_neg c44] at hf
  by_cases c47 : p2 = 6
  · rw [if_pos c47] at hf
    refine mm_tableEq (off := 183) (tgt := 190) dX9_control_7 c47 (by decide) (by decide) (by decide) (by decide) ?_
    refine mm_aload_n (j := 1) dX9_control_190 rfl rfl ?_
    refine mm_iload_n (j := 2) dX9_control_191 rfl rfl ?_
    refine mm_iload_n (j := 3) dX9_control_192 rfl rfl ?_
    refine mm_iconst (v := 3) dX9_control_193 (by decide) ?_
    refine mm_isub dX9_control_194 ?_
    obtain ⟨hs48, hf⟩ := mm_sh_s hf
    obtain ⟨q49, hq49, hf⟩ := mm_on_s hf
    refine mm_callVv cd_ok (kX9_roll p0 p1 (p2 - 3) hq49) hs48 rfl (Or.inl tw_990) cdX9_roll tw_992 ts_41 nmX9_roll rfl rfl (by simp only [List.map_cons, List.map_nil, mm_rf_cat]; exact Nat.le_of_ble_eq_true rfl) dX9_control_195 ⟨Nat.le_of_ble_eq_true rfl, Nat.le_of_ble_eq_true rfl⟩ ⟨Nat.le_of_ble_eq_true rfl, Nat.le_of_ble_eq_true rfl⟩ ?_
    refine mm_goto (tgt := 281) dX9_control_198 (by decide) ?_
    cases hf
    refine mm_widen (ck' := rmX9_control.cells) (sk' := rmX9_control.slots) (Nat.le_of_ble_eq_true rfl) (Nat.le_of_ble_eq_true rfl) ?_
    exact mm_vret rfl dX9_control_281 ⟨rfl, rfl⟩
  rw [if_neg c47] at hf
  by_cases c50 : p2 = 7
  · rw [if_pos c50] at hf
    refine mm_tableEq (off := 183) (tgt := 190) dX9_control_7 c50 (by decide) (by decide) (by decide) (by decide) ?_
    refine mm_aload_n (j := 1) dX9_control_190 rfl rfl ?_
    refine mm_iload_n (j := 2) dX9_control_191 rfl rfl ?_
    refine mm_iload_n (j := 3) dX9_control_192 rfl rfl ?_
    refine mm_iconst (v := 3) dX9_control_193 (by decide) ?_
    refine mm_isub dX9_control_194 ?_
    obtain ⟨hs51, hf⟩ := mm_sh_s hf
    obtain ⟨q52, hq52, hf⟩ := mm_on_s hf
    refine mm_callVv cd_ok (kX9_roll p0 p1 (p2 - 3) hq52) hs51 rfl (Or.inl tw_990) cdX9_roll tw_992 ts_41 nmX9_roll rfl rfl (by simp only [List.map_cons, List.map_nil, mm_rf_cat]; exact Nat.le_of_ble_eq_true rfl) dX9_control_195 ⟨Nat.le_of_ble_eq_true rfl, Nat.le_of_ble_eq_true rfl⟩ ⟨Nat.le_of_ble_eq_true rfl, Nat.le_of_ble_eq_true rfl⟩ ?_
    refine mm_goto (tgt := 281) dX9_control_198 (by decide) ?_
    cases hf
    refine mm_widen (ck' := rmX9_control.cells) (sk' := rmX9_control.slots) (Nat.le_of_ble_eq_true rfl) (Nat.le_of_ble_eq_true rfl) ?_
    exact mm_vret rfl dX9_control_281 ⟨rfl, rfl⟩
  rw [if_neg c50] at hf
  by_cases c53 : p2 = 9
  · rw [if_pos c53] at hf
    refine mm_tableEq (off := 194) (tgt := 201) dX9_control_7 c53 (by decide) (by decide) (by decide) (by decide) ?_
    refine mm_aload_n (j := 1) dX9_control_201 rfl rfl ?_
    obtain ⟨hs54, hf⟩ := mm_sh_s hf
    refine mm_get (c := 9) (k := 4) (v := va_rf (mm_R q2.2 p0 4)) cd_ok ⟨_, _, _, rfl, by decide, Or.inl tw_798⟩ hs54 rfl dX9_control_202 ?_
    refine mm_iload_n (j := 2) dX9_control_205 rfl rfl ?_
    refine mm_iconst (v := 3) dX9_control_206 (by decide) ?_
    obtain ⟨q55, hq55, hf⟩ := mm_on_s hf
    rw [hq55, mm_rf_some]
    obtain ⟨n56, hn56, hf⟩ := mm_ar_s hf
    obtain ⟨hi57, hf⟩ := mm_ib_s hf
    refine mm_iast hn56 rfl hi57 dX9_control_207 ?_
    obtain ⟨s58, hs58, hf⟩ := mm_let_s hf
    rw [hs58]
    refine mm_goto (tgt := 281) dX9_control_208 (by decide) ?_
    cases hf
    refine mm_widen (ck' := rmX9_control.cells) (sk' := rmX9_control.slots) (Nat.le_of_ble_eq_true rfl) (Nat.le_of_ble_eq_true rfl) ?_
    exact mm_vret rfl dX9_control_281 ⟨rfl, rfl⟩
  rw [if_neg c53] at hf
  by_cases c59 : p2 = 10
  · rw [if_pos c59] at hf
    refine mm_tableEq (off := 204) (tgt := 211) dX9_control_7 c59 (by decide) (by decide) (by decide) (by decide) ?_
    refine mm_aload_n (j := 1) dX9_control_211 rfl rfl ?_
    obtain ⟨hs60, hf⟩ := mm_sh_s hf
    refine mm_get (c := 9) (k := 4) (v := va_rf (mm_R q2.2 p0 4)) cd_ok ⟨_, _, _, rfl, by decide, Or.inl tw_798⟩ hs60 rfl dX9_control_212 ?_
    refine mm_iload_n (j := 2) dX9_control_215 rfl rfl ?_
    refine mm_iconst (v := 4) dX9_control_216 (by decide) ?_
    obtain ⟨q61, hq61, hf⟩ := mm_on_s hf
    rw [hq61, mm_rf_some]
    obtain ⟨n62, hn62, hf⟩ := mm_ar_s hf
    obtain ⟨hi63, hf⟩ := mm_ib_s hf
    refine mm_iast hn62 rfl hi63 dX9_control_217 ?_
    obtain ⟨s64, hs64, hf⟩ := mm_let_s hf
    rw [hs64]
    refine mm_goto (tgt := 281) dX9_control_218 (by decide) ?_
    cases hf
    refine mm_widen (ck' := rmX9_control.cells) (sk' := rmX9_control.slots) (Nat.le_of_ble_eq_true rfl) (Nat.le_of_ble_eq_true rfl) ?_
    exact mm_vret rfl dX9_control_281 ⟨rfl, rfl⟩
  rw [if_neg c59] at hf
  by_cases c65 : p2 = 11
  · rw [if_pos c65] at hf
    refine mm_tableEq (off := 204) (tgt := 211) dX9_control_7 c65 (by decide) (by decide) (by decide) (by decide) ?_
    refine mm_aload_n (j := 1) dX9_control_211 rfl rfl ?_
    obtain ⟨hs66, hf⟩ := mm_sh_s hf
    refine mm_get (c := 9) (k := 4) (v := va_rf (mm_R q2.2 p0 4)) cd_ok ⟨_, _, _, rfl, by decide, Or.inl tw_798⟩ hs66 rfl dX9_control_212 ?_
    refine mm_iload_n (j := 2) dX9_control_215 rfl rfl ?_
    refine mm_iconst (v := 4) dX9_control_216 (by decide) ?_
    obtain ⟨q67, hq67, hf⟩ := mm_on_s hf
    rw [hq67, mm_rf_some]
    obtain ⟨n68, hn68, hf⟩ := mm_ar_s hf
    obtain ⟨hi69, hf⟩ := mm_ib_s hf
    refine mm_iast hn68 rfl hi69 dX9_control_217 ?_
    obtain ⟨s70, hs70, hf⟩ := mm_let_s hf
    rw [hs70]
    refine mm_goto (tgt := 281) dX9_control_218 (by decide) ?_
    cases hf
    refine mm_widen (ck' := rmX9_control.cells) (sk' := rmX9_control.slots) (Nat.le_of_ble_eq_true rfl) (Nat.le_of_ble_eq_true rfl) ?_
    exact mm_vret rfl dX9_control_281 ⟨rfl, rfl⟩
  rw [if_neg c65] at hf
  by_cases c71 : p2 = 12
  · rw [if_pos c71] at hf
    refine mm_tableEq (off := 214) (tgt := 221) dX9_control_7 c71 (by decide) (by decide) (by decide) (by decide) ?_
    refine mm_aload_n (j := 1) dX9_control_221 rfl rfl ?_
    refine mm_iload_n (j := 2) dX9_control_222 rfl rfl ?_
    refine mm_iconst (v := 0) dX9_control_223 (by decide) ?_
    obtain ⟨hs72, hf⟩ := mm_sh_s hf
    obtain ⟨q73, hq73, hf⟩ := mm_on_s hf
    refine mm_callVv cd_ok (kX9_clearScreen p0 p1 0 hq73) hs72 rfl (Or.inl tw_994) cdX9_clearScreen tw_996 ts_42 nmX9_clearScreen rfl rfl (by simp only [List.map_cons, List.map_nil, mm_rf_cat]; exact Nat.le_of_ble_eq_true rfl) dX9_control_224 ⟨Nat.le_of_ble_eq_true rfl, Nat.le_of_ble_eq_true rfl⟩ ⟨Nat.le_of_ble_eq_true rfl, Nat.le_of_ble_eq_true rfl⟩ ?_
    refine mm_goto (tgt := 281) dX9_control_227 (by decide) ?_
    cases hf
    refine mm_widen (ck' := rmX9_control.cells) (sk' := rmX9_control.slots) (Nat.le_of_ble_eq_true rfl) (Nat.le_of_ble_eq_true rfl) ?_
    exact mm_vret rfl dX9_control_281 ⟨rfl, rfl⟩
  rw [if_neg c71] at hf
  by_cases c74 : p2 = 13
  · rw [if_pos c74] at hf
    refine mm_tableEq (off := 223) (tgt := 230) dX9_control_7 c74 (by decide) (by decide) (by decide) (by decide) ?_
    refine mm_aload_n (j := 1) dX9_control_230 rfl rfl ?_
    obtain ⟨hs75, hf⟩ := mm_sh_s hf
    refine mm_get (c := 9) (k := 4) (v := va_rf (mm_R q2.2 p0 4)) cd_ok ⟨_, _, _, rfl, by decide, Or.inl tw_798⟩ hs75 rfl dX9_control_231 ?_
    refine mm_iload_n (j := 2) dX9_control_234 rfl rfl ?_
    obtain ⟨q76, hq76, hf⟩ := mm_on_s hf
    rw [hq76, mm_rf_some]
    obtain ⟨n77, hn77, hf⟩ := mm_ar_s hf
    obtain ⟨hi78, hf⟩ := mm_ib_s hf
    refine mm_iald hn77 rfl hi78 dX9_control_235 ?_
    refine mm_iconst (v := 2) dX9_control_236 (by decide) ?_
    refine mm_icmp_ne (tgt := 281) dX9_control_237 (by decide) (fun c79 => ?_) (fun c79 => ?_)
    · rw [if_neg c79] at hf
      cases hf
      refine mm_widen (ck' := rmX9_control.cells) (sk' := rmX9_control.slots) (Nat.le_of_ble_eq_true rfl) (Nat.le_of_ble_eq_true rfl) ?_
      exact mm_vret rfl dX9_control_281 ⟨rfl, rfl⟩
    · rw [if_pos c79] at hf
      refine mm_aload_n (j := 1) dX9_control_240 rfl rfl ?_
      refine mm_iload_n (j := 2) dX9_control_241 rfl rfl ?_
      obtain ⟨q80, hq80, hf⟩ := mm_on_s hf
      refine mm_callVv cd_ok (kX9_up p0 p1 hq80) hs75 rfl (Or.inl tw_998) cdX9_up tw_1000 ts_43 nmX9_up rfl rfl (by simp only [List.map_cons, List.map_nil, mm_rf_cat]; exact Nat.le_of_ble_eq_true rfl) dX9_control_242 ⟨Nat.le_of_ble_eq_true rfl, Nat.le_of_ble_eq_true rfl⟩ ⟨Nat.le_of_ble_eq_true rfl, Nat.le_of_ble_eq_true rfl⟩ ?_
      refine mm_goto (tgt := 281) dX9_control_245 (by decide) ?_
      cases hf
      refine mm_widen (ck' := rmX9_control.cells) (sk' := rmX9_control.slots) (Nat.le_of_ble_eq_true rfl) (Nat.le_of_ble_eq_true rfl) ?_
      exact mm_vret rfl dX9_control_281 ⟨rfl, rfl⟩
  rw [if_neg c74] at hf
  by_cases c81 : p2 = 14
  · rw [if_pos c81] at hf
    refine mm_tableEq (off := 241) (tgt := 248) dX9_control_7 c81 (by decide) (by decide) (by decide) (by decide) ?_
    refine mm_aload_n (j := 1) dX9_control_248 rfl rfl ?_
    refine mm_iload_n (j := 2) dX9_control_249 rfl rfl ?_
    refine mm_iconst (v := 1) dX9_control_250 (by decide) ?_
    obtain ⟨hs82, hf⟩ := mm_sh_s hf
    obtain ⟨q83, hq83, hf⟩ := mm_on_s hf
    refine mm_callVv cd_ok (kX9_clearScreen p0 p1 1 hq83) hs82 rfl (Or.inl tw_994) cdX9_clearScreen tw_996 ts_42 nmX9_clearScreen rfl rfl (by simp only [List.map_cons, List.map_nil, mm_rf_cat]; exact Nat.le_of_ble_eq_true rfl) dX9_control_251 ⟨Nat.le_of_ble_eq_true rfl, Nat.le_of_ble_eq_true rfl⟩ ⟨Nat.le_of_ble_eq_true rfl, Nat.le_of_ble_eq_true rfl⟩ ?_
    refine mm_goto (tgt := 281) dX9_control_254 (by decide) ?_
    cases hf
    refine mm_widen (ck' := rmX9_control.cells) (sk' := rmX9_control.slots) (Nat.le_of_ble_eq_true rfl) (Nat.le_of_ble_eq_true rfl) ?_
    exact mm_vret rfl dX9_control_281 ⟨rfl, rfl⟩
  rw [if_neg c81] at hf
  by_cases c84 : p2 = 15
  · rw [if_pos c84] at hf
    refine mm_tableEq (off := 250) (tgt := 257) dX9_control_7 c84 (by decide) (by decide) (by decide) (by decide) ?_
    refine mm_aload_n (j := 1) dX9_control_257 rfl rfl ?_
    obtain ⟨hs85, hf⟩ := mm_sh_s hf
    refine mm_get (c := 9) (k := 3) (v := va_rf (mm_R q2.2 p0 3)) cd_ok ⟨_, _, _, rfl, by decide, Or.inl tw_797⟩ hs85 rfl dX9_control_258 ?_
    refine mm_iload_n (j := 2) dX9_control_261 rfl rfl ?_
    refine mm_iconst (v := 1) dX9_control_262 (by decide) ?_
    refine mm_aload_n (j := 1) dX9_control_263 rfl rfl ?_
    refine mm_get (c := 9) (k := 3) (v := va_rf (mm_R q2.2 p0 3)) cd_ok ⟨_, _, _, rfl, by decide, Or.inl tw_797⟩ hs85 rfl dX9_control_264 ?_
    refine mm_iload_n (j := 2) dX9_control_267 rfl rfl ?_
    obtain ⟨q86, hq86, hf⟩ := mm_on_s hf
    rw [hq86, mm_rf_some]
    obtain ⟨n87, hn87, hf⟩ := mm_ar_s hf
    obtain ⟨hi88, hf⟩ := mm_ib_s hf
    refine mm_iald hn87 rfl hi88 dX9_control_268 ?_
    refine mm_isub dX9_control_269 ?_
    obtain ⟨hi89, hf⟩ := mm_ib_s hf
    refine mm_iast hn87 rfl hi89 dX9_control_270 ?_
    obtain ⟨s90, hs90, hf⟩ := mm_let_s hf
    rw [hs90]
    refine mm_aload_n (j := 1) dX9_control_271 rfl rfl ?_
    refine mm_get (c := 9) (k := 4) (v := va_rf (mm_R s90 p0 4)) cd_ok ⟨_, _, _, rfl, by decide, Or.inl tw_798⟩ (mm_ke hs90 hs85) rfl dX9_control_272 ?_
    refine mm_iload_n (j := 2) dX9_control_275 rfl rfl ?_
    refine mm_iconst (v := 1) dX9_control_276 (by decide) ?_
    obtain ⟨q91, hq91, hf⟩ := mm_on_s hf
    rw [hq91, mm_rf_some]
    obtain ⟨n92, hn92, hf⟩ := mm_ar_s hf
    obtain ⟨hi93, hf⟩ := mm_ib_s hf
    refine mm_iast hn92 rfl hi93 dX9_control_277 ?_
    obtain ⟨s94, hs94, hf⟩ := mm_let_s hf
    rw [hs94]
    refine mm_goto (tgt := 281) dX9_control_278 (by decide) ?_
    cases hf
    refine mm_widen (ck' := rmX9_control.cells) (sk' := rmX9_control.slots) (Nat.le_of_ble_eq_true rfl) (Nat.le_of_ble_eq_true rfl) ?_
    exact mm_vret rfl dX9_control_281 ⟨rfl, rfl⟩
  rw [if_neg c84] at hf
  by_cases c95 : p2 = 2
  · refine mm_tableEq (off := 274) (tgt := 281) dX9_control_7 c95 (by decide) (by decide) (by decide) (by decide) ?_
    cases hf
    refine mm_widen (ck' := rmX9_control.cells) (sk' := rmX9_control.slots) (Nat.le_of_ble_eq_true rfl) (Nat.le_of_ble_eq_true rfl) ?_
    exact mm_vret rfl dX9_control_281 ⟨rfl, rfl⟩
  by_cases c96 : p2 = 3
  · refine mm_tableEq (off := 274) (tgt := 281) dX9_control_7 c96 (by decide) (by decide) (by decide) (by decide) ?_
    cases hf
    refine mm_widen (ck' := rmX9_control.cells) (sk' := rmX9_control.slots) (Nat.le_of_ble_eq_true rfl) (Nat.le_of_ble_eq_true rfl) ?_
    exact mm_vret rfl dX9_control_281 ⟨rfl, rfl⟩
  by_cases c97 : p2 = 8
  · refine mm_tableEq (off := 274) (tgt := 281) dX9_control_7 c97 (by decide) (by decide) (by decide) (by decide) ?_
    cases hf
    refine mm_widen (ck' := rmX9_control.cells) (sk' := rmX9_control.slots) (Nat.le_of_ble_eq_true rfl) (Nat.le_of_ble_eq_true rfl) ?_
    exact mm_vret rfl dX9_control_281 ⟨rfl, rfl⟩
  refine mm_tableOut (tgt := 281) dX9_control_7 (by have nc3 := mm_neI (k := 0) (by decide) c3; have nc9 := mm_neI (k := 1) (by decide) c9; have nc30 := mm_neI (k := 4) (by decide) c30; have nc44 := mm_neI (k := 5) (by decide) c44; have nc47 := mm_neI (k := 6) (by decide) c47; have nc50 := mm_neI (k := 7) (by decide) c50; have nc53 := mm_neI (k := 9) (by decide) c53; have nc59 := mm_neI (k := 10) (by decide) c59; have nc65 := mm_neI (k := 11) (by decide) c65; have nc71 := mm_neI (k := 12) (by decide) c71; have nc74 := mm_neI (k := 13) (by decide) c74; have nc81 := mm_neI (k := 14) (by decide) c81; have nc84 := mm_neI (k := 15) (by decide) c84; have nc95 := mm_neI (k := 2) (by decide) c95; have nc96 := mm_neI (k := 3) (by decide) c96; have nc97 := mm_neI (k := 8) (by decide) c97; omega) (by decide) ?_
  cases hf
  refine mm_widen (ck' := rmX9_control.cells) (sk' := rmX9_control.slots) (Nat.le_of_ble_eq_true rfl) (Nat.le_of_ble_eq_true rfl) ?_
  exact mm_vret rfl dX9_control_281 ⟨rfl, rfl⟩
