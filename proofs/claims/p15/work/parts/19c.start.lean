set_option maxHeartbeats 4000000 in
set_option maxRecDepth 100000 in
/-- what the Statement gives at the law's entry -/
theorem cd_start {s : State} {args : Array Value} (hts : ∀ w ∈ lw_tbl, w.before args s = true) (hgv : (Jvm.Cond.and given_1 narrow_1).before args s = true) : ∃ G : mm_G, mm_K cd_Y G (fun q => s.heap.size ≤ q) s := by
  have hT : ∀ w ∈ cd_Ts, w.before args s = true := fun w hw => hts w (List.mem_filter.mp hw).1
  have hs := flat_of_before _ hgv
  have hA : ∀ a : Nat, a < s.heap.size → ¬ (fun q : Nat => s.heap.size ≤ q) a := fun a h => Nat.not_le.mpr h
  obtain ⟨c0, i0, k0⟩ := u_known (C := RX0) (T := TX0) (N := 7) hT cd_i0 (hT _ tw_93)
  obtain ⟨c1, i1, k1⟩ := u_known (C := RX1) (T := TX1) (N := 4) hT cd_i1 (hT _ tw_746)
  obtain ⟨c2, i2, k2⟩ := u_known (C := RX2) (T := TX2) (N := 2) hT cd_i2 (hT _ tw_78)
  obtain ⟨c3, i3, k3⟩ := u_known (C := RX3) (T := TX3) (N := 9) hT cd_i3 (hT _ tw_534)
  obtain ⟨c4, i4, k4⟩ := u_known (C := RX4) (T := TX4) (N := 2) hT cd_i4 (hT _ tw_54)
  obtain ⟨c5, i5, k5⟩ := u_known (C := RX5) (T := TX5) (N := 2) hT cd_i5 (hT _ tw_99)
  obtain ⟨c6, i6, k6⟩ := u_known (C := RX6) (T := TX6) (N := 2) hT cd_i6 (hT _ tw_31)
  obtain ⟨c7, i7, k7⟩ := u_known (C := RX7) (T := TX7) (N := 3) hT cd_i7 (hT _ tw_48)
  obtain ⟨c8, i8, k8⟩ := u_known (C := RX8) (T := TX8) (N := 14) hT cd_i8 (hT _ tw_21)
  obtain ⟨c9, i9, k9⟩ := u_known (C := RX9) (T := TX9) (N := 46) hT cd_i9 (hT _ tw_789)
  obtain ⟨a0, ka0, cm0, fa0, ga0, ha0⟩ := Cond.arrayClass_spec (hT _ tw_46)
  obtain ⟨a1, ka1, cm1, fa1, ga1, ha1⟩ := Cond.arrayClass_spec (hT _ tw_66)
  obtain ⟨a2, ka2, cm2, fa2, ga2, ha2⟩ := Cond.arrayClass_spec (hT _ tw_307)
  obtain ⟨a3, ka3, cm3, fa3, ga3, ha3⟩ := Cond.arrayClass_spec (hT _ tw_1138)
  have ov4 := hts _ tl_29
  obtain ⟨cm4, a4, ka4, fc4, -, ga4, ha4, fa4⟩ := Cond.arrayOver_spec ov4
  have ov5 := hts _ tl_37
  obtain ⟨cm5, a5, ka5, fc5, -, ga5, ha5, fa5⟩ := Cond.arrayOver_spec ov5
  have ov6 := hts _ tl_92
  obtain ⟨cm6, a6, ka6, fc6, -, ga6, ha6, fa6⟩ := Cond.arrayOver_spec ov6
  obtain ⟨t0, e0, T0⟩ := va_Tof (tm := .static "CaptionDesk" "CODE_ROWS" "[I") (ty := .int) (N := 8) (f := fun j => Value.int (([11, 1, 3, 12, 14, 5, 7, 9] : List Int32).getD j 0)) (A := fun q : Nat => s.heap.size ≤ q) (by decide) (hs (.arrayOf (.static "CaptionDesk" "CODE_ROWS" "[I") .int) (by decide +kernel)) (va_eqt (hs (.eq (.length (.static "CaptionDesk" "CODE_ROWS" "[I")) (.int 8)) (by decide +kernel))) (fun j hj => by
    rcases (show j = 0 ∨ j = 1 ∨ j = 2 ∨ j = 3 ∨ j = 4 ∨ j = 5 ∨ j = 6 ∨ j = 7 by omega) with rfl | rfl | rfl | rfl | rfl | rfl | rfl | rfl
    · exact va_eqt (hs (.eq (.elem (.static "CaptionDesk" "CODE_ROWS" "[I") (.int 0)) (.int 11)) (by decide +kernel))
    · exact va_eqt (hs (.eq (.elem (.static "CaptionDesk" "CODE_ROWS" "[I") (.int 1)) (.int 1)) (by decide +kernel))
    · exact va_eqt (hs (.eq (.elem (.static "CaptionDesk" "CODE_ROWS" "[I") (.int 2)) (.int 3)) (by decide +kernel))
    · exact va_eqt (hs (.eq (.elem (.static "CaptionDesk" "CODE_ROWS" "[I") (.int 3)) (.int 12)) (by decide +kernel))
    · exact va_eqt (hs (.eq (.elem (.static "CaptionDesk" "CODE_ROWS" "[I") (.int 4)) (.int 14)) (by decide +kernel))
    · exact va_eqt (hs (.eq (.elem (.static "CaptionDesk" "CODE_ROWS" "[I") (.int 5)) (.int 5)) (by decide +kernel))
    · exact va_eqt (hs (.eq (.elem (.static "CaptionDesk" "CODE_ROWS" "[I") (.int 6)) (.int 7)) (by decide +kernel))
    · exact va_eqt (hs (.eq (.elem (.static "CaptionDesk" "CODE_ROWS" "[I") (.int 7)) (.int 9)) (by decide +kernel))) hA
  have z0 := va_Zof (C := "CaptionDesk") (n := "CODE_ROWS") (d := "[I") (v := .ref t0) (A := fun q : Nat => s.heap.size ≤ q) (hts _ tl_355) (hT _ tw_1) e0 hA
  obtain ⟨t1, e1, T1⟩ := va_Tof (tm := .static "CaptionDesk" "WRONG_BITS" "[I") (ty := .int) (N := 8) (f := fun j => Value.int (([64, 1, 4, 128, 16, 32, 8, 2] : List Int32).getD j 0)) (A := fun q : Nat => s.heap.size ≤ q) (by decide) (hs (.arrayOf (.static "CaptionDesk" "WRONG_BITS" "[I") .int) (by decide +kernel)) (va_eqt (hs (.eq (.length (.static "CaptionDesk" "WRONG_BITS" "[I")) (.int 8)) (by decide +kernel))) (fun j hj => by
    rcases (show j = 0 ∨ j = 1 ∨ j = 2 ∨ j = 3 ∨ j = 4 ∨ j = 5 ∨ j = 6 ∨ j = 7 by omega) with rfl | rfl | rfl | rfl | rfl | rfl | rfl | rfl
    · exact va_eqt (hs (.eq (.elem (.static "CaptionDesk" "WRONG_BITS" "[I") (.int 0)) (.int 64)) (by decide +kernel))
    · exact va_eqt (hs (.eq (.elem (.static "CaptionDesk" "WRONG_BITS" "[I") (.int 1)) (.int 1)) (by decide +kernel))
    · exact va_eqt (hs (.eq (.elem (.static "CaptionDesk" "WRONG_BITS" "[I") (.int 2)) (.int 4)) (by decide +kernel))
    · exact va_eqt (hs (.eq (.elem (.static "CaptionDesk" "WRONG_BITS" "[I") (.int 3)) (.int 128)) (by decide +kernel))
    · exact va_eqt (hs (.eq (.elem (.static "CaptionDesk" "WRONG_BITS" "[I") (.int 4)) (.int 16)) (by decide +kernel))
    · exact va_eqt (hs (.eq (.elem (.static "CaptionDesk" "WRONG_BITS" "[I") (.int 5)) (.int 32)) (by decide +kernel))
    · exact va_eqt (hs (.eq (.elem (.static "CaptionDesk" "WRONG_BITS" "[I") (.int 6)) (.int 8)) (by decide +kernel))
    · exact va_eqt (hs (.eq (.elem (.static "CaptionDesk" "WRONG_BITS" "[I") (.int 7)) (.int 2)) (by decide +kernel))) hA
  have z1 := va_Zof (C := "CaptionDesk") (n := "WRONG_BITS") (d := "[I") (v := .ref t1) (A := fun q : Nat => s.heap.size ≤ q) (hts _ tl_200) (hT _ tw_1) e1 hA
  have zu := vx_Zqof (C := Bundle.tN) (n := "UNASSIGNED_STACK") (d := Bundle.steD) (A := fun q : Nat => s.heap.size ≤ q) (hts _ tl_267) (hT _ tw_9) (hs (.isRef (.static "java/lang/Throwable" "UNASSIGNED_STACK" "[Ljava/lang/StackTraceElement;")) (by decide +kernel)) hA
  have zn := vx_Zqof (C := Bundle.tN) (n := "SUPPRESSED_SENTINEL") (d := Bundle.listD) (A := fun q : Nat => s.heap.size ≤ q) (hts _ tl_269) (hT _ tw_9) (hs (.isRef (.static "java/lang/Throwable" "SUPPRESSED_SENTINEL" "Ljava/util/List;")) (by decide +kernel)) hA
  refine ⟨((fun k => match k with | 0 => c0 | 1 => c1 | 2 => c2 | 3 => c3 | 4 => c4 | 5 => c5 | 6 => c6 | 7 => c7 | 8 => c8 | _ => c9, fun k => match k with | 0 => i0 | 1 => i1 | 2 => i2 | 3 => i3 | 4 => i4 | 5 => i5 | 6 => i6 | 7 => i7 | 8 => i8 | _ => i9), (fun t => match t with | 0 => a0 | 1 => a1 | 2 => a2 | 3 => a3 | 4 => a4 | 5 => a5 | _ => a6), fun k => match k with | 0 => t0 | _ => t1), ?_, ?_, ?_, ?_, zu, zn, ?_⟩
  · intro c q h
    match c, h with
    | 0, h => cases h; exact k0
    | 1, h => cases h; exact k1
    | 2, h => cases h; exact k2
    | 3, h => cases h; exact k3
    | 4, h => cases h; exact k4
    | 5, h => cases h; exact k5
    | 6, h => cases h; exact k6
    | 7, h => cases h; exact k7
    | 8, h => cases h; exact k8
    | 9, h => cases h; exact k9
    | n + 10, h => simp [cd_Y, cd_cl] at h
  · intro t ty h
    match t, h with
    | 0, h => cases h; exact ⟨fun n z => ⟨fun k h => (by cases h), ka0, ga0, cm0, ha0⟩, fa0, fun C hC => by cases hC⟩
    | 1, h => cases h; exact ⟨fun n z => ⟨fun k h => (by cases h), ka1, ga1, cm1, ha1⟩, fa1, fun C hC => by cases hC⟩
    | 2, h => cases h; exact ⟨fun n z => ⟨fun k h => (by cases h), ka2, ga2, cm2, ha2⟩, fa2, fun C hC => by cases hC⟩
    | 3, h => cases h; exact ⟨fun n z => ⟨fun k h => (by cases h), ka3, ga3, cm3, ha3⟩, fa3, fun C hC => by cases hC⟩
    | 4, h => cases h; exact ⟨fun n z => ⟨fun k h => (by cases h), ka4, ga4, cm4, ha4⟩, ⟨ka4, cm4, ga4, ha4, fc4, fa4⟩, fun C hC => by cases hC; exact va_AO.of ov4⟩
    | 5, h => cases h; exact ⟨fun n z => ⟨fun k h => (by cases h), ka5, ga5, cm5, ha5⟩, ⟨ka5, cm5, ga5, ha5, fc5, fa5⟩, fun C hC => by cases hC; exact va_AO.of ov5⟩
    | 6, h => cases h; exact ⟨fun n z => ⟨fun k h => (by cases h), ka6, ga6, cm6, ha6⟩, ⟨ka6, cm6, ga6, ha6, fc6, fa6⟩, fun C hC => by cases hC; exact va_AO.of ov6⟩
    | n + 7, h => simp [cd_Y, cd_ats] at h
  · exact fun w hw => va_Nw.of (mm_nsOT cd_ok hw) (hts w (cd_Ns_in w hw))
  · intro k C n xs h
    match k, h with
    | 0, h => cases h; exact ⟨z0, T0⟩
    | 1, h => cases h; exact ⟨z1, T1⟩
    | n + 2, h => simp [cd_Y, cd_sts] at h
  · exact (List.forall_mem_cons.mpr ⟨(by obtain ⟨a, -, -, -, he, -⟩ := Cond.exactly_spec (hs (.exactly (.string "CaptionDesk" 68) "java/lang/String") (by decide +kernel)); exact ⟨a, vk_R.of (hts _ tl_281) he⟩),
      (List.forall_mem_cons.mpr ⟨(by obtain ⟨a, -, -, -, he, -⟩ := Cond.exactly_spec (hs (.exactly (.string "CaptionDesk" 84) "java/lang/String") (by decide +kernel)); exact ⟨a, vk_R.of (hts _ tl_427) he⟩),
      (List.forall_mem_cons.mpr ⟨(by obtain ⟨a, -, -, -, he, -⟩ := Cond.exactly_spec (hs (.exactly (.string "CaptionDesk" 86) "java/lang/String") (by decide +kernel)); exact ⟨a, vk_R.of (hts _ tl_428) he⟩),
      (List.forall_mem_cons.mpr ⟨(by obtain ⟨a, -, -, -, he, -⟩ := Cond.exactly_spec (hs (.exactly (.string "CaptionDesk" 104) "java/lang/String") (by decide +kernel)); exact ⟨a, vk_R.of (hts _ tl_444) he⟩),
      (List.forall_mem_cons.mpr ⟨(by obtain ⟨a, -, -, -, he, -⟩ := Cond.exactly_spec (hs (.exactly (.string "CaptionDesk" 152) "java/lang/String") (by decide +kernel)); exact ⟨a, vk_R.of (hts _ tl_469) he⟩),
      (List.forall_mem_cons.mpr ⟨(by obtain ⟨a, -, -, -, he, -⟩ := Cond.exactly_spec (hs (.exactly (.string "CaptionDesk" 158) "java/lang/String") (by decide +kernel)); exact ⟨a, vk_R.of (hts _ tl_487) he⟩),
      (List.forall_mem_cons.mpr ⟨(by obtain ⟨a, -, -, -, he, -⟩ := Cond.exactly_spec (hs (.exactly (.string "CaptionDesk" 169) "java/lang/String") (by decide +kernel)); exact ⟨a, vk_R.of (hts _ tl_629) he⟩),
      (List.forall_mem_cons.mpr ⟨(by obtain ⟨a, -, -, -, he, -⟩ := Cond.exactly_spec (hs (.exactly (.string "CaptionDesk" 181) "java/lang/String") (by decide +kernel)); exact ⟨a, vk_R.of (hts _ tl_637) he⟩),
      (List.forall_mem_cons.mpr ⟨(by obtain ⟨a, -, -, -, he, -⟩ := Cond.exactly_spec (hs (.exactly (.string "CaptionDesk" 207) "java/lang/String") (by decide +kernel)); exact ⟨a, vk_R.of (hts _ tl_645) he⟩),
      (List.forall_mem_cons.mpr ⟨(by obtain ⟨a, -, -, -, he, -⟩ := Cond.exactly_spec (hs (.exactly (.string "CaptionDesk" 218) "java/lang/String") (by decide +kernel)); exact ⟨a, vk_R.of (hts _ tl_657) he⟩),
      (List.forall_mem_cons.mpr ⟨(by obtain ⟨a, -, -, -, he, -⟩ := Cond.exactly_spec (hs (.exactly (.string "CaptionDesk" 223) "java/lang/String") (by decide +kernel)); exact ⟨a, vk_R.of (hts _ tl_665) he⟩),
      (List.forall_mem_cons.mpr ⟨(by obtain ⟨a, -, -, -, he, -⟩ := Cond.exactly_spec (hs (.exactly (.string "CaptionDesk" 276) "java/lang/String") (by decide +kernel)); exact ⟨a, vk_R.of (hts _ tl_683) he⟩),
      (List.forall_mem_cons.mpr ⟨(by obtain ⟨a, -, -, -, he, -⟩ := Cond.exactly_spec (hs (.exactly (.string "CaptionDesk" 283) "java/lang/String") (by decide +kernel)); exact ⟨a, vk_R.of (hts _ tl_703) he⟩),
      (List.forall_mem_cons.mpr ⟨(by obtain ⟨a, -, -, -, he, -⟩ := Cond.exactly_spec (hs (.exactly (.string "CaptionDesk" 304) "java/lang/String") (by decide +kernel)); exact ⟨a, vk_R.of (hts _ tl_779) he⟩),
      (List.forall_mem_cons.mpr ⟨(by obtain ⟨a, -, -, -, he, -⟩ := Cond.exactly_spec (hs (.exactly (.string "CaptionDesk" 317) "java/lang/String") (by decide +kernel)); exact ⟨a, vk_R.of (hts _ tl_787) he⟩), (fun _ h => absurd h List.not_mem_nil)⟩)⟩)⟩)⟩)⟩)⟩)⟩)⟩)⟩)⟩)⟩)⟩)⟩)⟩)⟩)
