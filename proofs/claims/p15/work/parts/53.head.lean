set_option maxHeartbeats 4000000 in
set_option maxRecDepth 100000 in
theorem hL_head {G : mm_G} {A : Nat → Prop} {b L o8 o9 out : Nat} {xs : Nat → Int32} {i : Int32} {σ : mm_M} {ck sk : Nat} (hL : L ≤ 4000) (h0 : 0 ≤ i.toInt) (hc : ck ≤ LWC ∧ sk ≤ LWS) (k0 : 0 ≤ i.toInt ∧ i.toInt + 6 ≤ L ∧ L ≤ 4000 → (xs i.toNatClampNeg &&& 31) = 0 → JL G A b L xs 132 [(0, .ref b), (1, .ref o8), (2, .ref o9), (3, .ref out), (4, .int i)] [] σ ck sk) (k1 : 0 ≤ i.toInt ∧ i.toInt + 6 ≤ L ∧ L ≤ 4000 → (xs i.toNatClampNeg &&& 31) = 1 → JL G A b L xs 184 [(0, .ref b), (1, .ref o8), (2, .ref o9), (3, .ref out), (4, .int i)] [] σ ck sk) (k2 : 0 ≤ i.toInt ∧ i.toInt + 6 ≤ L ∧ L ≤ 4000 → (xs i.toNatClampNeg &&& 31) = 2 → JL G A b L xs 260 [(0, .ref b), (1, .ref o8), (2, .ref o9), (3, .ref out), (4, .int i)] [] σ ck sk) (k3 : 0 ≤ i.toInt ∧ i.toInt + 6 ≤ L ∧ L ≤ 4000 → (xs i.toNatClampNeg &&& 31) = 3 → JL G A b L xs 300 [(0, .ref b), (1, .ref o8), (2, .ref o9), (3, .ref out), (4, .int i)] [] σ ck sk) (k4 : 0 ≤ i.toInt ∧ i.toInt + 6 ≤ L ∧ L ≤ 4000 → (xs i.toNatClampNeg &&& 31) = 4 → JL G A b L xs 328 [(0, .ref b), (1, .ref o8), (2, .ref o9), (3, .ref out), (4, .int i)] [] σ ck sk) (k5 : 0 ≤ i.toInt ∧ i.toInt + 6 ≤ L ∧ L ≤ 4000 → (xs i.toNatClampNeg &&& 31) = 5 → JL G A b L xs 353 [(0, .ref b), (1, .ref o8), (2, .ref o9), (3, .ref out), (4, .int i)] [] σ ck sk) (k6 : 0 ≤ i.toInt ∧ i.toInt + 6 ≤ L ∧ L ≤ 4000 → (xs i.toNatClampNeg &&& 31) = 6 → JL G A b L xs 429 [(0, .ref b), (1, .ref o8), (2, .ref o9), (3, .ref out), (4, .int i)] [] σ ck sk) (k7 : 0 ≤ i.toInt ∧ i.toInt + 6 ≤ L ∧ L ≤ 4000 → (xs i.toNatClampNeg &&& 31) = 7 → JL G A b L xs 445 [(0, .ref b), (1, .ref o8), (2, .ref o9), (3, .ref out), (4, .int i)] [] σ ck sk) (k8 : 0 ≤ i.toInt ∧ i.toInt + 6 ≤ L ∧ L ≤ 4000 → (xs i.toNatClampNeg &&& 31) = 8 → JL G A b L xs 473 [(0, .ref b), (1, .ref o8), (2, .ref o9), (3, .ref out), (4, .int i)] [] σ ck sk) (k9 : 0 ≤ i.toInt ∧ i.toInt + 6 ≤ L ∧ L ≤ 4000 → (xs i.toNatClampNeg &&& 31) = 9 → JL G A b L xs 486 [(0, .ref b), (1, .ref o8), (2, .ref o9), (3, .ref out), (4, .int i)] [] σ ck sk) (k10 : 0 ≤ i.toInt ∧ i.toInt + 6 ≤ L ∧ L ≤ 4000 → (xs i.toNatClampNeg &&& 31) = 10 → JL G A b L xs 535 [(0, .ref b), (1, .ref o8), (2, .ref o9), (3, .ref out), (4, .int i)] [] σ ck sk) (k11 : 0 ≤ i.toInt ∧ i.toInt + 6 ≤ L ∧ L ≤ 4000 → (xs i.toNatClampNeg &&& 31) = 11 → JL G A b L xs 575 [(0, .ref b), (1, .ref o8), (2, .ref o9), (3, .ref out), (4, .int i)] [] σ ck sk) (k12 : 0 ≤ i.toInt ∧ i.toInt + 6 ≤ L ∧ L ≤ 4000 → (xs i.toNatClampNeg &&& 31) = 12 → JL G A b L xs 627 [(0, .ref b), (1, .ref o8), (2, .ref o9), (3, .ref out), (4, .int i)] [] σ ck sk) (k13 : 0 ≤ i.toInt ∧ i.toInt + 6 ≤ L ∧ L ≤ 4000 → (xs i.toNatClampNeg &&& 31) = 13 → JL G A b L xs 679 [(0, .ref b), (1, .ref o8), (2, .ref o9), (3, .ref out), (4, .int i)] [] σ ck sk) (k14 : 0 ≤ i.toInt ∧ i.toInt + 6 ≤ L ∧ L ≤ 4000 → (xs i.toNatClampNeg &&& 31) = 14 → JL G A b L xs 735 [(0, .ref b), (1, .ref o8), (2, .ref o9), (3, .ref out), (4, .int i)] [] σ ck sk) (k15 : 0 ≤ i.toInt ∧ i.toInt + 6 ≤ L ∧ L ≤ 4000 → (xs i.toNatClampNeg &&& 31) = 15 → JL G A b L xs 775 [(0, .ref b), (1, .ref o8), (2, .ref o9), (3, .ref out), (4, .int i)] [] σ ck sk) (k16 : 0 ≤ i.toInt ∧ i.toInt + 6 ≤ L ∧ L ≤ 4000 → (xs i.toNatClampNeg &&& 31) = 16 → JL G A b L xs 803 [(0, .ref b), (1, .ref o8), (2, .ref o9), (3, .ref out), (4, .int i)] [] σ ck sk) (k17 : 0 ≤ i.toInt ∧ i.toInt + 6 ≤ L ∧ L ≤ 4000 → (xs i.toNatClampNeg &&& 31) = 17 → JL G A b L xs 816 [(0, .ref b), (1, .ref o8), (2, .ref o9), (3, .ref out), (4, .int i)] [] σ ck sk) (k18 : 0 ≤ i.toInt ∧ i.toInt + 6 ≤ L ∧ L ≤ 4000 → (xs i.toNatClampNeg &&& 31) = 18 → JL G A b L xs 856 [(0, .ref b), (1, .ref o8), (2, .ref o9), (3, .ref out), (4, .int i)] [] σ ck sk) (kd : 0 ≤ i.toInt ∧ i.toInt + 6 ≤ L ∧ L ≤ 4000 → JL G A b L xs 896 [(0, .ref b), (1, .ref o8), (2, .ref o9), (3, .ref out), (4, .int i)] [] σ ck sk) : JL G A b L xs 23 [(0, .ref b), (1, .ref o8), (2, .ref o9), (3, .ref out), (4, .int i)] [] σ ck sk := by
  refine mm_iload (j := 4) dL_law_23 rfl ?_
  refine mm_aload_n (j := 0) dL_law_25 rfl rfl ?_
  refine lw_slen dL_law_26 ?_
  refine mm_bipush (v := 6) dL_law_27 (by decide) ?_
  refine mm_isub dL_law_29 ?_
  have hofn : (Int32.ofNat L - 6).toInt = (L : Int) - 6 := by rw [zi_sub, zi_ofn (by omega)]; exact zi_bm (by simp only [Int32.reduceToInt]; omega) (by simp only [Int32.reduceToInt]; omega)
  refine mm_icmp_gt (tgt := 902) dL_law_30 (by decide) (fun _ => ?_) (fun h => ?_)
  · refine mm_iconst (v := 1) dL_law_902 (by decide) ?_
    exact lw_end hc.1 hc.2 dL_law_903
  have hi : 0 ≤ i.toInt ∧ i.toInt + 6 ≤ L ∧ L ≤ 4000 := ⟨h0, by rw [zi_lt, hofn] at h; omega, hL⟩
  refine mm_aload_n (j := 0) dL_law_33 rfl rfl ?_
  refine mm_iload (j := 4) dL_law_34 rfl ?_
  refine lw_sld (lw_in0 hi) dL_law_36 ?_
  refine mm_bipush (v := 31) dL_law_37 (by decide) ?_
  refine mm_iand dL_law_39 ?_
  by_cases c0 : (xs i.toNatClampNeg &&& 31) = 0
  · refine mm_tableEq (off := 92) (tgt := 132) dL_law_40 c0 (by decide) (by decide) (by decide) (by decide) ?_
    exact k0 hi c0
  by_cases c1 : (xs i.toNatClampNeg &&& 31) = 1
  · refine mm_tableEq (off := 144) (tgt := 184) dL_law_40 c1 (by decide) (by decide) (by decide) (by decide) ?_
    exact k1 hi c1
  by_cases c2 : (xs i.toNatClampNeg &&& 31) = 2
  · refine mm_tableEq (off := 220) (tgt := 260) dL_law_40 c2 (by decide) (by decide) (by decide) (by decide) ?_
    exact k2 hi c2
  by_cases c3 : (xs i.toNatClampNeg &&& 31) = 3
  · refine mm_tableEq (off := 260) (tgt := 300) dL_law_40 c3 (by decide) (by decide) (by decide) (by decide) ?_
    exact k3 hi c3
  by_cases c4 : (xs i.toNatClampNeg &&& 31) = 4
  · refine mm_tableEq (off := 288) (tgt := 328) dL_law_40 c4 (by decide) (by decide) (by decide) (by decide) ?_
    exact k4 hi c4
  by_cases c5 : (xs i.toNatClampNeg &&& 31) = 5
  · refine mm_tableEq (off := 313) (tgt := 353) dL_law_40 c5 (by decide) (by decide) (by decide) (by decide) ?_
    exact k5 hi c5
  by_cases c6 : (xs i.toNatClampNeg &&& 31) = 6
  · refine mm_tableEq (off := 389) (tgt := 429) dL_law_40 c6 (by decide) (by decide) (by decide) (by decide) ?_
    exact k6 hi c6
  by_cases c7 : (xs i.toNatClampNeg &&& 31) = 7
  · refine mm_tableEq (off := 405) (tgt := 445) dL_law_40 c7 (by decide) (by decide) (by decide) (by decide) ?_
    exact k7 hi c7
  by_cases c8 : (xs i.toNatClampNeg &&& 31) = 8
  · refine mm_tableEq (off := 433) (tgt := 473) dL_law_40 c8 (by decide) (by decide) (by decide) (by decide) ?_
    exact k8 hi c8
  by_cases c9 : (xs i.toNatClampNeg &&& 31) = 9
  · refine mm_tableEq (off := 446) (tgt := 486) dL_law_40 c9 (by decide) (by decide) (by decide) (by decide) ?_
    exact k9 hi c9
  by_cases c10 : (xs i.toNatClampNeg &&& 31) = 10
  · refine mm_tableEq (off := 495) (tgt := 535) dL_law_40 c10 (by decide) (by decide) (by decide) (by decide) ?_
    exact k10 hi c10
  by_cases c11 : (xs i.toNatClampNeg &&& 31) = 11
  · refine mm_tableEq (off := 535) (tgt := 575) dL_law_40 c11 (by decide) (by decide) (by decide) (by decide) ?_
    exact k11 hi c11
  by_cases c12 : (xs i.toNatClampNeg &&& 31) = 12
  · refine mm_tableEq (off := 587) (tgt := 627) dL_law_40 c12 (by decide) (by decide) (by decide) (by decide) ?_
    exact k12 hi c12
  by_cases c13 : (xs i.toNatClampNeg &&& 31) = 13
  · refine mm_tableEq (off := 639) (tgt := 679) dL_law_40 c13 (by decide) (by decide) (by decide) (by decide) ?_
    exact k13 hi c13
  by_cases c14 : (xs i.toNatClampNeg &&& 31) = 14
  · refine mm_tableEq (off := 695) (tgt := 735) dL_law_40 c14 (by decide) (by decide) (by decide) (by decide) ?_
    exact k14 hi c14
  by_cases c15 : (xs i.toNatClampNeg &&& 31) = 15
  · refine mm_tableEq (off := 735) (tgt := 775) dL_law_40 c15 (by decide) (by decide) (by decide) (by decide) ?_
    exact k15 hi c15
  by_cases c16 : (xs i.toNatClampNeg &&& 31) = 16
  · refine mm_tableEq (off := 763) (tgt := 803) dL_law_40 c16 (by decide) (by decide) (by decide) (by decide) ?_
    exact k16 hi c16
  by_cases c17 : (xs i.toNatClampNeg &&& 31) = 17
  · refine mm_tableEq (off := 776) (tgt := 816) dL_law_40 c17 (by decide) (by decide) (by decide) (by decide) ?_
    exact k17 hi c17
  by_cases c18 : (xs i.toNatClampNeg &&& 31) = 18
  · refine mm_tableEq (off := 816) (tgt := 856) dL_law_40 c18 (by decide) (by decide) (by decide) (by decide) ?_
    exact k18 hi c18
  refine mm_tableOut (tgt := 896) dL_law_40 (by have nc0 := mm_neI (k := 0) (by decide) c0; have nc1 := mm_neI (k := 1) (by decide) c1; have nc2 := mm_neI (k := 2) (by decide) c2; have nc3 := mm_neI (k := 3) (by decide) c3; have nc4 := mm_neI (k := 4) (by decide) c4; have nc5 := mm_neI (k := 5) (by decide) c5; have nc6 := mm_neI (k := 6) (by decide) c6; have nc7 := mm_neI (k := 7) (by decide) c7; have nc8 := mm_neI (k := 8) (by decide) c8; have nc9 := mm_neI (k := 9) (by decide) c9; have nc10 := mm_neI (k := 10) (by decide) c10; have nc11 := mm_neI (k := 11) (by decide) c11; have nc12 := mm_neI (k := 12) (by decide) c12; have nc13 := mm_neI (k := 13) (by decide) c13; have nc14 := mm_neI (k := 14) (by decide) c14; have nc15 := mm_neI (k := 15) (by decide) c15; have nc16 := mm_neI (k := 16) (by decide) c16; have nc17 := mm_neI (k := 17) (by decide) c17; have nc18 := mm_neI (k := 18) (by decide) c18; omega) (by decide) ?_
  exact kd hi
theorem hL_next {G : mm_G} {A : Nat → Prop} {b L o8 o9 out : Nat} {xs : Nat → Int32} {i : Int32} {σ : mm_M} {ck sk : Nat} (k : JL G A b L xs 23 [(0, .ref b), (1, .ref o8), (2, .ref o9), (3, .ref out), (4, .int (i + 6))] [] σ ck sk) : JL G A b L xs 896 [(0, .ref b), (1, .ref o8), (2, .ref o9), (3, .ref out), (4, .int i)] [] σ ck sk := by
  refine mm_iinc (j := 4) (L' := [(4, .int (i + 6)), (0, .ref b), (1, .ref o8), (2, .ref o9), (3, .ref out)]) dL_law_896 rfl rfl (by decide) rfl ?_
  refine mm_goto (tgt := 23) dL_law_899 (by decide) ?_
  exact mm_sub [1, 2, 3, 4, 0] rfl k
