set_option maxHeartbeats 4000000 in
set_option maxRecDepth 10000 in
theorem uX9_pair_f1 {T : Nat → Option Nat} {σ0 : mm_M} {p0 : Nat} {p2 : Int32} {p3 : Int32} (c0 : sCI T σ0) (t_p0 : T p0 = some 9) : sw (fX9_pair p0 (1 : Int32) p2 p3 σ0) (fun R => sCI T R.2 ∧ sFR T UX9_pair_f1 σ0 R.2 ∧ ((mm_I R.2 p0 0).toInt = 0 ∧ ((rdA R.2 p0 9 0).toInt = (rdA σ0 p0 9 0).toInt ∧ (rdA R.2 p0 10 0).toInt = (rdA σ0 p0 10 0).toInt) ∧ ((¬ ((fX8_isRight p2).toInt ≠ 0 ∧ 16 ≤ (p2 &&& 127).toInt ∧ (p2 &&& 127).toInt ≤ 31 ∧ (fX8_isRight p3).toInt ≠ 0 ∧ 32 ≤ (p3 &&& 127).toInt) ∧ (rdA R.2 p0 10 1).toInt = -1 ∧ (rdA R.2 p0 9 1).toInt = (rdA σ0 p0 9 1).toInt ∧ ((((0 ≤ (rdA σ0 p0 9 1).toInt ∧ (rdA σ0 p0 9 1).toInt ≤ 3) ∧ (fX8_isRight p2).toInt ≠ 0 ∧ (32 ≤ (p2 &&& 127).toInt ∨ ((p2 &&& 127).toInt = 0 ∧ (fX8_isRight p3).toInt ≠ 0 ∧ 32 ≤ (p3 &&& 127).toInt))) ∧ R.1.toInt = 9) ∨ (¬ ((0 ≤ (rdA σ0 p0 9 1).toInt ∧ (rdA σ0 p0 9 1).toInt ≤ 3) ∧ (fX8_isRight p2).toInt ≠ 0 ∧ (32 ≤ (p2 &&& 127).toInt ∨ ((p2 &&& 127).toInt = 0 ∧ (fX8_isRight p3).toInt ≠ 0 ∧ 32 ≤ (p3 &&& 127).toInt))) ∧ R.1.toInt = -1))) ∨ (((fX8_isRight p2).toInt ≠ 0 ∧ 16 ≤ (p2 &&& 127).toInt ∧ (p2 &&& 127).toInt ≤ 31 ∧ (fX8_isRight p3).toInt ≠ 0 ∧ 32 ≤ (p3 &&& 127).toInt) ∧ (rdA σ0 p0 10 1).toInt = 128 * (p2 &&& 127).toInt + (p3 &&& 127).toInt ∧ (rdA R.2 p0 10 1).toInt = -1 ∧ (rdA R.2 p0 9 1).toInt = (rdA σ0 p0 9 1).toInt ∧ R.1.toInt = 8) ∨ (((fX8_isRight p2).toInt ≠ 0 ∧ 16 ≤ (p2 &&& 127).toInt ∧ (p2 &&& 127).toInt ≤ 31 ∧ (fX8_isRight p3).toInt ≠ 0 ∧ 32 ≤ (p3 &&& 127).toInt) ∧ (rdA σ0 p0 10 1).toInt ≠ 128 * (p2 &&& 127).toInt + (p3 &&& 127).toInt ∧ (rdA R.2 p0 10 1).toInt = 128 * (p2 &&& 127).toInt + (p3 &&& 127).toInt ∧ (((p2 &&& 8).toInt = 0 ∧ (rdA R.2 p0 9 1).toInt = 2) ∨ ((p2 &&& 8).toInt ≠ 0 ∧ (rdA R.2 p0 9 1).toInt = 3)) ∧ R.1.toInt = (rdA R.2 p0 9 1).toInt)))) := by
  have f0 : sFR T UX9_pair_f1 σ0 σ0 := fr_refl
  unfold fX9_pair
  refine sw_sh (ci_sh c0 t_p0 rfl) ?_
  have u11064 := su_in ((1 : Int32)) 0 1
  refine sw_on (vX9_goes c0 t_p0 (by (try simp only [zp, zo, zq] at u11064 ⊢) <;> (try simp only [zz, Int32.reduceToInt, ne_eq] at u11064 ⊢) <;> (try simp (disch := omega) only [zb] at u11064 ⊢) <;> first | omega | ((try simp (disch := omega) only [zb] at u11064 ⊢) <;> omega)) ) ?_
  intro q2 hqq2
  obtain ⟨cq2, gq2, xq2⟩ := hqq2
  have fq2 := fr_trans f0 gq2 rfl
  refine sw_ite (fun h11065 => ?_) (fun h11065 => ?_)
  · have w11067 := rdA_fr (k := 9) (j := 0) gq2 c0 t_p0 (κ' := 59) rfl rfl rfl
    have w11069 := rdA_fr (k := 10) (j := 0) gq2 c0 t_p0 (κ' := 60) rfl rfl rfl
    have w11071 := rdA_fr (k := 10) (j := 1) gq2 c0 t_p0 (κ' := 60) rfl rfl rfl
    have w11073 := rdA_fr (k := 9) (j := 1) gq2 c0 t_p0 (κ' := 59) rfl rfl rfl
    have a11075 := zi_and p2 127 (by decide)
    have a11076 := zi_and p3 127 (by decide)
    have a11077 := zi_and p2 8 (by decide)
    exact sw_some ⟨cq2, fq2, (by (try simp only [zp, zo, zq] at u11064 xq2 h11065 w11067 w11069 w11071 w11073 a11075 a11076 a11077 ⊢) <;> (try simp only [zz, Int32.reduceToInt, ne_eq] at u11064 xq2 h11065 w11067 w11069 w11071 w11073 a11075 a11076 a11077 ⊢) <;> (try simp (disch := omega) only [zb] at u11064 xq2 h11065 w11067 w11069 w11071 w11073 a11075 a11076 a11077 ⊢) <;> first | omega | ((try simp (disch := omega) only [zb] at u11064 xq2 h11065 w11067 w11069 w11071 w11073 a11075 a11076 a11077 ⊢) <;> omega))⟩
  · refine sw_sh (ci_sh cq2 t_p0 rfl) ?_
    obtain ⟨q5, eq5, tq5⟩ := ci_ref cq2 t_p0 10 (κ' := 60) rfl
    refine sw_onS eq5 ?_
    refine sw_ar (ci_sh cq2 tq5 rfl) ?_
    refine sw_ib (by (try simp only [zp, zo, zq] at u11064 xq2 h11065 ⊢) <;> (try simp only [zz, Int32.reduceToInt, ne_eq] at u11064 xq2 h11065 ⊢) <;> (try simp (disch := omega) only [zb] at u11064 xq2 h11065 ⊢) <;> first | omega | ((try simp (disch := omega) only [zb] at u11064 xq2 h11065 ⊢) <;> omega)) ?_
    refine sw_onS eq5 ?_
    refine sw_ar (ci_sh cq2 tq5 rfl) ?_
    refine sw_ib (by (try simp only [zp, zo, zq] at u11064 xq2 h11065 ⊢) <;> (try simp only [zz, Int32.reduceToInt, ne_eq] at u11064 xq2 h11065 ⊢) <;> (try simp (disch := omega) only [zb] at u11064 xq2 h11065 ⊢) <;> first | omega | ((try simp (disch := omega) only [zb] at u11064 xq2 h11065 ⊢) <;> omega)) ?_
    have cs11 := ci_wI cq2 tq5 (j := (1 : Int32).toNatClampNeg) (v := -1) (kr_n rfl)
    have fs11 := fr_wI fq2 tq5 (j := (1 : Int32).toNatClampNeg) (v := -1) rfl
    refine sw_let (fun s11 es11 => ?_)
    rw [es11] at cs11 fs11
    refine sw_on (vX9_isOdd cs11   ) ?_
    intro q12 hqq12
    obtain ⟨eq12, xq12⟩ := hqq12
    (try rw [eq12])
    refine sw_ite (fun h11078 => ?_) (fun h11078 => ?_)
    · have w11079 : mm_I s11 p0 0 = mm_I q2.2 p0 0 := by rw [← es11]; exact rd_k t_p0 tq5 (by decide)
      have w11081 : rdA s11 p0 9 0 = rdA q2.2 p0 9 0 := by rw [← es11]; exact rdA_k cq2 t_p0 (κ' := 59) rfl tq5 (by decide)
      have w11082 := rdA_fr (k := 9) (j := 0) gq2 c0 t_p0 (κ' := 59) rfl rfl rfl
      have w11084 : rdA s11 p0 10 0 = rdA q2.2 p0 10 0 := by rw [← es11]; exact rdA_j (by decide)
      have w11086 : rdA q2.2 p0 10 0 = mm_I q2.2 q5 ((0 : Int32)).toNatClampNeg := rdA_eq eq5
      have w11085 := rdA_fr (k := 10) (j := 0) gq2 c0 t_p0 (κ' := 60) rfl rfl rfl
      have w11088 : rdA s11 p0 10 1 = -1 := by rw [← es11]; exact rdA_self eq5
      have w11089 : rdA s11 p0 9 1 = rdA q2.2 p0 9 1 := by rw [← es11]; exact rdA_k cq2 t_p0 (κ' := 59) rfl tq5 (by decide)
      have w11090 := rdA_fr (k := 9) (j := 1) gq2 c0 t_p0 (κ' := 59) rfl rfl rfl
      have w11094 : rdA q2.2 p0 10 1 = mm_I q2.2 q5 ((1 : Int32)).toNatClampNeg := rdA_eq eq5
      have w11093 := rdA_fr (k := 10) (j := 1) gq2 c0 t_p0 (κ' := 60) rfl rfl rfl
      have a11095 := zi_and p2 127 (by decide)
      have a11096 := zi_and p3 127 (by decide)
      have a11097 := zi_and p2 8 (by decide)
      exact sw_some ⟨cs11, fs11, (by (try simp only [zp, zo, zq] at u11064 xq2 h11065 xq12 h11078 w11079 w11081 w11082 w11084 w11086 w11085 w11088 w11089 w11090 w11094 w11093 a11095 a11096 a11097 ⊢) <;> (try simp only [zz, Int32.reduceToInt, ne_eq] at u11064 xq2 h11065 xq12 h11078 w11079 w11081 w11082 w11084 w11086 w11085 w11088 w11089 w11090 w11094 w11093 a11095 a11096 a11097 ⊢) <;> (try simp (disch := omega) only [zb] at u11064 xq2 h11065 xq12 h11078 w11079 w11081 w11082 w11084 w11086 w11085 w11088 w11089 w11090 w11094 w11093 a11095 a11096 a11097 ⊢) <;> first | omega | ((try simp (disch := omega) only [zb] at u11064 xq2 h11065 xq12 h11078 w11079 w11081 w11082 w11084 w11086 w11085 w11088 w11089 w11090 w11094 w11093 a11095 a11096 a11097 ⊢) <;> omega))⟩
    · refine sw_on (vX9_isOdd cs11   ) ?_
      intro q14 hqq14
      obtain ⟨eq14, xq14⟩ := hqq14
      (try rw [eq14])
      have a11098 := zi_and p2 127 (by decide)
      have u11099 := su_in (p2 &&& 127) 16 31
      refine sw_ite (fun h11100 => ?_) (fun h11100 => ?_)
      · refine sw_sh (ci_sh cs11 t_p0 rfl) ?_
        obtain ⟨q17, eq17, tq17⟩ := ci_ref cs11 t_p0 9 (κ' := 59) rfl
        refine sw_onS eq17 ?_
        refine sw_ar (ci_sh cs11 tq17 rfl) ?_
        refine sw_ib (by (try simp only [zp, zo, zq] at u11064 xq2 h11065 xq12 h11078 xq14 a11098 u11099 h11100 ⊢) <;> (try simp only [zz, Int32.reduceToInt, ne_eq] at u11064 xq2 h11065 xq12 h11078 xq14 a11098 u11099 h11100 ⊢) <;> (try simp (disch := omega) only [zb] at u11064 xq2 h11065 xq12 h11078 xq14 a11098 u11099 h11100 ⊢) <;> first | omega | ((try simp (disch := omega) only [zb] at u11064 xq2 h11065 xq12 h11078 xq14 a11098 u11099 h11100 ⊢) <;> omega)) ?_
        refine sw_ite (fun h11101 => ?_) (fun h11101 => ?_)
        · unfold fX9_pair_179
          refine sw_ite (fun h11102 => ?_) (fun h11102 => ?_)
          · unfold fX9_pair_198
            refine sw_ite (fun h11103 => ?_) (fun h11103 => ?_)
            · unfold fX9_pair_227
              unfold fX9_pair_228
              have w11104 : mm_I s11 q17 ((1 : Int32).toNatClampNeg) = mm_I q2.2 q17 ((1 : Int32).toNatClampNeg) := by rw [← es11]; exact rd_k tq17 tq5 (by decide)
              have w11105 := (gq2.2.2 _ _ tq17 ((1 : Int32).toNatClampNeg) rfl).1
              have r11106 := ci_rg c0 tq17 ((1 : Int32).toNatClampNeg) (lo := (-1)) (hi := 3) rfl
              have r11107 := ci_rg cq2 tq17 ((1 : Int32).toNatClampNeg) (lo := (-1)) (hi := 3) rfl
              have r11108 := ci_rg cs11 tq17 ((1 : Int32).toNatClampNeg) (lo := (-1)) (hi := 3) rfl
              refine sw_ite (fun h11109 => ?_) (fun h11109 => ?_)
              · have w11110 : mm_I s11 p0 0 = mm_I q2.2 p0 0 := by rw [← es11]; exact rd_k t_p0 tq5 (by decide)
                have w11113 : rdA s11 p0 9 0 = mm_I s11 q17 ((0 : Int32)).toNatClampNeg := rdA_eq eq17
                have w11112 : rdA s11 p0 9 0 = rdA q2.2 p0 9 0 := by rw [← es11]; exact rdA_k cq2 t_p0 (κ' := 59) rfl tq5 (by decide)
                have w11114 := rdA_fr (k := 9) (j := 0) gq2 c0 t_p0 (κ' := 59) rfl rfl rfl
                have w11116 : rdA s11 p0 10 0 = rdA q2.2 p0 10 0 := by rw [← es11]; exact rdA_j (by decide)
                have w11118 : rdA q2.2 p0 10 0 = mm_I q2.2 q5 ((0 : Int32)).toNatClampNeg := rdA_eq eq5
                have w11117 := rdA_fr (k := 10) (j := 0) gq2 c0 t_p0 (κ' := 60) rfl rfl rfl
                have w11120 : rdA s11 p0 10 1 = -1 := by rw [← es11]; exact rdA_self eq5
                have w11122 : rdA s11 p0 9 1 = mm_I s11 q17 ((1 : Int32)).toNatClampNeg := rdA_eq eq17
                have w11121 : rdA s11 p0 9 1 = rdA q2.2 p0 9 1 := by rw [← es11]; exact rdA_k cq2 t_p0 (κ' := 59) rfl tq5 (by decide)
                have w11123 := rdA_fr (k := 9) (j := 1) gq2 c0 t_p0 (κ' := 59) rfl rfl rfl
                have w11127 : rdA q2.2 p0 10 1 = mm_I q2.2 q5 ((1 : Int32)).toNatClampNeg := rdA_eq eq5
                have w11126 := rdA_fr (k := 10) (j := 1) gq2 c0 t_p0 (κ' := 60) rfl rfl rfl
                have a11128 := zi_and p3 127 (by decide)
                have a11129 := zi_and p2 8 (by decide)
                exact sw_some ⟨cs11, fs11, (by (try simp only [zp, zo, zq] at u11064 xq2 h11065 xq12 h11078 xq14 a11098 u11099 h11100 h11101 h11102 h11103 w11104 w11105 r11106 r11107 r11108 h11109 w11110 w11113 w11112 w11114 w11116 w11118 w11117 w11120 w11122 w11121 w11123 w11127 w11126 a11128 a11129 ⊢) <;> (try simp only [zz, Int32.reduceToInt, ne_eq] at u11064 xq2 h11065 xq12 h11078 xq14 a11098 u11099 h11100 h11101 h11102 h11103 w11104 w11105 r11106 r11107 r11108 h11109 w11110 w11113 w11112 w11114 w11116 w11118 w11117 w11120 w11122 w11121 w11123 w11127 w11126 a11128 a11129 ⊢) <;> (try simp (disch := omega) only [zb] at u11064 xq2 h11065 xq12 h11078 xq14 a11098 u11099 h11100 h11101 h11102 h11103 w11104 w11105 r11106 r11107 r11108 h11109 w11110 w11113 w11112 w11114 w11116 w11118 w11117 w11120 w11122 w11121 w11123 w11127 w11126 a11128 a11129 ⊢) <;> first | omega | ((try simp (disch := omega) only [zb] at u11064 xq2 h11065 xq12 h11078 xq14 a11098 u11099 h11100 h11101 h11102 h11103 w11104 w11105 r11106 r11107 r11108 h11109 w11110 w11113 w11112 w11114 w11116 w11118 w11117 w11120 w11122 w11121 w11123 w11127 w11126 a11128 a11129 ⊢) <;> omega))⟩
              · refine sw_ite (fun h11130 => ?_) (fun h11130 => ?_)
                · refine sw_ite (fun h11131 => ?_) (fun h11131 => ?_)
                  · have w11132 : mm_I s11 p0 0 = mm_I q2.2 p0 0 := by rw [← es11]; exact rd_k t_p0 tq5 (by decide)
                    have w11135 : rdA s11 p0 9 0 = mm_I s11 q17 ((0 : Int32)).toNatClampNeg := rdA_eq eq17
                    have w11134 : rdA s11 p0 9 0 = rdA q2.2 p0 9 0 := by rw [← es11]; exact rdA_k cq2 t_p0 (κ' := 59) rfl tq5 (by decide)
                    have w11136 := rdA_fr (k := 9) (j := 0) gq2 c0 t_p0 (κ' := 59) rfl rfl rfl
                    have w11138 : rdA s11 p0 10 0 = rdA q2.2 p0 10 0 := by rw [← es11]; exact rdA_j (by decide)
                    have w11140 : rdA q2.2 p0 10 0 = mm_I q2.2 q5 ((0 : Int32)).toNatClampNeg := rdA_eq eq5
                    have w11139 := rdA_fr (k := 10) (j := 0) gq2 c0 t_p0 (κ' := 60) rfl rfl rfl
                    have w11142 : rdA s11 p0 10 1 = -1 := by rw [← es11]; exact rdA_self eq5
                    have w11144 : rdA s11 p0 9 1 = mm_I s11 q17 ((1 : Int32)).toNatClampNeg := rdA_eq eq17
                    have w11143 : rdA s11 p0 9 1 = rdA q2.2 p0 9 1 := by rw [← es11]; exact rdA_k cq2 t_p0 (κ' := 59) rfl tq5 (by decide)
                    have w11145 := rdA_fr (k := 9) (j := 1) gq2 c0 t_p0 (κ' := 59) rfl rfl rfl
                    have w11149 : rdA q2.2 p0 10 1 = mm_I q2.2 q5 ((1 : Int32)).toNatClampNeg := rdA_eq eq5
                    have w11148 := rdA_fr (k := 10) (j := 1) gq2 c0 t_p0 (κ' := 60) rfl rfl rfl
                    have a11150 := zi_and p3 127 (by decide)
                    have a11151 := zi_and p2 8 (by decide)
                    exact sw_some ⟨cs11, fs11, (by (try simp only [zp, zo, zq] at u11064 xq2 h11065 xq12 h11078 xq14 a11098 u11099 h11100 h11101 h11102 h11103 w11104 w11105 r11106 r11107 r11108 h11109 h11130 h11131 w11132 w11135 w11134 w11136 w11138 w11140 w11139 w11142 w11144 w11143 w11145 w11149 w11148 a11150 a11151 ⊢) <;> (try simp only [zz, Int32.reduceToInt, ne_eq] at u11064 xq2 h11065 xq12 h11078 xq14 a11098 u11099 h11100 h11101 h11102 h11103 w11104 w11105 r11106 r11107 r11108 h11109 h11130 h11131 w11132 w11135 w11134 w11136 w11138 w11140 w11139 w11142 w11144 w11143 w11145 w11149 w11148 a11150 a11151 ⊢) <;> (try simp (disch := omega) only [zb] at u11064 xq2 h11065 xq12 h11078 xq14 a11098 u11099 h11100 h11101 h11102 h11103 w11104 w11105 r11106 r11107 r11108 h11109 h11130 h11131 w11132 w11135 w11134 w11136 w11138 w11140 w11139 w11142 w11144 w11143 w11145 w11149 w11148 a11150 a11151 ⊢) <;> first | omega | ((try simp (disch := omega) only [zb] at u11064 xq2 h11065 xq12 h11078 xq14 a11098 u11099 h11100 h11101 h11102 h11103 w11104 w11105 r11106 r11107 r11108 h11109 h11130 h11131 w11132 w11135 w11134 w11136 w11138 w11140 w11139 w11142 w11144 w11143 w11145 w11149 w11148 a11150 a11151 ⊢) <;> omega))⟩
                  · unfold fX9_pair_250
                    refine sw_ite (fun h11152 => ?_) (fun h11152 => ?_)
                    · unfold fX9_pair_264
                      refine sw_ite (fun h11153 => ?_) (fun h11153 => ?_)
                      · have w11154 : mm_I s11 p0 0 = mm_I q2.2 p0 0 := by rw [← es11]; exact rd_k t_p0 tq5 (by decide)
                        have w11157 : rdA s11 p0 9 0 = mm_I s11 q17 ((0 : Int32)).toNatClampNeg := rdA_eq eq17
                        have w11156 : rdA s11 p0 9 0 = rdA q2.2 p0 9 0 := by rw [← es11]; exact rdA_k cq2 t_p0 (κ' := 59) rfl tq5 (by decide)
                        have w11158 := rdA_fr (k := 9) (j := 0) gq2 c0 t_p0 (κ' := 59) rfl rfl rfl
                        have w11160 : rdA s11 p0 10 0 = rdA q2.2 p0 10 0 := by rw [← es11]; exact rdA_j (by decide)
                        have w11162 : rdA q2.2 p0 10 0 = mm_I q2.2 q5 ((0 : Int32)).toNatClampNeg := rdA_eq eq5
                        have w11161 := rdA_fr (k := 10) (j := 0) gq2 c0 t_p0 (κ' := 60) rfl rfl rfl
                        have w11164 : rdA s11 p0 10 1 = -1 := by rw [← es11]; exact rdA_self eq5
                        have w11166 : rdA s11 p0 9 1 = mm_I s11 q17 ((1 : Int32)).toNatClampNeg := rdA_eq eq17
                        have w11165 : rdA s11 p0 9 1 = rdA q2.2 p0 9 1 := by rw [← es11]; exact rdA_k cq2 t_p0 (κ' := 59) rfl tq5 (by decide)
                        have w11167 := rdA_fr (k := 9) (j := 1) gq2 c0 t_p0 (κ' := 59) rfl rfl rfl
                        have w11171 : rdA q2.2 p0 10 1 = mm_I q2.2 q5 ((1 : Int32)).toNatClampNeg := rdA_eq eq5
                        have w11170 := rdA_fr (k := 10) (j := 1) gq2 c0 t_p0 (κ' := 60) rfl rfl rfl
                        have a11172 := zi_and p3 127 (by decide)
                        have a11173 := zi_and p2 8 (by decide)
                        exact sw_some ⟨cs11, fs11, (by (try simp only [zp, zo, zq] at u11064 xq2 h11065 xq12 h11078 xq14 a11098 u11099 h11100 h11101 h11102 h11103 w11104 w11105 r11106 r11107 r11108 h11109 h11130 h11131 h11152 h11153 w11154 w11157 w11156 w11158 w11160 w11162 w11161 w11164 w11166 w11165 w11167 w11171 w11170 a11172 a11173 ⊢) <;> (try simp only [zz, Int32.reduceToInt, ne_eq] at u11064 xq2 h11065 xq12 h11078 xq14 a11098 u11099 h11100 h11101 h11102 h11103 w11104 w11105 r11106 r11107 r11108 h11109 h11130 h11131 h11152 h11153 w11154 w11157 w11156 w11158 w11160 w11162 w11161 w11164 w11166 w11165 w11167 w11171 w11170 a11172 a11173 ⊢) <;> (try simp (disch := omega) only [zb] at u11064 xq2 h11065 xq12 h11078 xq14 a11098 u11099 h11100 h11101 h11102 h11103 w11104 w11105 r11106 r11107 r11108 h11109 h11130 h11131 h11152 h11153 w11154 w11157 w11156 w11158 w11160 w11162 w11161 w11164 w11166 w11165 w11167 w11171 w11170 a11172 a11173 ⊢) <;> first | omega | ((try simp (disch := omega) only [zb] at u11064 xq2 h11065 xq12 h11078 xq14 a11098 u11099 h11100 h11101 h11102 h11103 w11104 w11105 r11106 r11107 r11108 h11109 h11130 h11131 h11152 h11153 w11154 w11157 w11156 w11158 w11160 w11162 w11161 w11164 w11166 w11165 w11167 w11171 w11170 a11172 a11173 ⊢) <;> omega))⟩
                      · refine sw_sh (ci_sh cs11 t_p0 rfl) ?_
                        refine sw_on (sX9_put cs11 t_p0 (by (try simp only [zp, zo, zq] at u11064 xq2 h11065 xq12 h11078 xq14 a11098 u11099 h11100 h11101 h11102 h11103 w11104 w11105 r11106 r11107 r11108 h11109 h11130 h11131 h11152 h11153 ⊢) <;> (try simp only [zz, Int32.reduceToInt, ne_eq] at u11064 xq2 h11065 xq12 h11078 xq14 a11098 u11099 h11100 h11101 h11102 h11103 w11104 w11105 r11106 r11107 r11108 h11109 h11130 h11131 h11152 h11153 ⊢) <;> (try simp (disch := omega) only [zb] at u11064 xq2 h11065 xq12 h11078 xq14 a11098 u11099 h11100 h11101 h11102 h11103 w11104 w11105 r11106 r11107 r11108 h11109 h11130 h11131 h11152 h11153 ⊢) <;> first | omega | ((try simp (disch := omega) only [zb] at u11064 xq2 h11065 xq12 h11078 xq14 a11098 u11099 h11100 h11101 h11102 h11103 w11104 w11105 r11106 r11107 r11108 h11109 h11130 h11131 h11152 h11153 ⊢) <;> omega)) ) ?_
                        intro q28 hqq28
                        obtain ⟨cq28, gq28, xq28⟩ := hqq28
                        have fq28 := fr_trans fs11 gq28 rfl
                        have w11174 := (gq28.2.2 _ _ t_p0 0 rfl).1
                        have w11175 : mm_I s11 p0 0 = mm_I q2.2 p0 0 := by rw [← es11]; exact rd_k t_p0 tq5 (by decide)
                        have w11177 := rdA_fr (k := 9) (j := 0) gq28 cs11 t_p0 (κ' := 59) rfl rfl rfl
                        have w11179 : rdA s11 p0 9 0 = mm_I s11 q17 ((0 : Int32)).toNatClampNeg := rdA_eq eq17
                        have w11178 : rdA s11 p0 9 0 = rdA q2.2 p0 9 0 := by rw [← es11]; exact rdA_k cq2 t_p0 (κ' := 59) rfl tq5 (by decide)
                        have w11180 := rdA_fr (k := 9) (j := 0) gq2 c0 t_p0 (κ' := 59) rfl rfl rfl
                        have w11182 := rdA_fr (k := 10) (j := 0) gq28 cs11 t_p0 (κ' := 60) rfl rfl rfl
                        have w11183 : rdA s11 p0 10 0 = rdA q2.2 p0 10 0 := by rw [← es11]; exact rdA_j (by decide)
                        have w11185 : rdA q2.2 p0 10 0 = mm_I q2.2 q5 ((0 : Int32)).toNatClampNeg := rdA_eq eq5
                        have w11184 := rdA_fr (k := 10) (j := 0) gq2 c0 t_p0 (κ' := 60) rfl rfl rfl
                        have w11187 := rdA_fr (k := 10) (j := 1) gq28 cs11 t_p0 (κ' := 60) rfl rfl rfl
                        have w11188 : rdA s11 p0 10 1 = -1 := by rw [← es11]; exact rdA_self eq5
                        have w11189 := rdA_fr (k := 9) (j := 1) gq28 cs11 t_p0 (κ' := 59) rfl rfl rfl
                        have w11191 : rdA s11 p0 9 1 = mm_I s11 q17 ((1 : Int32)).toNatClampNeg := rdA_eq eq17
                        have w11190 : rdA s11 p0 9 1 = rdA q2.2 p0 9 1 := by rw [← es11]; exact rdA_k cq2 t_p0 (κ' := 59) rfl tq5 (by decide)
                        have w11192 := rdA_fr (k := 9) (j := 1) gq2 c0 t_p0 (κ' := 59) rfl rfl rfl
                        have w11196 : rdA q2.2 p0 10 1 = mm_I q2.2 q5 ((1 : Int32)).toNatClampNeg := rdA_eq eq5
                        have w11195 := rdA_fr (k := 10) (j := 1) gq2 c0 t_p0 (κ' := 60) rfl rfl rfl
                        have a11197 := zi_and p3 127 (by decide)
                        have a11198 := zi_and p2 8 (by decide)
                        exact sw_some ⟨cq28, fq28, (by (try simp only [zp, zo, zq] at u11064 xq2 h11065 xq12 h11078 xq14 a11098 u11099 h11100 h11101 h11102 h11103 w11104 w11105 r11106 r11107 r11108 h11109 h11130 h11131 h11152 h11153 w11174 w11175 w11177 w11179 w11178 w11180 w11182 w11183 w11185 w11184 w11187 w11188 w11189 w11191 w11190 w11192 w11196 w11195 a11197 a11198 ⊢) <;> (try simp only [zz, Int32.reduceToInt, ne_eq] at u11064 xq2 h11065 xq12 h11078 xq14 a11098 u11099 h11100 h11101 h11102 h11103 w11104 w11105 r11106 r11107 r11108 h11109 h11130 h11131 h11152 h11153 w11174 w11175 w11177 w11179 w11178 w11180 w11182 w11183 w11185 w11184 w11187 w11188 w11189 w11191 w11190 w11192 w11196 w11195 a11197 a11198 ⊢) <;> (try simp (disch := omega) only [zb] at u11064 xq2 h11065 xq12 h11078 xq14 a11098 u11099 h11100 h11101 h11102 h11103 w11104 w11105 r11106 r11107 r11108 h11109 h11130 h11131 h11152 h11153 w11174 w11175 w11177 w11179 w11178 w11180 w11182 w11183 w11185 w11184 w11187 w11188 w11189 w11191 w11190 w11192 w11196 w11195 a11197 a11198 ⊢) <;> first | omega | ((try simp (disch := omega) only [zb] at u11064 xq2 h11065 xq12 h11078 xq14 a11098 u11099 h11100 h11101 h11102 h11103 w11104 w11105 r11106 r11107 r11108 h11109 h11130 h11131 h11152 h11153 w11174 w11175 w11177 w11179 w11178 w11180 w11182 w11183 w11185 w11184 w11187 w11188 w11189 w11191 w11190 w11192 w11196 w11195 a11197 a11198 ⊢) <;> omega))⟩
                    · refine sw_sh (ci_sh cs11 t_p0 rfl) ?_
                      refine sw_on (sX9_put cs11 t_p0 (by (try simp only [zp, zo, zq] at u11064 xq2 h11065 xq12 h11078 xq14 a11098 u11099 h11100 h11101 h11102 h11103 w11104 w11105 r11106 r11107 r11108 h11109 h11130 h11131 h11152 ⊢) <;> (try simp only [zz, Int32.reduceToInt, ne_eq] at u11064 xq2 h11065 xq12 h11078 xq14 a11098 u11099 h11100 h11101 h11102 h11103 w11104 w11105 r11106 r11107 r11108 h11109 h11130 h11131 h11152 ⊢) <;> (try simp (disch := omega) only [zb] at u11064 xq2 h11065 xq12 h11078 xq14 a11098 u11099 h11100 h11101 h11102 h11103 w11104 w11105 r11106 r11107 r11108 h11109 h11130 h11131 h11152 ⊢) <;> first | omega | ((try simp (disch := omega) only [zb] at u11064 xq2 h11065 xq12 h11078 xq14 a11098 u11099 h11100 h11101 h11102 h11103 w11104 w11105 r11106 r11107 r11108 h11109 h11130 h11131 h11152 ⊢) <;> omega)) ) ?_
                      intro q30 hqq30
                      obtain ⟨cq30, gq30, xq30⟩ := hqq30
                      have fq30 := fr_trans fs11 gq30 rfl
                      unfold fX9_pair_264
                      refine sw_ite (fun h11199 => ?_) (fun h11199 => ?_)
                      · have w11200 := (gq30.2.2 _ _ t_p0 0 rfl).1
                        have w11201 : mm_I s11 p0 0 = mm_I q2.2 p0 0 := by rw [← es11]; exact rd_k t_p0 tq5 (by decide)
                        have w11203 := rdA_fr (k := 9) (j := 0) gq30 cs11 t_p0 (κ' := 59) rfl rfl rfl
                        have w11205 : rdA s11 p0 9 0 = mm_I s11 q17 ((0 : Int32)).toNatClampNeg := rdA_eq eq17
                        have w11204 : rdA s11 p0 9 0 = rdA q2.2 p0 9 0 := by rw [← es11]; exact rdA_k cq2 t_p0 (κ' := 59) rfl tq5 (by decide)
                        have w11206 := rdA_fr (k := 9) (j := 0) gq2 c0 t_p0 (κ' := 59) rfl rfl rfl
                        have w11208 := rdA_fr (k := 10) (j := 0) gq30 cs11 t_p0 (κ' := 60) rfl rfl rfl
                        have w11209 : rdA s11 p0 10 0 = rdA q2.2 p0 10 0 := by rw [← es11]; exact rdA_j (by decide)
                        have w11211 : rdA q2.2 p0 10 0 = mm_I q2.2 q5 ((0 : Int32)).toNatClampNeg := rdA_eq eq5
                        have w11210 := rdA_fr (k := 10) (j := 0) gq2 c0 t_p0 (κ' := 60) rfl rfl rfl
                        have w11213 := rdA_fr (k := 10) (j := 1) gq30 cs11 t_p0 (κ' := 60) rfl rfl rfl
                        have w11214 : rdA s11 p0 10 1 = -1 := by rw [← es11]; exact rdA_self eq5
                        have w11215 := rdA_fr (k := 9) (j := 1) gq30 cs11 t_p0 (κ' := 59) rfl rfl rfl
                        have w11217 : rdA s11 p0 9 1 = mm_I s11 q17 ((1 : Int32)).toNatClampNeg := rdA_eq eq17
                        have w11216 : rdA s11 p0 9 1 = rdA q2.2 p0 9 1 := by rw [← es11]; exact rdA_k cq2 t_p0 (κ' := 59) rfl tq5 (by decide)
                        have w11218 := rdA_fr (k := 9) (j := 1) gq2 c0 t_p0 (κ' := 59) rfl rfl rfl
                        have w11222 : rdA q2.2 p0 10 1 = mm_I q2.2 q5 ((1 : Int32)).toNatClampNeg := rdA_eq eq5
                        have w11221 := rdA_fr (k := 10) (j := 1) gq2 c0 t_p0 (κ' := 60) rfl rfl rfl
                        have a11223 := zi_and p3 127 (by decide)
                        have a11224 := zi_and p2 8 (by decide)
                        exact sw_some ⟨cq30, fq30, (by (try simp only [zp, zo, zq] at u11064 xq2 h11065 xq12 h11078 xq14 a11098 u11099 h11100 h11101 h11102 h11103 w11104 w11105 r11106 r11107 r11108 h11109 h11130 h11131 h11152 h11199 w11200 w11201 w11203 w11205 w11204 w11206 w11208 w11209 w11211 w11210 w11213 w11214 w11215 w11217 w11216 w11218 w11222 w11221 a11223 a11224 ⊢) <;> (try simp only [zz, Int32.reduceToInt, ne_eq] at u11064 xq2 h11065 xq12 h11078 xq14 a11098 u11099 h11100 h11101 h11102 h11103 w11104 w11105 r11106 r11107 r11108 h11109 h11130 h11131 h11152 h11199 w11200 w11201 w11203 w11205 w11204 w11206 w11208 w11209 w11211 w11210 w11213 w11214 w11215 w11217 w11216 w11218 w11222 w11221 a11223 a11224 ⊢) <;> (try simp (disch := omega) only [zb] at u11064 xq2 h11065 xq12 h11078 xq14 a11098 u11099 h11100 h11101 h11102 h11103 w11104 w11105 r11106 r11107 r11108 h11109 h11130 h11131 h11152 h11199 w11200 w11201 w11203 w11205 w11204 w11206 w11208 w11209 w11211 w11210 w11213 w11214 w11215 w11217 w11216 w11218 w11222 w11221 a11223 a11224 ⊢) <;> first | omega | ((try simp (disch := omega) only [zb] at u11064 xq2 h11065 xq12 h11078 xq14 a11098 u11099 h11100 h11101 h11102 h11103 w11104 w11105 r11106 r11107 r11108 h11109 h11130 h11131 h11152 h11199 w11200 w11201 w11203 w11205 w11204 w11206 w11208 w11209 w11211 w11210 w11213 w11214 w11215 w11217 w11216 w11218 w11222 w11221 a11223 a11224 ⊢) <;> omega))⟩
                      · refine sw_sh (ci_sh cq30 t_p0 rfl) ?_
                        refine sw_on (sX9_put cq30 t_p0 (by (try simp only [zp, zo, zq] at u11064 xq2 h11065 xq12 h11078 xq14 a11098 u11099 h11100 h11101 h11102 h11103 w11104 w11105 r11106 r11107 r11108 h11109 h11130 h11131 h11152 h11199 ⊢) <;> (try simp only [zz, Int32.reduceToInt, ne_eq] at u11064 xq2 h11065 xq12 h11078 xq14 a11098 u11099 h11100 h11101 h11102 h11103 w11104 w11105 r11106 r11107 r11108 h11109 h11130 h11131 h11152 h11199 ⊢) <;> (try simp (disch := omega) only [zb] at u11064 xq2 h11065 xq12 h11078 xq14 a11098 u11099 h11100 h11101 h11102 h11103 w11104 w11105 r11106 r11107 r11108 h11109 h11130 h11131 h11152 h11199 ⊢) <;> first | omega | ((try simp (disch := omega) only [zb] at u11064 xq2 h11065 xq12 h11078 xq14 a11098 u11099 h11100 h11101 h11102 h11103 w11104 w11105 r11106 r11107 r11108 h11109 h11130 h11131 h11152 h11199 ⊢) <;> omega)) ) ?_
                        intro q28 hqq28
                        obtain ⟨cq28, gq28, xq28⟩ := hqq28
                        have fq28 := fr_trans fq30 gq28 rfl
                        have w11225 := (gq28.2.2 _ _ t_p0 0 rfl).1
                        have w11226 := (gq30.2.2 _ _ t_p0 0 rfl).1
                        have w11227 : mm_I s11 p0 0 = mm_I q2.2 p0 0 := by rw [← es11]; exact rd_k t_p0 tq5 (by decide)
                        have w11229 := rdA_fr (k := 9) (j := 0) gq28 cq30 t_p0 (κ' := 59) rfl rfl rfl
                        have w11230 := rdA_fr (k := 9) (j := 0) gq30 cs11 t_p0 (κ' := 59) rfl rfl rfl
                        have w11232 : rdA s11 p0 9 0 = mm_I s11 q17 ((0 : Int32)).toNatClampNeg := rdA_eq eq17
                        have w11231 : rdA s11 p0 9 0 = rdA q2.2 p0 9 0 := by rw [← es11]; exact rdA_k cq2 t_p0 (κ' := 59) rfl tq5 (by decide)
                        have w11233 := rdA_fr (k := 9) (j := 0) gq2 c0 t_p0 (κ' := 59) rfl rfl rfl
                        have w11235 := rdA_fr (k := 10) (j := 0) gq28 cq30 t_p0 (κ' := 60) rfl rfl rfl
                        have w11236 := rdA_fr (k := 10) (j := 0) gq30 cs11 t_p0 (κ' := 60) rfl rfl rfl
                        have w11237 : rdA s11 p0 10 0 = rdA q2.2 p0 10 0 := by rw [← es11]; exact rdA_j (by decide)
                        have w11239 : rdA q2.2 p0 10 0 = mm_I q2.2 q5 ((0 : Int32)).toNatClampNeg := rdA_eq eq5
                        have w11238 := rdA_fr (k := 10) (j := 0) gq2 c0 t_p0 (κ' := 60) rfl rfl rfl
                        have w11241 := rdA_fr (k := 10) (j := 1) gq28 cq30 t_p0 (κ' := 60) rfl rfl rfl
                        have w11242 := rdA_fr (k := 10) (j := 1) gq30 cs11 t_p0 (κ' := 60) rfl rfl rfl
                        have w11243 : rdA s11 p0 10 1 = -1 := by rw [← es11]; exact rdA_self eq5
                        have w11244 := rdA_fr (k := 9) (j := 1) gq28 cq30 t_p0 (κ' := 59) rfl rfl rfl
                        have w11245 := rdA_fr (k := 9) (j := 1) gq30 cs11 t_p0 (κ' := 59) rfl rfl rfl
                        have w11247 : rdA s11 p0 9 1 = mm_I s11 q17 ((1 : Int32)).toNatClampNeg := rdA_eq eq17
                        have w11246 : rdA s11 p0 9 1 = rdA q2.2 p0 9 1 := by rw [← es11]; exact rdA_k cq2 t_p0 (κ' := 59) rfl tq5 (by decide)
                        have w11248 := rdA_fr (k := 9) (j := 1) gq2 c0 t_p0 (κ' := 59) rfl rfl rfl
                        have w11252 : rdA q2.2 p0 10 1 = mm_I q2.2 q5 ((1 : Int32)).toNatClampNeg := rdA_eq eq5
                        have w11251 := rdA_fr (k := 10) (j := 1) gq2 c0 t_p0 (κ' := 60) rfl rfl rfl
                        have a11253 := zi_and p3 127 (by decide)
                        have a11254 := zi_and p2 8 (by decide)
                        exact sw_some ⟨cq28, fq28, (by (try simp only [zp, zo, zq] at u11064 xq2 h11065 xq12 h11078 xq14 a11098 u11099 h11100 h11101 h11102 h11103 w11104 w11105 r11106 r11107 r11108 h11109 h11130 h11131 h11152 h11199 w11225 w11226 w11227 w11229 w11230 w11232 w11231 w11233 w11235 w11236 w11237 w11239 w11238 w11241 w11242 w11243 w11244 w11245 w11247 w11246 w11248 w11252 w11251 a11253 a11254 ⊢) <;> (try simp only [zz, Int32.reduceToInt, ne_eq] at u11064 xq2 h11065 xq12 h11078 xq14 a11098 u11099 h11100 h11101 h11102 h11103 w11104 w11105 r11106 r11107 r11108 h11109 h11130 h11131 h11152 h11199 w11225 w11226 w11227 w11229 w11230 w11232 w11231 w11233 w11235 w11236 w11237 w11239 w11238 w11241 w11242 w11243 w11244 w11245 w11247 w11246 w11248 w11252 w11251 a11253 a11254 ⊢) <;> (try simp (disch := omega) only [zb] at u11064 xq2 h11065 xq12 h11078 xq14 a11098 u11099 h11100 h11101 h11102 h11103 w11104 w11105 r11106 r11107 r11108 h11109 h11130 h11131 h11152 h11199 w11225 w11226 w11227 w11229 w11230 w11232 w11231 w11233 w11235 w11236 w11237 w11239 w11238 w11241 w11242 w11243 w11244 w11245 w11247 w11246 w11248 w11252 w11251 a11253 a11254 ⊢) <;> first | omega | ((try simp (disch := omega) only [zb] at u11064 xq2 h11065 xq12 h11078 xq14 a11098 u11099 h11100 h11101 h11102 h11103 w11104 w11105 r11106 r11107 r11108 h11109 h11130 h11131 h11152 h11199 w11225 w11226 w11227 w11229 w11230 w11232 w11231 w11233 w11235 w11236 w11237 w11239 w11238 w11241 w11242 w11243 w11244 w11245 w11247 w11246 w11248 w11252 w11251 a11253 a11254 ⊢) <;> omega))⟩
                · unfold fX9_pair_250
                  refine sw_ite (fun h11255 => ?_) (fun h11255 => ?_)
                  · unfold fX9_pair_264
                    refine sw_ite (fun h11256 => ?_) (fun h11256 => ?_)
                    · have w11257 : mm_I s11 p0 0 = mm_I q2.2 p0 0 := by rw [← es11]; exact rd_k t_p0 tq5 (by decide)
                      have w11260 : rdA s11 p0 9 0 = mm_I s11 q17 ((0 : Int32)).toNatClampNeg := rdA_eq eq17
                      have w11259 : rdA s11 p0 9 0 = rdA q2.2 p0 9 0 := by rw [← es11]; exact rdA_k cq2 t_p0 (κ' := 59) rfl tq5 (by decide)
                      have w11261 := rdA_fr (k := 9) (j := 0) gq2 c0 t_p0 (κ' := 59) rfl rfl rfl
                      have w11263 : rdA s11 p0 10 0 = rdA q2.2 p0 10 0 := by rw [← es11]; exact rdA_j (by decide)
                      have w11265 : rdA q2.2 p0 10 0 = mm_I q2.2 q5 ((0 : Int32)).toNatClampNeg := rdA_eq eq5
                      have w11264 := rdA_fr (k := 10) (j := 0) gq2 c0 t_p0 (κ' := 60) rfl rfl rfl
                      have w11267 : rdA s11 p0 10 1 = -1 := by rw [← es11]; exact rdA_self eq5
                      have w11269 : rdA s11 p0 9 1 = mm_I s11 q17 ((1 : Int32)).toNatClampNeg := rdA_eq eq17
                      have w11268 : rdA s11 p0 9 1 = rdA q2.2 p0 9 1 := by rw [← es11]; exact rdA_k cq2 t_p0 (κ' := 59) rfl tq5 (by decide)
                      have w11270 := rdA_fr (k := 9) (j := 1) gq2 c0 t_p0 (κ' := 59) rfl rfl rfl
                      have w11274 : rdA q2.2 p0 10 1 = mm_I q2.2 q5 ((1 : Int32)).toNatClampNeg := rdA_eq eq5
                      have w11273 := rdA_fr (k := 10) (j := 1) gq2 c0 t_p0 (κ' := 60) rfl rfl rfl
                      have a11275 := zi_and p3 127 (by decide)
                      have a11276 := zi_and p2 8 (by decide)
                      exact sw_some ⟨cs11, fs11, (by (try simp only [zp, zo, zq] at u11064 xq2 h11065 xq12 h11078 xq14 a11098 u11099 h11100 h11101 h11102 h11103 w11104 w11105 r11106 r11107 r11108 h11109 h11130 h11255 h11256 w11257 w11260 w11259 w11261 w11263 w11265 w11264 w11267 w11269 w11268 w11270 w11274 w11273 a11275 a11276 ⊢) <;> (try simp only [zz, Int32.reduceToInt, ne_eq] at u11064 xq2 h11065 xq12 h11078 xq14 a11098 u11099 h11100 h11101 h11102 h11103 w11104 w11105 r11106 r11107 r11108 h11109 h11130 h11255 h11256 w11257 w11260 w11259 w11261 w11263 w11265 w11264 w11267 w11269 w11268 w11270 w11274 w11273 a11275 a11276 ⊢) <;> (try simp (disch := omega) only [zb] at u11064 xq2 h11065 xq12 h11078 xq14 a11098 u11099 h11100 h11101 h11102 h11103 w11104 w11105 r11106 r11107 r11108 h11109 h11130 h11255 h11256 w11257 w11260 w11259 w11261 w11263 w11265 w11264 w11267 w11269 w11268 w11270 w11274 w11273 a11275 a11276 ⊢) <;> first | omega | ((try simp (disch := omega) only [zb] at u11064 xq2 h11065 xq12 h11078 xq14 a11098 u11099 h11100 h11101 h11102 h11103 w11104 w11105 r11106 r11107 r11108 h11109 h11130 h11255 h11256 w11257 w11260 w11259 w11261 w11263 w11265 w11264 w11267 w11269 w11268 w11270 w11274 w11273 a11275 a11276 ⊢) <;> omega))⟩
                    · refine sw_sh (ci_sh cs11 t_p0 rfl) ?_
                      refine sw_on (sX9_put cs11 t_p0 (by (try simp only [zp, zo, zq] at u11064 xq2 h11065 xq12 h11078 xq14 a11098 u11099 h11100 h11101 h11102 h11103 w11104 w11105 r11106 r11107 r11108 h11109 h11130 h11255 h11256 ⊢) <;> (try simp only [zz, Int32.reduceToInt, ne_eq] at u11064 xq2 h11065 xq12 h11078 xq14 a11098 u11099 h11100 h11101 h11102 h11103 w11104 w11105 r11106 r11107 r11108 h11109 h11130 h11255 h11256 ⊢) <;> (try simp (disch := omega) only [zb] at u11064 xq2 h11065 xq12 h11078 xq14 a11098 u11099 h11100 h11101 h11102 h11103 w11104 w11105 r11106 r11107 r11108 h11109 h11130 h11255 h11256 ⊢) <;> first | omega | ((try simp (disch := omega) only [zb] at u11064 xq2 h11065 xq12 h11078 xq14 a11098 u11099 h11100 h11101 h11102 h11103 w11104 w11105 r11106 r11107 r11108 h11109 h11130 h11255 h11256 ⊢) <;> omega)) ) ?_
                      intro q28 hqq28
                      obtain ⟨cq28, gq28, xq28⟩ := hqq28
                      have fq28 := fr_trans fs11 gq28 rfl
                      have w11277 := (gq28.2.2 _ _ t_p0 0 rfl).1
                      have w11278 : mm_I s11 p0 0 = mm_I q2.2 p0 0 := by rw [← es11]; exact rd_k t_p0 tq5 (by decide)
                      have w11280 := rdA_fr (k := 9) (j := 0) gq28 cs11 t_p0 (κ' := 59) rfl rfl rfl
                      have w11282 : rdA s11 p0 9 0 = mm_I s11 q17 ((0 : Int32)).toNatClampNeg := rdA_eq eq17
                      have w11281 : rdA s11 p0 9 0 = rdA q2.2 p0 9 0 := by rw [← es11]; exact rdA_k cq2 t_p0 (κ' := 59) rfl tq5 (by decide)
                      have w11283 := rdA_fr (k := 9) (j := 0) gq2 c0 t_p0 (κ' := 59) rfl rfl rfl
                      have w11285 := rdA_fr (k := 10) (j := 0) gq28 cs11 t_p0 (κ' := 60) rfl rfl rfl
                      have w11286 : rdA s11 p0 10 0 = rdA q2.2 p0 10 0 := by rw [← es11]; exact rdA_j (by decide)
                      have w11288 : rdA q2.2 p0 10 0 = mm_I q2.2 q5 ((0 : Int32)).toNatClampNeg := rdA_eq eq5
                      have w11287 := rdA_fr (k := 10) (j := 0) gq2 c0 t_p0 (κ' := 60) rfl rfl rfl
                      have w11290 := rdA_fr (k := 10) (j := 1) gq28 cs11 t_p0 (κ' := 60) rfl rfl rfl
                      have w11291 : rdA s11 p0 10 1 = -1 := by rw [← es11]; exact rdA_self eq5
                      have w11292 := rdA_fr (k := 9) (j := 1) gq28 cs11 t_p0 (κ' := 59) rfl rfl rfl
                      have w11294 : rdA s11 p0 9 1 = mm_I s11 q17 ((1 : Int32)).toNatClampNeg := rdA_eq eq17
                      have w11293 : rdA s11 p0 9 1 = rdA q2.2 p0 9 1 := by rw [← es11]; exact rdA_k cq2 t_p0 (κ' := 59) rfl tq5 (by decide)
                      have w11295 := rdA_fr (k := 9) (j := 1) gq2 c0 t_p0 (κ' := 59) rfl rfl rfl
                      have w11299 : rdA q2.2 p0 10 1 = mm_I q2.2 q5 ((1 : Int32)).toNatClampNeg := rdA_eq eq5
                      have w11298 := rdA_fr (k := 10) (j := 1) gq2 c0 t_p0 (κ' := 60) rfl rfl rfl
                      have a11300 := zi_and p3 127 (by decide)
                      have a11301 := zi_and p2 8 (by decide)
                      exact sw_some ⟨cq28, fq28, (by (try simp only [zp, zo, zq] at u11064 xq2 h11065 xq12 h11078 xq14 a11098 u11099 h11100 h11101 h11102 h11103 w11104 w11105 r11106 r11107 r11108 h11109 h11130 h11255 h11256 w11277 w11278 w11280 w11282 w11281 w11283 w11285 w11286 w11288 w11287 w11290 w11291 w11292 w11294 w11293 w11295 w11299 w11298 a11300 a11301 ⊢) <;> (try simp only [zz, Int32.reduceToInt, ne_eq] at u11064 xq2 h11065 xq12 h11078 xq14 a11098 u11099 h11100 h11101 h11102 h11103 w11104 w11105 r11106 r11107 r11108 h11109 h11130 h11255 h11256 w11277 w11278 w11280 w11282 w11281 w11283 w11285 w11286 w11288 w11287 w11290 w11291 w11292 w11294 w11293 w11295 w11299 w11298 a11300 a11301 ⊢) <;> (try simp (disch := omega) only [zb] at u11064 xq2 h11065 xq12 h11078 xq14 a11098 u11099 h11100 h11101 h11102 h11103 w11104 w11105 r11106 r11107 r11108 h11109 h11130 h11255 h11256 w11277 w11278 w11280 w11282 w11281 w11283 w11285 w11286 w11288 w11287 w11290 w11291 w11292 w11294 w11293 w11295 w11299 w11298 a11300 a11301 ⊢) <;> first | omega | ((try simp (disch := omega) only [zb] at u11064 xq2 h11065 xq12 h11078 xq14 a11098 u11099 h11100 h11101 h11102 h11103 w11104 w11105 r11106 r11107 r11108 h11109 h11130 h11255 h11256 w11277 w11278 w11280 w11282 w11281 w11283 w11285 w11286 w11288 w11287 w11290 w11291 w11292 w11294 w11293 w11295 w11299 w11298 a11300 a11301 ⊢) <;> omega))⟩
                  · refine sw_sh (ci_sh cs11 t_p0 rfl) ?_
                    refine sw_on (sX9_put cs11 t_p0 (by (try simp only [zp, zo, zq] at u11064 xq2 h11065 xq12 h11078 xq14 a11098 u11099 h11100 h11101 h11102 h11103 w11104 w11105 r11106 r11107 r11108 h11109 h11130 h11255 ⊢) <;> (try simp only [zz, Int32.reduceToInt, ne_eq] at u11064 xq2 h11065 xq12 h11078 xq14 a11098 u11099 h11100 h11101 h11102 h11103 w11104 w11105 r11106 r11107 r11108 h11109 h11130 h11255 ⊢) <;> (try simp (disch := omega) only [zb] at u11064 xq2 h11065 xq12 h11078 xq14 a11098 u11099 h11100 h11101 h11102 h11103 w11104 w11105 r11106 r11107 r11108 h11109 h11130 h11255 ⊢) <;> first | omega | ((try simp (disch := omega) only [zb] at u11064 xq2 h11065 xq12 h11078 xq14 a11098 u11099 h11100 h11101 h11102 h11103 w11104 w11105 r11106 r11107 r11108 h11109 h11130 h11255 ⊢) <;> omega)) ) ?_
                    intro q30 hqq30
                    obtain ⟨cq30, gq30, xq30⟩ := hqq30
                    have fq30 := fr_trans fs11 gq30 rfl
                    unfold fX9_pair_264
                    refine sw_ite (fun h11302 => ?_) (fun h11302 => ?_)
                    · have w11303 := (gq30.2.2 _ _ t_p0 0 rfl).1
                      have w11304 : mm_I s11 p0 0 = mm_I q2.2 p0 0 := by rw [← es11]; exact rd_k t_p0 tq5 (by decide)
                      have w11306 := rdA_fr (k := 9) (j := 0) gq30 cs11 t_p0 (κ' := 59) rfl rfl rfl
                      have w11308 : rdA s11 p0 9 0 = mm_I s11 q17 ((0 : Int32)).toNatClampNeg := rdA_eq eq17
                      have w11307 : rdA s11 p0 9 0 = rdA q2.2 p0 9 0 := by rw [← es11]; exact rdA_k cq2 t_p0 (κ' := 59) rfl tq5 (by decide)
                      have w11309 := rdA_fr (k := 9) (j := 0) gq2 c0 t_p0 (κ' := 59) rfl rfl rfl
                      have w11311 := rdA_fr (k := 10) (j := 0) gq30 cs11 t_p0 (κ' := 60) rfl rfl rfl
                      have w11312 : rdA s11 p0 10 0 = rdA q2.2 p0 10 0 := by rw [← es11]; exact rdA_j (by decide)
                      have w11314 : rdA q2.2 p0 10 0 = mm_I q2.2 q5 ((0 : Int32)).toNatClampNeg := rdA_eq eq5
                      have w11313 := rdA_fr (k := 10) (j := 0) gq2 c0 t_p0 (κ' := 60) rfl rfl rfl
                      have w11316 := rdA_fr (k := 10) (j := 1) gq30 cs11 t_p0 (κ' := 60) rfl rfl rfl
                      have w11317 : rdA s11 p0 10 1 = -1 := by rw [← es11]; exact rdA_self eq5
                      have w11318 := rdA_fr (k := 9) (j := 1) gq30 cs11 t_p0 (κ' := 59) rfl rfl rfl
                      have w11320 : rdA s11 p0 9 1 = mm_I s11 q17 ((1 : Int32)).toNatClampNeg := rdA_eq eq17
                      have w11319 : rdA s11 p0 9 1 = rdA q2.2 p0 9 1 := by rw [← es11]; exact rdA_k cq2 t_p0 (κ' := 59) rfl tq5 (by decide)
                      have w11321 := rdA_fr (k := 9) (j := 1) gq2 c0 t_p0 (κ' := 59) rfl rfl rfl
                      have w11325 : rdA q2.2 p0 10 1 = mm_I q2.2 q5 ((1 : Int32)).toNatClampNeg := rdA_eq eq5
                      have w11324 := rdA_fr (k := 10) (j := 1) gq2 c0 t_p0 (κ' := 60) rfl rfl rfl
                      have a11326 := zi_and p3 127 (by decide)
                      have a11327 := zi_and p2 8 (by decide)
                      exact sw_some ⟨cq30, fq30, (by (try simp only [zp, zo, zq] at u11064 xq2 h11065 xq12 h11078 xq14 a11098 u11099 h11100 h11101 h11102 h11103 w11104 w11105 r11106 r11107 r11108 h11109 h11130 h11255 h11302 w11303 w11304 w11306 w11308 w11307 w11309 w11311 w11312 w11314 w11313 w11316 w11317 w11318 w11320 w11319 w11321 w11325 w11324 a11326 a11327 ⊢) <;> (try simp only [zz, Int32.reduceToInt, ne_eq] at u11064 xq2 h11065 xq12 h11078 xq14 a11098 u11099 h11100 h11101 h11102 h11103 w11104 w11105 r11106 r11107 r11108 h11109 h11130 h11255 h11302 w11303 w11304 w11306 w11308 w11307 w11309 w11311 w11312 w11314 w11313 w11316 w11317 w11318 w11320 w11319 w11321 w11325 w11324 a11326 a11327 ⊢) <;> (try simp (disch := omega) only [zb] at u11064 xq2 h11065 xq12 h11078 xq14 a11098 u11099 h11100 h11101 h11102 h11103 w11104 w11105 r11106 r11107 r11108 h11109 h11130 h11255 h11302 w11303 w11304 w11306 w11308 w11307 w11309 w11311 w11312 w11314 w11313 w11316 w11317 w11318 w11320 w11319 w11321 w11325 w11324 a11326 a11327 ⊢) <;> first | omega | ((try simp (disch := omega) only [zb] at u11064 xq2 h11065 xq12 h11078 xq14 a11098 u11099 h11100 h11101 h11102 h11103 w11104 w11105 r11106 r11107 r11108 h11109 h11130 h11255 h11302 w11303 w11304 w11306 w11308 w11307 w11309 w11311 w11312 w11314 w11313 w11316 w11317 w11318 w11320 w11319 w11321 w11325 w11324 a11326 a11327 ⊢) <;> omega))⟩
                    · refine sw_sh (ci_sh cq30 t_p0 rfl) ?_
                      refine sw_on (sX9_put cq30 t_p0 (by (try simp only [zp, zo, zq] at u11064 xq2 h11065 xq12 h11078 xq14 a11098 u11099 h11100 h11101 h11102 h11103 w11104 w11105 r11106 r11107 r11108 h11109 h11130 h11255 h11302 ⊢) <;> (try simp only [zz, Int32.reduceToInt, ne_eq] at u11064 xq2 h11065 xq12 h11078 xq14 a11098 u11099 h11100 h11101 h11102 h11103 w11104 w11105 r11106 r11107 r11108 h11109 h11130 h11255 h11302 ⊢) <;> (try simp (disch := omega) only [zb] at u11064 xq2 h11065 xq12 h11078 xq14 a11098 u11099 h11100 h11101 h11102 h11103 w11104 w11105 r11106 r11107 r11108 h11109 h11130 h11255 h11302 ⊢) <;> first | omega | ((try simp (disch := omega) only [zb] at u11064 xq2 h11065 xq12 h11078 xq14 a11098 u11099 h11100 h11101 h11102 h11103 w11104 w11105 r11106 r11107 r11108 h11109 h11130 h11255 h11302 ⊢) <;> omega)) ) ?_
                      intro q28 hqq28
                      obtain ⟨cq28, gq28, xq28⟩ := hqq28
                      have fq28 := fr_trans fq30 gq28 rfl
                      have w11328 := (gq28.2.2 _ _ t_p0 0 rfl).1
                      have w11329 := (gq30.2.2 _ _ t_p0 0 rfl).1
                      have w11330 : mm_I s11 p0 0 = mm_I q2.2 p0 0 := by rw [← es11]; exact rd_k t_p0 tq5 (by decide)
                      have w11332 := rdA_fr (k := 9) (j := 0) gq28 cq30 t_p0 (κ' := 59) rfl rfl rfl
                      have w11333 := rdA_fr (k := 9) (j := 0) gq30 cs11 t_p0 (κ' := 59) rfl rfl rfl
                      have w11335 : rdA s11 p0 9 0 = mm_I s11 q17 ((0 : Int32)).toNatClampNeg := rdA_eq eq17
                      have w11334 : rdA s11 p0 9 0 = rdA q2.2 p0 9 0 := by rw [← es11]; exact rdA_k cq2 t_p0 (κ' := 59) rfl tq5 (by decide)
                      have w11336 := rdA_fr (k := 9) (j := 0) gq2 c0 t_p0 (κ' := 59) rfl rfl rfl
                      have w11338 := rdA_fr (k := 10) (j := 0) gq28 cq30 t_p0 (κ' := 60) rfl rfl rfl
                      have w11339 := rdA_fr (k := 10) (j := 0) gq30 cs11 t_p0 (κ' := 60) rfl rfl rfl
                      have w11340 : rdA s11 p0 10 0 = rdA q2.2 p0 10 0 := by rw [← es11]; exact rdA_j (by decide)
                      have w11342 : rdA q2.2 p0 10 0 = mm_I q2.2 q5 ((0 : Int32)).toNatClampNeg := rdA_eq eq5
                      have w11341 := rdA_fr (k := 10) (j := 0) gq2 c0 t_p0 (κ' := 60) rfl rfl rfl
                      have w11344 := rdA_fr (k := 10) (j := 1) gq28 cq30 t_p0 (κ' := 60) rfl rfl rfl
                      have w11345 := rdA_fr (k := 10) (j := 1) gq30 cs11 t_p0 (κ' := 60) rfl rfl rfl
                      have w11346 : rdA s11 p0 10 1 = -1 := by rw [← es11]; exact rdA_self eq5
                      have w11347 := rdA_fr (k := 9) (j := 1) gq28 cq30 t_p0 (κ' := 59) rfl rfl rfl
                      have w11348 := rdA_fr (k := 9) (j := 1) gq30 cs11 t_p0 (κ' := 59) rfl rfl rfl
                      have w11350 : rdA s11 p0 9 1 = mm_I s11 q17 ((1 : Int32)).toNatClampNeg := rdA_eq eq17
                      have w11349 : rdA s11 p0 9 1 = rdA q2.2 p0 9 1 := by rw [← es11]; exact rdA_k cq2 t_p0 (κ' := 59) rfl tq5 (by decide)
                      have w11351 := rdA_fr (k := 9) (j := 1) gq2 c0 t_p0 (κ' := 59) rfl rfl rfl
                      have w11355 : rdA q2.2 p0 10 1 = mm_I q2.2 q5 ((1 : Int32)).toNatClampNeg := rdA_eq eq5
                      have w11354 := rdA_fr (k := 10) (j := 1) gq2 c0 t_p0 (κ' := 60) rfl rfl rfl
                      have a11356 := zi_and p3 127 (by decide)
                      have a11357 := zi_and p2 8 (by decide)
                      exact sw_some ⟨cq28, fq28, (by (try simp only [zp, zo, zq] at u11064 xq2 h11065 xq12 h11078 xq14 a11098 u11099 h11100 h11101 h11102 h11103 w11104 w11105 r11106 r11107 r11108 h11109 h11130 h11255 h11302 w11328 w11329 w11330 w11332 w11333 w11335 w11334 w11336 w11338 w11339 w11340 w11342 w11341 w11344 w11345 w11346 w11347 w11348 w11350 w11349 w11351 w11355 w11354 a11356 a11357 ⊢) <;> (try simp only [zz, Int32.reduceToInt, ne_eq] at u11064 xq2 h11065 xq12 h11078 xq14 a11098 u11099 h11100 h11101 h11102 h11103 w11104 w11105 r11106 r11107 r11108 h11109 h11130 h11255 h11302 w11328 w11329 w11330 w11332 w11333 w11335 w11334 w11336 w11338 w11339 w11340 w11342 w11341 w11344 w11345 w11346 w11347 w11348 w11350 w11349 w11351 w11355 w11354 a11356 a11357 ⊢) <;> (try simp (disch := omega) only [zb] at u11064 xq2 h11065 xq12 h11078 xq14 a11098 u11099 h11100 h11101 h11102 h11103 w11104 w11105 r11106 r11107 r11108 h11109 h11130 h11255 h11302 w11328 w11329 w11330 w11332 w11333 w11335 w11334 w11336 w11338 w11339 w11340 w11342 w11341 w11344 w11345 w11346 w11347 w11348 w11350 w11349 w11351 w11355 w11354 a11356 a11357 ⊢) <;> first | omega | ((try simp (disch := omega) only [zb] at u11064 xq2 h11065 xq12 h11078 xq14 a11098 u11099 h11100 h11101 h11102 h11103 w11104 w11105 r11106 r11107 r11108 h11109 h11130 h11255 h11302 w11328 w11329 w11330 w11332 w11333 w11335 w11334 w11336 w11338 w11339 w11340 w11342 w11341 w11344 w11345 w11346 w11347 w11348 w11350 w11349 w11351 w11355 w11354 a11356 a11357 ⊢) <;> omega))⟩
            · have a11358 := zi_and p3 127 (by decide)
              refine sw_ite (fun h11359 => ?_) (fun h11359 => ?_)
              · unfold fX9_pair_227
                unfold fX9_pair_228
                have w11360 : mm_I s11 q17 ((1 : Int32).toNatClampNeg) = mm_I q2.2 q17 ((1 : Int32).toNatClampNeg) := by rw [← es11]; exact rd_k tq17 tq5 (by decide)
                have w11361 := (gq2.2.2 _ _ tq17 ((1 : Int32).toNatClampNeg) rfl).1
                have r11362 := ci_rg c0 tq17 ((1 : Int32).toNatClampNeg) (lo := (-1)) (hi := 3) rfl
                have r11363 := ci_rg cq2 tq17 ((1 : Int32).toNatClampNeg) (lo := (-1)) (hi := 3) rfl
                have r11364 := ci_rg cs11 tq17 ((1 : Int32).toNatClampNeg) (lo := (-1)) (hi := 3) rfl
                refine sw_ite (fun h11365 => ?_) (fun h11365 => ?_)
                · have w11366 : mm_I s11 p0 0 = mm_I q2.2 p0 0 := by rw [← es11]; exact rd_k t_p0 tq5 (by decide)
                  have w11369 : rdA s11 p0 9 0 = mm_I s11 q17 ((0 : Int32)).toNatClampNeg := rdA_eq eq17
                  have w11368 : rdA s11 p0 9 0 = rdA q2.2 p0 9 0 := by rw [← es11]; exact rdA_k cq2 t_p0 (κ' := 59) rfl tq5 (by decide)
                  have w11370 := rdA_fr (k := 9) (j := 0) gq2 c0 t_p0 (κ' := 59) rfl rfl rfl
                  have w11372 : rdA s11 p0 10 0 = rdA q2.2 p0 10 0 := by rw [← es11]; exact rdA_j (by decide)
                  have w11374 : rdA q2.2 p0 10 0 = mm_I q2.2 q5 ((0 : Int32)).toNatClampNeg := rdA_eq eq5
                  have w11373 := rdA_fr (k := 10) (j := 0) gq2 c0 t_p0 (κ' := 60) rfl rfl rfl
                  have w11376 : rdA s11 p0 10 1 = -1 := by rw [← es11]; exact rdA_self eq5
                  have w11378 : rdA s11 p0 9 1 = mm_I s11 q17 ((1 : Int32)).toNatClampNeg := rdA_eq eq17
                  have w11377 : rdA s11 p0 9 1 = rdA q2.2 p0 9 1 := by rw [← es11]; exact rdA_k cq2 t_p0 (κ' := 59) rfl tq5 (by decide)
                  have w11379 := rdA_fr (k := 9) (j := 1) gq2 c0 t_p0 (κ' := 59) rfl rfl rfl
                  have w11383 : rdA q2.2 p0 10 1 = mm_I q2.2 q5 ((1 : Int32)).toNatClampNeg := rdA_eq eq5
                  have w11382 := rdA_fr (k := 10) (j := 1) gq2 c0 t_p0 (κ' := 60) rfl rfl rfl
                  have a11384 := zi_and p2 8 (by decide)
                  exact sw_some ⟨cs11, fs11, (by (try simp only [zp, zo, zq] at u11064 xq2 h11065 xq12 h11078 xq14 a11098 u11099 h11100 h11101 h11102 h11103 a11358 h11359 w11360 w11361 r11362 r11363 r11364 h11365 w11366 w11369 w11368 w11370 w11372 w11374 w11373 w11376 w11378 w11377 w11379 w11383 w11382 a11384 ⊢) <;> (try simp only [zz, Int32.reduceToInt, ne_eq] at u11064 xq2 h11065 xq12 h11078 xq14 a11098 u11099 h11100 h11101 h11102 h11103 a11358 h11359 w11360 w11361 r11362 r11363 r11364 h11365 w11366 w11369 w11368 w11370 w11372 w11374 w11373 w11376 w11378 w11377 w11379 w11383 w11382 a11384 ⊢) <;> (try simp (disch := omega) only [zb] at u11064 xq2 h11065 xq12 h11078 xq14 a11098 u11099 h11100 h11101 h11102 h11103 a11358 h11359 w11360 w11361 r11362 r11363 r11364 h11365 w11366 w11369 w11368 w11370 w11372 w11374 w11373 w11376 w11378 w11377 w11379 w11383 w11382 a11384 ⊢) <;> first | omega | ((try simp (disch := omega) only [zb] at u11064 xq2 h11065 xq12 h11078 xq14 a11098 u11099 h11100 h11101 h11102 h11103 a11358 h11359 w11360 w11361 r11362 r11363 r11364 h11365 w11366 w11369 w11368 w11370 w11372 w11374 w11373 w11376 w11378 w11377 w11379 w11383 w11382 a11384 ⊢) <;> omega))⟩
                · refine sw_ite (fun h11385 => ?_) (fun h11385 => ?_)
                  · refine sw_ite (fun h11386 => ?_) (fun h11386 => ?_)
                    · have w11387 : mm_I s11 p0 0 = mm_I q2.2 p0 0 := by rw [← es11]; exact rd_k t_p0 tq5 (by decide)
                      have w11390 : rdA s11 p0 9 0 = mm_I s11 q17 ((0 : Int32)).toNatClampNeg := rdA_eq eq17
                      have w11389 : rdA s11 p0 9 0 = rdA q2.2 p0 9 0 := by rw [← es11]; exact rdA_k cq2 t_p0 (κ' := 59) rfl tq5 (by decide)
                      have w11391 := rdA_fr (k := 9) (j := 0) gq2 c0 t_p0 (κ' := 59) rfl rfl rfl
                      have w11393 : rdA s11 p0 10 0 = rdA q2.2 p0 10 0 := by rw [← es11]; exact rdA_j (by decide)
                      have w11395 : rdA q2.2 p0 10 0 = mm_I q2.2 q5 ((0 : Int32)).toNatClampNeg := rdA_eq eq5
                      have w11394 := rdA_fr (k := 10) (j := 0) gq2 c0 t_p0 (κ' := 60) rfl rfl rfl
                      have w11397 : rdA s11 p0 10 1 = -1 := by rw [← es11]; exact rdA_self eq5
                      have w11399 : rdA s11 p0 9 1 = mm_I s11 q17 ((1 : Int32)).toNatClampNeg := rdA_eq eq17
                      have w11398 : rdA s11 p0 9 1 = rdA q2.2 p0 9 1 := by rw [← es11]; exact rdA_k cq2 t_p0 (κ' := 59) rfl tq5 (by decide)
                      have w11400 := rdA_fr (k := 9) (j := 1) gq2 c0 t_p0 (κ' := 59) rfl rfl rfl
                      have w11404 : rdA q2.2 p0 10 1 = mm_I q2.2 q5 ((1 : Int32)).toNatClampNeg := rdA_eq eq5
                      have w11403 := rdA_fr (k := 10) (j := 1) gq2 c0 t_p0 (κ' := 60) rfl rfl rfl
                      have a11405 := zi_and p2 8 (by decide)
                      exact sw_some ⟨cs11, fs11, (by (try simp only [zp, zo, zq] at u11064 xq2 h11065 xq12 h11078 xq14 a11098 u11099 h11100 h11101 h11102 h11103 a11358 h11359 w11360 w11361 r11362 r11363 r11364 h11365 h11385 h11386 w11387 w11390 w11389 w11391 w11393 w11395 w11394 w11397 w11399 w11398 w11400 w11404 w11403 a11405 ⊢) <;> (try simp only [zz, Int32.reduceToInt, ne_eq] at u11064 xq2 h11065 xq12 h11078 xq14 a11098 u11099 h11100 h11101 h11102 h11103 a11358 h11359 w11360 w11361 r11362 r11363 r11364 h11365 h11385 h11386 w11387 w11390 w11389 w11391 w11393 w11395 w11394 w11397 w11399 w11398 w11400 w11404 w11403 a11405 ⊢) <;> (try simp (disch := omega) only [zb] at u11064 xq2 h11065 xq12 h11078 xq14 a11098 u11099 h11100 h11101 h11102 h11103 a11358 h11359 w11360 w11361 r11362 r11363 r11364 h11365 h11385 h11386 w11387 w11390 w11389 w11391 w11393 w11395 w11394 w11397 w11399 w11398 w11400 w11404 w11403 a11405 ⊢) <;> first | omega | ((try simp (disch := omega) only [zb] at u11064 xq2 h11065 xq12 h11078 xq14 a11098 u11099 h11100 h11101 h11102 h11103 a11358 h11359 w11360 w11361 r11362 r11363 r11364 h11365 h11385 h11386 w11387 w11390 w11389 w11391 w11393 w11395 w11394 w11397 w11399 w11398 w11400 w11404 w11403 a11405 ⊢) <;> omega))⟩
                    · unfold fX9_pair_250
                      refine sw_ite (fun h11406 => ?_) (fun h11406 => ?_)
                      · unfold fX9_pair_264
                        refine sw_ite (fun h11407 => ?_) (fun h11407 => ?_)
                        · have w11408 : mm_I s11 p0 0 = mm_I q2.2 p0 0 := by rw [← es11]; exact rd_k t_p0 tq5 (by decide)
                          have w11411 : rdA s11 p0 9 0 = mm_I s11 q17 ((0 : Int32)).toNatClampNeg := rdA_eq eq17
                          have w11410 : rdA s11 p0 9 0 = rdA q2.2 p0 9 0 := by rw [← es11]; exact rdA_k cq2 t_p0 (κ' := 59) rfl tq5 (by decide)
                          have w11412 := rdA_fr (k := 9) (j := 0) gq2 c0 t_p0 (κ' := 59) rfl rfl rfl
                          have w11414 : rdA s11 p0 10 0 = rdA q2.2 p0 10 0 := by rw [← es11]; exact rdA_j (by decide)
                          have w11416 : rdA q2.2 p0 10 0 = mm_I q2.2 q5 ((0 : Int32)).toNatClampNeg := rdA_eq eq5
                          have w11415 := rdA_fr (k := 10) (j := 0) gq2 c0 t_p0 (κ' := 60) rfl rfl rfl
                          have w11418 : rdA s11 p0 10 1 = -1 := by rw [← es11]; exact rdA_self eq5
                          have w11420 : rdA s11 p0 9 1 = mm_I s11 q17 ((1 : Int32)).toNatClampNeg := rdA_eq eq17
                          have w11419 : rdA s11 p0 9 1 = rdA q2.2 p0 9 1 := by rw [← es11]; exact rdA_k cq2 t_p0 (κ' := 59) rfl tq5 (by decide)
                          have w11421 := rdA_fr (k := 9) (j := 1) gq2 c0 t_p0 (κ' := 59) rfl rfl rfl
                          have w11425 : rdA q2.2 p0 10 1 = mm_I q2.2 q5 ((1 : Int32)).toNatClampNeg := rdA_eq eq5
                          have w11424 := rdA_fr (k := 10) (j := 1) gq2 c0 t_p0 (κ' := 60) rfl rfl rfl
                          have a11426 := zi_and p2 8 (by decide)
                          exact sw_some ⟨cs11, fs11, (by (try simp only [zp, zo, zq] at u11064 xq2 h11065 xq12 h11078 xq14 a11098 u11099 h11100 h11101 h11102 h11103 a11358 h11359 w11360 w11361 r11362 r11363 r11364 h11365 h11385 h11386 h11406 h11407 w11408 w11411 w11410 w11412 w11414 w11416 w11415 w11418 w11420 w11419 w11421 w11425 w11424 a11426 ⊢) <;> (try simp only [zz, Int32.reduceToInt, ne_eq] at u11064 xq2 h11065 xq12 h11078 xq14 a11098 u11099 h11100 h11101 h11102 h11103 a11358 h11359 w11360 w11361 r11362 r11363 r11364 h11365 h11385 h11386 h11406 h11407 w11408 w11411 w11410 w11412 w11414 w11416 w11415 w11418 w11420 w11419 w11421 w11425 w11424 a11426 ⊢) <;> (try simp (disch := omega) only [zb] at u11064 xq2 h11065 xq12 h11078 xq14 a11098 u11099 h11100 h11101 h11102 h11103 a11358 h11359 w11360 w11361 r11362 r11363 r11364 h11365 h11385 h11386 h11406 h11407 w11408 w11411 w11410 w11412 w11414 w11416 w11415 w11418 w11420 w11419 w11421 w11425 w11424 a11426 ⊢) <;> first | omega | ((try simp (disch := omega) only [zb] at u11064 xq2 h11065 xq12 h11078 xq14 a11098 u11099 h11100 h11101 h11102 h11103 a11358 h11359 w11360 w11361 r11362 r11363 r11364 h11365 h11385 h11386 h11406 h11407 w11408 w11411 w11410 w11412 w11414 w11416 w11415 w11418 w11420 w11419 w11421 w11425 w11424 a11426 ⊢) <;> omega))⟩
                        · refine sw_sh (ci_sh cs11 t_p0 rfl) ?_
                          refine sw_on (sX9_put cs11 t_p0 (by (try simp only [zp, zo, zq] at u11064 xq2 h11065 xq12 h11078 xq14 a11098 u11099 h11100 h11101 h11102 h11103 a11358 h11359 w11360 w11361 r11362 r11363 r11364 h11365 h11385 h11386 h11406 h11407 ⊢) <;> (try simp only [zz, Int32.reduceToInt, ne_eq] at u11064 xq2 h11065 xq12 h11078 xq14 a11098 u11099 h11100 h11101 h11102 h11103 a11358 h11359 w11360 w11361 r11362 r11363 r11364 h11365 h11385 h11386 h11406 h11407 ⊢) <;> (try simp (disch := omega) only [zb] at u11064 xq2 h11065 xq12 h11078 xq14 a11098 u11099 h11100 h11101 h11102 h11103 a11358 h11359 w11360 w11361 r11362 r11363 r11364 h11365 h11385 h11386 h11406 h11407 ⊢) <;> first | omega | ((try simp (disch := omega) only [zb] at u11064 xq2 h11065 xq12 h11078 xq14 a11098 u11099 h11100 h11101 h11102 h11103 a11358 h11359 w11360 w11361 r11362 r11363 r11364 h11365 h11385 h11386 h11406 h11407 ⊢) <;> omega)) ) ?_
                          intro q28 hqq28
                          obtain ⟨cq28, gq28, xq28⟩ := hqq28
                          have fq28 := fr_trans fs11 gq28 rfl
                          have w11427 := (gq28.2.2 _ _ t_p0 0 rfl).1
                          have w11428 : mm_I s11 p0 0 = mm_I q2.2 p0 0 := by rw [← es11]; exact rd_k t_p0 tq5 (by decide)
                          have w11430 := rdA_fr (k := 9) (j := 0) gq28 cs11 t_p0 (κ' := 59) rfl rfl rfl
                          have w11432 : rdA s11 p0 9 0 = mm_I s11 q17 ((0 : Int32)).toNatClampNeg := rdA_eq eq17
                          have w11431 : rdA s11 p0 9 0 = rdA q2.2 p0 9 0 := by rw [← es11]; exact rdA_k cq2 t_p0 (κ' := 59) rfl tq5 (by decide)
                          have w11433 := rdA_fr (k := 9) (j := 0) gq2 c0 t_p0 (κ' := 59) rfl rfl rfl
                          have w11435 := rdA_fr (k := 10) (j := 0) gq28 cs11 t_p0 (κ' := 60) rfl rfl rfl
                          have w11436 : rdA s11 p0 10 0 = rdA q2.2 p0 10 0 := by rw [← es11]; exact rdA_j (by decide)
                          have w11438 : rdA q2.2 p0 10 0 = mm_I q2.2 q5 ((0 : Int32)).toNatClampNeg := rdA_eq eq5
                          have w11437 := rdA_fr (k := 10) (j := 0) gq2 c0 t_p0 (κ' := 60) rfl rfl rfl
                          have w11440 := rdA_fr (k := 10) (j := 1) gq28 cs11 t_p0 (κ' := 60) rfl rfl rfl
                          have w11441 : rdA s11 p0 10 1 = -1 := by rw [← es11]; exact rdA_self eq5
                          have w11442 := rdA_fr (k := 9) (j := 1) gq28 cs11 t_p0 (κ' := 59) rfl rfl rfl
                          have w11444 : rdA s11 p0 9 1 = mm_I s11 q17 ((1 : Int32)).toNatClampNeg := rdA_eq eq17
                          have w11443 : rdA s11 p0 9 1 = rdA q2.2 p0 9 1 := by rw [← es11]; exact rdA_k cq2 t_p0 (κ' := 59) rfl tq5 (by decide)
                          have w11445 := rdA_fr (k := 9) (j := 1) gq2 c0 t_p0 (κ' := 59) rfl rfl rfl
                          have w11449 : rdA q2.2 p0 10 1 = mm_I q2.2 q5 ((1 : Int32)).toNatClampNeg := rdA_eq eq5
                          have w11448 := rdA_fr (k := 10) (j := 1) gq2 c0 t_p0 (κ' := 60) rfl rfl rfl
                          have a11450 := zi_and p2 8 (by decide)
                          exact sw_some ⟨cq28, fq28, (by (try simp only [zp, zo, zq] at u11064 xq2 h11065 xq12 h11078 xq14 a11098 u11099 h11100 h11101 h11102 h11103 a11358 h11359 w11360 w11361 r11362 r11363 r11364 h11365 h11385 h11386 h11406 h11407 w11427 w11428 w11430 w11432 w11431 w11433 w11435 w11436 w11438 w11437 w11440 w11441 w11442 w11444 w11443 w11445 w11449 w11448 a11450 ⊢) <;> (try simp only [zz, Int32.reduceToInt, ne_eq] at u11064 xq2 h11065 xq12 h11078 xq14 a11098 u11099 h11100 h11101 h11102 h11103 a11358 h11359 w11360 w11361 r11362 r11363 r11364 h11365 h11385 h11386 h11406 h11407 w11427 w11428 w11430 w11432 w11431 w11433 w11435 w11436 w11438 w11437 w11440 w11441 w11442 w11444 w11443 w11445 w11449 w11448 a11450 ⊢) <;> (try simp (disch := omega) only [zb] at u11064 xq2 h11065 xq12 h11078 xq14 a11098 u11099 h11100 h11101 h11102 h11103 a11358 h11359 w11360 w11361 r11362 r11363 r11364 h11365 h11385 h11386 h11406 h11407 w11427 w11428 w11430 w11432 w11431 w11433 w11435 w11436 w11438 w11437 w11440 w11441 w11442 w11444 w11443 w11445 w11449 w11448 a11450 ⊢) <;> first | omega | ((try simp (disch := omega) only [zb] at u11064 xq2 h11065 xq12 h11078 xq14 a11098 u11099 h11100 h11101 h11102 h11103 a11358 h11359 w11360 w11361 r11362 r11363 r11364 h11365 h11385 h11386 h11406 h11407 w11427 w11428 w11430 w11432 w11431 w11433 w11435 w11436 w11438 w11437 w11440 w11441 w11442 w11444 w11443 w11445 w11449 w11448 a11450 ⊢) <;> omega))⟩
                      · refine sw_sh (ci_sh cs11 t_p0 rfl) ?_
                        refine sw_on (sX9_put cs11 t_p0 (by (try simp only [zp, zo, zq] at u11064 xq2 h11065 xq12 h11078 xq14 a11098 u11099 h11100 h11101 h11102 h11103 a11358 h11359 w11360 w11361 r11362 r11363 r11364 h11365 h11385 h11386 h11406 ⊢) <;> (try simp only [zz, Int32.reduceToInt, ne_eq] at u11064 xq2 h11065 xq12 h11078 xq14 a11098 u11099 h11100 h11101 h11102 h11103 a11358 h11359 w11360 w11361 r11362 r11363 r11364 h11365 h11385 h11386 h11406 ⊢) <;> (try simp (disch := omega) only [zb] at u11064 xq2 h11065 xq12 h11078 xq14 a11098 u11099 h11100 h11101 h11102 h11103 a11358 h11359 w11360 w11361 r11362 r11363 r11364 h11365 h11385 h11386 h11406 ⊢) <;> first | omega | ((try simp (disch := omega) only [zb] at u11064 xq2 h11065 xq12 h11078 xq14 a11098 u11099 h11100 h11101 h11102 h11103 a11358 h11359 w11360 w11361 r11362 r11363 r11364 h11365 h11385 h11386 h11406 ⊢) <;> omega)) ) ?_
                        intro q30 hqq30
                        obtain ⟨cq30, gq30, xq30⟩ := hqq30
                        have fq30 := fr_trans fs11 gq30 rfl
                        unfold fX9_pair_264
                        refine sw_ite (fun h11451 => ?_) (fun h11451 => ?_)
                        · have w11452 := (gq30.2.2 _ _ t_p0 0 rfl).1
                          have w11453 : mm_I s11 p0 0 = mm_I q2.2 p0 0 := by rw [← es11]; exact rd_k t_p0 tq5 (by decide)
                          have w11455 := rdA_fr (k := 9) (j := 0) gq30 cs11 t_p0 (κ' := 59) rfl rfl rfl
                          have w11457 : rdA s11 p0 9 0 = mm_I s11 q17 ((0 : Int32)).toNatClampNeg := rdA_eq eq17
                          have w11456 : rdA s11 p0 9 0 = rdA q2.2 p0 9 0 := by rw [← es11]; exact rdA_k cq2 t_p0 (κ' := 59) rfl tq5 (by decide)
                          have w11458 := rdA_fr (k := 9) (j := 0) gq2 c0 t_p0 (κ' := 59) rfl rfl rfl
                          have w11460 := rdA_fr (k := 10) (j := 0) gq30 cs11 t_p0 (κ' := 60) rfl rfl rfl
                          have w11461 : rdA s11 p0 10 0 = rdA q2.2 p0 10 0 := by rw [← es11]; exact rdA_j (by decide)
                          have w11463 : rdA q2.2 p0 10 0 = mm_I q2.2 q5 ((0 : Int32)).toNatClampNeg := rdA_eq eq5
                          have w11462 := rdA_fr (k := 10) (j := 0) gq2 c0 t_p0 (κ' := 60) rfl rfl rfl
                          have w11465 := rdA_fr (k := 10) (j := 1) gq30 cs11 t_p0 (κ' := 60) rfl rfl rfl
                          have w11466 : rdA s11 p0 10 1 = -1 := by rw [← es11]; exact rdA_self eq5
                          have w11467 := rdA_fr (k := 9) (j := 1) gq30 cs11 t_p0 (κ' := 59) rfl rfl rfl
                          have w11469 : rdA s11 p0 9 1 = mm_I s11 q17 ((1 : Int32)).toNatClampNeg := rdA_eq eq17
                          have w11468 : rdA s11 p0 9 1 = rdA q2.2 p0 9 1 := by rw [← es11]; exact rdA_k cq2 t_p0 (κ' := 59) rfl tq5 (by decide)
                          have w11470 := rdA_fr (k := 9) (j := 1) gq2 c0 t_p0 (κ' := 59) rfl rfl rfl
                          have w11474 : rdA q2.2 p0 10 1 = mm_I q2.2 q5 ((1 : Int32)).toNatClampNeg := rdA_eq eq5
                          have w11473 := rdA_fr (k := 10) (j := 1) gq2 c0 t_p0 (κ' := 60) rfl rfl rfl
                          have a11475 := zi_and p2 8 (by decide)
                          exact sw_some ⟨cq30, fq30, (by (try simp only [zp, zo, zq] at u11064 xq2 h11065 xq12 h11078 xq14 a11098 u11099 h11100 h11101 h11102 h11103 a11358 h11359 w11360 w11361 r11362 r11363 r11364 h11365 h11385 h11386 h11406 h11451 w11452 w11453 w11455 w11457 w11456 w11458 w11460 w11461 w11463 w11462 w11465 w11466 w11467 w11469 w11468 w11470 w11474 w11473 a11475 ⊢) <;> (try simp only [zz, Int32.reduceToInt, ne_eq] at u11064 xq2 h11065 xq12 h11078 xq14 a11098 u11099 h11100 h11101 h11102 h11103 a11358 h11359 w11360 w11361 r11362 r11363 r11364 h11365 h11385 h11386 h11406 h11451 w11452 w11453 w11455 w11457 w11456 w11458 w11460 w11461 w11463 w11462 w11465 w11466 w11467 w11469 w11468 w11470 w11474 w11473 a11475 ⊢) <;> (try simp (disch := omega) only [zb] at u11064 xq2 h11065 xq12 h11078 xq14 a11098 u11099 h11100 h11101 h11102 h11103 a11358 h11359 w11360 w11361 r11362 r11363 r11364 h11365 h11385 h11386 h11406 h11451 w11452 w11453 w11455 w11457 w11456 w11458 w11460 w11461 w11463 w11462 w11465 w11466 w11467 w11469 w11468 w11470 w11474 w11473 a11475 ⊢) <;> first | omega | ((try simp (disch := omega) only [zb] at u11064 xq2 h11065 xq12 h11078 xq14 a11098 u11099 h11100 h11101 h11102 h11103 a11358 h11359 w11360 w11361 r11362 r11363 r11364 h11365 h11385 h11386 h11406 h11451 w11452 w11453 w11455 w11457 w11456 w11458 w11460 w11461 w11463 w11462 w11465 w11466 w11467 w11469 w11468 w11470 w11474 w11473 a11475 ⊢) <;> omega))⟩
                        · refine sw_sh (ci_sh cq30 t_p0 rfl) ?_
                          refine sw_on (sX9_put cq30 t_p0 (by (try simp only [zp, zo, zq] at u11064 xq2 h11065 xq12 h11078 xq14 a11098 u11099 h11100 h11101 h11102 h11103 a11358 h11359 w11360 w11361 r11362 r11363 r11364 h11365 h11385 h11386 h11406 h11451 ⊢) <;> (try simp only [zz, Int32.reduceToInt, ne_eq] at u11064 xq2 h11065 xq12 h11078 xq14 a11098 u11099 h11100 h11101 h11102 h11103 a11358 h11359 w11360 w11361 r11362 r11363 r11364 h11365 h11385 h11386 h11406 h11451 ⊢) <;> (try simp (disch := omega) only [zb] at u11064 xq2 h11065 xq12 h11078 xq14 a11098 u11099 h11100 h11101 h11102 h11103 a11358 h11359 w11360 w11361 r11362 r11363 r11364 h11365 h11385 h11386 h11406 h11451 ⊢) <;> first | omega | ((try simp (disch := omega) only [zb] at u11064 xq2 h11065 xq12 h11078 xq14 a11098 u11099 h11100 h11101 h11102 h11103 a11358 h11359 w11360 w11361 r11362 r11363 r11364 h11365 h11385 h11386 h11406 h11451 ⊢) <;> omega)) ) ?_
                          intro q28 hqq28
                          obtain ⟨cq28, gq28, xq28⟩ := hqq28
                          have fq28 := fr_trans fq30 gq28 rfl
                          have w11476 := (gq28.2.2 _ _ t_p0 0 rfl).1
                          have w11477 := (gq30.2.2 _ _ t_p0 0 rfl).1
                          have w11478 : mm_I s11 p0 0 = mm_I q2.2 p0 0 := by rw [← es11]; exact rd_k t_p0 tq5 (by decide)
                          have w11480 := rdA_fr (k := 9) (j := 0) gq28 cq30 t_p0 (κ' := 59) rfl rfl rfl
                          have w11481 := rdA_fr (k := 9) (j := 0) gq30 cs11 t_p0 (κ' := 59) rfl rfl rfl
                          have w11483 : rdA s11 p0 9 0 = mm_I s11 q17 ((0 : Int32)).toNatClampNeg := rdA_eq eq17
                          have w11482 : rdA s11 p0 9 0 = rdA q2.2 p0 9 0 := by rw [← es11]; exact rdA_k cq2 t_p0 (κ' := 59) rfl tq5 (by decide)
                          have w11484 := rdA_fr (k := 9) (j := 0) gq2 c0 t_p0 (κ' := 59) rfl rfl rfl
                          have w11486 := rdA_fr (k := 10) (j := 0) gq28 cq30 t_p0 (κ' := 60) rfl rfl rfl
                          have w11487 := rdA_fr (k := 10) (j := 0) gq30 cs11 t_p0 (κ' := 60) rfl rfl rfl
                          have w11488 : rdA s11 p0 10 0 = rdA q2.2 p0 10 0 := by rw [← es11]; exact rdA_j (by decide)
                          have w11490 : rdA q2.2 p0 10 0 = mm_I q2.2 q5 ((0 : Int32)).toNatClampNeg := rdA_eq eq5
                          have w11489 := rdA_fr (k := 10) (j := 0) gq2 c0 t_p0 (κ' := 60) rfl rfl rfl
                          have w11492 := rdA_fr (k := 10) (j := 1) gq28 cq30 t_p0 (κ' := 60) rfl rfl rfl
                          have w11493 := rdA_fr (k := 10) (j := 1) gq30 cs11 t_p0 (κ' := 60) rfl rfl rfl
                          have w11494 : rdA s11 p0 10 1 = -1 := by rw [← es11]; exact rdA_self eq5
                          have w11495 := rdA_fr (k := 9) (j := 1) gq28 cq30 t_p0 (κ' := 59) rfl rfl rfl
                          have w11496 := rdA_fr (k := 9) (j := 1) gq30 cs11 t_p0 (κ' := 59) rfl rfl rfl
                          have w11498 : rdA s11 p0 9 1 = mm_I s11 q17 ((1 : Int32)).toNatClampNeg := rdA_eq eq17
                          have w11497 : rdA s11 p0 9 1 = rdA q2.2 p0 9 1 := by rw [← es11]; exact rdA_k cq2 t_p0 (κ' := 59) rfl tq5 (by decide)
                          have w11499 := rdA_fr (k := 9) (j := 1) gq2 c0 t_p0 (κ' := 59) rfl rfl rfl
                          have w11503 : rdA q2.2 p0 10 1 = mm_I q2.2 q5 ((1 : Int32)).toNatClampNeg := rdA_eq eq5
                          have w11502 := rdA_fr (k := 10) (j := 1) gq2 c0 t_p0 (κ' := 60) rfl rfl rfl
                          have a11504 := zi_and p2 8 (by decide)
                          exact sw_some ⟨cq28, fq28, (by (try simp only [zp, zo, zq] at u11064 xq2 h11065 xq12 h11078 xq14 a11098 u11099 h11100 h11101 h11102 h11103 a11358 h11359 w11360 w11361 r11362 r11363 r11364 h11365 h11385 h11386 h11406 h11451 w11476 w11477 w11478 w11480 w11481 w11483 w11482 w11484 w11486 w11487 w11488 w11490 w11489 w11492 w11493 w11494 w11495 w11496 w11498 w11497 w11499 w11503 w11502 a11504 ⊢) <;> (try simp only [zz, Int32.reduceToInt, ne_eq] at u11064 xq2 h11065 xq12 h11078 xq14 a11098 u11099 h11100 h11101 h11102 h11103 a11358 h11359 w11360 w11361 r11362 r11363 r11364 h11365 h11385 h11386 h11406 h11451 w11476 w11477 w11478 w11480 w11481 w11483 w11482 w11484 w11486 w11487 w11488 w11490 w11489 w11492 w11493 w11494 w11495 w11496 w11498 w11497 w11499 w11503 w11502 a11504 ⊢) <;> (try simp (disch := omega) only [zb] at u11064 xq2 h11065 xq12 h11078 xq14 a11098 u11099 h11100 h11101 h11102 h11103 a11358 h11359 w11360 w11361 r11362 r11363 r11364 h11365 h11385 h11386 h11406 h11451 w11476 w11477 w11478 w11480 w11481 w11483 w11482 w11484 w11486 w11487 w11488 w11490 w11489 w11492 w11493 w11494 w11495 w11496 w11498 w11497 w11499 w11503 w11502 a11504 ⊢) <;> first | omega | ((try simp (disch := omega) only [zb] at u11064 xq2 h11065 xq12 h11078 xq14 a11098 u11099 h11100 h11101 h11102 h11103 a11358 h11359 w11360 w11361 r11362 r11363 r11364 h11365 h11385 h11386 h11406 h11451 w11476 w11477 w11478 w11480 w11481 w11483 w11482 w11484 w11486 w11487 w11488 w11490 w11489 w11492 w11493 w11494 w11495 w11496 w11498 w11497 w11499 w11503 w11502 a11504 ⊢) <;> omega))⟩
                  · unfold fX9_pair_250
                    refine sw_ite (fun h11505 => ?_) (fun h11505 => ?_)
                    · unfold fX9_pair_264
                      refine sw_ite (fun h11506 => ?_) (fun h11506 => ?_)
                      · have w11507 : mm_I s11 p0 0 = mm_I q2.2 p0 0 := by rw [← es11]; exact rd_k t_p0 tq5 (by decide)
                        have w11510 : rdA s11 p0 9 0 = mm_I s11 q17 ((0 : Int32)).toNatClampNeg := rdA_eq eq17
                        have w11509 : rdA s11 p0 9 0 = rdA q2.2 p0 9 0 := by rw [← es11]; exact rdA_k cq2 t_p0 (κ' := 59) rfl tq5 (by decide)
                        have w11511 := rdA_fr (k := 9) (j := 0) gq2 c0 t_p0 (κ' := 59) rfl rfl rfl
                        have w11513 : rdA s11 p0 10 0 = rdA q2.2 p0 10 0 := by rw [← es11]; exact rdA_j (by decide)
                        have w11515 : rdA q2.2 p0 10 0 = mm_I q2.2 q5 ((0 : Int32)).toNatClampNeg := rdA_eq eq5
                        have w11514 := rdA_fr (k := 10) (j := 0) gq2 c0 t_p0 (κ' := 60) rfl rfl rfl
                        have w11517 : rdA s11 p0 10 1 = -1 := by rw [← es11]; exact rdA_self eq5
                        have w11519 : rdA s11 p0 9 1 = mm_I s11 q17 ((1 : Int32)).toNatClampNeg := rdA_eq eq17
                        have w11518 : rdA s11 p0 9 1 = rdA q2.2 p0 9 1 := by rw [← es11]; exact rdA_k cq2 t_p0 (κ' := 59) rfl tq5 (by decide)
                        have w11520 := rdA_fr (k := 9) (j := 1) gq2 c0 t_p0 (κ' := 59) rfl rfl rfl
                        have w11524 : rdA q2.2 p0 10 1 = mm_I q2.2 q5 ((1 : Int32)).toNatClampNeg := rdA_eq eq5
                        have w11523 := rdA_fr (k := 10) (j := 1) gq2 c0 t_p0 (κ' := 60) rfl rfl rfl
                        have a11525 := zi_and p2 8 (by decide)
                        exact sw_some ⟨cs11, fs11, (by (try simp only [zp, zo, zq] at u11064 xq2 h11065 xq12 h11078 xq14 a11098 u11099 h11100 h11101 h11102 h11103 a11358 h11359 w11360 w11361 r11362 r11363 r11364 h11365 h11385 h11505 h11506 w11507 w11510 w11509 w11511 w11513 w11515 w11514 w11517 w11519 w11518 w11520 w11524 w11523 a11525 ⊢) <;> (try simp only [zz, Int32.reduceToInt, ne_eq] at u11064 xq2 h11065 xq12 h11078 xq14 a11098 u11099 h11100 h11101 h11102 h11103 a11358 h11359 w11360 w11361 r11362 r11363 r11364 h11365 h11385 h11505 h11506 w11507 w11510 w11509 w11511 w11513 w11515 w11514 w11517 w11519 w11518 w11520 w11524 w11523 a11525 ⊢) <;> (try simp (disch := omega) only [zb] at u11064 xq2 h11065 xq12 h11078 xq14 a11098 u11099 h11100 h11101 h11102 h11103 a11358 h11359 w11360 w11361 r11362 r11363 r11364 h11365 h11385 h11505 h11506 w11507 w11510 w11509 w11511 w11513 w11515 w11514 w11517 w11519 w11518 w11520 w11524 w11523 a11525 ⊢) <;> first | omega | ((try simp (disch := omega) only [zb] at u11064 xq2 h11065 xq12 h11078 xq14 a11098 u11099 h11100 h11101 h11102 h11103 a11358 h11359 w11360 w11361 r11362 r11363 r11364 h11365 h11385 h11505 h11506 w11507 w11510 w11509 w11511 w11513 w11515 w11514 w11517 w11519 w11518 w11520 w11524 w11523 a11525 ⊢) <;> omega))⟩
                      · refine sw_sh (ci_sh cs11 t_p0 rfl) ?_
                        refine sw_on (sX9_put cs11 t_p0 (by (try simp only [zp, zo, zq] at u11064 xq2 h11065 xq12 h11078 xq14 a11098 u11099 h11100 h11101 h11102 h11103 a11358 h11359 w11360 w11361 r11362 r11363 r11364 h11365 h11385 h11505 h11506 ⊢) <;> (try simp only [zz, Int32.reduceToInt, ne_eq] at u11064 xq2 h11065 xq12 h11078 xq14 a11098 u11099 h11100 h11101 h11102 h11103 a11358 h11359 w11360 w11361 r11362 r11363 r11364 h11365 h11385 h11505 h11506 ⊢) <;> (try simp (disch := omega) only [zb] at u11064 xq2 h11065 xq12 h11078 xq14 a11098 u11099 h11100 h11101 h11102 h11103 a11358 h11359 w11360 w11361 r11362 r11363 r11364 h11365 h11385 h11505 h11506 ⊢) <;> first | omega | ((try simp (disch := omega) only [zb] at u11064 xq2 h11065 xq12 h11078 xq14 a11098 u11099 h11100 h11101 h11102 h11103 a11358 h11359 w11360 w11361 r11362 r11363 r11364 h11365 h11385 h11505 h11506 ⊢) <;> omega)) ) ?_
                        intro q28 hqq28
                        obtain ⟨cq28, gq28, xq28⟩ := hqq28
                        have fq28 := fr_trans fs11 gq28 rfl
                        have w11526 := (gq28.2.2 _ _ t_p0 0 rfl).1
                        have w11527 : mm_I s11 p0 0 = mm_I q2.2 p0 0 := by rw [← es11]; exact rd_k t_p0 tq5 (by decide)
                        have w11529 := rdA_fr (k := 9) (j := 0) gq28 cs11 t_p0 (κ' := 59) rfl rfl rfl
                        have w11531 : rdA s11 p0 9 0 = mm_I s11 q17 ((0 : Int32)).toNatClampNeg := rdA_eq eq17
                        have w11530 : rdA s11 p0 9 0 = rdA q2.2 p0 9 0 := by rw [← es11]; exact rdA_k cq2 t_p0 (κ' := 59) rfl tq5 (by decide)
                        have w11532 := rdA_fr (k := 9) (j := 0) gq2 c0 t_p0 (κ' := 59) rfl rfl rfl
                        have w11534 := rdA_fr (k := 10) (j := 0) gq28 cs11 t_p0 (κ' := 60) rfl rfl rfl
                        have w11535 : rdA s11 p0 10 0 = rdA q2.2 p0 10 0 := by rw [← es11]; exact rdA_j (by decide)
                        have w11537 : rdA q2.2 p0 10 0 = mm_I q2.2 q5 ((0 : Int32)).toNatClampNeg := rdA_eq eq5
                        have w11536 := rdA_fr (k := 10) (j := 0) gq2 c0 t_p0 (κ' := 60) rfl rfl rfl
                        have w11539 := rdA_fr (k := 10) (j := 1) gq28 cs11 t_p0 (κ' := 60) rfl rfl rfl
                        have w11540 : rdA s11 p0 10 1 = -1 := by rw [← es11]; exact rdA_self eq5
                        have w11541 := rdA_fr (k := 9) (j := 1) gq28 cs11 t_p0 (κ' := 59) rfl rfl rfl
                        have w11543 : rdA s11 p0 9 1 = mm_I s11 q17 ((1 : Int32)).toNatClampNeg := rdA_eq eq17
                        have w11542 : rdA s11 p0 9 1 = rdA q2.2 p0 9 1 := by rw [← es11]; exact rdA_k cq2 t_p0 (κ' := 59) rfl tq5 (by decide)
                        have w11544 := rdA_fr (k := 9) (j := 1) gq2 c0 t_p0 (κ' := 59) rfl rfl rfl
                        have w11548 : rdA q2.2 p0 10 1 = mm_I q2.2 q5 ((1 : Int32)).toNatClampNeg := rdA_eq eq5
                        have w11547 := rdA_fr (k := 10) (j := 1) gq2 c0 t_p0 (κ' := 60) rfl rfl rfl
                        have a11549 := zi_and p2 8 (by decide)
                        exact sw_some ⟨cq28, fq28, (by (try simp only [zp, zo, zq] at u11064 xq2 h11065 xq12 h11078 xq14 a11098 u11099 h11100 h11101 h11102 h11103 a11358 h11359 w11360 w11361 r11362 r11363 r11364 h11365 h11385 h11505 h11506 w11526 w11527 w11529 w11531 w11530 w11532 w11534 w11535 w11537 w11536 w11539 w11540 w11541 w11543 w11542 w11544 w11548 w11547 a11549 ⊢) <;> (try simp only [zz, Int32.reduceToInt, ne_eq] at u11064 xq2 h11065 xq12 h11078 xq14 a11098 u11099 h11100 h11101 h11102 h11103 a11358 h11359 w11360 w11361 r11362 r11363 r11364 h11365 h11385 h11505 h11506 w11526 w11527 w11529 w11531 w11530 w11532 w11534 w11535 w11537 w11536 w11539 w11540 w11541 w11543 w11542 w11544 w11548 w11547 a11549 ⊢) <;> (try simp (disch := omega) only [zb] at u11064 xq2 h11065 xq12 h11078 xq14 a11098 u11099 h11100 h11101 h11102 h11103 a11358 h11359 w11360 w11361 r11362 r11363 r11364 h11365 h11385 h11505 h11506 w11526 w11527 w11529 w11531 w11530 w11532 w11534 w11535 w11537 w11536 w11539 w11540 w11541 w11543 w11542 w11544 w11548 w11547 a11549 ⊢) <;> first | omega | ((try simp (disch := omega) only [zb] at u11064 xq2 h11065 xq12 h11078 xq14 a11098 u11099 h11100 h11101 h11102 h11103 a11358 h11359 w11360 w11361 r11362 r11363 r11364 h11365 h11385 h11505 h11506 w11526 w11527 w11529 w11531 w11530 w11532 w11534 w11535 w11537 w11536 w11539 w11540 w11541 w11543 w11542 w11544 w11548 w11547 a11549 ⊢) <;> omega))⟩
                    · refine sw_sh (ci_sh cs11 t_p0 rfl) ?_
                      refine sw_on (sX9_put cs11 t_p0 (by (try simp only [zp, zo, zq] at u11064 xq2 h11065 xq12 h11078 xq14 a11098 u11099 h11100 h11101 h11102 h11103 a11358 h11359 w11360 w11361 r11362 r11363 r11364 h11365 h11385 h11505 ⊢) <;> (try simp only [zz, Int32.reduceToInt, ne_eq] at u11064 xq2 h11065 xq12 h11078 xq14 a11098 u11099 h11100 h11101 h11102 h11103 a11358 h11359 w11360 w11361 r11362 r11363 r11364 h11365 h11385 h11505 ⊢) <;> (try simp (disch := omega) only [zb] at u11064 xq2 h11065 xq12 h11078 xq14 a11098 u11099 h11100 h11101 h11102 h11103 a11358 h11359 w11360 w11361 r11362 r11363 r11364 h11365 h11385 h11505 ⊢) <;> first | omega | ((try simp (disch := omega) only [zb] at u11064 xq2 h11065 xq12 h11078 xq14 a11098 u11099 h11100 h11101 h11102 h11103 a11358 h11359 w11360 w11361 r11362 r11363 r11364 h11365 h11385 h11505 ⊢) <;> omega)) ) ?_
                      intro q30 hqq30
                      obtain ⟨cq30, gq30, xq30⟩ := hqq30
                      have fq30 := fr_trans fs11 gq30 rfl
                      unfold fX9_pair_264
                      refine sw_ite (fun h11550 => ?_) (fun h11550 => ?_)
                      · have w11551 := (gq30.2.2 _ _ t_p0 0 rfl).1
                        have w11552 : mm_I s11 p0 0 = mm_I q2.2 p0 0 := by rw [← es11]; exact rd_k t_p0 tq5 (by decide)
                        have w11554 := rdA_fr (k := 9) (j := 0) gq30 cs11 t_p0 (κ' := 59) rfl rfl rfl
                        have w11556 : rdA s11 p0 9 0 = mm_I s11 q17 ((0 : Int32)).toNatClampNeg := rdA_eq eq17
                        have w11555 : rdA s11 p0 9 0 = rdA q2.2 p0 9 0 := by rw [← es11]; exact rdA_k cq2 t_p0 (κ' := 59) rfl tq5 (by decide)
                        have w11557 := rdA_fr (k := 9) (j := 0) gq2 c0 t_p0 (κ' := 59) rfl rfl rfl
                        have w11559 := rdA_fr (k := 10) (j := 0) gq30 cs11 t_p0 (κ' := 60) rfl rfl rfl
                        have w11560 : rdA s11 p0 10 0 = rdA q2.2 p0 10 0 := by rw [← es11]; exact rdA_j (by decide)
                        have w11562 : rdA q2.2 p0 10 0 = mm_I q2.2 q5 ((0 : Int32)).toNatClampNeg := rdA_eq eq5
                        have w11561 := rdA_fr (k := 10) (j := 0) gq2 c0 t_p0 (κ' := 60) rfl rfl rfl
                        have w11564 := rdA_fr (k := 10) (j := 1) gq30 cs11 t_p0 (κ' := 60) rfl rfl rfl
                        have w11565 : rdA s11 p0 10 1 = -1 := by rw [← es11]; exact rdA_self eq5
                        have w11566 := rdA_fr (k := 9) (j := 1) gq30 cs11 t_p0 (κ' := 59) rfl rfl rfl
                        have w11568 : rdA s11 p0 9 1 = mm_I s11 q17 ((1 : Int32)).toNatClampNeg := rdA_eq eq17
                        have w11567 : rdA s11 p0 9 1 = rdA q2.2 p0 9 1 := by rw [← es11]; exact rdA_k cq2 t_p0 (κ' := 59) rfl tq5 (by decide)
                        have w11569 := rdA_fr (k := 9) (j := 1) gq2 c0 t_p0 (κ' := 59) rfl rfl rfl
                        have w11573 : rdA q2.2 p0 10 1 = mm_I q2.2 q5 ((1 : Int32)).toNatClampNeg := rdA_eq eq5
                        have w11572 := rdA_fr (k := 10) (j := 1) gq2 c0 t_p0 (κ' := 60) rfl rfl rfl
                        have a11574 := zi_and p2 8 (by decide)
                        exact sw_some ⟨cq30, fq30, (by (try simp only [zp, zo, zq] at u11064 xq2 h11065 xq12 h11078 xq14 a11098 u11099 h11100 h11101 h11102 h11103 a11358 h11359 w11360 w11361 r11362 r11363 r11364 h11365 h11385 h11505 h11550 w11551 w11552 w11554 w11556 w11555 w11557 w11559 w11560 w11562 w11561 w11564 w11565 w11566 w11568 w11567 w11569 w11573 w11572 a11574 ⊢) <;> (try simp only [zz, Int32.reduceToInt, ne_eq] at u11064 xq2 h11065 xq12 h11078 xq14 a11098 u11099 h11100 h11101 h11102 h11103 a11358 h11359 w11360 w11361 r11362 r11363 r11364 h11365 h11385 h11505 h11550 w11551 w11552 w11554 w11556 w11555 w11557 w11559 w11560 w11562 w11561 w11564 w11565 w11566 w11568 w11567 w11569 w11573 w11572 a11574 ⊢) <;> (try simp (disch := omega) only [zb] at u11064 xq2 h11065 xq12 h11078 xq14 a11098 u11099 h11100 h11101 h11102 h11103 a11358 h11359 w11360 w11361 r11362 r11363 r11364 h11365 h11385 h11505 h11550 w11551 w11552 w11554 w11556 w11555 w11557 w11559 w11560 w11562 w11561 w11564 w11565 w11566 w11568 w11567 w11569 w11573 w11572 a11574 ⊢) <;> first | omega | ((try simp (disch := omega) only [zb] at u11064 xq2 h11065 xq12 h11078 xq14 a11098 u11099 h11100 h11101 h11102 h11103 a11358 h11359 w11360 w11361 r11362 r11363 r11364 h11365 h11385 h11505 h11550 w11551 w11552 w11554 w11556 w11555 w11557 w11559 w11560 w11562 w11561 w11564 w11565 w11566 w11568 w11567 w11569 w11573 w11572 a11574 ⊢) <;> omega))⟩
                      · refine sw_sh (ci_sh cq30 t_p0 rfl) ?_
                        refine sw_on (sX9_put cq30 t_p0 (by (try simp only [zp, zo, zq] at u11064 xq2 h11065 xq12 h11078 xq14 a11098 u11099 h11100 h11101 h11102 h11103 a11358 h11359 w11360 w11361 r11362 r11363 r11364 h11365 h11385 h11505 h11550 ⊢) <;> (try simp only [zz, Int32.reduceToInt, ne_eq] at u11064 xq2 h11065 xq12 h11078 xq14 a11098 u11099 h11100 h11101 h11102 h11103 a11358 h11359 w11360 w11361 r11362 r11363 r11364 h11365 h11385 h11505 h11550 ⊢) <;> (try simp (disch := omega) only [zb] at u11064 xq2 h11065 xq12 h11078 xq14 a11098 u11099 h11100 h11101 h11102 h11103 a11358 h11359 w11360 w11361 r11362 r11363 r11364 h11365 h11385 h11505 h11550 ⊢) <;> first | omega | ((try simp (disch := omega) only [zb] at u11064 xq2 h11065 xq12 h11078 xq14 a11098 u11099 h11100 h11101 h11102 h11103 a11358 h11359 w11360 w11361 r11362 r11363 r11364 h11365 h11385 h11505 h11550 ⊢) <;> omega)) ) ?_
                        intro q28 hqq28
                        obtain ⟨cq28, gq28, xq28⟩ := hqq28
                        have fq28 := fr_trans fq30 gq28 rfl
                        have w11575 := (gq28.2.2 _ _ t_p0 0 rfl).1
                        have w11576 := (gq30.2.2 _ _ t_p0 0 rfl).1
                        have w11577 : mm_I s11 p0 0 = mm_I q2.2 p0 0 := by rw [← es11]; exact rd_k t_p0 tq5 (by decide)
                        have w11579 := rdA_fr (k := 9) (j := 0) gq28 cq30 t_p0 (κ' := 59) rfl rfl rfl
                        have w11580 := rdA_fr (k := 9) (j := 0) gq30 cs11 t_p0 (κ' := 59) rfl rfl rfl
                        have w11582 : rdA s11 p0 9 0 = mm_I s11 q17 ((0 : Int32)).toNatClampNeg := rdA_eq eq17
                        have w11581 : rdA s11 p0 9 0 = rdA q2.2 p0 9 0 := by rw [← es11]; exact rdA_k cq2 t_p0 (κ' := 59) rfl tq5 (by decide)
                        have w11583 := rdA_fr (k := 9) (j := 0) gq2 c0 t_p0 (κ' := 59) rfl rfl rfl
                        have w11585 := rdA_fr (k := 10) (j := 0) gq28 cq30 t_p0 (κ' := 60) rfl rfl rfl
                        have w11586 := rdA_fr (k := 10) (j := 0) gq30 cs11 t_p0 (κ' := 60) rfl rfl rfl
                        have w11587 : rdA s11 p0 10 0 = rdA q2.2 p0 10 0 := by rw [← es11]; exact rdA_j (by decide)
                        have w11589 : rdA q2.2 p0 10 0 = mm_I q2.2 q5 ((0 : Int32)).toNatClampNeg := rdA_eq eq5
                        have w11588 := rdA_fr (k := 10) (j := 0) gq2 c0 t_p0 (κ' := 60) rfl rfl rfl
                        have w11591 := rdA_fr (k := 10) (j := 1) gq28 cq30 t_p0 (κ' := 60) rfl rfl rfl
                        have w11592 := rdA_fr (k := 10) (j := 1) gq30 cs11 t_p0 (κ' := 60) rfl rfl rfl
                        have w11593 : rdA s11 p0 10 1 = -1 := by rw [← es11]; exact rdA_self eq5
                        have w11594 := rdA_fr (k := 9) (j := 1) gq28 cq30 t_p0 (κ' := 59) rfl rfl rfl
                        have w11595 := rdA_fr (k := 9) (j := 1) gq30 cs11 t_p0 (κ' := 59) rfl rfl rfl
                        have w11597 : rdA s11 p0 9 1 = mm_I s11 q17 ((1 : Int32)).toNatClampNeg := rdA_eq eq17
                        have w11596 : rdA s11 p0 9 1 = rdA q2.2 p0 9 1 := by rw [← es11]; exact rdA_k cq2 t_p0 (κ' := 59) rfl tq5 (by decide)
                        have w11598 := rdA_fr (k := 9) (j := 1) gq2 c0 t_p0 (κ' := 59) rfl rfl rfl
                        have w11602 : rdA q2.2 p0 10 1 = mm_I q2.2 q5 ((1 : Int32)).toNatClampNeg := rdA_eq eq5
                        have w11601 := rdA_fr (k := 10) (j := 1) gq2 c0 t_p0 (κ' := 60) rfl rfl rfl
                        have a11603 := zi_and p2 8 (by decide)
                        exact sw_some ⟨cq28, fq28, (by (try simp only [zp, zo, zq] at u11064 xq2 h11065 xq12 h11078 xq14 a11098 u11099 h11100 h11101 h11102 h11103 a11358 h11359 w11360 w11361 r11362 r11363 r11364 h11365 h11385 h11505 h11550 w11575 w11576 w11577 w11579 w11580 w11582 w11581 w11583 w11585 w11586 w11587 w11589 w11588 w11591 w11592 w11593 w11594 w11595 w11597 w11596 w11598 w11602 w11601 a11603 ⊢) <;> (try simp only [zz, Int32.reduceToInt, ne_eq] at u11064 xq2 h11065 xq12 h11078 xq14 a11098 u11099 h11100 h11101 h11102 h11103 a11358 h11359 w11360 w11361 r11362 r11363 r11364 h11365 h11385 h11505 h11550 w11575 w11576 w11577 w11579 w11580 w11582 w11581 w11583 w11585 w11586 w11587 w11589 w11588 w11591 w11592 w11593 w11594 w11595 w11597 w11596 w11598 w11602 w11601 a11603 ⊢) <;> (try simp (disch := omega) only [zb] at u11064 xq2 h11065 xq12 h11078 xq14 a11098 u11099 h11100 h11101 h11102 h11103 a11358 h11359 w11360 w11361 r11362 r11363 r11364 h11365 h11385 h11505 h11550 w11575 w11576 w11577 w11579 w11580 w11582 w11581 w11583 w11585 w11586 w11587 w11589 w11588 w11591 w11592 w11593 w11594 w11595 w11597 w11596 w11598 w11602 w11601 a11603 ⊢) <;> first | omega | ((try simp (disch := omega) only [zb] at u11064 xq2 h11065 xq12 h11078 xq14 a11098 u11099 h11100 h11101 h11102 h11103 a11358 h11359 w11360 w11361 r11362 r11363 r11364 h11365 h11385 h11505 h11550 w11575 w11576 w11577 w11579 w11580 w11582 w11581 w11583 w11585 w11586 w11587 w11589 w11588 w11591 w11592 w11593 w11594 w11595 w11597 w11596 w11598 w11602 w11601 a11603 ⊢) <;> omega))⟩
              · refine sw_ite (fun h11604 => ?_) (fun h11604 => ?_)
                · unfold fX9_pair_222
                  unfold fX9_pair_228
                  have w11605 : mm_I s11 q17 ((1 : Int32).toNatClampNeg) = mm_I q2.2 q17 ((1 : Int32).toNatClampNeg) := by rw [← es11]; exact rd_k tq17 tq5 (by decide)
                  have w11606 := (gq2.2.2 _ _ tq17 ((1 : Int32).toNatClampNeg) rfl).1
                  have r11607 := ci_rg c0 tq17 ((1 : Int32).toNatClampNeg) (lo := (-1)) (hi := 3) rfl
                  have r11608 := ci_rg cq2 tq17 ((1 : Int32).toNatClampNeg) (lo := (-1)) (hi := 3) rfl
                  have r11609 := ci_rg cs11 tq17 ((1 : Int32).toNatClampNeg) (lo := (-1)) (hi := 3) rfl
                  refine sw_ite (fun h11610 => ?_) (fun h11610 => ?_)
                  · have w11611 : mm_I s11 p0 0 = mm_I q2.2 p0 0 := by rw [← es11]; exact rd_k t_p0 tq5 (by decide)
                    have w11614 : rdA s11 p0 9 0 = mm_I s11 q17 ((0 : Int32)).toNatClampNeg := rdA_eq eq17
                    have w11613 : rdA s11 p0 9 0 = rdA q2.2 p0 9 0 := by rw [← es11]; exact rdA_k cq2 t_p0 (κ' := 59) rfl tq5 (by decide)
                    have w11615 := rdA_fr (k := 9) (j := 0) gq2 c0 t_p0 (κ' := 59) rfl rfl rfl
                    have w11617 : rdA s11 p0 10 0 = rdA q2.2 p0 10 0 := by rw [← es11]; exact rdA_j (by decide)
                    have w11619 : rdA q2.2 p0 10 0 = mm_I q2.2 q5 ((0 : Int32)).toNatClampNeg := rdA_eq eq5
                    have w11618 := rdA_fr (k := 10) (j := 0) gq2 c0 t_p0 (κ' := 60) rfl rfl rfl
                    have w11621 : rdA s11 p0 10 1 = -1 := by rw [← es11]; exact rdA_self eq5
                    have w11623 : rdA s11 p0 9 1 = mm_I s11 q17 ((1 : Int32)).toNatClampNeg := rdA_eq eq17
                    have w11622 : rdA s11 p0 9 1 = rdA q2.2 p0 9 1 := by rw [← es11]; exact rdA_k cq2 t_p0 (κ' := 59) rfl tq5 (by decide)
                    have w11624 := rdA_fr (k := 9) (j := 1) gq2 c0 t_p0 (κ' := 59) rfl rfl rfl
                    have w11628 : rdA q2.2 p0 10 1 = mm_I q2.2 q5 ((1 : Int32)).toNatClampNeg := rdA_eq eq5
                    have w11627 := rdA_fr (k := 10) (j := 1) gq2 c0 t_p0 (κ' := 60) rfl rfl rfl
                    have a11629 := zi_and p2 8 (by decide)
                    exact sw_some ⟨cs11, fs11, (by (try simp only [zp, zo, zq] at u11064 xq2 h11065 xq12 h11078 xq14 a11098 u11099 h11100 h11101 h11102 h11103 a11358 h11359 h11604 w11605 w11606 r11607 r11608 r11609 h11610 w11611 w11614 w11613 w11615 w11617 w11619 w11618 w11621 w11623 w11622 w11624 w11628 w11627 a11629 ⊢) <;> (try simp only [zz, Int32.reduceToInt, ne_eq] at u11064 xq2 h11065 xq12 h11078 xq14 a11098 u11099 h11100 h11101 h11102 h11103 a11358 h11359 h11604 w11605 w11606 r11607 r11608 r11609 h11610 w11611 w11614 w11613 w11615 w11617 w11619 w11618 w11621 w11623 w11622 w11624 w11628 w11627 a11629 ⊢) <;> (try simp (disch := omega) only [zb] at u11064 xq2 h11065 xq12 h11078 xq14 a11098 u11099 h11100 h11101 h11102 h11103 a11358 h11359 h11604 w11605 w11606 r11607 r11608 r11609 h11610 w11611 w11614 w11613 w11615 w11617 w11619 w11618 w11621 w11623 w11622 w11624 w11628 w11627 a11629 ⊢) <;> first | omega | ((try simp (disch := omega) only [zb] at u11064 xq2 h11065 xq12 h11078 xq14 a11098 u11099 h11100 h11101 h11102 h11103 a11358 h11359 h11604 w11605 w11606 r11607 r11608 r11609 h11610 w11611 w11614 w11613 w11615 w11617 w11619 w11618 w11621 w11623 w11622 w11624 w11628 w11627 a11629 ⊢) <;> omega))⟩
                  · refine sw_ite (fun h11630 => ?_) (fun h11630 => ?_)
                    · refine sw_ite (fun h11631 => ?_) (fun h11631 => ?_)
                      · have w11632 : mm_I s11 p0 0 = mm_I q2.2 p0 0 := by rw [← es11]; exact rd_k t_p0 tq5 (by decide)
                        have w11635 : rdA s11 p0 9 0 = mm_I s11 q17 ((0 : Int32)).toNatClampNeg := rdA_eq eq17
                        have w11634 : rdA s11 p0 9 0 = rdA q2.2 p0 9 0 := by rw [← es11]; exact rdA_k cq2 t_p0 (κ' := 59) rfl tq5 (by decide)
                        have w11636 := rdA_fr (k := 9) (j := 0) gq2 c0 t_p0 (κ' := 59) rfl rfl rfl
                        have w11638 : rdA s11 p0 10 0 = rdA q2.2 p0 10 0 := by rw [← es11]; exact rdA_j (by decide)
                        have w11640 : rdA q2.2 p0 10 0 = mm_I q2.2 q5 ((0 : Int32)).toNatClampNeg := rdA_eq eq5
                        have w11639 := rdA_fr (k := 10) (j := 0) gq2 c0 t_p0 (κ' := 60) rfl rfl rfl
                        have w11642 : rdA s11 p0 10 1 = -1 := by rw [← es11]; exact rdA_self eq5
                        have w11644 : rdA s11 p0 9 1 = mm_I s11 q17 ((1 : Int32)).toNatClampNeg := rdA_eq eq17
                        have w11643 : rdA s11 p0 9 1 = rdA q2.2 p0 9 1 := by rw [← es11]; exact rdA_k cq2 t_p0 (κ' := 59) rfl tq5 (by decide)
                        have w11645 := rdA_fr (k := 9) (j := 1) gq2 c0 t_p0 (κ' := 59) rfl rfl rfl
                        have w11649 : rdA q2.2 p0 10 1 = mm_I q2.2 q5 ((1 : Int32)).toNatClampNeg := rdA_eq eq5
                        have w11648 := rdA_fr (k := 10) (j := 1) gq2 c0 t_p0 (κ' := 60) rfl rfl rfl
                        have a11650 := zi_and p2 8 (by decide)
                        exact sw_some ⟨cs11, fs11, (by (try simp only [zp, zo, zq] at u11064 xq2 h11065 xq12 h11078 xq14 a11098 u11099 h11100 h11101 h11102 h11103 a11358 h11359 h11604 w11605 w11606 r11607 r11608 r11609 h11610 h11630 h11631 w11632 w11635 w11634 w11636 w11638 w11640 w11639 w11642 w11644 w11643 w11645 w11649 w11648 a11650 ⊢) <;> (try simp only [zz, Int32.reduceToInt, ne_eq] at u11064 xq2 h11065 xq12 h11078 xq14 a11098 u11099 h11100 h11101 h11102 h11103 a11358 h11359 h11604 w11605 w11606 r11607 r11608 r11609 h11610 h11630 h11631 w11632 w11635 w11634 w11636 w11638 w11640 w11639 w11642 w11644 w11643 w11645 w11649 w11648 a11650 ⊢) <;> (try simp (disch := omega) only [zb] at u11064 xq2 h11065 xq12 h11078 xq14 a11098 u11099 h11100 h11101 h11102 h11103 a11358 h11359 h11604 w11605 w11606 r11607 r11608 r11609 h11610 h11630 h11631 w11632 w11635 w11634 w11636 w11638 w11640 w11639 w11642 w11644 w11643 w11645 w11649 w11648 a11650 ⊢) <;> first | omega | ((try simp (disch := omega) only [zb] at u11064 xq2 h11065 xq12 h11078 xq14 a11098 u11099 h11100 h11101 h11102 h11103 a11358 h11359 h11604 w11605 w11606 r11607 r11608 r11609 h11610 h11630 h11631 w11632 w11635 w11634 w11636 w11638 w11640 w11639 w11642 w11644 w11643 w11645 w11649 w11648 a11650 ⊢) <;> omega))⟩
                      · unfold fX9_pair_250
                        refine sw_ite (fun h11651 => ?_) (fun h11651 => ?_)
                        · unfold fX9_pair_264
                          refine sw_ite (fun h11652 => ?_) (fun h11652 => ?_)
                          · have w11653 : mm_I s11 p0 0 = mm_I q2.2 p0 0 := by rw [← es11]; exact rd_k t_p0 tq5 (by decide)
                            have w11656 : rdA s11 p0 9 0 = mm_I s11 q17 ((0 : Int32)).toNatClampNeg := rdA_eq eq17
                            have w11655 : rdA s11 p0 9 0 = rdA q2.2 p0 9 0 := by rw [← es11]; exact rdA_k cq2 t_p0 (κ' := 59) rfl tq5 (by decide)
                            have w11657 := rdA_fr (k := 9) (j := 0) gq2 c0 t_p0 (κ' := 59) rfl rfl rfl
                            have w11659 : rdA s11 p0 10 0 = rdA q2.2 p0 10 0 := by rw [← es11]; exact rdA_j (by decide)
                            have w11661 : rdA q2.2 p0 10 0 = mm_I q2.2 q5 ((0 : Int32)).toNatClampNeg := rdA_eq eq5
                            have w11660 := rdA_fr (k := 10) (j := 0) gq2 c0 t_p0 (κ' := 60) rfl rfl rfl
                            have w11663 : rdA s11 p0 10 1 = -1 := by rw [← es11]; exact rdA_self eq5
                            have w11665 : rdA s11 p0 9 1 = mm_I s11 q17 ((1 : Int32)).toNatClampNeg := rdA_eq eq17
                            have w11664 : rdA s11 p0 9 1 = rdA q2.2 p0 9 1 := by rw [← es11]; exact rdA_k cq2 t_p0 (κ' := 59) rfl tq5 (by decide)
                            have w11666 := rdA_fr (k := 9) (j := 1) gq2 c0 t_p0 (κ' := 59) rfl rfl rfl
                            have w11670 : rdA q2.2 p0 10 1 = mm_I q2.2 q5 ((1 : Int32)).toNatClampNeg := rdA_eq eq5
                            have w11669 := rdA_fr (k := 10) (j := 1) gq2 c0 t_p0 (κ' := 60) rfl rfl rfl
                            have a11671 := zi_and p2 8 (by decide)
                            exact sw_some ⟨cs11, fs11, (by (try simp only [zp, zo, zq] at u11064 xq2 h11065 xq12 h11078 xq14 a11098 u11099 h11100 h11101 h11102 h11103 a11358 h11359 h11604 w11605 w11606 r11607 r11608 r11609 h11610 h11630 h11631 h11651 h11652 w11653 w11656 w11655 w11657 w11659 w11661 w11660 w11663 w11665 w11664 w11666 w11670 w11669 a11671 ⊢) <;> (try simp only [zz, Int32.reduceToInt, ne_eq] at u11064 xq2 h11065 xq12 h11078 xq14 a11098 u11099 h11100 h11101 h11102 h11103 a11358 h11359 h11604 w11605 w11606 r11607 r11608 r11609 h11610 h11630 h11631 h11651 h11652 w11653 w11656 w11655 w11657 w11659 w11661 w11660 w11663 w11665 w11664 w11666 w11670 w11669 a11671 ⊢) <;> (try simp (disch := omega) only [zb] at u11064 xq2 h11065 xq12 h11078 xq14 a11098 u11099 h11100 h11101 h11102 h11103 a11358 h11359 h11604 w11605 w11606 r11607 r11608 r11609 h11610 h11630 h11631 h11651 h11652 w11653 w11656 w11655 w11657 w11659 w11661 w11660 w11663 w11665 w11664 w11666 w11670 w11669 a11671 ⊢) <;> first | omega | ((try simp (disch := omega) only [zb] at u11064 xq2 h11065 xq12 h11078 xq14 a11098 u11099 h11100 h11101 h11102 h11103 a11358 h11359 h11604 w11605 w11606 r11607 r11608 r11609 h11610 h11630 h11631 h11651 h11652 w11653 w11656 w11655 w11657 w11659 w11661 w11660 w11663 w11665 w11664 w11666 w11670 w11669 a11671 ⊢) <;> omega))⟩
                          · refine sw_sh (ci_sh cs11 t_p0 rfl) ?_
                            refine sw_on (sX9_put cs11 t_p0 (by (try simp only [zp, zo, zq] at u11064 xq2 h11065 xq12 h11078 xq14 a11098 u11099 h11100 h11101 h11102 h11103 a11358 h11359 h11604 w11605 w11606 r11607 r11608 r11609 h11610 h11630 h11631 h11651 h11652 ⊢) <;> (try simp only [zz, Int32.reduceToInt, ne_eq] at u11064 xq2 h11065 xq12 h11078 xq14 a11098 u11099 h11100 h11101 h11102 h11103 a11358 h11359 h11604 w11605 w11606 r11607 r11608 r11609 h11610 h11630 h11631 h11651 h11652 ⊢) <;> (try simp (disch := omega) only [zb] at u11064 xq2 h11065 xq12 h11078 xq14 a11098 u11099 h11100 h11101 h11102 h11103 a11358 h11359 h11604 w11605 w11606 r11607 r11608 r11609 h11610 h11630 h11631 h11651 h11652 ⊢) <;> first | omega | ((try simp (disch := omega) only [zb] at u11064 xq2 h11065 xq12 h11078 xq14 a11098 u11099 h11100 h11101 h11102 h11103 a11358 h11359 h11604 w11605 w11606 r11607 r11608 r11609 h11610 h11630 h11631 h11651 h11652 ⊢) <;> omega)) ) ?_
                            intro q28 hqq28
                            obtain ⟨cq28, gq28, xq28⟩ := hqq28
                            have fq28 := fr_trans fs11 gq28 rfl
                            have w11672 := (gq28.2.2 _ _ t_p0 0 rfl).1
                            have w11673 : mm_I s11 p0 0 = mm_I q2.2 p0 0 := by rw [← es11]; exact rd_k t_p0 tq5 (by decide)
                            have w11675 := rdA_fr (k := 9) (j := 0) gq28 cs11 t_p0 (κ' := 59) rfl rfl rfl
                            have w11677 : rdA s11 p0 9 0 = mm_I s11 q17 ((0 : Int32)).toNatClampNeg := rdA_eq eq17
                            have w11676 : rdA s11 p0 9 0 = rdA q2.2 p0 9 0 := by rw [← es11]; exact rdA_k cq2 t_p0 (κ' := 59) rfl tq5 (by decide)
                            have w11678 := rdA_fr (k := 9) (j := 0) gq2 c0 t_p0 (κ' := 59) rfl rfl rfl
                            have w11680 := rdA_fr (k := 10) (j := 0) gq28 cs11 t_p0 (κ' := 60) rfl rfl rfl
                            have w11681 : rdA s11 p0 10 0 = rdA q2.2 p0 10 0 := by rw [← es11]; exact rdA_j (by decide)
                            have w11683 : rdA q2.2 p0 10 0 = mm_I q2.2 q5 ((0 : Int32)).toNatClampNeg := rdA_eq eq5
                            have w11682 := rdA_fr (k := 10) (j := 0) gq2 c0 t_p0 (κ' := 60) rfl rfl rfl
                            have w11685 := rdA_fr (k := 10) (j := 1) gq28 cs11 t_p0 (κ' := 60) rfl rfl rfl
                            have w11686 : rdA s11 p0 10 1 = -1 := by rw [← es11]; exact rdA_self eq5
                            have w11687 := rdA_fr (k := 9) (j := 1) gq28 cs11 t_p0 (κ' := 59) rfl rfl rfl
                            have w11689 : rdA s11 p0 9 1 = mm_I s11 q17 ((1 : Int32)).toNatClampNeg := rdA_eq eq17
                            have w11688 : rdA s11 p0 9 1 = rdA q2.2 p0 9 1 := by rw [← es11]; exact rdA_k cq2 t_p0 (κ' := 59) rfl tq5 (by decide)
                            have w11690 := rdA_fr (k := 9) (j := 1) gq2 c0 t_p0 (κ' := 59) rfl rfl rfl
                            have w11694 : rdA q2.2 p0 10 1 = mm_I q2.2 q5 ((1 : Int32)).toNatClampNeg := rdA_eq eq5
                            have w11693 := rdA_fr (k := 10) (j := 1) gq2 c0 t_p0 (κ' := 60) rfl rfl rfl
                            have a11695 := zi_and p2 8 (by decide)
                            exact sw_some ⟨cq28, fq28, (by (try simp only [zp, zo, zq] at u11064 xq2 h11065 xq12 h11078 xq14 a11098 u11099 h11100 h11101 h11102 h11103 a11358 h11359 h11604 w11605 w11606 r11607 r11608 r11609 h11610 h11630 h11631 h11651 h11652 w11672 w11673 w11675 w11677 w11676 w11678 w11680 w11681 w11683 w11682 w11685 w11686 w11687 w11689 w11688 w11690 w11694 w11693 a11695 ⊢) <;> (try simp only [zz, Int32.reduceToInt, ne_eq] at u11064 xq2 h11065 xq12 h11078 xq14 a11098 u11099 h11100 h11101 h11102 h11103 a11358 h11359 h11604 w11605 w11606 r11607 r11608 r11609 h11610 h11630 h11631 h11651 h11652 w11672 w11673 w11675 w11677 w11676 w11678 w11680 w11681 w11683 w11682 w11685 w11686 w11687 w11689 w11688 w11690 w11694 w11693 a11695 ⊢) <;> (try simp (disch := omega) only [zb] at u11064 xq2 h11065 xq12 h11078 xq14 a11098 u11099 h11100 h11101 h11102 h11103 a11358 h11359 h11604 w11605 w11606 r11607 r11608 r11609 h11610 h11630 h11631 h11651 h11652 w11672 w11673 w11675 w11677 w11676 w11678 w11680 w11681 w11683 w11682 w11685 w11686 w11687 w11689 w11688 w11690 w11694 w11693 a11695 ⊢) <;> first | omega | ((try simp (disch := omega) only [zb] at u11064 xq2 h11065 xq12 h11078 xq14 a11098 u11099 h11100 h11101 h11102 h11103 a11358 h11359 h11604 w11605 w11606 r11607 r11608 r11609 h11610 h11630 h11631 h11651 h11652 w11672 w11673 w11675 w11677 w11676 w11678 w11680 w11681 w11683 w11682 w11685 w11686 w11687 w11689 w11688 w11690 w11694 w11693 a11695 ⊢) <;> omega))⟩
                        · refine sw_sh (ci_sh cs11 t_p0 rfl) ?_
                          refine sw_on (sX9_put cs11 t_p0 (by (try simp only [zp, zo, zq] at u11064 xq2 h11065 xq12 h11078 xq14 a11098 u11099 h11100 h11101 h11102 h11103 a11358 h11359 h11604 w11605 w11606 r11607 r11608 r11609 h11610 h11630 h11631 h11651 ⊢) <;> (try simp only [zz, Int32.reduceToInt, ne_eq] at u11064 xq2 h11065 xq12 h11078 xq14 a11098 u11099 h11100 h11101 h11102 h11103 a11358 h11359 h11604 w11605 w11606 r11607 r11608 r11609 h11610 h11630 h11631 h11651 ⊢) <;> (try simp (disch := omega) only [zb] at u11064 xq2 h11065 xq12 h11078 xq14 a11098 u11099 h11100 h11101 h11102 h11103 a11358 h11359 h11604 w11605 w11606 r11607 r11608 r11609 h11610 h11630 h11631 h11651 ⊢) <;> first | omega | ((try simp (disch := omega) only [zb] at u11064 xq2 h11065 xq12 h11078 xq14 a11098 u11099 h11100 h11101 h11102 h11103 a11358 h11359 h11604 w11605 w11606 r11607 r11608 r11609 h11610 h11630 h11631 h11651 ⊢) <;> omega)) ) ?_
                          intro q30 hqq30
                          obtain ⟨cq30, gq30, xq30⟩ := hqq30
                          have fq30 := fr_trans fs11 gq30 rfl
                          unfold fX9_pair_264
                          refine sw_ite (fun h11696 => ?_) (fun h11696 => ?_)
                          · have w11697 := (gq30.2.2 _ _ t_p0 0 rfl).1
                            have w11698 : mm_I s11 p0 0 = mm_I q2.2 p0 0 := by rw [← es11]; exact rd_k t_p0 tq5 (by decide)
                            have w11700 := rdA_fr (k := 9) (j := 0) gq30 cs11 t_p0 (κ' := 59) rfl rfl rfl
                            have w11702 : rdA s11 p0 9 0 = mm_I s11 q17 ((0 : Int32)).toNatClampNeg := rdA_eq eq17
                            have w11701 : rdA s11 p0 9 0 = rdA q2.2 p0 9 0 := by rw [← es11]; exact rdA_k cq2 t_p0 (κ' := 59) rfl tq5 (by decide)
                            have w11703 := rdA_fr (k := 9) (j := 0) gq2 c0 t_p0 (κ' := 59) rfl rfl rfl
                            have w11705 := rdA_fr (k := 10) (j := 0) gq30 cs11 t_p0 (κ' := 60) rfl rfl rfl
                            have w11706 : rdA s11 p0 10 0 = rdA q2.2 p0 10 0 := by rw [← es11]; exact rdA_j (by decide)
                            have w11708 : rdA q2.2 p0 10 0 = mm_I q2.2 q5 ((0 : Int32)).toNatClampNeg := rdA_eq eq5
                            have w11707 := rdA_fr (k := 10) (j := 0) gq2 c0 t_p0 (κ' := 60) rfl rfl rfl
                            have w11710 := rdA_fr (k := 10) (j := 1) gq30 cs11 t_p0 (κ' := 60) rfl rfl rfl
                            have w11711 : rdA s11 p0 10 1 = -1 := by rw [← es11]; exact rdA_self eq5
                            have w11712 := rdA_fr (k := 9) (j := 1) gq30 cs11 t_p0 (κ' := 59) rfl rfl rfl
                            have w11714 : rdA s11 p0 9 1 = mm_I s11 q17 ((1 : Int32)).toNatClampNeg := rdA_eq eq17
                            have w11713 : rdA s11 p0 9 1 = rdA q2.2 p0 9 1 := by rw [← es11]; exact rdA_k cq2 t_p0 (κ' := 59) rfl tq5 (by decide)
                            have w11715 := rdA_fr (k := 9) (j := 1) gq2 c0 t_p0 (κ' := 59) rfl rfl rfl
                            have w11719 : rdA q2.2 p0 10 1 = mm_I q2.2 q5 ((1 : Int32)).toNatClampNeg := rdA_eq eq5
                            have w11718 := rdA_fr (k := 10) (j := 1) gq2 c0 t_p0 (κ' := 60) rfl rfl rfl
                            have a11720 := zi_and p2 8 (by decide)
                            exact sw_some ⟨cq30, fq30, (by (try simp only [zp, zo, zq] at u11064 xq2 h11065 xq12 h11078 xq14 a11098 u11099 h11100 h11101 h11102 h11103 a11358 h11359 h11604 w11605 w11606 r11607 r11608 r11609 h11610 h11630 h11631 h11651 h11696 w11697 w11698 w11700 w11702 w11701 w11703 w11705 w11706 w11708 w11707 w11710 w11711 w11712 w11714 w11713 w11715 w11719 w11718 a11720 ⊢) <;> (try simp only [zz, Int32.reduceToInt, ne_eq] at u11064 xq2 h11065 xq12 h11078 xq14 a11098 u11099 h11100 h11101 h11102 h11103 a11358 h11359 h11604 w11605 w11606 r11607 r11608 r11609 h11610 h11630 h11631 h11651 h11696 w11697 w11698 w11700 w11702 w11701 w11703 w11705 w11706 w11708 w11707 w11710 w11711 w11712 w11714 w11713 w11715 w11719 w11718 a11720 ⊢) <;> (try simp (disch := omega) only [zb] at u11064 xq2 h11065 xq12 h11078 xq14 a11098 u11099 h11100 h11101 h11102 h11103 a11358 h11359 h11604 w11605 w11606 r11607 r11608 r11609 h11610 h11630 h11631 h11651 h11696 w11697 w11698 w11700 w11702 w11701 w11703 w11705 w11706 w11708 w11707 w11710 w11711 w11712 w11714 w11713 w11715 w11719 w11718 a11720 ⊢) <;> first | omega | ((try simp (disch := omega) only [zb] at u11064 xq2 h11065 xq12 h11078 xq14 a11098 u11099 h11100 h11101 h11102 h11103 a11358 h11359 h11604 w11605 w11606 r11607 r11608 r11609 h11610 h11630 h11631 h11651 h11696 w11697 w11698 w11700 w11702 w11701 w11703 w11705 w11706 w11708 w11707 w11710 w11711 w11712 w11714 w11713 w11715 w11719 w11718 a11720 ⊢) <;> omega))⟩
                          · refine sw_sh (ci_sh cq30 t_p0 rfl) ?_
                            refine sw_on (sX9_put cq30 t_p0 (by (try simp only [zp, zo, zq] at u11064 xq2 h11065 xq12 h11078 xq14 a11098 u11099 h11100 h11101 h11102 h11103 a11358 h11359 h11604 w11605 w11606 r11607 r11608 r11609 h11610 h11630 h11631 h11651 h11696 ⊢) <;> (try simp only [zz, Int32.reduceToInt, ne_eq] at u11064 xq2 h11065 xq12 h11078 xq14 a11098 u11099 h11100 h11101 h11102 h11103 a11358 h11359 h11604 w11605 w11606 r11607 r11608 r11609 h11610 h11630 h11631 h11651 h11696 ⊢) <;> (try simp (disch := omega) only [zb] at u11064 xq2 h11065 xq12 h11078 xq14 a11098 u11099 h11100 h11101 h11102 h11103 a11358 h11359 h11604 w11605 w11606 r11607 r11608 r11609 h11610 h11630 h11631 h11651 h11696 ⊢) <;> first | omega | ((try simp (disch := omega) only [zb] at u11064 xq2 h11065 xq12 h11078 xq14 a11098 u11099 h11100 h11101 h11102 h11103 a11358 h11359 h11604 w11605 w11606 r11607 r11608 r11609 h11610 h11630 h11631 h11651 h11696 ⊢) <;> omega)) ) ?_
                            intro q28 hqq28
                            obtain ⟨cq28, gq28, xq28⟩ := hqq28
                            have fq28 := fr_trans fq30 gq28 rfl
                            have w11721 := (gq28.2.2 _ _ t_p0 0 rfl).1
                            have w11722 := (gq30.2.2 _ _ t_p0 0 rfl).1
                            have w11723 : mm_I s11 p0 0 = mm_I q2.2 p0 0 := by rw [← es11]; exact rd_k t_p0 tq5 (by decide)
                            have w11725 := rdA_fr (k := 9) (j := 0) gq28 cq30 t_p0 (κ' := 59) rfl rfl rfl
                            have w11726 := rdA_fr (k := 9) (j := 0) gq30 cs11 t_p0 (κ' := 59) rfl rfl rfl
                            have w11728 : rdA s11 p0 9 0 = mm_I s11 q17 ((0 : Int32)).toNatClampNeg := rdA_eq eq17
                            have w11727 : rdA s11 p0 9 0 = rdA q2.2 p0 9 0 := by rw [← es11]; exact rdA_k cq2 t_p0 (κ' := 59) rfl tq5 (by decide)
                            have w11729 := rdA_fr (k := 9) (j := 0) gq2 c0 t_p0 (κ' := 59) rfl rfl rfl
                            have w11731 := rdA_fr (k := 10) (j := 0) gq28 cq30 t_p0 (κ' := 60) rfl rfl rfl
                            have w11732 := rdA_fr (k := 10) (j := 0) gq30 cs11 t_p0 (κ' := 60) rfl rfl rfl
                            have w11733 : rdA s11 p0 10 0 = rdA q2.2 p0 10 0 := by rw [← es11]; exact rdA_j (by decide)
                            have w11735 : rdA q2.2 p0 10 0 = mm_I q2.2 q5 ((0 : Int32)).toNatClampNeg := rdA_eq eq5
                            have w11734 := rdA_fr (k := 10) (j := 0) gq2 c0 t_p0 (κ' := 60) rfl rfl rfl
                            have w11737 := rdA_fr (k := 10) (j := 1) gq28 cq30 t_p0 (κ' := 60) rfl rfl rfl
                            have w11738 := rdA_fr (k := 10) (j := 1) gq30 cs11 t_p0 (κ' := 60) rfl rfl rfl
                            have w11739 : rdA s11 p0 10 1 = -1 := by rw [← es11]; exact rdA_self eq5
                            have w11740 := rdA_fr (k := 9) (j := 1) gq28 cq30 t_p0 (κ' := 59) rfl rfl rfl
                            have w11741 := rdA_fr (k := 9) (j := 1) gq30 cs11 t_p0 (κ' := 59) rfl rfl rfl
                            have w11743 : rdA s11 p0 9 1 = mm_I s11 q17 ((1 : Int32)).toNatClampNeg := rdA_eq eq17
                            have w11742 : rdA s11 p0 9 1 = rdA q2.2 p0 9 1 := by rw [← es11]; exact rdA_k cq2 t_p0 (κ' := 59) rfl tq5 (by decide)
                            have w11744 := rdA_fr (k := 9) (j := 1) gq2 c0 t_p0 (κ' := 59) rfl rfl rfl
                            have w11748 : rdA q2.2 p0 10 1 = mm_I q2.2 q5 ((1 : Int32)).toNatClampNeg := rdA_eq eq5
                            have w11747 := rdA_fr (k := 10) (j := 1) gq2 c0 t_p0 (κ' := 60) rfl rfl rfl
                            have a11749 := zi_and p2 8 (by decide)
                            exact sw_some ⟨cq28, fq28, (by (try simp only [zp, zo, zq] at u11064 xq2 h11065 xq12 h11078 xq14 a11098 u11099 h11100 h11101 h11102 h11103 a11358 h11359 h11604 w11605 w11606 r11607 r11608 r11609 h11610 h11630 h11631 h11651 h11696 w11721 w11722 w11723 w11725 w11726 w11728 w11727 w11729 w11731 w11732 w11733 w11735 w11734 w11737 w11738 w11739 w11740 w11741 w11743 w11742 w11744 w11748 w11747 a11749 ⊢) <;> (try simp only [zz, Int32.reduceToInt, ne_eq] at u11064 xq2 h11065 xq12 h11078 xq14 a11098 u11099 h11100 h11101 h11102 h11103 a11358 h11359 h11604 w11605 w11606 r11607 r11608 r11609 h11610 h11630 h11631 h11651 h11696 w11721 w11722 w11723 w11725 w11726 w11728 w11727 w11729 w11731 w11732 w11733 w11735 w11734 w11737 w11738 w11739 w11740 w11741 w11743 w11742 w11744 w11748 w11747 a11749 ⊢) <;> (try simp (disch := omega) only [zb] at u11064 xq2 h11065 xq12 h11078 xq14 a11098 u11099 h11100 h11101 h11102 h11103 a11358 h11359 h11604 w11605 w11606 r11607 r11608 r11609 h11610 h11630 h11631 h11651 h11696 w11721 w11722 w11723 w11725 w11726 w11728 w11727 w11729 w11731 w11732 w11733 w11735 w11734 w11737 w11738 w11739 w11740 w11741 w11743 w11742 w11744 w11748 w11747 a11749 ⊢) <;> first | omega | ((try simp (disch := omega) only [zb] at u11064 xq2 h11065 xq12 h11078 xq14 a11098 u11099 h11100 h11101 h11102 h11103 a11358 h11359 h11604 w11605 w11606 r11607 r11608 r11609 h11610 h11630 h11631 h11651 h11696 w11721 w11722 w11723 w11725 w11726 w11728 w11727 w11729 w11731 w11732 w11733 w11735 w11734 w11737 w11738 w11739 w11740 w11741 w11743 w11742 w11744 w11748 w11747 a11749 ⊢) <;> omega))⟩
                    · unfold fX9_pair_250
                      refine sw_ite (fun h11750 => ?_) (fun h11750 => ?_)
                      · unfold fX9_pair_264
                        refine sw_ite (fun h11751 => ?_) (fun h11751 => ?_)
                        · have w11752 : mm_I s11 p0 0 = mm_I q2.2 p0 0 := by rw [← es11]; exact rd_k t_p0 tq5 (by decide)
                          have w11755 : rdA s11 p0 9 0 = mm_I s11 q17 ((0 : Int32)).toNatClampNeg := rdA_eq eq17
                          have w11754 : rdA s11 p0 9 0 = rdA q2.2 p0 9 0 := by rw [← es11]; exact rdA_k cq2 t_p0 (κ' := 59) rfl tq5 (by decide)
                          have w11756 := rdA_fr (k := 9) (j := 0) gq2 c0 t_p0 (κ' := 59) rfl rfl rfl
                          have w11758 : rdA s11 p0 10 0 = rdA q2.2 p0 10 0 := by rw [← es11]; exact rdA_j (by decide)
                          have w11760 : rdA q2.2 p0 10 0 = mm_I q2.2 q5 ((0 : Int32)).toNatClampNeg := rdA_eq eq5
                          have w11759 := rdA_fr (k := 10) (j := 0) gq2 c0 t_p0 (κ' := 60) rfl rfl rfl
                          have w11762 : rdA s11 p0 10 1 = -1 := by rw [← es11]; exact rdA_self eq5
                          have w11764 : rdA s11 p0 9 1 = mm_I s11 q17 ((1 : Int32)).toNatClampNeg := rdA_eq eq17
                          have w11763 : rdA s11 p0 9 1 = rdA q2.2 p0 9 1 := by rw [← es11]; exact rdA_k cq2 t_p0 (κ' := 59) rfl tq5 (by decide)
                          have w11765 := rdA_fr (k := 9) (j := 1) gq2 c0 t_p0 (κ' := 59) rfl rfl rfl
                          have w11769 : rdA q2.2 p0 10 1 = mm_I q2.2 q5 ((1 : Int32)).toNatClampNeg := rdA_eq eq5
                          have w11768 := rdA_fr (k := 10) (j := 1) gq2 c0 t_p0 (κ' := 60) rfl rfl rfl
                          have a11770 := zi_and p2 8 (by decide)
                          exact sw_some ⟨cs11, fs11, (by (try simp only [zp, zo, zq] at u11064 xq2 h11065 xq12 h11078 xq14 a11098 u11099 h11100 h11101 h11102 h11103 a11358 h11359 h11604 w11605 w11606 r11607 r11608 r11609 h11610 h11630 h11750 h11751 w11752 w11755 w11754 w11756 w11758 w11760 w11759 w11762 w11764 w11763 w11765 w11769 w11768 a11770 ⊢) <;> (try simp only [zz, Int32.reduceToInt, ne_eq] at u11064 xq2 h11065 xq12 h11078 xq14 a11098 u11099 h11100 h11101 h11102 h11103 a11358 h11359 h11604 w11605 w11606 r11607 r11608 r11609 h11610 h11630 h11750 h11751 w11752 w11755 w11754 w11756 w11758 w11760 w11759 w11762 w11764 w11763 w11765 w11769 w11768 a11770 ⊢) <;> (try simp (disch := omega) only [zb] at u11064 xq2 h11065 xq12 h11078 xq14 a11098 u11099 h11100 h11101 h11102 h11103 a11358 h11359 h11604 w11605 w11606 r11607 r11608 r11609 h11610 h11630 h11750 h11751 w11752 w11755 w11754 w11756 w11758 w11760 w11759 w11762 w11764 w11763 w11765 w11769 w11768 a11770 ⊢) <;> first | omega | ((try simp (disch := omega) only [zb] at u11064 xq2 h11065 xq12 h11078 xq14 a11098 u11099 h11100 h11101 h11102 h11103 a11358 h11359 h11604 w11605 w11606 r11607 r11608 r11609 h11610 h11630 h11750 h11751 w11752 w11755 w11754 w11756 w11758 w11760 w11759 w11762 w11764 w11763 w11765 w11769 w11768 a11770 ⊢) <;> omega))⟩
                        · refine sw_sh (ci_sh cs11 t_p0 rfl) ?_
                          refine sw_on (sX9_put cs11 t_p0 (by (try simp only [zp, zo, zq] at u11064 xq2 h11065 xq12 h11078 xq14 a11098 u11099 h11100 h11101 h11102 h11103 a11358 h11359 h11604 w11605 w11606 r11607 r11608 r11609 h11610 h11630 h11750 h11751 ⊢) <;> (try simp only [zz, Int32.reduceToInt, ne_eq] at u11064 xq2 h11065 xq12 h11078 xq14 a11098 u11099 h11100 h11101 h11102 h11103 a11358 h11359 h11604 w11605 w11606 r11607 r11608 r11609 h11610 h11630 h11750 h11751 ⊢) <;> (try simp (disch := omega) only [zb] at u11064 xq2 h11065 xq12 h11078 xq14 a11098 u11099 h11100 h11101 h11102 h11103 a11358 h11359 h11604 w11605 w11606 r11607 r11608 r11609 h11610 h11630 h11750 h11751 ⊢) <;> first | omega | ((try simp (disch := omega) only [zb] at u11064 xq2 h11065 xq12 h11078 xq14 a11098 u11099 h11100 h11101 h11102 h11103 a11358 h11359 h11604 w11605 w11606 r11607 r11608 r11609 h11610 h11630 h11750 h11751 ⊢) <;> omega)) ) ?_
                          intro q28 hqq28
                          obtain ⟨cq28, gq28, xq28⟩ := hqq28
                          have fq28 := fr_trans fs11 gq28 rfl
                          have w11771 := (gq28.2.2 _ _ t_p0 0 rfl).1
                          have w11772 : mm_I s11 p0 0 = mm_I q2.2 p0 0 := by rw [← es11]; exact rd_k t_p0 tq5 (by decide)
                          have w11774 := rdA_fr (k := 9) (j := 0) gq28 cs11 t_p0 (κ' := 59) rfl rfl rfl
                          have w11776 : rdA s11 p0 9 0 = mm_I s11 q17 ((0 : Int32)).toNatClampNeg := rdA_eq eq17
                          have w11775 : rdA s11 p0 9 0 = rdA q2.2 p0 9 0 := by rw [← es11]; exact rdA_k cq2 t_p0 (κ' := 59) rfl tq5 (by decide)
                          have w11777 := rdA_fr (k := 9) (j := 0) gq2 c0 t_p0 (κ' := 59) rfl rfl rfl
                          have w11779 := rdA_fr (k := 10) (j := 0) gq28 cs11 t_p0 (κ' := 60) rfl rfl rfl
                          have w11780 : rdA s11 p0 10 0 = rdA q2.2 p0 10 0 := by rw [← es11]; exact rdA_j (by decide)
                          have w11782 : rdA q2.2 p0 10 0 = mm_I q2.2 q5 ((0 : Int32)).toNatClampNeg := rdA_eq eq5
                          have w11781 := rdA_fr (k := 10) (j := 0) gq2 c0 t_p0 (κ' := 60) rfl rfl rfl
                          have w11784 := rdA_fr (k := 10) (j := 1) gq28 cs11 t_p0 (κ' := 60) rfl rfl rfl
                          have w11785 : rdA s11 p0 10 1 = -1 := by rw [← es11]; exact rdA_self eq5
                          have w11786 := rdA_fr (k := 9) (j := 1) gq28 cs11 t_p0 (κ' := 59) rfl rfl rfl
                          have w11788 : rdA s11 p0 9 1 = mm_I s11 q17 ((1 : Int32)).toNatClampNeg := rdA_eq eq17
                          have w11787 : rdA s11 p0 9 1 = rdA q2.2 p0 9 1 := by rw [← es11]; exact rdA_k cq2 t_p0 (κ' := 59) rfl tq5 (by decide)
                          have w11789 := rdA_fr (k := 9) (j := 1) gq2 c0 t_p0 (κ' := 59) rfl rfl rfl
                          have w11793 : rdA q2.2 p0 10 1 = mm_I q2.2 q5 ((1 : Int32)).toNatClampNeg := rdA_eq eq5
                          have w11792 := rdA_fr (k := 10) (j := 1) gq2 c0 t_p0 (κ' := 60) rfl rfl rfl
                          have a11794 := zi_and p2 8 (by decide)
                          exact sw_some ⟨cq28, fq28, (by (try simp only [zp, zo, zq] at u11064 xq2 h11065 xq12 h11078 xq14 a11098 u11099 h11100 h11101 h11102 h11103 a11358 h11359 h11604 w11605 w11606 r11607 r11608 r11609 h11610 h11630 h11750 h11751 w11771 w11772 w11774 w11776 w11775 w11777 w11779 w11780 w11782 w11781 w11784 w11785 w11786 w11788 w11787 w11789 w11793 w11792 a11794 ⊢) <;> (try simp only [zz, Int32.reduceToInt, ne_eq] at u11064 xq2 h11065 xq12 h11078 xq14 a11098 u11099 h11100 h11101 h11102 h11103 a11358 h11359 h11604 w11605 w11606 r11607 r11608 r11609 h11610 h11630 h11750 h11751 w11771 w11772 w11774 w11776 w11775 w11777 w11779 w11780 w11782 w11781 w11784 w11785 w11786 w11788 w11787 w11789 w11793 w11792 a11794 ⊢) <;> (try simp (disch := omega) only [zb] at u11064 xq2 h11065 xq12 h11078 xq14 a11098 u11099 h11100 h11101 h11102 h11103 a11358 h11359 h11604 w11605 w11606 r11607 r11608 r11609 h11610 h11630 h11750 h11751 w11771 w11772 w11774 w11776 w11775 w11777 w11779 w11780 w11782 w11781 w11784 w11785 w11786 w11788 w11787 w11789 w11793 w11792 a11794 ⊢) <;> first | omega | ((try simp (disch := omega) only [zb] at u11064 xq2 h11065 xq12 h11078 xq14 a11098 u11099 h11100 h11101 h11102 h11103 a11358 h11359 h11604 w11605 w11606 r11607 r11608 r11609 h11610 h11630 h11750 h11751 w11771 w11772 w11774 w11776 w11775 w11777 w11779 w11780 w11782 w11781 w11784 w11785 w11786 w11788 w11787 w11789 w11793 w11792 a11794 ⊢) <;> omega))⟩
                      · refine sw_sh (ci_sh cs11 t_p0 rfl) ?_
                        refine sw_on (sX9_put cs11 t_p0 (by (try simp only [zp, zo, zq] at u11064 xq2 h11065 xq12 h11078 xq14 a11098 u11099 h11100 h11101 h11102 h11103 a11358 h11359 h11604 w11605 w11606 r11607 r11608 r11609 h11610 h11630 h11750 ⊢) <;> (try simp only [zz, Int32.reduceToInt, ne_eq] at u11064 xq2 h11065 xq12 h11078 xq14 a11098 u11099 h11100 h11101 h11102 h11103 a11358 h11359 h11604 w11605 w11606 r11607 r11608 r11609 h11610 h11630 h11750 ⊢) <;> (try simp (disch := omega) only [zb] at u11064 xq2 h11065 xq12 h11078 xq14 a11098 u11099 h11100 h11101 h11102 h11103 a11358 h11359 h11604 w11605 w11606 r11607 r11608 r11609 h11610 h11630 h11750 ⊢) <;> first | omega | ((try simp (disch := omega) only [zb] at u11064 xq2 h11065 xq12 h11078 xq14 a11098 u11099 h11100 h11101 h11102 h11103 a11358 h11359 h11604 w11605 w11606 r11607 r11608 r11609 h11610 h11630 h11750 ⊢) <;> omega)) ) ?_
                        intro q30 hqq30
                        obtain ⟨cq30, gq30, xq30⟩ := hqq30
                        have fq30 := fr_trans fs11 gq30 rfl
                        unfold fX9_pair_264
                        refine sw_ite (fun h11795 => ?_) (fun h11795 => ?_)
                        · have w11796 := (gq30.2.2 _ _ t_p0 0 rfl).1
                          have w11797 : mm_I s11 p0 0 = mm_I q2.2 p0 0 := by rw [← es11]; exact rd_k t_p0 tq5 (by decide)
                          have w11799 := rdA_fr (k := 9) (j := 0) gq30 cs11 t_p0 (κ' := 59) rfl rfl rfl
                          have w11801 : rdA s11 p0 9 0 = mm_I s11 q17 ((0 : Int32)).toNatClampNeg := rdA_eq eq17
                          have w11800 : rdA s11 p0 9 0 = rdA q2.2 p0 9 0 := by rw [← es11]; exact rdA_k cq2 t_p0 (κ' := 59) rfl tq5 (by decide)
                          have w11802 := rdA_fr (k := 9) (j := 0) gq2 c0 t_p0 (κ' := 59) rfl rfl rfl
                          have w11804 := rdA_fr (k := 10) (j := 0) gq30 cs11 t_p0 (κ' := 60) rfl rfl rfl
                          have w11805 : rdA s11 p0 10 0 = rdA q2.2 p0 10 0 := by rw [← es11]; exact rdA_j (by decide)
                          have w11807 : rdA q2.2 p0 10 0 = mm_I q2.2 q5 ((0 : Int32)).toNatClampNeg := rdA_eq eq5
                          have w11806 := rdA_fr (k := 10) (j := 0) gq2 c0 t_p0 (κ' := 60) rfl rfl rfl
                          have w11809 := rdA_fr (k := 10) (j := 1) gq30 cs11 t_p0 (κ' := 60) rfl rfl rfl
                          have w11810 : rdA s11 p0 10 1 = -1 := by rw [← es11]; exact rdA_self eq5
                          have w11811 := rdA_fr (k := 9) (j := 1) gq30 cs11 t_p0 (κ' := 59) rfl rfl rfl
                          have w11813 : rdA s11 p0 9 1 = mm_I s11 q17 ((1 : Int32)).toNatClampNeg := rdA_eq eq17
                          have w11812 : rdA s11 p0 9 1 = rdA q2.2 p0 9 1 := by rw [← es11]; exact rdA_k cq2 t_p0 (κ' := 59) rfl tq5 (by decide)
                          have w11814 := rdA_fr (k := 9) (j := 1) gq2 c0 t_p0 (κ' := 59) rfl rfl rfl
                          have w11818 : rdA q2.2 p0 10 1 = mm_I q2.2 q5 ((1 : Int32)).toNatClampNeg := rdA_eq eq5
                          have w11817 := rdA_fr (k := 10) (j := 1) gq2 c0 t_p0 (κ' := 60) rfl rfl rfl
                          have a11819 := zi_and p2 8 (by decide)
                          exact sw_some ⟨cq30, fq30, (by (try simp only [zp, zo, zq] at u11064 xq2 h11065 xq12 h11078 xq14 a11098 u11099 h11100 h11101 h11102 h11103 a11358 h11359 h11604 w11605 w11606 r11607 r11608 r11609 h11610 h11630 h11750 h11795 w11796 w11797 w11799 w11801 w11800 w11802 w11804 w11805 w11807 w11806 w11809 w11810 w11811 w11813 w11812 w11814 w11818 w11817 a11819 ⊢) <;> (try simp only [zz, Int32.reduceToInt, ne_eq] at u11064 xq2 h11065 xq12 h11078 xq14 a11098 u11099 h11100 h11101 h11102 h11103 a11358 h11359 h11604 w11605 w11606 r11607 r11608 r11609 h11610 h11630 h11750 h11795 w11796 w11797 w11799 w11801 w11800 w11802 w11804 w11805 w11807 w11806 w11809 w11810 w11811 w11813 w11812 w11814 w11818 w11817 a11819 ⊢) <;> (try simp (disch := omega) only [zb] at u11064 xq2 h11065 xq12 h11078 xq14 a11098 u11099 h11100 h11101 h11102 h11103 a11358 h11359 h11604 w11605 w11606 r11607 r11608 r11609 h11610 h11630 h11750 h11795 w11796 w11797 w11799 w11801 w11800 w11802 w11804 w11805 w11807 w11806 w11809 w11810 w11811 w11813 w11812 w11814 w11818 w11817 a11819 ⊢) <;> first | omega | ((try simp (disch := omega) only [zb] at u11064 xq2 h11065 xq12 h11078 xq14 a11098 u11099 h11100 h11101 h11102 h11103 a11358 h11359 h11604 w11605 w11606 r11607 r11608 r11609 h11610 h11630 h11750 h11795 w11796 w11797 w11799 w11801 w11800 w11802 w11804 w11805 w11807 w11806 w11809 w11810 w11811 w11813 w11812 w11814 w11818 w11817 a11819 ⊢) <;> omega))⟩
                        · refine sw_sh (ci_sh cq30 t_p0 rfl) ?_
                          refine sw_on (sX9_put cq30 t_p0 (by (try simp only [zp, zo, zq] at u11064 xq2 h11065 xq12 h11078 xq14 a11098 u11099 h11100 h11101 h11102 h11103 a11358 h11359 h11604 w11605 w11606 r11607 r11608 r11609 h11610 h11630 h11750 h11795 ⊢) <;> (try simp only [zz, Int32.reduceToInt, ne_eq] at u11064 xq2 h11065 xq12 h11078 xq14 a11098 u11099 h11100 h11101 h11102 h11103 a11358 h11359 h11604 w11605 w11606 r11607 r11608 r11609 h11610 h11630 h11750 h11795 ⊢) <;> (try simp (disch := omega) only [zb] at u11064 xq2 h11065 xq12 h11078 xq14 a11098 u11099 h11100 h11101 h11102 h11103 a11358 h11359 h11604 w11605 w11606 r11607 r11608 r11609 h11610 h11630 h11750 h11795 ⊢) <;> first | omega | ((try simp (disch := omega) only [zb] at u11064 xq2 h11065 xq12 h11078 xq14 a11098 u11099 h11100 h11101 h11102 h11103 a11358 h11359 h11604 w11605 w11606 r11607 r11608 r11609 h11610 h11630 h11750 h11795 ⊢) <;> omega)) ) ?_
                          intro q28 hqq28
                          obtain ⟨cq28, gq28, xq28⟩ := hqq28
                          have fq28 := fr_trans fq30 gq28 rfl
                          have w11820 := (gq28.2.2 _ _ t_p0 0 rfl).1
                          have w11821 := (gq30.2.2 _ _ t_p0 0 rfl).1
                          have w11822 : mm_I s11 p0 0 = mm_I q2.2 p0 0 := by rw [← es11]; exact rd_k t_p0 tq5 (by decide)
                          have w11824 := rdA_fr (k := 9) (j := 0) gq28 cq30 t_p0 (κ' := 59) rfl rfl rfl
                          have w11825 := rdA_fr (k := 9) (j := 0) gq30 cs11 t_p0 (κ' := 59) rfl rfl rfl
                          have w11827 : rdA s11 p0 9 0 = mm_I s11 q17 ((0 : Int32)).toNatClampNeg := rdA_eq eq17
                          have w11826 : rdA s11 p0 9 0 = rdA q2.2 p0 9 0 := by rw [← es11]; exact rdA_k cq2 t_p0 (κ' := 59) rfl tq5 (by decide)
                          have w11828 := rdA_fr (k := 9) (j := 0) gq2 c0 t_p0 (κ' := 59) rfl rfl rfl
                          have w11830 := rdA_fr (k := 10) (j := 0) gq28 cq30 t_p0 (κ' := 60) rfl rfl rfl
                          have w11831 := rdA_fr (k := 10) (j := 0) gq30 cs11 t_p0 (κ' := 60) rfl rfl rfl
                          have w11832 : rdA s11 p0 10 0 = rdA q2.2 p0 10 0 := by rw [← es11]; exact rdA_j (by decide)
                          have w11834 : rdA q2.2 p0 10 0 = mm_I q2.2 q5 ((0 : Int32)).toNatClampNeg := rdA_eq eq5
                          have w11833 := rdA_fr (k := 10) (j := 0) gq2 c0 t_p0 (κ' := 60) rfl rfl rfl
                          have w11836 := rdA_fr (k := 10) (j := 1) gq28 cq30 t_p0 (κ' := 60) rfl rfl rfl
                          have w11837 := rdA_fr (k := 10) (j := 1) gq30 cs11 t_p0 (κ' := 60) rfl rfl rfl
                          have w11838 : rdA s11 p0 10 1 = -1 := by rw [← es11]; exact rdA_self eq5
                          have w11839 := rdA_fr (k := 9) (j := 1) gq28 cq30 t_p0 (κ' := 59) rfl rfl rfl
                          have w11840 := rdA_fr (k := 9) (j := 1) gq30 cs11 t_p0 (κ' := 59) rfl rfl rfl
                          have w11842 : rdA s11 p0 9 1 = mm_I s11 q17 ((1 : Int32)).toNatClampNeg := rdA_eq eq17
                          have w11841 : rdA s11 p0 9 1 = rdA q2.2 p0 9 1 := by rw [← es11]; exact rdA_k cq2 t_p0 (κ' := 59) rfl tq5 (by decide)
                          have w11843 := rdA_fr (k := 9) (j := 1) gq2 c0 t_p0 (κ' := 59) rfl rfl rfl
                          have w11847 : rdA q2.2 p0 10 1 = mm_I q2.2 q5 ((1 : Int32)).toNatClampNeg := rdA_eq eq5
                          have w11846 := rdA_fr (k := 10) (j := 1) gq2 c0 t_p0 (κ' := 60) rfl rfl rfl
                          have a11848 := zi_and p2 8 (by decide)
                          exact sw_some ⟨cq28, fq28, (by (try simp only [zp, zo, zq] at u11064 xq2 h11065 xq12 h11078 xq14 a11098 u11099 h11100 h11101 h11102 h11103 a11358 h11359 h11604 w11605 w11606 r11607 r11608 r11609 h11610 h11630 h11750 h11795 w11820 w11821 w11822 w11824 w11825 w11827 w11826 w11828 w11830 w11831 w11832 w11834 w11833 w11836 w11837 w11838 w11839 w11840 w11842 w11841 w11843 w11847 w11846 a11848 ⊢) <;> (try simp only [zz, Int32.reduceToInt, ne_eq] at u11064 xq2 h11065 xq12 h11078 xq14 a11098 u11099 h11100 h11101 h11102 h11103 a11358 h11359 h11604 w11605 w11606 r11607 r11608 r11609 h11610 h11630 h11750 h11795 w11820 w11821 w11822 w11824 w11825 w11827 w11826 w11828 w11830 w11831 w11832 w11834 w11833 w11836 w11837 w11838 w11839 w11840 w11842 w11841 w11843 w11847 w11846 a11848 ⊢) <;> (try simp (disch := omega) only [zb] at u11064 xq2 h11065 xq12 h11078 xq14 a11098 u11099 h11100 h11101 h11102 h11103 a11358 h11359 h11604 w11605 w11606 r11607 r11608 r11609 h11610 h11630 h11750 h11795 w11820 w11821 w11822 w11824 w11825 w11827 w11826 w11828 w11830 w11831 w11832 w11834 w11833 w11836 w11837 w11838 w11839 w11840 w11842 w11841 w11843 w11847 w11846 a11848 ⊢) <;> first | omega | ((try simp (disch := omega) only [zb] at u11064 xq2 h11065 xq12 h11078 xq14 a11098 u11099 h11100 h11101 h11102 h11103 a11358 h11359 h11604 w11605 w11606 r11607 r11608 r11609 h11610 h11630 h11750 h11795 w11820 w11821 w11822 w11824 w11825 w11827 w11826 w11828 w11830 w11831 w11832 w11834 w11833 w11836 w11837 w11838 w11839 w11840 w11842 w11841 w11843 w11847 w11846 a11848 ⊢) <;> omega))⟩
                · refine sw_ite (fun h11849 => ?_) (fun h11849 => ?_)
                  · unfold fX9_pair_222
                    unfold fX9_pair_228
                    have w11850 : mm_I s11 q17 ((1 : Int32).toNatClampNeg) = mm_I q2.2 q17 ((1 : Int32).toNatClampNeg) := by rw [← es11]; exact rd_k tq17 tq5 (by decide)
                    have w11851 := (gq2.2.2 _ _ tq17 ((1 : Int32).toNatClampNeg) rfl).1
                    have r11852 := ci_rg c0 tq17 ((1 : Int32).toNatClampNeg) (lo := (-1)) (hi := 3) rfl
                    have r11853 := ci_rg cq2 tq17 ((1 : Int32).toNatClampNeg) (lo := (-1)) (hi := 3) rfl
                    have r11854 := ci_rg cs11 tq17 ((1 : Int32).toNatClampNeg) (lo := (-1)) (hi := 3) rfl
                    refine sw_ite (fun h11855 => ?_) (fun h11855 => ?_)
                    · have w11856 : mm_I s11 p0 0 = mm_I q2.2 p0 0 := by rw [← es11]; exact rd_k t_p0 tq5 (by decide)
                      have w11859 : rdA s11 p0 9 0 = mm_I s11 q17 ((0 : Int32)).toNatClampNeg := rdA_eq eq17
                      have w11858 : rdA s11 p0 9 0 = rdA q2.2 p0 9 0 := by rw [← es11]; exact rdA_k cq2 t_p0 (κ' := 59) rfl tq5 (by decide)
                      have w11860 := rdA_fr (k := 9) (j := 0) gq2 c0 t_p0 (κ' := 59) rfl rfl rfl
                      have w11862 : rdA s11 p0 10 0 = rdA q2.2 p0 10 0 := by rw [← es11]; exact rdA_j (by decide)
                      have w11864 : rdA q2.2 p0 10 0 = mm_I q2.2 q5 ((0 : Int32)).toNatClampNeg := rdA_eq eq5
                      have w11863 := rdA_fr (k := 10) (j := 0) gq2 c0 t_p0 (κ' := 60) rfl rfl rfl
                      have w11866 : rdA s11 p0 10 1 = -1 := by rw [← es11]; exact rdA_self eq5
                      have w11868 : rdA s11 p0 9 1 = mm_I s11 q17 ((1 : Int32)).toNatClampNeg := rdA_eq eq17
                      have w11867 : rdA s11 p0 9 1 = rdA q2.2 p0 9 1 := by rw [← es11]; exact rdA_k cq2 t_p0 (κ' := 59) rfl tq5 (by decide)
                      have w11869 := rdA_fr (k := 9) (j := 1) gq2 c0 t_p0 (κ' := 59) rfl rfl rfl
                      have w11873 : rdA q2.2 p0 10 1 = mm_I q2.2 q5 ((1 : Int32)).toNatClampNeg := rdA_eq eq5
                      have w11872 := rdA_fr (k := 10) (j := 1) gq2 c0 t_p0 (κ' := 60) rfl rfl rfl
                      have a11874 := zi_and p2 8 (by decide)
                      exact sw_some ⟨cs11, fs11, (by (try simp only [zp, zo, zq] at u11064 xq2 h11065 xq12 h11078 xq14 a11098 u11099 h11100 h11101 h11102 h11103 a11358 h11359 h11604 h11849 w11850 w11851 r11852 r11853 r11854 h11855 w11856 w11859 w11858 w11860 w11862 w11864 w11863 w11866 w11868 w11867 w11869 w11873 w11872 a11874 ⊢) <;> (try simp only [zz, Int32.reduceToInt, ne_eq] at u11064 xq2 h11065 xq12 h11078 xq14 a11098 u11099 h11100 h11101 h11102 h11103 a11358 h11359 h11604 h11849 w11850 w11851 r11852 r11853 r11854 h11855 w11856 w11859 w11858 w11860 w11862 w11864 w11863 w11866 w11868 w11867 w11869 w11873 w11872 a11874 ⊢) <;> (try simp (disch := omega) only [zb] at u11064 xq2 h11065 xq12 h11078 xq14 a11098 u11099 h11100 h11101 h11102 h11103 a11358 h11359 h11604 h11849 w11850 w11851 r11852 r11853 r11854 h11855 w11856 w11859 w11858 w11860 w11862 w11864 w11863 w11866 w11868 w11867 w11869 w11873 w11872 a11874 ⊢) <;> first | omega | ((try simp (disch := omega) only [zb] at u11064 xq2 h11065 xq12 h11078 xq14 a11098 u11099 h11100 h11101 h11102 h11103 a11358 h11359 h11604 h11849 w11850 w11851 r11852 r11853 r11854 h11855 w11856 w11859 w11858 w11860 w11862 w11864 w11863 w11866 w11868 w11867 w11869 w11873 w11872 a11874 ⊢) <;> omega))⟩
                    · refine sw_ite (fun h11875 => ?_) (fun h11875 => ?_)
                      · refine sw_ite (fun h11876 => ?_) (fun h11876 => ?_)
                        · have w11877 : mm_I s11 p0 0 = mm_I q2.2 p0 0 := by rw [← es11]; exact rd_k t_p0 tq5 (by decide)
                          have w11880 : rdA s11 p0 9 0 = mm_I s11 q17 ((0 : Int32)).toNatClampNeg := rdA_eq eq17
                          have w11879 : rdA s11 p0 9 0 = rdA q2.2 p0 9 0 := by rw [← es11]; exact rdA_k cq2 t_p0 (κ' := 59) rfl tq5 (by decide)
                          have w11881 := rdA_fr (k := 9) (j := 0) gq2 c0 t_p0 (κ' := 59) rfl rfl rfl
                          have w11883 : rdA s11 p0 10 0 = rdA q2.2 p0 10 0 := by rw [← es11]; exact rdA_j (by decide)
                          have w11885 : rdA q2.2 p0 10 0 = mm_I q2.2 q5 ((0 : Int32)).toNatClampNeg := rdA_eq eq5
                          have w11884 := rdA_fr (k := 10) (j := 0) gq2 c0 t_p0 (κ' := 60) rfl rfl rfl
                          have w11887 : rdA s11 p0 10 1 = -1 := by rw [← es11]; exact rdA_self eq5
                          have w11889 : rdA s11 p0 9 1 = mm_I s11 q17 ((1 : Int32)).toNatClampNeg := rdA_eq eq17
                          have w11888 : rdA s11 p0 9 1 = rdA q2.2 p0 9 1 := by rw [← es11]; exact rdA_k cq2 t_p0 (κ' := 59) rfl tq5 (by decide)
                          have w11890 := rdA_fr (k := 9) (j := 1) gq2 c0 t_p0 (κ' := 59) rfl rfl rfl
                          have w11894 : rdA q2.2 p0 10 1 = mm_I q2.2 q5 ((1 : Int32)).toNatClampNeg := rdA_eq eq5
                          have w11893 := rdA_fr (k := 10) (j := 1) gq2 c0 t_p0 (κ' := 60) rfl rfl rfl
                          have a11895 := zi_and p2 8 (by decide)
                          exact sw_some ⟨cs11, fs11, (by (try simp only [zp, zo, zq] at u11064 xq2 h11065 xq12 h11078 xq14 a11098 u11099 h11100 h11101 h11102 h11103 a11358 h11359 h11604 h11849 w11850 w11851 r11852 r11853 r11854 h11855 h11875 h11876 w11877 w11880 w11879 w11881 w11883 w11885 w11884 w11887 w11889 w11888 w11890 w11894 w11893 a11895 ⊢) <;> (try simp only [zz, Int32.reduceToInt, ne_eq] at u11064 xq2 h11065 xq12 h11078 xq14 a11098 u11099 h11100 h11101 h11102 h11103 a11358 h11359 h11604 h11849 w11850 w11851 r11852 r11853 r11854 h11855 h11875 h11876 w11877 w11880 w11879 w11881 w11883 w11885 w11884 w11887 w11889 w11888 w11890 w11894 w11893 a11895 ⊢) <;> (try simp (disch := omega) only [zb] at u11064 xq2 h11065 xq12 h11078 xq14 a11098 u11099 h11100 h11101 h11102 h11103 a11358 h11359 h11604 h11849 w11850 w11851 r11852 r11853 r11854 h11855 h11875 h11876 w11877 w11880 w11879 w11881 w11883 w11885 w11884 w11887 w11889 w11888 w11890 w11894 w11893 a11895 ⊢) <;> first | omega | ((try simp (disch := omega) only [zb] at u11064 xq2 h11065 xq12 h11078 xq14 a11098 u11099 h11100 h11101 h11102 h11103 a11358 h11359 h11604 h11849 w11850 w11851 r11852 r11853 r11854 h11855 h11875 h11876 w11877 w11880 w11879 w11881 w11883 w11885 w11884 w11887 w11889 w11888 w11890 w11894 w11893 a11895 ⊢) <;> omega))⟩
                        · unfold fX9_pair_250
                          refine sw_ite (fun h11896 => ?_) (fun h11896 => ?_)
                          · unfold fX9_pair_264
                            refine sw_ite (fun h11897 => ?_) (fun h11897 => ?_)
                            · have w11898 : mm_I s11 p0 0 = mm_I q2.2 p0 0 := by rw [← es11]; exact rd_k t_p0 tq5 (by decide)
                              have w11901 : rdA s11 p0 9 0 = mm_I s11 q17 ((0 : Int32)).toNatClampNeg := rdA_eq eq17
                              have w11900 : rdA s11 p0 9 0 = rdA q2.2 p0 9 0 := by rw [← es11]; exact rdA_k cq2 t_p0 (κ' := 59) rfl tq5 (by decide)
                              have w11902 := rdA_fr (k := 9) (j := 0) gq2 c0 t_p0 (κ' := 59) rfl rfl rfl
                              have w11904 : rdA s11 p0 10 0 = rdA q2.2 p0 10 0 := by rw [← es11]; exact rdA_j (by decide)
                              have w11906 : rdA q2.2 p0 10 0 = mm_I q2.2 q5 ((0 : Int32)).toNatClampNeg := rdA_eq eq5
                              have w11905 := rdA_fr (k := 10) (j := 0) gq2 c0 t_p0 (κ' := 60) rfl rfl rfl
                              have w11908 : rdA s11 p0 10 1 = -1 := by rw [← es11]; exact rdA_self eq5
                              have w11910 : rdA s11 p0 9 1 = mm_I s11 q17 ((1 : Int32)).toNatClampNeg := rdA_eq eq17
                              have w11909 : rdA s11 p0 9 1 = rdA q2.2 p0 9 1 := by rw [← es11]; exact rdA_k cq2 t_p0 (κ' := 59) rfl tq5 (by decide)
                              have w11911 := rdA_fr (k := 9) (j := 1) gq2 c0 t_p0 (κ' := 59) rfl rfl rfl
                              have w11915 : rdA q2.2 p0 10 1 = mm_I q2.2 q5 ((1 : Int32)).toNatClampNeg := rdA_eq eq5
                              have w11914 := rdA_fr (k := 10) (j := 1) gq2 c0 t_p0 (κ' := 60) rfl rfl rfl
                              have a11916 := zi_and p2 8 (by decide)
                              exact sw_some ⟨cs11, fs11, (by (try simp only [zp, zo, zq] at u11064 xq2 h11065 xq12 h11078 xq14 a11098 u11099 h11100 h11101 h11102 h11103 a11358 h11359 h11604 h11849 w11850 w11851 r11852 r11853 r11854 h11855 h11875 h11876 h11896 h11897 w11898 w11901 w11900 w11902 w11904 w11906 w11905 w11908 w11910 w11909 w11911 w11915 w11914 a11916 ⊢) <;> (try simp only [zz, Int32.reduceToInt, ne_eq] at u11064 xq2 h11065 xq12 h11078 xq14 a11098 u11099 h11100 h11101 h11102 h11103 a11358 h11359 h11604 h11849 w11850 w11851 r11852 r11853 r11854 h11855 h11875 h11876 h11896 h11897 w11898 w11901 w11900 w11902 w11904 w11906 w11905 w11908 w11910 w11909 w11911 w11915 w11914 a11916 ⊢) <;> (try simp (disch := omega) only [zb] at u11064 xq2 h11065 xq12 h11078 xq14 a11098 u11099 h11100 h11101 h11102 h11103 a11358 h11359 h11604 h11849 w11850 w11851 r11852 r11853 r11854 h11855 h11875 h11876 h11896 h11897 w11898 w11901 w11900 w11902 w11904 w11906 w11905 w11908 w11910 w11909 w11911 w11915 w11914 a11916 ⊢) <;> first | omega | ((try simp (disch := omega) only [zb] at u11064 xq2 h11065 xq12 h11078 xq14 a11098 u11099 h11100 h11101 h11102 h11103 a11358 h11359 h11604 h11849 w11850 w11851 r11852 r11853 r11854 h11855 h11875 h11876 h11896 h11897 w11898 w11901 w11900 w11902 w11904 w11906 w11905 w11908 w11910 w11909 w11911 w11915 w11914 a11916 ⊢) <;> omega))⟩
                            · refine sw_sh (ci_sh cs11 t_p0 rfl) ?_
                              refine sw_on (sX9_put cs11 t_p0 (by (try simp only [zp, zo, zq] at u11064 xq2 h11065 xq12 h11078 xq14 a11098 u11099 h11100 h11101 h11102 h11103 a11358 h11359 h11604 h11849 w11850 w11851 r11852 r11853 r11854 h11855 h11875 h11876 h11896 h11897 ⊢) <;> (try simp only [zz, Int32.reduceToInt, ne_eq] at u11064 xq2 h11065 xq12 h11078 xq14 a11098 u11099 h11100 h11101 h11102 h11103 a11358 h11359 h11604 h11849 w11850 w11851 r11852 r11853 r11854 h11855 h11875 h11876 h11896 h11897 ⊢) <;> (try simp (disch := omega) only [zb] at u11064 xq2 h11065 xq12 h11078 xq14 a11098 u11099 h11100 h11101 h11102 h11103 a11358 h11359 h11604 h11849 w11850 w11851 r11852 r11853 r11854 h11855 h11875 h11876 h11896 h11897 ⊢) <;> first | omega | ((try simp (disch := omega) only [zb] at u11064 xq2 h11065 xq12 h11078 xq14 a11098 u11099 h11100 h11101 h11102 h11103 a11358 h11359 h11604 h11849 w11850 w11851 r11852 r11853 r11854 h11855 h11875 h11876 h11896 h11897 ⊢) <;> omega)) ) ?_
                              intro q28 hqq28
                              obtain ⟨cq28, gq28, xq28⟩ := hqq28
                              have fq28 := fr_trans fs11 gq28 rfl
                              have w11917 := (gq28.2.2 _ _ t_p0 0 rfl).1
                              have w11918 : mm_I s11 p0 0 = mm_I q2.2 p0 0 := by rw [← es11]; exact rd_k t_p0 tq5 (by decide)
                              have w11920 := rdA_fr (k := 9) (j := 0) gq28 cs11 t_p0 (κ' := 59) rfl rfl rfl
                              have w11922 : rdA s11 p0 9 0 = mm_I s11 q17 ((0 : Int32)).toNatClampNeg := rdA_eq eq17
                              have w11921 : rdA s11 p0 9 0 = rdA q2.2 p0 9 0 := by rw [← es11]; exact rdA_k cq2 t_p0 (κ' := 59) rfl tq5 (by decide)
                              have w11923 := rdA_fr (k := 9) (j := 0) gq2 c0 t_p0 (κ' := 59) rfl rfl rfl
                              have w11925 := rdA_fr (k := 10) (j := 0) gq28 cs11 t_p0 (κ' := 60) rfl rfl rfl
                              have w11926 : rdA s11 p0 10 0 = rdA q2.2 p0 10 0 := by rw [← es11]; exact rdA_j (by decide)
                              have w11928 : rdA q2.2 p0 10 0 = mm_I q2.2 q5 ((0 : Int32)).toNatClampNeg := rdA_eq eq5
                              have w11927 := rdA_fr (k := 10) (j := 0) gq2 c0 t_p0 (κ' := 60) rfl rfl rfl
                              have w11930 := rdA_fr (k := 10) (j := 1) gq28 cs11 t_p0 (κ' := 60) rfl rfl rfl
                              have w11931 : rdA s11 p0 10 1 = -1 := by rw [← es11]; exact rdA_self eq5
                              have w11932 := rdA_fr (k := 9) (j := 1) gq28 cs11 t_p0 (κ' := 59) rfl rfl rfl
                              have w11934 : rdA s11 p0 9 1 = mm_I s11 q17 ((1 : Int32)).toNatClampNeg := rdA_eq eq17
                              have w11933 : rdA s11 p0 9 1 = rdA q2.2 p0 9 1 := by rw [← es11]; exact rdA_k cq2 t_p0 (κ' := 59) rfl tq5 (by decide)
                              have w11935 := rdA_fr (k := 9) (j := 1) gq2 c0 t_p0 (κ' := 59) rfl rfl rfl
                              have w11939 : rdA q2.2 p0 10 1 = mm_I q2.2 q5 ((1 : Int32)).toNatClampNeg := rdA_eq eq5
                              have w11938 := rdA_fr (k := 10) (j := 1) gq2 c0 t_p0 (κ' := 60) rfl rfl rfl
                              have a11940 := zi_and p2 8 (by decide)
                              exact sw_some ⟨cq28, fq28, (by (try simp only [zp, zo, zq] at u11064 xq2 h11065 xq12 h11078 xq14 a11098 u11099 h11100 h11101 h11102 h11103 a11358 h11359 h11604 h11849 w11850 w11851 r11852 r11853 r11854 h11855 h11875 h11876 h11896 h11897 w11917 w11918 w11920 w11922 w11921 w11923 w11925 w11926 w11928 w11927 w11930 w11931 w11932 w11934 w11933 w11935 w11939 w11938 a11940 ⊢) <;> (try simp only [zz, Int32.reduceToInt, ne_eq] at u11064 xq2 h11065 xq12 h11078 xq14 a11098 u11099 h11100 h11101 h11102 h11103 a11358 h11359 h11604 h11849 w11850 w11851 r11852 r11853 r11854 h11855 h11875 h11876 h11896 h11897 w11917 w11918 w11920 w11922 w11921 w11923 w11925 w11926 w11928 w11927 w11930 w11931 w11932 w11934 w11933 w11935 w11939 w11938 a11940 ⊢) <;> (try simp (disch := omega) only [zb] at u11064 xq2 h11065 xq12 h11078 xq14 a11098 u11099 h11100 h11101 h11102 h11103 a11358 h11359 h11604 h11849 w11850 w11851 r11852 r11853 r11854 h11855 h11875 h11876 h11896 h11897 w11917 w11918 w11920 w11922 w11921 w11923 w11925 w11926 w11928 w11927 w11930 w11931 w11932 w11934 w11933 w11935 w11939 w11938 a11940 ⊢) <;> first | omega | ((try simp (disch := omega) only [zb] at u11064 xq2 h11065 xq12 h11078 xq14 a11098 u11099 h11100 h11101 h11102 h11103 a11358 h11359 h11604 h11849 w11850 w11851 r11852 r11853 r11854 h11855 h11875 h11876 h11896 h11897 w11917 w11918 w11920 w11922 w11921 w11923 w11925 w11926 w11928 w11927 w11930 w11931 w11932 w11934 w11933 w11935 w11939 w11938 a11940 ⊢) <;> omega))⟩
                          · refine sw_sh (ci_sh cs11 t_p0 rfl) ?_
                            refine sw_on (sX9_put cs11 t_p0 (by (try simp only [zp, zo, zq] at u11064 xq2 h11065 xq12 h11078 xq14 a11098 u11099 h11100 h11101 h11102 h11103 a11358 h11359 h11604 h11849 w11850 w11851 r11852 r11853 r11854 h11855 h11875 h11876 h11896 ⊢) <;> (try simp only [zz, Int32.reduceToInt, ne_eq] at u11064 xq2 h11065 xq12 h11078 xq14 a11098 u11099 h11100 h11101 h11102 h11103 a11358 h11359 h11604 h11849 w11850 w11851 r11852 r11853 r11854 h11855 h11875 h11876 h11896 ⊢) <;> (try simp (disch := omega) only [zb] at u11064 xq2 h11065 xq12 h11078 xq14 a11098 u11099 h11100 h11101 h11102 h11103 a11358 h11359 h11604 h11849 w11850 w11851 r11852 r11853 r11854 h11855 h11875 h11876 h11896 ⊢) <;> first | omega | ((try simp (disch := omega) only [zb] at u11064 xq2 h11065 xq12 h11078 xq14 a11098 u11099 h11100 h11101 h11102 h11103 a11358 h11359 h11604 h11849 w11850 w11851 r11852 r11853 r11854 h11855 h11875 h11876 h11896 ⊢) <;> omega)) ) ?_
                            intro q30 hqq30
                            obtain ⟨cq30, gq30, xq30⟩ := hqq30
                            have fq30 := fr_trans fs11 gq30 rfl
                            unfold fX9_pair_264
                            refine sw_ite (fun h11941 => ?_) (fun h11941 => ?_)
                            · have w11942 := (gq30.2.2 _ _ t_p0 0 rfl).1
                              have w11943 : mm_I s11 p0 0 = mm_I q2.2 p0 0 := by rw [← es11]; exact rd_k t_p0 tq5 (by decide)
                              have w11945 := rdA_fr (k := 9) (j := 0) gq30 cs11 t_p0 (κ' := 59) rfl rfl rfl
                              have w11947 : rdA s11 p0 9 0 = mm_I s11 q17 ((0 : Int32)).toNatClampNeg := rdA_eq eq17
                              have w11946 : rdA s11 p0 9 0 = rdA q2.2 p0 9 0 := by rw [← es11]; exact rdA_k cq2 t_p0 (κ' := 59) rfl tq5 (by decide)
                              have w11948 := rdA_fr (k := 9) (j := 0) gq2 c0 t_p0 (κ' := 59) rfl rfl rfl
                              have w11950 := rdA_fr (k := 10) (j := 0) gq30 cs11 t_p0 (κ' := 60) rfl rfl rfl
                              have w11951 : rdA s11 p0 10 0 = rdA q2.2 p0 10 0 := by rw [← es11]; exact rdA_j (by decide)
                              have w11953 : rdA q2.2 p0 10 0 = mm_I q2.2 q5 ((0 : Int32)).toNatClampNeg := rdA_eq eq5
                              have w11952 := rdA_fr (k := 10) (j := 0) gq2 c0 t_p0 (κ' := 60) rfl rfl rfl
                              have w11955 := rdA_fr (k := 10) (j := 1) gq30 cs11 t_p0 (κ' := 60) rfl rfl rfl
                              have w11956 : rdA s11 p0 10 1 = -1 := by rw [← es11]; exact rdA_self eq5
                              have w11957 := rdA_fr (k := 9) (j := 1) gq30 cs11 t_p0 (κ' := 59) rfl rfl rfl
                              have w11959 : rdA s11 p0 9 1 = mm_I s11 q17 ((1 : Int32)).toNatClampNeg := rdA_eq eq17
                              have w11958 : rdA s11 p0 9 1 = rdA q2.2 p0 9 1 := by rw [← es11]; exact rdA_k cq2 t_p0 (κ' := 59) rfl tq5 (by decide)
                              have w11960 := rdA_fr (k := 9) (j := 1) gq2 c0 t_p0 (κ' := 59) rfl rfl rfl
                              have w11964 : rdA q2.2 p0 10 1 = mm_I q2.2 q5 ((1 : Int32)).toNatClampNeg := rdA_eq eq5
                              have w11963 := rdA_fr (k := 10) (j := 1) gq2 c0 t_p0 (κ' := 60) rfl rfl rfl
                              have a11965 := zi_and p2 8 (by decide)
                              exact sw_some ⟨cq30, fq30, (by (try simp only [zp, zo, zq] at u11064 xq2 h11065 xq12 h11078 xq14 a11098 u11099 h11100 h11101 h11102 h11103 a11358 h11359 h11604 h11849 w11850 w11851 r11852 r11853 r11854 h11855 h11875 h11876 h11896 h11941 w11942 w11943 w11945 w11947 w11946 w11948 w11950 w11951 w11953 w11952 w11955 w11956 w11957 w11959 w11958 w11960 w11964 w11963 a11965 ⊢) <;> (try simp only [zz, Int32.reduceToInt, ne_eq] at u11064 xq2 h11065 xq12 h11078 xq14 a11098 u11099 h11100 h11101 h11102 h11103 a11358 h11359 h11604 h11849 w11850 w11851 r11852 r11853 r11854 h11855 h11875 h11876 h11896 h11941 w11942 w11943 w11945 w11947 w11946 w11948 w11950 w11951 w11953 w11952 w11955 w11956 w11957 w11959 w11958 w11960 w11964 w11963 a11965 ⊢) <;> (try simp (disch := omega) only [zb] at u11064 xq2 h11065 xq12 h11078 xq14 a11098 u11099 h11100 h11101 h11102 h11103 a11358 h11359 h11604 h11849 w11850 w11851 r11852 r11853 r11854 h11855 h11875 h11876 h11896 h11941 w11942 w11943 w11945 w11947 w11946 w11948 w11950 w11951 w11953 w11952 w11955 w11956 w11957 w11959 w11958 w11960 w11964 w11963 a11965 ⊢) <;> first | omega | ((try simp (disch := omega) only [zb] at u11064 xq2 h11065 xq12 h11078 xq14 a11098 u11099 h11100 h11101 h11102 h11103 a11358 h11359 h11604 h11849 w11850 w11851 r11852 r11853 r11854 h11855 h11875 h11876 h11896 h11941 w11942 w11943 w11945 w11947 w11946 w11948 w11950 w11951 w11953 w11952 w11955 w11956 w11957 w11959 w11958 w11960 w11964 w11963 a11965 ⊢) <;> omega))⟩
                            · refine sw_sh (ci_sh cq30 t_p0 rfl) ?_
                              refine sw_on (sX9_put cq30 t_p0 (by (try simp only [zp, zo, zq] at u11064 xq2 h11065 xq12 h11078 xq14 a11098 u11099 h11100 h11101 h11102 h11103 a11358 h11359 h11604 h11849 w11850 w11851 r11852 r11853 r11854 h11855 h11875 h11876 h11896 h11941 ⊢) <;> (try simp only [zz, Int32.reduceToInt, ne_eq] at u11064 xq2 h11065 xq12 h11078 xq14 a11098 u11099 h11100 h11101 h11102 h11103 a11358 h11359 h11604 h11849 w11850 w11851 r11852 r11853 r11854 h11855 h11875 h11876 h11896 h11941 ⊢) <;> (try simp (disch := omega) only [zb] at u11064 xq2 h11065 xq12 h11078 xq14 a11098 u11099 h11100 h11101 h11102 h11103 a11358 h11359 h11604 h11849 w11850 w11851 r11852 r11853 r11854 h11855 h11875 h11876 h11896 h11941 ⊢) <;> first | omega | ((try simp (disch := omega) only [zb] at u11064 xq2 h11065 xq12 h11078 xq14 a11098 u11099 h11100 h11101 h11102 h11103 a11358 h11359 h11604 h11849 w11850 w11851 r11852 r11853 r11854 h11855 h11875 h11876 h11896 h11941 ⊢) <;> omega)) ) ?_
                              intro q28 hqq28
                              obtain ⟨cq28, gq28, xq28⟩ := hqq28
                              have fq28 := fr_trans fq30 gq28 rfl
                              have w11966 := (gq28.2.2 _ _ t_p0 0 rfl).1
                              have w11967 := (gq30.2.2 _ _ t_p0 0 rfl).1
                              have w11968 : mm_I s11 p0 0 = mm_I q2.2 p0 0 := by rw [← es11]; exact rd_k t_p0 tq5 (by decide)
                              have w11970 := rdA_fr (k := 9) (j := 0) gq28 cq30 t_p0 (κ' := 59) rfl rfl rfl
                              have w11971 := rdA_fr (k := 9) (j := 0) gq30 cs11 t_p0 (κ' := 59) rfl rfl rfl
                              have w11973 : rdA s11 p0 9 0 = mm_I s11 q17 ((0 : Int32)).toNatClampNeg := rdA_eq eq17
                              have w11972 : rdA s11 p0 9 0 = rdA q2.2 p0 9 0 := by rw [← es11]; exact rdA_k cq2 t_p0 (κ' := 59) rfl tq5 (by decide)
                              have w11974 := rdA_fr (k := 9) (j := 0) gq2 c0 t_p0 (κ' := 59) rfl rfl rfl
                              have w11976 := rdA_fr (k := 10) (j := 0) gq28 cq30 t_p0 (κ' := 60) rfl rfl rfl
                              have w11977 := rdA_fr (k := 10) (j := 0) gq30 cs11 t_p0 (κ' := 60) rfl rfl rfl
                              have w11978 : rdA s11 p0 10 0 = rdA q2.2 p0 10 0 := by rw [← es11]; exact rdA_j (by decide)
                              have w11980 : rdA q2.2 p0 10 0 = mm_I q2.2 q5 ((0 : Int32)).toNatClampNeg := rdA_eq eq5
                              have w11979 := rdA_fr (k := 10) (j := 0) gq2 c0 t_p0 (κ' := 60) rfl rfl rfl
                              have w11982 := rdA_fr (k := 10) (j := 1) gq28 cq30 t_p0 (κ' := 60) rfl rfl rfl
                              have w11983 := rdA_fr (k := 10) (j := 1) gq30 cs11 t_p0 (κ' := 60) rfl rfl rfl
                              have w11984 : rdA s11 p0 10 1 = -1 := by rw [← es11]; exact rdA_self eq5
                              have w11985 := rdA_fr (k := 9) (j := 1) gq28 cq30 t_p0 (κ' := 59) rfl rfl rfl
                              have w11986 := rdA_fr (k := 9) (j := 1) gq30 cs11 t_p0 (κ' := 59) rfl rfl rfl
                              have w11988 : rdA s11 p0 9 1 = mm_I s11 q17 ((1 : Int32)).toNatClampNeg := rdA_eq eq17
                              have w11987 : rdA s11 p0 9 1 = rdA q2.2 p0 9 1 := by rw [← es11]; exact rdA_k cq2 t_p0 (κ' := 59) rfl tq5 (by decide)
                              have w11989 := rdA_fr (k := 9) (j := 1) gq2 c0 t_p0 (κ' := 59) rfl rfl rfl
                              have w11993 : rdA q2.2 p0 10 1 = mm_I q2.2 q5 ((1 : Int32)).toNatClampNeg := rdA_eq eq5
                              have w11992 := rdA_fr (k := 10) (j := 1) gq2 c0 t_p0 (κ' := 60) rfl rfl rfl
                              have a11994 := zi_and p2 8 (by decide)
                              exact sw_some ⟨cq28, fq28, (by (try simp only [zp, zo, zq] at u11064 xq2 h11065 xq12 h11078 xq14 a11098 u11099 h11100 h11101 h11102 h11103 a11358 h11359 h11604 h11849 w11850 w11851 r11852 r11853 r11854 h11855 h11875 h11876 h11896 h11941 w11966 w11967 w11968 w11970 w11971 w11973 w11972 w11974 w11976 w11977 w11978 w11980 w11979 w11982 w11983 w11984 w11985 w11986 w11988 w11987 w11989 w11993 w11992 a11994 ⊢) <;> (try simp only [zz, Int32.reduceToInt, ne_eq] at u11064 xq2 h11065 xq12 h11078 xq14 a11098 u11099 h11100 h11101 h11102 h11103 a11358 h11359 h11604 h11849 w11850 w11851 r11852 r11853 r11854 h11855 h11875 h11876 h11896 h11941 w11966 w11967 w11968 w11970 w11971 w11973 w11972 w11974 w11976 w11977 w11978 w11980 w11979 w11982 w11983 w11984 w11985 w11986 w11988 w11987 w11989 w11993 w11992 a11994 ⊢) <;> (try simp (disch := omega) only [zb] at u11064 xq2 h11065 xq12 h11078 xq14 a11098 u11099 h11100 h11101 h11102 h11103 a11358 h11359 h11604 h11849 w11850 w11851 r11852 r11853 r11854 h11855 h11875 h11876 h11896 h11941 w11966 w11967 w11968 w11970 w11971 w11973 w11972 w11974 w11976 w11977 w11978 w11980 w11979 w11982 w11983 w11984 w11985 w11986 w11988 w11987 w11989 w11993 w11992 a11994 ⊢) <;> first | omega | ((try simp (disch := omega) only [zb] at u11064 xq2 h11065 xq12 h11078 xq14 a11098 u11099 h11100 h11101 h11102 h11103 a11358 h11359 h11604 h11849 w11850 w11851 r11852 r11853 r11854 h11855 h11875 h11876 h11896 h11941 w11966 w11967 w11968 w11970 w11971 w11973 w11972 w11974 w11976 w11977 w11978 w11980 w11979 w11982 w11983 w11984 w11985 w11986 w11988 w11987 w11989 w11993 w11992 a11994 ⊢) <;> omega))⟩
                      · unfold fX9_pair_250
                        refine sw_ite (fun h11995 => ?_) (fun h11995 => ?_)
                        · unfold fX9_pair_264
                          refine sw_ite (fun h11996 => ?_) (fun h11996 => ?_)
                          · have w11997 : mm_I s11 p0 0 = mm_I q2.2 p0 0 := by rw [← es11]; exact rd_k t_p0 tq5 (by decide)
                            have w12000 : rdA s11 p0 9 0 = mm_I s11 q17 ((0 : Int32)).toNatClampNeg := rdA_eq eq17
                            have w11999 : rdA s11 p0 9 0 = rdA q2.2 p0 9 0 := by rw [← es11]; exact rdA_k cq2 t_p0 (κ' := 59) rfl tq5 (by decide)
                            have w12001 := rdA_fr (k := 9) (j := 0) gq2 c0 t_p0 (κ' := 59) rfl rfl rfl
                            have w12003 : rdA s11 p0 10 0 = rdA q2.2 p0 10 0 := by rw [← es11]; exact rdA_j (by decide)
                            have w12005 : rdA q2.2 p0 10 0 = mm_I q2.2 q5 ((0 : Int32)).toNatClampNeg := rdA_eq eq5
                            have w12004 := rdA_fr (k := 10) (j := 0) gq2 c0 t_p0 (κ' := 60) rfl rfl rfl
                            have w12007 : rdA s11 p0 10 1 = -1 := by rw [← es11]; exact rdA_self eq5
                            have w12009 : rdA s11 p0 9 1 = mm_I s11 q17 ((1 : Int32)).toNatClampNeg := rdA_eq eq17
                            have w12008 : rdA s11 p0 9 1 = rdA q2.2 p0 9 1 := by rw [← es11]; exact rdA_k cq2 t_p0 (κ' := 59) rfl tq5 (by decide)
                            have w12010 := rdA_fr (k := 9) (j := 1) gq2 c0 t_p0 (κ' := 59) rfl rfl rfl
                            have w12014 : rdA q2.2 p0 10 1 = mm_I q2.2 q5 ((1 : Int32)).toNatClampNeg := rdA_eq eq5
                            have w12013 := rdA_fr (k := 10) (j := 1) gq2 c0 t_p0 (κ' := 60) rfl rfl rfl
                            have a12015 := zi_and p2 8 (by decide)
                            exact sw_some ⟨cs11, fs11, (by (try simp only [zp, zo, zq] at u11064 xq2 h11065 xq12 h11078 xq14 a11098 u11099 h11100 h11101 h11102 h11103 a11358 h11359 h11604 h11849 w11850 w11851 r11852 r11853 r11854 h11855 h11875 h11995 h11996 w11997 w12000 w11999 w12001 w12003 w12005 w12004 w12007 w12009 w12008 w12010 w12014 w12013 a12015 ⊢) <;> (try simp only [zz, Int32.reduceToInt, ne_eq] at u11064 xq2 h11065 xq12 h11078 xq14 a11098 u11099 h11100 h11101 h11102 h11103 a11358 h11359 h11604 h11849 w11850 w11851 r11852 r11853 r11854 h11855 h11875 h11995 h11996 w11997 w12000 w11999 w12001 w12003 w12005 w12004 w12007 w12009 w12008 w12010 w12014 w12013 a12015 ⊢) <;> (try simp (disch := omega) only [zb] at u11064 xq2 h11065 xq12 h11078 xq14 a11098 u11099 h11100 h11101 h11102 h11103 a11358 h11359 h11604 h11849 w11850 w11851 r11852 r11853 r11854 h11855 h11875 h11995 h11996 w11997 w12000 w11999 w12001 w12003 w12005 w12004 w12007 w12009 w12008 w12010 w12014 w12013 a12015 ⊢) <;> first | omega | ((try simp (disch := omega) only [zb] at u11064 xq2 h11065 xq12 h11078 xq14 a11098 u11099 h11100 h11101 h11102 h11103 a11358 h11359 h11604 h11849 w11850 w11851 r11852 r11853 r11854 h11855 h11875 h11995 h11996 w11997 w12000 w11999 w12001 w12003 w12005 w12004 w12007 w12009 w12008 w12010 w12014 w12013 a12015 ⊢) <;> omega))⟩
                          · refine sw_sh (ci_sh cs11 t_p0 rfl) ?_
                            refine sw_on (sX9_put cs11 t_p0 (by (try simp only [zp, zo, zq] at u11064 xq2 h11065 xq12 h11078 xq14 a11098 u11099 h11100 h11101 h11102 h11103 a11358 h11359 h11604 h11849 w11850 w11851 r11852 r11853 r11854 h11855 h11875 h11995 h11996 ⊢) <;> (try simp only [zz, Int32.reduceToInt, ne_eq] at u11064 xq2 h11065 xq12 h11078 xq14 a11098 u11099 h11100 h11101 h11102 h11103 a11358 h11359 h11604 h11849 w11850 w11851 r11852 r11853 r11854 h11855 h11875 h11995 h11996 ⊢) <;> (try simp (disch := omega) only [zb] at u11064 xq2 h11065 xq12 h11078 xq14 a11098 u11099 h11100 h11101 h11102 h11103 a11358 h11359 h11604 h11849 w11850 w11851 r11852 r11853 r11854 h11855 h11875 h11995 h11996 ⊢) <;> first | omega | ((try simp (disch := omega) only [zb] at u11064 xq2 h11065 xq12 h11078 xq14 a11098 u11099 h11100 h11101 h11102 h11103 a11358 h11359 h11604 h11849 w11850 w11851 r11852 r11853 r11854 h11855 h11875 h11995 h11996 ⊢) <;> omega)) ) ?_
                            intro q28 hqq28
                            obtain ⟨cq28, gq28, xq28⟩ := hqq28
                            have fq28 := fr_trans fs11 gq28 rfl
                            have w12016 := (gq28.2.2 _ _ t_p0 0 rfl).1
                            have w12017 : mm_I s11 p0 0 = mm_I q2.2 p0 0 := by rw [← es11]; exact rd_k t_p0 tq5 (by decide)
                            have w12019 := rdA_fr (k := 9) (j := 0) gq28 cs11 t_p0 (κ' := 59) rfl rfl rfl
                            have w12021 : rdA s11 p0 9 0 = mm_I s11 q17 ((0 : Int32)).toNatClampNeg := rdA_eq eq17
                            have w12020 : rdA s11 p0 9 0 = rdA q2.2 p0 9 0 := by rw [← es11]; exact rdA_k cq2 t_p0 (κ' := 59) rfl tq5 (by decide)
                            have w12022 := rdA_fr (k := 9) (j := 0) gq2 c0 t_p0 (κ' := 59) rfl rfl rfl
                            have w12024 := rdA_fr (k := 10) (j := 0) gq28 cs11 t_p0 (κ' := 60) rfl rfl rfl
                            have w12025 : rdA s11 p0 10 0 = rdA q2.2 p0 10 0 := by rw [← es11]; exact rdA_j (by decide)
                            have w12027 : rdA q2.2 p0 10 0 = mm_I q2.2 q5 ((0 : Int32)).toNatClampNeg := rdA_eq eq5
                            have w12026 := rdA_fr (k := 10) (j := 0) gq2 c0 t_p0 (κ' := 60) rfl rfl rfl
                            have w12029 := rdA_fr (k := 10) (j := 1) gq28 cs11 t_p0 (κ' := 60) rfl rfl rfl
                            have w12030 : rdA s11 p0 10 1 = -1 := by rw [← es11]; exact rdA_self eq5
                            have w12031 := rdA_fr (k := 9) (j := 1) gq28 cs11 t_p0 (κ' := 59) rfl rfl rfl
                            have w12033 : rdA s11 p0 9 1 = mm_I s11 q17 ((1 : Int32)).toNatClampNeg := rdA_eq eq17
                            have w12032 : rdA s11 p0 9 1 = rdA q2.2 p0 9 1 := by rw [← es11]; exact rdA_k cq2 t_p0 (κ' := 59) rfl tq5 (by decide)
                            have w12034 := rdA_fr (k := 9) (j := 1) gq2 c0 t_p0 (κ' := 59) rfl rfl rfl
                            have w12038 : rdA q2.2 p0 10 1 = mm_I q2.2 q5 ((1 : Int32)).toNatClampNeg := rdA_eq eq5
                            have w12037 := rdA_fr (k := 10) (j := 1) gq2 c0 t_p0 (κ' := 60) rfl rfl rfl
                            have a12039 := zi_and p2 8 (by decide)
                            exact sw_some ⟨cq28, fq28, (by (try simp only [zp, zo, zq] at u11064 xq2 h11065 xq12 h11078 xq14 a11098 u11099 h11100 h11101 h11102 h11103 a11358 h11359 h11604 h11849 w11850 w11851 r11852 r11853 r11854 h11855 h11875 h11995 h11996 w12016 w12017 w12019 w12021 w12020 w12022 w12024 w12025 w12027 w12026 w12029 w12030 w12031 w12033 w12032 w12034 w12038 w12037 a12039 ⊢) <;> (try simp only [zz, Int32.reduceToInt, ne_eq] at u11064 xq2 h11065 xq12 h11078 xq14 a11098 u11099 h11100 h11101 h11102 h11103 a11358 h11359 h11604 h11849 w11850 w11851 r11852 r11853 r11854 h11855 h11875 h11995 h11996 w12016 w12017 w12019 w12021 w12020 w12022 w12024 w12025 w12027 w12026 w12029 w12030 w12031 w12033 w12032 w12034 w12038 w12037 a12039 ⊢) <;> (try simp (disch := omega) only [zb] at u11064 xq2 h11065 xq12 h11078 xq14 a11098 u11099 h11100 h11101 h11102 h11103 a11358 h11359 h11604 h11849 w11850 w11851 r11852 r11853 r11854 h11855 h11875 h11995 h11996 w12016 w12017 w12019 w12021 w12020 w12022 w12024 w12025 w12027 w12026 w12029 w12030 w12031 w12033 w12032 w12034 w12038 w12037 a12039 ⊢) <;> first | omega | ((try simp (disch := omega) only [zb] at u11064 xq2 h11065 xq12 h11078 xq14 a11098 u11099 h11100 h11101 h11102 h11103 a11358 h11359 h11604 h11849 w11850 w11851 r11852 r11853 r11854 h11855 h11875 h11995 h11996 w12016 w12017 w12019 w12021 w12020 w12022 w12024 w12025 w12027 w12026 w12029 w12030 w12031 w12033 w12032 w12034 w12038 w12037 a12039 ⊢) <;> omega))⟩
                        · refine sw_sh (ci_sh cs11 t_p0 rfl) ?_
                          refine sw_on (sX9_put cs11 t_p0 (by (try simp only [zp, zo, zq] at u11064 xq2 h11065 xq12 h11078 xq14 a11098 u11099 h11100 h11101 h11102 h11103 a11358 h11359 h11604 h11849 w11850 w11851 r11852 r11853 r11854 h11855 h11875 h11995 ⊢) <;> (try simp only [zz, Int32.reduceToInt, ne_eq] at u11064 xq2 h11065 xq12 h11078 xq14 a11098 u11099 h11100 h11101 h11102 h11103 a11358 h11359 h11604 h11849 w11850 w11851 r11852 r11853 r11854 h11855 h11875 h11995 ⊢) <;> (try simp (disch := omega) only [zb] at u11064 xq2 h11065 xq12 h11078 xq14 a11098 u11099 h11100 h11101 h11102 h11103 a11358 h11359 h11604 h11849 w11850 w11851 r11852 r11853 r11854 h11855 h11875 h11995 ⊢) <;> first | omega | ((try simp (disch := omega) only [zb] at u11064 xq2 h11065 xq12 h11078 xq14 a11098 u11099 h11100 h11101 h11102 h11103 a11358 h11359 h11604 h11849 w11850 w11851 r11852 r11853 r11854 h11855 h11875 h11995 ⊢) <;> omega)) ) ?_
                          intro q30 hqq30
                          obtain ⟨cq30, gq30, xq30⟩ := hqq30
                          have fq30 := fr_trans fs11 gq30 rfl
                          unfold fX9_pair_264
                          refine sw_ite (fun h12040 => ?_) (fun h12040 => ?_)
                          · have w12041 := (gq30.2.2 _ _ t_p0 0 rfl).1
                            have w12042 : mm_I s11 p0 0 = mm_I q2.2 p0 0 := by rw [← es11]; exact rd_k t_p0 tq5 (by decide)
                            have w12044 := rdA_fr (k := 9) (j := 0) gq30 cs11 t_p0 (κ' := 59) rfl rfl rfl
                            have w12046 : rdA s11 p0 9 0 = mm_I s11 q17 ((0 : Int32)).toNatClampNeg := rdA_eq eq17
                            have w12045 : rdA s11 p0 9 0 = rdA q2.2 p0 9 0 := by rw [← es11]; exact rdA_k cq2 t_p0 (κ' := 59) rfl tq5 (by decide)
                            have w12047 := rdA_fr (k := 9) (j := 0) gq2 c0 t_p0 (κ' := 59) rfl rfl rfl
                            have w12049 := rdA_fr (k := 10) (j := 0) gq30 cs11 t_p0 (κ' := 60) rfl rfl rfl
                            have w12050 : rdA s11 p0 10 0 = rdA q2.2 p0 10 0 := by rw [← es11]; exact rdA_j (by decide)
                            have w12052 : rdA q2.2 p0 10 0 = mm_I q2.2 q5 ((0 : Int32)).toNatClampNeg := rdA_eq eq5
                            have w12051 := rdA_fr (k := 10) (j := 0) gq2 c0 t_p0 (κ' := 60) rfl rfl rfl
                            have w12054 := rdA_fr (k := 10) (j := 1) gq30 cs11 t_p0 (κ' := 60) rfl rfl rfl
                            have w12055 : rdA s11 p0 10 1 = -1 := by rw [← es11]; exact rdA_self eq5
                            have w12056 := rdA_fr (k := 9) (j := 1) gq30 cs11 t_p0 (κ' := 59) rfl rfl rfl
                            have w12058 : rdA s11 p0 9 1 = mm_I s11 q17 ((1 : Int32)).toNatClampNeg := rdA_eq eq17
                            have w12057 : rdA s11 p0 9 1 = rdA q2.2 p0 9 1 := by rw [← es11]; exact rdA_k cq2 t_p0 (κ' := 59) rfl tq5 (by decide)
                            have w12059 := rdA_fr (k := 9) (j := 1) gq2 c0 t_p0 (κ' := 59) rfl rfl rfl
                            have w12063 : rdA q2.2 p0 10 1 = mm_I q2.2 q5 ((1 : Int32)).toNatClampNeg := rdA_eq eq5
                            have w12062 := rdA_fr (k := 10) (j := 1) gq2 c0 t_p0 (κ' := 60) rfl rfl rfl
                            have a12064 := zi_and p2 8 (by decide)
                            exact sw_some ⟨cq30, fq30, (by (try simp only [zp, zo, zq] at u11064 xq2 h11065 xq12 h11078 xq14 a11098 u11099 h11100 h11101 h11102 h11103 a11358 h11359 h11604 h11849 w11850 w11851 r11852 r11853 r11854 h11855 h11875 h11995 h12040 w12041 w12042 w12044 w12046 w12045 w12047 w12049 w12050 w12052 w12051 w12054 w12055 w12056 w12058 w12057 w12059 w12063 w12062 a12064 ⊢) <;> (try simp only [zz, Int32.reduceToInt, ne_eq] at u11064 xq2 h11065 xq12 h11078 xq14 a11098 u11099 h11100 h11101 h11102 h11103 a11358 h11359 h11604 h11849 w11850 w11851 r11852 r11853 r11854 h11855 h11875 h11995 h12040 w12041 w12042 w12044 w12046 w12045 w12047 w12049 w12050 w12052 w12051 w12054 w12055 w12056 w12058 w12057 w12059 w12063 w12062 a12064 ⊢) <;> (try simp (disch := omega) only [zb] at u11064 xq2 h11065 xq12 h11078 xq14 a11098 u11099 h11100 h11101 h11102 h11103 a11358 h11359 h11604 h11849 w11850 w11851 r11852 r11853 r11854 h11855 h11875 h11995 h12040 w12041 w12042 w12044 w12046 w12045 w12047 w12049 w12050 w12052 w12051 w12054 w12055 w12056 w12058 w12057 w12059 w12063 w12062 a12064 ⊢) <;> first | omega | ((try simp (disch := omega) only [zb] at u11064 xq2 h11065 xq12 h11078 xq14 a11098 u11099 h11100 h11101 h11102 h11103 a11358 h11359 h11604 h11849 w11850 w11851 r11852 r11853 r11854 h11855 h11875 h11995 h12040 w12041 w12042 w12044 w12046 w12045 w12047 w12049 w12050 w12052 w12051 w12054 w12055 w12056 w12058 w12057 w12059 w12063 w12062 a12064 ⊢) <;> omega))⟩
                          · refine sw_sh (ci_sh cq30 t_p0 rfl) ?_
                            refine sw_on (sX9_put cq30 t_p0 (by (try simp only [zp, zo, zq] at u11064 xq2 h11065 xq12 h11078 xq14 a11098 u11099 h11100 h11101 h11102 h11103 a11358 h11359 h11604 h11849 w11850 w11851 r11852 r11853 r11854 h11855 h11875 h11995 h12040 ⊢) <;> (try simp only [zz, Int32.reduceToInt, ne_eq] at u11064 xq2 h11065 xq12 h11078 xq14 a11098 u11099 h11100 h11101 h11102 h11103 a11358 h11359 h11604 h11849 w11850 w11851 r11852 r11853 r11854 h11855 h11875 h11995 h12040 ⊢) <;> (try simp (disch := omega) only [zb] at u11064 xq2 h11065 xq12 h11078 xq14 a11098 u11099 h11100 h11101 h11102 h11103 a11358 h11359 h11604 h11849 w11850 w11851 r11852 r11853 r11854 h11855 h11875 h11995 h12040 ⊢) <;> first | omega | ((try simp (disch := omega) only [zb] at u11064 xq2 h11065 xq12 h11078 xq14 a11098 u11099 h11100 h11101 h11102 h11103 a11358 h11359 h11604 h11849 w11850 w11851 r11852 r11853 r11854 h11855 h11875 h11995 h12040 ⊢) <;> omega)) ) ?_
                            intro q28 hqq28
                            obtain ⟨cq28, gq28, xq28⟩ := hqq28
                            have fq28 := fr_trans fq30 gq28 rfl
                            have w12065 := (gq28.2.2 _ _ t_p0 0 rfl).1
                            have w12066 := (gq30.2.2 _ _ t_p0 0 rfl).1
                            have w12067 : mm_I s11 p0 0 = mm_I q2.2 p0 0 := by rw [← es11]; exact rd_k t_p0 tq5 (by decide)
                            have w12069 := rdA_fr (k := 9) (j := 0) gq28 cq30 t_p0 (κ' := 59) rfl rfl rfl
                            have w12070 := rdA_fr (k := 9) (j := 0) gq30 cs11 t_p0 (κ' := 59) rfl rfl rfl
                            have w12072 : rdA s11 p0 9 0 = mm_I s11 q17 ((0 : Int32)).toNatClampNeg := rdA_eq eq17
                            have w12071 : rdA s11 p0 9 0 = rdA q2.2 p0 9 0 := by rw [← es11]; exact rdA_k cq2 t_p0 (κ' := 59) rfl tq5 (by decide)
                            have w12073 := rdA_fr (k := 9) (j := 0) gq2 c0 t_p0 (κ' := 59) rfl rfl rfl
                            have w12075 := rdA_fr (k := 10) (j := 0) gq28 cq30 t_p0 (κ' := 60) rfl rfl rfl
                            have w12076 := rdA_fr (k := 10) (j := 0) gq30 cs11 t_p0 (κ' := 60) rfl rfl rfl
                            have w12077 : rdA s11 p0 10 0 = rdA q2.2 p0 10 0 := by rw [← es11]; exact rdA_j (by decide)
                            have w12079 : rdA q2.2 p0 10 0 = mm_I q2.2 q5 ((0 : Int32)).toNatClampNeg := rdA_eq eq5
                            have w12078 := rdA_fr (k := 10) (j := 0) gq2 c0 t_p0 (κ' := 60) rfl rfl rfl
                            have w12081 := rdA_fr (k := 10) (j := 1) gq28 cq30 t_p0 (κ' := 60) rfl rfl rfl
                            have w12082 := rdA_fr (k := 10) (j := 1) gq30 cs11 t_p0 (κ' := 60) rfl rfl rfl
                            have w12083 : rdA s11 p0 10 1 = -1 := by rw [← es11]; exact rdA_self eq5
                            have w12084 := rdA_fr (k := 9) (j := 1) gq28 cq30 t_p0 (κ' := 59) rfl rfl rfl
                            have w12085 := rdA_fr (k := 9) (j := 1) gq30 cs11 t_p0 (κ' := 59) rfl rfl rfl
                            have w12087 : rdA s11 p0 9 1 = mm_I s11 q17 ((1 : Int32)).toNatClampNeg := rdA_eq eq17
                            have w12086 : rdA s11 p0 9 1 = rdA q2.2 p0 9 1 := by rw [← es11]; exact rdA_k cq2 t_p0 (κ' := 59) rfl tq5 (by decide)
                            have w12088 := rdA_fr (k := 9) (j := 1) gq2 c0 t_p0 (κ' := 59) rfl rfl rfl
                            have w12092 : rdA q2.2 p0 10 1 = mm_I q2.2 q5 ((1 : Int32)).toNatClampNeg := rdA_eq eq5
                            have w12091 := rdA_fr (k := 10) (j := 1) gq2 c0 t_p0 (κ' := 60) rfl rfl rfl
                            have a12093 := zi_and p2 8 (by decide)
                            exact sw_some ⟨cq28, fq28, (by (try simp only [zp, zo, zq] at u11064 xq2 h11065 xq12 h11078 xq14 a11098 u11099 h11100 h11101 h11102 h11103 a11358 h11359 h11604 h11849 w11850 w11851 r11852 r11853 r11854 h11855 h11875 h11995 h12040 w12065 w12066 w12067 w12069 w12070 w12072 w12071 w12073 w12075 w12076 w12077 w12079 w12078 w12081 w12082 w12083 w12084 w12085 w12087 w12086 w12088 w12092 w12091 a12093 ⊢) <;> (try simp only [zz, Int32.reduceToInt, ne_eq] at u11064 xq2 h11065 xq12 h11078 xq14 a11098 u11099 h11100 h11101 h11102 h11103 a11358 h11359 h11604 h11849 w11850 w11851 r11852 r11853 r11854 h11855 h11875 h11995 h12040 w12065 w12066 w12067 w12069 w12070 w12072 w12071 w12073 w12075 w12076 w12077 w12079 w12078 w12081 w12082 w12083 w12084 w12085 w12087 w12086 w12088 w12092 w12091 a12093 ⊢) <;> (try simp (disch := omega) only [zb] at u11064 xq2 h11065 xq12 h11078 xq14 a11098 u11099 h11100 h11101 h11102 h11103 a11358 h11359 h11604 h11849 w11850 w11851 r11852 r11853 r11854 h11855 h11875 h11995 h12040 w12065 w12066 w12067 w12069 w12070 w12072 w12071 w12073 w12075 w12076 w12077 w12079 w12078 w12081 w12082 w12083 w12084 w12085 w12087 w12086 w12088 w12092 w12091 a12093 ⊢) <;> first | omega | ((try simp (disch := omega) only [zb] at u11064 xq2 h11065 xq12 h11078 xq14 a11098 u11099 h11100 h11101 h11102 h11103 a11358 h11359 h11604 h11849 w11850 w11851 r11852 r11853 r11854 h11855 h11875 h11995 h12040 w12065 w12066 w12067 w12069 w12070 w12072 w12071 w12073 w12075 w12076 w12077 w12079 w12078 w12081 w12082 w12083 w12084 w12085 w12087 w12086 w12088 w12092 w12091 a12093 ⊢) <;> omega))⟩
                  · unfold fX9_pair_227
                    unfold fX9_pair_228
                    have w12094 : mm_I s11 q17 ((1 : Int32).toNatClampNeg) = mm_I q2.2 q17 ((1 : Int32).toNatClampNeg) := by rw [← es11]; exact rd_k tq17 tq5 (by decide)
                    have w12095 := (gq2.2.2 _ _ tq17 ((1 : Int32).toNatClampNeg) rfl).1
                    have r12096 := ci_rg c0 tq17 ((1 : Int32).toNatClampNeg) (lo := (-1)) (hi := 3) rfl
                    have r12097 := ci_rg cq2 tq17 ((1 : Int32).toNatClampNeg) (lo := (-1)) (hi := 3) rfl
                    have r12098 := ci_rg cs11 tq17 ((1 : Int32).toNatClampNeg) (lo := (-1)) (hi := 3) rfl
                    refine sw_ite (fun h12099 => ?_) (fun h12099 => ?_)
                    · have w12100 : mm_I s11 p0 0 = mm_I q2.2 p0 0 := by rw [← es11]; exact rd_k t_p0 tq5 (by decide)
                      have w12103 : rdA s11 p0 9 0 = mm_I s11 q17 ((0 : Int32)).toNatClampNeg := rdA_eq eq17
                      have w12102 : rdA s11 p0 9 0 = rdA q2.2 p0 9 0 := by rw [← es11]; exact rdA_k cq2 t_p0 (κ' := 59) rfl tq5 (by decide)
                      have w12104 := rdA_fr (k := 9) (j := 0) gq2 c0 t_p0 (κ' := 59) rfl rfl rfl
                      have w12106 : rdA s11 p0 10 0 = rdA q2.2 p0 10 0 := by rw [← es11]; exact rdA_j (by decide)
                      have w12108 : rdA q2.2 p0 10 0 = mm_I q2.2 q5 ((0 : Int32)).toNatClampNeg := rdA_eq eq5
                      have w12107 := rdA_fr (k := 10) (j := 0) gq2 c0 t_p0 (κ' := 60) rfl rfl rfl
                      have w12110 : rdA s11 p0 10 1 = -1 := by rw [← es11]; exact rdA_self eq5
                      have w12112 : rdA s11 p0 9 1 = mm_I s11 q17 ((1 : Int32)).toNatClampNeg := rdA_eq eq17
                      have w12111 : rdA s11 p0 9 1 = rdA q2.2 p0 9 1 := by rw [← es11]; exact rdA_k cq2 t_p0 (κ' := 59) rfl tq5 (by decide)
                      have w12113 := rdA_fr (k := 9) (j := 1) gq2 c0 t_p0 (κ' := 59) rfl rfl rfl
                      have w12117 : rdA q2.2 p0 10 1 = mm_I q2.2 q5 ((1 : Int32)).toNatClampNeg := rdA_eq eq5
                      have w12116 := rdA_fr (k := 10) (j := 1) gq2 c0 t_p0 (κ' := 60) rfl rfl rfl
                      have a12118 := zi_and p2 8 (by decide)
                      exact sw_some ⟨cs11, fs11, (by (try simp only [zp, zo, zq] at u11064 xq2 h11065 xq12 h11078 xq14 a11098 u11099 h11100 h11101 h11102 h11103 a11358 h11359 h11604 h11849 w12094 w12095 r12096 r12097 r12098 h12099 w12100 w12103 w12102 w12104 w12106 w12108 w12107 w12110 w12112 w12111 w12113 w12117 w12116 a12118 ⊢) <;> (try simp only [zz, Int32.reduceToInt, ne_eq] at u11064 xq2 h11065 xq12 h11078 xq14 a11098 u11099 h11100 h11101 h11102 h11103 a11358 h11359 h11604 h11849 w12094 w12095 r12096 r12097 r12098 h12099 w12100 w12103 w12102 w12104 w12106 w12108 w12107 w12110 w12112 w12111 w12113 w12117 w12116 a12118 ⊢) <;> (try simp (disch := omega) only [zb] at u11064 xq2 h11065 xq12 h11078 xq14 a11098 u11099 h11100 h11101 h11102 h11103 a11358 h11359 h11604 h11849 w12094 w12095 r12096 r12097 r12098 h12099 w12100 w12103 w12102 w12104 w12106 w12108 w12107 w12110 w12112 w12111 w12113 w12117 w12116 a12118 ⊢) <;> first | omega | ((try simp (disch := omega) only [zb] at u11064 xq2 h11065 xq12 h11078 xq14 a11098 u11099 h11100 h11101 h11102 h11103 a11358 h11359 h11604 h11849 w12094 w12095 r12096 r12097 r12098 h12099 w12100 w12103 w12102 w12104 w12106 w12108 w12107 w12110 w12112 w12111 w12113 w12117 w12116 a12118 ⊢) <;> omega))⟩
                    · refine sw_ite (fun h12119 => ?_) (fun h12119 => ?_)
                      · refine sw_ite (fun h12120 => ?_) (fun h12120 => ?_)
                        · have w12121 : mm_I s11 p0 0 = mm_I q2.2 p0 0 := by rw [← es11]; exact rd_k t_p0 tq5 (by decide)
                          have w12124 : rdA s11 p0 9 0 = mm_I s11 q17 ((0 : Int32)).toNatClampNeg := rdA_eq eq17
                          have w12123 : rdA s11 p0 9 0 = rdA q2.2 p0 9 0 := by rw [← es11]; exact rdA_k cq2 t_p0 (κ' := 59) rfl tq5 (by decide)
                          have w12125 := rdA_fr (k := 9) (j := 0) gq2 c0 t_p0 (κ' := 59) rfl rfl rfl
                          have w12127 : rdA s11 p0 10 0 = rdA q2.2 p0 10 0 := by rw [← es11]; exact rdA_j (by decide)
                          have w12129 : rdA q2.2 p0 10 0 = mm_I q2.2 q5 ((0 : Int32)).toNatClampNeg := rdA_eq eq5
                          have w12128 := rdA_fr (k := 10) (j := 0) gq2 c0 t_p0 (κ' := 60) rfl rfl rfl
                          have w12131 : rdA s11 p0 10 1 = -1 := by rw [← es11]; exact rdA_self eq5
                          have w12133 : rdA s11 p0 9 1 = mm_I s11 q17 ((1 : Int32)).toNatClampNeg := rdA_eq eq17
                          have w12132 : rdA s11 p0 9 1 = rdA q2.2 p0 9 1 := by rw [← es11]; exact rdA_k cq2 t_p0 (κ' := 59) rfl tq5 (by decide)
                          have w12134 := rdA_fr (k := 9) (j := 1) gq2 c0 t_p0 (κ' := 59) rfl rfl rfl
                          have w12138 : rdA q2.2 p0 10 1 = mm_I q2.2 q5 ((1 : Int32)).toNatClampNeg := rdA_eq eq5
                          have w12137 := rdA_fr (k := 10) (j := 1) gq2 c0 t_p0 (κ' := 60) rfl rfl rfl
                          have a12139 := zi_and p2 8 (by decide)
                          exact sw_some ⟨cs11, fs11, (by (try simp only [zp, zo, zq] at u11064 xq2 h11065 xq12 h11078 xq14 a11098 u11099 h11100 h11101 h11102 h11103 a11358 h11359 h11604 h11849 w12094 w12095 r12096 r12097 r12098 h12099 h12119 h12120 w12121 w12124 w12123 w12125 w12127 w12129 w12128 w12131 w12133 w12132 w12134 w12138 w12137 a12139 ⊢) <;> (try simp only [zz, Int32.reduceToInt, ne_eq] at u11064 xq2 h11065 xq12 h11078 xq14 a11098 u11099 h11100 h11101 h11102 h11103 a11358 h11359 h11604 h11849 w12094 w12095 r12096 r12097 r12098 h12099 h12119 h12120 w12121 w12124 w12123 w12125 w12127 w12129 w12128 w12131 w12133 w12132 w12134 w12138 w12137 a12139 ⊢) <;> (try simp (disch := omega) only [zb] at u11064 xq2 h11065 xq12 h11078 xq14 a11098 u11099 h11100 h11101 h11102 h11103 a11358 h11359 h11604 h11849 w12094 w12095 r12096 r12097 r12098 h12099 h12119 h12120 w12121 w12124 w12123 w12125 w12127 w12129 w12128 w12131 w12133 w12132 w12134 w12138 w12137 a12139 ⊢) <;> first | omega | ((try simp (disch := omega) only [zb] at u11064 xq2 h11065 xq12 h11078 xq14 a11098 u11099 h11100 h11101 h11102 h11103 a11358 h11359 h11604 h11849 w12094 w12095 r12096 r12097 r12098 h12099 h12119 h12120 w12121 w12124 w12123 w12125 w12127 w12129 w12128 w12131 w12133 w12132 w12134 w12138 w12137 a12139 ⊢) <;> omega))⟩
                        · unfold fX9_pair_250
                          refine sw_ite (fun h12140 => ?_) (fun h12140 => ?_)
                          · unfold fX9_pair_264
                            refine sw_ite (fun h12141 => ?_) (fun h12141 => ?_)
                            · have w12142 : mm_I s11 p0 0 = mm_I q2.2 p0 0 := by rw [← es11]; exact rd_k t_p0 tq5 (by decide)
                              have w12145 : rdA s11 p0 9 0 = mm_I s11 q17 ((0 : Int32)).toNatClampNeg := rdA_eq eq17
                              have w12144 : rdA s11 p0 9 0 = rdA q2.2 p0 9 0 := by rw [← es11]; exact rdA_k cq2 t_p0 (κ' := 59) rfl tq5 (by decide)
                              have w12146 := rdA_fr (k := 9) (j := 0) gq2 c0 t_p0 (κ' := 59) rfl rfl rfl
                              have w12148 : rdA s11 p0 10 0 = rdA q2.2 p0 10 0 := by rw [← es11]; exact rdA_j (by decide)
                              have w12150 : rdA q2.2 p0 10 0 = mm_I q2.2 q5 ((0 : Int32)).toNatClampNeg := rdA_eq eq5
                              have w12149 := rdA_fr (k := 10) (j := 0) gq2 c0 t_p0 (κ' := 60) rfl rfl rfl
                              have w12152 : rdA s11 p0 10 1 = -1 := by rw [← es11]; exact rdA_self eq5
                              have w12154 : rdA s11 p0 9 1 = mm_I s11 q17 ((1 : Int32)).toNatClampNeg := rdA_eq eq17
                              have w12153 : rdA s11 p0 9 1 = rdA q2.2 p0 9 1 := by rw [← es11]; exact rdA_k cq2 t_p0 (κ' := 59) rfl tq5 (by decide)
                              have w12155 := rdA_fr (k := 9) (j := 1) gq2 c0 t_p0 (κ' := 59) rfl rfl rfl
                              have w12159 : rdA q2.2 p0 10 1 = mm_I q2.2 q5 ((1 : Int32)).toNatClampNeg := rdA_eq eq5
                              have w12158 := rdA_fr (k := 10) (j := 1) gq2 c0 t_p0 (κ' := 60) rfl rfl rfl
                              have a12160 := zi_and p2 8 (by decide)
                              exact sw_some ⟨cs11, fs11, (by (try simp only [zp, zo, zq] at u11064 xq2 h11065 xq12 h11078 xq14 a11098 u11099 h11100 h11101 h11102 h11103 a11358 h11359 h11604 h11849 w12094 w12095 r12096 r12097 r12098 h12099 h12119 h12120 h12140 h12141 w12142 w12145 w12144 w12146 w12148 w12150 w12149 w12152 w12154 w12153 w12155 w12159 w12158 a12160 ⊢) <;> (try simp only [zz, Int32.reduceToInt, ne_eq] at u11064 xq2 h11065 xq12 h11078 xq14 a11098 u11099 h11100 h11101 h11102 h11103 a11358 h11359 h11604 h11849 w12094 w12095 r12096 r12097 r12098 h12099 h12119 h12120 h12140 h12141 w12142 w12145 w12144 w12146 w12148 w12150 w12149 w12152 w12154 w12153 w12155 w12159 w12158 a12160 ⊢) <;> (try simp (disch := omega) only [zb] at u11064 xq2 h11065 xq12 h11078 xq14 a11098 u11099 h11100 h11101 h11102 h11103 a11358 h11359 h11604 h11849 w12094 w12095 r12096 r12097 r12098 h12099 h12119 h12120 h12140 h12141 w12142 w12145 w12144 w12146 w12148 w12150 w12149 w12152 w12154 w12153 w12155 w12159 w12158 a12160 ⊢) <;> first | omega | ((try simp (disch := omega) only [zb] at u11064 xq2 h11065 xq12 h11078 xq14 a11098 u11099 h11100 h11101 h11102 h11103 a11358 h11359 h11604 h11849 w12094 w12095 r12096 r12097 r12098 h12099 h12119 h12120 h12140 h12141 w12142 w12145 w12144 w12146 w12148 w12150 w12149 w12152 w12154 w12153 w12155 w12159 w12158 a12160 ⊢) <;> omega))⟩
                            · refine sw_sh (ci_sh cs11 t_p0 rfl) ?_
                              refine sw_on (sX9_put cs11 t_p0 (by (try simp only [zp, zo, zq] at u11064 xq2 h11065 xq12 h11078 xq14 a11098 u11099 h11100 h11101 h11102 h11103 a11358 h11359 h11604 h11849 w12094 w12095 r12096 r12097 r12098 h12099 h12119 h12120 h12140 h12141 ⊢) <;> (try simp only [zz, Int32.reduceToInt, ne_eq] at u11064 xq2 h11065 xq12 h11078 xq14 a11098 u11099 h11100 h11101 h11102 h11103 a11358 h11359 h11604 h11849 w12094 w12095 r12096 r12097 r12098 h12099 h12119 h12120 h12140 h12141 ⊢) <;> (try simp (disch := omega) only [zb] at u11064 xq2 h11065 xq12 h11078 xq14 a11098 u11099 h11100 h11101 h11102 h11103 a11358 h11359 h11604 h11849 w12094 w12095 r12096 r12097 r12098 h12099 h12119 h12120 h12140 h12141 ⊢) <;> first | omega | ((try simp (disch := omega) only [zb] at u11064 xq2 h11065 xq12 h11078 xq14 a11098 u11099 h11100 h11101 h11102 h11103 a11358 h11359 h11604 h11849 w12094 w12095 r12096 r12097 r12098 h12099 h12119 h12120 h12140 h12141 ⊢) <;> omega)) ) ?_
                              intro q28 hqq28
                              obtain ⟨cq28, gq28, xq28⟩ := hqq28
                              have fq28 := fr_trans fs11 gq28 rfl
                              have w12161 := (gq28.2.2 _ _ t_p0 0 rfl).1
                              have w12162 : mm_I s11 p0 0 = mm_I q2.2 p0 0 := by rw [← es11]; exact rd_k t_p0 tq5 (by decide)
                              have w12164 := rdA_fr (k := 9) (j := 0) gq28 cs11 t_p0 (κ' := 59) rfl rfl rfl
                              have w12166 : rdA s11 p0 9 0 = mm_I s11 q17 ((0 : Int32)).toNatClampNeg := rdA_eq eq17
                              have w12165 : rdA s11 p0 9 0 = rdA q2.2 p0 9 0 := by rw [← es11]; exact rdA_k cq2 t_p0 (κ' := 59) rfl tq5 (by decide)
                              have w12167 := rdA_fr (k := 9) (j := 0) gq2 c0 t_p0 (κ' := 59) rfl rfl rfl
                              have w12169 := rdA_fr (k := 10) (j := 0) gq28 cs11 t_p0 (κ' := 60) rfl rfl rfl
                              have w12170 : rdA s11 p0 10 0 = rdA q2.2 p0 10 0 := by rw [← es11]; exact rdA_j (by decide)
                              have w12172 : rdA q2.2 p0 10 0 = mm_I q2.2 q5 ((0 : Int32)).toNatClampNeg := rdA_eq eq5
                              have w12171 := rdA_fr (k := 10) (j := 0) gq2 c0 t_p0 (κ' := 60) rfl rfl rfl
                              have w12174 := rdA_fr (k := 10) (j := 1) gq28 cs11 t_p0 (κ' := 60) rfl rfl rfl
                              have w12175 : rdA s11 p0 10 1 = -1 := by rw [← es11]; exact rdA_self eq5
                              have w12176 := rdA_fr (k := 9) (j := 1) gq28 cs11 t_p0 (κ' := 59) rfl rfl rfl
                              have w12178 : rdA s11 p0 9 1 = mm_I s11 q17 ((1 : Int32)).toNatClampNeg := rdA_eq eq17
                              have w12177 : rdA s11 p0 9 1 = rdA q2.2 p0 9 1 := by rw [← es11]; exact rdA_k cq2 t_p0 (κ' := 59) rfl tq5 (by decide)
                              have w12179 := rdA_fr (k := 9) (j := 1) gq2 c0 t_p0 (κ' := 59) rfl rfl rfl
                              have w12183 : rdA q2.2 p0 10 1 = mm_I q2.2 q5 ((1 : Int32)).toNatClampNeg := rdA_eq eq5
                              have w12182 := rdA_fr (k := 10) (j := 1) gq2 c0 t_p0 (κ' := 60) rfl rfl rfl
                              have a12184 := zi_and p2 8 (by decide)
                              exact sw_some ⟨cq28, fq28, (by (try simp only [zp, zo, zq] at u11064 xq2 h11065 xq12 h11078 xq14 a11098 u11099 h11100 h11101 h11102 h11103 a11358 h11359 h11604 h11849 w12094 w12095 r12096 r12097 r12098 h12099 h12119 h12120 h12140 h12141 w12161 w12162 w12164 w12166 w12165 w12167 w12169 w12170 w12172 w12171 w12174 w12175 w12176 w12178 w12177 w12179 w12183 w12182 a12184 ⊢) <;> (try simp only [zz, Int32.reduceToInt, ne_eq] at u11064 xq2 h11065 xq12 h11078 xq14 a11098 u11099 h11100 h11101 h11102 h11103 a11358 h11359 h11604 h11849 w12094 w12095 r12096 r12097 r12098 h12099 h12119 h12120 h12140 h12141 w12161 w12162 w12164 w12166 w12165 w12167 w12169 w12170 w12172 w12171 w12174 w12175 w12176 w12178 w12177 w12179 w12183 w12182 a12184 ⊢) <;> (try simp (disch := omega) only [zb] at u11064 xq2 h11065 xq12 h11078 xq14 a11098 u11099 h11100 h11101 h11102 h11103 a11358 h11359 h11604 h11849 w12094 w12095 r12096 r12097 r12098 h12099 h12119 h12120 h12140 h12141 w12161 w12162 w12164 w12166 w12165 w12167 w12169 w12170 w12172 w12171 w12174 w12175 w12176 w12178 w12177 w12179 w12183 w12182 a12184 ⊢) <;> first | omega | ((try simp (disch := omega) only [zb] at u11064 xq2 h11065 xq12 h11078 xq14 a11098 u11099 h11100 h11101 h11102 h11103 a11358 h11359 h11604 h11849 w12094 w12095 r12096 r12097 r12098 h12099 h12119 h12120 h12140 h12141 w12161 w12162 w12164 w12166 w12165 w12167 w12169 w12170 w12172 w12171 w12174 w12175 w12176 w12178 w12177 w12179 w12183 w12182 a12184 ⊢) <;> omega))⟩
                          · refine sw_sh (ci_sh cs11 t_p0 rfl) ?_
                            refine sw_on (sX9_put cs11 t_p0 (by (try simp only [zp, zo, zq] at u11064 xq2 h11065 xq12 h11078 xq14 a11098 u11099 h11100 h11101 h11102 h11103 a11358 h11359 h11604 h11849 w12094 w12095 r12096 r12097 r12098 h12099 h12119 h12120 h12140 ⊢) <;> (try simp only [zz, Int32.reduceToInt, ne_eq] at u11064 xq2 h11065 xq12 h11078 xq14 a11098 u11099 h11100 h11101 h11102 h11103 a11358 h11359 h11604 h11849 w12094 w12095 r12096 r12097 r12098 h12099 h12119 h12120 h12140 ⊢) <;> (try simp (disch := omega) only [zb] at u11064 xq2 h11065 xq12 h11078 xq14 a11098 u11099 h11100 h11101 h11102 h11103 a11358 h11359 h11604 h11849 w12094 w12095 r12096 r12097 r12098 h12099 h12119 h12120 h12140 ⊢) <;> first | omega | ((try simp (disch := omega) only [zb] at u11064 xq2 h11065 xq12 h11078 xq14 a11098 u11099 h11100 h11101 h11102 h11103 a11358 h11359 h11604 h11849 w12094 w12095 r12096 r12097 r12098 h12099 h12119 h12120 h12140 ⊢) <;> omega)) ) ?_
                            intro q30 hqq30
                            obtain ⟨cq30, gq30, xq30⟩ := hqq30
                            have fq30 := fr_trans fs11 gq30 rfl
                            unfold fX9_pair_264
                            refine sw_ite (fun h12185 => ?_) (fun h12185 => ?_)
                            · have w12186 := (gq30.2.2 _ _ t_p0 0 rfl).1
                              have w12187 : mm_I s11 p0 0 = mm_I q2.2 p0 0 := by rw [← es11]; exact rd_k t_p0 tq5 (by decide)
                              have w12189 := rdA_fr (k := 9) (j := 0) gq30 cs11 t_p0 (κ' := 59) rfl rfl rfl
                              have w12191 : rdA s11 p0 9 0 = mm_I s11 q17 ((0 : Int32)).toNatClampNeg := rdA_eq eq17
                              have w12190 : rdA s11 p0 9 0 = rdA q2.2 p0 9 0 := by rw [← es11]; exact rdA_k cq2 t_p0 (κ' := 59) rfl tq5 (by decide)
                              have w12192 := rdA_fr (k := 9) (j := 0) gq2 c0 t_p0 (κ' := 59) rfl rfl rfl
                              have w12194 := rdA_fr (k := 10) (j := 0) gq30 cs11 t_p0 (κ' := 60) rfl rfl rfl
                              have w12195 : rdA s11 p0 10 0 = rdA q2.2 p0 10 0 := by rw [← es11]; exact rdA_j (by decide)
                              have w12197 : rdA q2.2 p0 10 0 = mm_I q2.2 q5 ((0 : Int32)).toNatClampNeg := rdA_eq eq5
                              have w12196 := rdA_fr (k := 10) (j := 0) gq2 c0 t_p0 (κ' := 60) rfl rfl rfl
                              have w12199 := rdA_fr (k := 10) (j := 1) gq30 cs11 t_p0 (κ' := 60) rfl rfl rfl
                              have w12200 : rdA s11 p0 10 1 = -1 := by rw [← es11]; exact rdA_self eq5
                              have w12201 := rdA_fr (k := 9) (j := 1) gq30 cs11 t_p0 (κ' := 59) rfl rfl rfl
                              have w12203 : rdA s11 p0 9 1 = mm_I s11 q17 ((1 : Int32)).toNatClampNeg := rdA_eq eq17
                              have w12202 : rdA s11 p0 9 1 = rdA q2.2 p0 9 1 := by rw [← es11]; exact rdA_k cq2 t_p0 (κ' := 59) rfl tq5 (by decide)
                              have w12204 := rdA_fr (k := 9) (j := 1) gq2 c0 t_p0 (κ' := 59) rfl rfl rfl
                              have w12208 : rdA q2.2 p0 10 1 = mm_I q2.2 q5 ((1 : Int32)).toNatClampNeg := rdA_eq eq5
                              have w12207 := rdA_fr (k := 10) (j := 1) gq2 c0 t_p0 (κ' := 60) rfl rfl rfl
                              have a12209 := zi_and p2 8 (by decide)
                              exact sw_some ⟨cq30, fq30, (by (try simp only [zp, zo, zq] at u11064 xq2 h11065 xq12 h11078 xq14 a11098 u11099 h11100 h11101 h11102 h11103 a11358 h11359 h11604 h11849 w12094 w12095 r12096 r12097 r12098 h12099 h12119 h12120 h12140 h12185 w12186 w12187 w12189 w12191 w12190 w12192 w12194 w12195 w12197 w12196 w12199 w12200 w12201 w12203 w12202 w12204 w12208 w12207 a12209 ⊢) <;> (try simp only [zz, Int32.reduceToInt, ne_eq] at u11064 xq2 h11065 xq12 h11078 xq14 a11098 u11099 h11100 h11101 h11102 h11103 a11358 h11359 h11604 h11849 w12094 w12095 r12096 r12097 r12098 h12099 h12119 h12120 h12140 h12185 w12186 w12187 w12189 w12191 w12190 w12192 w12194 w12195 w12197 w12196 w12199 w12200 w12201 w12203 w12202 w12204 w12208 w12207 a12209 ⊢) <;> (try simp (disch := omega) only [zb] at u11064 xq2 h11065 xq12 h11078 xq14 a11098 u11099 h11100 h11101 h11102 h11103 a11358 h11359 h11604 h11849 w12094 w12095 r12096 r12097 r12098 h12099 h12119 h12120 h12140 h12185 w12186 w12187 w12189 w12191 w12190 w12192 w12194 w12195 w12197 w12196 w12199 w12200 w12201 w12203 w12202 w12204 w12208 w12207 a12209 ⊢) <;> first | omega | ((try simp (disch := omega) only [zb] at u11064 xq2 h11065 xq12 h11078 xq14 a11098 u11099 h11100 h11101 h11102 h11103 a11358 h11359 h11604 h11849 w12094 w12095 r12096 r12097 r12098 h12099 h12119 h12120 h12140 h12185 w12186 w12187 w12189 w12191 w12190 w12192 w12194 w12195 w12197 w12196 w12199 w12200 w12201 w12203 w12202 w12204 w12208 w12207 a12209 ⊢) <;> omega))⟩
                            · refine sw_sh (ci_sh cq30 t_p0 rfl) ?_
                              refine sw_on (sX9_put cq30 t_p0 (by (try simp only [zp, zo, zq] at u11064 xq2 h11065 xq12 h11078 xq14 a11098 u11099 h11100 h11101 h11102 h11103 a11358 h11359 h11604 h11849 w12094 w12095 r12096 r12097 r12098 h12099 h12119 h12120 h12140 h12185 ⊢) <;> (try simp only [zz, Int32.reduceToInt, ne_eq] at u11064 xq2 h11065 xq12 h11078 xq14 a11098 u11099 h11100 h11101 h11102 h11103 a11358 h11359 h11604 h11849 w12094 w12095 r12096 r12097 r12098 h12099 h12119 h12120 h12140 h12185 ⊢) <;> (try simp (disch := omega) only [zb] at u11064 xq2 h11065 xq12 h11078 xq14 a11098 u11099 h11100 h11101 h11102 h11103 a11358 h11359 h11604 h11849 w12094 w12095 r12096 r12097 r12098 h12099 h12119 h12120 h12140 h12185 ⊢) <;> first | omega | ((try simp (disch := omega) only [zb] at u11064 xq2 h11065 xq12 h11078 xq14 a11098 u11099 h11100 h11101 h11102 h11103 a11358 h11359 h11604 h11849 w12094 w12095 r12096 r12097 r12098 h12099 h12119 h12120 h12140 h12185 ⊢) <;> omega)) ) ?_
                              intro q28 hqq28
                              obtain ⟨cq28, gq28, xq28⟩ := hqq28
                              have fq28 := fr_trans fq30 gq28 rfl
                              have w12210 := (gq28.2.2 _ _ t_p0 0 rfl).1
                              have w12211 := (gq30.2.2 _ _ t_p0 0 rfl).1
                              have w12212 : mm_I s11 p0 0 = mm_I q2.2 p0 0 := by rw [← es11]; exact rd_k t_p0 tq5 (by decide)
                              have w12214 := rdA_fr (k := 9) (j := 0) gq28 cq30 t_p0 (κ' := 59) rfl rfl rfl
                              have w12215 := rdA_fr (k := 9) (j := 0) gq30 cs11 t_p0 (κ' := 59) rfl rfl rfl
                              have w12217 : rdA s11 p0 9 0 = mm_I s11 q17 ((0 : Int32)).toNatClampNeg := rdA_eq eq17
                              have w12216 : rdA s11 p0 9 0 = rdA q2.2 p0 9 0 := by rw [← es11]; exact rdA_k cq2 t_p0 (κ' := 59) rfl tq5 (by decide)
                              have w12218 := rdA_fr (k := 9) (j := 0) gq2 c0 t_p0 (κ' := 59) rfl rfl rfl
                              have w12220 := rdA_fr (k := 10) (j := 0) gq28 cq30 t_p0 (κ' := 60) rfl rfl rfl
                              have w12221 := rdA_fr (k := 10) (j := 0) gq30 cs11 t_p0 (κ' := 60) rfl rfl rfl
                              have w12222 : rdA s11 p0 10 0 = rdA q2.2 p0 10 0 := by rw [← es11]; exact rdA_j (by decide)
                              have w12224 : rdA q2.2 p0 10 0 = mm_I q2.2 q5 ((0 : Int32)).toNatClampNeg := rdA_eq eq5
                              have w12223 := rdA_fr (k := 10) (j := 0) gq2 c0 t_p0 (κ' := 60) rfl rfl rfl
                              have w12226 := rdA_fr (k := 10) (j := 1) gq28 cq30 t_p0 (κ' := 60) rfl rfl rfl
                              have w12227 := rdA_fr (k := 10) (j := 1) gq30 cs11 t_p0 (κ' := 60) rfl rfl rfl
                              have w12228 : rdA s11 p0 10 1 = -1 := by rw [← es11]; exact rdA_self eq5
                              have w12229 := rdA_fr (k := 9) (j := 1) gq28 cq30 t_p0 (κ' := 59) rfl rfl rfl
                              have w12230 := rdA_fr (k := 9) (j := 1) gq30 cs11 t_p0 (κ' := 59) rfl rfl rfl
                              have w12232 : rdA s11 p0 9 1 = mm_I s11 q17 ((1 : Int32)).toNatClampNeg := rdA_eq eq17
                              have w12231 : rdA s11 p0 9 1 = rdA q2.2 p0 9 1 := by rw [← es11]; exact rdA_k cq2 t_p0 (κ' := 59) rfl tq5 (by decide)
                              have w12233 := rdA_fr (k := 9) (j := 1) gq2 c0 t_p0 (κ' := 59) rfl rfl rfl
                              have w12237 : rdA q2.2 p0 10 1 = mm_I q2.2 q5 ((1 : Int32)).toNatClampNeg := rdA_eq eq5
                              have w12236 := rdA_fr (k := 10) (j := 1) gq2 c0 t_p0 (κ' := 60) rfl rfl rfl
                              have a12238 := zi_and p2 8 (by decide)
                              exact sw_some ⟨cq28, fq28, (by (try simp only [zp, zo, zq] at u11064 xq2 h11065 xq12 h11078 xq14 a11098 u11099 h11100 h11101 h11102 h11103 a11358 h11359 h11604 h11849 w12094 w12095 r12096 r12097 r12098 h12099 h12119 h12120 h12140 h12185 w12210 w12211 w12212 w12214 w12215 w12217 w12216 w12218 w12220 w12221 w12222 w12224 w12223 w12226 w12227 w12228 w12229 w12230 w12232 w12231 w12233 w12237 w12236 a12238 ⊢) <;> (try simp only [zz, Int32.reduceToInt, ne_eq] at u11064 xq2 h11065 xq12 h11078 xq14 a11098 u11099 h11100 h11101 h11102 h11103 a11358 h11359 h11604 h11849 w12094 w12095 r12096 r12097 r12098 h12099 h12119 h12120 h12140 h12185 w12210 w12211 w12212 w12214 w12215 w12217 w12216 w12218 w12220 w12221 w12222 w12224 w12223 w12226 w12227 w12228 w12229 w12230 w12232 w12231 w12233 w12237 w12236 a12238 ⊢) <;> (try simp (disch := omega) only [zb] at u11064 xq2 h11065 xq12 h11078 xq14 a11098 u11099 h11100 h11101 h11102 h11103 a11358 h11359 h11604 h11849 w12094 w12095 r12096 r12097 r12098 h12099 h12119 h12120 h12140 h12185 w12210 w12211 w12212 w12214 w12215 w12217 w12216 w12218 w12220 w12221 w12222 w12224 w12223 w12226 w12227 w12228 w12229 w12230 w12232 w12231 w12233 w12237 w12236 a12238 ⊢) <;> first | omega | ((try simp (disch := omega) only [zb] at u11064 xq2 h11065 xq12 h11078 xq14 a11098 u11099 h11100 h11101 h11102 h11103 a11358 h11359 h11604 h11849 w12094 w12095 r12096 r12097 r12098 h12099 h12119 h12120 h12140 h12185 w12210 w12211 w12212 w12214 w12215 w12217 w12216 w12218 w12220 w12221 w12222 w12224 w12223 w12226 w12227 w12228 w12229 w12230 w12232 w12231 w12233 w12237 w12236 a12238 ⊢) <;> omega))⟩
                      · unfold fX9_pair_250
                        refine sw_ite (fun h12239 => ?_) (fun h12239 => ?_)
                        · unfold fX9_pair_264
                          refine sw_ite (fun h12240 => ?_) (fun h12240 => ?_)
                          · have w12241 : mm_I s11 p0 0 = mm_I q2.2 p0 0 := by rw [← es11]; exact rd_k t_p0 tq5 (by decide)
                            have w12244 : rdA s11 p0 9 0 = mm_I s11 q17 ((0 : Int32)).toNatClampNeg := rdA_eq eq17
                            have w12243 : rdA s11 p0 9 0 = rdA q2.2 p0 9 0 := by rw [← es11]; exact rdA_k cq2 t_p0 (κ' := 59) rfl tq5 (by decide)
                            have w12245 := rdA_fr (k := 9) (j := 0) gq2 c0 t_p0 (κ' := 59) rfl rfl rfl
                            have w12247 : rdA s11 p0 10 0 = rdA q2.2 p0 10 0 := by rw [← es11]; exact rdA_j (by decide)
                            have w12249 : rdA q2.2 p0 10 0 = mm_I q2.2 q5 ((0 : Int32)).toNatClampNeg := rdA_eq eq5
                            have w12248 := rdA_fr (k := 10) (j := 0) gq2 c0 t_p0 (κ' := 60) rfl rfl rfl
                            have w12251 : rdA s11 p0 10 1 = -1 := by rw [← es11]; exact rdA_self eq5
                            have w12253 : rdA s11 p0 9 1 = mm_I s11 q17 ((1 : Int32)).toNatClampNeg := rdA_eq eq17
                            have w12252 : rdA s11 p0 9 1 = rdA q2.2 p0 9 1 := by rw [← es11]; exact rdA_k cq2 t_p0 (κ' := 59) rfl tq5 (by decide)
                            have w12254 := rdA_fr (k := 9) (j := 1) gq2 c0 t_p0 (κ' := 59) rfl rfl rfl
                            have w12258 : rdA q2.2 p0 10 1 = mm_I q2.2 q5 ((1 : Int32)).toNatClampNeg := rdA_eq eq5
                            have w12257 := rdA_fr (k := 10) (j := 1) gq2 c0 t_p0 (κ' := 60) rfl rfl rfl
                            have a12259 := zi_and p2 8 (by decide)
                            exact sw_some ⟨cs11, fs11, (by (try simp only [zp, zo, zq] at u11064 xq2 h11065 xq12 h11078 xq14 a11098 u11099 h11100 h11101 h11102 h11103 a11358 h11359 h11604 h11849 w12094 w12095 r12096 r12097 r12098 h12099 h12119 h12239 h12240 w12241 w12244 w12243 w12245 w12247 w12249 w12248 w12251 w12253 w12252 w12254 w12258 w12257 a12259 ⊢) <;> (try simp only [zz, Int32.reduceToInt, ne_eq] at u11064 xq2 h11065 xq12 h11078 xq14 a11098 u11099 h11100 h11101 h11102 h11103 a11358 h11359 h11604 h11849 w12094 w12095 r12096 r12097 r12098 h12099 h12119 h12239 h12240 w12241 w12244 w12243 w12245 w12247 w12249 w12248 w12251 w12253 w12252 w12254 w12258 w12257 a12259 ⊢) <;> (try simp (disch := omega) only [zb] at u11064 xq2 h11065 xq12 h11078 xq14 a11098 u11099 h11100 h11101 h11102 h11103 a11358 h11359 h11604 h11849 w12094 w12095 r12096 r12097 r12098 h12099 h12119 h12239 h12240 w12241 w12244 w12243 w12245 w12247 w12249 w12248 w12251 w12253 w12252 w12254 w12258 w12257 a12259 ⊢) <;> first | omega | ((try simp (disch := omega) only [zb] at u11064 xq2 h11065 xq12 h11078 xq14 a11098 u11099 h11100 h11101 h11102 h11103 a11358 h11359 h11604 h11849 w12094 w12095 r12096 r12097 r12098 h12099 h12119 h12239 h12240 w12241 w12244 w12243 w12245 w12247 w12249 w12248 w12251 w12253 w12252 w12254 w12258 w12257 a12259 ⊢) <;> omega))⟩
                          · refine sw_sh (ci_sh cs11 t_p0 rfl) ?_
                            refine sw_on (sX9_put cs11 t_p0 (by (try simp only [zp, zo, zq] at u11064 xq2 h11065 xq12 h11078 xq14 a11098 u11099 h11100 h11101 h11102 h11103 a11358 h11359 h11604 h11849 w12094 w12095 r12096 r12097 r12098 h12099 h12119 h12239 h12240 ⊢) <;> (try simp only [zz, Int32.reduceToInt, ne_eq] at u11064 xq2 h11065 xq12 h11078 xq14 a11098 u11099 h11100 h11101 h11102 h11103 a11358 h11359 h11604 h11849 w12094 w12095 r12096 r12097 r12098 h12099 h12119 h12239 h12240 ⊢) <;> (try simp (disch := omega) only [zb] at u11064 xq2 h11065 xq12 h11078 xq14 a11098 u11099 h11100 h11101 h11102 h11103 a11358 h11359 h11604 h11849 w12094 w12095 r12096 r12097 r12098 h12099 h12119 h12239 h12240 ⊢) <;> first | omega | ((try simp (disch := omega) only [zb] at u11064 xq2 h11065 xq12 h11078 xq14 a11098 u11099 h11100 h11101 h11102 h11103 a11358 h11359 h11604 h11849 w12094 w12095 r12096 r12097 r12098 h12099 h12119 h12239 h12240 ⊢) <;> omega)) ) ?_
                            intro q28 hqq28
                            obtain ⟨cq28, gq28, xq28⟩ := hqq28
                            have fq28 := fr_trans fs11 gq28 rfl
                            have w12260 := (gq28.2.2 _ _ t_p0 0 rfl).1
                            have w12261 : mm_I s11 p0 0 = mm_I q2.2 p0 0 := by rw [← es11]; exact rd_k t_p0 tq5 (by decide)
                            have w12263 := rdA_fr (k := 9) (j := 0) gq28 cs11 t_p0 (κ' := 59) rfl rfl rfl
                            have w12265 : rdA s11 p0 9 0 = mm_I s11 q17 ((0 : Int32)).toNatClampNeg := rdA_eq eq17
                            have w12264 : rdA s11 p0 9 0 = rdA q2.2 p0 9 0 := by rw [← es11]; exact rdA_k cq2 t_p0 (κ' := 59) rfl tq5 (by decide)
                            have w12266 := rdA_fr (k := 9) (j := 0) gq2 c0 t_p0 (κ' := 59) rfl rfl rfl
                            have w12268 := rdA_fr (k := 10) (j := 0) gq28 cs11 t_p0 (κ' := 60) rfl rfl rfl
                            have w12269 : rdA s11 p0 10 0 = rdA q2.2 p0 10 0 := by rw [← es11]; exact rdA_j (by decide)
                            have w12271 : rdA q2.2 p0 10 0 = mm_I q2.2 q5 ((0 : Int32)).toNatClampNeg := rdA_eq eq5
                            have w12270 := rdA_fr (k := 10) (j := 0) gq2 c0 t_p0 (κ' := 60) rfl rfl rfl
                            have w12273 := rdA_fr (k := 10) (j := 1) gq28 cs11 t_p0 (κ' := 60) rfl rfl rfl
                            have w12274 : rdA s11 p0 10 1 = -1 := by rw [← es11]; exact rdA_self eq5
                            have w12275 := rdA_fr (k := 9) (j := 1) gq28 cs11 t_p0 (κ' := 59) rfl rfl rfl
                            have w12277 : rdA s11 p0 9 1 = mm_I s11 q17 ((1 : Int32)).toNatClampNeg := rdA_eq eq17
                            have w12276 : rdA s11 p0 9 1 = rdA q2.2 p0 9 1 := by rw [← es11]; exact rdA_k cq2 t_p0 (κ' := 59) rfl tq5 (by decide)
                            have w12278 := rdA_fr (k := 9) (j := 1) gq2 c0 t_p0 (κ' := 59) rfl rfl rfl
                            have w12282 : rdA q2.2 p0 10 1 = mm_I q2.2 q5 ((1 : Int32)).toNatClampNeg := rdA_eq eq5
                            have w12281 := rdA_fr (k := 10) (j := 1) gq2 c0 t_p0 (κ' := 60) rfl rfl rfl
                            have a12283 := zi_and p2 8 (by decide)
                            exact sw_some ⟨cq28, fq28, (by (try simp only [zp, zo, zq] at u11064 xq2 h11065 xq12 h11078 xq14 a11098 u11099 h11100 h11101 h11102 h11103 a11358 h11359 h11604 h11849 w12094 w12095 r12096 r12097 r12098 h12099 h12119 h12239 h12240 w12260 w12261 w12263 w12265 w12264 w12266 w12268 w12269 w12271 w12270 w12273 w12274 w12275 w12277 w12276 w12278 w12282 w12281 a12283 ⊢) <;> (try simp only [zz, Int32.reduceToInt, ne_eq] at u11064 xq2 h11065 xq12 h11078 xq14 a11098 u11099 h11100 h11101 h11102 h11103 a11358 h11359 h11604 h11849 w12094 w12095 r12096 r12097 r12098 h12099 h12119 h12239 h12240 w12260 w12261 w12263 w12265 w12264 w12266 w12268 w12269 w12271 w12270 w12273 w12274 w12275 w12277 w12276 w12278 w12282 w12281 a12283 ⊢) <;> (try simp (disch := omega) only [zb] at u11064 xq2 h11065 xq12 h11078 xq14 a11098 u11099 h11100 h11101 h11102 h11103 a11358 h11359 h11604 h11849 w12094 w12095 r12096 r12097 r12098 h12099 h12119 h12239 h12240 w12260 w12261 w12263 w12265 w12264 w12266 w12268 w12269 w12271 w12270 w12273 w12274 w12275 w12277 w12276 w12278 w12282 w12281 a12283 ⊢) <;> first | omega | ((try simp (disch := omega) only [zb] at u11064 xq2 h11065 xq12 h11078 xq14 a11098 u11099 h11100 h11101 h11102 h11103 a11358 h11359 h11604 h11849 w12094 w12095 r12096 r12097 r12098 h12099 h12119 h12239 h12240 w12260 w12261 w12263 w12265 w12264 w12266 w12268 w12269 w12271 w12270 w12273 w12274 w12275 w12277 w12276 w12278 w12282 w12281 a12283 ⊢) <;> omega))⟩
                        · refine sw_sh (ci_sh cs11 t_p0 rfl) ?_
                          refine sw_on (sX9_put cs11 t_p0 (by (try simp only [zp, zo, zq] at u11064 xq2 h11065 xq12 h11078 xq14 a11098 u11099 h11100 h11101 h11102 h11103 a11358 h11359 h11604 h11849 w12094 w12095 r12096 r12097 r12098 h12099 h12119 h12239 ⊢) <;> (try simp only [zz, Int32.reduceToInt, ne_eq] at u11064 xq2 h11065 xq12 h11078 xq14 a11098 u11099 h11100 h11101 h11102 h11103 a11358 h11359 h11604 h11849 w12094 w12095 r12096 r12097 r12098 h12099 h12119 h12239 ⊢) <;> (try simp (disch := omega) only [zb] at u11064 xq2 h11065 xq12 h11078 xq14 a11098 u11099 h11100 h11101 h11102 h11103 a11358 h11359 h11604 h11849 w12094 w12095 r12096 r12097 r12098 h12099 h12119 h12239 ⊢) <;> first | omega | ((try simp (disch := omega) only [zb] at u11064 xq2 h11065 xq12 h11078 xq14 a11098 u11099 h11100 h11101 h11102 h11103 a11358 h11359 h11604 h11849 w12094 w12095 r12096 r12097 r12098 h12099 h12119 h12239 ⊢) <;> omega)) ) ?_
                          intro q30 hqq30
                          obtain ⟨cq30, gq30, xq30⟩ := hqq30
                          have fq30 := fr_trans fs11 gq30 rfl
                          unfold fX9_pair_264
                          refine sw_ite (fun h12284 => ?_) (fun h12284 => ?_)
                          · have w12285 := (gq30.2.2 _ _ t_p0 0 rfl).1
                            have w12286 : mm_I s11 p0 0 = mm_I q2.2 p0 0 := by rw [← es11]; exact rd_k t_p0 tq5 (by decide)
                            have w12288 := rdA_fr (k := 9) (j := 0) gq30 cs11 t_p0 (κ' := 59) rfl rfl rfl
                            have w12290 : rdA s11 p0 9 0 = mm_I s11 q17 ((0 : Int32)).toNatClampNeg := rdA_eq eq17
                            have w12289 : rdA s11 p0 9 0 = rdA q2.2 p0 9 0 := by rw [← es11]; exact rdA_k cq2 t_p0 (κ' := 59) rfl tq5 (by decide)
                            have w12291 := rdA_fr (k := 9) (j := 0) gq2 c0 t_p0 (κ' := 59) rfl rfl rfl
                            have w12293 := rdA_fr (k := 10) (j := 0) gq30 cs11 t_p0 (κ' := 60) rfl rfl rfl
                            have w12294 : rdA s11 p0 10 0 = rdA q2.2 p0 10 0 := by rw [← es11]; exact rdA_j (by decide)
                            have w12296 : rdA q2.2 p0 10 0 = mm_I q2.2 q5 ((0 : Int32)).toNatClampNeg := rdA_eq eq5
                            have w12295 := rdA_fr (k := 10) (j := 0) gq2 c0 t_p0 (κ' := 60) rfl rfl rfl
                            have w12298 := rdA_fr (k := 10) (j := 1) gq30 cs11 t_p0 (κ' := 60) rfl rfl rfl
                            have w12299 : rdA s11 p0 10 1 = -1 := by rw [← es11]; exact rdA_self eq5
                            have w12300 := rdA_fr (k := 9) (j := 1) gq30 cs11 t_p0 (κ' := 59) rfl rfl rfl
                            have w12302 : rdA s11 p0 9 1 = mm_I s11 q17 ((1 : Int32)).toNatClampNeg := rdA_eq eq17
                            have w12301 : rdA s11 p0 9 1 = rdA q2.2 p0 9 1 := by rw [← es11]; exact rdA_k cq2 t_p0 (κ' := 59) rfl tq5 (by decide)
                            have w12303 := rdA_fr (k := 9) (j := 1) gq2 c0 t_p0 (κ' := 59) rfl rfl rfl
                            have w12307 : rdA q2.2 p0 10 1 = mm_I q2.2 q5 ((1 : Int32)).toNatClampNeg := rdA_eq eq5
                            have w12306 := rdA_fr (k := 10) (j := 1) gq2 c0 t_p0 (κ' := 60) rfl rfl rfl
                            have a12308 := zi_and p2 8 (by decide)
                            exact sw_some ⟨cq30, fq30, (by (try simp only [zp, zo, zq] at u11064 xq2 h11065 xq12 h11078 xq14 a11098 u11099 h11100 h11101 h11102 h11103 a11358 h11359 h11604 h11849 w12094 w12095 r12096 r12097 r12098 h12099 h12119 h12239 h12284 w12285 w12286 w12288 w12290 w12289 w12291 w12293 w12294 w12296 w12295 w12298 w12299 w12300 w12302 w12301 w12303 w12307 w12306 a12308 ⊢) <;> (try simp only [zz, Int32.reduceToInt, ne_eq] at u11064 xq2 h11065 xq12 h11078 xq14 a11098 u11099 h11100 h11101 h11102 h11103 a11358 h11359 h11604 h11849 w12094 w12095 r12096 r12097 r12098 h12099 h12119 h12239 h12284 w12285 w12286 w12288 w12290 w12289 w12291 w12293 w12294 w12296 w12295 w12298 w12299 w12300 w12302 w12301 w12303 w12307 w12306 a12308 ⊢) <;> (try simp (disch := omega) only [zb] at u11064 xq2 h11065 xq12 h11078 xq14 a11098 u11099 h11100 h11101 h11102 h11103 a11358 h11359 h11604 h11849 w12094 w12095 r12096 r12097 r12098 h12099 h12119 h12239 h12284 w12285 w12286 w12288 w12290 w12289 w12291 w12293 w12294 w12296 w12295 w12298 w12299 w12300 w12302 w12301 w12303 w12307 w12306 a12308 ⊢) <;> first | omega | ((try simp (disch := omega) only [zb] at u11064 xq2 h11065 xq12 h11078 xq14 a11098 u11099 h11100 h11101 h11102 h11103 a11358 h11359 h11604 h11849 w12094 w12095 r12096 r12097 r12098 h12099 h12119 h12239 h12284 w12285 w12286 w12288 w12290 w12289 w12291 w12293 w12294 w12296 w12295 w12298 w12299 w12300 w12302 w12301 w12303 w12307 w12306 a12308 ⊢) <;> omega))⟩
                          · refine sw_sh (ci_sh cq30 t_p0 rfl) ?_
                            refine sw_on (sX9_put cq30 t_p0 (by (try simp only [zp, zo, zq] at u11064 xq2 h11065 xq12 h11078 xq14 a11098 u11099 h11100 h11101 h11102 h11103 a11358 h11359 h11604 h11849 w12094 w12095 r12096 r12097 r12098 h12099 h12119 h12239 h12284 ⊢) <;> (try simp only [zz, Int32.reduceToInt, ne_eq] at u11064 xq2 h11065 xq12 h11078 xq14 a11098 u11099 h11100 h11101 h11102 h11103 a11358 h11359 h11604 h11849 w12094 w12095 r12096 r12097 r12098 h12099 h12119 h12239 h12284 ⊢) <;> (try simp (disch := omega) only [zb] at u11064 xq2 h11065 xq12 h11078 xq14 a11098 u11099 h11100 h11101 h11102 h11103 a11358 h11359 h11604 h11849 w12094 w12095 r12096 r12097 r12098 h12099 h12119 h12239 h12284 ⊢) <;> first | omega | ((try simp (disch := omega) only [zb] at u11064 xq2 h11065 xq12 h11078 xq14 a11098 u11099 h11100 h11101 h11102 h11103 a11358 h11359 h11604 h11849 w12094 w12095 r12096 r12097 r12098 h12099 h12119 h12239 h12284 ⊢) <;> omega)) ) ?_
                            intro q28 hqq28
                            obtain ⟨cq28, gq28, xq28⟩ := hqq28
                            have fq28 := fr_trans fq30 gq28 rfl
                            have w12309 := (gq28.2.2 _ _ t_p0 0 rfl).1
                            have w12310 := (gq30.2.2 _ _ t_p0 0 rfl).1
                            have w12311 : mm_I s11 p0 0 = mm_I q2.2 p0 0 := by rw [← es11]; exact rd_k t_p0 tq5 (by decide)
                            have w12313 := rdA_fr (k := 9) (j := 0) gq28 cq30 t_p0 (κ' := 59) rfl rfl rfl
                            have w12314 := rdA_fr (k := 9) (j := 0) gq30 cs11 t_p0 (κ' := 59) rfl rfl rfl
                            have w12316 : rdA s11 p0 9 0 = mm_I s11 q17 ((0 : Int32)).toNatClampNeg := rdA_eq eq17
                            have w12315 : rdA s11 p0 9 0 = rdA q2.2 p0 9 0 := by rw [← es11]; exact rdA_k cq2 t_p0 (κ' := 59) rfl tq5 (by decide)
                            have w12317 := rdA_fr (k := 9) (j := 0) gq2 c0 t_p0 (κ' := 59) rfl rfl rfl
                            have w12319 := rdA_fr (k := 10) (j := 0) gq28 cq30 t_p0 (κ' := 60) rfl rfl rfl
                            have w12320 := rdA_fr (k := 10) (j := 0) gq30 cs11 t_p0 (κ' := 60) rfl rfl rfl
                            have w12321 : rdA s11 p0 10 0 = rdA q2.2 p0 10 0 := by rw [← es11]; exact rdA_j (by decide)
                            have w12323 : rdA q2.2 p0 10 0 = mm_I q2.2 q5 ((0 : Int32)).toNatClampNeg := rdA_eq eq5
                            have w12322 := rdA_fr (k := 10) (j := 0) gq2 c0 t_p0 (κ' := 60) rfl rfl rfl
                            have w12325 := rdA_fr (k := 10) (j := 1) gq28 cq30 t_p0 (κ' := 60) rfl rfl rfl
                            have w12326 := rdA_fr (k := 10) (j := 1) gq30 cs11 t_p0 (κ' := 60) rfl rfl rfl
                            have w12327 : rdA s11 p0 10 1 = -1 := by rw [← es11]; exact rdA_self eq5
                            have w12328 := rdA_fr (k := 9) (j := 1) gq28 cq30 t_p0 (κ' := 59) rfl rfl rfl
                            have w12329 := rdA_fr (k := 9) (j := 1) gq30 cs11 t_p0 (κ' := 59) rfl rfl rfl
                            have w12331 : rdA s11 p0 9 1 = mm_I s11 q17 ((1 : Int32)).toNatClampNeg := rdA_eq eq17
                            have w12330 : rdA s11 p0 9 1 = rdA q2.2 p0 9 1 := by rw [← es11]; exact rdA_k cq2 t_p0 (κ' := 59) rfl tq5 (by decide)
                            have w12332 := rdA_fr (k := 9) (j := 1) gq2 c0 t_p0 (κ' := 59) rfl rfl rfl
                            have w12336 : rdA q2.2 p0 10 1 = mm_I q2.2 q5 ((1 : Int32)).toNatClampNeg := rdA_eq eq5
                            have w12335 := rdA_fr (k := 10) (j := 1) gq2 c0 t_p0 (κ' := 60) rfl rfl rfl
                            have a12337 := zi_and p2 8 (by decide)
                            exact sw_some ⟨cq28, fq28, (by (try simp only [zp, zo, zq] at u11064 xq2 h11065 xq12 h11078 xq14 a11098 u11099 h11100 h11101 h11102 h11103 a11358 h11359 h11604 h11849 w12094 w12095 r12096 r12097 r12098 h12099 h12119 h12239 h12284 w12309 w12310 w12311 w12313 w12314 w12316 w12315 w12317 w12319 w12320 w12321 w12323 w12322 w12325 w12326 w12327 w12328 w12329 w12331 w12330 w12332 w12336 w12335 a12337 ⊢) <;> (try simp only [zz, Int32.reduceToInt, ne_eq] at u11064 xq2 h11065 xq12 h11078 xq14 a11098 u11099 h11100 h11101 h11102 h11103 a11358 h11359 h11604 h11849 w12094 w12095 r12096 r12097 r12098 h12099 h12119 h12239 h12284 w12309 w12310 w12311 w12313 w12314 w12316 w12315 w12317 w12319 w12320 w12321 w12323 w12322 w12325 w12326 w12327 w12328 w12329 w12331 w12330 w12332 w12336 w12335 a12337 ⊢) <;> (try simp (disch := omega) only [zb] at u11064 xq2 h11065 xq12 h11078 xq14 a11098 u11099 h11100 h11101 h11102 h11103 a11358 h11359 h11604 h11849 w12094 w12095 r12096 r12097 r12098 h12099 h12119 h12239 h12284 w12309 w12310 w12311 w12313 w12314 w12316 w12315 w12317 w12319 w12320 w12321 w12323 w12322 w12325 w12326 w12327 w12328 w12329 w12331 w12330 w12332 w12336 w12335 a12337 ⊢) <;> first | omega | ((try simp (disch := omega) only [zb] at u11064 xq2 h11065 xq12 h11078 xq14 a11098 u11099 h11100 h11101 h11102 h11103 a11358 h11359 h11604 h11849 w12094 w12095 r12096 r12097 r12098 h12099 h12119 h12239 h12284 w12309 w12310 w12311 w12313 w12314 w12316 w12315 w12317 w12319 w12320 w12321 w12323 w12322 w12325 w12326 w12327 w12328 w12329 w12331 w12330 w12332 w12336 w12335 a12337 ⊢) <;> omega))⟩
          · refine sw_ite (fun h12338 => ?_) (fun h12338 => ?_)
            · unfold fX9_pair_228
              have w12339 : mm_I s11 q17 ((1 : Int32).toNatClampNeg) = mm_I q2.2 q17 ((1 : Int32).toNatClampNeg) := by rw [← es11]; exact rd_k tq17 tq5 (by decide)
              have w12340 := (gq2.2.2 _ _ tq17 ((1 : Int32).toNatClampNeg) rfl).1
              have r12341 := ci_rg c0 tq17 ((1 : Int32).toNatClampNeg) (lo := (-1)) (hi := 3) rfl
              have r12342 := ci_rg cq2 tq17 ((1 : Int32).toNatClampNeg) (lo := (-1)) (hi := 3) rfl
              have r12343 := ci_rg cs11 tq17 ((1 : Int32).toNatClampNeg) (lo := (-1)) (hi := 3) rfl
              refine sw_ite (fun h12344 => ?_) (fun h12344 => ?_)
              · have w12345 : mm_I s11 p0 0 = mm_I q2.2 p0 0 := by rw [← es11]; exact rd_k t_p0 tq5 (by decide)
                have w12348 : rdA s11 p0 9 0 = mm_I s11 q17 ((0 : Int32)).toNatClampNeg := rdA_eq eq17
                have w12347 : rdA s11 p0 9 0 = rdA q2.2 p0 9 0 := by rw [← es11]; exact rdA_k cq2 t_p0 (κ' := 59) rfl tq5 (by decide)
                have w12349 := rdA_fr (k := 9) (j := 0) gq2 c0 t_p0 (κ' := 59) rfl rfl rfl
                have w12351 : rdA s11 p0 10 0 = rdA q2.2 p0 10 0 := by rw [← es11]; exact rdA_j (by decide)
                have w12353 : rdA q2.2 p0 10 0 = mm_I q2.2 q5 ((0 : Int32)).toNatClampNeg := rdA_eq eq5
                have w12352 := rdA_fr (k := 10) (j := 0) gq2 c0 t_p0 (κ' := 60) rfl rfl rfl
                have w12355 : rdA s11 p0 10 1 = -1 := by rw [← es11]; exact rdA_self eq5
                have w12357 : rdA s11 p0 9 1 = mm_I s11 q17 ((1 : Int32)).toNatClampNeg := rdA_eq eq17
                have w12356 : rdA s11 p0 9 1 = rdA q2.2 p0 9 1 := by rw [← es11]; exact rdA_k cq2 t_p0 (κ' := 59) rfl tq5 (by decide)
                have w12358 := rdA_fr (k := 9) (j := 1) gq2 c0 t_p0 (κ' := 59) rfl rfl rfl
                have w12362 : rdA q2.2 p0 10 1 = mm_I q2.2 q5 ((1 : Int32)).toNatClampNeg := rdA_eq eq5
                have w12361 := rdA_fr (k := 10) (j := 1) gq2 c0 t_p0 (κ' := 60) rfl rfl rfl
                have a12363 := zi_and p3 127 (by decide)
                have a12364 := zi_and p2 8 (by decide)
                exact sw_some ⟨cs11, fs11, (by (try simp only [zp, zo, zq] at u11064 xq2 h11065 xq12 h11078 xq14 a11098 u11099 h11100 h11101 h11102 h12338 w12339 w12340 r12341 r12342 r12343 h12344 w12345 w12348 w12347 w12349 w12351 w12353 w12352 w12355 w12357 w12356 w12358 w12362 w12361 a12363 a12364 ⊢) <;> (try simp only [zz, Int32.reduceToInt, ne_eq] at u11064 xq2 h11065 xq12 h11078 xq14 a11098 u11099 h11100 h11101 h11102 h12338 w12339 w12340 r12341 r12342 r12343 h12344 w12345 w12348 w12347 w12349 w12351 w12353 w12352 w12355 w12357 w12356 w12358 w12362 w12361 a12363 a12364 ⊢) <;> (try simp (disch := omega) only [zb] at u11064 xq2 h11065 xq12 h11078 xq14 a11098 u11099 h11100 h11101 h11102 h12338 w12339 w12340 r12341 r12342 r12343 h12344 w12345 w12348 w12347 w12349 w12351 w12353 w12352 w12355 w12357 w12356 w12358 w12362 w12361 a12363 a12364 ⊢) <;> first | omega | ((try simp (disch := omega) only [zb] at u11064 xq2 h11065 xq12 h11078 xq14 a11098 u11099 h11100 h11101 h11102 h12338 w12339 w12340 r12341 r12342 r12343 h12344 w12345 w12348 w12347 w12349 w12351 w12353 w12352 w12355 w12357 w12356 w12358 w12362 w12361 a12363 a12364 ⊢) <;> omega))⟩
              · refine sw_ite (fun h12365 => ?_) (fun h12365 => ?_)
                · refine sw_ite (fun h12366 => ?_) (fun h12366 => ?_)
                  · have w12367 : mm_I s11 p0 0 = mm_I q2.2 p0 0 := by rw [← es11]; exact rd_k t_p0 tq5 (by decide)
                    have w12370 : rdA s11 p0 9 0 = mm_I s11 q17 ((0 : Int32)).toNatClampNeg := rdA_eq eq17
                    have w12369 : rdA s11 p0 9 0 = rdA q2.2 p0 9 0 := by rw [← es11]; exact rdA_k cq2 t_p0 (κ' := 59) rfl tq5 (by decide)
                    have w12371 := rdA_fr (k := 9) (j := 0) gq2 c0 t_p0 (κ' := 59) rfl rfl rfl
                    have w12373 : rdA s11 p0 10 0 = rdA q2.2 p0 10 0 := by rw [← es11]; exact rdA_j (by decide)
                    have w12375 : rdA q2.2 p0 10 0 = mm_I q2.2 q5 ((0 : Int32)).toNatClampNeg := rdA_eq eq5
                    have w12374 := rdA_fr (k := 10) (j := 0) gq2 c0 t_p0 (κ' := 60) rfl rfl rfl
                    have w12377 : rdA s11 p0 10 1 = -1 := by rw [← es11]; exact rdA_self eq5
                    have w12379 : rdA s11 p0 9 1 = mm_I s11 q17 ((1 : Int32)).toNatClampNeg := rdA_eq eq17
                    have w12378 : rdA s11 p0 9 1 = rdA q2.2 p0 9 1 := by rw [← es11]; exact rdA_k cq2 t_p0 (κ' := 59) rfl tq5 (by decide)
                    have w12380 := rdA_fr (k := 9) (j := 1) gq2 c0 t_p0 (κ' := 59) rfl rfl rfl
                    have w12384 : rdA q2.2 p0 10 1 = mm_I q2.2 q5 ((1 : Int32)).toNatClampNeg := rdA_eq eq5
                    have w12383 := rdA_fr (k := 10) (j := 1) gq2 c0 t_p0 (κ' := 60) rfl rfl rfl
                    have a12385 := zi_and p3 127 (by decide)
                    have a12386 := zi_and p2 8 (by decide)
                    exact sw_some ⟨cs11, fs11, (by (try simp only [zp, zo, zq] at u11064 xq2 h11065 xq12 h11078 xq14 a11098 u11099 h11100 h11101 h11102 h12338 w12339 w12340 r12341 r12342 r12343 h12344 h12365 h12366 w12367 w12370 w12369 w12371 w12373 w12375 w12374 w12377 w12379 w12378 w12380 w12384 w12383 a12385 a12386 ⊢) <;> (try simp only [zz, Int32.reduceToInt, ne_eq] at u11064 xq2 h11065 xq12 h11078 xq14 a11098 u11099 h11100 h11101 h11102 h12338 w12339 w12340 r12341 r12342 r12343 h12344 h12365 h12366 w12367 w12370 w12369 w12371 w12373 w12375 w12374 w12377 w12379 w12378 w12380 w12384 w12383 a12385 a12386 ⊢) <;> (try simp (disch := omega) only [zb] at u11064 xq2 h11065 xq12 h11078 xq14 a11098 u11099 h11100 h11101 h11102 h12338 w12339 w12340 r12341 r12342 r12343 h12344 h12365 h12366 w12367 w12370 w12369 w12371 w12373 w12375 w12374 w12377 w12379 w12378 w12380 w12384 w12383 a12385 a12386 ⊢) <;> first | omega | ((try simp (disch := omega) only [zb] at u11064 xq2 h11065 xq12 h11078 xq14 a11098 u11099 h11100 h11101 h11102 h12338 w12339 w12340 r12341 r12342 r12343 h12344 h12365 h12366 w12367 w12370 w12369 w12371 w12373 w12375 w12374 w12377 w12379 w12378 w12380 w12384 w12383 a12385 a12386 ⊢) <;> omega))⟩
                  · unfold fX9_pair_250
                    refine sw_ite (fun h12387 => ?_) (fun h12387 => ?_)
                    · unfold fX9_pair_264
                      refine sw_ite (fun h12388 => ?_) (fun h12388 => ?_)
                      · have w12389 : mm_I s11 p0 0 = mm_I q2.2 p0 0 := by rw [← es11]; exact rd_k t_p0 tq5 (by decide)
                        have w12392 : rdA s11 p0 9 0 = mm_I s11 q17 ((0 : Int32)).toNatClampNeg := rdA_eq eq17
                        have w12391 : rdA s11 p0 9 0 = rdA q2.2 p0 9 0 := by rw [← es11]; exact rdA_k cq2 t_p0 (κ' := 59) rfl tq5 (by decide)
                        have w12393 := rdA_fr (k := 9) (j := 0) gq2 c0 t_p0 (κ' := 59) rfl rfl rfl
                        have w12395 : rdA s11 p0 10 0 = rdA q2.2 p0 10 0 := by rw [← es11]; exact rdA_j (by decide)
                        have w12397 : rdA q2.2 p0 10 0 = mm_I q2.2 q5 ((0 : Int32)).toNatClampNeg := rdA_eq eq5
                        have w12396 := rdA_fr (k := 10) (j := 0) gq2 c0 t_p0 (κ' := 60) rfl rfl rfl
                        have w12399 : rdA s11 p0 10 1 = -1 := by rw [← es11]; exact rdA_self eq5
                        have w12401 : rdA s11 p0 9 1 = mm_I s11 q17 ((1 : Int32)).toNatClampNeg := rdA_eq eq17
                        have w12400 : rdA s11 p0 9 1 = rdA q2.2 p0 9 1 := by rw [← es11]; exact rdA_k cq2 t_p0 (κ' := 59) rfl tq5 (by decide)
                        have w12402 := rdA_fr (k := 9) (j := 1) gq2 c0 t_p0 (κ' := 59) rfl rfl rfl
                        have w12406 : rdA q2.2 p0 10 1 = mm_I q2.2 q5 ((1 : Int32)).toNatClampNeg := rdA_eq eq5
                        have w12405 := rdA_fr (k := 10) (j := 1) gq2 c0 t_p0 (κ' := 60) rfl rfl rfl
                        have a12407 := zi_and p3 127 (by decide)
                        have a12408 := zi_and p2 8 (by decide)
                        exact sw_some ⟨cs11, fs11, (by (try simp only [zp, zo, zq] at u11064 xq2 h11065 xq12 h11078 xq14 a11098 u11099 h11100 h11101 h11102 h12338 w12339 w12340 r12341 r12342 r12343 h12344 h12365 h12366 h12387 h12388 w12389 w12392 w12391 w12393 w12395 w12397 w12396 w12399 w12401 w12400 w12402 w12406 w12405 a12407 a12408 ⊢) <;> (try simp only [zz, Int32.reduceToInt, ne_eq] at u11064 xq2 h11065 xq12 h11078 xq14 a11098 u11099 h11100 h11101 h11102 h12338 w12339 w12340 r12341 r12342 r12343 h12344 h12365 h12366 h12387 h12388 w12389 w12392 w12391 w12393 w12395 w12397 w12396 w12399 w12401 w12400 w12402 w12406 w12405 a12407 a12408 ⊢) <;> (try simp (disch := omega) only [zb] at u11064 xq2 h11065 xq12 h11078 xq14 a11098 u11099 h11100 h11101 h11102 h12338 w12339 w12340 r12341 r12342 r12343 h12344 h12365 h12366 h12387 h12388 w12389 w12392 w12391 w12393 w12395 w12397 w12396 w12399 w12401 w12400 w12402 w12406 w12405 a12407 a12408 ⊢) <;> first | omega | ((try simp (disch := omega) only [zb] at u11064 xq2 h11065 xq12 h11078 xq14 a11098 u11099 h11100 h11101 h11102 h12338 w12339 w12340 r12341 r12342 r12343 h12344 h12365 h12366 h12387 h12388 w12389 w12392 w12391 w12393 w12395 w12397 w12396 w12399 w12401 w12400 w12402 w12406 w12405 a12407 a12408 ⊢) <;> omega))⟩
                      · refine sw_sh (ci_sh cs11 t_p0 rfl) ?_
                        refine sw_on (sX9_put cs11 t_p0 (by (try simp only [zp, zo, zq] at u11064 xq2 h11065 xq12 h11078 xq14 a11098 u11099 h11100 h11101 h11102 h12338 w12339 w12340 r12341 r12342 r12343 h12344 h12365 h12366 h12387 h12388 ⊢) <;> (try simp only [zz, Int32.reduceToInt, ne_eq] at u11064 xq2 h11065 xq12 h11078 xq14 a11098 u11099 h11100 h11101 h11102 h12338 w12339 w12340 r12341 r12342 r12343 h12344 h12365 h12366 h12387 h12388 ⊢) <;> (try simp (disch := omega) only [zb] at u11064 xq2 h11065 xq12 h11078 xq14 a11098 u11099 h11100 h11101 h11102 h12338 w12339 w12340 r12341 r12342 r12343 h12344 h12365 h12366 h12387 h12388 ⊢) <;> first | omega | ((try simp (disch := omega) only [zb] at u11064 xq2 h11065 xq12 h11078 xq14 a11098 u11099 h11100 h11101 h11102 h12338 w12339 w12340 r12341 r12342 r12343 h12344 h12365 h12366 h12387 h12388 ⊢) <;> omega)) ) ?_
                        intro q28 hqq28
                        obtain ⟨cq28, gq28, xq28⟩ := hqq28
                        have fq28 := fr_trans fs11 gq28 rfl
                        have w12409 := (gq28.2.2 _ _ t_p0 0 rfl).1
                        have w12410 : mm_I s11 p0 0 = mm_I q2.2 p0 0 := by rw [← es11]; exact rd_k t_p0 tq5 (by decide)
                        have w12412 := rdA_fr (k := 9) (j := 0) gq28 cs11 t_p0 (κ' := 59) rfl rfl rfl
                        have w12414 : rdA s11 p0 9 0 = mm_I s11 q17 ((0 : Int32)).toNatClampNeg := rdA_eq eq17
                        have w12413 : rdA s11 p0 9 0 = rdA q2.2 p0 9 0 := by rw [← es11]; exact rdA_k cq2 t_p0 (κ' := 59) rfl tq5 (by decide)
                        have w12415 := rdA_fr (k := 9) (j := 0) gq2 c0 t_p0 (κ' := 59) rfl rfl rfl
                        have w12417 := rdA_fr (k := 10) (j := 0) gq28 cs11 t_p0 (κ' := 60) rfl rfl rfl
                        have w12418 : rdA s11 p0 10 0 = rdA q2.2 p0 10 0 := by rw [← es11]; exact rdA_j (by decide)
                        have w12420 : rdA q2.2 p0 10 0 = mm_I q2.2 q5 ((0 : Int32)).toNatClampNeg := rdA_eq eq5
                        have w12419 := rdA_fr (k := 10) (j := 0) gq2 c0 t_p0 (κ' := 60) rfl rfl rfl
                        have w12422 := rdA_fr (k := 10) (j := 1) gq28 cs11 t_p0 (κ' := 60) rfl rfl rfl
                        have w12423 : rdA s11 p0 10 1 = -1 := by rw [← es11]; exact rdA_self eq5
                        have w12424 := rdA_fr (k := 9) (j := 1) gq28 cs11 t_p0 (κ' := 59) rfl rfl rfl
                        have w12426 : rdA s11 p0 9 1 = mm_I s11 q17 ((1 : Int32)).toNatClampNeg := rdA_eq eq17
                        have w12425 : rdA s11 p0 9 1 = rdA q2.2 p0 9 1 := by rw [← es11]; exact rdA_k cq2 t_p0 (κ' := 59) rfl tq5 (by decide)
                        have w12427 := rdA_fr (k := 9) (j := 1) gq2 c0 t_p0 (κ' := 59) rfl rfl rfl
                        have w12431 : rdA q2.2 p0 10 1 = mm_I q2.2 q5 ((1 : Int32)).toNatClampNeg := rdA_eq eq5
                        have w12430 := rdA_fr (k := 10) (j := 1) gq2 c0 t_p0 (κ' := 60) rfl rfl rfl
                        have a12432 := zi_and p3 127 (by decide)
                        have a12433 := zi_and p2 8 (by decide)
                        exact sw_some ⟨cq28, fq28, (by (try simp only [zp, zo, zq] at u11064 xq2 h11065 xq12 h11078 xq14 a11098 u11099 h11100 h11101 h11102 h12338 w12339 w12340 r12341 r12342 r12343 h12344 h12365 h12366 h12387 h12388 w12409 w12410 w12412 w12414 w12413 w12415 w12417 w12418 w12420 w12419 w12422 w12423 w12424 w12426 w12425 w12427 w12431 w12430 a12432 a12433 ⊢) <;> (try simp only [zz, Int32.reduceToInt, ne_eq] at u11064 xq2 h11065 xq12 h11078 xq14 a11098 u11099 h11100 h11101 h11102 h12338 w12339 w12340 r12341 r12342 r12343 h12344 h12365 h12366 h12387 h12388 w12409 w12410 w12412 w12414 w12413 w12415 w12417 w12418 w12420 w12419 w12422 w12423 w12424 w12426 w12425 w12427 w12431 w12430 a12432 a12433 ⊢) <;> (try simp (disch := omega) only [zb] at u11064 xq2 h11065 xq12 h11078 xq14 a11098 u11099 h11100 h11101 h11102 h12338 w12339 w12340 r12341 r12342 r12343 h12344 h12365 h12366 h12387 h12388 w12409 w12410 w12412 w12414 w12413 w12415 w12417 w12418 w12420 w12419 w12422 w12423 w12424 w12426 w12425 w12427 w12431 w12430 a12432 a12433 ⊢) <;> first | omega | ((try simp (disch := omega) only [zb] at u11064 xq2 h11065 xq12 h11078 xq14 a11098 u11099 h11100 h11101 h11102 h12338 w12339 w12340 r12341 r12342 r12343 h12344 h12365 h12366 h12387 h12388 w12409 w12410 w12412 w12414 w12413 w12415 w12417 w12418 w12420 w12419 w12422 w12423 w12424 w12426 w12425 w12427 w12431 w12430 a12432 a12433 ⊢) <;> omega))⟩
                    · refine sw_sh (ci_sh cs11 t_p0 rfl) ?_
                      refine sw_on (sX9_put cs11 t_p0 (by (try simp only [zp, zo, zq] at u11064 xq2 h11065 xq12 h11078 xq14 a11098 u11099 h11100 h11101 h11102 h12338 w12339 w12340 r12341 r12342 r12343 h12344 h12365 h12366 h12387 ⊢) <;> (try simp only [zz, Int32.reduceToInt, ne_eq] at u11064 xq2 h11065 xq12 h11078 xq14 a11098 u11099 h11100 h11101 h11102 h12338 w12339 w12340 r12341 r12342 r12343 h12344 h12365 h12366 h12387 ⊢) <;> (try simp (disch := omega) only [zb] at u11064 xq2 h11065 xq12 h11078 xq14 a11098 u11099 h11100 h11101 h11102 h12338 w12339 w12340 r12341 r12342 r12343 h12344 h12365 h12366 h12387 ⊢) <;> first | omega | ((try simp (disch := omega) only [zb] at u11064 xq2 h11065 xq12 h11078 xq14 a11098 u11099 h11100 h11101 h11102 h12338 w12339 w12340 r12341 r12342 r12343 h12344 h12365 h12366 h12387 ⊢) <;> omega)) ) ?_
                      intro q30 hqq30
                      obtain ⟨cq30, gq30, xq30⟩ := hqq30
                      have fq30 := fr_trans fs11 gq30 rfl
                      unfold fX9_pair_264
                      refine sw_ite (fun h12434 => ?_) (fun h12434 => ?_)
                      · have w12435 := (gq30.2.2 _ _ t_p0 0 rfl).1
                        have w12436 : mm_I s11 p0 0 = mm_I q2.2 p0 0 := by rw [← es11]; exact rd_k t_p0 tq5 (by decide)
                        have w12438 := rdA_fr (k := 9) (j := 0) gq30 cs11 t_p0 (κ' := 59) rfl rfl rfl
                        have w12440 : rdA s11 p0 9 0 = mm_I s11 q17 ((0 : Int32)).toNatClampNeg := rdA_eq eq17
                        have w12439 : rdA s11 p0 9 0 = rdA q2.2 p0 9 0 := by rw [← es11]; exact rdA_k cq2 t_p0 (κ' := 59) rfl tq5 (by decide)
                        have w12441 := rdA_fr (k := 9) (j := 0) gq2 c0 t_p0 (κ' := 59) rfl rfl rfl
                        have w12443 := rdA_fr (k := 10) (j := 0) gq30 cs11 t_p0 (κ' := 60) rfl rfl rfl
                        have w12444 : rdA s11 p0 10 0 = rdA q2.2 p0 10 0 := by rw [← es11]; exact rdA_j (by decide)
                        have w12446 : rdA q2.2 p0 10 0 = mm_I q2.2 q5 ((0 : Int32)).toNatClampNeg := rdA_eq eq5
                        have w12445 := rdA_fr (k := 10) (j := 0) gq2 c0 t_p0 (κ' := 60) rfl rfl rfl
                        have w12448 := rdA_fr (k := 10) (j := 1) gq30 cs11 t_p0 (κ' := 60) rfl rfl rfl
                        have w12449 : rdA s11 p0 10 1 = -1 := by rw [← es11]; exact rdA_self eq5
                        have w12450 := rdA_fr (k := 9) (j := 1) gq30 cs11 t_p0 (κ' := 59) rfl rfl rfl
                        have w12452 : rdA s11 p0 9 1 = mm_I s11 q17 ((1 : Int32)).toNatClampNeg := rdA_eq eq17
                        have w12451 : rdA s11 p0 9 1 = rdA q2.2 p0 9 1 := by rw [← es11]; exact rdA_k cq2 t_p0 (κ' := 59) rfl tq5 (by decide)
                        have w12453 := rdA_fr (k := 9) (j := 1) gq2 c0 t_p0 (κ' := 59) rfl rfl rfl
                        have w12457 : rdA q2.2 p0 10 1 = mm_I q2.2 q5 ((1 : Int32)).toNatClampNeg := rdA_eq eq5
                        have w12456 := rdA_fr (k := 10) (j := 1) gq2 c0 t_p0 (κ' := 60) rfl rfl rfl
                        have a12458 := zi_and p3 127 (by decide)
                        have a12459 := zi_and p2 8 (by decide)
                        exact sw_some ⟨cq30, fq30, (by (try simp only [zp, zo, zq] at u11064 xq2 h11065 xq12 h11078 xq14 a11098 u11099 h11100 h11101 h11102 h12338 w12339 w12340 r12341 r12342 r12343 h12344 h12365 h12366 h12387 h12434 w12435 w12436 w12438 w12440 w12439 w12441 w12443 w12444 w12446 w12445 w12448 w12449 w12450 w12452 w12451 w12453 w12457 w12456 a12458 a12459 ⊢) <;> (try simp only [zz, Int32.reduceToInt, ne_eq] at u11064 xq2 h11065 xq12 h11078 xq14 a11098 u11099 h11100 h11101 h11102 h12338 w12339 w12340 r12341 r12342 r12343 h12344 h12365 h12366 h12387 h12434 w12435 w12436 w12438 w12440 w12439 w12441 w12443 w12444 w12446 w12445 w12448 w12449 w12450 w12452 w12451 w12453 w12457 w12456 a12458 a12459 ⊢) <;> (try simp (disch := omega) only [zb] at u11064 xq2 h11065 xq12 h11078 xq14 a11098 u11099 h11100 h11101 h11102 h12338 w12339 w12340 r12341 r12342 r12343 h12344 h12365 h12366 h12387 h12434 w12435 w12436 w12438 w12440 w12439 w12441 w12443 w12444 w12446 w12445 w12448 w12449 w12450 w12452 w12451 w12453 w12457 w12456 a12458 a12459 ⊢) <;> first | omega | ((try simp (disch := omega) only [zb] at u11064 xq2 h11065 xq12 h11078 xq14 a11098 u11099 h11100 h11101 h11102 h12338 w12339 w12340 r12341 r12342 r12343 h12344 h12365 h12366 h12387 h12434 w12435 w12436 w12438 w12440 w12439 w12441 w12443 w12444 w12446 w12445 w12448 w12449 w12450 w12452 w12451 w12453 w12457 w12456 a12458 a12459 ⊢) <;> omega))⟩
                      · refine sw_sh (ci_sh cq30 t_p0 rfl) ?_
                        refine sw_on (sX9_put cq30 t_p0 (by (try simp only [zp, zo, zq] at u11064 xq2 h11065 xq12 h11078 xq14 a11098 u11099 h11100 h11101 h11102 h12338 w12339 w12340 r12341 r12342 r12343 h12344 h12365 h12366 h12387 h12434 ⊢) <;> (try simp only [zz, Int32.reduceToInt, ne_eq] at u11064 xq2 h11065 xq12 h11078 xq14 a11098 u11099 h11100 h11101 h11102 h12338 w12339 w12340 r12341 r12342 r12343 h12344 h12365 h12366 h12387 h12434 ⊢) <;> (try simp (disch := omega) only [zb] at u11064 xq2 h11065 xq12 h11078 xq14 a11098 u11099 h11100 h11101 h11102 h12338 w12339 w12340 r12341 r12342 r12343 h12344 h12365 h12366 h12387 h12434 ⊢) <;> first | omega | ((try simp (disch := omega) only [zb] at u11064 xq2 h11065 xq12 h11078 xq14 a11098 u11099 h11100 h11101 h11102 h12338 w12339 w12340 r12341 r12342 r12343 h12344 h12365 h12366 h12387 h12434 ⊢) <;> omega)) ) ?_
                        intro q28 hqq28
                        obtain ⟨cq28, gq28, xq28⟩ := hqq28
                        have fq28 := fr_trans fq30 gq28 rfl
                        have w12460 := (gq28.2.2 _ _ t_p0 0 rfl).1
                        have w12461 := (gq30.2.2 _ _ t_p0 0 rfl).1
                        have w12462 : mm_I s11 p0 0 = mm_I q2.2 p0 0 := by rw [← es11]; exact rd_k t_p0 tq5 (by decide)
                        have w12464 := rdA_fr (k := 9) (j := 0) gq28 cq30 t_p0 (κ' := 59) rfl rfl rfl
                        have w12465 := rdA_fr (k := 9) (j := 0) gq30 cs11 t_p0 (κ' := 59) rfl rfl rfl
                        have w12467 : rdA s11 p0 9 0 = mm_I s11 q17 ((0 : Int32)).toNatClampNeg := rdA_eq eq17
                        have w12466 : rdA s11 p0 9 0 = rdA q2.2 p0 9 0 := by rw [← es11]; exact rdA_k cq2 t_p0 (κ' := 59) rfl tq5 (by decide)
                        have w12468 := rdA_fr (k := 9) (j := 0) gq2 c0 t_p0 (κ' := 59) rfl rfl rfl
                        have w12470 := rdA_fr (k := 10) (j := 0) gq28 cq30 t_p0 (κ' := 60) rfl rfl rfl
                        have w12471 := rdA_fr (k := 10) (j := 0) gq30 cs11 t_p0 (κ' := 60) rfl rfl rfl
                        have w12472 : rdA s11 p0 10 0 = rdA q2.2 p0 10 0 := by rw [← es11]; exact rdA_j (by decide)
                        have w12474 : rdA q2.2 p0 10 0 = mm_I q2.2 q5 ((0 : Int32)).toNatClampNeg := rdA_eq eq5
                        have w12473 := rdA_fr (k := 10) (j := 0) gq2 c0 t_p0 (κ' := 60) rfl rfl rfl
                        have w12476 := rdA_fr (k := 10) (j := 1) gq28 cq30 t_p0 (κ' := 60) rfl rfl rfl
                        have w12477 := rdA_fr (k := 10) (j := 1) gq30 cs11 t_p0 (κ' := 60) rfl rfl rfl
                        have w12478 : rdA s11 p0 10 1 = -1 := by rw [← es11]; exact rdA_self eq5
                        have w12479 := rdA_fr (k := 9) (j := 1) gq28 cq30 t_p0 (κ' := 59) rfl rfl rfl
                        have w12480 := rdA_fr (k := 9) (j := 1) gq30 cs11 t_p0 (κ' := 59) rfl rfl rfl
                        have w12482 : rdA s11 p0 9 1 = mm_I s11 q17 ((1 : Int32)).toNatClampNeg := rdA_eq eq17
                        have w12481 : rdA s11 p0 9 1 = rdA q2.2 p0 9 1 := by rw [← es11]; exact rdA_k cq2 t_p0 (κ' := 59) rfl tq5 (by decide)
                        have w12483 := rdA_fr (k := 9) (j := 1) gq2 c0 t_p0 (κ' := 59) rfl rfl rfl
                        have w12487 : rdA q2.2 p0 10 1 = mm_I q2.2 q5 ((1 : Int32)).toNatClampNeg := rdA_eq eq5
                        have w12486 := rdA_fr (k := 10) (j := 1) gq2 c0 t_p0 (κ' := 60) rfl rfl rfl
                        have a12488 := zi_and p3 127 (by decide)
                        have a12489 := zi_and p2 8 (by decide)
                        exact sw_some ⟨cq28, fq28, (by (try simp only [zp, zo, zq] at u11064 xq2 h11065 xq12 h11078 xq14 a11098 u11099 h11100 h11101 h11102 h12338 w12339 w12340 r12341 r12342 r12343 h12344 h12365 h12366 h12387 h12434 w12460 w12461 w12462 w12464 w12465 w12467 w12466 w12468 w12470 w12471 w12472 w12474 w12473 w12476 w12477 w12478 w12479 w12480 w12482 w12481 w12483 w12487 w12486 a12488 a12489 ⊢) <;> (try simp only [zz, Int32.reduceToInt, ne_eq] at u11064 xq2 h11065 xq12 h11078 xq14 a11098 u11099 h11100 h11101 h11102 h12338 w12339 w12340 r12341 r12342 r12343 h12344 h12365 h12366 h12387 h12434 w12460 w12461 w12462 w12464 w12465 w12467 w12466 w12468 w12470 w12471 w12472 w12474 w12473 w12476 w12477 w12478 w12479 w12480 w12482 w12481 w12483 w12487 w12486 a12488 a12489 ⊢) <;> (try simp (disch := omega) only [zb] at u11064 xq2 h11065 xq12 h11078 xq14 a11098 u11099 h11100 h11101 h11102 h12338 w12339 w12340 r12341 r12342 r12343 h12344 h12365 h12366 h12387 h12434 w12460 w12461 w12462 w12464 w12465 w12467 w12466 w12468 w12470 w12471 w12472 w12474 w12473 w12476 w12477 w12478 w12479 w12480 w12482 w12481 w12483 w12487 w12486 a12488 a12489 ⊢) <;> first | omega | ((try simp (disch := omega) only [zb] at u11064 xq2 h11065 xq12 h11078 xq14 a11098 u11099 h11100 h11101 h11102 h12338 w12339 w12340 r12341 r12342 r12343 h12344 h12365 h12366 h12387 h12434 w12460 w12461 w12462 w12464 w12465 w12467 w12466 w12468 w12470 w12471 w12472 w12474 w12473 w12476 w12477 w12478 w12479 w12480 w12482 w12481 w12483 w12487 w12486 a12488 a12489 ⊢) <;> omega))⟩
                · unfold fX9_pair_250
                  refine sw_ite (fun h12490 => ?_) (fun h12490 => ?_)
                  · unfold fX9_pair_264
                    refine sw_ite (fun h12491 => ?_) (fun h12491 => ?_)
                    · have w12492 : mm_I s11 p0 0 = mm_I q2.2 p0 0 := by rw [← es11]; exact rd_k t_p0 tq5 (by decide)
                      have w12495 : rdA s11 p0 9 0 = mm_I s11 q17 ((0 : Int32)).toNatClampNeg := rdA_eq eq17
                      have w12494 : rdA s11 p0 9 0 = rdA q2.2 p0 9 0 := by rw [← es11]; exact rdA_k cq2 t_p0 (κ' := 59) rfl tq5 (by decide)
                      have w12496 := rdA_fr (k := 9) (j := 0) gq2 c0 t_p0 (κ' := 59) rfl rfl rfl
                      have w12498 : rdA s11 p0 10 0 = rdA q2.2 p0 10 0 := by rw [← es11]; exact rdA_j (by decide)
                      have w12500 : rdA q2.2 p0 10 0 = mm_I q2.2 q5 ((0 : Int32)).toNatClampNeg := rdA_eq eq5
                      have w12499 := rdA_fr (k := 10) (j := 0) gq2 c0 t_p0 (κ' := 60) rfl rfl rfl
                      have w12502 : rdA s11 p0 10 1 = -1 := by rw [← es11]; exact rdA_self eq5
                      have w12504 : rdA s11 p0 9 1 = mm_I s11 q17 ((1 : Int32)).toNatClampNeg := rdA_eq eq17
                      have w12503 : rdA s11 p0 9 1 = rdA q2.2 p0 9 1 := by rw [← es11]; exact rdA_k cq2 t_p0 (κ' := 59) rfl tq5 (by decide)
                      have w12505 := rdA_fr (k := 9) (j := 1) gq2 c0 t_p0 (κ' := 59) rfl rfl rfl
                      have w12509 : rdA q2.2 p0 10 1 = mm_I q2.2 q5 ((1 : Int32)).toNatClampNeg := rdA_eq eq5
                      have w12508 := rdA_fr (k := 10) (j := 1) gq2 c0 t_p0 (κ' := 60) rfl rfl rfl
                      have a12510 := zi_and p3 127 (by decide)
                      have a12511 := zi_and p2 8 (by decide)
                      exact sw_some ⟨cs11, fs11, (by (try simp only [zp, zo, zq] at u11064 xq2 h11065 xq12 h11078 xq14 a11098 u11099 h11100 h11101 h11102 h12338 w12339 w12340 r12341 r12342 r12343 h12344 h12365 h12490 h12491 w12492 w12495 w12494 w12496 w12498 w12500 w12499 w12502 w12504 w12503 w12505 w12509 w12508 a12510 a12511 ⊢) <;> (try simp only [zz, Int32.reduceToInt, ne_eq] at u11064 xq2 h11065 xq12 h11078 xq14 a11098 u11099 h11100 h11101 h11102 h12338 w12339 w12340 r12341 r12342 r12343 h12344 h12365 h12490 h12491 w12492 w12495 w12494 w12496 w12498 w12500 w12499 w12502 w12504 w12503 w12505 w12509 w12508 a12510 a12511 ⊢) <;> (try simp (disch := omega) only [zb] at u11064 xq2 h11065 xq12 h11078 xq14 a11098 u11099 h11100 h11101 h11102 h12338 w12339 w12340 r12341 r12342 r12343 h12344 h12365 h12490 h12491 w12492 w12495 w12494 w12496 w12498 w12500 w12499 w12502 w12504 w12503 w12505 w12509 w12508 a12510 a12511 ⊢) <;> first | omega | ((try simp (disch := omega) only [zb] at u11064 xq2 h11065 xq12 h11078 xq14 a11098 u11099 h11100 h11101 h11102 h12338 w12339 w12340 r12341 r12342 r12343 h12344 h12365 h12490 h12491 w12492 w12495 w12494 w12496 w12498 w12500 w12499 w12502 w12504 w12503 w12505 w12509 w12508 a12510 a12511 ⊢) <;> omega))⟩
                    · refine sw_sh (ci_sh cs11 t_p0 rfl) ?_
                      refine sw_on (sX9_put cs11 t_p0 (by (try simp only [zp, zo, zq] at u11064 xq2 h11065 xq12 h11078 xq14 a11098 u11099 h11100 h11101 h11102 h12338 w12339 w12340 r12341 r12342 r12343 h12344 h12365 h12490 h12491 ⊢) <;> (try simp only [zz, Int32.reduceToInt, ne_eq] at u11064 xq2 h11065 xq12 h11078 xq14 a11098 u11099 h11100 h11101 h11102 h12338 w12339 w12340 r12341 r12342 r12343 h12344 h12365 h12490 h12491 ⊢) <;> (try simp (disch := omega) only [zb] at u11064 xq2 h11065 xq12 h11078 xq14 a11098 u11099 h11100 h11101 h11102 h12338 w12339 w12340 r12341 r12342 r12343 h12344 h12365 h12490 h12491 ⊢) <;> first | omega | ((try simp (disch := omega) only [zb] at u11064 xq2 h11065 xq12 h11078 xq14 a11098 u11099 h11100 h11101 h11102 h12338 w12339 w12340 r12341 r12342 r12343 h12344 h12365 h12490 h12491 ⊢) <;> omega)) ) ?_
                      intro q28 hqq28
                      obtain ⟨cq28, gq28, xq28⟩ := hqq28
                      have fq28 := fr_trans fs11 gq28 rfl
                      have w12512 := (gq28.2.2 _ _ t_p0 0 rfl).1
                      have w12513 : mm_I s11 p0 0 = mm_I q2.2 p0 0 := by rw [← es11]; exact rd_k t_p0 tq5 (by decide)
                      have w12515 := rdA_fr (k := 9) (j := 0) gq28 cs11 t_p0 (κ' := 59) rfl rfl rfl
                      have w12517 : rdA s11 p0 9 0 = mm_I s11 q17 ((0 : Int32)).toNatClampNeg := rdA_eq eq17
                      have w12516 : rdA s11 p0 9 0 = rdA q2.2 p0 9 0 := by rw [← es11]; exact rdA_k cq2 t_p0 (κ' := 59) rfl tq5 (by decide)
                      have w12518 := rdA_fr (k := 9) (j := 0) gq2 c0 t_p0 (κ' := 59) rfl rfl rfl
                      have w12520 := rdA_fr (k := 10) (j := 0) gq28 cs11 t_p0 (κ' := 60) rfl rfl rfl
                      have w12521 : rdA s11 p0 10 0 = rdA q2.2 p0 10 0 := by rw [← es11]; exact rdA_j (by decide)
                      have w12523 : rdA q2.2 p0 10 0 = mm_I q2.2 q5 ((0 : Int32)).toNatClampNeg := rdA_eq eq5
                      have w12522 := rdA_fr (k := 10) (j := 0) gq2 c0 t_p0 (κ' := 60) rfl rfl rfl
                      have w12525 := rdA_fr (k := 10) (j := 1) gq28 cs11 t_p0 (κ' := 60) rfl rfl rfl
                      have w12526 : rdA s11 p0 10 1 = -1 := by rw [← es11]; exact rdA_self eq5
                      have w12527 := rdA_fr (k := 9) (j := 1) gq28 cs11 t_p0 (κ' := 59) rfl rfl rfl
                      have w12529 : rdA s11 p0 9 1 = mm_I s11 q17 ((1 : Int32)).toNatClampNeg := rdA_eq eq17
                      have w12528 : rdA s11 p0 9 1 = rdA q2.2 p0 9 1 := by rw [← es11]; exact rdA_k cq2 t_p0 (κ' := 59) rfl tq5 (by decide)
                      have w12530 := rdA_fr (k := 9) (j := 1) gq2 c0 t_p0 (κ' := 59) rfl rfl rfl
                      have w12534 : rdA q2.2 p0 10 1 = mm_I q2.2 q5 ((1 : Int32)).toNatClampNeg := rdA_eq eq5
                      have w12533 := rdA_fr (k := 10) (j := 1) gq2 c0 t_p0 (κ' := 60) rfl rfl rfl
                      have a12535 := zi_and p3 127 (by decide)
                      have a12536 := zi_and p2 8 (by decide)
                      exact sw_some ⟨cq28, fq28, (by (try simp only [zp, zo, zq] at u11064 xq2 h11065 xq12 h11078 xq14 a11098 u11099 h11100 h11101 h11102 h12338 w12339 w12340 r12341 r12342 r12343 h12344 h12365 h12490 h12491 w12512 w12513 w12515 w12517 w12516 w12518 w12520 w12521 w12523 w12522 w12525 w12526 w12527 w12529 w12528 w12530 w12534 w12533 a12535 a12536 ⊢) <;> (try simp only [zz, Int32.reduceToInt, ne_eq] at u11064 xq2 h11065 xq12 h11078 xq14 a11098 u11099 h11100 h11101 h11102 h12338 w12339 w12340 r12341 r12342 r12343 h12344 h12365 h12490 h12491 w12512 w12513 w12515 w12517 w12516 w12518 w12520 w12521 w12523 w12522 w12525 w12526 w12527 w12529 w12528 w12530 w12534 w12533 a12535 a12536 ⊢) <;> (try simp (disch := omega) only [zb] at u11064 xq2 h11065 xq12 h11078 xq14 a11098 u11099 h11100 h11101 h11102 h12338 w12339 w12340 r12341 r12342 r12343 h12344 h12365 h12490 h12491 w12512 w12513 w12515 w12517 w12516 w12518 w12520 w12521 w12523 w12522 w12525 w12526 w12527 w12529 w12528 w12530 w12534 w12533 a12535 a12536 ⊢) <;> first | omega | ((try simp (disch := omega) only [zb] at u11064 xq2 h11065 xq12 h11078 xq14 a11098 u11099 h11100 h11101 h11102 h12338 w12339 w12340 r12341 r12342 r12343 h12344 h12365 h12490 h12491 w12512 w12513 w12515 w12517 w12516 w12518 w12520 w12521 w12523 w12522 w12525 w12526 w12527 w12529 w12528 w12530 w12534 w12533 a12535 a12536 ⊢) <;> omega))⟩
                  · refine sw_sh (ci_sh cs11 t_p0 rfl) ?_
                    refine sw_on (sX9_put cs11 t_p0 (by (try simp only [zp, zo, zq] at u11064 xq2 h11065 xq12 h11078 xq14 a11098 u11099 h11100 h11101 h11102 h12338 w12339 w12340 r12341 r12342 r12343 h12344 h12365 h12490 ⊢) <;> (try simp only [zz, Int32.reduceToInt, ne_eq] at u11064 xq2 h11065 xq12 h11078 xq14 a11098 u11099 h11100 h11101 h11102 h12338 w12339 w12340 r12341 r12342 r12343 h12344 h12365 h12490 ⊢) <;> (try simp (disch := omega) only [zb] at u11064 xq2 h11065 xq12 h11078 xq14 a11098 u11099 h11100 h11101 h11102 h12338 w12339 w12340 r12341 r12342 r12343 h12344 h12365 h12490 ⊢) <;> first | omega | ((try simp (disch := omega) only [zb] at u11064 xq2 h11065 xq12 h11078 xq14 a11098 u11099 h11100 h11101 h11102 h12338 w12339 w12340 r12341 r12342 r12343 h12344 h12365 h12490 ⊢) <;> omega)) ) ?_
                    intro q30 hqq30
                    obtain ⟨cq30, gq30, xq30⟩ := hqq30
                    have fq30 := fr_trans fs11 gq30 rfl
                    unfold fX9_pair_264
                    refine sw_ite (fun h12537 => ?_) (fun h12537 => ?_)
                    · have w12538 := (gq30.2.2 _ _ t_p0 0 rfl).1
                      have w12539 : mm_I s11 p0 0 = mm_I q2.2 p0 0 := by rw [← es11]; exact rd_k t_p0 tq5 (by decide)
                      have w12541 := rdA_fr (k := 9) (j := 0) gq30 cs11 t_p0 (κ' := 59) rfl rfl rfl
                      have w12543 : rdA s11 p0 9 0 = mm_I s11 q17 ((0 : Int32)).toNatClampNeg := rdA_eq eq17
                      have w12542 : rdA s11 p0 9 0 = rdA q2.2 p0 9 0 := by rw [← es11]; exact rdA_k cq2 t_p0 (κ' := 59) rfl tq5 (by decide)
                      have w12544 := rdA_fr (k := 9) (j := 0) gq2 c0 t_p0 (κ' := 59) rfl rfl rfl
                      have w12546 := rdA_fr (k := 10) (j := 0) gq30 cs11 t_p0 (κ' := 60) rfl rfl rfl
                      have w12547 : rdA s11 p0 10 0 = rdA q2.2 p0 10 0 := by rw [← es11]; exact rdA_j (by decide)
                      have w12549 : rdA q2.2 p0 10 0 = mm_I q2.2 q5 ((0 : Int32)).toNatClampNeg := rdA_eq eq5
                      have w12548 := rdA_fr (k := 10) (j := 0) gq2 c0 t_p0 (κ' := 60) rfl rfl rfl
                      have w12551 := rdA_fr (k := 10) (j := 1) gq30 cs11 t_p0 (κ' := 60) rfl rfl rfl
                      have w12552 : rdA s11 p0 10 1 = -1 := by rw [← es11]; exact rdA_self eq5
                      have w12553 := rdA_fr (k := 9) (j := 1) gq30 cs11 t_p0 (κ' := 59) rfl rfl rfl
                      have w12555 : rdA s11 p0 9 1 = mm_I s11 q17 ((1 : Int32)).toNatClampNeg := rdA_eq eq17
                      have w12554 : rdA s11 p0 9 1 = rdA q2.2 p0 9 1 := by rw [← es11]; exact rdA_k cq2 t_p0 (κ' := 59) rfl tq5 (by decide)
                      have w12556 := rdA_fr (k := 9) (j := 1) gq2 c0 t_p0 (κ' := 59) rfl rfl rfl
                      have w12560 : rdA q2.2 p0 10 1 = mm_I q2.2 q5 ((1 : Int32)).toNatClampNeg := rdA_eq eq5
                      have w12559 := rdA_fr (k := 10) (j := 1) gq2 c0 t_p0 (κ' := 60) rfl rfl rfl
                      have a12561 := zi_and p3 127 (by decide)
                      have a12562 := zi_and p2 8 (by decide)
                      exact sw_some ⟨cq30, fq30, (by (try simp only [zp, zo, zq] at u11064 xq2 h11065 xq12 h11078 xq14 a11098 u11099 h11100 h11101 h11102 h12338 w12339 w12340 r12341 r12342 r12343 h12344 h12365 h12490 h12537 w12538 w12539 w12541 w12543 w12542 w12544 w12546 w12547 w12549 w12548 w12551 w12552 w12553 w12555 w12554 w12556 w12560 w12559 a12561 a12562 ⊢) <;> (try simp only [zz, Int32.reduceToInt, ne_eq] at u11064 xq2 h11065 xq12 h11078 xq14 a11098 u11099 h11100 h11101 h11102 h12338 w12339 w12340 r12341 r12342 r12343 h12344 h12365 h12490 h12537 w12538 w12539 w12541 w12543 w12542 w12544 w12546 w12547 w12549 w12548 w12551 w12552 w12553 w12555 w12554 w12556 w12560 w12559 a12561 a12562 ⊢) <;> (try simp (disch := omega) only [zb] at u11064 xq2 h11065 xq12 h11078 xq14 a11098 u11099 h11100 h11101 h11102 h12338 w12339 w12340 r12341 r12342 r12343 h12344 h12365 h12490 h12537 w12538 w12539 w12541 w12543 w12542 w12544 w12546 w12547 w12549 w12548 w12551 w12552 w12553 w12555 w12554 w12556 w12560 w12559 a12561 a12562 ⊢) <;> first | omega | ((try simp (disch := omega) only [zb] at u11064 xq2 h11065 xq12 h11078 xq14 a11098 u11099 h11100 h11101 h11102 h12338 w12339 w12340 r12341 r12342 r12343 h12344 h12365 h12490 h12537 w12538 w12539 w12541 w12543 w12542 w12544 w12546 w12547 w12549 w12548 w12551 w12552 w12553 w12555 w12554 w12556 w12560 w12559 a12561 a12562 ⊢) <;> omega))⟩
                    · refine sw_sh (ci_sh cq30 t_p0 rfl) ?_
                      refine sw_on (sX9_put cq30 t_p0 (by (try simp only [zp, zo, zq] at u11064 xq2 h11065 xq12 h11078 xq14 a11098 u11099 h11100 h11101 h11102 h12338 w12339 w12340 r12341 r12342 r12343 h12344 h12365 h12490 h12537 ⊢) <;> (try simp only [zz, Int32.reduceToInt, ne_eq] at u11064 xq2 h11065 xq12 h11078 xq14 a11098 u11099 h11100 h11101 h11102 h12338 w12339 w12340 r12341 r12342 r12343 h12344 h12365 h12490 h12537 ⊢) <;> (try simp (disch := omega) only [zb] at u11064 xq2 h11065 xq12 h11078 xq14 a11098 u11099 h11100 h11101 h11102 h12338 w12339 w12340 r12341 r12342 r12343 h12344 h12365 h12490 h12537 ⊢) <;> first | omega | ((try simp (disch := omega) only [zb] at u11064 xq2 h11065 xq12 h11078 xq14 a11098 u11099 h11100 h11101 h11102 h12338 w12339 w12340 r12341 r12342 r12343 h12344 h12365 h12490 h12537 ⊢) <;> omega)) ) ?_
                      intro q28 hqq28
                      obtain ⟨cq28, gq28, xq28⟩ := hqq28
                      have fq28 := fr_trans fq30 gq28 rfl
                      have w12563 := (gq28.2.2 _ _ t_p0 0 rfl).1
                      have w12564 := (gq30.2.2 _ _ t_p0 0 rfl).1
                      have w12565 : mm_I s11 p0 0 = mm_I q2.2 p0 0 := by rw [← es11]; exact rd_k t_p0 tq5 (by decide)
                      have w12567 := rdA_fr (k := 9) (j := 0) gq28 cq30 t_p0 (κ' := 59) rfl rfl rfl
                      have w12568 := rdA_fr (k := 9) (j := 0) gq30 cs11 t_p0 (κ' := 59) rfl rfl rfl
                      have w12570 : rdA s11 p0 9 0 = mm_I s11 q17 ((0 : Int32)).toNatClampNeg := rdA_eq eq17
                      have w12569 : rdA s11 p0 9 0 = rdA q2.2 p0 9 0 := by rw [← es11]; exact rdA_k cq2 t_p0 (κ' := 59) rfl tq5 (by decide)
                      have w12571 := rdA_fr (k := 9) (j := 0) gq2 c0 t_p0 (κ' := 59) rfl rfl rfl
                      have w12573 := rdA_fr (k := 10) (j := 0) gq28 cq30 t_p0 (κ' := 60) rfl rfl rfl
                      have w12574 := rdA_fr (k := 10) (j := 0) gq30 cs11 t_p0 (κ' := 60) rfl rfl rfl
                      have w12575 : rdA s11 p0 10 0 = rdA q2.2 p0 10 0 := by rw [← es11]; exact rdA_j (by decide)
                      have w12577 : rdA q2.2 p0 10 0 = mm_I q2.2 q5 ((0 : Int32)).toNatClampNeg := rdA_eq eq5
                      have w12576 := rdA_fr (k := 10) (j := 0) gq2 c0 t_p0 (κ' := 60) rfl rfl rfl
                      have w12579 := rdA_fr (k := 10) (j := 1) gq28 cq30 t_p0 (κ' := 60) rfl rfl rfl
                      have w12580 := rdA_fr (k := 10) (j := 1) gq30 cs11 t_p0 (κ' := 60) rfl rfl rfl
                      have w12581 : rdA s11 p0 10 1 = -1 := by rw [← es11]; exact rdA_self eq5
                      have w12582 := rdA_fr (k := 9) (j := 1) gq28 cq30 t_p0 (κ' := 59) rfl rfl rfl
                      have w12583 := rdA_fr (k := 9) (j := 1) gq30 cs11 t_p0 (κ' := 59) rfl rfl rfl
                      have w12585 : rdA s11 p0 9 1 = mm_I s11 q17 ((1 : Int32)).toNatClampNeg := rdA_eq eq17
                      have w12584 : rdA s11 p0 9 1 = rdA q2.2 p0 9 1 := by rw [← es11]; exact rdA_k cq2 t_p0 (κ' := 59) rfl tq5 (by decide)
                      have w12586 := rdA_fr (k := 9) (j := 1) gq2 c0 t_p0 (κ' := 59) rfl rfl rfl
                      have w12590 : rdA q2.2 p0 10 1 = mm_I q2.2 q5 ((1 : Int32)).toNatClampNeg := rdA_eq eq5
                      have w12589 := rdA_fr (k := 10) (j := 1) gq2 c0 t_p0 (κ' := 60) rfl rfl rfl
                      have a12591 := zi_and p3 127 (by decide)
                      have a12592 := zi_and p2 8 (by decide)
                      exact sw_some ⟨cq28, fq28, (by (try simp only [zp, zo, zq] at u11064 xq2 h11065 xq12 h11078 xq14 a11098 u11099 h11100 h11101 h11102 h12338 w12339 w12340 r12341 r12342 r12343 h12344 h12365 h12490 h12537 w12563 w12564 w12565 w12567 w12568 w12570 w12569 w12571 w12573 w12574 w12575 w12577 w12576 w12579 w12580 w12581 w12582 w12583 w12585 w12584 w12586 w12590 w12589 a12591 a12592 ⊢) <;> (try simp only [zz, Int32.reduceToInt, ne_eq] at u11064 xq2 h11065 xq12 h11078 xq14 a11098 u11099 h11100 h11101 h11102 h12338 w12339 w12340 r12341 r12342 r12343 h12344 h12365 h12490 h12537 w12563 w12564 w12565 w12567 w12568 w12570 w12569 w12571 w12573 w12574 w12575 w12577 w12576 w12579 w12580 w12581 w12582 w12583 w12585 w12584 w12586 w12590 w12589 a12591 a12592 ⊢) <;> (try simp (disch := omega) only [zb] at u11064 xq2 h11065 xq12 h11078 xq14 a11098 u11099 h11100 h11101 h11102 h12338 w12339 w12340 r12341 r12342 r12343 h12344 h12365 h12490 h12537 w12563 w12564 w12565 w12567 w12568 w12570 w12569 w12571 w12573 w12574 w12575 w12577 w12576 w12579 w12580 w12581 w12582 w12583 w12585 w12584 w12586 w12590 w12589 a12591 a12592 ⊢) <;> first | omega | ((try simp (disch := omega) only [zb] at u11064 xq2 h11065 xq12 h11078 xq14 a11098 u11099 h11100 h11101 h11102 h12338 w12339 w12340 r12341 r12342 r12343 h12344 h12365 h12490 h12537 w12563 w12564 w12565 w12567 w12568 w12570 w12569 w12571 w12573 w12574 w12575 w12577 w12576 w12579 w12580 w12581 w12582 w12583 w12585 w12584 w12586 w12590 w12589 a12591 a12592 ⊢) <;> omega))⟩
            · unfold fX9_pair_198
              refine sw_ite (fun h12593 => ?_) (fun h12593 => ?_)
              · unfold fX9_pair_227
                unfold fX9_pair_228
                have w12594 : mm_I s11 q17 ((1 : Int32).toNatClampNeg) = mm_I q2.2 q17 ((1 : Int32).toNatClampNeg) := by rw [← es11]; exact rd_k tq17 tq5 (by decide)
                have w12595 := (gq2.2.2 _ _ tq17 ((1 : Int32).toNatClampNeg) rfl).1
                have r12596 := ci_rg c0 tq17 ((1 : Int32).toNatClampNeg) (lo := (-1)) (hi := 3) rfl
                have r12597 := ci_rg cq2 tq17 ((1 : Int32).toNatClampNeg) (lo := (-1)) (hi := 3) rfl
                have r12598 := ci_rg cs11 tq17 ((1 : Int32).toNatClampNeg) (lo := (-1)) (hi := 3) rfl
                refine sw_ite (fun h12599 => ?_) (fun h12599 => ?_)
                · have w12600 : mm_I s11 p0 0 = mm_I q2.2 p0 0 := by rw [← es11]; exact rd_k t_p0 tq5 (by decide)
                  have w12603 : rdA s11 p0 9 0 = mm_I s11 q17 ((0 : Int32)).toNatClampNeg := rdA_eq eq17
                  have w12602 : rdA s11 p0 9 0 = rdA q2.2 p0 9 0 := by rw [← es11]; exact rdA_k cq2 t_p0 (κ' := 59) rfl tq5 (by decide)
                  have w12604 := rdA_fr (k := 9) (j := 0) gq2 c0 t_p0 (κ' := 59) rfl rfl rfl
                  have w12606 : rdA s11 p0 10 0 = rdA q2.2 p0 10 0 := by rw [← es11]; exact rdA_j (by decide)
                  have w12608 : rdA q2.2 p0 10 0 = mm_I q2.2 q5 ((0 : Int32)).toNatClampNeg := rdA_eq eq5
                  have w12607 := rdA_fr (k := 10) (j := 0) gq2 c0 t_p0 (κ' := 60) rfl rfl rfl
                  have w12610 : rdA s11 p0 10 1 = -1 := by rw [← es11]; exact rdA_self eq5
                  have w12612 : rdA s11 p0 9 1 = mm_I s11 q17 ((1 : Int32)).toNatClampNeg := rdA_eq eq17
                  have w12611 : rdA s11 p0 9 1 = rdA q2.2 p0 9 1 := by rw [← es11]; exact rdA_k cq2 t_p0 (κ' := 59) rfl tq5 (by decide)
                  have w12613 := rdA_fr (k := 9) (j := 1) gq2 c0 t_p0 (κ' := 59) rfl rfl rfl
                  have w12617 : rdA q2.2 p0 10 1 = mm_I q2.2 q5 ((1 : Int32)).toNatClampNeg := rdA_eq eq5
                  have w12616 := rdA_fr (k := 10) (j := 1) gq2 c0 t_p0 (κ' := 60) rfl rfl rfl
                  have a12618 := zi_and p3 127 (by decide)
                  have a12619 := zi_and p2 8 (by decide)
                  exact sw_some ⟨cs11, fs11, (by (try simp only [zp, zo, zq] at u11064 xq2 h11065 xq12 h11078 xq14 a11098 u11099 h11100 h11101 h11102 h12338 h12593 w12594 w12595 r12596 r12597 r12598 h12599 w12600 w12603 w12602 w12604 w12606 w12608 w12607 w12610 w12612 w12611 w12613 w12617 w12616 a12618 a12619 ⊢) <;> (try simp only [zz, Int32.reduceToInt, ne_eq] at u11064 xq2 h11065 xq12 h11078 xq14 a11098 u11099 h11100 h11101 h11102 h12338 h12593 w12594 w12595 r12596 r12597 r12598 h12599 w12600 w12603 w12602 w12604 w12606 w12608 w12607 w12610 w12612 w12611 w12613 w12617 w12616 a12618 a12619 ⊢) <;> (try simp (disch := omega) only [zb] at u11064 xq2 h11065 xq12 h11078 xq14 a11098 u11099 h11100 h11101 h11102 h12338 h12593 w12594 w12595 r12596 r12597 r12598 h12599 w12600 w12603 w12602 w12604 w12606 w12608 w12607 w12610 w12612 w12611 w12613 w12617 w12616 a12618 a12619 ⊢) <;> first | omega | ((try simp (disch := omega) only [zb] at u11064 xq2 h11065 xq12 h11078 xq14 a11098 u11099 h11100 h11101 h11102 h12338 h12593 w12594 w12595 r12596 r12597 r12598 h12599 w12600 w12603 w12602 w12604 w12606 w12608 w12607 w12610 w12612 w12611 w12613 w12617 w12616 a12618 a12619 ⊢) <;> omega))⟩
                · refine sw_ite (fun h12620 => ?_) (fun h12620 => ?_)
                  · refine sw_ite (fun h12621 => ?_) (fun h12621 => ?_)
                    · have w12622 : mm_I s11 p0 0 = mm_I q2.2 p0 0 := by rw [← es11]; exact rd_k t_p0 tq5 (by decide)
                      have w12625 : rdA s11 p0 9 0 = mm_I s11 q17 ((0 : Int32)).toNatClampNeg := rdA_eq eq17
                      have w12624 : rdA s11 p0 9 0 = rdA q2.2 p0 9 0 := by rw [← es11]; exact rdA_k cq2 t_p0 (κ' := 59) rfl tq5 (by decide)
                      have w12626 := rdA_fr (k := 9) (j := 0) gq2 c0 t_p0 (κ' := 59) rfl rfl rfl
                      have w12628 : rdA s11 p0 10 0 = rdA q2.2 p0 10 0 := by rw [← es11]; exact rdA_j (by decide)
                      have w12630 : rdA q2.2 p0 10 0 = mm_I q2.2 q5 ((0 : Int32)).toNatClampNeg := rdA_eq eq5
                      have w12629 := rdA_fr (k := 10) (j := 0) gq2 c0 t_p0 (κ' := 60) rfl rfl rfl
                      have w12632 : rdA s11 p0 10 1 = -1 := by rw [← es11]; exact rdA_self eq5
                      have w12634 : rdA s11 p0 9 1 = mm_I s11 q17 ((1 : Int32)).toNatClampNeg := rdA_eq eq17
                      have w12633 : rdA s11 p0 9 1 = rdA q2.2 p0 9 1 := by rw [← es11]; exact rdA_k cq2 t_p0 (κ' := 59) rfl tq5 (by decide)
                      have w12635 := rdA_fr (k := 9) (j := 1) gq2 c0 t_p0 (κ' := 59) rfl rfl rfl
                      have w12639 : rdA q2.2 p0 10 1 = mm_I q2.2 q5 ((1 : Int32)).toNatClampNeg := rdA_eq eq5
                      have w12638 := rdA_fr (k := 10) (j := 1) gq2 c0 t_p0 (κ' := 60) rfl rfl rfl
                      have a12640 := zi_and p3 127 (by decide)
                      have a12641 := zi_and p2 8 (by decide)
                      exact sw_some ⟨cs11, fs11, (by (try simp only [zp, zo, zq] at u11064 xq2 h11065 xq12 h11078 xq14 a11098 u11099 h11100 h11101 h11102 h12338 h12593 w12594 w12595 r12596 r12597 r12598 h12599 h12620 h12621 w12622 w12625 w12624 w12626 w12628 w12630 w12629 w12632 w12634 w12633 w12635 w12639 w12638 a12640 a12641 ⊢) <;> (try simp only [zz, Int32.reduceToInt, ne_eq] at u11064 xq2 h11065 xq12 h11078 xq14 a11098 u11099 h11100 h11101 h11102 h12338 h12593 w12594 w12595 r12596 r12597 r12598 h12599 h12620 h12621 w12622 w12625 w12624 w12626 w12628 w12630 w12629 w12632 w12634 w12633 w12635 w12639 w12638 a12640 a12641 ⊢) <;> (try simp (disch := omega) only [zb] at u11064 xq2 h11065 xq12 h11078 xq14 a11098 u11099 h11100 h11101 h11102 h12338 h12593 w12594 w12595 r12596 r12597 r12598 h12599 h12620 h12621 w12622 w12625 w12624 w12626 w12628 w12630 w12629 w12632 w12634 w12633 w12635 w12639 w12638 a12640 a12641 ⊢) <;> first | omega | ((try simp (disch := omega) only [zb] at u11064 xq2 h11065 xq12 h11078 xq14 a11098 u11099 h11100 h11101 h11102 h12338 h12593 w12594 w12595 r12596 r12597 r12598 h12599 h12620 h12621 w12622 w12625 w12624 w12626 w12628 w12630 w12629 w12632 w12634 w12633 w12635 w12639 w12638 a12640 a12641 ⊢) <;> omega))⟩
                    · unfold fX9_pair_250
                      refine sw_ite (fun h12642 => ?_) (fun h12642 => ?_)
                      · unfold fX9_pair_264
                        refine sw_ite (fun h12643 => ?_) (fun h12643 => ?_)
                        · have w12644 : mm_I s11 p0 0 = mm_I q2.2 p0 0 := by rw [← es11]; exact rd_k t_p0 tq5 (by decide)
                          have w12647 : rdA s11 p0 9 0 = mm_I s11 q17 ((0 : Int32)).toNatClampNeg := rdA_eq eq17
                          have w12646 : rdA s11 p0 9 0 = rdA q2.2 p0 9 0 := by rw [← es11]; exact rdA_k cq2 t_p0 (κ' := 59) rfl tq5 (by decide)
                          have w12648 := rdA_fr (k := 9) (j := 0) gq2 c0 t_p0 (κ' := 59) rfl rfl rfl
                          have w12650 : rdA s11 p0 10 0 = rdA q2.2 p0 10 0 := by rw [← es11]; exact rdA_j (by decide)
                          have w12652 : rdA q2.2 p0 10 0 = mm_I q2.2 q5 ((0 : Int32)).toNatClampNeg := rdA_eq eq5
                          have w12651 := rdA_fr (k := 10) (j := 0) gq2 c0 t_p0 (κ' := 60) rfl rfl rfl
                          have w12654 : rdA s11 p0 10 1 = -1 := by rw [← es11]; exact rdA_self eq5
                          have w12656 : rdA s11 p0 9 1 = mm_I s11 q17 ((1 : Int32)).toNatClampNeg := rdA_eq eq17
                          have w12655 : rdA s11 p0 9 1 = rdA q2.2 p0 9 1 := by rw [← es11]; exact rdA_k cq2 t_p0 (κ' := 59) rfl tq5 (by decide)
                          have w12657 := rdA_fr (k := 9) (j := 1) gq2 c0 t_p0 (κ' := 59) rfl rfl rfl
                          have w12661 : rdA q2.2 p0 10 1 = mm_I q2.2 q5 ((1 : Int32)).toNatClampNeg := rdA_eq eq5
                          have w12660 := rdA_fr (k := 10) (j := 1) gq2 c0 t_p0 (κ' := 60) rfl rfl rfl
                          have a12662 := zi_and p3 127 (by decide)
                          have a12663 := zi_and p2 8 (by decide)
                          exact sw_some ⟨cs11, fs11, (by (try simp only [zp, zo, zq] at u11064 xq2 h11065 xq12 h11078 xq14 a11098 u11099 h11100 h11101 h11102 h12338 h12593 w12594 w12595 r12596 r12597 r12598 h12599 h12620 h12621 h12642 h12643 w12644 w12647 w12646 w12648 w12650 w12652 w12651 w12654 w12656 w12655 w12657 w12661 w12660 a12662 a12663 ⊢) <;> (try simp only [zz, Int32.reduceToInt, ne_eq] at u11064 xq2 h11065 xq12 h11078 xq14 a11098 u11099 h11100 h11101 h11102 h12338 h12593 w12594 w12595 r12596 r12597 r12598 h12599 h12620 h12621 h12642 h12643 w12644 w12647 w12646 w12648 w12650 w12652 w12651 w12654 w12656 w12655 w12657 w12661 w12660 a12662 a12663 ⊢) <;> (try simp (disch := omega) only [zb] at u11064 xq2 h11065 xq12 h11078 xq14 a11098 u11099 h11100 h11101 h11102 h12338 h12593 w12594 w12595 r12596 r12597 r12598 h12599 h12620 h12621 h12642 h12643 w12644 w12647 w12646 w12648 w12650 w12652 w12651 w12654 w12656 w12655 w12657 w12661 w12660 a12662 a12663 ⊢) <;> first | omega | ((try simp (disch := omega) only [zb] at u11064 xq2 h11065 xq12 h11078 xq14 a11098 u11099 h11100 h11101 h11102 h12338 h12593 w12594 w12595 r12596 r12597 r12598 h12599 h12620 h12621 h12642 h12643 w12644 w12647 w12646 w12648 w12650 w12652 w12651 w12654 w12656 w12655 w12657 w12661 w12660 a12662 a12663 ⊢) <;> omega))⟩
                        · refine sw_sh (ci_sh cs11 t_p0 rfl) ?_
                          refine sw_on (sX9_put cs11 t_p0 (by (try simp only [zp, zo, zq] at u11064 xq2 h11065 xq12 h11078 xq14 a11098 u11099 h11100 h11101 h11102 h12338 h12593 w12594 w12595 r12596 r12597 r12598 h12599 h12620 h12621 h12642 h12643 ⊢) <;> (try simp only [zz, Int32.reduceToInt, ne_eq] at u11064 xq2 h11065 xq12 h11078 xq14 a11098 u11099 h11100 h11101 h11102 h12338 h12593 w12594 w12595 r12596 r12597 r12598 h12599 h12620 h12621 h12642 h12643 ⊢) <;> (try simp (disch := omega) only [zb] at u11064 xq2 h11065 xq12 h11078 xq14 a11098 u11099 h11100 h11101 h11102 h12338 h12593 w12594 w12595 r12596 r12597 r12598 h12599 h12620 h12621 h12642 h12643 ⊢) <;> first | omega | ((try simp (disch := omega) only [zb] at u11064 xq2 h11065 xq12 h11078 xq14 a11098 u11099 h11100 h11101 h11102 h12338 h12593 w12594 w12595 r12596 r12597 r12598 h12599 h12620 h12621 h12642 h12643 ⊢) <;> omega)) ) ?_
                          intro q28 hqq28
                          obtain ⟨cq28, gq28, xq28⟩ := hqq28
                          have fq28 := fr_trans fs11 gq28 rfl
                          have w12664 := (gq28.2.2 _ _ t_p0 0 rfl).1
                          have w12665 : mm_I s11 p0 0 = mm_I q2.2 p0 0 := by rw [← es11]; exact rd_k t_p0 tq5 (by decide)
                          have w12667 := rdA_fr (k := 9) (j := 0) gq28 cs11 t_p0 (κ' := 59) rfl rfl rfl
                          have w12669 : rdA s11 p0 9 0 = mm_I s11 q17 ((0 : Int32)).toNatClampNeg := rdA_eq eq17
                          have w12668 : rdA s11 p0 9 0 = rdA q2.2 p0 9 0 := by rw [← es11]; exact rdA_k cq2 t_p0 (κ' := 59) rfl tq5 (by decide)
                          have w12670 := rdA_fr (k := 9) (j := 0) gq2 c0 t_p0 (κ' := 59) rfl rfl rfl
                          have w12672 := rdA_fr (k := 10) (j := 0) gq28 cs11 t_p0 (κ' := 60) rfl rfl rfl
                          have w12673 : rdA s11 p0 10 0 = rdA q2.2 p0 10 0 := by rw [← es11]; exact rdA_j (by decide)
                          have w12675 : rdA q2.2 p0 10 0 = mm_I q2.2 q5 ((0 : Int32)).toNatClampNeg := rdA_eq eq5
                          have w12674 := rdA_fr (k := 10) (j := 0) gq2 c0 t_p0 (κ' := 60) rfl rfl rfl
                          have w12677 := rdA_fr (k := 10) (j := 1) gq28 cs11 t_p0 (κ' := 60) rfl rfl rfl
                          have w12678 : rdA s11 p0 10 1 = -1 := by rw [← es11]; exact rdA_self eq5
                          have w12679 := rdA_fr (k := 9) (j := 1) gq28 cs11 t_p0 (κ' := 59) rfl rfl rfl
                          have w12681 : rdA s11 p0 9 1 = mm_I s11 q17 ((1 : Int32)).toNatClampNeg := rdA_eq eq17
                          have w12680 : rdA s11 p0 9 1 = rdA q2.2 p0 9 1 := by rw [← es11]; exact rdA_k cq2 t_p0 (κ' := 59) rfl tq5 (by decide)
                          have w12682 := rdA_fr (k := 9) (j := 1) gq2 c0 t_p0 (κ' := 59) rfl rfl rfl
                          have w12686 : rdA q2.2 p0 10 1 = mm_I q2.2 q5 ((1 : Int32)).toNatClampNeg := rdA_eq eq5
                          have w12685 := rdA_fr (k := 10) (j := 1) gq2 c0 t_p0 (κ' := 60) rfl rfl rfl
                          have a12687 := zi_and p3 127 (by decide)
                          have a12688 := zi_and p2 8 (by decide)
                          exact sw_some ⟨cq28, fq28, (by (try simp only [zp, zo, zq] at u11064 xq2 h11065 xq12 h11078 xq14 a11098 u11099 h11100 h11101 h11102 h12338 h12593 w12594 w12595 r12596 r12597 r12598 h12599 h12620 h12621 h12642 h12643 w12664 w12665 w12667 w12669 w12668 w12670 w12672 w12673 w12675 w12674 w12677 w12678 w12679 w12681 w12680 w12682 w12686 w12685 a12687 a12688 ⊢) <;> (try simp only [zz, Int32.reduceToInt, ne_eq] at u11064 xq2 h11065 xq12 h11078 xq14 a11098 u11099 h11100 h11101 h11102 h12338 h12593 w12594 w12595 r12596 r12597 r12598 h12599 h12620 h12621 h12642 h12643 w12664 w12665 w12667 w12669 w12668 w12670 w12672 w12673 w12675 w12674 w12677 w12678 w12679 w12681 w12680 w12682 w12686 w12685 a12687 a12688 ⊢) <;> (try simp (disch := omega) only [zb] at u11064 xq2 h11065 xq12 h11078 xq14 a11098 u11099 h11100 h11101 h11102 h12338 h12593 w12594 w12595 r12596 r12597 r12598 h12599 h12620 h12621 h12642 h12643 w12664 w12665 w12667 w12669 w12668 w12670 w12672 w12673 w12675 w12674 w12677 w12678 w12679 w12681 w12680 w12682 w12686 w12685 a12687 a12688 ⊢) <;> first | omega | ((try simp (disch := omega) only [zb] at u11064 xq2 h11065 xq12 h11078 xq14 a11098 u11099 h11100 h11101 h11102 h12338 h12593 w12594 w12595 r12596 r12597 r12598 h12599 h12620 h12621 h12642 h12643 w12664 w12665 w12667 w12669 w12668 w12670 w12672 w12673 w12675 w12674 w12677 w12678 w12679 w12681 w12680 w12682 w12686 w12685 a12687 a12688 ⊢) <;> omega))⟩
                      · refine sw_sh (ci_sh cs11 t_p0 rfl) ?_
                        refine sw_on (sX9_put cs11 t_p0 (by (try simp only [zp, zo, zq] at u11064 xq2 h11065 xq12 h11078 xq14 a11098 u11099 h11100 h11101 h11102 h12338 h12593 w12594 w12595 r12596 r12597 r12598 h12599 h12620 h12621 h12642 ⊢) <;> (try simp only [zz, Int32.reduceToInt, ne_eq] at u11064 xq2 h11065 xq12 h11078 xq14 a11098 u11099 h11100 h11101 h11102 h12338 h12593 w12594 w12595 r12596 r12597 r12598 h12599 h12620 h12621 h12642 ⊢) <;> (try simp (disch := omega) only [zb] at u11064 xq2 h11065 xq12 h11078 xq14 a11098 u11099 h11100 h11101 h11102 h12338 h12593 w12594 w12595 r12596 r12597 r12598 h12599 h12620 h12621 h12642 ⊢) <;> first | omega | ((try simp (disch := omega) only [zb] at u11064 xq2 h11065 xq12 h11078 xq14 a11098 u11099 h11100 h11101 h11102 h12338 h12593 w12594 w12595 r12596 r12597 r12598 h12599 h12620 h12621 h12642 ⊢) <;> omega)) ) ?_
                        intro q30 hqq30
                        obtain ⟨cq30, gq30, xq30⟩ := hqq30
                        have fq30 := fr_trans fs11 gq30 rfl
                        unfold fX9_pair_264
                        refine sw_ite (fun h12689 => ?_) (fun h12689 => ?_)
                        · have w12690 := (gq30.2.2 _ _ t_p0 0 rfl).1
                          have w12691 : mm_I s11 p0 0 = mm_I q2.2 p0 0 := by rw [← es11]; exact rd_k t_p0 tq5 (by decide)
                          have w12693 := rdA_fr (k := 9) (j := 0) gq30 cs11 t_p0 (κ' := 59) rfl rfl rfl
                          have w12695 : rdA s11 p0 9 0 = mm_I s11 q17 ((0 : Int32)).toNatClampNeg := rdA_eq eq17
                          have w12694 : rdA s11 p0 9 0 = rdA q2.2 p0 9 0 := by rw [← es11]; exact rdA_k cq2 t_p0 (κ' := 59) rfl tq5 (by decide)
                          have w12696 := rdA_fr (k := 9) (j := 0) gq2 c0 t_p0 (κ' := 59) rfl rfl rfl
                          have w12698 := rdA_fr (k := 10) (j := 0) gq30 cs11 t_p0 (κ' := 60) rfl rfl rfl
                          have w12699 : rdA s11 p0 10 0 = rdA q2.2 p0 10 0 := by rw [← es11]; exact rdA_j (by decide)
                          have w12701 : rdA q2.2 p0 10 0 = mm_I q2.2 q5 ((0 : Int32)).toNatClampNeg := rdA_eq eq5
                          have w12700 := rdA_fr (k := 10) (j := 0) gq2 c0 t_p0 (κ' := 60) rfl rfl rfl
                          have w12703 := rdA_fr (k := 10) (j := 1) gq30 cs11 t_p0 (κ' := 60) rfl rfl rfl
                          have w12704 : rdA s11 p0 10 1 = -1 := by rw [← es11]; exact rdA_self eq5
                          have w12705 := rdA_fr (k := 9) (j := 1) gq30 cs11 t_p0 (κ' := 59) rfl rfl rfl
                          have w12707 : rdA s11 p0 9 1 = mm_I s11 q17 ((1 : Int32)).toNatClampNeg := rdA_eq eq17
                          have w12706 : rdA s11 p0 9 1 = rdA q2.2 p0 9 1 := by rw [← es11]; exact rdA_k cq2 t_p0 (κ' := 59) rfl tq5 (by decide)
                          have w12708 := rdA_fr (k := 9) (j := 1) gq2 c0 t_p0 (κ' := 59) rfl rfl rfl
                          have w12712 : rdA q2.2 p0 10 1 = mm_I q2.2 q5 ((1 : Int32)).toNatClampNeg := rdA_eq eq5
                          have w12711 := rdA_fr (k := 10) (j := 1) gq2 c0 t_p0 (κ' := 60) rfl rfl rfl
                          have a12713 := zi_and p3 127 (by decide)
                          have a12714 := zi_and p2 8 (by decide)
                          exact sw_some ⟨cq30, fq30, (by (try simp only [zp, zo, zq] at u11064 xq2 h11065 xq12 h11078 xq14 a11098 u11099 h11100 h11101 h11102 h12338 h12593 w12594 w12595 r12596 r12597 r12598 h12599 h12620 h12621 h12642 h12689 w12690 w12691 w12693 w12695 w12694 w12696 w12698 w12699 w12701 w12700 w12703 w12704 w12705 w12707 w12706 w12708 w12712 w12711 a12713 a12714 ⊢) <;> (try simp only [zz, Int32.reduceToInt, ne_eq] at u11064 xq2 h11065 xq12 h11078 xq14 a11098 u11099 h11100 h11101 h11102 h12338 h12593 w12594 w12595 r12596 r12597 r12598 h12599 h12620 h12621 h12642 h12689 w12690 w12691 w12693 w12695 w12694 w12696 w12698 w12699 w12701 w12700 w12703 w12704 w12705 w12707 w12706 w12708 w12712 w12711 a12713 a12714 ⊢) <;> (try simp (disch := omega) only [zb] at u11064 xq2 h11065 xq12 h11078 xq14 a11098 u11099 h11100 h11101 h11102 h12338 h12593 w12594 w12595 r12596 r12597 r12598 h12599 h12620 h12621 h12642 h12689 w12690 w12691 w12693 w12695 w12694 w12696 w12698 w12699 w12701 w12700 w12703 w12704 w12705 w12707 w12706 w12708 w12712 w12711 a12713 a12714 ⊢) <;> first | omega | ((try simp (disch := omega) only [zb] at u11064 xq2 h11065 xq12 h11078 xq14 a11098 u11099 h11100 h11101 h11102 h12338 h12593 w12594 w12595 r12596 r12597 r12598 h12599 h12620 h12621 h12642 h12689 w12690 w12691 w12693 w12695 w12694 w12696 w12698 w12699 w12701 w12700 w12703 w12704 w12705 w12707 w12706 w12708 w12712 w12711 a12713 a12714 ⊢) <;> omega))⟩
                        · refine sw_sh (ci_sh cq30 t_p0 rfl) ?_
                          refine sw_on (sX9_put cq30 t_p0 (by (try simp only [zp, zo, zq] at u11064 xq2 h11065 xq12 h11078 xq14 a11098 u11099 h11100 h11101 h11102 h12338 h12593 w12594 w12595 r12596 r12597 r12598 h12599 h12620 h12621 h12642 h12689 ⊢) <;> (try simp only [zz, Int32.reduceToInt, ne_eq] at u11064 xq2 h11065 xq12 h11078 xq14 a11098 u11099 h11100 h11101 h11102 h12338 h12593 w12594 w12595 r12596 r12597 r12598 h12599 h12620 h12621 h12642 h12689 ⊢) <;> (try simp (disch := omega) only [zb] at u11064 xq2 h11065 xq12 h11078 xq14 a11098 u11099 h11100 h11101 h11102 h12338 h12593 w12594 w12595 r12596 r12597 r12598 h12599 h12620 h12621 h12642 h12689 ⊢) <;> first | omega | ((try simp (disch := omega) only [zb] at u11064 xq2 h11065 xq12 h11078 xq14 a11098 u11099 h11100 h11101 h11102 h12338 h12593 w12594 w12595 r12596 r12597 r12598 h12599 h12620 h12621 h12642 h12689 ⊢) <;> omega)) ) ?_
                          intro q28 hqq28
                          obtain ⟨cq28, gq28, xq28⟩ := hqq28
                          have fq28 := fr_trans fq30 gq28 rfl
                          have w12715 := (gq28.2.2 _ _ t_p0 0 rfl).1
                          have w12716 := (gq30.2.2 _ _ t_p0 0 rfl).1
                          have w12717 : mm_I s11 p0 0 = mm_I q2.2 p0 0 := by rw [← es11]; exact rd_k t_p0 tq5 (by decide)
                          have w12719 := rdA_fr (k := 9) (j := 0) gq28 cq30 t_p0 (κ' := 59) rfl rfl rfl
                          have w12720 := rdA_fr (k := 9) (j := 0) gq30 cs11 t_p0 (κ' := 59) rfl rfl rfl
                          have w12722 : rdA s11 p0 9 0 = mm_I s11 q17 ((0 : Int32)).toNatClampNeg := rdA_eq eq17
                          have w12721 : rdA s11 p0 9 0 = rdA q2.2 p0 9 0 := by rw [← es11]; exact rdA_k cq2 t_p0 (κ' := 59) rfl tq5 (by decide)
                          have w12723 := rdA_fr (k := 9) (j := 0) gq2 c0 t_p0 (κ' := 59) rfl rfl rfl
                          have w12725 := rdA_fr (k := 10) (j := 0) gq28 cq30 t_p0 (κ' := 60) rfl rfl rfl
                          have w12726 := rdA_fr (k := 10) (j := 0) gq30 cs11 t_p0 (κ' := 60) rfl rfl rfl
                          have w12727 : rdA s11 p0 10 0 = rdA q2.2 p0 10 0 := by rw [← es11]; exact rdA_j (by decide)
                          have w12729 : rdA q2.2 p0 10 0 = mm_I q2.2 q5 ((0 : Int32)).toNatClampNeg := rdA_eq eq5
                          have w12728 := rdA_fr (k := 10) (j := 0) gq2 c0 t_p0 (κ' := 60) rfl rfl rfl
                          have w12731 := rdA_fr (k := 10) (j := 1) gq28 cq30 t_p0 (κ' := 60) rfl rfl rfl
                          have w12732 := rdA_fr (k := 10) (j := 1) gq30 cs11 t_p0 (κ' := 60) rfl rfl rfl
                          have w12733 : rdA s11 p0 10 1 = -1 := by rw [← es11]; exact rdA_self eq5
                          have w12734 := rdA_fr (k := 9) (j := 1) gq28 cq30 t_p0 (κ' := 59) rfl rfl rfl
                          have w12735 := rdA_fr (k := 9) (j := 1) gq30 cs11 t_p0 (κ' := 59) rfl rfl rfl
                          have w12737 : rdA s11 p0 9 1 = mm_I s11 q17 ((1 : Int32)).toNatClampNeg := rdA_eq eq17
                          have w12736 : rdA s11 p0 9 1 = rdA q2.2 p0 9 1 := by rw [← es11]; exact rdA_k cq2 t_p0 (κ' := 59) rfl tq5 (by decide)
                          have w12738 := rdA_fr (k := 9) (j := 1) gq2 c0 t_p0 (κ' := 59) rfl rfl rfl
                          have w12742 : rdA q2.2 p0 10 1 = mm_I q2.2 q5 ((1 : Int32)).toNatClampNeg := rdA_eq eq5
                          have w12741 := rdA_fr (k := 10) (j := 1) gq2 c0 t_p0 (κ' := 60) rfl rfl rfl
                          have a12743 := zi_and p3 127 (by decide)
                          have a12744 := zi_and p2 8 (by decide)
                          exact sw_some ⟨cq28, fq28, (by (try simp only [zp, zo, zq] at u11064 xq2 h11065 xq12 h11078 xq14 a11098 u11099 h11100 h11101 h11102 h12338 h12593 w12594 w12595 r12596 r12597 r12598 h12599 h12620 h12621 h12642 h12689 w12715 w12716 w12717 w12719 w12720 w12722 w12721 w12723 w12725 w12726 w12727 w12729 w12728 w12731 w12732 w12733 w12734 w12735 w12737 w12736 w12738 w12742 w12741 a12743 a12744 ⊢) <;> (try simp only [zz, Int32.reduceToInt, ne_eq] at u11064 xq2 h11065 xq12 h11078 xq14 a11098 u11099 h11100 h11101 h11102 h12338 h12593 w12594 w12595 r12596 r12597 r12598 h12599 h12620 h12621 h12642 h12689 w12715 w12716 w12717 w12719 w12720 w12722 w12721 w12723 w12725 w12726 w12727 w12729 w12728 w12731 w12732 w12733 w12734 w12735 w12737 w12736 w12738 w12742 w12741 a12743 a12744 ⊢) <;> (try simp (disch := omega) only [zb] at u11064 xq2 h11065 xq12 h11078 xq14 a11098 u11099 h11100 h11101 h11102 h12338 h12593 w12594 w12595 r12596 r12597 r12598 h12599 h12620 h12621 h12642 h12689 w12715 w12716 w12717 w12719 w12720 w12722 w12721 w12723 w12725 w12726 w12727 w12729 w12728 w12731 w12732 w12733 w12734 w12735 w12737 w12736 w12738 w12742 w12741 a12743 a12744 ⊢) <;> first | omega | ((try simp (disch := omega) only [zb] at u11064 xq2 h11065 xq12 h11078 xq14 a11098 u11099 h11100 h11101 h11102 h12338 h12593 w12594 w12595 r12596 r12597 r12598 h12599 h12620 h12621 h12642 h12689 w12715 w12716 w12717 w12719 w12720 w12722 w12721 w12723 w12725 w12726 w12727 w12729 w12728 w12731 w12732 w12733 w12734 w12735 w12737 w12736 w12738 w12742 w12741 a12743 a12744 ⊢) <;> omega))⟩
                  · unfold fX9_pair_250
                    refine sw_ite (fun h12745 => ?_) (fun h12745 => ?_)
                    · unfold fX9_pair_264
                      refine sw_ite (fun h12746 => ?_) (fun h12746 => ?_)
                      · have w12747 : mm_I s11 p0 0 = mm_I q2.2 p0 0 := by rw [← es11]; exact rd_k t_p0 tq5 (by decide)
                        have w12750 : rdA s11 p0 9 0 = mm_I s11 q17 ((0 : Int32)).toNatClampNeg := rdA_eq eq17
                        have w12749 : rdA s11 p0 9 0 = rdA q2.2 p0 9 0 := by rw [← es11]; exact rdA_k cq2 t_p0 (κ' := 59) rfl tq5 (by decide)
                        have w12751 := rdA_fr (k := 9) (j := 0) gq2 c0 t_p0 (κ' := 59) rfl rfl rfl
                        have w12753 : rdA s11 p0 10 0 = rdA q2.2 p0 10 0 := by rw [← es11]; exact rdA_j (by decide)
                        have w12755 : rdA q2.2 p0 10 0 = mm_I q2.2 q5 ((0 : Int32)).toNatClampNeg := rdA_eq eq5
                        have w12754 := rdA_fr (k := 10) (j := 0) gq2 c0 t_p0 (κ' := 60) rfl rfl rfl
                        have w12757 : rdA s11 p0 10 1 = -1 := by rw [← es11]; exact rdA_self eq5
                        have w12759 : rdA s11 p0 9 1 = mm_I s11 q17 ((1 : Int32)).toNatClampNeg := rdA_eq eq17
                        have w12758 : rdA s11 p0 9 1 = rdA q2.2 p0 9 1 := by rw [← es11]; exact rdA_k cq2 t_p0 (κ' := 59) rfl tq5 (by decide)
                        have w12760 := rdA_fr (k := 9) (j := 1) gq2 c0 t_p0 (κ' := 59) rfl rfl rfl
                        have w12764 : rdA q2.2 p0 10 1 = mm_I q2.2 q5 ((1 : Int32)).toNatClampNeg := rdA_eq eq5
                        have w12763 := rdA_fr (k := 10) (j := 1) gq2 c0 t_p0 (κ' := 60) rfl rfl rfl
                        have a12765 := zi_and p3 127 (by decide)
                        have a12766 := zi_and p2 8 (by decide)
                        exact sw_some ⟨cs11, fs11, (by (try simp only [zp, zo, zq] at u11064 xq2 h11065 xq12 h11078 xq14 a11098 u11099 h11100 h11101 h11102 h12338 h12593 w12594 w12595 r12596 r12597 r12598 h12599 h12620 h12745 h12746 w12747 w12750 w12749 w12751 w12753 w12755 w12754 w12757 w12759 w12758 w12760 w12764 w12763 a12765 a12766 ⊢) <;> (try simp only [zz, Int32.reduceToInt, ne_eq] at u11064 xq2 h11065 xq12 h11078 xq14 a11098 u11099 h11100 h11101 h11102 h12338 h12593 w12594 w12595 r12596 r12597 r12598 h12599 h12620 h12745 h12746 w12747 w12750 w12749 w12751 w12753 w12755 w12754 w12757 w12759 w12758 w12760 w12764 w12763 a12765 a12766 ⊢) <;> (try simp (disch := omega) only [zb] at u11064 xq2 h11065 xq12 h11078 xq14 a11098 u11099 h11100 h11101 h11102 h12338 h12593 w12594 w12595 r12596 r12597 r12598 h12599 h12620 h12745 h12746 w12747 w12750 w12749 w12751 w12753 w12755 w12754 w12757 w12759 w12758 w12760 w12764 w12763 a12765 a12766 ⊢) <;> first | omega | ((try simp (disch := omega) only [zb] at u11064 xq2 h11065 xq12 h11078 xq14 a11098 u11099 h11100 h11101 h11102 h12338 h12593 w12594 w12595 r12596 r12597 r12598 h12599 h12620 h12745 h12746 w12747 w12750 w12749 w12751 w12753 w12755 w12754 w12757 w12759 w12758 w12760 w12764 w12763 a12765 a12766 ⊢) <;> omega))⟩
                      · refine sw_sh (ci_sh cs11 t_p0 rfl) ?_
                        refine sw_on (sX9_put cs11 t_p0 (by (try simp only [zp, zo, zq] at u11064 xq2 h11065 xq12 h11078 xq14 a11098 u11099 h11100 h11101 h11102 h12338 h12593 w12594 w12595 r12596 r12597 r12598 h12599 h12620 h12745 h12746 ⊢) <;> (try simp only [zz, Int32.reduceToInt, ne_eq] at u11064 xq2 h11065 xq12 h11078 xq14 a11098 u11099 h11100 h11101 h11102 h12338 h12593 w12594 w12595 r12596 r12597 r12598 h12599 h12620 h12745 h12746 ⊢) <;> (try simp (disch := omega) only [zb] at u11064 xq2 h11065 xq12 h11078 xq14 a11098 u11099 h11100 h11101 h11102 h12338 h12593 w12594 w12595 r12596 r12597 r12598 h12599 h12620 h12745 h12746 ⊢) <;> first | omega | ((try simp (disch := omega) only [zb] at u11064 xq2 h11065 xq12 h11078 xq14 a11098 u11099 h11100 h11101 h11102 h12338 h12593 w12594 w12595 r12596 r12597 r12598 h12599 h12620 h12745 h12746 ⊢) <;> omega)) ) ?_
                        intro q28 hqq28
                        obtain ⟨cq28, gq28, xq28⟩ := hqq28
                        have fq28 := fr_trans fs11 gq28 rfl
                        have w12767 := (gq28.2.2 _ _ t_p0 0 rfl).1
                        have w12768 : mm_I s11 p0 0 = mm_I q2.2 p0 0 := by rw [← es11]; exact rd_k t_p0 tq5 (by decide)
                        have w12770 := rdA_fr (k := 9) (j := 0) gq28 cs11 t_p0 (κ' := 59) rfl rfl rfl
                        have w12772 : rdA s11 p0 9 0 = mm_I s11 q17 ((0 : Int32)).toNatClampNeg := rdA_eq eq17
                        have w12771 : rdA s11 p0 9 0 = rdA q2.2 p0 9 0 := by rw [← es11]; exact rdA_k cq2 t_p0 (κ' := 59) rfl tq5 (by decide)
                        have w12773 := rdA_fr (k := 9) (j := 0) gq2 c0 t_p0 (κ' := 59) rfl rfl rfl
                        have w12775 := rdA_fr (k := 10) (j := 0) gq28 cs11 t_p0 (κ' := 60) rfl rfl rfl
                        have w12776 : rdA s11 p0 10 0 = rdA q2.2 p0 10 0 := by rw [← es11]; exact rdA_j (by decide)
                        have w12778 : rdA q2.2 p0 10 0 = mm_I q2.2 q5 ((0 : Int32)).toNatClampNeg := rdA_eq eq5
                        have w12777 := rdA_fr (k := 10) (j := 0) gq2 c0 t_p0 (κ' := 60) rfl rfl rfl
                        have w12780 := rdA_fr (k := 10) (j := 1) gq28 cs11 t_p0 (κ' := 60) rfl rfl rfl
                        have w12781 : rdA s11 p0 10 1 = -1 := by rw [← es11]; exact rdA_self eq5
                        have w12782 := rdA_fr (k := 9) (j := 1) gq28 cs11 t_p0 (κ' := 59) rfl rfl rfl
                        have w12784 : rdA s11 p0 9 1 = mm_I s11 q17 ((1 : Int32)).toNatClampNeg := rdA_eq eq17
                        have w12783 : rdA s11 p0 9 1 = rdA q2.2 p0 9 1 := by rw [← es11]; exact rdA_k cq2 t_p0 (κ' := 59) rfl tq5 (by decide)
                        have w12785 := rdA_fr (k := 9) (j := 1) gq2 c0 t_p0 (κ' := 59) rfl rfl rfl
                        have w12789 : rdA q2.2 p0 10 1 = mm_I q2.2 q5 ((1 : Int32)).toNatClampNeg := rdA_eq eq5
                        have w12788 := rdA_fr (k := 10) (j := 1) gq2 c0 t_p0 (κ' := 60) rfl rfl rfl
                        have a12790 := zi_and p3 127 (by decide)
                        have a12791 := zi_and p2 8 (by decide)
                        exact sw_some ⟨cq28, fq28, (by (try simp only [zp, zo, zq] at u11064 xq2 h11065 xq12 h11078 xq14 a11098 u11099 h11100 h11101 h11102 h12338 h12593 w12594 w12595 r12596 r12597 r12598 h12599 h12620 h12745 h12746 w12767 w12768 w12770 w12772 w12771 w12773 w12775 w12776 w12778 w12777 w12780 w12781 w12782 w12784 w12783 w12785 w12789 w12788 a12790 a12791 ⊢) <;> (try simp only [zz, Int32.reduceToInt, ne_eq] at u11064 xq2 h11065 xq12 h11078 xq14 a11098 u11099 h11100 h11101 h11102 h12338 h12593 w12594 w12595 r12596 r12597 r12598 h12599 h12620 h12745 h12746 w12767 w12768 w12770 w12772 w12771 w12773 w12775 w12776 w12778 w12777 w12780 w12781 w12782 w12784 w12783 w12785 w12789 w12788 a12790 a12791 ⊢) <;> (try simp (disch := omega) only [zb] at u11064 xq2 h11065 xq12 h11078 xq14 a11098 u11099 h11100 h11101 h11102 h12338 h12593 w12594 w12595 r12596 r12597 r12598 h12599 h12620 h12745 h12746 w12767 w12768 w12770 w12772 w12771 w12773 w12775 w12776 w12778 w12777 w12780 w12781 w12782 w12784 w12783 w12785 w12789 w12788 a12790 a12791 ⊢) <;> first | omega | ((try simp (disch := omega) only [zb] at u11064 xq2 h11065 xq12 h11078 xq14 a11098 u11099 h11100 h11101 h11102 h12338 h12593 w12594 w12595 r12596 r12597 r12598 h12599 h12620 h12745 h12746 w12767 w12768 w12770 w12772 w12771 w12773 w12775 w12776 w12778 w12777 w12780 w12781 w12782 w12784 w12783 w12785 w12789 w12788 a12790 a12791 ⊢) <;> omega))⟩
                    · refine sw_sh (ci_sh cs11 t_p0 rfl) ?_
                      refine sw_on (sX9_put cs11 t_p0 (by (try simp only [zp, zo, zq] at u11064 xq2 h11065 xq12 h11078 xq14 a11098 u11099 h11100 h11101 h11102 h12338 h12593 w12594 w12595 r12596 r12597 r12598 h12599 h12620 h12745 ⊢) <;> (try simp only [zz, Int32.reduceToInt, ne_eq] at u11064 xq2 h11065 xq12 h11078 xq14 a11098 u11099 h11100 h11101 h11102 h12338 h12593 w12594 w12595 r12596 r12597 r12598 h12599 h12620 h12745 ⊢) <;> (try simp (disch := omega) only [zb] at u11064 xq2 h11065 xq12 h11078 xq14 a11098 u11099 h11100 h11101 h11102 h12338 h12593 w12594 w12595 r12596 r12597 r12598 h12599 h12620 h12745 ⊢) <;> first | omega | ((try simp (disch := omega) only [zb] at u11064 xq2 h11065 xq12 h11078 xq14 a11098 u11099 h11100 h11101 h11102 h12338 h12593 w12594 w12595 r12596 r12597 r12598 h12599 h12620 h12745 ⊢) <;> omega)) ) ?_
                      intro q30 hqq30
                      obtain ⟨cq30, gq30, xq30⟩ := hqq30
                      have fq30 := fr_trans fs11 gq30 rfl
                      unfold fX9_pair_264
                      refine sw_ite (fun h12792 => ?_) (fun h12792 => ?_)
                      · have w12793 := (gq30.2.2 _ _ t_p0 0 rfl).1
                        have w12794 : mm_I s11 p0 0 = mm_I q2.2 p0 0 := by rw [← es11]; exact rd_k t_p0 tq5 (by decide)
                        have w12796 := rdA_fr (k := 9) (j := 0) gq30 cs11 t_p0 (κ' := 59) rfl rfl rfl
                        have w12798 : rdA s11 p0 9 0 = mm_I s11 q17 ((0 : Int32)).toNatClampNeg := rdA_eq eq17
                        have w12797 : rdA s11 p0 9 0 = rdA q2.2 p0 9 0 := by rw [← es11]; exact rdA_k cq2 t_p0 (κ' := 59) rfl tq5 (by decide)
                        have w12799 := rdA_fr (k := 9) (j := 0) gq2 c0 t_p0 (κ' := 59) rfl rfl rfl
                        have w12801 := rdA_fr (k := 10) (j := 0) gq30 cs11 t_p0 (κ' := 60) rfl rfl rfl
                        have w12802 : rdA s11 p0 10 0 = rdA q2.2 p0 10 0 := by rw [← es11]; exact rdA_j (by decide)
                        have w12804 : rdA q2.2 p0 10 0 = mm_I q2.2 q5 ((0 : Int32)).toNatClampNeg := rdA_eq eq5
                        have w12803 := rdA_fr (k := 10) (j := 0) gq2 c0 t_p0 (κ' := 60) rfl rfl rfl
                        have w12806 := rdA_fr (k := 10) (j := 1) gq30 cs11 t_p0 (κ' := 60) rfl rfl rfl
                        have w12807 : rdA s11 p0 10 1 = -1 := by rw [← es11]; exact rdA_self eq5
                        have w12808 := rdA_fr (k := 9) (j := 1) gq30 cs11 t_p0 (κ' := 59) rfl rfl rfl
                        have w12810 : rdA s11 p0 9 1 = mm_I s11 q17 ((1 : Int32)).toNatClampNeg := rdA_eq eq17
                        have w12809 : rdA s11 p0 9 1 = rdA q2.2 p0 9 1 := by rw [← es11]; exact rdA_k cq2 t_p0 (κ' := 59) rfl tq5 (by decide)
                        have w12811 := rdA_fr (k := 9) (j := 1) gq2 c0 t_p0 (κ' := 59) rfl rfl rfl
                        have w12815 : rdA q2.2 p0 10 1 = mm_I q2.2 q5 ((1 : Int32)).toNatClampNeg := rdA_eq eq5
                        have w12814 := rdA_fr (k := 10) (j := 1) gq2 c0 t_p0 (κ' := 60) rfl rfl rfl
                        have a12816 := zi_and p3 127 (by decide)
                        have a12817 := zi_and p2 8 (by decide)
                        exact sw_some ⟨cq30, fq30, (by (try simp only [zp, zo, zq] at u11064 xq2 h11065 xq12 h11078 xq14 a11098 u11099 h11100 h11101 h11102 h12338 h12593 w12594 w12595 r12596 r12597 r12598 h12599 h12620 h12745 h12792 w12793 w12794 w12796 w12798 w12797 w12799 w12801 w12802 w12804 w12803 w12806 w12807 w12808 w12810 w12809 w12811 w12815 w12814 a12816 a12817 ⊢) <;> (try simp only [zz, Int32.reduceToInt, ne_eq] at u11064 xq2 h11065 xq12 h11078 xq14 a11098 u11099 h11100 h11101 h11102 h12338 h12593 w12594 w12595 r12596 r12597 r12598 h12599 h12620 h12745 h12792 w12793 w12794 w12796 w12798 w12797 w12799 w12801 w12802 w12804 w12803 w12806 w12807 w12808 w12810 w12809 w12811 w12815 w12814 a12816 a12817 ⊢) <;> (try simp (disch := omega) only [zb] at u11064 xq2 h11065 xq12 h11078 xq14 a11098 u11099 h11100 h11101 h11102 h12338 h12593 w12594 w12595 r12596 r12597 r12598 h12599 h12620 h12745 h12792 w12793 w12794 w12796 w12798 w12797 w12799 w12801 w12802 w12804 w12803 w12806 w12807 w12808 w12810 w12809 w12811 w12815 w12814 a12816 a12817 ⊢) <;> first | omega | ((try simp (disch := omega) only [zb] at u11064 xq2 h11065 xq12 h11078 xq14 a11098 u11099 h11100 h11101 h11102 h12338 h12593 w12594 w12595 r12596 r12597 r12598 h12599 h12620 h12745 h12792 w12793 w12794 w12796 w12798 w12797 w12799 w12801 w12802 w12804 w12803 w12806 w12807 w12808 w12810 w12809 w12811 w12815 w12814 a12816 a12817 ⊢) <;> omega))⟩
                      · refine sw_sh (ci_sh cq30 t_p0 rfl) ?_
                        refine sw_on (sX9_put cq30 t_p0 (by (try simp only [zp, zo, zq] at u11064 xq2 h11065 xq12 h11078 xq14 a11098 u11099 h11100 h11101 h11102 h12338 h12593 w12594 w12595 r12596 r12597 r12598 h12599 h12620 h12745 h12792 ⊢) <;> (try simp only [zz, Int32.reduceToInt, ne_eq] at u11064 xq2 h11065 xq12 h11078 xq14 a11098 u11099 h11100 h11101 h11102 h12338 h12593 w12594 w12595 r12596 r12597 r12598 h12599 h12620 h12745 h12792 ⊢) <;> (try simp (disch := omega) only [zb] at u11064 xq2 h11065 xq12 h11078 xq14 a11098 u11099 h11100 h11101 h11102 h12338 h12593 w12594 w12595 r12596 r12597 r12598 h12599 h12620 h12745 h12792 ⊢) <;> first | omega | ((try simp (disch := omega) only [zb] at u11064 xq2 h11065 xq12 h11078 xq14 a11098 u11099 h11100 h11101 h11102 h12338 h12593 w12594 w12595 r12596 r12597 r12598 h12599 h12620 h12745 h12792 ⊢) <;> omega)) ) ?_
                        intro q28 hqq28
                        obtain ⟨cq28, gq28, xq28⟩ := hqq28
                        have fq28 := fr_trans fq30 gq28 rfl
                        have w12818 := (gq28.2.2 _ _ t_p0 0 rfl).1
                        have w12819 := (gq30.2.2 _ _ t_p0 0 rfl).1
                        have w12820 : mm_I s11 p0 0 = mm_I q2.2 p0 0 := by rw [← es11]; exact rd_k t_p0 tq5 (by decide)
                        have w12822 := rdA_fr (k := 9) (j := 0) gq28 cq30 t_p0 (κ' := 59) rfl rfl rfl
                        have w12823 := rdA_fr (k := 9) (j := 0) gq30 cs11 t_p0 (κ' := 59) rfl rfl rfl
                        have w12825 : rdA s11 p0 9 0 = mm_I s11 q17 ((0 : Int32)).toNatClampNeg := rdA_eq eq17
                        have w12824 : rdA s11 p0 9 0 = rdA q2.2 p0 9 0 := by rw [← es11]; exact rdA_k cq2 t_p0 (κ' := 59) rfl tq5 (by decide)
                        have w12826 := rdA_fr (k := 9) (j := 0) gq2 c0 t_p0 (κ' := 59) rfl rfl rfl
                        have w12828 := rdA_fr (k := 10) (j := 0) gq28 cq30 t_p0 (κ' := 60) rfl rfl rfl
                        have w12829 := rdA_fr (k := 10) (j := 0) gq30 cs11 t_p0 (κ' := 60) rfl rfl rfl
                        have w12830 : rdA s11 p0 10 0 = rdA q2.2 p0 10 0 := by rw [← es11]; exact rdA_j (by decide)
                        have w12832 : rdA q2.2 p0 10 0 = mm_I q2.2 q5 ((0 : Int32)).toNatClampNeg := rdA_eq eq5
                        have w12831 := rdA_fr (k := 10) (j := 0) gq2 c0 t_p0 (κ' := 60) rfl rfl rfl
                        have w12834 := rdA_fr (k := 10) (j := 1) gq28 cq30 t_p0 (κ' := 60) rfl rfl rfl
                        have w12835 := rdA_fr (k := 10) (j := 1) gq30 cs11 t_p0 (κ' := 60) rfl rfl rfl
                        have w12836 : rdA s11 p0 10 1 = -1 := by rw [← es11]; exact rdA_self eq5
                        have w12837 := rdA_fr (k := 9) (j := 1) gq28 cq30 t_p0 (κ' := 59) rfl rfl rfl
                        have w12838 := rdA_fr (k := 9) (j := 1) gq30 cs11 t_p0 (κ' := 59) rfl rfl rfl
                        have w12840 : rdA s11 p0 9 1 = mm_I s11 q17 ((1 : Int32)).toNatClampNeg := rdA_eq eq17
                        have w12839 : rdA s11 p0 9 1 = rdA q2.2 p0 9 1 := by rw [← es11]; exact rdA_k cq2 t_p0 (κ' := 59) rfl tq5 (by decide)
                        have w12841 := rdA_fr (k := 9) (j := 1) gq2 c0 t_p0 (κ' := 59) rfl rfl rfl
                        have w12845 : rdA q2.2 p0 10 1 = mm_I q2.2 q5 ((1 : Int32)).toNatClampNeg := rdA_eq eq5
                        have w12844 := rdA_fr (k := 10) (j := 1) gq2 c0 t_p0 (κ' := 60) rfl rfl rfl
                        have a12846 := zi_and p3 127 (by decide)
                        have a12847 := zi_and p2 8 (by decide)
                        exact sw_some ⟨cq28, fq28, (by (try simp only [zp, zo, zq] at u11064 xq2 h11065 xq12 h11078 xq14 a11098 u11099 h11100 h11101 h11102 h12338 h12593 w12594 w12595 r12596 r12597 r12598 h12599 h12620 h12745 h12792 w12818 w12819 w12820 w12822 w12823 w12825 w12824 w12826 w12828 w12829 w12830 w12832 w12831 w12834 w12835 w12836 w12837 w12838 w12840 w12839 w12841 w12845 w12844 a12846 a12847 ⊢) <;> (try simp only [zz, Int32.reduceToInt, ne_eq] at u11064 xq2 h11065 xq12 h11078 xq14 a11098 u11099 h11100 h11101 h11102 h12338 h12593 w12594 w12595 r12596 r12597 r12598 h12599 h12620 h12745 h12792 w12818 w12819 w12820 w12822 w12823 w12825 w12824 w12826 w12828 w12829 w12830 w12832 w12831 w12834 w12835 w12836 w12837 w12838 w12840 w12839 w12841 w12845 w12844 a12846 a12847 ⊢) <;> (try simp (disch := omega) only [zb] at u11064 xq2 h11065 xq12 h11078 xq14 a11098 u11099 h11100 h11101 h11102 h12338 h12593 w12594 w12595 r12596 r12597 r12598 h12599 h12620 h12745 h12792 w12818 w12819 w12820 w12822 w12823 w12825 w12824 w12826 w12828 w12829 w12830 w12832 w12831 w12834 w12835 w12836 w12837 w12838 w12840 w12839 w12841 w12845 w12844 a12846 a12847 ⊢) <;> first | omega | ((try simp (disch := omega) only [zb] at u11064 xq2 h11065 xq12 h11078 xq14 a11098 u11099 h11100 h11101 h11102 h12338 h12593 w12594 w12595 r12596 r12597 r12598 h12599 h12620 h12745 h12792 w12818 w12819 w12820 w12822 w12823 w12825 w12824 w12826 w12828 w12829 w12830 w12832 w12831 w12834 w12835 w12836 w12837 w12838 w12840 w12839 w12841 w12845 w12844 a12846 a12847 ⊢) <;> omega))⟩
              · have a12848 := zi_and p3 127 (by decide)
                refine sw_ite (fun h12849 => ?_) (fun h12849 => ?_)
                · unfold fX9_pair_227
                  unfold fX9_pair_228
                  have w12850 : mm_I s11 q17 ((1 : Int32).toNatClampNeg) = mm_I q2.2 q17 ((1 : Int32).toNatClampNeg) := by rw [← es11]; exact rd_k tq17 tq5 (by decide)
                  have w12851 := (gq2.2.2 _ _ tq17 ((1 : Int32).toNatClampNeg) rfl).1
                  have r12852 := ci_rg c0 tq17 ((1 : Int32).toNatClampNeg) (lo := (-1)) (hi := 3) rfl
                  have r12853 := ci_rg cq2 tq17 ((1 : Int32).toNatClampNeg) (lo := (-1)) (hi := 3) rfl
                  have r12854 := ci_rg cs11 tq17 ((1 : Int32).toNatClampNeg) (lo := (-1)) (hi := 3) rfl
                  refine sw_ite (fun h12855 => ?_) (fun h12855 => ?_)
                  · have w12856 : mm_I s11 p0 0 = mm_I q2.2 p0 0 := by rw [← es11]; exact rd_k t_p0 tq5 (by decide)
                    have w12859 : rdA s11 p0 9 0 = mm_I s11 q17 ((0 : Int32)).toNatClampNeg := rdA_eq eq17
                    have w12858 : rdA s11 p0 9 0 = rdA q2.2 p0 9 0 := by rw [← es11]; exact rdA_k cq2 t_p0 (κ' := 59) rfl tq5 (by decide)
                    have w12860 := rdA_fr (k := 9) (j := 0) gq2 c0 t_p0 (κ' := 59) rfl rfl rfl
                    have w12862 : rdA s11 p0 10 0 = rdA q2.2 p0 10 0 := by rw [← es11]; exact rdA_j (by decide)
                    have w12864 : rdA q2.2 p0 10 0 = mm_I q2.2 q5 ((0 : Int32)).toNatClampNeg := rdA_eq eq5
                    have w12863 := rdA_fr (k := 10) (j := 0) gq2 c0 t_p0 (κ' := 60) rfl rfl rfl
                    have w12866 : rdA s11 p0 10 1 = -1 := by rw [← es11]; exact rdA_self eq5
                    have w12868 : rdA s11 p0 9 1 = mm_I s11 q17 ((1 : Int32)).toNatClampNeg := rdA_eq eq17
                    have w12867 : rdA s11 p0 9 1 = rdA q2.2 p0 9 1 := by rw [← es11]; exact rdA_k cq2 t_p0 (κ' := 59) rfl tq5 (by decide)
                    have w12869 := rdA_fr (k := 9) (j := 1) gq2 c0 t_p0 (κ' := 59) rfl rfl rfl
                    have w12873 : rdA q2.2 p0 10 1 = mm_I q2.2 q5 ((1 : Int32)).toNatClampNeg := rdA_eq eq5
                    have w12872 := rdA_fr (k := 10) (j := 1) gq2 c0 t_p0 (κ' := 60) rfl rfl rfl
                    have a12874 := zi_and p2 8 (by decide)
                    exact sw_some ⟨cs11, fs11, (by (try simp only [zp, zo, zq] at u11064 xq2 h11065 xq12 h11078 xq14 a11098 u11099 h11100 h11101 h11102 h12338 h12593 a12848 h12849 w12850 w12851 r12852 r12853 r12854 h12855 w12856 w12859 w12858 w12860 w12862 w12864 w12863 w12866 w12868 w12867 w12869 w12873 w12872 a12874 ⊢) <;> (try simp only [zz, Int32.reduceToInt, ne_eq] at u11064 xq2 h11065 xq12 h11078 xq14 a11098 u11099 h11100 h11101 h11102 h12338 h12593 a12848 h12849 w12850 w12851 r12852 r12853 r12854 h12855 w12856 w12859 w12858 w12860 w12862 w12864 w12863 w12866 w12868 w12867 w12869 w12873 w12872 a12874 ⊢) <;> (try simp (disch := omega) only [zb] at u11064 xq2 h11065 xq12 h11078 xq14 a11098 u11099 h11100 h11101 h11102 h12338 h12593 a12848 h12849 w12850 w12851 r12852 r12853 r12854 h12855 w12856 w12859 w12858 w12860 w12862 w12864 w12863 w12866 w12868 w12867 w12869 w12873 w12872 a12874 ⊢) <;> first | omega | ((try simp (disch := omega) only [zb] at u11064 xq2 h11065 xq12 h11078 xq14 a11098 u11099 h11100 h11101 h11102 h12338 h12593 a12848 h12849 w12850 w12851 r12852 r12853 r12854 h12855 w12856 w12859 w12858 w12860 w12862 w12864 w12863 w12866 w12868 w12867 w12869 w12873 w12872 a12874 ⊢) <;> omega))⟩
                  · refine sw_ite (fun h12875 => ?_) (fun h12875 => ?_)
                    · refine sw_ite (fun h12876 => ?_) (fun h12876 => ?_)
                      · have w12877 : mm_I s11 p0 0 = mm_I q2.2 p0 0 := by rw [← es11]; exact rd_k t_p0 tq5 (by decide)
                        have w12880 : rdA s11 p0 9 0 = mm_I s11 q17 ((0 : Int32)).toNatClampNeg := rdA_eq eq17
                        have w12879 : rdA s11 p0 9 0 = rdA q2.2 p0 9 0 := by rw [← es11]; exact rdA_k cq2 t_p0 (κ' := 59) rfl tq5 (by decide)
                        have w12881 := rdA_fr (k := 9) (j := 0) gq2 c0 t_p0 (κ' := 59) rfl rfl rfl
                        have w12883 : rdA s11 p0 10 0 = rdA q2.2 p0 10 0 := by rw [← es11]; exact rdA_j (by decide)
                        have w12885 : rdA q2.2 p0 10 0 = mm_I q2.2 q5 ((0 : Int32)).toNatClampNeg := rdA_eq eq5
                        have w12884 := rdA_fr (k := 10) (j := 0) gq2 c0 t_p0 (κ' := 60) rfl rfl rfl
                        have w12887 : rdA s11 p0 10 1 = -1 := by rw [← es11]; exact rdA_self eq5
                        have w12889 : rdA s11 p0 9 1 = mm_I s11 q17 ((1 : Int32)).toNatClampNeg := rdA_eq eq17
                        have w12888 : rdA s11 p0 9 1 = rdA q2.2 p0 9 1 := by rw [← es11]; exact rdA_k cq2 t_p0 (κ' := 59) rfl tq5 (by decide)
                        have w12890 := rdA_fr (k := 9) (j := 1) gq2 c0 t_p0 (κ' := 59) rfl rfl rfl
                        have w12894 : rdA q2.2 p0 10 1 = mm_I q2.2 q5 ((1 : Int32)).toNatClampNeg := rdA_eq eq5
                        have w12893 := rdA_fr (k := 10) (j := 1) gq2 c0 t_p0 (κ' := 60) rfl rfl rfl
                        have a12895 := zi_and p2 8 (by decide)
                        exact sw_some ⟨cs11, fs11, (by (try simp only [zp, zo, zq] at u11064 xq2 h11065 xq12 h11078 xq14 a11098 u11099 h11100 h11101 h11102 h12338 h12593 a12848 h12849 w12850 w12851 r12852 r12853 r12854 h12855 h12875 h12876 w12877 w12880 w12879 w12881 w12883 w12885 w12884 w12887 w12889 w12888 w12890 w12894 w12893 a12895 ⊢) <;> (try simp only [zz, Int32.reduceToInt, ne_eq] at u11064 xq2 h11065 xq12 h11078 xq14 a11098 u11099 h11100 h11101 h11102 h12338 h12593 a12848 h12849 w12850 w12851 r12852 r12853 r12854 h12855 h12875 h12876 w12877 w12880 w12879 w12881 w12883 w12885 w12884 w12887 w12889 w12888 w12890 w12894 w12893 a12895 ⊢) <;> (try simp (disch := omega) only [zb] at u11064 xq2 h11065 xq12 h11078 xq14 a11098 u11099 h11100 h11101 h11102 h12338 h12593 a12848 h12849 w12850 w12851 r12852 r12853 r12854 h12855 h12875 h12876 w12877 w12880 w12879 w12881 w12883 w12885 w12884 w12887 w12889 w12888 w12890 w12894 w12893 a12895 ⊢) <;> first | omega | ((try simp (disch := omega) only [zb] at u11064 xq2 h11065 xq12 h11078 xq14 a11098 u11099 h11100 h11101 h11102 h12338 h12593 a12848 h12849 w12850 w12851 r12852 r12853 r12854 h12855 h12875 h12876 w12877 w12880 w12879 w12881 w12883 w12885 w12884 w12887 w12889 w12888 w12890 w12894 w12893 a12895 ⊢) <;> omega))⟩
                      · unfold fX9_pair_250
                        refine sw_ite (fun h12896 => ?_) (fun h12896 => ?_)
                        · unfold fX9_pair_264
                          refine sw_ite (fun h12897 => ?_) (fun h12897 => ?_)
                          · have w12898 : mm_I s11 p0 0 = mm_I q2.2 p0 0 := by rw [← es11]; exact rd_k t_p0 tq5 (by decide)
                            have w12901 : rdA s11 p0 9 0 = mm_I s11 q17 ((0 : Int32)).toNatClampNeg := rdA_eq eq17
                            have w12900 : rdA s11 p0 9 0 = rdA q2.2 p0 9 0 := by rw [← es11]; exact rdA_k cq2 t_p0 (κ' := 59) rfl tq5 (by decide)
                            have w12902 := rdA_fr (k := 9) (j := 0) gq2 c0 t_p0 (κ' := 59) rfl rfl rfl
                            have w12904 : rdA s11 p0 10 0 = rdA q2.2 p0 10 0 := by rw [← es11]; exact rdA_j (by decide)
                            have w12906 : rdA q2.2 p0 10 0 = mm_I q2.2 q5 ((0 : Int32)).toNatClampNeg := rdA_eq eq5
                            have w12905 := rdA_fr (k := 10) (j := 0) gq2 c0 t_p0 (κ' := 60) rfl rfl rfl
                            have w12908 : rdA s11 p0 10 1 = -1 := by rw [← es11]; exact rdA_self eq5
                            have w12910 : rdA s11 p0 9 1 = mm_I s11 q17 ((1 : Int32)).toNatClampNeg := rdA_eq eq17
                            have w12909 : rdA s11 p0 9 1 = rdA q2.2 p0 9 1 := by rw [← es11]; exact rdA_k cq2 t_p0 (κ' := 59) rfl tq5 (by decide)
                            have w12911 := rdA_fr (k := 9) (j := 1) gq2 c0 t_p0 (κ' := 59) rfl rfl rfl
                            have w12915 : rdA q2.2 p0 10 1 = mm_I q2.2 q5 ((1 : Int32)).toNatClampNeg := rdA_eq eq5
                            have w12914 := rdA_fr (k := 10) (j := 1) gq2 c0 t_p0 (κ' := 60) rfl rfl rfl
                            have a12916 := zi_and p2 8 (by decide)
                            exact sw_some ⟨cs11, fs11, (by (try simp only [zp, zo, zq] at u11064 xq2 h11065 xq12 h11078 xq14 a11098 u11099 h11100 h11101 h11102 h12338 h12593 a12848 h12849 w12850 w12851 r12852 r12853 r12854 h12855 h12875 h12876 h12896 h12897 w12898 w12901 w12900 w12902 w12904 w12906 w12905 w12908 w12910 w12909 w12911 w12915 w12914 a12916 ⊢) <;> (try simp only [zz, Int32.reduceToInt, ne_eq] at u11064 xq2 h11065 xq12 h11078 xq14 a11098 u11099 h11100 h11101 h11102 h12338 h12593 a12848 h12849 w12850 w12851 r12852 r12853 r12854 h12855 h12875 h12876 h12896 h12897 w12898 w12901 w12900 w12902 w12904 w12906 w12905 w12908 w12910 w12909 w12911 w12915 w12914 a12916 ⊢) <;> (try simp (disch := omega) only [zb] at u11064 xq2 h11065 xq12 h11078 xq14 a11098 u11099 h11100 h11101 h11102 h12338 h12593 a12848 h12849 w12850 w12851 r12852 r12853 r12854 h12855 h12875 h12876 h12896 h12897 w12898 w12901 w12900 w12902 w12904 w12906 w12905 w12908 w12910 w12909 w12911 w12915 w12914 a12916 ⊢) <;> first | omega | ((try simp (disch := omega) only [zb] at u11064 xq2 h11065 xq12 h11078 xq14 a11098 u11099 h11100 h11101 h11102 h12338 h12593 a12848 h12849 w12850 w12851 r12852 r12853 r12854 h12855 h12875 h12876 h12896 h12897 w12898 w12901 w12900 w12902 w12904 w12906 w12905 w12908 w12910 w12909 w12911 w12915 w12914 a12916 ⊢) <;> omega))⟩
                          · refine sw_sh (ci_sh cs11 t_p0 rfl) ?_
                            refine sw_on (sX9_put cs11 t_p0 (by (try simp only [zp, zo, zq] at u11064 xq2 h11065 xq12 h11078 xq14 a11098 u11099 h11100 h11101 h11102 h12338 h12593 a12848 h12849 w12850 w12851 r12852 r12853 r12854 h12855 h12875 h12876 h12896 h12897 ⊢) <;> (try simp only [zz, Int32.reduceToInt, ne_eq] at u11064 xq2 h11065 xq12 h11078 xq14 a11098 u11099 h11100 h11101 h11102 h12338 h12593 a12848 h12849 w12850 w12851 r12852 r12853 r12854 h12855 h12875 h12876 h12896 h12897 ⊢) <;> (try simp (disch := omega) only [zb] at u11064 xq2 h11065 xq12 h11078 xq14 a11098 u11099 h11100 h11101 h11102 h12338 h12593 a12848 h12849 w12850 w12851 r12852 r12853 r12854 h12855 h12875 h12876 h12896 h12897 ⊢) <;> first | omega | ((try simp (disch := omega) only [zb] at u11064 xq2 h11065 xq12 h11078 xq14 a11098 u11099 h11100 h11101 h11102 h12338 h12593 a12848 h12849 w12850 w12851 r12852 r12853 r12854 h12855 h12875 h12876 h12896 h12897 ⊢) <;> omega)) ) ?_
                            intro q28 hqq28
                            obtain ⟨cq28, gq28, xq28⟩ := hqq28
                            have fq28 := fr_trans fs11 gq28 rfl
                            have w12917 := (gq28.2.2 _ _ t_p0 0 rfl).1
                            have w12918 : mm_I s11 p0 0 = mm_I q2.2 p0 0 := by rw [← es11]; exact rd_k t_p0 tq5 (by decide)
                            have w12920 := rdA_fr (k := 9) (j := 0) gq28 cs11 t_p0 (κ' := 59) rfl rfl rfl
                            have w12922 : rdA s11 p0 9 0 = mm_I s11 q17 ((0 : Int32)).toNatClampNeg := rdA_eq eq17
                            have w12921 : rdA s11 p0 9 0 = rdA q2.2 p0 9 0 := by rw [← es11]; exact rdA_k cq2 t_p0 (κ' := 59) rfl tq5 (by decide)
                            have w12923 := rdA_fr (k := 9) (j := 0) gq2 c0 t_p0 (κ' := 59) rfl rfl rfl
                            have w12925 := rdA_fr (k := 10) (j := 0) gq28 cs11 t_p0 (κ' := 60) rfl rfl rfl
                            have w12926 : rdA s11 p0 10 0 = rdA q2.2 p0 10 0 := by rw [← es11]; exact rdA_j (by decide)
                            have w12928 : rdA q2.2 p0 10 0 = mm_I q2.2 q5 ((0 : Int32)).toNatClampNeg := rdA_eq eq5
                            have w12927 := rdA_fr (k := 10) (j := 0) gq2 c0 t_p0 (κ' := 60) rfl rfl rfl
                            have w12930 := rdA_fr (k := 10) (j := 1) gq28 cs11 t_p0 (κ' := 60) rfl rfl rfl
                            have w12931 : rdA s11 p0 10 1 = -1 := by rw [← es11]; exact rdA_self eq5
                            have w12932 := rdA_fr (k := 9) (j := 1) gq28 cs11 t_p0 (κ' := 59) rfl rfl rfl
                            have w12934 : rdA s11 p0 9 1 = mm_I s11 q17 ((1 : Int32)).toNatClampNeg := rdA_eq eq17
                            have w12933 : rdA s11 p0 9 1 = rdA q2.2 p0 9 1 := by rw [← es11]; exact rdA_k cq2 t_p0 (κ' := 59) rfl tq5 (by decide)
                            have w12935 := rdA_fr (k := 9) (j := 1) gq2 c0 t_p0 (κ' := 59) rfl rfl rfl
                            have w12939 : rdA q2.2 p0 10 1 = mm_I q2.2 q5 ((1 : Int32)).toNatClampNeg := rdA_eq eq5
                            have w12938 := rdA_fr (k := 10) (j := 1) gq2 c0 t_p0 (κ' := 60) rfl rfl rfl
                            have a12940 := zi_and p2 8 (by decide)
                            exact sw_some ⟨cq28, fq28, (by (try simp only [zp, zo, zq] at u11064 xq2 h11065 xq12 h11078 xq14 a11098 u11099 h11100 h11101 h11102 h12338 h12593 a12848 h12849 w12850 w12851 r12852 r12853 r12854 h12855 h12875 h12876 h12896 h12897 w12917 w12918 w12920 w12922 w12921 w12923 w12925 w12926 w12928 w12927 w12930 w12931 w12932 w12934 w12933 w12935 w12939 w12938 a12940 ⊢) <;> (try simp only [zz, Int32.reduceToInt, ne_eq] at u11064 xq2 h11065 xq12 h11078 xq14 a11098 u11099 h11100 h11101 h11102 h12338 h12593 a12848 h12849 w12850 w12851 r12852 r12853 r12854 h12855 h12875 h12876 h12896 h12897 w12917 w12918 w12920 w12922 w12921 w12923 w12925 w12926 w12928 w12927 w12930 w12931 w12932 w12934 w12933 w12935 w12939 w12938 a12940 ⊢) <;> (try simp (disch := omega) only [zb] at u11064 xq2 h11065 xq12 h11078 xq14 a11098 u11099 h11100 h11101 h11102 h12338 h12593 a12848 h12849 w12850 w12851 r12852 r12853 r12854 h12855 h12875 h12876 h12896 h12897 w12917 w12918 w12920 w12922 w12921 w12923 w12925 w12926 w12928 w12927 w12930 w12931 w12932 w12934 w12933 w12935 w12939 w12938 a12940 ⊢) <;> first | omega | ((try simp (disch := omega) only [zb] at u11064 xq2 h11065 xq12 h11078 xq14 a11098 u11099 h11100 h11101 h11102 h12338 h12593 a12848 h12849 w12850 w12851 r12852 r12853 r12854 h12855 h12875 h12876 h12896 h12897 w12917 w12918 w12920 w12922 w12921 w12923 w12925 w12926 w12928 w12927 w12930 w12931 w12932 w12934 w12933 w12935 w12939 w12938 a12940 ⊢) <;> omega))⟩
                        · refine sw_sh (ci_sh cs11 t_p0 rfl) ?_
                          refine sw_on (sX9_put cs11 t_p0 (by (try simp only [zp, zo, zq] at u11064 xq2 h11065 xq12 h11078 xq14 a11098 u11099 h11100 h11101 h11102 h12338 h12593 a12848 h12849 w12850 w12851 r12852 r12853 r12854 h12855 h12875 h12876 h12896 ⊢) <;> (try simp only [zz, Int32.reduceToInt, ne_eq] at u11064 xq2 h11065 xq12 h11078 xq14 a11098 u11099 h11100 h11101 h11102 h12338 h12593 a12848 h12849 w12850 w12851 r12852 r12853 r12854 h12855 h12875 h12876 h12896 ⊢) <;> (try simp (disch := omega) only [zb] at u11064 xq2 h11065 xq12 h11078 xq14 a11098 u11099 h11100 h11101 h11102 h12338 h12593 a12848 h12849 w12850 w12851 r12852 r12853 r12854 h12855 h12875 h12876 h12896 ⊢) <;> first | omega | ((try simp (disch := omega) only [zb] at u11064 xq2 h11065 xq12 h11078 xq14 a11098 u11099 h11100 h11101 h11102 h12338 h12593 a12848 h12849 w12850 w12851 r12852 r12853 r12854 h12855 h12875 h12876 h12896 ⊢) <;> omega)) ) ?_
                          intro q30 hqq30
                          obtain ⟨cq30, gq30, xq30⟩ := hqq30
                          have fq30 := fr_trans fs11 gq30 rfl
                          unfold fX9_pair_264
                          refine sw_ite (fun h12941 => ?_) (fun h12941 => ?_)
                          · have w12942 := (gq30.2.2 _ _ t_p0 0 rfl).1
                            have w12943 : mm_I s11 p0 0 = mm_I q2.2 p0 0 := by rw [← es11]; exact rd_k t_p0 tq5 (by decide)
                            have w12945 := rdA_fr (k := 9) (j := 0) gq30 cs11 t_p0 (κ' := 59) rfl rfl rfl
                            have w12947 : rdA s11 p0 9 0 = mm_I s11 q17 ((0 : Int32)).toNatClampNeg := rdA_eq eq17
                            have w12946 : rdA s11 p0 9 0 = rdA q2.2 p0 9 0 := by rw [← es11]; exact rdA_k cq2 t_p0 (κ' := 59) rfl tq5 (by decide)
                            have w12948 := rdA_fr (k := 9) (j := 0) gq2 c0 t_p0 (κ' := 59) rfl rfl rfl
                            have w12950 := rdA_fr (k := 10) (j := 0) gq30 cs11 t_p0 (κ' := 60) rfl rfl rfl
                            have w12951 : rdA s11 p0 10 0 = rdA q2.2 p0 10 0 := by rw [← es11]; exact rdA_j (by decide)
                            have w12953 : rdA q2.2 p0 10 0 = mm_I q2.2 q5 ((0 : Int32)).toNatClampNeg := rdA_eq eq5
                            have w12952 := rdA_fr (k := 10) (j := 0) gq2 c0 t_p0 (κ' := 60) rfl rfl rfl
                            have w12955 := rdA_fr (k := 10) (j := 1) gq30 cs11 t_p0 (κ' := 60) rfl rfl rfl
                            have w12956 : rdA s11 p0 10 1 = -1 := by rw [← es11]; exact rdA_self eq5
                            have w12957 := rdA_fr (k := 9) (j := 1) gq30 cs11 t_p0 (κ' := 59) rfl rfl rfl
                            have w12959 : rdA s11 p0 9 1 = mm_I s11 q17 ((1 : Int32)).toNatClampNeg := rdA_eq eq17
                            have w12958 : rdA s11 p0 9 1 = rdA q2.2 p0 9 1 := by rw [← es11]; exact rdA_k cq2 t_p0 (κ' := 59) rfl tq5 (by decide)
                            have w12960 := rdA_fr (k := 9) (j := 1) gq2 c0 t_p0 (κ' := 59) rfl rfl rfl
                            have w12964 : rdA q2.2 p0 10 1 = mm_I q2.2 q5 ((1 : Int32)).toNatClampNeg := rdA_eq eq5
                            have w12963 := rdA_fr (k := 10) (j := 1) gq2 c0 t_p0 (κ' := 60) rfl rfl rfl
                            have a12965 := zi_and p2 8 (by decide)
                            exact sw_some ⟨cq30, fq30, (by (try simp only [zp, zo, zq] at u11064 xq2 h11065 xq12 h11078 xq14 a11098 u11099 h11100 h11101 h11102 h12338 h12593 a12848 h12849 w12850 w12851 r12852 r12853 r12854 h12855 h12875 h12876 h12896 h12941 w12942 w12943 w12945 w12947 w12946 w12948 w12950 w12951 w12953 w12952 w12955 w12956 w12957 w12959 w12958 w12960 w12964 w12963 a12965 ⊢) <;> (try simp only [zz, Int32.reduceToInt, ne_eq] at u11064 xq2 h11065 xq12 h11078 xq14 a11098 u11099 h11100 h11101 h11102 h12338 h12593 a12848 h12849 w12850 w12851 r12852 r12853 r12854 h12855 h12875 h12876 h12896 h12941 w12942 w12943 w12945 w12947 w12946 w12948 w12950 w12951 w12953 w12952 w12955 w12956 w12957 w12959 w12958 w12960 w12964 w12963 a12965 ⊢) <;> (try simp (disch := omega) only [zb] at u11064 xq2 h11065 xq12 h11078 xq14 a11098 u11099 h11100 h11101 h11102 h12338 h12593 a12848 h12849 w12850 w12851 r12852 r12853 r12854 h12855 h12875 h12876 h12896 h12941 w12942 w12943 w12945 w12947 w12946 w12948 w12950 w12951 w12953 w12952 w12955 w12956 w12957 w12959 w12958 w12960 w12964 w12963 a12965 ⊢) <;> first | omega | ((try simp (disch := omega) only [zb] at u11064 xq2 h11065 xq12 h11078 xq14 a11098 u11099 h11100 h11101 h11102 h12338 h12593 a12848 h12849 w12850 w12851 r12852 r12853 r12854 h12855 h12875 h12876 h12896 h12941 w12942 w12943 w12945 w12947 w12946 w12948 w12950 w12951 w12953 w12952 w12955 w12956 w12957 w12959 w12958 w12960 w12964 w12963 a12965 ⊢) <;> omega))⟩
                          · refine sw_sh (ci_sh cq30 t_p0 rfl) ?_
                            refine sw_on (sX9_put cq30 t_p0 (by (try simp only [zp, zo, zq] at u11064 xq2 h11065 xq12 h11078 xq14 a11098 u11099 h11100 h11101 h11102 h12338 h12593 a12848 h12849 w12850 w12851 r12852 r12853 r12854 h12855 h12875 h12876 h12896 h12941 ⊢) <;> (try simp only [zz, Int32.reduceToInt, ne_eq] at u11064 xq2 h11065 xq12 h11078 xq14 a11098 u11099 h11100 h11101 h11102 h12338 h12593 a12848 h12849 w12850 w12851 r12852 r12853 r12854 h12855 h12875 h12876 h12896 h12941 ⊢) <;> (try simp (disch := omega) only [zb] at u11064 xq2 h11065 xq12 h11078 xq14 a11098 u11099 h11100 h11101 h11102 h12338 h12593 a12848 h12849 w12850 w12851 r12852 r12853 r12854 h12855 h12875 h12876 h12896 h12941 ⊢) <;> first | omega | ((try simp (disch := omega) only [zb] at u11064 xq2 h11065 xq12 h11078 xq14 a11098 u11099 h11100 h11101 h11102 h12338 h12593 a12848 h12849 w12850 w12851 r12852 r12853 r12854 h12855 h12875 h12876 h12896 h12941 ⊢) <;> omega)) ) ?_
                            intro q28 hqq28
                            obtain ⟨cq28, gq28, xq28⟩ := hqq28
                            have fq28 := fr_trans fq30 gq28 rfl
                            have w12966 := (gq28.2.2 _ _ t_p0 0 rfl).1
                            have w12967 := (gq30.2.2 _ _ t_p0 0 rfl).1
                            have w12968 : mm_I s11 p0 0 = mm_I q2.2 p0 0 := by rw [← es11]; exact rd_k t_p0 tq5 (by decide)
                            have w12970 := rdA_fr (k := 9) (j := 0) gq28 cq30 t_p0 (κ' := 59) rfl rfl rfl
                            have w12971 := rdA_fr (k := 9) (j := 0) gq30 cs11 t_p0 (κ' := 59) rfl rfl rfl
                            have w12973 : rdA s11 p0 9 0 = mm_I s11 q17 ((0 : Int32)).toNatClampNeg := rdA_eq eq17
                            have w12972 : rdA s11 p0 9 0 = rdA q2.2 p0 9 0 := by rw [← es11]; exact rdA_k cq2 t_p0 (κ' := 59) rfl tq5 (by decide)
                            have w12974 := rdA_fr (k := 9) (j := 0) gq2 c0 t_p0 (κ' := 59) rfl rfl rfl
                            have w12976 := rdA_fr (k := 10) (j := 0) gq28 cq30 t_p0 (κ' := 60) rfl rfl rfl
                            have w12977 := rdA_fr (k := 10) (j := 0) gq30 cs11 t_p0 (κ' := 60) rfl rfl rfl
                            have w12978 : rdA s11 p0 10 0 = rdA q2.2 p0 10 0 := by rw [← es11]; exact rdA_j (by decide)
                            have w12980 : rdA q2.2 p0 10 0 = mm_I q2.2 q5 ((0 : Int32)).toNatClampNeg := rdA_eq eq5
                            have w12979 := rdA_fr (k := 10) (j := 0) gq2 c0 t_p0 (κ' := 60) rfl rfl rfl
                            have w12982 := rdA_fr (k := 10) (j := 1) gq28 cq30 t_p0 (κ' := 60) rfl rfl rfl
                            have w12983 := rdA_fr (k := 10) (j := 1) gq30 cs11 t_p0 (κ' := 60) rfl rfl rfl
                            have w12984 : rdA s11 p0 10 1 = -1 := by rw [← es11]; exact rdA_self eq5
                            have w12985 := rdA_fr (k := 9) (j := 1) gq28 cq30 t_p0 (κ' := 59) rfl rfl rfl
                            have w12986 := rdA_fr (k := 9) (j := 1) gq30 cs11 t_p0 (κ' := 59) rfl rfl rfl
                            have w12988 : rdA s11 p0 9 1 = mm_I s11 q17 ((1 : Int32)).toNatClampNeg := rdA_eq eq17
                            have w12987 : rdA s11 p0 9 1 = rdA q2.2 p0 9 1 := by rw [← es11]; exact rdA_k cq2 t_p0 (κ' := 59) rfl tq5 (by decide)
                            have w12989 := rdA_fr (k := 9) (j := 1) gq2 c0 t_p0 (κ' := 59) rfl rfl rfl
                            have w12993 : rdA q2.2 p0 10 1 = mm_I q2.2 q5 ((1 : Int32)).toNatClampNeg := rdA_eq eq5
                            have w12992 := rdA_fr (k := 10) (j := 1) gq2 c0 t_p0 (κ' := 60) rfl rfl rfl
                            have a12994 := zi_and p2 8 (by decide)
                            exact sw_some ⟨cq28, fq28, (by (try simp only [zp, zo, zq] at u11064 xq2 h11065 xq12 h11078 xq14 a11098 u11099 h11100 h11101 h11102 h12338 h12593 a12848 h12849 w12850 w12851 r12852 r12853 r12854 h12855 h12875 h12876 h12896 h12941 w12966 w12967 w12968 w12970 w12971 w12973 w12972 w12974 w12976 w12977 w12978 w12980 w12979 w12982 w12983 w12984 w12985 w12986 w12988 w12987 w12989 w12993 w12992 a12994 ⊢) <;> (try simp only [zz, Int32.reduceToInt, ne_eq] at u11064 xq2 h11065 xq12 h11078 xq14 a11098 u11099 h11100 h11101 h11102 h12338 h12593 a12848 h12849 w12850 w12851 r12852 r12853 r12854 h12855 h12875 h12876 h12896 h12941 w12966 w12967 w12968 w12970 w12971 w12973 w12972 w12974 w12976 w12977 w12978 w12980 w12979 w12982 w12983 w12984 w12985 w12986 w12988 w12987 w12989 w12993 w12992 a12994 ⊢) <;> (try simp (disch := omega) only [zb] at u11064 xq2 h11065 xq12 h11078 xq14 a11098 u11099 h11100 h11101 h11102 h12338 h12593 a12848 h12849 w12850 w12851 r12852 r12853 r12854 h12855 h12875 h12876 h12896 h12941 w12966 w12967 w12968 w12970 w12971 w12973 w12972 w12974 w12976 w12977 w12978 w12980 w12979 w12982 w12983 w12984 w12985 w12986 w12988 w12987 w12989 w12993 w12992 a12994 ⊢) <;> first | omega | ((try simp (disch := omega) only [zb] at u11064 xq2 h11065 xq12 h11078 xq14 a11098 u11099 h11100 h11101 h11102 h12338 h12593 a12848 h12849 w12850 w12851 r12852 r12853 r12854 h12855 h12875 h12876 h12896 h12941 w12966 w12967 w12968 w12970 w12971 w12973 w12972 w12974 w12976 w12977 w12978 w12980 w12979 w12982 w12983 w12984 w12985 w12986 w12988 w12987 w12989 w12993 w12992 a12994 ⊢) <;> omega))⟩
                    · unfold fX9_pair_250
                      refine sw_ite (fun h12995 => ?_) (fun h12995 => ?_)
                      · unfold fX9_pair_264
                        refine sw_ite (fun h12996 => ?_) (fun h12996 => ?_)
                        · have w12997 : mm_I s11 p0 0 = mm_I q2.2 p0 0 := by rw [← es11]; exact rd_k t_p0 tq5 (by decide)
                          have w13000 : rdA s11 p0 9 0 = mm_I s11 q17 ((0 : Int32)).toNatClampNeg := rdA_eq eq17
                          have w12999 : rdA s11 p0 9 0 = rdA q2.2 p0 9 0 := by rw [← es11]; exact rdA_k cq2 t_p0 (κ' := 59) rfl tq5 (by decide)
                          have w13001 := rdA_fr (k := 9) (j := 0) gq2 c0 t_p0 (κ' := 59) rfl rfl rfl
                          have w13003 : rdA s11 p0 10 0 = rdA q2.2 p0 10 0 := by rw [← es11]; exact rdA_j (by decide)
                          have w13005 : rdA q2.2 p0 10 0 = mm_I q2.2 q5 ((0 : Int32)).toNatClampNeg := rdA_eq eq5
                          have w13004 := rdA_fr (k := 10) (j := 0) gq2 c0 t_p0 (κ' := 60) rfl rfl rfl
                          have w13007 : rdA s11 p0 10 1 = -1 := by rw [← es11]; exact rdA_self eq5
                          have w13009 : rdA s11 p0 9 1 = mm_I s11 q17 ((1 : Int32)).toNatClampNeg := rdA_eq eq17
                          have w13008 : rdA s11 p0 9 1 = rdA q2.2 p0 9 1 := by rw [← es11]; exact rdA_k cq2 t_p0 (κ' := 59) rfl tq5 (by decide)
                          have w13010 := rdA_fr (k := 9) (j := 1) gq2 c0 t_p0 (κ' := 59) rfl rfl rfl
                          have w13014 : rdA q2.2 p0 10 1 = mm_I q2.2 q5 ((1 : Int32)).toNatClampNeg := rdA_eq eq5
                          have w13013 := rdA_fr (k := 10) (j := 1) gq2 c0 t_p0 (κ' := 60) rfl rfl rfl
                          have a13015 := zi_and p2 8 (by decide)
                          exact sw_some ⟨cs11, fs11, (by (try simp only [zp, zo, zq] at u11064 xq2 h11065 xq12 h11078 xq14 a11098 u11099 h11100 h11101 h11102 h12338 h12593 a12848 h12849 w12850 w12851 r12852 r12853 r12854 h12855 h12875 h12995 h12996 w12997 w13000 w12999 w13001 w13003 w13005 w13004 w13007 w13009 w13008 w13010 w13014 w13013 a13015 ⊢) <;> (try simp only [zz, Int32.reduceToInt, ne_eq] at u11064 xq2 h11065 xq12 h11078 xq14 a11098 u11099 h11100 h11101 h11102 h12338 h12593 a12848 h12849 w12850 w12851 r12852 r12853 r12854 h12855 h12875 h12995 h12996 w12997 w13000 w12999 w13001 w13003 w13005 w13004 w13007 w13009 w13008 w13010 w13014 w13013 a13015 ⊢) <;> (try simp (disch := omega) only [zb] at u11064 xq2 h11065 xq12 h11078 xq14 a11098 u11099 h11100 h11101 h11102 h12338 h12593 a12848 h12849 w12850 w12851 r12852 r12853 r12854 h12855 h12875 h12995 h12996 w12997 w13000 w12999 w13001 w13003 w13005 w13004 w13007 w13009 w13008 w13010 w13014 w13013 a13015 ⊢) <;> first | omega | ((try simp (disch := omega) only [zb] at u11064 xq2 h11065 xq12 h11078 xq14 a11098 u11099 h11100 h11101 h11102 h12338 h12593 a12848 h12849 w12850 w12851 r12852 r12853 r12854 h12855 h12875 h12995 h12996 w12997 w13000 w12999 w13001 w13003 w13005 w13004 w13007 w13009 w13008 w13010 w13014 w13013 a13015 ⊢) <;> omega))⟩
                        · refine sw_sh (ci_sh cs11 t_p0 rfl) ?_
                          refine sw_on (sX9_put cs11 t_p0 (by (try simp only [zp, zo, zq] at u11064 xq2 h11065 xq12 h11078 xq14 a11098 u11099 h11100 h11101 h11102 h12338 h12593 a12848 h12849 w12850 w12851 r12852 r12853 r12854 h12855 h12875 h12995 h12996 ⊢) <;> (try simp only [zz, Int32.reduceToInt, ne_eq] at u11064 xq2 h11065 xq12 h11078 xq14 a11098 u11099 h11100 h11101 h11102 h12338 h12593 a12848 h12849 w12850 w12851 r12852 r12853 r12854 h12855 h12875 h12995 h12996 ⊢) <;> (try simp (disch := omega) only [zb] at u11064 xq2 h11065 xq12 h11078 xq14 a11098 u11099 h11100 h11101 h11102 h12338 h12593 a12848 h12849 w12850 w12851 r12852 r12853 r12854 h12855 h12875 h12995 h12996 ⊢) <;> first | omega | ((try simp (disch := omega) only [zb] at u11064 xq2 h11065 xq12 h11078 xq14 a11098 u11099 h11100 h11101 h11102 h12338 h12593 a12848 h12849 w12850 w12851 r12852 r12853 r12854 h12855 h12875 h12995 h12996 ⊢) <;> omega)) ) ?_
                          intro q28 hqq28
                          obtain ⟨cq28, gq28, xq28⟩ := hqq28
                          have fq28 := fr_trans fs11 gq28 rfl
                          have w13016 := (gq28.2.2 _ _ t_p0 0 rfl).1
                          have w13017 : mm_I s11 p0 0 = mm_I q2.2 p0 0 := by rw [← es11]; exact rd_k t_p0 tq5 (by decide)
                          have w13019 := rdA_fr (k := 9) (j := 0) gq28 cs11 t_p0 (κ' := 59) rfl rfl rfl
                          have w13021 : rdA s11 p0 9 0 = mm_I s11 q17 ((0 : Int32)).toNatClampNeg := rdA_eq eq17
                          have w13020 : rdA s11 p0 9 0 = rdA q2.2 p0 9 0 := by rw [← es11]; exact rdA_k cq2 t_p0 (κ' := 59) rfl tq5 (by decide)
                          have w13022 := rdA_fr (k := 9) (j := 0) gq2 c0 t_p0 (κ' := 59) rfl rfl rfl
                          have w13024 := rdA_fr (k := 10) (j := 0) gq28 cs11 t_p0 (κ' := 60) rfl rfl rfl
                          have w13025 : rdA s11 p0 10 0 = rdA q2.2 p0 10 0 := by rw [← es11]; exact rdA_j (by decide)
                          have w13027 : rdA q2.2 p0 10 0 = mm_I q2.2 q5 ((0 : Int32)).toNatClampNeg := rdA_eq eq5
                          have w13026 := rdA_fr (k := 10) (j := 0) gq2 c0 t_p0 (κ' := 60) rfl rfl rfl
                          have w13029 := rdA_fr (k := 10) (j := 1) gq28 cs11 t_p0 (κ' := 60) rfl rfl rfl
                          have w13030 : rdA s11 p0 10 1 = -1 := by rw [← es11]; exact rdA_self eq5
                          have w13031 := rdA_fr (k := 9) (j := 1) gq28 cs11 t_p0 (κ' := 59) rfl rfl rfl
                          have w13033 : rdA s11 p0 9 1 = mm_I s11 q17 ((1 : Int32)).toNatClampNeg := rdA_eq eq17
                          have w13032 : rdA s11 p0 9 1 = rdA q2.2 p0 9 1 := by rw [← es11]; exact rdA_k cq2 t_p0 (κ' := 59) rfl tq5 (by decide)
                          have w13034 := rdA_fr (k := 9) (j := 1) gq2 c0 t_p0 (κ' := 59) rfl rfl rfl
                          have w13038 : rdA q2.2 p0 10 1 = mm_I q2.2 q5 ((1 : Int32)).toNatClampNeg := rdA_eq eq5
                          have w13037 := rdA_fr (k := 10) (j := 1) gq2 c0 t_p0 (κ' := 60) rfl rfl rfl
                          have a13039 := zi_and p2 8 (by decide)
                          exact sw_some ⟨cq28, fq28, (by (try simp only [zp, zo, zq] at u11064 xq2 h11065 xq12 h11078 xq14 a11098 u11099 h11100 h11101 h11102 h12338 h12593 a12848 h12849 w12850 w12851 r12852 r12853 r12854 h12855 h12875 h12995 h12996 w13016 w13017 w13019 w13021 w13020 w13022 w13024 w13025 w13027 w13026 w13029 w13030 w13031 w13033 w13032 w13034 w13038 w13037 a13039 ⊢) <;> (try simp only [zz, Int32.reduceToInt, ne_eq] at u11064 xq2 h11065 xq12 h11078 xq14 a11098 u11099 h11100 h11101 h11102 h12338 h12593 a12848 h12849 w12850 w12851 r12852 r12853 r12854 h12855 h12875 h12995 h12996 w13016 w13017 w13019 w13021 w13020 w13022 w13024 w13025 w13027 w13026 w13029 w13030 w13031 w13033 w13032 w13034 w13038 w13037 a13039 ⊢) <;> (try simp (disch := omega) only [zb] at u11064 xq2 h11065 xq12 h11078 xq14 a11098 u11099 h11100 h11101 h11102 h12338 h12593 a12848 h12849 w12850 w12851 r12852 r12853 r12854 h12855 h12875 h12995 h12996 w13016 w13017 w13019 w13021 w13020 w13022 w13024 w13025 w13027 w13026 w13029 w13030 w13031 w13033 w13032 w13034 w13038 w13037 a13039 ⊢) <;> first | omega | ((try simp (disch := omega) only [zb] at u11064 xq2 h11065 xq12 h11078 xq14 a11098 u11099 h11100 h11101 h11102 h12338 h12593 a12848 h12849 w12850 w12851 r12852 r12853 r12854 h12855 h12875 h12995 h12996 w13016 w13017 w13019 w13021 w13020 w13022 w13024 w13025 w13027 w13026 w13029 w13030 w13031 w13033 w13032 w13034 w13038 w13037 a13039 ⊢) <;> omega))⟩
                      · refine sw_sh (ci_sh cs11 t_p0 rfl) ?_
                        refine sw_on (sX9_put cs11 t_p0 (by (try simp only [zp, zo, zq] at u11064 xq2 h11065 xq12 h11078 xq14 a11098 u11099 h11100 h11101 h11102 h12338 h12593 a12848 h12849 w12850 w12851 r12852 r12853 r12854 h12855 h12875 h12995 ⊢) <;> (try simp only [zz, Int32.reduceToInt, ne_eq] at u11064 xq2 h11065 xq12 h11078 xq14 a11098 u11099 h11100 h11101 h11102 h12338 h12593 a12848 h12849 w12850 w12851 r12852 r12853 r12854 h12855 h12875 h12995 ⊢) <;> (try simp (disch := omega) only [zb] at u11064 xq2 h11065 xq12 h11078 xq14 a11098 u11099 h11100 h11101 h11102 h12338 h12593 a12848 h12849 w12850 w12851 r12852 r12853 r12854 h12855 h12875 h12995 ⊢) <;> first | omega | ((try simp (disch := omega) only [zb] at u11064 xq2 h11065 xq12 h11078 xq14 a11098 u11099 h11100 h11101 h11102 h12338 h12593 a12848 h12849 w12850 w12851 r12852 r12853 r12854 h12855 h12875 h12995 ⊢) <;> omega)) ) ?_
                        intro q30 hqq30
                        obtain ⟨cq30, gq30, xq30⟩ := hqq30
                        have fq30 := fr_trans fs11 gq30 rfl
                        unfold fX9_pair_264
                        refine sw_ite (fun h13040 => ?_) (fun h13040 => ?_)
                        · have w13041 := (gq30.2.2 _ _ t_p0 0 rfl).1
                          have w13042 : mm_I s11 p0 0 = mm_I q2.2 p0 0 := by rw [← es11]; exact rd_k t_p0 tq5 (by decide)
                          have w13044 := rdA_fr (k := 9) (j := 0) gq30 cs11 t_p0 (κ' := 59) rfl rfl rfl
                          have w13046 : rdA s11 p0 9 0 = mm_I s11 q17 ((0 : Int32)).toNatClampNeg := rdA_eq eq17
                          have w13045 : rdA s11 p0 9 0 = rdA q2.2 p0 9 0 := by rw [← es11]; exact rdA_k cq2 t_p0 (κ' := 59) rfl tq5 (by decide)
                          have w13047 := rdA_fr (k := 9) (j := 0) gq2 c0 t_p0 (κ' := 59) rfl rfl rfl
                          have w13049 := rdA_fr (k := 10) (j := 0) gq30 cs11 t_p0 (κ' := 60) rfl rfl rfl
                          have w13050 : rdA s11 p0 10 0 = rdA q2.2 p0 10 0 := by rw [← es11]; exact rdA_j (by decide)
                          have w13052 : rdA q2.2 p0 10 0 = mm_I q2.2 q5 ((0 : Int32)).toNatClampNeg := rdA_eq eq5
                          have w13051 := rdA_fr (k := 10) (j := 0) gq2 c0 t_p0 (κ' := 60) rfl rfl rfl
                          have w13054 := rdA_fr (k := 10) (j := 1) gq30 cs11 t_p0 (κ' := 60) rfl rfl rfl
                          have w13055 : rdA s11 p0 10 1 = -1 := by rw [← es11]; exact rdA_self eq5
                          have w13056 := rdA_fr (k := 9) (j := 1) gq30 cs11 t_p0 (κ' := 59) rfl rfl rfl
                          have w13058 : rdA s11 p0 9 1 = mm_I s11 q17 ((1 : Int32)).toNatClampNeg := rdA_eq eq17
                          have w13057 : rdA s11 p0 9 1 = rdA q2.2 p0 9 1 := by rw [← es11]; exact rdA_k cq2 t_p0 (κ' := 59) rfl tq5 (by decide)
                          have w13059 := rdA_fr (k := 9) (j := 1) gq2 c0 t_p0 (κ' := 59) rfl rfl rfl
                          have w13063 : rdA q2.2 p0 10 1 = mm_I q2.2 q5 ((1 : Int32)).toNatClampNeg := rdA_eq eq5
                          have w13062 := rdA_fr (k := 10) (j := 1) gq2 c0 t_p0 (κ' := 60) rfl rfl rfl
                          have a13064 := zi_and p2 8 (by decide)
                          exact sw_some ⟨cq30, fq30, (by (try simp only [zp, zo, zq] at u11064 xq2 h11065 xq12 h11078 xq14 a11098 u11099 h11100 h11101 h11102 h12338 h12593 a12848 h12849 w12850 w12851 r12852 r12853 r12854 h12855 h12875 h12995 h13040 w13041 w13042 w13044 w13046 w13045 w13047 w13049 w13050 w13052 w13051 w13054 w13055 w13056 w13058 w13057 w13059 w13063 w13062 a13064 ⊢) <;> (try simp only [zz, Int32.reduceToInt, ne_eq] at u11064 xq2 h11065 xq12 h11078 xq14 a11098 u11099 h11100 h11101 h11102 h12338 h12593 a12848 h12849 w12850 w12851 r12852 r12853 r12854 h12855 h12875 h12995 h13040 w13041 w13042 w13044 w13046 w13045 w13047 w13049 w13050 w13052 w13051 w13054 w13055 w13056 w13058 w13057 w13059 w13063 w13062 a13064 ⊢) <;> (try simp (disch := omega) only [zb] at u11064 xq2 h11065 xq12 h11078 xq14 a11098 u11099 h11100 h11101 h11102 h12338 h12593 a12848 h12849 w12850 w12851 r12852 r12853 r12854 h12855 h12875 h12995 h13040 w13041 w13042 w13044 w13046 w13045 w13047 w13049 w13050 w13052 w13051 w13054 w13055 w13056 w13058 w13057 w13059 w13063 w13062 a13064 ⊢) <;> first | omega | ((try simp (disch := omega) only [zb] at u11064 xq2 h11065 xq12 h11078 xq14 a11098 u11099 h11100 h11101 h11102 h12338 h12593 a12848 h12849 w12850 w12851 r12852 r12853 r12854 h12855 h12875 h12995 h13040 w13041 w13042 w13044 w13046 w13045 w13047 w13049 w13050 w13052 w13051 w13054 w13055 w13056 w13058 w13057 w13059 w13063 w13062 a13064 ⊢) <;> omega))⟩
                        · refine sw_sh (ci_sh cq30 t_p0 rfl) ?_
                          refine sw_on (sX9_put cq30 t_p0 (by (try simp only [zp, zo, zq] at u11064 xq2 h11065 xq12 h11078 xq14 a11098 u11099 h11100 h11101 h11102 h12338 h12593 a12848 h12849 w12850 w12851 r12852 r12853 r12854 h12855 h12875 h12995 h13040 ⊢) <;> (try simp only [zz, Int32.reduceToInt, ne_eq] at u11064 xq2 h11065 xq12 h11078 xq14 a11098 u11099 h11100 h11101 h11102 h12338 h12593 a12848 h12849 w12850 w12851 r12852 r12853 r12854 h12855 h12875 h12995 h13040 ⊢) <;> (try simp (disch := omega) only [zb] at u11064 xq2 h11065 xq12 h11078 xq14 a11098 u11099 h11100 h11101 h11102 h12338 h12593 a12848 h12849 w12850 w12851 r12852 r12853 r12854 h12855 h12875 h12995 h13040 ⊢) <;> first | omega | ((try simp (disch := omega) only [zb] at u11064 xq2 h11065 xq12 h11078 xq14 a11098 u11099 h11100 h11101 h11102 h12338 h12593 a12848 h12849 w12850 w12851 r12852 r12853 r12854 h12855 h12875 h12995 h13040 ⊢) <;> omega)) ) ?_
                          intro q28 hqq28
                          obtain ⟨cq28, gq28, xq28⟩ := hqq28
                          have fq28 := fr_trans fq30 gq28 rfl
                          have w13065 := (gq28.2.2 _ _ t_p0 0 rfl).1
                          have w13066 := (gq30.2.2 _ _ t_p0 0 rfl).1
                          have w13067 : mm_I s11 p0 0 = mm_I q2.2 p0 0 := by rw [← es11]; exact rd_k t_p0 tq5 (by decide)
                          have w13069 := rdA_fr (k := 9) (j := 0) gq28 cq30 t_p0 (κ' := 59) rfl rfl rfl
                          have w13070 := rdA_fr (k := 9) (j := 0) gq30 cs11 t_p0 (κ' := 59) rfl rfl rfl
                          have w13072 : rdA s11 p0 9 0 = mm_I s11 q17 ((0 : Int32)).toNatClampNeg := rdA_eq eq17
                          have w13071 : rdA s11 p0 9 0 = rdA q2.2 p0 9 0 := by rw [← es11]; exact rdA_k cq2 t_p0 (κ' := 59) rfl tq5 (by decide)
                          have w13073 := rdA_fr (k := 9) (j := 0) gq2 c0 t_p0 (κ' := 59) rfl rfl rfl
                          have w13075 := rdA_fr (k := 10) (j := 0) gq28 cq30 t_p0 (κ' := 60) rfl rfl rfl
                          have w13076 := rdA_fr (k := 10) (j := 0) gq30 cs11 t_p0 (κ' := 60) rfl rfl rfl
                          have w13077 : rdA s11 p0 10 0 = rdA q2.2 p0 10 0 := by rw [← es11]; exact rdA_j (by decide)
                          have w13079 : rdA q2.2 p0 10 0 = mm_I q2.2 q5 ((0 : Int32)).toNatClampNeg := rdA_eq eq5
                          have w13078 := rdA_fr (k := 10) (j := 0) gq2 c0 t_p0 (κ' := 60) rfl rfl rfl
                          have w13081 := rdA_fr (k := 10) (j := 1) gq28 cq30 t_p0 (κ' := 60) rfl rfl rfl
                          have w13082 := rdA_fr (k := 10) (j := 1) gq30 cs11 t_p0 (κ' := 60) rfl rfl rfl
                          have w13083 : rdA s11 p0 10 1 = -1 := by rw [← es11]; exact rdA_self eq5
                          have w13084 := rdA_fr (k := 9) (j := 1) gq28 cq30 t_p0 (κ' := 59) rfl rfl rfl
                          have w13085 := rdA_fr (k := 9) (j := 1) gq30 cs11 t_p0 (κ' := 59) rfl rfl rfl
                          have w13087 : rdA s11 p0 9 1 = mm_I s11 q17 ((1 : Int32)).toNatClampNeg := rdA_eq eq17
                          have w13086 : rdA s11 p0 9 1 = rdA q2.2 p0 9 1 := by rw [← es11]; exact rdA_k cq2 t_p0 (κ' := 59) rfl tq5 (by decide)
                          have w13088 := rdA_fr (k := 9) (j := 1) gq2 c0 t_p0 (κ' := 59) rfl rfl rfl
                          have w13092 : rdA q2.2 p0 10 1 = mm_I q2.2 q5 ((1 : Int32)).toNatClampNeg := rdA_eq eq5
                          have w13091 := rdA_fr (k := 10) (j := 1) gq2 c0 t_p0 (κ' := 60) rfl rfl rfl
                          have a13093 := zi_and p2 8 (by decide)
                          exact sw_some ⟨cq28, fq28, (by (try simp only [zp, zo, zq] at u11064 xq2 h11065 xq12 h11078 xq14 a11098 u11099 h11100 h11101 h11102 h12338 h12593 a12848 h12849 w12850 w12851 r12852 r12853 r12854 h12855 h12875 h12995 h13040 w13065 w13066 w13067 w13069 w13070 w13072 w13071 w13073 w13075 w13076 w13077 w13079 w13078 w13081 w13082 w13083 w13084 w13085 w13087 w13086 w13088 w13092 w13091 a13093 ⊢) <;> (try simp only [zz, Int32.reduceToInt, ne_eq] at u11064 xq2 h11065 xq12 h11078 xq14 a11098 u11099 h11100 h11101 h11102 h12338 h12593 a12848 h12849 w12850 w12851 r12852 r12853 r12854 h12855 h12875 h12995 h13040 w13065 w13066 w13067 w13069 w13070 w13072 w13071 w13073 w13075 w13076 w13077 w13079 w13078 w13081 w13082 w13083 w13084 w13085 w13087 w13086 w13088 w13092 w13091 a13093 ⊢) <;> (try simp (disch := omega) only [zb] at u11064 xq2 h11065 xq12 h11078 xq14 a11098 u11099 h11100 h11101 h11102 h12338 h12593 a12848 h12849 w12850 w12851 r12852 r12853 r12854 h12855 h12875 h12995 h13040 w13065 w13066 w13067 w13069 w13070 w13072 w13071 w13073 w13075 w13076 w13077 w13079 w13078 w13081 w13082 w13083 w13084 w13085 w13087 w13086 w13088 w13092 w13091 a13093 ⊢) <;> first | omega | ((try simp (disch := omega) only [zb] at u11064 xq2 h11065 xq12 h11078 xq14 a11098 u11099 h11100 h11101 h11102 h12338 h12593 a12848 h12849 w12850 w12851 r12852 r12853 r12854 h12855 h12875 h12995 h13040 w13065 w13066 w13067 w13069 w13070 w13072 w13071 w13073 w13075 w13076 w13077 w13079 w13078 w13081 w13082 w13083 w13084 w13085 w13087 w13086 w13088 w13092 w13091 a13093 ⊢) <;> omega))⟩
                · refine sw_ite (fun h13094 => ?_) (fun h13094 => ?_)
                  · unfold fX9_pair_222
                    unfold fX9_pair_228
                    have w13095 : mm_I s11 q17 ((1 : Int32).toNatClampNeg) = mm_I q2.2 q17 ((1 : Int32).toNatClampNeg) := by rw [← es11]; exact rd_k tq17 tq5 (by decide)
                    have w13096 := (gq2.2.2 _ _ tq17 ((1 : Int32).toNatClampNeg) rfl).1
                    have r13097 := ci_rg c0 tq17 ((1 : Int32).toNatClampNeg) (lo := (-1)) (hi := 3) rfl
                    have r13098 := ci_rg cq2 tq17 ((1 : Int32).toNatClampNeg) (lo := (-1)) (hi := 3) rfl
                    have r13099 := ci_rg cs11 tq17 ((1 : Int32).toNatClampNeg) (lo := (-1)) (hi := 3) rfl
                    refine sw_ite (fun h13100 => ?_) (fun h13100 => ?_)
                    · have w13101 : mm_I s11 p0 0 = mm_I q2.2 p0 0 := by rw [← es11]; exact rd_k t_p0 tq5 (by decide)
                      have w13104 : rdA s11 p0 9 0 = mm_I s11 q17 ((0 : Int32)).toNatClampNeg := rdA_eq eq17
                      have w13103 : rdA s11 p0 9 0 = rdA q2.2 p0 9 0 := by rw [← es11]; exact rdA_k cq2 t_p0 (κ' := 59) rfl tq5 (by decide)
                      have w13105 := rdA_fr (k := 9) (j := 0) gq2 c0 t_p0 (κ' := 59) rfl rfl rfl
                      have w13107 : rdA s11 p0 10 0 = rdA q2.2 p0 10 0 := by rw [← es11]; exact rdA_j (by decide)
                      have w13109 : rdA q2.2 p0 10 0 = mm_I q2.2 q5 ((0 : Int32)).toNatClampNeg := rdA_eq eq5
                      have w13108 := rdA_fr (k := 10) (j := 0) gq2 c0 t_p0 (κ' := 60) rfl rfl rfl
                      have w13111 : rdA s11 p0 10 1 = -1 := by rw [← es11]; exact rdA_self eq5
                      have w13113 : rdA s11 p0 9 1 = mm_I s11 q17 ((1 : Int32)).toNatClampNeg := rdA_eq eq17
                      have w13112 : rdA s11 p0 9 1 = rdA q2.2 p0 9 1 := by rw [← es11]; exact rdA_k cq2 t_p0 (κ' := 59) rfl tq5 (by decide)
                      have w13114 := rdA_fr (k := 9) (j := 1) gq2 c0 t_p0 (κ' := 59) rfl rfl rfl
                      have w13118 : rdA q2.2 p0 10 1 = mm_I q2.2 q5 ((1 : Int32)).toNatClampNeg := rdA_eq eq5
                      have w13117 := rdA_fr (k := 10) (j := 1) gq2 c0 t_p0 (κ' := 60) rfl rfl rfl
                      have a13119 := zi_and p2 8 (by decide)
                      exact sw_some ⟨cs11, fs11, (by (try simp only [zp, zo, zq] at u11064 xq2 h11065 xq12 h11078 xq14 a11098 u11099 h11100 h11101 h11102 h12338 h12593 a12848 h12849 h13094 w13095 w13096 r13097 r13098 r13099 h13100 w13101 w13104 w13103 w13105 w13107 w13109 w13108 w13111 w13113 w13112 w13114 w13118 w13117 a13119 ⊢) <;> (try simp only [zz, Int32.reduceToInt, ne_eq] at u11064 xq2 h11065 xq12 h11078 xq14 a11098 u11099 h11100 h11101 h11102 h12338 h12593 a12848 h12849 h13094 w13095 w13096 r13097 r13098 r13099 h13100 w13101 w13104 w13103 w13105 w13107 w13109 w13108 w13111 w13113 w13112 w13114 w13118 w13117 a13119 ⊢) <;> (try simp (disch := omega) only [zb] at u11064 xq2 h11065 xq12 h11078 xq14 a11098 u11099 h11100 h11101 h11102 h12338 h12593 a12848 h12849 h13094 w13095 w13096 r13097 r13098 r13099 h13100 w13101 w13104 w13103 w13105 w13107 w13109 w13108 w13111 w13113 w13112 w13114 w13118 w13117 a13119 ⊢) <;> first | omega | ((try simp (disch := omega) only [zb] at u11064 xq2 h11065 xq12 h11078 xq14 a11098 u11099 h11100 h11101 h11102 h12338 h12593 a12848 h12849 h13094 w13095 w13096 r13097 r13098 r13099 h13100 w13101 w13104 w13103 w13105 w13107 w13109 w13108 w13111 w13113 w13112 w13114 w13118 w13117 a13119 ⊢) <;> omega))⟩
                    · refine sw_ite (fun h13120 => ?_) (fun h13120 => ?_)
                      · refine sw_ite (fun h13121 => ?_) (fun h13121 => ?_)
                        · have w13122 : mm_I s11 p0 0 = mm_I q2.2 p0 0 := by rw [← es11]; exact rd_k t_p0 tq5 (by decide)
                          have w13125 : rdA s11 p0 9 0 = mm_I s11 q17 ((0 : Int32)).toNatClampNeg := rdA_eq eq17
                          have w13124 : rdA s11 p0 9 0 = rdA q2.2 p0 9 0 := by rw [← es11]; exact rdA_k cq2 t_p0 (κ' := 59) rfl tq5 (by decide)
                          have w13126 := rdA_fr (k := 9) (j := 0) gq2 c0 t_p0 (κ' := 59) rfl rfl rfl
                          have w13128 : rdA s11 p0 10 0 = rdA q2.2 p0 10 0 := by rw [← es11]; exact rdA_j (by decide)
                          have w13130 : rdA q2.2 p0 10 0 = mm_I q2.2 q5 ((0 : Int32)).toNatClampNeg := rdA_eq eq5
                          have w13129 := rdA_fr (k := 10) (j := 0) gq2 c0 t_p0 (κ' := 60) rfl rfl rfl
                          have w13132 : rdA s11 p0 10 1 = -1 := by rw [← es11]; exact rdA_self eq5
                          have w13134 : rdA s11 p0 9 1 = mm_I s11 q17 ((1 : Int32)).toNatClampNeg := rdA_eq eq17
                          have w13133 : rdA s11 p0 9 1 = rdA q2.2 p0 9 1 := by rw [← es11]; exact rdA_k cq2 t_p0 (κ' := 59) rfl tq5 (by decide)
                          have w13135 := rdA_fr (k := 9) (j := 1) gq2 c0 t_p0 (κ' := 59) rfl rfl rfl
                          have w13139 : rdA q2.2 p0 10 1 = mm_I q2.2 q5 ((1 : Int32)).toNatClampNeg := rdA_eq eq5
                          have w13138 := rdA_fr (k := 10) (j := 1) gq2 c0 t_p0 (κ' := 60) rfl rfl rfl
                          have a13140 := zi_and p2 8 (by decide)
                          exact sw_some ⟨cs11, fs11, (by (try simp only [zp, zo, zq] at u11064 xq2 h11065 xq12 h11078 xq14 a11098 u11099 h11100 h11101 h11102 h12338 h12593 a12848 h12849 h13094 w13095 w13096 r13097 r13098 r13099 h13100 h13120 h13121 w13122 w13125 w13124 w13126 w13128 w13130 w13129 w13132 w13134 w13133 w13135 w13139 w13138 a13140 ⊢) <;> (try simp only [zz, Int32.reduceToInt, ne_eq] at u11064 xq2 h11065 xq12 h11078 xq14 a11098 u11099 h11100 h11101 h11102 h12338 h12593 a12848 h12849 h13094 w13095 w13096 r13097 r13098 r13099 h13100 h13120 h13121 w13122 w13125 w13124 w13126 w13128 w13130 w13129 w13132 w13134 w13133 w13135 w13139 w13138 a13140 ⊢) <;> (try simp (disch := omega) only [zb] at u11064 xq2 h11065 xq12 h11078 xq14 a11098 u11099 h11100 h11101 h11102 h12338 h12593 a12848 h12849 h13094 w13095 w13096 r13097 r13098 r13099 h13100 h13120 h13121 w13122 w13125 w13124 w13126 w13128 w13130 w13129 w13132 w13134 w13133 w13135 w13139 w13138 a13140 ⊢) <;> first | omega | ((try simp (disch := omega) only [zb] at u11064 xq2 h11065 xq12 h11078 xq14 a11098 u11099 h11100 h11101 h11102 h12338 h12593 a12848 h12849 h13094 w13095 w13096 r13097 r13098 r13099 h13100 h13120 h13121 w13122 w13125 w13124 w13126 w13128 w13130 w13129 w13132 w13134 w13133 w13135 w13139 w13138 a13140 ⊢) <;> omega))⟩
                        · unfold fX9_pair_250
                          refine sw_ite (fun h13141 => ?_) (fun h13141 => ?_)
                          · unfold fX9_pair_264
                            refine sw_ite (fun h13142 => ?_) (fun h13142 => ?_)
                            · have w13143 : mm_I s11 p0 0 = mm_I q2.2 p0 0 := by rw [← es11]; exact rd_k t_p0 tq5 (by decide)
                              have w13146 : rdA s11 p0 9 0 = mm_I s11 q17 ((0 : Int32)).toNatClampNeg := rdA_eq eq17
                              have w13145 : rdA s11 p0 9 0 = rdA q2.2 p0 9 0 := by rw [← es11]; exact rdA_k cq2 t_p0 (κ' := 59) rfl tq5 (by decide)
                              have w13147 := rdA_fr (k := 9) (j := 0) gq2 c0 t_p0 (κ' := 59) rfl rfl rfl
                              have w13149 : rdA s11 p0 10 0 = rdA q2.2 p0 10 0 := by rw [← es11]; exact rdA_j (by decide)
                              have w13151 : rdA q2.2 p0 10 0 = mm_I q2.2 q5 ((0 : Int32)).toNatClampNeg := rdA_eq eq5
                              have w13150 := rdA_fr (k := 10) (j := 0) gq2 c0 t_p0 (κ' := 60) rfl rfl rfl
                              have w13153 : rdA s11 p0 10 1 = -1 := by rw [← es11]; exact rdA_self eq5
                              have w13155 : rdA s11 p0 9 1 = mm_I s11 q17 ((1 : Int32)).toNatClampNeg := rdA_eq eq17
                              have w13154 : rdA s11 p0 9 1 = rdA q2.2 p0 9 1 := by rw [← es11]; exact rdA_k cq2 t_p0 (κ' := 59) rfl tq5 (by decide)
                              have w13156 := rdA_fr (k := 9) (j := 1) gq2 c0 t_p0 (κ' := 59) rfl rfl rfl
                              have w13160 : rdA q2.2 p0 10 1 = mm_I q2.2 q5 ((1 : Int32)).toNatClampNeg := rdA_eq eq5
                              have w13159 := rdA_fr (k := 10) (j := 1) gq2 c0 t_p0 (κ' := 60) rfl rfl rfl
                              have a13161 := zi_and p2 8 (by decide)
                              exact sw_some ⟨cs11, fs11, (by (try simp only [zp, zo, zq] at u11064 xq2 h11065 xq12 h11078 xq14 a11098 u11099 h11100 h11101 h11102 h12338 h12593 a12848 h12849 h13094 w13095 w13096 r13097 r13098 r13099 h13100 h13120 h13121 h13141 h13142 w13143 w13146 w13145 w13147 w13149 w13151 w13150 w13153 w13155 w13154 w13156 w13160 w13159 a13161 ⊢) <;> (try simp only [zz, Int32.reduceToInt, ne_eq] at u11064 xq2 h11065 xq12 h11078 xq14 a11098 u11099 h11100 h11101 h11102 h12338 h12593 a12848 h12849 h13094 w13095 w13096 r13097 r13098 r13099 h13100 h13120 h13121 h13141 h13142 w13143 w13146 w13145 w13147 w13149 w13151 w13150 w13153 w13155 w13154 w13156 w13160 w13159 a13161 ⊢) <;> (try simp (disch := omega) only [zb] at u11064 xq2 h11065 xq12 h11078 xq14 a11098 u11099 h11100 h11101 h11102 h12338 h12593 a12848 h12849 h13094 w13095 w13096 r13097 r13098 r13099 h13100 h13120 h13121 h13141 h13142 w13143 w13146 w13145 w13147 w13149 w13151 w13150 w13153 w13155 w13154 w13156 w13160 w13159 a13161 ⊢) <;> first | omega | ((try simp (disch := omega) only [zb] at u11064 xq2 h11065 xq12 h11078 xq14 a11098 u11099 h11100 h11101 h11102 h12338 h12593 a12848 h12849 h13094 w13095 w13096 r13097 r13098 r13099 h13100 h13120 h13121 h13141 h13142 w13143 w13146 w13145 w13147 w13149 w13151 w13150 w13153 w13155 w13154 w13156 w13160 w13159 a13161 ⊢) <;> omega))⟩
                            · refine sw_sh (ci_sh cs11 t_p0 rfl) ?_
                              refine sw_on (sX9_put cs11 t_p0 (by (try simp only [zp, zo, zq] at u11064 xq2 h11065 xq12 h11078 xq14 a11098 u11099 h11100 h11101 h11102 h12338 h12593 a12848 h12849 h13094 w13095 w13096 r13097 r13098 r13099 h13100 h13120 h13121 h13141 h13142 ⊢) <;> (try simp only [zz, Int32.reduceToInt, ne_eq] at u11064 xq2 h11065 xq12 h11078 xq14 a11098 u11099 h11100 h11101 h11102 h12338 h12593 a12848 h12849 h13094 w13095 w13096 r13097 r13098 r13099 h13100 h13120 h13121 h13141 h13142 ⊢) <;> (try simp (disch := omega) only [zb] at u11064 xq2 h11065 xq12 h11078 xq14 a11098 u11099 h11100 h11101 h11102 h12338 h12593 a12848 h12849 h13094 w13095 w13096 r13097 r13098 r13099 h13100 h13120 h13121 h13141 h13142 ⊢) <;> first | omega | ((try simp (disch := omega) only [zb] at u11064 xq2 h11065 xq12 h11078 xq14 a11098 u11099 h11100 h11101 h11102 h12338 h12593 a12848 h12849 h13094 w13095 w13096 r13097 r13098 r13099 h13100 h13120 h13121 h13141 h13142 ⊢) <;> omega)) ) ?_
                              intro q28 hqq28
                              obtain ⟨cq28, gq28, xq28⟩ := hqq28
                              have fq28 := fr_trans fs11 gq28 rfl
                              have w13162 := (gq28.2.2 _ _ t_p0 0 rfl).1
                              have w13163 : mm_I s11 p0 0 = mm_I q2.2 p0 0 := by rw [← es11]; exact rd_k t_p0 tq5 (by decide)
                              have w13165 := rdA_fr (k := 9) (j := 0) gq28 cs11 t_p0 (κ' := 59) rfl rfl rfl
                              have w13167 : rdA s11 p0 9 0 = mm_I s11 q17 ((0 : Int32)).toNatClampNeg := rdA_eq eq17
                              have w13166 : rdA s11 p0 9 0 = rdA q2.2 p0 9 0 := by rw [← es11]; exact rdA_k cq2 t_p0 (κ' := 59) rfl tq5 (by decide)
                              have w13168 := rdA_fr (k := 9) (j := 0) gq2 c0 t_p0 (κ' := 59) rfl rfl rfl
                              have w13170 := rdA_fr (k := 10) (j := 0) gq28 cs11 t_p0 (κ' := 60) rfl rfl rfl
                              have w13171 : rdA s11 p0 10 0 = rdA q2.2 p0 10 0 := by rw [← es11]; exact rdA_j (by decide)
                              have w13173 : rdA q2.2 p0 10 0 = mm_I q2.2 q5 ((0 : Int32)).toNatClampNeg := rdA_eq eq5
                              have w13172 := rdA_fr (k := 10) (j := 0) gq2 c0 t_p0 (κ' := 60) rfl rfl rfl
                              have w13175 := rdA_fr (k := 10) (j := 1) gq28 cs11 t_p0 (κ' := 60) rfl rfl rfl
                              have w13176 : rdA s11 p0 10 1 = -1 := by rw [← es11]; exact rdA_self eq5
                              have w13177 := rdA_fr (k := 9) (j := 1) gq28 cs11 t_p0 (κ' := 59) rfl rfl rfl
                              have w13179 : rdA s11 p0 9 1 = mm_I s11 q17 ((1 : Int32)).toNatClampNeg := rdA_eq eq17
                              have w13178 : rdA s11 p0 9 1 = rdA q2.2 p0 9 1 := by rw [← es11]; exact rdA_k cq2 t_p0 (κ' := 59) rfl tq5 (by decide)
                              have w13180 := rdA_fr (k := 9) (j := 1) gq2 c0 t_p0 (κ' := 59) rfl rfl rfl
                              have w13184 : rdA q2.2 p0 10 1 = mm_I q2.2 q5 ((1 : Int32)).toNatClampNeg := rdA_eq eq5
                              have w13183 := rdA_fr (k := 10) (j := 1) gq2 c0 t_p0 (κ' := 60) rfl rfl rfl
                              have a13185 := zi_and p2 8 (by decide)
                              exact sw_some ⟨cq28, fq28, (by (try simp only [zp, zo, zq] at u11064 xq2 h11065 xq12 h11078 xq14 a11098 u11099 h11100 h11101 h11102 h12338 h12593 a12848 h12849 h13094 w13095 w13096 r13097 r13098 r13099 h13100 h13120 h13121 h13141 h13142 w13162 w13163 w13165 w13167 w13166 w13168 w13170 w13171 w13173 w13172 w13175 w13176 w13177 w13179 w13178 w13180 w13184 w13183 a13185 ⊢) <;> (try simp only [zz, Int32.reduceToInt, ne_eq] at u11064 xq2 h11065 xq12 h11078 xq14 a11098 u11099 h11100 h11101 h11102 h12338 h12593 a12848 h12849 h13094 w13095 w13096 r13097 r13098 r13099 h13100 h13120 h13121 h13141 h13142 w13162 w13163 w13165 w13167 w13166 w13168 w13170 w13171 w13173 w13172 w13175 w13176 w13177 w13179 w13178 w13180 w13184 w13183 a13185 ⊢) <;> (try simp (disch := omega) only [zb] at u11064 xq2 h11065 xq12 h11078 xq14 a11098 u11099 h11100 h11101 h11102 h12338 h12593 a12848 h12849 h13094 w13095 w13096 r13097 r13098 r13099 h13100 h13120 h13121 h13141 h13142 w13162 w13163 w13165 w13167 w13166 w13168 w13170 w13171 w13173 w13172 w13175 w13176 w13177 w13179 w13178 w13180 w13184 w13183 a13185 ⊢) <;> first | omega | ((try simp (disch := omega) only [zb] at u11064 xq2 h11065 xq12 h11078 xq14 a11098 u11099 h11100 h11101 h11102 h12338 h12593 a12848 h12849 h13094 w13095 w13096 r13097 r13098 r13099 h13100 h13120 h13121 h13141 h13142 w13162 w13163 w13165 w13167 w13166 w13168 w13170 w13171 w13173 w13172 w13175 w13176 w13177 w13179 w13178 w13180 w13184 w13183 a13185 ⊢) <;> omega))⟩
                          · refine sw_sh (ci_sh cs11 t_p0 rfl) ?_
                            refine sw_on (sX9_put cs11 t_p0 (by (try simp only [zp, zo, zq] at u11064 xq2 h11065 xq12 h11078 xq14 a11098 u11099 h11100 h11101 h11102 h12338 h12593 a12848 h12849 h13094 w13095 w13096 r13097 r13098 r13099 h13100 h13120 h13121 h13141 ⊢) <;> (try simp only [zz, Int32.reduceToInt, ne_eq] at u11064 xq2 h11065 xq12 h11078 xq14 a11098 u11099 h11100 h11101 h11102 h12338 h12593 a12848 h12849 h13094 w13095 w13096 r13097 r13098 r13099 h13100 h13120 h13121 h13141 ⊢) <;> (try simp (disch := omega) only [zb] at u11064 xq2 h11065 xq12 h11078 xq14 a11098 u11099 h11100 h11101 h11102 h12338 h12593 a12848 h12849 h13094 w13095 w13096 r13097 r13098 r13099 h13100 h13120 h13121 h13141 ⊢) <;> first | omega | ((try simp (disch := omega) only [zb] at u11064 xq2 h11065 xq12 h11078 xq14 a11098 u11099 h11100 h11101 h11102 h12338 h12593 a12848 h12849 h13094 w13095 w13096 r13097 r13098 r13099 h13100 h13120 h13121 h13141 ⊢) <;> omega)) ) ?_
                            intro q30 hqq30
                            obtain ⟨cq30, gq30, xq30⟩ := hqq30
                            have fq30 := fr_trans fs11 gq30 rfl
                            unfold fX9_pair_264
                            refine sw_ite (fun h13186 => ?_) (fun h13186 => ?_)
                            · have w13187 := (gq30.2.2 _ _ t_p0 0 rfl).1
                              have w13188 : mm_I s11 p0 0 = mm_I q2.2 p0 0 := by rw [← es11]; exact rd_k t_p0 tq5 (by decide)
                              have w13190 := rdA_fr (k := 9) (j := 0) gq30 cs11 t_p0 (κ' := 59) rfl rfl rfl
                              have w13192 : rdA s11 p0 9 0 = mm_I s11 q17 ((0 : Int32)).toNatClampNeg := rdA_eq eq17
                              have w13191 : rdA s11 p0 9 0 = rdA q2.2 p0 9 0 := by rw [← es11]; exact rdA_k cq2 t_p0 (κ' := 59) rfl tq5 (by decide)
                              have w13193 := rdA_fr (k := 9) (j := 0) gq2 c0 t_p0 (κ' := 59) rfl rfl rfl
                              have w13195 := rdA_fr (k := 10) (j := 0) gq30 cs11 t_p0 (κ' := 60) rfl rfl rfl
                              have w13196 : rdA s11 p0 10 0 = rdA q2.2 p0 10 0 := by rw [← es11]; exact rdA_j (by decide)
                              have w13198 : rdA q2.2 p0 10 0 = mm_I q2.2 q5 ((0 : Int32)).toNatClampNeg := rdA_eq eq5
                              have w13197 := rdA_fr (k := 10) (j := 0) gq2 c0 t_p0 (κ' := 60) rfl rfl rfl
                              have w13200 := rdA_fr (k := 10) (j := 1) gq30 cs11 t_p0 (κ' := 60) rfl rfl rfl
                              have w13201 : rdA s11 p0 10 1 = -1 := by rw [← es11]; exact rdA_self eq5
                              have w13202 := rdA_fr (k := 9) (j := 1) gq30 cs11 t_p0 (κ' := 59) rfl rfl rfl
                              have w13204 : rdA s11 p0 9 1 = mm_I s11 q17 ((1 : Int32)).toNatClampNeg := rdA_eq eq17
                              have w13203 : rdA s11 p0 9 1 = rdA q2.2 p0 9 1 := by rw [← es11]; exact rdA_k cq2 t_p0 (κ' := 59) rfl tq5 (by decide)
                              have w13205 := rdA_fr (k := 9) (j := 1) gq2 c0 t_p0 (κ' := 59) rfl rfl rfl
                              have w13209 : rdA q2.2 p0 10 1 = mm_I q2.2 q5 ((1 : Int32)).toNatClampNeg := rdA_eq eq5
                              have w13208 := rdA_fr (k := 10) (j := 1) gq2 c0 t_p0 (κ' := 60) rfl rfl rfl
                              have a13210 := zi_and p2 8 (by decide)
                              exact sw_some ⟨cq30, fq30, (by (try simp only [zp, zo, zq] at u11064 xq2 h11065 xq12 h11078 xq14 a11098 u11099 h11100 h11101 h11102 h12338 h12593 a12848 h12849 h13094 w13095 w13096 r13097 r13098 r13099 h13100 h13120 h13121 h13141 h13186 w13187 w13188 w13190 w13192 w13191 w13193 w13195 w13196 w13198 w13197 w13200 w13201 w13202 w13204 w13203 w13205 w13209 w13208 a13210 ⊢) <;> (try simp only [zz, Int32.reduceToInt, ne_eq] at u11064 xq2 h11065 xq12 h11078 xq14 a11098 u11099 h11100 h11101 h11102 h12338 h12593 a12848 h12849 h13094 w13095 w13096 r13097 r13098 r13099 h13100 h13120 h13121 h13141 h13186 w13187 w13188 w13190 w13192 w13191 w13193 w13195 w13196 w13198 w13197 w13200 w13201 w13202 w13204 w13203 w13205 w13209 w13208 a13210 ⊢) <;> (try simp (disch := omega) only [zb] at u11064 xq2 h11065 xq12 h11078 xq14 a11098 u11099 h11100 h11101 h11102 h12338 h12593 a12848 h12849 h13094 w13095 w13096 r13097 r13098 r13099 h13100 h13120 h13121 h13141 h13186 w13187 w13188 w13190 w13192 w13191 w13193 w13195 w13196 w13198 w13197 w13200 w13201 w13202 w13204 w13203 w13205 w13209 w13208 a13210 ⊢) <;> first | omega | ((try simp (disch := omega) only [zb] at u11064 xq2 h11065 xq12 h11078 xq14 a11098 u11099 h11100 h11101 h11102 h12338 h12593 a12848 h12849 h13094 w13095 w13096 r13097 r13098 r13099 h13100 h13120 h13121 h13141 h13186 w13187 w13188 w13190 w13192 w13191 w13193 w13195 w13196 w13198 w13197 w13200 w13201 w13202 w13204 w13203 w13205 w13209 w13208 a13210 ⊢) <;> omega))⟩
                            · refine sw_sh (ci_sh cq30 t_p0 rfl) ?_
                              refine sw_on (sX9_put cq30 t_p0 (by (try simp only [zp, zo, zq] at u11064 xq2 h11065 xq12 h11078 xq14 a11098 u11099 h11100 h11101 h11102 h12338 h12593 a12848 h12849 h13094 w13095 w13096 r13097 r13098 r13099 h13100 h13120 h13121 h13141 h13186 ⊢) <;> (try simp only [zz, Int32.reduceToInt, ne_eq] at u11064 xq2 h11065 xq12 h11078 xq14 a11098 u11099 h11100 h11101 h11102 h12338 h12593 a12848 h12849 h13094 w13095 w13096 r13097 r13098 r13099 h13100 h13120 h13121 h13141 h13186 ⊢) <;> (try simp (disch := omega) only [zb] at u11064 xq2 h11065 xq12 h11078 xq14 a11098 u11099 h11100 h11101 h11102 h12338 h12593 a12848 h12849 h13094 w13095 w13096 r13097 r13098 r13099 h13100 h13120 h13121 h13141 h13186 ⊢) <;> first | omega | ((try simp (disch := omega) only [zb] at u11064 xq2 h11065 xq12 h11078 xq14 a11098 u11099 h11100 h11101 h11102 h12338 h12593 a12848 h12849 h13094 w13095 w13096 r13097 r13098 r13099 h13100 h13120 h13121 h13141 h13186 ⊢) <;> omega)) ) ?_
                              intro q28 hqq28
                              obtain ⟨cq28, gq28, xq28⟩ := hqq28
                              have fq28 := fr_trans fq30 gq28 rfl
                              have w13211 := (gq28.2.2 _ _ t_p0 0 rfl).1
                              have w13212 := (gq30.2.2 _ _ t_p0 0 rfl).1
                              have w13213 : mm_I s11 p0 0 = mm_I q2.2 p0 0 := by rw [← es11]; exact rd_k t_p0 tq5 (by decide)
                              have w13215 := rdA_fr (k := 9) (j := 0) gq28 cq30 t_p0 (κ' := 59) rfl rfl rfl
                              have w13216 := rdA_fr (k := 9) (j := 0) gq30 cs11 t_p0 (κ' := 59) rfl rfl rfl
                              have w13218 : rdA s11 p0 9 0 = mm_I s11 q17 ((0 : Int32)).toNatClampNeg := rdA_eq eq17
                              have w13217 : rdA s11 p0 9 0 = rdA q2.2 p0 9 0 := by rw [← es11]; exact rdA_k cq2 t_p0 (κ' := 59) rfl tq5 (by decide)
                              have w13219 := rdA_fr (k := 9) (j := 0) gq2 c0 t_p0 (κ' := 59) rfl rfl rfl
                              have w13221 := rdA_fr (k := 10) (j := 0) gq28 cq30 t_p0 (κ' := 60) rfl rfl rfl
                              have w13222 := rdA_fr (k := 10) (j := 0) gq30 cs11 t_p0 (κ' := 60) rfl rfl rfl
                              have w13223 : rdA s11 p0 10 0 = rdA q2.2 p0 10 0 := by rw [← es11]; exact rdA_j (by decide)
                              have w13225 : rdA q2.2 p0 10 0 = mm_I q2.2 q5 ((0 : Int32)).toNatClampNeg := rdA_eq eq5
                              have w13224 := rdA_fr (k := 10) (j := 0) gq2 c0 t_p0 (κ' := 60) rfl rfl rfl
                              have w13227 := rdA_fr (k := 10) (j := 1) gq28 cq30 t_p0 (κ' := 60) rfl rfl rfl
                              have w13228 := rdA_fr (k := 10) (j := 1) gq30 cs11 t_p0 (κ' := 60) rfl rfl rfl
                              have w13229 : rdA s11 p0 10 1 = -1 := by rw [← es11]; exact rdA_self eq5
                              have w13230 := rdA_fr (k := 9) (j := 1) gq28 cq30 t_p0 (κ' := 59) rfl rfl rfl
                              have w13231 := rdA_fr (k := 9) (j := 1) gq30 cs11 t_p0 (κ' := 59) rfl rfl rfl
                              have w13233 : rdA s11 p0 9 1 = mm_I s11 q17 ((1 : Int32)).toNatClampNeg := rdA_eq eq17
                              have w13232 : rdA s11 p0 9 1 = rdA q2.2 p0 9 1 := by rw [← es11]; exact rdA_k cq2 t_p0 (κ' := 59) rfl tq5 (by decide)
                              have w13234 := rdA_fr (k := 9) (j := 1) gq2 c0 t_p0 (κ' := 59) rfl rfl rfl
                              have w13238 : rdA q2.2 p0 10 1 = mm_I q2.2 q5 ((1 : Int32)).toNatClampNeg := rdA_eq eq5
                              have w13237 := rdA_fr (k := 10) (j := 1) gq2 c0 t_p0 (κ' := 60) rfl rfl rfl
                              have a13239 := zi_and p2 8 (by decide)
                              exact sw_some ⟨cq28, fq28, (by (try simp only [zp, zo, zq] at u11064 xq2 h11065 xq12 h11078 xq14 a11098 u11099 h11100 h11101 h11102 h12338 h12593 a12848 h12849 h13094 w13095 w13096 r13097 r13098 r13099 h13100 h13120 h13121 h13141 h13186 w13211 w13212 w13213 w13215 w13216 w13218 w13217 w13219 w13221 w13222 w13223 w13225 w13224 w13227 w13228 w13229 w13230 w13231 w13233 w13232 w13234 w13238 w13237 a13239 ⊢) <;> (try simp only [zz, Int32.reduceToInt, ne_eq] at u11064 xq2 h11065 xq12 h11078 xq14 a11098 u11099 h11100 h11101 h11102 h12338 h12593 a12848 h12849 h13094 w13095 w13096 r13097 r13098 r13099 h13100 h13120 h13121 h13141 h13186 w13211 w13212 w13213 w13215 w13216 w13218 w13217 w13219 w13221 w13222 w13223 w13225 w13224 w13227 w13228 w13229 w13230 w13231 w13233 w13232 w13234 w13238 w13237 a13239 ⊢) <;> (try simp (disch := omega) only [zb] at u11064 xq2 h11065 xq12 h11078 xq14 a11098 u11099 h11100 h11101 h11102 h12338 h12593 a12848 h12849 h13094 w13095 w13096 r13097 r13098 r13099 h13100 h13120 h13121 h13141 h13186 w13211 w13212 w13213 w13215 w13216 w13218 w13217 w13219 w13221 w13222 w13223 w13225 w13224 w13227 w13228 w13229 w13230 w13231 w13233 w13232 w13234 w13238 w13237 a13239 ⊢) <;> first | omega | ((try simp (disch := omega) only [zb] at u11064 xq2 h11065 xq12 h11078 xq14 a11098 u11099 h11100 h11101 h11102 h12338 h12593 a12848 h12849 h13094 w13095 w13096 r13097 r13098 r13099 h13100 h13120 h13121 h13141 h13186 w13211 w13212 w13213 w13215 w13216 w13218 w13217 w13219 w13221 w13222 w13223 w13225 w13224 w13227 w13228 w13229 w13230 w13231 w13233 w13232 w13234 w13238 w13237 a13239 ⊢) <;> omega))⟩
                      · unfold fX9_pair_250
                        refine sw_ite (fun h13240 => ?_) (fun h13240 => ?_)
                        · unfold fX9_pair_264
                          refine sw_ite (fun h13241 => ?_) (fun h13241 => ?_)
                          · have w13242 : mm_I s11 p0 0 = mm_I q2.2 p0 0 := by rw [← es11]; exact rd_k t_p0 tq5 (by decide)
                            have w13245 : rdA s11 p0 9 0 = mm_I s11 q17 ((0 : Int32)).toNatClampNeg := rdA_eq eq17
                            have w13244 : rdA s11 p0 9 0 = rdA q2.2 p0 9 0 := by rw [← es11]; exact rdA_k cq2 t_p0 (κ' := 59) rfl tq5 (by decide)
                            have w13246 := rdA_fr (k := 9) (j := 0) gq2 c0 t_p0 (κ' := 59) rfl rfl rfl
                            have w13248 : rdA s11 p0 10 0 = rdA q2.2 p0 10 0 := by rw [← es11]; exact rdA_j (by decide)
                            have w13250 : rdA q2.2 p0 10 0 = mm_I q2.2 q5 ((0 : Int32)).toNatClampNeg := rdA_eq eq5
                            have w13249 := rdA_fr (k := 10) (j := 0) gq2 c0 t_p0 (κ' := 60) rfl rfl rfl
                            have w13252 : rdA s11 p0 10 1 = -1 := by rw [← es11]; exact rdA_self eq5
                            have w13254 : rdA s11 p0 9 1 = mm_I s11 q17 ((1 : Int32)).toNatClampNeg := rdA_eq eq17
                            have w13253 : rdA s11 p0 9 1 = rdA q2.2 p0 9 1 := by rw [← es11]; exact rdA_k cq2 t_p0 (κ' := 59) rfl tq5 (by decide)
                            have w13255 := rdA_fr (k := 9) (j := 1) gq2 c0 t_p0 (κ' := 59) rfl rfl rfl
                            have w13259 : rdA q2.2 p0 10 1 = mm_I q2.2 q5 ((1 : Int32)).toNatClampNeg := rdA_eq eq5
                            have w13258 := rdA_fr (k := 10) (j := 1) gq2 c0 t_p0 (κ' := 60) rfl rfl rfl
                            have a13260 := zi_and p2 8 (by decide)
                            exact sw_some ⟨cs11, fs11, (by (try simp only [zp, zo, zq] at u11064 xq2 h11065 xq12 h11078 xq14 a11098 u11099 h11100 h11101 h11102 h12338 h12593 a12848 h12849 h13094 w13095 w13096 r13097 r13098 r13099 h13100 h13120 h13240 h13241 w13242 w13245 w13244 w13246 w13248 w13250 w13249 w13252 w13254 w13253 w13255 w13259 w13258 a13260 ⊢) <;> (try simp only [zz, Int32.reduceToInt, ne_eq] at u11064 xq2 h11065 xq12 h11078 xq14 a11098 u11099 h11100 h11101 h11102 h12338 h12593 a12848 h12849 h13094 w13095 w13096 r13097 r13098 r13099 h13100 h13120 h13240 h13241 w13242 w13245 w13244 w13246 w13248 w13250 w13249 w13252 w13254 w13253 w13255 w13259 w13258 a13260 ⊢) <;> (try simp (disch := omega) only [zb] at u11064 xq2 h11065 xq12 h11078 xq14 a11098 u11099 h11100 h11101 h11102 h12338 h12593 a12848 h12849 h13094 w13095 w13096 r13097 r13098 r13099 h13100 h13120 h13240 h13241 w13242 w13245 w13244 w13246 w13248 w13250 w13249 w13252 w13254 w13253 w13255 w13259 w13258 a13260 ⊢) <;> first | omega | ((try simp (disch := omega) only [zb] at u11064 xq2 h11065 xq12 h11078 xq14 a11098 u11099 h11100 h11101 h11102 h12338 h12593 a12848 h12849 h13094 w13095 w13096 r13097 r13098 r13099 h13100 h13120 h13240 h13241 w13242 w13245 w13244 w13246 w13248 w13250 w13249 w13252 w13254 w13253 w13255 w13259 w13258 a13260 ⊢) <;> omega))⟩
                          · refine sw_sh (ci_sh cs11 t_p0 rfl) ?_
                            refine sw_on (sX9_put cs11 t_p0 (by (try simp only [zp, zo, zq] at u11064 xq2 h11065 xq12 h11078 xq14 a11098 u11099 h11100 h11101 h11102 h12338 h12593 a12848 h12849 h13094 w13095 w13096 r13097 r13098 r13099 h13100 h13120 h13240 h13241 ⊢) <;> (try simp only [zz, Int32.reduceToInt, ne_eq] at u11064 xq2 h11065 xq12 h11078 xq14 a11098 u11099 h11100 h11101 h11102 h12338 h12593 a12848 h12849 h13094 w13095 w13096 r13097 r13098 r13099 h13100 h13120 h13240 h13241 ⊢) <;> (try simp (disch := omega) only [zb] at u11064 xq2 h11065 xq12 h11078 xq14 a11098 u11099 h11100 h11101 h11102 h12338 h12593 a12848 h12849 h13094 w13095 w13096 r13097 r13098 r13099 h13100 h13120 h13240 h13241 ⊢) <;> first | omega | ((try simp (disch := omega) only [zb] at u11064 xq2 h11065 xq12 h11078 xq14 a11098 u11099 h11100 h11101 h11102 h12338 h12593 a12848 h12849 h13094 w13095 w13096 r13097 r13098 r13099 h13100 h13120 h13240 h13241 ⊢) <;> omega)) ) ?_
                            intro q28 hqq28
                            obtain ⟨cq28, gq28, xq28⟩ := hqq28
                            have fq28 := fr_trans fs11 gq28 rfl
                            have w13261 := (gq28.2.2 _ _ t_p0 0 rfl).1
                            have w13262 : mm_I s11 p0 0 = mm_I q2.2 p0 0 := by rw [← es11]; exact rd_k t_p0 tq5 (by decide)
                            have w13264 := rdA_fr (k := 9) (j := 0) gq28 cs11 t_p0 (κ' := 59) rfl rfl rfl
                            have w13266 : rdA s11 p0 9 0 = mm_I s11 q17 ((0 : Int32)).toNatClampNeg := rdA_eq eq17
                            have w13265 : rdA s11 p0 9 0 = rdA q2.2 p0 9 0 := by rw [← es11]; exact rdA_k cq2 t_p0 (κ' := 59) rfl tq5 (by decide)
                            have w13267 := rdA_fr (k := 9) (j := 0) gq2 c0 t_p0 (κ' := 59) rfl rfl rfl
                            have w13269 := rdA_fr (k := 10) (j := 0) gq28 cs11 t_p0 (κ' := 60) rfl rfl rfl
                            have w13270 : rdA s11 p0 10 0 = rdA q2.2 p0 10 0 := by rw [← es11]; exact rdA_j (by decide)
                            have w13272 : rdA q2.2 p0 10 0 = mm_I q2.2 q5 ((0 : Int32)).toNatClampNeg := rdA_eq eq5
                            have w13271 := rdA_fr (k := 10) (j := 0) gq2 c0 t_p0 (κ' := 60) rfl rfl rfl
                            have w13274 := rdA_fr (k := 10) (j := 1) gq28 cs11 t_p0 (κ' := 60) rfl rfl rfl
                            have w13275 : rdA s11 p0 10 1 = -1 := by rw [← es11]; exact rdA_self eq5
                            have w13276 := rdA_fr (k := 9) (j := 1) gq28 cs11 t_p0 (κ' := 59) rfl rfl rfl
                            have w13278 : rdA s11 p0 9 1 = mm_I s11 q17 ((1 : Int32)).toNatClampNeg := rdA_eq eq17
                            have w13277 : rdA s11 p0 9 1 = rdA q2.2 p0 9 1 := by rw [← es11]; exact rdA_k cq2 t_p0 (κ' := 59) rfl tq5 (by decide)
                            have w13279 := rdA_fr (k := 9) (j := 1) gq2 c0 t_p0 (κ' := 59) rfl rfl rfl
                            have w13283 : rdA q2.2 p0 10 1 = mm_I q2.2 q5 ((1 : Int32)).toNatClampNeg := rdA_eq eq5
                            have w13282 := rdA_fr (k := 10) (j := 1) gq2 c0 t_p0 (κ' := 60) rfl rfl rfl
                            have a13284 := zi_and p2 8 (by decide)
                            exact sw_some ⟨cq28, fq28, (by (try simp only [zp, zo, zq] at u11064 xq2 h11065 xq12 h11078 xq14 a11098 u11099 h11100 h11101 h11102 h12338 h12593 a12848 h12849 h13094 w13095 w13096 r13097 r13098 r13099 h13100 h13120 h13240 h13241 w13261 w13262 w13264 w13266 w13265 w13267 w13269 w13270 w13272 w13271 w13274 w13275 w13276 w13278 w13277 w13279 w13283 w13282 a13284 ⊢) <;> (try simp only [zz, Int32.reduceToInt, ne_eq] at u11064 xq2 h11065 xq12 h11078 xq14 a11098 u11099 h11100 h11101 h11102 h12338 h12593 a12848 h12849 h13094 w13095 w13096 r13097 r13098 r13099 h13100 h13120 h13240 h13241 w13261 w13262 w13264 w13266 w13265 w13267 w13269 w13270 w13272 w13271 w13274 w13275 w13276 w13278 w13277 w13279 w13283 w13282 a13284 ⊢) <;> (try simp (disch := omega) only [zb] at u11064 xq2 h11065 xq12 h11078 xq14 a11098 u11099 h11100 h11101 h11102 h12338 h12593 a12848 h12849 h13094 w13095 w13096 r13097 r13098 r13099 h13100 h13120 h13240 h13241 w13261 w13262 w13264 w13266 w13265 w13267 w13269 w13270 w13272 w13271 w13274 w13275 w13276 w13278 w13277 w13279 w13283 w13282 a13284 ⊢) <;> first | omega | ((try simp (disch := omega) only [zb] at u11064 xq2 h11065 xq12 h11078 xq14 a11098 u11099 h11100 h11101 h11102 h12338 h12593 a12848 h12849 h13094 w13095 w13096 r13097 r13098 r13099 h13100 h13120 h13240 h13241 w13261 w13262 w13264 w13266 w13265 w13267 w13269 w13270 w13272 w13271 w13274 w13275 w13276 w13278 w13277 w13279 w13283 w13282 a13284 ⊢) <;> omega))⟩
                        · refine sw_sh (ci_sh cs11 t_p0 rfl) ?_
                          refine sw_on (sX9_put cs11 t_p0 (by (try simp only [zp, zo, zq] at u11064 xq2 h11065 xq12 h11078 xq14 a11098 u11099 h11100 h11101 h11102 h12338 h12593 a12848 h12849 h13094 w13095 w13096 r13097 r13098 r13099 h13100 h13120 h13240 ⊢) <;> (try simp only [zz, Int32.reduceToInt, ne_eq] at u11064 xq2 h11065 xq12 h11078 xq14 a11098 u11099 h11100 h11101 h11102 h12338 h12593 a12848 h12849 h13094 w13095 w13096 r13097 r13098 r13099 h13100 h13120 h13240 ⊢) <;> (try simp (disch := omega) only [zb] at u11064 xq2 h11065 xq12 h11078 xq14 a11098 u11099 h11100 h11101 h11102 h12338 h12593 a12848 h12849 h13094 w13095 w13096 r13097 r13098 r13099 h13100 h13120 h13240 ⊢) <;> first | omega | ((try simp (disch := omega) only [zb] at u11064 xq2 h11065 xq12 h11078 xq14 a11098 u11099 h11100 h11101 h11102 h12338 h12593 a12848 h12849 h13094 w13095 w13096 r13097 r13098 r13099 h13100 h13120 h13240 ⊢) <;> omega)) ) ?_
                          intro q30 hqq30
                          obtain ⟨cq30, gq30, xq30⟩ := hqq30
                          have fq30 := fr_trans fs11 gq30 rfl
                          unfold fX9_pair_264
                          refine sw_ite (fun h13285 => ?_) (fun h13285 => ?_)
                          · have w13286 := (gq30.2.2 _ _ t_p0 0 rfl).1
                            have w13287 : mm_I s11 p0 0 = mm_I q2.2 p0 0 := by rw [← es11]; exact rd_k t_p0 tq5 (by decide)
                            have w13289 := rdA_fr (k := 9) (j := 0) gq30 cs11 t_p0 (κ' := 59) rfl rfl rfl
                            have w13291 : rdA s11 p0 9 0 = mm_I s11 q17 ((0 : Int32)).toNatClampNeg := rdA_eq eq17
                            have w13290 : rdA s11 p0 9 0 = rdA q2.2 p0 9 0 := by rw [← es11]; exact rdA_k cq2 t_p0 (κ' := 59) rfl tq5 (by decide)
                            have w13292 := rdA_fr (k := 9) (j := 0) gq2 c0 t_p0 (κ' := 59) rfl rfl rfl
                            have w13294 := rdA_fr (k := 10) (j := 0) gq30 cs11 t_p0 (κ' := 60) rfl rfl rfl
                            have w13295 : rdA s11 p0 10 0 = rdA q2.2 p0 10 0 := by rw [← es11]; exact rdA_j (by decide)
                            have w13297 : rdA q2.2 p0 10 0 = mm_I q2.2 q5 ((0 : Int32)).toNatClampNeg := rdA_eq eq5
                            have w13296 := rdA_fr (k := 10) (j := 0) gq2 c0 t_p0 (κ' := 60) rfl rfl rfl
                            have w13299 := rdA_fr (k := 10) (j := 1) gq30 cs11 t_p0 (κ' := 60) rfl rfl rfl
                            have w13300 : rdA s11 p0 10 1 = -1 := by rw [← es11]; exact rdA_self eq5
                            have w13301 := rdA_fr (k := 9) (j := 1) gq30 cs11 t_p0 (κ' := 59) rfl rfl rfl
                            have w13303 : rdA s11 p0 9 1 = mm_I s11 q17 ((1 : Int32)).toNatClampNeg := rdA_eq eq17
                            have w13302 : rdA s11 p0 9 1 = rdA q2.2 p0 9 1 := by rw [← es11]; exact rdA_k cq2 t_p0 (κ' := 59) rfl tq5 (by decide)
                            have w13304 := rdA_fr (k := 9) (j := 1) gq2 c0 t_p0 (κ' := 59) rfl rfl rfl
                            have w13308 : rdA q2.2 p0 10 1 = mm_I q2.2 q5 ((1 : Int32)).toNatClampNeg := rdA_eq eq5
                            have w13307 := rdA_fr (k := 10) (j := 1) gq2 c0 t_p0 (κ' := 60) rfl rfl rfl
                            have a13309 := zi_and p2 8 (by decide)
                            exact sw_some ⟨cq30, fq30, (by (try simp only [zp, zo, zq] at u11064 xq2 h11065 xq12 h11078 xq14 a11098 u11099 h11100 h11101 h11102 h12338 h12593 a12848 h12849 h13094 w13095 w13096 r13097 r13098 r13099 h13100 h13120 h13240 h13285 w13286 w13287 w13289 w13291 w13290 w13292 w13294 w13295 w13297 w13296 w13299 w13300 w13301 w13303 w13302 w13304 w13308 w13307 a13309 ⊢) <;> (try simp only [zz, Int32.reduceToInt, ne_eq] at u11064 xq2 h11065 xq12 h11078 xq14 a11098 u11099 h11100 h11101 h11102 h12338 h12593 a12848 h12849 h13094 w13095 w13096 r13097 r13098 r13099 h13100 h13120 h13240 h13285 w13286 w13287 w13289 w13291 w13290 w13292 w13294 w13295 w13297 w13296 w13299 w13300 w13301 w13303 w13302 w13304 w13308 w13307 a13309 ⊢) <;> (try simp (disch := omega) only [zb] at u11064 xq2 h11065 xq12 h11078 xq14 a11098 u11099 h11100 h11101 h11102 h12338 h12593 a12848 h12849 h13094 w13095 w13096 r13097 r13098 r13099 h13100 h13120 h13240 h13285 w13286 w13287 w13289 w13291 w13290 w13292 w13294 w13295 w13297 w13296 w13299 w13300 w13301 w13303 w13302 w13304 w13308 w13307 a13309 ⊢) <;> first | omega | ((try simp (disch := omega) only [zb] at u11064 xq2 h11065 xq12 h11078 xq14 a11098 u11099 h11100 h11101 h11102 h12338 h12593 a12848 h12849 h13094 w13095 w13096 r13097 r13098 r13099 h13100 h13120 h13240 h13285 w13286 w13287 w13289 w13291 w13290 w13292 w13294 w13295 w13297 w13296 w13299 w13300 w13301 w13303 w13302 w13304 w13308 w13307 a13309 ⊢) <;> omega))⟩
                          · refine sw_sh (ci_sh cq30 t_p0 rfl) ?_
                            refine sw_on (sX9_put cq30 t_p0 (by (try simp only [zp, zo, zq] at u11064 xq2 h11065 xq12 h11078 xq14 a11098 u11099 h11100 h11101 h11102 h12338 h12593 a12848 h12849 h13094 w13095 w13096 r13097 r13098 r13099 h13100 h13120 h13240 h13285 ⊢) <;> (try simp only [zz, Int32.reduceToInt, ne_eq] at u11064 xq2 h11065 xq12 h11078 xq14 a11098 u11099 h11100 h11101 h11102 h12338 h12593 a12848 h12849 h13094 w13095 w13096 r13097 r13098 r13099 h13100 h13120 h13240 h13285 ⊢) <;> (try simp (disch := omega) only [zb] at u11064 xq2 h11065 xq12 h11078 xq14 a11098 u11099 h11100 h11101 h11102 h12338 h12593 a12848 h12849 h13094 w13095 w13096 r13097 r13098 r13099 h13100 h13120 h13240 h13285 ⊢) <;> first | omega | ((try simp (disch := omega) only [zb] at u11064 xq2 h11065 xq12 h11078 xq14 a11098 u11099 h11100 h11101 h11102 h12338 h12593 a12848 h12849 h13094 w13095 w13096 r13097 r13098 r13099 h13100 h13120 h13240 h13285 ⊢) <;> omega)) ) ?_
                            intro q28 hqq28
                            obtain ⟨cq28, gq28, xq28⟩ := hqq28
                            have fq28 := fr_trans fq30 gq28 rfl
                            have w13310 := (gq28.2.2 _ _ t_p0 0 rfl).1
                            have w13311 := (gq30.2.2 _ _ t_p0 0 rfl).1
                            have w13312 : mm_I s11 p0 0 = mm_I q2.2 p0 0 := by rw [← es11]; exact rd_k t_p0 tq5 (by decide)
                            have w13314 := rdA_fr (k := 9) (j := 0) gq28 cq30 t_p0 (κ' := 59) rfl rfl rfl
                            have w13315 := rdA_fr (k := 9) (j := 0) gq30 cs11 t_p0 (κ' := 59) rfl rfl rfl
                            have w13317 : rdA s11 p0 9 0 = mm_I s11 q17 ((0 : Int32)).toNatClampNeg := rdA_eq eq17
                            have w13316 : rdA s11 p0 9 0 = rdA q2.2 p0 9 0 := by rw [← es11]; exact rdA_k cq2 t_p0 (κ' := 59) rfl tq5 (by decide)
                            have w13318 := rdA_fr (k := 9) (j := 0) gq2 c0 t_p0 (κ' := 59) rfl rfl rfl
                            have w13320 := rdA_fr (k := 10) (j := 0) gq28 cq30 t_p0 (κ' := 60) rfl rfl rfl
                            have w13321 := rdA_fr (k := 10) (j := 0) gq30 cs11 t_p0 (κ' := 60) rfl rfl rfl
                            have w13322 : rdA s11 p0 10 0 = rdA q2.2 p0 10 0 := by rw [← es11]; exact rdA_j (by decide)
                            have w13324 : rdA q2.2 p0 10 0 = mm_I q2.2 q5 ((0 : Int32)).toNatClampNeg := rdA_eq eq5
                            have w13323 := rdA_fr (k := 10) (j := 0) gq2 c0 t_p0 (κ' := 60) rfl rfl rfl
                            have w13326 := rdA_fr (k := 10) (j := 1) gq28 cq30 t_p0 (κ' := 60) rfl rfl rfl
                            have w13327 := rdA_fr (k := 10) (j := 1) gq30 cs11 t_p0 (κ' := 60) rfl rfl rfl
                            have w13328 : rdA s11 p0 10 1 = -1 := by rw [← es11]; exact rdA_self eq5
                            have w13329 := rdA_fr (k := 9) (j := 1) gq28 cq30 t_p0 (κ' := 59) rfl rfl rfl
                            have w13330 := rdA_fr (k := 9) (j := 1) gq30 cs11 t_p0 (κ' := 59) rfl rfl rfl
                            have w13332 : rdA s11 p0 9 1 = mm_I s11 q17 ((1 : Int32)).toNatClampNeg := rdA_eq eq17
                            have w13331 : rdA s11 p0 9 1 = rdA q2.2 p0 9 1 := by rw [← es11]; exact rdA_k cq2 t_p0 (κ' := 59) rfl tq5 (by decide)
                            have w13333 := rdA_fr (k := 9) (j := 1) gq2 c0 t_p0 (κ' := 59) rfl rfl rfl
                            have w13337 : rdA q2.2 p0 10 1 = mm_I q2.2 q5 ((1 : Int32)).toNatClampNeg := rdA_eq eq5
                            have w13336 := rdA_fr (k := 10) (j := 1) gq2 c0 t_p0 (κ' := 60) rfl rfl rfl
                            have a13338 := zi_and p2 8 (by decide)
                            exact sw_some ⟨cq28, fq28, (by (try simp only [zp, zo, zq] at u11064 xq2 h11065 xq12 h11078 xq14 a11098 u11099 h11100 h11101 h11102 h12338 h12593 a12848 h12849 h13094 w13095 w13096 r13097 r13098 r13099 h13100 h13120 h13240 h13285 w13310 w13311 w13312 w13314 w13315 w13317 w13316 w13318 w13320 w13321 w13322 w13324 w13323 w13326 w13327 w13328 w13329 w13330 w13332 w13331 w13333 w13337 w13336 a13338 ⊢) <;> (try simp only [zz, Int32.reduceToInt, ne_eq] at u11064 xq2 h11065 xq12 h11078 xq14 a11098 u11099 h11100 h11101 h11102 h12338 h12593 a12848 h12849 h13094 w13095 w13096 r13097 r13098 r13099 h13100 h13120 h13240 h13285 w13310 w13311 w13312 w13314 w13315 w13317 w13316 w13318 w13320 w13321 w13322 w13324 w13323 w13326 w13327 w13328 w13329 w13330 w13332 w13331 w13333 w13337 w13336 a13338 ⊢) <;> (try simp (disch := omega) only [zb] at u11064 xq2 h11065 xq12 h11078 xq14 a11098 u11099 h11100 h11101 h11102 h12338 h12593 a12848 h12849 h13094 w13095 w13096 r13097 r13098 r13099 h13100 h13120 h13240 h13285 w13310 w13311 w13312 w13314 w13315 w13317 w13316 w13318 w13320 w13321 w13322 w13324 w13323 w13326 w13327 w13328 w13329 w13330 w13332 w13331 w13333 w13337 w13336 a13338 ⊢) <;> first | omega | ((try simp (disch := omega) only [zb] at u11064 xq2 h11065 xq12 h11078 xq14 a11098 u11099 h11100 h11101 h11102 h12338 h12593 a12848 h12849 h13094 w13095 w13096 r13097 r13098 r13099 h13100 h13120 h13240 h13285 w13310 w13311 w13312 w13314 w13315 w13317 w13316 w13318 w13320 w13321 w13322 w13324 w13323 w13326 w13327 w13328 w13329 w13330 w13332 w13331 w13333 w13337 w13336 a13338 ⊢) <;> omega))⟩
                  · refine sw_ite (fun h13339 => ?_) (fun h13339 => ?_)
                    · unfold fX9_pair_222
                      unfold fX9_pair_228
                      have w13340 : mm_I s11 q17 ((1 : Int32).toNatClampNeg) = mm_I q2.2 q17 ((1 : Int32).toNatClampNeg) := by rw [← es11]; exact rd_k tq17 tq5 (by decide)
                      have w13341 := (gq2.2.2 _ _ tq17 ((1 : Int32).toNatClampNeg) rfl).1
                      have r13342 := ci_rg c0 tq17 ((1 : Int32).toNatClampNeg) (lo := (-1)) (hi := 3) rfl
                      have r13343 := ci_rg cq2 tq17 ((1 : Int32).toNatClampNeg) (lo := (-1)) (hi := 3) rfl
                      have r13344 := ci_rg cs11 tq17 ((1 : Int32).toNatClampNeg) (lo := (-1)) (hi := 3) rfl
                      refine sw_ite (fun h13345 => ?_) (fun h13345 => ?_)
                      · have w13346 : mm_I s11 p0 0 = mm_I q2.2 p0 0 := by rw [← es11]; exact rd_k t_p0 tq5 (by decide)
                        have w13349 : rdA s11 p0 9 0 = mm_I s11 q17 ((0 : Int32)).toNatClampNeg := rdA_eq eq17
                        have w13348 : rdA s11 p0 9 0 = rdA q2.2 p0 9 0 := by rw [← es11]; exact rdA_k cq2 t_p0 (κ' := 59) rfl tq5 (by decide)
                        have w13350 := rdA_fr (k := 9) (j := 0) gq2 c0 t_p0 (κ' := 59) rfl rfl rfl
                        have w13352 : rdA s11 p0 10 0 = rdA q2.2 p0 10 0 := by rw [← es11]; exact rdA_j (by decide)
                        have w13354 : rdA q2.2 p0 10 0 = mm_I q2.2 q5 ((0 : Int32)).toNatClampNeg := rdA_eq eq5
                        have w13353 := rdA_fr (k := 10) (j := 0) gq2 c0 t_p0 (κ' := 60) rfl rfl rfl
                        have w13356 : rdA s11 p0 10 1 = -1 := by rw [← es11]; exact rdA_self eq5
                        have w13358 : rdA s11 p0 9 1 = mm_I s11 q17 ((1 : Int32)).toNatClampNeg := rdA_eq eq17
                        have w13357 : rdA s11 p0 9 1 = rdA q2.2 p0 9 1 := by rw [← es11]; exact rdA_k cq2 t_p0 (κ' := 59) rfl tq5 (by decide)
                        have w13359 := rdA_fr (k := 9) (j := 1) gq2 c0 t_p0 (κ' := 59) rfl rfl rfl
                        have w13363 : rdA q2.2 p0 10 1 = mm_I q2.2 q5 ((1 : Int32)).toNatClampNeg := rdA_eq eq5
                        have w13362 := rdA_fr (k := 10) (j := 1) gq2 c0 t_p0 (κ' := 60) rfl rfl rfl
                        have a13364 := zi_and p2 8 (by decide)
                        exact sw_some ⟨cs11, fs11, (by (try simp only [zp, zo, zq] at u11064 xq2 h11065 xq12 h11078 xq14 a11098 u11099 h11100 h11101 h11102 h12338 h12593 a12848 h12849 h13094 h13339 w13340 w13341 r13342 r13343 r13344 h13345 w13346 w13349 w13348 w13350 w13352 w13354 w13353 w13356 w13358 w13357 w13359 w13363 w13362 a13364 ⊢) <;> (try simp only [zz, Int32.reduceToInt, ne_eq] at u11064 xq2 h11065 xq12 h11078 xq14 a11098 u11099 h11100 h11101 h11102 h12338 h12593 a12848 h12849 h13094 h13339 w13340 w13341 r13342 r13343 r13344 h13345 w13346 w13349 w13348 w13350 w13352 w13354 w13353 w13356 w13358 w13357 w13359 w13363 w13362 a13364 ⊢) <;> (try simp (disch := omega) only [zb] at u11064 xq2 h11065 xq12 h11078 xq14 a11098 u11099 h11100 h11101 h11102 h12338 h12593 a12848 h12849 h13094 h13339 w13340 w13341 r13342 r13343 r13344 h13345 w13346 w13349 w13348 w13350 w13352 w13354 w13353 w13356 w13358 w13357 w13359 w13363 w13362 a13364 ⊢) <;> first | omega | ((try simp (disch := omega) only [zb] at u11064 xq2 h11065 xq12 h11078 xq14 a11098 u11099 h11100 h11101 h11102 h12338 h12593 a12848 h12849 h13094 h13339 w13340 w13341 r13342 r13343 r13344 h13345 w13346 w13349 w13348 w13350 w13352 w13354 w13353 w13356 w13358 w13357 w13359 w13363 w13362 a13364 ⊢) <;> omega))⟩
                      · refine sw_ite (fun h13365 => ?_) (fun h13365 => ?_)
                        · refine sw_ite (fun h13366 => ?_) (fun h13366 => ?_)
                          · have w13367 : mm_I s11 p0 0 = mm_I q2.2 p0 0 := by rw [← es11]; exact rd_k t_p0 tq5 (by decide)
                            have w13370 : rdA s11 p0 9 0 = mm_I s11 q17 ((0 : Int32)).toNatClampNeg := rdA_eq eq17
                            have w13369 : rdA s11 p0 9 0 = rdA q2.2 p0 9 0 := by rw [← es11]; exact rdA_k cq2 t_p0 (κ' := 59) rfl tq5 (by decide)
                            have w13371 := rdA_fr (k := 9) (j := 0) gq2 c0 t_p0 (κ' := 59) rfl rfl rfl
                            have w13373 : rdA s11 p0 10 0 = rdA q2.2 p0 10 0 := by rw [← es11]; exact rdA_j (by decide)
                            have w13375 : rdA q2.2 p0 10 0 = mm_I q2.2 q5 ((0 : Int32)).toNatClampNeg := rdA_eq eq5
                            have w13374 := rdA_fr (k := 10) (j := 0) gq2 c0 t_p0 (κ' := 60) rfl rfl rfl
                            have w13377 : rdA s11 p0 10 1 = -1 := by rw [← es11]; exact rdA_self eq5
                            have w13379 : rdA s11 p0 9 1 = mm_I s11 q17 ((1 : Int32)).toNatClampNeg := rdA_eq eq17
                            have w13378 : rdA s11 p0 9 1 = rdA q2.2 p0 9 1 := by rw [← es11]; exact rdA_k cq2 t_p0 (κ' := 59) rfl tq5 (by decide)
                            have w13380 := rdA_fr (k := 9) (j := 1) gq2 c0 t_p0 (κ' := 59) rfl rfl rfl
                            have w13384 : rdA q2.2 p0 10 1 = mm_I q2.2 q5 ((1 : Int32)).toNatClampNeg := rdA_eq eq5
                            have w13383 := rdA_fr (k := 10) (j := 1) gq2 c0 t_p0 (κ' := 60) rfl rfl rfl
                            have a13385 := zi_and p2 8 (by decide)
                            exact sw_some ⟨cs11, fs11, (by (try simp only [zp, zo, zq] at u11064 xq2 h11065 xq12 h11078 xq14 a11098 u11099 h11100 h11101 h11102 h12338 h12593 a12848 h12849 h13094 h13339 w13340 w13341 r13342 r13343 r13344 h13345 h13365 h13366 w13367 w13370 w13369 w13371 w13373 w13375 w13374 w13377 w13379 w13378 w13380 w13384 w13383 a13385 ⊢) <;> (try simp only [zz, Int32.reduceToInt, ne_eq] at u11064 xq2 h11065 xq12 h11078 xq14 a11098 u11099 h11100 h11101 h11102 h12338 h12593 a12848 h12849 h13094 h13339 w13340 w13341 r13342 r13343 r13344 h13345 h13365 h13366 w13367 w13370 w13369 w13371 w13373 w13375 w13374 w13377 w13379 w13378 w13380 w13384 w13383 a13385 ⊢) <;> (try simp (disch := omega) only [zb] at u11064 xq2 h11065 xq12 h11078 xq14 a11098 u11099 h11100 h11101 h11102 h12338 h12593 a12848 h12849 h13094 h13339 w13340 w13341 r13342 r13343 r13344 h13345 h13365 h13366 w13367 w13370 w13369 w13371 w13373 w13375 w13374 w13377 w13379 w13378 w13380 w13384 w13383 a13385 ⊢) <;> first | omega | ((try simp (disch := omega) only [zb] at u11064 xq2 h11065 xq12 h11078 xq14 a11098 u11099 h11100 h11101 h11102 h12338 h12593 a12848 h12849 h13094 h13339 w13340 w13341 r13342 r13343 r13344 h13345 h13365 h13366 w13367 w13370 w13369 w13371 w13373 w13375 w13374 w13377 w13379 w13378 w13380 w13384 w13383 a13385 ⊢) <;> omega))⟩
                          · unfold fX9_pair_250
                            refine sw_ite (fun h13386 => ?_) (fun h13386 => ?_)
                            · unfold fX9_pair_264
                              refine sw_ite (fun h13387 => ?_) (fun h13387 => ?_)
                              · have w13388 : mm_I s11 p0 0 = mm_I q2.2 p0 0 := by rw [← es11]; exact rd_k t_p0 tq5 (by decide)
                                have w13391 : rdA s11 p0 9 0 = mm_I s11 q17 ((0 : Int32)).toNatClampNeg := rdA_eq eq17
                                have w13390 : rdA s11 p0 9 0 = rdA q2.2 p0 9 0 := by rw [← es11]; exact rdA_k cq2 t_p0 (κ' := 59) rfl tq5 (by decide)
                                have w13392 := rdA_fr (k := 9) (j := 0) gq2 c0 t_p0 (κ' := 59) rfl rfl rfl
                                have w13394 : rdA s11 p0 10 0 = rdA q2.2 p0 10 0 := by rw [← es11]; exact rdA_j (by decide)
                                have w13396 : rdA q2.2 p0 10 0 = mm_I q2.2 q5 ((0 : Int32)).toNatClampNeg := rdA_eq eq5
                                have w13395 := rdA_fr (k := 10) (j := 0) gq2 c0 t_p0 (κ' := 60) rfl rfl rfl
                                have w13398 : rdA s11 p0 10 1 = -1 := by rw [← es11]; exact rdA_self eq5
                                have w13400 : rdA s11 p0 9 1 = mm_I s11 q17 ((1 : Int32)).toNatClampNeg := rdA_eq eq17
                                have w13399 : rdA s11 p0 9 1 = rdA q2.2 p0 9 1 := by rw [← es11]; exact rdA_k cq2 t_p0 (κ' := 59) rfl tq5 (by decide)
                                have w13401 := rdA_fr (k := 9) (j := 1) gq2 c0 t_p0 (κ' := 59) rfl rfl rfl
                                have w13405 : rdA q2.2 p0 10 1 = mm_I q2.2 q5 ((1 : Int32)).toNatClampNeg := rdA_eq eq5
                                have w13404 := rdA_fr (k := 10) (j := 1) gq2 c0 t_p0 (κ' := 60) rfl rfl rfl
                                have a13406 := zi_and p2 8 (by decide)
                                exact sw_some ⟨cs11, fs11, (by (try simp only [zp, zo, zq] at u11064 xq2 h11065 xq12 h11078 xq14 a11098 u11099 h11100 h11101 h11102 h12338 h12593 a12848 h12849 h13094 h13339 w13340 w13341 r13342 r13343 r13344 h13345 h13365 h13366 h13386 h13387 w13388 w13391 w13390 w13392 w13394 w13396 w13395 w13398 w13400 w13399 w13401 w13405 w13404 a13406 ⊢) <;> (try simp only [zz, Int32.reduceToInt, ne_eq] at u11064 xq2 h11065 xq12 h11078 xq14 a11098 u11099 h11100 h11101 h11102 h12338 h12593 a12848 h12849 h13094 h13339 w13340 w13341 r13342 r13343 r13344 h13345 h13365 h13366 h13386 h13387 w13388 w13391 w13390 w13392 w13394 w13396 w13395 w13398 w13400 w13399 w13401 w13405 w13404 a13406 ⊢) <;> (try simp (disch := omega) only [zb] at u11064 xq2 h11065 xq12 h11078 xq14 a11098 u11099 h11100 h11101 h11102 h12338 h12593 a12848 h12849 h13094 h13339 w13340 w13341 r13342 r13343 r13344 h13345 h13365 h13366 h13386 h13387 w13388 w13391 w13390 w13392 w13394 w13396 w13395 w13398 w13400 w13399 w13401 w13405 w13404 a13406 ⊢) <;> first | omega | ((try simp (disch := omega) only [zb] at u11064 xq2 h11065 xq12 h11078 xq14 a11098 u11099 h11100 h11101 h11102 h12338 h12593 a12848 h12849 h13094 h13339 w13340 w13341 r13342 r13343 r13344 h13345 h13365 h13366 h13386 h13387 w13388 w13391 w13390 w13392 w13394 w13396 w13395 w13398 w13400 w13399 w13401 w13405 w13404 a13406 ⊢) <;> omega))⟩
                              · refine sw_sh (ci_sh cs11 t_p0 rfl) ?_
                                refine sw_on (sX9_put cs11 t_p0 (by (try simp only [zp, zo, zq] at u11064 xq2 h11065 xq12 h11078 xq14 a11098 u11099 h11100 h11101 h11102 h12338 h12593 a12848 h12849 h13094 h13339 w13340 w13341 r13342 r13343 r13344 h13345 h13365 h13366 h13386 h13387 ⊢) <;> (try simp only [zz, Int32.reduceToInt, ne_eq] at u11064 xq2 h11065 xq12 h11078 xq14 a11098 u11099 h11100 h11101 h11102 h12338 h12593 a12848 h12849 h13094 h13339 w13340 w13341 r13342 r13343 r13344 h13345 h13365 h13366 h13386 h13387 ⊢) <;> (try simp (disch := omega) only [zb] at u11064 xq2 h11065 xq12 h11078 xq14 a11098 u11099 h11100 h11101 h11102 h12338 h12593 a12848 h12849 h13094 h13339 w13340 w13341 r13342 r13343 r13344 h13345 h13365 h13366 h13386 h13387 ⊢) <;> first | omega | ((try simp (disch := omega) only [zb] at u11064 xq2 h11065 xq12 h11078 xq14 a11098 u11099 h11100 h11101 h11102 h12338 h12593 a12848 h12849 h13094 h13339 w13340 w13341 r13342 r13343 r13344 h13345 h13365 h13366 h13386 h13387 ⊢) <;> omega)) ) ?_
                                intro q28 hqq28
                                obtain ⟨cq28, gq28, xq28⟩ := hqq28
                                have fq28 := fr_trans fs11 gq28 rfl
                                have w13407 := (gq28.2.2 _ _ t_p0 0 rfl).1
                                have w13408 : mm_I s11 p0 0 = mm_I q2.2 p0 0 := by rw [← es11]; exact rd_k t_p0 tq5 (by decide)
                                have w13410 := rdA_fr (k := 9) (j := 0) gq28 cs11 t_p0 (κ' := 59) rfl rfl rfl
                                have w13412 : rdA s11 p0 9 0 = mm_I s11 q17 ((0 : Int32)).toNatClampNeg := rdA_eq eq17
                                have w13411 : rdA s11 p0 9 0 = rdA q2.2 p0 9 0 := by rw [← es11]; exact rdA_k cq2 t_p0 (κ' := 59) rfl tq5 (by decide)
                                have w13413 := rdA_fr (k := 9) (j := 0) gq2 c0 t_p0 (κ' := 59) rfl rfl rfl
                                have w13415 := rdA_fr (k := 10) (j := 0) gq28 cs11 t_p0 (κ' := 60) rfl rfl rfl
                                have w13416 : rdA s11 p0 10 0 = rdA q2.2 p0 10 0 := by rw [← es11]; exact rdA_j (by decide)
                                have w13418 : rdA q2.2 p0 10 0 = mm_I q2.2 q5 ((0 : Int32)).toNatClampNeg := rdA_eq eq5
                                have w13417 := rdA_fr (k := 10) (j := 0) gq2 c0 t_p0 (κ' := 60) rfl rfl rfl
                                have w13420 := rdA_fr (k := 10) (j := 1) gq28 cs11 t_p0 (κ' := 60) rfl rfl rfl
                                have w13421 : rdA s11 p0 10 1 = -1 := by rw [← es11]; exact rdA_self eq5
                                have w13422 := rdA_fr (k := 9) (j := 1) gq28 cs11 t_p0 (κ' := 59) rfl rfl rfl
                                have w13424 : rdA s11 p0 9 1 = mm_I s11 q17 ((1 : Int32)).toNatClampNeg := rdA_eq eq17
                                have w13423 : rdA s11 p0 9 1 = rdA q2.2 p0 9 1 := by rw [← es11]; exact rdA_k cq2 t_p0 (κ' := 59) rfl tq5 (by decide)
                                have w13425 := rdA_fr (k := 9) (j := 1) gq2 c0 t_p0 (κ' := 59) rfl rfl rfl
                                have w13429 : rdA q2.2 p0 10 1 = mm_I q2.2 q5 ((1 : Int32)).toNatClampNeg := rdA_eq eq5
                                have w13428 := rdA_fr (k := 10) (j := 1) gq2 c0 t_p0 (κ' := 60) rfl rfl rfl
                                have a13430 := zi_and p2 8 (by decide)
                                exact sw_some ⟨cq28, fq28, (by (try simp only [zp, zo, zq] at u11064 xq2 h11065 xq12 h11078 xq14 a11098 u11099 h11100 h11101 h11102 h12338 h12593 a12848 h12849 h13094 h13339 w13340 w13341 r13342 r13343 r13344 h13345 h13365 h13366 h13386 h13387 w13407 w13408 w13410 w13412 w13411 w13413 w13415 w13416 w13418 w13417 w13420 w13421 w13422 w13424 w13423 w13425 w13429 w13428 a13430 ⊢) <;> (try simp only [zz, Int32.reduceToInt, ne_eq] at u11064 xq2 h11065 xq12 h11078 xq14 a11098 u11099 h11100 h11101 h11102 h12338 h12593 a12848 h12849 h13094 h13339 w13340 w13341 r13342 r13343 r13344 h13345 h13365 h13366 h13386 h13387 w13407 w13408 w13410 w13412 w13411 w13413 w13415 w13416 w13418 w13417 w13420 w13421 w13422 w13424 w13423 w13425 w13429 w13428 a13430 ⊢) <;> (try simp (disch := omega) only [zb] at u11064 xq2 h11065 xq12 h11078 xq14 a11098 u11099 h11100 h11101 h11102 h12338 h12593 a12848 h12849 h13094 h13339 w13340 w13341 r13342 r13343 r13344 h13345 h13365 h13366 h13386 h13387 w13407 w13408 w13410 w13412 w13411 w13413 w13415 w13416 w13418 w13417 w13420 w13421 w13422 w13424 w13423 w13425 w13429 w13428 a13430 ⊢) <;> first | omega | ((try simp (disch := omega) only [zb] at u11064 xq2 h11065 xq12 h11078 xq14 a11098 u11099 h11100 h11101 h11102 h12338 h12593 a12848 h12849 h13094 h13339 w13340 w13341 r13342 r13343 r13344 h13345 h13365 h13366 h13386 h13387 w13407 w13408 w13410 w13412 w13411 w13413 w13415 w13416 w13418 w13417 w13420 w13421 w13422 w13424 w13423 w13425 w13429 w13428 a13430 ⊢) <;> omega))⟩
                            · refine sw_sh (ci_sh cs11 t_p0 rfl) ?_
                              refine sw_on (sX9_put cs11 t_p0 (by (try simp only [zp, zo, zq] at u11064 xq2 h11065 xq12 h11078 xq14 a11098 u11099 h11100 h11101 h11102 h12338 h12593 a12848 h12849 h13094 h13339 w13340 w13341 r13342 r13343 r13344 h13345 h13365 h13366 h13386 ⊢) <;> (try simp only [zz, Int32.reduceToInt, ne_eq] at u11064 xq2 h11065 xq12 h11078 xq14 a11098 u11099 h11100 h11101 h11102 h12338 h12593 a12848 h12849 h13094 h13339 w13340 w13341 r13342 r13343 r13344 h13345 h13365 h13366 h13386 ⊢) <;> (try simp (disch := omega) only [zb] at u11064 xq2 h11065 xq12 h11078 xq14 a11098 u11099 h11100 h11101 h11102 h12338 h12593 a12848 h12849 h13094 h13339 w13340 w13341 r13342 r13343 r13344 h13345 h13365 h13366 h13386 ⊢) <;> first | omega | ((try simp (disch := omega) only [zb] at u11064 xq2 h11065 xq12 h11078 xq14 a11098 u11099 h11100 h11101 h11102 h12338 h12593 a12848 h12849 h13094 h13339 w13340 w13341 r13342 r13343 r13344 h13345 h13365 h13366 h13386 ⊢) <;> omega)) ) ?_
                              intro q30 hqq30
                              obtain ⟨cq30, gq30, xq30⟩ := hqq30
                              have fq30 := fr_trans fs11 gq30 rfl
                              unfold fX9_pair_264
                              refine sw_ite (fun h13431 => ?_) (fun h13431 => ?_)
                              · have w13432 := (gq30.2.2 _ _ t_p0 0 rfl).1
                                have w13433 : mm_I s11 p0 0 = mm_I q2.2 p0 0 := by rw [← es11]; exact rd_k t_p0 tq5 (by decide)
                                have w13435 := rdA_fr (k := 9) (j := 0) gq30 cs11 t_p0 (κ' := 59) rfl rfl rfl
                                have w13437 : rdA s11 p0 9 0 = mm_I s11 q17 ((0 : Int32)).toNatClampNeg := rdA_eq eq17
                                have w13436 : rdA s11 p0 9 0 = rdA q2.2 p0 9 0 := by rw [← es11]; exact rdA_k cq2 t_p0 (κ' := 59) rfl tq5 (by decide)
                                have w13438 := rdA_fr (k := 9) (j := 0) gq2 c0 t_p0 (κ' := 59) rfl rfl rfl
                                have w13440 := rdA_fr (k := 10) (j := 0) gq30 cs11 t_p0 (κ' := 60) rfl rfl rfl
                                have w13441 : rdA s11 p0 10 0 = rdA q2.2 p0 10 0 := by rw [← es11]; exact rdA_j (by decide)
                                have w13443 : rdA q2.2 p0 10 0 = mm_I q2.2 q5 ((0 : Int32)).toNatClampNeg := rdA_eq eq5
                                have w13442 := rdA_fr (k := 10) (j := 0) gq2 c0 t_p0 (κ' := 60) rfl rfl rfl
                                have w13445 := rdA_fr (k := 10) (j := 1) gq30 cs11 t_p0 (κ' := 60) rfl rfl rfl
                                have w13446 : rdA s11 p0 10 1 = -1 := by rw [← es11]; exact rdA_self eq5
                                have w13447 := rdA_fr (k := 9) (j := 1) gq30 cs11 t_p0 (κ' := 59) rfl rfl rfl
                                have w13449 : rdA s11 p0 9 1 = mm_I s11 q17 ((1 : Int32)).toNatClampNeg := rdA_eq eq17
                                have w13448 : rdA s11 p0 9 1 = rdA q2.2 p0 9 1 := by rw [← es11]; exact rdA_k cq2 t_p0 (κ' := 59) rfl tq5 (by decide)
                                have w13450 := rdA_fr (k := 9) (j := 1) gq2 c0 t_p0 (κ' := 59) rfl rfl rfl
                                have w13454 : rdA q2.2 p0 10 1 = mm_I q2.2 q5 ((1 : Int32)).toNatClampNeg := rdA_eq eq5
                                have w13453 := rdA_fr (k := 10) (j := 1) gq2 c0 t_p0 (κ' := 60) rfl rfl rfl
                                have a13455 := zi_and p2 8 (by decide)
                                exact sw_some ⟨cq30, fq30, (by (try simp only [zp, zo, zq] at u11064 xq2 h11065 xq12 h11078 xq14 a11098 u11099 h11100 h11101 h11102 h12338 h12593 a12848 h12849 h13094 h13339 w13340 w13341 r13342 r13343 r13344 h13345 h13365 h13366 h13386 h13431 w13432 w13433 w13435 w13437 w13436 w13438 w13440 w13441 w13443 w13442 w13445 w13446 w13447 w13449 w13448 w13450 w13454 w13453 a13455 ⊢) <;> (try simp only [zz, Int32.reduceToInt, ne_eq] at u11064 xq2 h11065 xq12 h11078 xq14 a11098 u11099 h11100 h11101 h11102 h12338 h12593 a12848 h12849 h13094 h13339 w13340 w13341 r13342 r13343 r13344 h13345 h13365 h13366 h13386 h13431 w13432 w13433 w13435 w13437 w13436 w13438 w13440 w13441 w13443 w13442 w13445 w13446 w13447 w13449 w13448 w13450 w13454 w13453 a13455 ⊢) <;> (try simp (disch := omega) only [zb] at u11064 xq2 h11065 xq12 h11078 xq14 a11098 u11099 h11100 h11101 h11102 h12338 h12593 a12848 h12849 h13094 h13339 w13340 w13341 r13342 r13343 r13344 h13345 h13365 h13366 h13386 h13431 w13432 w13433 w13435 w13437 w13436 w13438 w13440 w13441 w13443 w13442 w13445 w13446 w13447 w13449 w13448 w13450 w13454 w13453 a13455 ⊢) <;> first | omega | ((try simp (disch := omega) only [zb] at u11064 xq2 h11065 xq12 h11078 xq14 a11098 u11099 h11100 h11101 h11102 h12338 h12593 a12848 h12849 h13094 h13339 w13340 w13341 r13342 r13343 r13344 h13345 h13365 h13366 h13386 h13431 w13432 w13433 w13435 w13437 w13436 w13438 w13440 w13441 w13443 w13442 w13445 w13446 w13447 w13449 w13448 w13450 w13454 w13453 a13455 ⊢) <;> omega))⟩
                              · refine sw_sh (ci_sh cq30 t_p0 rfl) ?_
                                refine sw_on (sX9_put cq30 t_p0 (by (try simp only [zp, zo, zq] at u11064 xq2 h11065 xq12 h11078 xq14 a11098 u11099 h11100 h11101 h11102 h12338 h12593 a12848 h12849 h13094 h13339 w13340 w13341 r13342 r13343 r13344 h13345 h13365 h13366 h13386 h13431 ⊢) <;> (try simp only [zz, Int32.reduceToInt, ne_eq] at u11064 xq2 h11065 xq12 h11078 xq14 a11098 u11099 h11100 h11101 h11102 h12338 h12593 a12848 h12849 h13094 h13339 w13340 w13341 r13342 r13343 r13344 h13345 h13365 h13366 h13386 h13431 ⊢) <;> (try simp (disch := omega) only [zb] at u11064 xq2 h11065 xq12 h11078 xq14 a11098 u11099 h11100 h11101 h11102 h12338 h12593 a12848 h12849 h13094 h13339 w13340 w13341 r13342 r13343 r13344 h13345 h13365 h13366 h13386 h13431 ⊢) <;> first | omega | ((try simp (disch := omega) only [zb] at u11064 xq2 h11065 xq12 h11078 xq14 a11098 u11099 h11100 h11101 h11102 h12338 h12593 a12848 h12849 h13094 h13339 w13340 w13341 r13342 r13343 r13344 h13345 h13365 h13366 h13386 h13431 ⊢) <;> omega)) ) ?_
                                intro q28 hqq28
                                obtain ⟨cq28, gq28, xq28⟩ := hqq28
                                have fq28 := fr_trans fq30 gq28 rfl
                                have w13456 := (gq28.2.2 _ _ t_p0 0 rfl).1
                                have w13457 := (gq30.2.2 _ _ t_p0 0 rfl).1
                                have w13458 : mm_I s11 p0 0 = mm_I q2.2 p0 0 := by rw [← es11]; exact rd_k t_p0 tq5 (by decide)
                                have w13460 := rdA_fr (k := 9) (j := 0) gq28 cq30 t_p0 (κ' := 59) rfl rfl rfl
                                have w13461 := rdA_fr (k := 9) (j := 0) gq30 cs11 t_p0 (κ' := 59) rfl rfl rfl
                                have w13463 : rdA s11 p0 9 0 = mm_I s11 q17 ((0 : Int32)).toNatClampNeg := rdA_eq eq17
                                have w13462 : rdA s11 p0 9 0 = rdA q2.2 p0 9 0 := by rw [← es11]; exact rdA_k cq2 t_p0 (κ' := 59) rfl tq5 (by decide)
                                have w13464 := rdA_fr (k := 9) (j := 0) gq2 c0 t_p0 (κ' := 59) rfl rfl rfl
                                have w13466 := rdA_fr (k := 10) (j := 0) gq28 cq30 t_p0 (κ' := 60) rfl rfl rfl
                                have w13467 := rdA_fr (k := 10) (j := 0) gq30 cs11 t_p0 (κ' := 60) rfl rfl rfl
                                have w13468 : rdA s11 p0 10 0 = rdA q2.2 p0 10 0 := by rw [← es11]; exact rdA_j (by decide)
                                have w13470 : rdA q2.2 p0 10 0 = mm_I q2.2 q5 ((0 : Int32)).toNatClampNeg := rdA_eq eq5
                                have w13469 := rdA_fr (k := 10) (j := 0) gq2 c0 t_p0 (κ' := 60) rfl rfl rfl
                                have w13472 := rdA_fr (k := 10) (j := 1) gq28 cq30 t_p0 (κ' := 60) rfl rfl rfl
                                have w13473 := rdA_fr (k := 10) (j := 1) gq30 cs11 t_p0 (κ' := 60) rfl rfl rfl
                                have w13474 : rdA s11 p0 10 1 = -1 := by rw [← es11]; exact rdA_self eq5
                                have w13475 := rdA_fr (k := 9) (j := 1) gq28 cq30 t_p0 (κ' := 59) rfl rfl rfl
                                have w13476 := rdA_fr (k := 9) (j := 1) gq30 cs11 t_p0 (κ' := 59) rfl rfl rfl
                                have w13478 : rdA s11 p0 9 1 = mm_I s11 q17 ((1 : Int32)).toNatClampNeg := rdA_eq eq17
                                have w13477 : rdA s11 p0 9 1 = rdA q2.2 p0 9 1 := by rw [← es11]; exact rdA_k cq2 t_p0 (κ' := 59) rfl tq5 (by decide)
                                have w13479 := rdA_fr (k := 9) (j := 1) gq2 c0 t_p0 (κ' := 59) rfl rfl rfl
                                have w13483 : rdA q2.2 p0 10 1 = mm_I q2.2 q5 ((1 : Int32)).toNatClampNeg := rdA_eq eq5
                                have w13482 := rdA_fr (k := 10) (j := 1) gq2 c0 t_p0 (κ' := 60) rfl rfl rfl
                                have a13484 := zi_and p2 8 (by decide)
                                exact sw_some ⟨cq28, fq28, (by (try simp only [zp, zo, zq] at u11064 xq2 h11065 xq12 h11078 xq14 a11098 u11099 h11100 h11101 h11102 h12338 h12593 a12848 h12849 h13094 h13339 w13340 w13341 r13342 r13343 r13344 h13345 h13365 h13366 h13386 h13431 w13456 w13457 w13458 w13460 w13461 w13463 w13462 w13464 w13466 w13467 w13468 w13470 w13469 w13472 w13473 w13474 w13475 w13476 w13478 w13477 w13479 w13483 w13482 a13484 ⊢) <;> (try simp only [zz, Int32.reduceToInt, ne_eq] at u11064 xq2 h11065 xq12 h11078 xq14 a11098 u11099 h11100 h11101 h11102 h12338 h12593 a12848 h12849 h13094 h13339 w13340 w13341 r13342 r13343 r13344 h13345 h13365 h13366 h13386 h13431 w13456 w13457 w13458 w13460 w13461 w13463 w13462 w13464 w13466 w13467 w13468 w13470 w13469 w13472 w13473 w13474 w13475 w13476 w13478 w13477 w13479 w13483 w13482 a13484 ⊢) <;> (try simp (disch := omega) only [zb] at u11064 xq2 h11065 xq12 h11078 xq14 a11098 u11099 h11100 h11101 h11102 h12338 h12593 a12848 h12849 h13094 h13339 w13340 w13341 r13342 r13343 r13344 h13345 h13365 h13366 h13386 h13431 w13456 w13457 w13458 w13460 w13461 w13463 w13462 w13464 w13466 w13467 w13468 w13470 w13469 w13472 w13473 w13474 w13475 w13476 w13478 w13477 w13479 w13483 w13482 a13484 ⊢) <;> first | omega | ((try simp (disch := omega) only [zb] at u11064 xq2 h11065 xq12 h11078 xq14 a11098 u11099 h11100 h11101 h11102 h12338 h12593 a12848 h12849 h13094 h13339 w13340 w13341 r13342 r13343 r13344 h13345 h13365 h13366 h13386 h13431 w13456 w13457 w13458 w13460 w13461 w13463 w13462 w13464 w13466 w13467 w13468 w13470 w13469 w13472 w13473 w13474 w13475 w13476 w13478 w13477 w13479 w13483 w13482 a13484 ⊢) <;> omega))⟩
                        · unfold fX9_pair_250
                          refine sw_ite (fun h13485 => ?_) (fun h13485 => ?_)
                          · unfold fX9_pair_264
                            refine sw_ite (fun h13486 => ?_) (fun h13486 => ?_)
                            · have w13487 : mm_I s11 p0 0 = mm_I q2.2 p0 0 := by rw [← es11]; exact rd_k t_p0 tq5 (by decide)
                              have w13490 : rdA s11 p0 9 0 = mm_I s11 q17 ((0 : Int32)).toNatClampNeg := rdA_eq eq17
                              have w13489 : rdA s11 p0 9 0 = rdA q2.2 p0 9 0 := by rw [← es11]; exact rdA_k cq2 t_p0 (κ' := 59) rfl tq5 (by decide)
                              have w13491 := rdA_fr (k := 9) (j := 0) gq2 c0 t_p0 (κ' := 59) rfl rfl rfl
                              have w13493 : rdA s11 p0 10 0 = rdA q2.2 p0 10 0 := by rw [← es11]; exact rdA_j (by decide)
                              have w13495 : rdA q2.2 p0 10 0 = mm_I q2.2 q5 ((0 : Int32)).toNatClampNeg := rdA_eq eq5
                              have w13494 := rdA_fr (k := 10) (j := 0) gq2 c0 t_p0 (κ' := 60) rfl rfl rfl
                              have w13497 : rdA s11 p0 10 1 = -1 := by rw [← es11]; exact rdA_self eq5
                              have w13499 : rdA s11 p0 9 1 = mm_I s11 q17 ((1 : Int32)).toNatClampNeg := rdA_eq eq17
                              have w13498 : rdA s11 p0 9 1 = rdA q2.2 p0 9 1 := by rw [← es11]; exact rdA_k cq2 t_p0 (κ' := 59) rfl tq5 (by decide)
                              have w13500 := rdA_fr (k := 9) (j := 1) gq2 c0 t_p0 (κ' := 59) rfl rfl rfl
                              have w13504 : rdA q2.2 p0 10 1 = mm_I q2.2 q5 ((1 : Int32)).toNatClampNeg := rdA_eq eq5
                              have w13503 := rdA_fr (k := 10) (j := 1) gq2 c0 t_p0 (κ' := 60) rfl rfl rfl
                              have a13505 := zi_and p2 8 (by decide)
                              exact sw_some ⟨cs11, fs11, (by (try simp only [zp, zo, zq] at u11064 xq2 h11065 xq12 h11078 xq14 a11098 u11099 h11100 h11101 h11102 h12338 h12593 a12848 h12849 h13094 h13339 w13340 w13341 r13342 r13343 r13344 h13345 h13365 h13485 h13486 w13487 w13490 w13489 w13491 w13493 w13495 w13494 w13497 w13499 w13498 w13500 w13504 w13503 a13505 ⊢) <;> (try simp only [zz, Int32.reduceToInt, ne_eq] at u11064 xq2 h11065 xq12 h11078 xq14 a11098 u11099 h11100 h11101 h11102 h12338 h12593 a12848 h12849 h13094 h13339 w13340 w13341 r13342 r13343 r13344 h13345 h13365 h13485 h13486 w13487 w13490 w13489 w13491 w13493 w13495 w13494 w13497 w13499 w13498 w13500 w13504 w13503 a13505 ⊢) <;> (try simp (disch := omega) only [zb] at u11064 xq2 h11065 xq12 h11078 xq14 a11098 u11099 h11100 h11101 h11102 h12338 h12593 a12848 h12849 h13094 h13339 w13340 w13341 r13342 r13343 r13344 h13345 h13365 h13485 h13486 w13487 w13490 w13489 w13491 w13493 w13495 w13494 w13497 w13499 w13498 w13500 w13504 w13503 a13505 ⊢) <;> first | omega | ((try simp (disch := omega) only [zb] at u11064 xq2 h11065 xq12 h11078 xq14 a11098 u11099 h11100 h11101 h11102 h12338 h12593 a12848 h12849 h13094 h13339 w13340 w13341 r13342 r13343 r13344 h13345 h13365 h13485 h13486 w13487 w13490 w13489 w13491 w13493 w13495 w13494 w13497 w13499 w13498 w13500 w13504 w13503 a13505 ⊢) <;> omega))⟩
                            · refine sw_sh (ci_sh cs11 t_p0 rfl) ?_
                              refine sw_on (sX9_put cs11 t_p0 (by (try simp only [zp, zo, zq] at u11064 xq2 h11065 xq12 h11078 xq14 a11098 u11099 h11100 h11101 h11102 h12338 h12593 a12848 h12849 h13094 h13339 w13340 w13341 r13342 r13343 r13344 h13345 h13365 h13485 h13486 ⊢) <;> (try simp only [zz, Int32.reduceToInt, ne_eq] at u11064 xq2 h11065 xq12 h11078 xq14 a11098 u11099 h11100 h11101 h11102 h12338 h12593 a12848 h12849 h13094 h13339 w13340 w13341 r13342 r13343 r13344 h13345 h13365 h13485 h13486 ⊢) <;> (try simp (disch := omega) only [zb] at u11064 xq2 h11065 xq12 h11078 xq14 a11098 u11099 h11100 h11101 h11102 h12338 h12593 a12848 h12849 h13094 h13339 w13340 w13341 r13342 r13343 r13344 h13345 h13365 h13485 h13486 ⊢) <;> first | omega | ((try simp (disch := omega) only [zb] at u11064 xq2 h11065 xq12 h11078 xq14 a11098 u11099 h11100 h11101 h11102 h12338 h12593 a12848 h12849 h13094 h13339 w13340 w13341 r13342 r13343 r13344 h13345 h13365 h13485 h13486 ⊢) <;> omega)) ) ?_
                              intro q28 hqq28
                              obtain ⟨cq28, gq28, xq28⟩ := hqq28
                              have fq28 := fr_trans fs11 gq28 rfl
                              have w13506 := (gq28.2.2 _ _ t_p0 0 rfl).1
                              have w13507 : mm_I s11 p0 0 = mm_I q2.2 p0 0 := by rw [← es11]; exact rd_k t_p0 tq5 (by decide)
                              have w13509 := rdA_fr (k := 9) (j := 0) gq28 cs11 t_p0 (κ' := 59) rfl rfl rfl
                              have w13511 : rdA s11 p0 9 0 = mm_I s11 q17 ((0 : Int32)).toNatClampNeg := rdA_eq eq17
                              have w13510 : rdA s11 p0 9 0 = rdA q2.2 p0 9 0 := by rw [← es11]; exact rdA_k cq2 t_p0 (κ' := 59) rfl tq5 (by decide)
                              have w13512 := rdA_fr (k := 9) (j := 0) gq2 c0 t_p0 (κ' := 59) rfl rfl rfl
                              have w13514 := rdA_fr (k := 10) (j := 0) gq28 cs11 t_p0 (κ' := 60) rfl rfl rfl
                              have w13515 : rdA s11 p0 10 0 = rdA q2.2 p0 10 0 := by rw [← es11]; exact rdA_j (by decide)
                              have w13517 : rdA q2.2 p0 10 0 = mm_I q2.2 q5 ((0 : Int32)).toNatClampNeg := rdA_eq eq5
                              have w13516 := rdA_fr (k := 10) (j := 0) gq2 c0 t_p0 (κ' := 60) rfl rfl rfl
                              have w13519 := rdA_fr (k := 10) (j := 1) gq28 cs11 t_p0 (κ' := 60) rfl rfl rfl
                              have w13520 : rdA s11 p0 10 1 = -1 := by rw [← es11]; exact rdA_self eq5
                              have w13521 := rdA_fr (k := 9) (j := 1) gq28 cs11 t_p0 (κ' := 59) rfl rfl rfl
                              have w13523 : rdA s11 p0 9 1 = mm_I s11 q17 ((1 : Int32)).toNatClampNeg := rdA_eq eq17
                              have w13522 : rdA s11 p0 9 1 = rdA q2.2 p0 9 1 := by rw [← es11]; exact rdA_k cq2 t_p0 (κ' := 59) rfl tq5 (by decide)
                              have w13524 := rdA_fr (k := 9) (j := 1) gq2 c0 t_p0 (κ' := 59) rfl rfl rfl
                              have w13528 : rdA q2.2 p0 10 1 = mm_I q2.2 q5 ((1 : Int32)).toNatClampNeg := rdA_eq eq5
                              have w13527 := rdA_fr (k := 10) (j := 1) gq2 c0 t_p0 (κ' := 60) rfl rfl rfl
                              have a13529 := zi_and p2 8 (by decide)
                              exact sw_some ⟨cq28, fq28, (by (try simp only [zp, zo, zq] at u11064 xq2 h11065 xq12 h11078 xq14 a11098 u11099 h11100 h11101 h11102 h12338 h12593 a12848 h12849 h13094 h13339 w13340 w13341 r13342 r13343 r13344 h13345 h13365 h13485 h13486 w13506 w13507 w13509 w13511 w13510 w13512 w13514 w13515 w13517 w13516 w13519 w13520 w13521 w13523 w13522 w13524 w13528 w13527 a13529 ⊢) <;> (try simp only [zz, Int32.reduceToInt, ne_eq] at u11064 xq2 h11065 xq12 h11078 xq14 a11098 u11099 h11100 h11101 h11102 h12338 h12593 a12848 h12849 h13094 h13339 w13340 w13341 r13342 r13343 r13344 h13345 h13365 h13485 h13486 w13506 w13507 w13509 w13511 w13510 w13512 w13514 w13515 w13517 w13516 w13519 w13520 w13521 w13523 w13522 w13524 w13528 w13527 a13529 ⊢) <;> (try simp (disch := omega) only [zb] at u11064 xq2 h11065 xq12 h11078 xq14 a11098 u11099 h11100 h11101 h11102 h12338 h12593 a12848 h12849 h13094 h13339 w13340 w13341 r13342 r13343 r13344 h13345 h13365 h13485 h13486 w13506 w13507 w13509 w13511 w13510 w13512 w13514 w13515 w13517 w13516 w13519 w13520 w13521 w13523 w13522 w13524 w13528 w13527 a13529 ⊢) <;> first | omega | ((try simp (disch := omega) only [zb] at u11064 xq2 h11065 xq12 h11078 xq14 a11098 u11099 h11100 h11101 h11102 h12338 h12593 a12848 h12849 h13094 h13339 w13340 w13341 r13342 r13343 r13344 h13345 h13365 h13485 h13486 w13506 w13507 w13509 w13511 w13510 w13512 w13514 w13515 w13517 w13516 w13519 w13520 w13521 w13523 w13522 w13524 w13528 w13527 a13529 ⊢) <;> omega))⟩
                          · refine sw_sh (ci_sh cs11 t_p0 rfl) ?_
                            refine sw_on (sX9_put cs11 t_p0 (by (try simp only [zp, zo, zq] at u11064 xq2 h11065 xq12 h11078 xq14 a11098 u11099 h11100 h11101 h11102 h12338 h12593 a12848 h12849 h13094 h13339 w13340 w13341 r13342 r13343 r13344 h13345 h13365 h13485 ⊢) <;> (try simp only [zz, Int32.reduceToInt, ne_eq] at u11064 xq2 h11065 xq12 h11078 xq14 a11098 u11099 h11100 h11101 h11102 h12338 h12593 a12848 h12849 h13094 h13339 w13340 w13341 r13342 r13343 r13344 h13345 h13365 h13485 ⊢) <;> (try simp (disch := omega) only [zb] at u11064 xq2 h11065 xq12 h11078 xq14 a11098 u11099 h11100 h11101 h11102 h12338 h12593 a12848 h12849 h13094 h13339 w13340 w13341 r13342 r13343 r13344 h13345 h13365 h13485 ⊢) <;> first | omega | ((try simp (disch := omega) only [zb] at u11064 xq2 h11065 xq12 h11078 xq14 a11098 u11099 h11100 h11101 h11102 h12338 h12593 a12848 h12849 h13094 h13339 w13340 w13341 r13342 r13343 r13344 h13345 h13365 h13485 ⊢) <;> omega)) ) ?_
                            intro q30 hqq30
                            obtain ⟨cq30, gq30, xq30⟩ := hqq30
                            have fq30 := fr_trans fs11 gq30 rfl
                            unfold fX9_pair_264
                            refine sw_ite (fun h13530 => ?_) (fun h13530 => ?_)
                            · have w13531 := (gq30.2.2 _ _ t_p0 0 rfl).1
                              have w13532 : mm_I s11 p0 0 = mm_I q2.2 p0 0 := by rw [← es11]; exact rd_k t_p0 tq5 (by decide)
                              have w13534 := rdA_fr (k := 9) (j := 0) gq30 cs11 t_p0 (κ' := 59) rfl rfl rfl
                              have w13536 : rdA s11 p0 9 0 = mm_I s11 q17 ((0 : Int32)).toNatClampNeg := rdA_eq eq17
                              have w13535 : rdA s11 p0 9 0 = rdA q2.2 p0 9 0 := by rw [← es11]; exact rdA_k cq2 t_p0 (κ' := 59) rfl tq5 (by decide)
                              have w13537 := rdA_fr (k := 9) (j := 0) gq2 c0 t_p0 (κ' := 59) rfl rfl rfl
                              have w13539 := rdA_fr (k := 10) (j := 0) gq30 cs11 t_p0 (κ' := 60) rfl rfl rfl
                              have w13540 : rdA s11 p0 10 0 = rdA q2.2 p0 10 0 := by rw [← es11]; exact rdA_j (by decide)
                              have w13542 : rdA q2.2 p0 10 0 = mm_I q2.2 q5 ((0 : Int32)).toNatClampNeg := rdA_eq eq5
                              have w13541 := rdA_fr (k := 10) (j := 0) gq2 c0 t_p0 (κ' := 60) rfl rfl rfl
                              have w13544 := rdA_fr (k := 10) (j := 1) gq30 cs11 t_p0 (κ' := 60) rfl rfl rfl
                              have w13545 : rdA s11 p0 10 1 = -1 := by rw [← es11]; exact rdA_self eq5
                              have w13546 := rdA_fr (k := 9) (j := 1) gq30 cs11 t_p0 (κ' := 59) rfl rfl rfl
                              have w13548 : rdA s11 p0 9 1 = mm_I s11 q17 ((1 : Int32)).toNatClampNeg := rdA_eq eq17
                              have w13547 : rdA s11 p0 9 1 = rdA q2.2 p0 9 1 := by rw [← es11]; exact rdA_k cq2 t_p0 (κ' := 59) rfl tq5 (by decide)
                              have w13549 := rdA_fr (k := 9) (j := 1) gq2 c0 t_p0 (κ' := 59) rfl rfl rfl
                              have w13553 : rdA q2.2 p0 10 1 = mm_I q2.2 q5 ((1 : Int32)).toNatClampNeg := rdA_eq eq5
                              have w13552 := rdA_fr (k := 10) (j := 1) gq2 c0 t_p0 (κ' := 60) rfl rfl rfl
                              have a13554 := zi_and p2 8 (by decide)
                              exact sw_some ⟨cq30, fq30, (by (try simp only [zp, zo, zq] at u11064 xq2 h11065 xq12 h11078 xq14 a11098 u11099 h11100 h11101 h11102 h12338 h12593 a12848 h12849 h13094 h13339 w13340 w13341 r13342 r13343 r13344 h13345 h13365 h13485 h13530 w13531 w13532 w13534 w13536 w13535 w13537 w13539 w13540 w13542 w13541 w13544 w13545 w13546 w13548 w13547 w13549 w13553 w13552 a13554 ⊢) <;> (try simp only [zz, Int32.reduceToInt, ne_eq] at u11064 xq2 h11065 xq12 h11078 xq14 a11098 u11099 h11100 h11101 h11102 h12338 h12593 a12848 h12849 h13094 h13339 w13340 w13341 r13342 r13343 r13344 h13345 h13365 h13485 h13530 w13531 w13532 w13534 w13536 w13535 w13537 w13539 w13540 w13542 w13541 w13544 w13545 w13546 w13548 w13547 w13549 w13553 w13552 a13554 ⊢) <;> (try simp (disch := omega) only [zb] at u11064 xq2 h11065 xq12 h11078 xq14 a11098 u11099 h11100 h11101 h11102 h12338 h12593 a12848 h12849 h13094 h13339 w13340 w13341 r13342 r13343 r13344 h13345 h13365 h13485 h13530 w13531 w13532 w13534 w13536 w13535 w13537 w13539 w13540 w13542 w13541 w13544 w13545 w13546 w13548 w13547 w13549 w13553 w13552 a13554 ⊢) <;> first | omega | ((try simp (disch := omega) only [zb] at u11064 xq2 h11065 xq12 h11078 xq14 a11098 u11099 h11100 h11101 h11102 h12338 h12593 a12848 h12849 h13094 h13339 w13340 w13341 r13342 r13343 r13344 h13345 h13365 h13485 h13530 w13531 w13532 w13534 w13536 w13535 w13537 w13539 w13540 w13542 w13541 w13544 w13545 w13546 w13548 w13547 w13549 w13553 w13552 a13554 ⊢) <;> omega))⟩
                            · refine sw_sh (ci_sh cq30 t_p0 rfl) ?_
                              refine sw_on (sX9_put cq30 t_p0 (by (try simp only [zp, zo, zq] at u11064 xq2 h11065 xq12 h11078 xq14 a11098 u11099 h11100 h11101 h11102 h12338 h12593 a12848 h12849 h13094 h13339 w13340 w13341 r13342 r13343 r13344 h13345 h13365 h13485 h13530 ⊢) <;> (try simp only [zz, Int32.reduceToInt, ne_eq] at u11064 xq2 h11065 xq12 h11078 xq14 a11098 u11099 h11100 h11101 h11102 h12338 h12593 a12848 h12849 h13094 h13339 w13340 w13341 r13342 r13343 r13344 h13345 h13365 h13485 h13530 ⊢) <;> (try simp (disch := omega) only [zb] at u11064 xq2 h11065 xq12 h11078 xq14 a11098 u11099 h11100 h11101 h11102 h12338 h12593 a12848 h12849 h13094 h13339 w13340 w13341 r13342 r13343 r13344 h13345 h13365 h13485 h13530 ⊢) <;> first | omega | ((try simp (disch := omega) only [zb] at u11064 xq2 h11065 xq12 h11078 xq14 a11098 u11099 h11100 h11101 h11102 h12338 h12593 a12848 h12849 h13094 h13339 w13340 w13341 r13342 r13343 r13344 h13345 h13365 h13485 h13530 ⊢) <;> omega)) ) ?_
                              intro q28 hqq28
                              obtain ⟨cq28, gq28, xq28⟩ := hqq28
                              have fq28 := fr_trans fq30 gq28 rfl
                              have w13555 := (gq28.2.2 _ _ t_p0 0 rfl).1
                              have w13556 := (gq30.2.2 _ _ t_p0 0 rfl).1
                              have w13557 : mm_I s11 p0 0 = mm_I q2.2 p0 0 := by rw [← es11]; exact rd_k t_p0 tq5 (by decide)
                              have w13559 := rdA_fr (k := 9) (j := 0) gq28 cq30 t_p0 (κ' := 59) rfl rfl rfl
                              have w13560 := rdA_fr (k := 9) (j := 0) gq30 cs11 t_p0 (κ' := 59) rfl rfl rfl
                              have w13562 : rdA s11 p0 9 0 = mm_I s11 q17 ((0 : Int32)).toNatClampNeg := rdA_eq eq17
                              have w13561 : rdA s11 p0 9 0 = rdA q2.2 p0 9 0 := by rw [← es11]; exact rdA_k cq2 t_p0 (κ' := 59) rfl tq5 (by decide)
                              have w13563 := rdA_fr (k := 9) (j := 0) gq2 c0 t_p0 (κ' := 59) rfl rfl rfl
                              have w13565 := rdA_fr (k := 10) (j := 0) gq28 cq30 t_p0 (κ' := 60) rfl rfl rfl
                              have w13566 := rdA_fr (k := 10) (j := 0) gq30 cs11 t_p0 (κ' := 60) rfl rfl rfl
                              have w13567 : rdA s11 p0 10 0 = rdA q2.2 p0 10 0 := by rw [← es11]; exact rdA_j (by decide)
                              have w13569 : rdA q2.2 p0 10 0 = mm_I q2.2 q5 ((0 : Int32)).toNatClampNeg := rdA_eq eq5
                              have w13568 := rdA_fr (k := 10) (j := 0) gq2 c0 t_p0 (κ' := 60) rfl rfl rfl
                              have w13571 := rdA_fr (k := 10) (j := 1) gq28 cq30 t_p0 (κ' := 60) rfl rfl rfl
                              have w13572 := rdA_fr (k := 10) (j := 1) gq30 cs11 t_p0 (κ' := 60) rfl rfl rfl
                              have w13573 : rdA s11 p0 10 1 = -1 := by rw [← es11]; exact rdA_self eq5
                              have w13574 := rdA_fr (k := 9) (j := 1) gq28 cq30 t_p0 (κ' := 59) rfl rfl rfl
                              have w13575 := rdA_fr (k := 9) (j := 1) gq30 cs11 t_p0 (κ' := 59) rfl rfl rfl
                              have w13577 : rdA s11 p0 9 1 = mm_I s11 q17 ((1 : Int32)).toNatClampNeg := rdA_eq eq17
                              have w13576 : rdA s11 p0 9 1 = rdA q2.2 p0 9 1 := by rw [← es11]; exact rdA_k cq2 t_p0 (κ' := 59) rfl tq5 (by decide)
                              have w13578 := rdA_fr (k := 9) (j := 1) gq2 c0 t_p0 (κ' := 59) rfl rfl rfl
                              have w13582 : rdA q2.2 p0 10 1 = mm_I q2.2 q5 ((1 : Int32)).toNatClampNeg := rdA_eq eq5
                              have w13581 := rdA_fr (k := 10) (j := 1) gq2 c0 t_p0 (κ' := 60) rfl rfl rfl
                              have a13583 := zi_and p2 8 (by decide)
                              exact sw_some ⟨cq28, fq28, (by (try simp only [zp, zo, zq] at u11064 xq2 h11065 xq12 h11078 xq14 a11098 u11099 h11100 h11101 h11102 h12338 h12593 a12848 h12849 h13094 h13339 w13340 w13341 r13342 r13343 r13344 h13345 h13365 h13485 h13530 w13555 w13556 w13557 w13559 w13560 w13562 w13561 w13563 w13565 w13566 w13567 w13569 w13568 w13571 w13572 w13573 w13574 w13575 w13577 w13576 w13578 w13582 w13581 a13583 ⊢) <;> (try simp only [zz, Int32.reduceToInt, ne_eq] at u11064 xq2 h11065 xq12 h11078 xq14 a11098 u11099 h11100 h11101 h11102 h12338 h12593 a12848 h12849 h13094 h13339 w13340 w13341 r13342 r13343 r13344 h13345 h13365 h13485 h13530 w13555 w13556 w13557 w13559 w13560 w13562 w13561 w13563 w13565 w13566 w13567 w13569 w13568 w13571 w13572 w13573 w13574 w13575 w13577 w13576 w13578 w13582 w13581 a13583 ⊢) <;> (try simp (disch := omega) only [zb] at u11064 xq2 h11065 xq12 h11078 xq14 a11098 u11099 h11100 h11101 h11102 h12338 h12593 a12848 h12849 h13094 h13339 w13340 w13341 r13342 r13343 r13344 h13345 h13365 h13485 h13530 w13555 w13556 w13557 w13559 w13560 w13562 w13561 w13563 w13565 w13566 w13567 w13569 w13568 w13571 w13572 w13573 w13574 w13575 w13577 w13576 w13578 w13582 w13581 a13583 ⊢) <;> first | omega | ((try simp (disch := omega) only [zb] at u11064 xq2 h11065 xq12 h11078 xq14 a11098 u11099 h11100 h11101 h11102 h12338 h12593 a12848 h12849 h13094 h13339 w13340 w13341 r13342 r13343 r13344 h13345 h13365 h13485 h13530 w13555 w13556 w13557 w13559 w13560 w13562 w13561 w13563 w13565 w13566 w13567 w13569 w13568 w13571 w13572 w13573 w13574 w13575 w13577 w13576 w13578 w13582 w13581 a13583 ⊢) <;> omega))⟩
                    · unfold fX9_pair_227
                      unfold fX9_pair_228
                      have w13584 : mm_I s11 q17 ((1 : Int32).toNatClampNeg) = mm_I q2.2 q17 ((1 : Int32).toNatClampNeg) := by rw [← es11]; exact rd_k tq17 tq5 (by decide)
                      have w13585 := (gq2.2.2 _ _ tq17 ((1 : Int32).toNatClampNeg) rfl).1
                      have r13586 := ci_rg c0 tq17 ((1 : Int32).toNatClampNeg) (lo := (-1)) (hi := 3) rfl
                      have r13587 := ci_rg cq2 tq17 ((1 : Int32).toNatClampNeg) (lo := (-1)) (hi := 3) rfl
                      have r13588 := ci_rg cs11 tq17 ((1 : Int32).toNatClampNeg) (lo := (-1)) (hi := 3) rfl
                      refine sw_ite (fun h13589 => ?_) (fun h13589 => ?_)
                      · have w13590 : mm_I s11 p0 0 = mm_I q2.2 p0 0 := by rw [← es11]; exact rd_k t_p0 tq5 (by decide)
                        have w13593 : rdA s11 p0 9 0 = mm_I s11 q17 ((0 : Int32)).toNatClampNeg := rdA_eq eq17
                        have w13592 : rdA s11 p0 9 0 = rdA q2.2 p0 9 0 := by rw [← es11]; exact rdA_k cq2 t_p0 (κ' := 59) rfl tq5 (by decide)
                        have w13594 := rdA_fr (k := 9) (j := 0) gq2 c0 t_p0 (κ' := 59) rfl rfl rfl
                        have w13596 : rdA s11 p0 10 0 = rdA q2.2 p0 10 0 := by rw [← es11]; exact rdA_j (by decide)
                        have w13598 : rdA q2.2 p0 10 0 = mm_I q2.2 q5 ((0 : Int32)).toNatClampNeg := rdA_eq eq5
                        have w13597 := rdA_fr (k := 10) (j := 0) gq2 c0 t_p0 (κ' := 60) rfl rfl rfl
                        have w13600 : rdA s11 p0 10 1 = -1 := by rw [← es11]; exact rdA_self eq5
                        have w13602 : rdA s11 p0 9 1 = mm_I s11 q17 ((1 : Int32)).toNatClampNeg := rdA_eq eq17
                        have w13601 : rdA s11 p0 9 1 = rdA q2.2 p0 9 1 := by rw [← es11]; exact rdA_k cq2 t_p0 (κ' := 59) rfl tq5 (by decide)
                        have w13603 := rdA_fr (k := 9) (j := 1) gq2 c0 t_p0 (κ' := 59) rfl rfl rfl
                        have w13607 : rdA q2.2 p0 10 1 = mm_I q2.2 q5 ((1 : Int32)).toNatClampNeg := rdA_eq eq5
                        have w13606 := rdA_fr (k := 10) (j := 1) gq2 c0 t_p0 (κ' := 60) rfl rfl rfl
                        have a13608 := zi_and p2 8 (by decide)
                        exact sw_some ⟨cs11, fs11, (by (try simp only [zp, zo, zq] at u11064 xq2 h11065 xq12 h11078 xq14 a11098 u11099 h11100 h11101 h11102 h12338 h12593 a12848 h12849 h13094 h13339 w13584 w13585 r13586 r13587 r13588 h13589 w13590 w13593 w13592 w13594 w13596 w13598 w13597 w13600 w13602 w13601 w13603 w13607 w13606 a13608 ⊢) <;> (try simp only [zz, Int32.reduceToInt, ne_eq] at u11064 xq2 h11065 xq12 h11078 xq14 a11098 u11099 h11100 h11101 h11102 h12338 h12593 a12848 h12849 h13094 h13339 w13584 w13585 r13586 r13587 r13588 h13589 w13590 w13593 w13592 w13594 w13596 w13598 w13597 w13600 w13602 w13601 w13603 w13607 w13606 a13608 ⊢) <;> (try simp (disch := omega) only [zb] at u11064 xq2 h11065 xq12 h11078 xq14 a11098 u11099 h11100 h11101 h11102 h12338 h12593 a12848 h12849 h13094 h13339 w13584 w13585 r13586 r13587 r13588 h13589 w13590 w13593 w13592 w13594 w13596 w13598 w13597 w13600 w13602 w13601 w13603 w13607 w13606 a13608 ⊢) <;> first | omega | ((try simp (disch := omega) only [zb] at u11064 xq2 h11065 xq12 h11078 xq14 a11098 u11099 h11100 h11101 h11102 h12338 h12593 a12848 h12849 h13094 h13339 w13584 w13585 r13586 r13587 r13588 h13589 w13590 w13593 w13592 w13594 w13596 w13598 w13597 w13600 w13602 w13601 w13603 w13607 w13606 a13608 ⊢) <;> omega))⟩
                      · refine sw_ite (fun h13609 => ?_) (fun h13609 => ?_)
                        · refine sw_ite (fun h13610 => ?_) (fun h13610 => ?_)
                          · have w13611 : mm_I s11 p0 0 = mm_I q2.2 p0 0 := by rw [← es11]; exact rd_k t_p0 tq5 (by decide)
                            have w13614 : rdA s11 p0 9 0 = mm_I s11 q17 ((0 : Int32)).toNatClampNeg := rdA_eq eq17
                            have w13613 : rdA s11 p0 9 0 = rdA q2.2 p0 9 0 := by rw [← es11]; exact rdA_k cq2 t_p0 (κ' := 59) rfl tq5 (by decide)
                            have w13615 := rdA_fr (k := 9) (j := 0) gq2 c0 t_p0 (κ' := 59) rfl rfl rfl
                            have w13617 : rdA s11 p0 10 0 = rdA q2.2 p0 10 0 := by rw [← es11]; exact rdA_j (by decide)
                            have w13619 : rdA q2.2 p0 10 0 = mm_I q2.2 q5 ((0 : Int32)).toNatClampNeg := rdA_eq eq5
                            have w13618 := rdA_fr (k := 10) (j := 0) gq2 c0 t_p0 (κ' := 60) rfl rfl rfl
                            have w13621 : rdA s11 p0 10 1 = -1 := by rw [← es11]; exact rdA_self eq5
                            have w13623 : rdA s11 p0 9 1 = mm_I s11 q17 ((1 : Int32)).toNatClampNeg := rdA_eq eq17
                            have w13622 : rdA s11 p0 9 1 = rdA q2.2 p0 9 1 := by rw [← es11]; exact rdA_k cq2 t_p0 (κ' := 59) rfl tq5 (by decide)
                            have w13624 := rdA_fr (k := 9) (j := 1) gq2 c0 t_p0 (κ' := 59) rfl rfl rfl
                            have w13628 : rdA q2.2 p0 10 1 = mm_I q2.2 q5 ((1 : Int32)).toNatClampNeg := rdA_eq eq5
                            have w13627 := rdA_fr (k := 10) (j := 1) gq2 c0 t_p0 (κ' := 60) rfl rfl rfl
                            have a13629 := zi_and p2 8 (by decide)
                            exact sw_some ⟨cs11, fs11, (by (try simp only [zp, zo, zq] at u11064 xq2 h11065 xq12 h11078 xq14 a11098 u11099 h11100 h11101 h11102 h12338 h12593 a12848 h12849 h13094 h13339 w13584 w13585 r13586 r13587 r13588 h13589 h13609 h13610 w13611 w13614 w13613 w13615 w13617 w13619 w13618 w13621 w13623 w13622 w13624 w13628 w13627 a13629 ⊢) <;> (try simp only [zz, Int32.reduceToInt, ne_eq] at u11064 xq2 h11065 xq12 h11078 xq14 a11098 u11099 h11100 h11101 h11102 h12338 h12593 a12848 h12849 h13094 h13339 w13584 w13585 r13586 r13587 r13588 h13589 h13609 h13610 w13611 w13614 w13613 w13615 w13617 w13619 w13618 w13621 w13623 w13622 w13624 w13628 w13627 a13629 ⊢) <;> (try simp (disch := omega) only [zb] at u11064 xq2 h11065 xq12 h11078 xq14 a11098 u11099 h11100 h11101 h11102 h12338 h12593 a12848 h12849 h13094 h13339 w13584 w13585 r13586 r13587 r13588 h13589 h13609 h13610 w13611 w13614 w13613 w13615 w13617 w13619 w13618 w13621 w13623 w13622 w13624 w13628 w13627 a13629 ⊢) <;> first | omega | ((try simp (disch := omega) only [zb] at u11064 xq2 h11065 xq12 h11078 xq14 a11098 u11099 h11100 h11101 h11102 h12338 h12593 a12848 h12849 h13094 h13339 w13584 w13585 r13586 r13587 r13588 h13589 h13609 h13610 w13611 w13614 w13613 w13615 w13617 w13619 w13618 w13621 w13623 w13622 w13624 w13628 w13627 a13629 ⊢) <;> omega))⟩
                          · unfold fX9_pair_250
                            refine sw_ite (fun h13630 => ?_) (fun h13630 => ?_)
                            · unfold fX9_pair_264
                              refine sw_ite (fun h13631 => ?_) (fun h13631 => ?_)
                              · have w13632 : mm_I s11 p0 0 = mm_I q2.2 p0 0 := by rw [← es11]; exact rd_k t_p0 tq5 (by decide)
                                have w13635 : rdA s11 p0 9 0 = mm_I s11 q17 ((0 : Int32)).toNatClampNeg := rdA_eq eq17
                                have w13634 : rdA s11 p0 9 0 = rdA q2.2 p0 9 0 := by rw [← es11]; exact rdA_k cq2 t_p0 (κ' := 59) rfl tq5 (by decide)
                                have w13636 := rdA_fr (k := 9) (j := 0) gq2 c0 t_p0 (κ' := 59) rfl rfl rfl
                                have w13638 : rdA s11 p0 10 0 = rdA q2.2 p0 10 0 := by rw [← es11]; exact rdA_j (by decide)
                                have w13640 : rdA q2.2 p0 10 0 = mm_I q2.2 q5 ((0 : Int32)).toNatClampNeg := rdA_eq eq5
                                have w13639 := rdA_fr (k := 10) (j := 0) gq2 c0 t_p0 (κ' := 60) rfl rfl rfl
                                have w13642 : rdA s11 p0 10 1 = -1 := by rw [← es11]; exact rdA_self eq5
                                have w13644 : rdA s11 p0 9 1 = mm_I s11 q17 ((1 : Int32)).toNatClampNeg := rdA_eq eq17
                                have w13643 : rdA s11 p0 9 1 = rdA q2.2 p0 9 1 := by rw [← es11]; exact rdA_k cq2 t_p0 (κ' := 59) rfl tq5 (by decide)
                                have w13645 := rdA_fr (k := 9) (j := 1) gq2 c0 t_p0 (κ' := 59) rfl rfl rfl
                                have w13649 : rdA q2.2 p0 10 1 = mm_I q2.2 q5 ((1 : Int32)).toNatClampNeg := rdA_eq eq5
                                have w13648 := rdA_fr (k := 10) (j := 1) gq2 c0 t_p0 (κ' := 60) rfl rfl rfl
                                have a13650 := zi_and p2 8 (by decide)
                                exact sw_some ⟨cs11, fs11, (by (try simp only [zp, zo, zq] at u11064 xq2 h11065 xq12 h11078 xq14 a11098 u11099 h11100 h11101 h11102 h12338 h12593 a12848 h12849 h13094 h13339 w13584 w13585 r13586 r13587 r13588 h13589 h13609 h13610 h13630 h13631 w13632 w13635 w13634 w13636 w13638 w13640 w13639 w13642 w13644 w13643 w13645 w13649 w13648 a13650 ⊢) <;> (try simp only [zz, Int32.reduceToInt, ne_eq] at u11064 xq2 h11065 xq12 h11078 xq14 a11098 u11099 h11100 h11101 h11102 h12338 h12593 a12848 h12849 h13094 h13339 w13584 w13585 r13586 r13587 r13588 h13589 h13609 h13610 h13630 h13631 w13632 w13635 w13634 w13636 w13638 w13640 w13639 w13642 w13644 w13643 w13645 w13649 w13648 a13650 ⊢) <;> (try simp (disch := omega) only [zb] at u11064 xq2 h11065 xq12 h11078 xq14 a11098 u11099 h11100 h11101 h11102 h12338 h12593 a12848 h12849 h13094 h13339 w13584 w13585 r13586 r13587 r13588 h13589 h13609 h13610 h13630 h13631 w13632 w13635 w13634 w13636 w13638 w13640 w13639 w13642 w13644 w13643 w13645 w13649 w13648 a13650 ⊢) <;> first | omega | ((try simp (disch := omega) only [zb] at u11064 xq2 h11065 xq12 h11078 xq14 a11098 u11099 h11100 h11101 h11102 h12338 h12593 a12848 h12849 h13094 h13339 w13584 w13585 r13586 r13587 r13588 h13589 h13609 h13610 h13630 h13631 w13632 w13635 w13634 w13636 w13638 w13640 w13639 w13642 w13644 w13643 w13645 w13649 w13648 a13650 ⊢) <;> omega))⟩
                              · refine sw_sh (ci_sh cs11 t_p0 rfl) ?_
                                refine sw_on (sX9_put cs11 t_p0 (by (try simp only [zp, zo, zq] at u11064 xq2 h11065 xq12 h11078 xq14 a11098 u11099 h11100 h11101 h11102 h12338 h12593 a12848 h12849 h13094 h13339 w13584 w13585 r13586 r13587 r13588 h13589 h13609 h13610 h13630 h13631 ⊢) <;> (try simp only [zz, Int32.reduceToInt, ne_eq] at u11064 xq2 h11065 xq12 h11078 xq14 a11098 u11099 h11100 h11101 h11102 h12338 h12593 a12848 h12849 h13094 h13339 w13584 w13585 r13586 r13587 r13588 h13589 h13609 h13610 h13630 h13631 ⊢) <;> (try simp (disch := omega) only [zb] at u11064 xq2 h11065 xq12 h11078 xq14 a11098 u11099 h11100 h11101 h11102 h12338 h12593 a12848 h12849 h13094 h13339 w13584 w13585 r13586 r13587 r13588 h13589 h13609 h13610 h13630 h13631 ⊢) <;> first | omega | ((try simp (disch := omega) only [zb] at u11064 xq2 h11065 xq12 h11078 xq14 a11098 u11099 h11100 h11101 h11102 h12338 h12593 a12848 h12849 h13094 h13339 w13584 w13585 r13586 r13587 r13588 h13589 h13609 h13610 h13630 h13631 ⊢) <;> omega)) ) ?_
                                intro q28 hqq28
                                obtain ⟨cq28, gq28, xq28⟩ := hqq28
                                have fq28 := fr_trans fs11 gq28 rfl
                                have w13651 := (gq28.2.2 _ _ t_p0 0 rfl).1
                                have w13652 : mm_I s11 p0 0 = mm_I q2.2 p0 0 := by rw [← es11]; exact rd_k t_p0 tq5 (by decide)
                                have w13654 := rdA_fr (k := 9) (j := 0) gq28 cs11 t_p0 (κ' := 59) rfl rfl rfl
                                have w13656 : rdA s11 p0 9 0 = mm_I s11 q17 ((0 : Int32)).toNatClampNeg := rdA_eq eq17
                                have w13655 : rdA s11 p0 9 0 = rdA q2.2 p0 9 0 := by rw [← es11]; exact rdA_k cq2 t_p0 (κ' := 59) rfl tq5 (by decide)
                                have w13657 := rdA_fr (k := 9) (j := 0) gq2 c0 t_p0 (κ' := 59) rfl rfl rfl
                                have w13659 := rdA_fr (k := 10) (j := 0) gq28 cs11 t_p0 (κ' := 60) rfl rfl rfl
                                have w13660 : rdA s11 p0 10 0 = rdA q2.2 p0 10 0 := by rw [← es11]; exact rdA_j (by decide)
                                have w13662 : rdA q2.2 p0 10 0 = mm_I q2.2 q5 ((0 : Int32)).toNatClampNeg := rdA_eq eq5
                                have w13661 := rdA_fr (k := 10) (j := 0) gq2 c0 t_p0 (κ' := 60) rfl rfl rfl
                                have w13664 := rdA_fr (k := 10) (j := 1) gq28 cs11 t_p0 (κ' := 60) rfl rfl rfl
                                have w13665 : rdA s11 p0 10 1 = -1 := by rw [← es11]; exact rdA_self eq5
                                have w13666 := rdA_fr (k := 9) (j := 1) gq28 cs11 t_p0 (κ' := 59) rfl rfl rfl
                                have w13668 : rdA s11 p0 9 1 = mm_I s11 q17 ((1 : Int32)).toNatClampNeg := rdA_eq eq17
                                have w13667 : rdA s11 p0 9 1 = rdA q2.2 p0 9 1 := by rw [← es11]; exact rdA_k cq2 t_p0 (κ' := 59) rfl tq5 (by decide)
                                have w13669 := rdA_fr (k := 9) (j := 1) gq2 c0 t_p0 (κ' := 59) rfl rfl rfl
                                have w13673 : rdA q2.2 p0 10 1 = mm_I q2.2 q5 ((1 : Int32)).toNatClampNeg := rdA_eq eq5
                                have w13672 := rdA_fr (k := 10) (j := 1) gq2 c0 t_p0 (κ' := 60) rfl rfl rfl
                                have a13674 := zi_and p2 8 (by decide)
                                exact sw_some ⟨cq28, fq28, (by (try simp only [zp, zo, zq] at u11064 xq2 h11065 xq12 h11078 xq14 a11098 u11099 h11100 h11101 h11102 h12338 h12593 a12848 h12849 h13094 h13339 w13584 w13585 r13586 r13587 r13588 h13589 h13609 h13610 h13630 h13631 w13651 w13652 w13654 w13656 w13655 w13657 w13659 w13660 w13662 w13661 w13664 w13665 w13666 w13668 w13667 w13669 w13673 w13672 a13674 ⊢) <;> (try simp only [zz, Int32.reduceToInt, ne_eq] at u11064 xq2 h11065 xq12 h11078 xq14 a11098 u11099 h11100 h11101 h11102 h12338 h12593 a12848 h12849 h13094 h13339 w13584 w13585 r13586 r13587 r13588 h13589 h13609 h13610 h13630 h13631 w13651 w13652 w13654 w13656 w13655 w13657 w13659 w13660 w13662 w13661 w13664 w13665 w13666 w13668 w13667 w13669 w13673 w13672 a13674 ⊢) <;> (try simp (disch := omega) only [zb] at u11064 xq2 h11065 xq12 h11078 xq14 a11098 u11099 h11100 h11101 h11102 h12338 h12593 a12848 h12849 h13094 h13339 w13584 w13585 r13586 r13587 r13588 h13589 h13609 h13610 h13630 h13631 w13651 w13652 w13654 w13656 w13655 w13657 w13659 w13660 w13662 w13661 w13664 w13665 w13666 w13668 w13667 w13669 w13673 w13672 a13674 ⊢) <;> first | omega | ((try simp (disch := omega) only [zb] at u11064 xq2 h11065 xq12 h11078 xq14 a11098 u11099 h11100 h11101 h11102 h12338 h12593 a12848 h12849 h13094 h13339 w13584 w13585 r13586 r13587 r13588 h13589 h13609 h13610 h13630 h13631 w13651 w13652 w13654 w13656 w13655 w13657 w13659 w13660 w13662 w13661 w13664 w13665 w13666 w13668 w13667 w13669 w13673 w13672 a13674 ⊢) <;> omega))⟩
                            · refine sw_sh (ci_sh cs11 t_p0 rfl) ?_
                              refine sw_on (sX9_put cs11 t_p0 (by (try simp only [zp, zo, zq] at u11064 xq2 h11065 xq12 h11078 xq14 a11098 u11099 h11100 h11101 h11102 h12338 h12593 a12848 h12849 h13094 h13339 w13584 w13585 r13586 r13587 r13588 h13589 h13609 h13610 h13630 ⊢) <;> (try simp only [zz, Int32.reduceToInt, ne_eq] at u11064 xq2 h11065 xq12 h11078 xq14 a11098 u11099 h11100 h11101 h11102 h12338 h12593 a12848 h12849 h13094 h13339 w13584 w13585 r13586 r13587 r13588 h13589 h13609 h13610 h13630 ⊢) <;> (try simp (disch := omega) only [zb] at u11064 xq2 h11065 xq12 h11078 xq14 a11098 u11099 h11100 h11101 h11102 h12338 h12593 a12848 h12849 h13094 h13339 w13584 w13585 r13586 r13587 r13588 h13589 h13609 h13610 h13630 ⊢) <;> first | omega | ((try simp (disch := omega) only [zb] at u11064 xq2 h11065 xq12 h11078 xq14 a11098 u11099 h11100 h11101 h11102 h12338 h12593 a12848 h12849 h13094 h13339 w13584 w13585 r13586 r13587 r13588 h13589 h13609 h13610 h13630 ⊢) <;> omega)) ) ?_
                              intro q30 hqq30
                              obtain ⟨cq30, gq30, xq30⟩ := hqq30
                              have fq30 := fr_trans fs11 gq30 rfl
                              unfold fX9_pair_264
                              refine sw_ite (fun h13675 => ?_) (fun h13675 => ?_)
                              · have w13676 := (gq30.2.2 _ _ t_p0 0 rfl).1
                                have w13677 : mm_I s11 p0 0 = mm_I q2.2 p0 0 := by rw [← es11]; exact rd_k t_p0 tq5 (by decide)
                                have w13679 := rdA_fr (k := 9) (j := 0) gq30 cs11 t_p0 (κ' := 59) rfl rfl rfl
                                have w13681 : rdA s11 p0 9 0 = mm_I s11 q17 ((0 : Int32)).toNatClampNeg := rdA_eq eq17
                                have w13680 : rdA s11 p0 9 0 = rdA q2.2 p0 9 0 := by rw [← es11]; exact rdA_k cq2 t_p0 (κ' := 59) rfl tq5 (by decide)
                                have w13682 := rdA_fr (k := 9) (j := 0) gq2 c0 t_p0 (κ' := 59) rfl rfl rfl
                                have w13684 := rdA_fr (k := 10) (j := 0) gq30 cs11 t_p0 (κ' := 60) rfl rfl rfl
                                have w13685 : rdA s11 p0 10 0 = rdA q2.2 p0 10 0 := by rw [← es11]; exact rdA_j (by decide)
                                have w13687 : rdA q2.2 p0 10 0 = mm_I q2.2 q5 ((0 : Int32)).toNatClampNeg := rdA_eq eq5
                                have w13686 := rdA_fr (k := 10) (j := 0) gq2 c0 t_p0 (κ' := 60) rfl rfl rfl
                                have w13689 := rdA_fr (k := 10) (j := 1) gq30 cs11 t_p0 (κ' := 60) rfl rfl rfl
                                have w13690 : rdA s11 p0 10 1 = -1 := by rw [← es11]; exact rdA_self eq5
                                have w13691 := rdA_fr (k := 9) (j := 1) gq30 cs11 t_p0 (κ' := 59) rfl rfl rfl
                                have w13693 : rdA s11 p0 9 1 = mm_I s11 q17 ((1 : Int32)).toNatClampNeg := rdA_eq eq17
                                have w13692 : rdA s11 p0 9 1 = rdA q2.2 p0 9 1 := by rw [← es11]; exact rdA_k cq2 t_p0 (κ' := 59) rfl tq5 (by decide)
                                have w13694 := rdA_fr (k := 9) (j := 1) gq2 c0 t_p0 (κ' := 59) rfl rfl rfl
                                have w13698 : rdA q2.2 p0 10 1 = mm_I q2.2 q5 ((1 : Int32)).toNatClampNeg := rdA_eq eq5
                                have w13697 := rdA_fr (k := 10) (j := 1) gq2 c0 t_p0 (κ' := 60) rfl rfl rfl
                                have a13699 := zi_and p2 8 (by decide)
                                exact sw_some ⟨cq30, fq30, (by (try simp only [zp, zo, zq] at u11064 xq2 h11065 xq12 h11078 xq14 a11098 u11099 h11100 h11101 h11102 h12338 h12593 a12848 h12849 h13094 h13339 w13584 w13585 r13586 r13587 r13588 h13589 h13609 h13610 h13630 h13675 w13676 w13677 w13679 w13681 w13680 w13682 w13684 w13685 w13687 w13686 w13689 w13690 w13691 w13693 w13692 w13694 w13698 w13697 a13699 ⊢) <;> (try simp only [zz, Int32.reduceToInt, ne_eq] at u11064 xq2 h11065 xq12 h11078 xq14 a11098 u11099 h11100 h11101 h11102 h12338 h12593 a12848 h12849 h13094 h13339 w13584 w13585 r13586 r13587 r13588 h13589 h13609 h13610 h13630 h13675 w13676 w13677 w13679 w13681 w13680 w13682 w13684 w13685 w13687 w13686 w13689 w13690 w13691 w13693 w13692 w13694 w13698 w13697 a13699 ⊢) <;> (try simp (disch := omega) only [zb] at u11064 xq2 h11065 xq12 h11078 xq14 a11098 u11099 h11100 h11101 h11102 h12338 h12593 a12848 h12849 h13094 h13339 w13584 w13585 r13586 r13587 r13588 h13589 h13609 h13610 h13630 h13675 w13676 w13677 w13679 w13681 w13680 w13682 w13684 w13685 w13687 w13686 w13689 w13690 w13691 w13693 w13692 w13694 w13698 w13697 a13699 ⊢) <;> first | omega | ((try simp (disch := omega) only [zb] at u11064 xq2 h11065 xq12 h11078 xq14 a11098 u11099 h11100 h11101 h11102 h12338 h12593 a12848 h12849 h13094 h13339 w13584 w13585 r13586 r13587 r13588 h13589 h13609 h13610 h13630 h13675 w13676 w13677 w13679 w13681 w13680 w13682 w13684 w13685 w13687 w13686 w13689 w13690 w13691 w13693 w13692 w13694 w13698 w13697 a13699 ⊢) <;> omega))⟩
                              · refine sw_sh (ci_sh cq30 t_p0 rfl) ?_
                                refine sw_on (sX9_put cq30 t_p0 (by (try simp only [zp, zo, zq] at u11064 xq2 h11065 xq12 h11078 xq14 a11098 u11099 h11100 h11101 h11102 h12338 h12593 a12848 h12849 h13094 h13339 w13584 w13585 r13586 r13587 r13588 h13589 h13609 h13610 h13630 h13675 ⊢) <;> (try simp only [zz, Int32.reduceToInt, ne_eq] at u11064 xq2 h11065 xq12 h11078 xq14 a11098 u11099 h11100 h11101 h11102 h12338 h12593 a12848 h12849 h13094 h13339 w13584 w13585 r13586 r13587 r13588 h13589 h13609 h13610 h13630 h13675 ⊢) <;> (try simp (disch := omega) only [zb] at u11064 xq2 h11065 xq12 h11078 xq14 a11098 u11099 h11100 h11101 h11102 h12338 h12593 a12848 h12849 h13094 h13339 w13584 w13585 r13586 r13587 r13588 h13589 h13609 h13610 h13630 h13675 ⊢) <;> first | omega | ((try simp (disch := omega) only [zb] at u11064 xq2 h11065 xq12 h11078 xq14 a11098 u11099 h11100 h11101 h11102 h12338 h12593 a12848 h12849 h13094 h13339 w13584 w13585 r13586 r13587 r13588 h13589 h13609 h13610 h13630 h13675 ⊢) <;> omega)) ) ?_
                                intro q28 hqq28
                                obtain ⟨cq28, gq28, xq28⟩ := hqq28
                                have fq28 := fr_trans fq30 gq28 rfl
                                have w13700 := (gq28.2.2 _ _ t_p0 0 rfl).1
                                have w13701 := (gq30.2.2 _ _ t_p0 0 rfl).1
                                have w13702 : mm_I s11 p0 0 = mm_I q2.2 p0 0 := by rw [← es11]; exact rd_k t_p0 tq5 (by decide)
                                have w13704 := rdA_fr (k := 9) (j := 0) gq28 cq30 t_p0 (κ' := 59) rfl rfl rfl
                                have w13705 := rdA_fr (k := 9) (j := 0) gq30 cs11 t_p0 (κ' := 59) rfl rfl rfl
                                have w13707 : rdA s11 p0 9 0 = mm_I s11 q17 ((0 : Int32)).toNatClampNeg := rdA_eq eq17
                                have w13706 : rdA s11 p0 9 0 = rdA q2.2 p0 9 0 := by rw [← es11]; exact rdA_k cq2 t_p0 (κ' := 59) rfl tq5 (by decide)
                                have w13708 := rdA_fr (k := 9) (j := 0) gq2 c0 t_p0 (κ' := 59) rfl rfl rfl
                                have w13710 := rdA_fr (k := 10) (j := 0) gq28 cq30 t_p0 (κ' := 60) rfl rfl rfl
                                have w13711 := rdA_fr (k := 10) (j := 0) gq30 cs11 t_p0 (κ' := 60) rfl rfl rfl
                                have w13712 : rdA s11 p0 10 0 = rdA q2.2 p0 10 0 := by rw [← es11]; exact rdA_j (by decide)
                                have w13714 : rdA q2.2 p0 10 0 = mm_I q2.2 q5 ((0 : Int32)).toNatClampNeg := rdA_eq eq5
                                have w13713 := rdA_fr (k := 10) (j := 0) gq2 c0 t_p0 (κ' := 60) rfl rfl rfl
                                have w13716 := rdA_fr (k := 10) (j := 1) gq28 cq30 t_p0 (κ' := 60) rfl rfl rfl
                                have w13717 := rdA_fr (k := 10) (j := 1) gq30 cs11 t_p0 (κ' := 60) rfl rfl rfl
                                have w13718 : rdA s11 p0 10 1 = -1 := by rw [← es11]; exact rdA_self eq5
                                have w13719 := rdA_fr (k := 9) (j := 1) gq28 cq30 t_p0 (κ' := 59) rfl rfl rfl
                                have w13720 := rdA_fr (k := 9) (j := 1) gq30 cs11 t_p0 (κ' := 59) rfl rfl rfl
                                have w13722 : rdA s11 p0 9 1 = mm_I s11 q17 ((1 : Int32)).toNatClampNeg := rdA_eq eq17
                                have w13721 : rdA s11 p0 9 1 = rdA q2.2 p0 9 1 := by rw [← es11]; exact rdA_k cq2 t_p0 (κ' := 59) rfl tq5 (by decide)
                                have w13723 := rdA_fr (k := 9) (j := 1) gq2 c0 t_p0 (κ' := 59) rfl rfl rfl
                                have w13727 : rdA q2.2 p0 10 1 = mm_I q2.2 q5 ((1 : Int32)).toNatClampNeg := rdA_eq eq5
                                have w13726 := rdA_fr (k := 10) (j := 1) gq2 c0 t_p0 (κ' := 60) rfl rfl rfl
                                have a13728 := zi_and p2 8 (by decide)
                                exact sw_some ⟨cq28, fq28, (by (try simp only [zp, zo, zq] at u11064 xq2 h11065 xq12 h11078 xq14 a11098 u11099 h11100 h11101 h11102 h12338 h12593 a12848 h12849 h13094 h13339 w13584 w13585 r13586 r13587 r13588 h13589 h13609 h13610 h13630 h13675 w13700 w13701 w13702 w13704 w13705 w13707 w13706 w13708 w13710 w13711 w13712 w13714 w13713 w13716 w13717 w13718 w13719 w13720 w13722 w13721 w13723 w13727 w13726 a13728 ⊢) <;> (try simp only [zz, Int32.reduceToInt, ne_eq] at u11064 xq2 h11065 xq12 h11078 xq14 a11098 u11099 h11100 h11101 h11102 h12338 h12593 a12848 h12849 h13094 h13339 w13584 w13585 r13586 r13587 r13588 h13589 h13609 h13610 h13630 h13675 w13700 w13701 w13702 w13704 w13705 w13707 w13706 w13708 w13710 w13711 w13712 w13714 w13713 w13716 w13717 w13718 w13719 w13720 w13722 w13721 w13723 w13727 w13726 a13728 ⊢) <;> (try simp (disch := omega) only [zb] at u11064 xq2 h11065 xq12 h11078 xq14 a11098 u11099 h11100 h11101 h11102 h12338 h12593 a12848 h12849 h13094 h13339 w13584 w13585 r13586 r13587 r13588 h13589 h13609 h13610 h13630 h13675 w13700 w13701 w13702 w13704 w13705 w13707 w13706 w13708 w13710 w13711 w13712 w13714 w13713 w13716 w13717 w13718 w13719 w13720 w13722 w13721 w13723 w13727 w13726 a13728 ⊢) <;> first | omega | ((try simp (disch := omega) only [zb] at u11064 xq2 h11065 xq12 h11078 xq14 a11098 u11099 h11100 h11101 h11102 h12338 h12593 a12848 h12849 h13094 h13339 w13584 w13585 r13586 r13587 r13588 h13589 h13609 h13610 h13630 h13675 w13700 w13701 w13702 w13704 w13705 w13707 w13706 w13708 w13710 w13711 w13712 w13714 w13713 w13716 w13717 w13718 w13719 w13720 w13722 w13721 w13723 w13727 w13726 a13728 ⊢) <;> omega))⟩
                        · unfold fX9_pair_250
                          refine sw_ite (fun h13729 => ?_) (fun h13729 => ?_)
                          · unfold fX9_pair_264
                            refine sw_ite (fun h13730 => ?_) (fun h13730 => ?_)
                            · have w13731 : mm_I s11 p0 0 = mm_I q2.2 p0 0 := by rw [← es11]; exact rd_k t_p0 tq5 (by decide)
                              have w13734 : rdA s11 p0 9 0 = mm_I s11 q17 ((0 : Int32)).toNatClampNeg := rdA_eq eq17
                              have w13733 : rdA s11 p0 9 0 = rdA q2.2 p0 9 0 := by rw [← es11]; exact rdA_k cq2 t_p0 (κ' := 59) rfl tq5 (by decide)
                              have w13735 := rdA_fr (k := 9) (j := 0) gq2 c0 t_p0 (κ' := 59) rfl rfl rfl
                              have w13737 : rdA s11 p0 10 0 = rdA q2.2 p0 10 0 := by rw [← es11]; exact rdA_j (by decide)
                              have w13739 : rdA q2.2 p0 10 0 = mm_I q2.2 q5 ((0 : Int32)).toNatClampNeg := rdA_eq eq5
                              have w13738 := rdA_fr (k := 10) (j := 0) gq2 c0 t_p0 (κ' := 60) rfl rfl rfl
                              have w13741 : rdA s11 p0 10 1 = -1 := by rw [← es11]; exact rdA_self eq5
                              have w13743 : rdA s11 p0 9 1 = mm_I s11 q17 ((1 : Int32)).toNatClampNeg := rdA_eq eq17
                              have w13742 : rdA s11 p0 9 1 = rdA q2.2 p0 9 1 := by rw [← es11]; exact rdA_k cq2 t_p0 (κ' := 59) rfl tq5 (by decide)
                              have w13744 := rdA_fr (k := 9) (j := 1) gq2 c0 t_p0 (κ' := 59) rfl rfl rfl
                              have w13748 : rdA q2.2 p0 10 1 = mm_I q2.2 q5 ((1 : Int32)).toNatClampNeg := rdA_eq eq5
                              have w13747 := rdA_fr (k := 10) (j := 1) gq2 c0 t_p0 (κ' := 60) rfl rfl rfl
                              have a13749 := zi_and p2 8 (by decide)
                              exact sw_some ⟨cs11, fs11, (by (try simp only [zp, zo, zq] at u11064 xq2 h11065 xq12 h11078 xq14 a11098 u11099 h11100 h11101 h11102 h12338 h12593 a12848 h12849 h13094 h13339 w13584 w13585 r13586 r13587 r13588 h13589 h13609 h13729 h13730 w13731 w13734 w13733 w13735 w13737 w13739 w13738 w13741 w13743 w13742 w13744 w13748 w13747 a13749 ⊢) <;> (try simp only [zz, Int32.reduceToInt, ne_eq] at u11064 xq2 h11065 xq12 h11078 xq14 a11098 u11099 h11100 h11101 h11102 h12338 h12593 a12848 h12849 h13094 h13339 w13584 w13585 r13586 r13587 r13588 h13589 h13609 h13729 h13730 w13731 w13734 w13733 w13735 w13737 w13739 w13738 w13741 w13743 w13742 w13744 w13748 w13747 a13749 ⊢) <;> (try simp (disch := omega) only [zb] at u11064 xq2 h11065 xq12 h11078 xq14 a11098 u11099 h11100 h11101 h11102 h12338 h12593 a12848 h12849 h13094 h13339 w13584 w13585 r13586 r13587 r13588 h13589 h13609 h13729 h13730 w13731 w13734 w13733 w13735 w13737 w13739 w13738 w13741 w13743 w13742 w13744 w13748 w13747 a13749 ⊢) <;> first | omega | ((try simp (disch := omega) only [zb] at u11064 xq2 h11065 xq12 h11078 xq14 a11098 u11099 h11100 h11101 h11102 h12338 h12593 a12848 h12849 h13094 h13339 w13584 w13585 r13586 r13587 r13588 h13589 h13609 h13729 h13730 w13731 w13734 w13733 w13735 w13737 w13739 w13738 w13741 w13743 w13742 w13744 w13748 w13747 a13749 ⊢) <;> omega))⟩
                            · refine sw_sh (ci_sh cs11 t_p0 rfl) ?_
                              refine sw_on (sX9_put cs11 t_p0 (by (try simp only [zp, zo, zq] at u11064 xq2 h11065 xq12 h11078 xq14 a11098 u11099 h11100 h11101 h11102 h12338 h12593 a12848 h12849 h13094 h13339 w13584 w13585 r13586 r13587 r13588 h13589 h13609 h13729 h13730 ⊢) <;> (try simp only [zz, Int32.reduceToInt, ne_eq] at u11064 xq2 h11065 xq12 h11078 xq14 a11098 u11099 h11100 h11101 h11102 h12338 h12593 a12848 h12849 h13094 h13339 w13584 w13585 r13586 r13587 r13588 h13589 h13609 h13729 h13730 ⊢) <;> (try simp (disch := omega) only [zb] at u11064 xq2 h11065 xq12 h11078 xq14 a11098 u11099 h11100 h11101 h11102 h12338 h12593 a12848 h12849 h13094 h13339 w13584 w13585 r13586 r13587 r13588 h13589 h13609 h13729 h13730 ⊢) <;> first | omega | ((try simp (disch := omega) only [zb] at u11064 xq2 h11065 xq12 h11078 xq14 a11098 u11099 h11100 h11101 h11102 h12338 h12593 a12848 h12849 h13094 h13339 w13584 w13585 r13586 r13587 r13588 h13589 h13609 h13729 h13730 ⊢) <;> omega)) ) ?_
                              intro q28 hqq28
                              obtain ⟨cq28, gq28, xq28⟩ := hqq28
                              have fq28 := fr_trans fs11 gq28 rfl
                              have w13750 := (gq28.2.2 _ _ t_p0 0 rfl).1
                              have w13751 : mm_I s11 p0 0 = mm_I q2.2 p0 0 := by rw [← es11]; exact rd_k t_p0 tq5 (by decide)
                              have w13753 := rdA_fr (k := 9) (j := 0) gq28 cs11 t_p0 (κ' := 59) rfl rfl rfl
                              have w13755 : rdA s11 p0 9 0 = mm_I s11 q17 ((0 : Int32)).toNatClampNeg := rdA_eq eq17
                              have w13754 : rdA s11 p0 9 0 = rdA q2.2 p0 9 0 := by rw [← es11]; exact rdA_k cq2 t_p0 (κ' := 59) rfl tq5 (by decide)
                              have w13756 := rdA_fr (k := 9) (j := 0) gq2 c0 t_p0 (κ' := 59) rfl rfl rfl
                              have w13758 := rdA_fr (k := 10) (j := 0) gq28 cs11 t_p0 (κ' := 60) rfl rfl rfl
                              have w13759 : rdA s11 p0 10 0 = rdA q2.2 p0 10 0 := by rw [← es11]; exact rdA_j (by decide)
                              have w13761 : rdA q2.2 p0 10 0 = mm_I q2.2 q5 ((0 : Int32)).toNatClampNeg := rdA_eq eq5
                              have w13760 := rdA_fr (k := 10) (j := 0) gq2 c0 t_p0 (κ' := 60) rfl rfl rfl
                              have w13763 := rdA_fr (k := 10) (j := 1) gq28 cs11 t_p0 (κ' := 60) rfl rfl rfl
                              have w13764 : rdA s11 p0 10 1 = -1 := by rw [← es11]; exact rdA_self eq5
                              have w13765 := rdA_fr (k := 9) (j := 1) gq28 cs11 t_p0 (κ' := 59) rfl rfl rfl
                              have w13767 : rdA s11 p0 9 1 = mm_I s11 q17 ((1 : Int32)).toNatClampNeg := rdA_eq eq17
                              have w13766 : rdA s11 p0 9 1 = rdA q2.2 p0 9 1 := by rw [← es11]; exact rdA_k cq2 t_p0 (κ' := 59) rfl tq5 (by decide)
                              have w13768 := rdA_fr (k := 9) (j := 1) gq2 c0 t_p0 (κ' := 59) rfl rfl rfl
                              have w13772 : rdA q2.2 p0 10 1 = mm_I q2.2 q5 ((1 : Int32)).toNatClampNeg := rdA_eq eq5
                              have w13771 := rdA_fr (k := 10) (j := 1) gq2 c0 t_p0 (κ' := 60) rfl rfl rfl
                              have a13773 := zi_and p2 8 (by decide)
                              exact sw_some ⟨cq28, fq28, (by (try simp only [zp, zo, zq] at u11064 xq2 h11065 xq12 h11078 xq14 a11098 u11099 h11100 h11101 h11102 h12338 h12593 a12848 h12849 h13094 h13339 w13584 w13585 r13586 r13587 r13588 h13589 h13609 h13729 h13730 w13750 w13751 w13753 w13755 w13754 w13756 w13758 w13759 w13761 w13760 w13763 w13764 w13765 w13767 w13766 w13768 w13772 w13771 a13773 ⊢) <;> (try simp only [zz, Int32.reduceToInt, ne_eq] at u11064 xq2 h11065 xq12 h11078 xq14 a11098 u11099 h11100 h11101 h11102 h12338 h12593 a12848 h12849 h13094 h13339 w13584 w13585 r13586 r13587 r13588 h13589 h13609 h13729 h13730 w13750 w13751 w13753 w13755 w13754 w13756 w13758 w13759 w13761 w13760 w13763 w13764 w13765 w13767 w13766 w13768 w13772 w13771 a13773 ⊢) <;> (try simp (disch := omega) only [zb] at u11064 xq2 h11065 xq12 h11078 xq14 a11098 u11099 h11100 h11101 h11102 h12338 h12593 a12848 h12849 h13094 h13339 w13584 w13585 r13586 r13587 r13588 h13589 h13609 h13729 h13730 w13750 w13751 w13753 w13755 w13754 w13756 w13758 w13759 w13761 w13760 w13763 w13764 w13765 w13767 w13766 w13768 w13772 w13771 a13773 ⊢) <;> first | omega | ((try simp (disch := omega) only [zb] at u11064 xq2 h11065 xq12 h11078 xq14 a11098 u11099 h11100 h11101 h11102 h12338 h12593 a12848 h12849 h13094 h13339 w13584 w13585 r13586 r13587 r13588 h13589 h13609 h13729 h13730 w13750 w13751 w13753 w13755 w13754 w13756 w13758 w13759 w13761 w13760 w13763 w13764 w13765 w13767 w13766 w13768 w13772 w13771 a13773 ⊢) <;> omega))⟩
                          · refine sw_sh (ci_sh cs11 t_p0 rfl) ?_
                            refine sw_on (sX9_put cs11 t_p0 (by (try simp only [zp, zo, zq] at u11064 xq2 h11065 xq12 h11078 xq14 a11098 u11099 h11100 h11101 h11102 h12338 h12593 a12848 h12849 h13094 h13339 w13584 w13585 r13586 r13587 r13588 h13589 h13609 h13729 ⊢) <;> (try simp only [zz, Int32.reduceToInt, ne_eq] at u11064 xq2 h11065 xq12 h11078 xq14 a11098 u11099 h11100 h11101 h11102 h12338 h12593 a12848 h12849 h13094 h13339 w13584 w13585 r13586 r13587 r13588 h13589 h13609 h13729 ⊢) <;> (try simp (disch := omega) only [zb] at u11064 xq2 h11065 xq12 h11078 xq14 a11098 u11099 h11100 h11101 h11102 h12338 h12593 a12848 h12849 h13094 h13339 w13584 w13585 r13586 r13587 r13588 h13589 h13609 h13729 ⊢) <;> first | omega | ((try simp (disch := omega) only [zb] at u11064 xq2 h11065 xq12 h11078 xq14 a11098 u11099 h11100 h11101 h11102 h12338 h12593 a12848 h12849 h13094 h13339 w13584 w13585 r13586 r13587 r13588 h13589 h13609 h13729 ⊢) <;> omega)) ) ?_
                            intro q30 hqq30
                            obtain ⟨cq30, gq30, xq30⟩ := hqq30
                            have fq30 := fr_trans fs11 gq30 rfl
                            unfold fX9_pair_264
                            refine sw_ite (fun h13774 => ?_) (fun h13774 => ?_)
                            · have w13775 := (gq30.2.2 _ _ t_p0 0 rfl).1
                              have w13776 : mm_I s11 p0 0 = mm_I q2.2 p0 0 := by rw [← es11]; exact rd_k t_p0 tq5 (by decide)
                              have w13778 := rdA_fr (k := 9) (j := 0) gq30 cs11 t_p0 (κ' := 59) rfl rfl rfl
                              have w13780 : rdA s11 p0 9 0 = mm_I s11 q17 ((0 : Int32)).toNatClampNeg := rdA_eq eq17
                              have w13779 : rdA s11 p0 9 0 = rdA q2.2 p0 9 0 := by rw [← es11]; exact rdA_k cq2 t_p0 (κ' := 59) rfl tq5 (by decide)
                              have w13781 := rdA_fr (k := 9) (j := 0) gq2 c0 t_p0 (κ' := 59) rfl rfl rfl
                              have w13783 := rdA_fr (k := 10) (j := 0) gq30 cs11 t_p0 (κ' := 60) rfl rfl rfl
                              have w13784 : rdA s11 p0 10 0 = rdA q2.2 p0 10 0 := by rw [← es11]; exact rdA_j (by decide)
                              have w13786 : rdA q2.2 p0 10 0 = mm_I q2.2 q5 ((0 : Int32)).toNatClampNeg := rdA_eq eq5
                              have w13785 := rdA_fr (k := 10) (j := 0) gq2 c0 t_p0 (κ' := 60) rfl rfl rfl
                              have w13788 := rdA_fr (k := 10) (j := 1) gq30 cs11 t_p0 (κ' := 60) rfl rfl rfl
                              have w13789 : rdA s11 p0 10 1 = -1 := by rw [← es11]; exact rdA_self eq5
                              have w13790 := rdA_fr (k := 9) (j := 1) gq30 cs11 t_p0 (κ' := 59) rfl rfl rfl
                              have w13792 : rdA s11 p0 9 1 = mm_I s11 q17 ((1 : Int32)).toNatClampNeg := rdA_eq eq17
                              have w13791 : rdA s11 p0 9 1 = rdA q2.2 p0 9 1 := by rw [← es11]; exact rdA_k cq2 t_p0 (κ' := 59) rfl tq5 (by decide)
                              have w13793 := rdA_fr (k := 9) (j := 1) gq2 c0 t_p0 (κ' := 59) rfl rfl rfl
                              have w13797 : rdA q2.2 p0 10 1 = mm_I q2.2 q5 ((1 : Int32)).toNatClampNeg := rdA_eq eq5
                              have w13796 := rdA_fr (k := 10) (j := 1) gq2 c0 t_p0 (κ' := 60) rfl rfl rfl
                              have a13798 := zi_and p2 8 (by decide)
                              exact sw_some ⟨cq30, fq30, (by (try simp only [zp, zo, zq] at u11064 xq2 h11065 xq12 h11078 xq14 a11098 u11099 h11100 h11101 h11102 h12338 h12593 a12848 h12849 h13094 h13339 w13584 w13585 r13586 r13587 r13588 h13589 h13609 h13729 h13774 w13775 w13776 w13778 w13780 w13779 w13781 w13783 w13784 w13786 w13785 w13788 w13789 w13790 w13792 w13791 w13793 w13797 w13796 a13798 ⊢) <;> (try simp only [zz, Int32.reduceToInt, ne_eq] at u11064 xq2 h11065 xq12 h11078 xq14 a11098 u11099 h11100 h11101 h11102 h12338 h12593 a12848 h12849 h13094 h13339 w13584 w13585 r13586 r13587 r13588 h13589 h13609 h13729 h13774 w13775 w13776 w13778 w13780 w13779 w13781 w13783 w13784 w13786 w13785 w13788 w13789 w13790 w13792 w13791 w13793 w13797 w13796 a13798 ⊢) <;> (try simp (disch := omega) only [zb] at u11064 xq2 h11065 xq12 h11078 xq14 a11098 u11099 h11100 h11101 h11102 h12338 h12593 a12848 h12849 h13094 h13339 w13584 w13585 r13586 r13587 r13588 h13589 h13609 h13729 h13774 w13775 w13776 w13778 w13780 w13779 w13781 w13783 w13784 w13786 w13785 w13788 w13789 w13790 w13792 w13791 w13793 w13797 w13796 a13798 ⊢) <;> first | omega | ((try simp (disch := omega) only [zb] at u11064 xq2 h11065 xq12 h11078 xq14 a11098 u11099 h11100 h11101 h11102 h12338 h12593 a12848 h12849 h13094 h13339 w13584 w13585 r13586 r13587 r13588 h13589 h13609 h13729 h13774 w13775 w13776 w13778 w13780 w13779 w13781 w13783 w13784 w13786 w13785 w13788 w13789 w13790 w13792 w13791 w13793 w13797 w13796 a13798 ⊢) <;> omega))⟩
                            · refine sw_sh (ci_sh cq30 t_p0 rfl) ?_
                              refine sw_on (sX9_put cq30 t_p0 (by (try simp only [zp, zo, zq] at u11064 xq2 h11065 xq12 h11078 xq14 a11098 u11099 h11100 h11101 h11102 h12338 h12593 a12848 h12849 h13094 h13339 w13584 w13585 r13586 r13587 r13588 h13589 h13609 h13729 h13774 ⊢) <;> (try simp only [zz, Int32.reduceToInt, ne_eq] at u11064 xq2 h11065 xq12 h11078 xq14 a11098 u11099 h11100 h11101 h11102 h12338 h12593 a12848 h12849 h13094 h13339 w13584 w13585 r13586 r13587 r13588 h13589 h13609 h13729 h13774 ⊢) <;> (try simp (disch := omega) only [zb] at u11064 xq2 h11065 xq12 h11078 xq14 a11098 u11099 h11100 h11101 h11102 h12338 h12593 a12848 h12849 h13094 h13339 w13584 w13585 r13586 r13587 r13588 h13589 h13609 h13729 h13774 ⊢) <;> first | omega | ((try simp (disch := omega) only [zb] at u11064 xq2 h11065 xq12 h11078 xq14 a11098 u11099 h11100 h11101 h11102 h12338 h12593 a12848 h12849 h13094 h13339 w13584 w13585 r13586 r13587 r13588 h13589 h13609 h13729 h13774 ⊢) <;> omega)) ) ?_
                              intro q28 hqq28
                              obtain ⟨cq28, gq28, xq28⟩ := hqq28
                              have fq28 := fr_trans fq30 gq28 rfl
                              have w13799 := (gq28.2.2 _ _ t_p0 0 rfl).1
                              have w13800 := (gq30.2.2 _ _ t_p0 0 rfl).1
                              have w13801 : mm_I s11 p0 0 = mm_I q2.2 p0 0 := by rw [← es11]; exact rd_k t_p0 tq5 (by decide)
                              have w13803 := rdA_fr (k := 9) (j := 0) gq28 cq30 t_p0 (κ' := 59) rfl rfl rfl
                              have w13804 := rdA_fr (k := 9) (j := 0) gq30 cs11 t_p0 (κ' := 59) rfl rfl rfl
                              have w13806 : rdA s11 p0 9 0 = mm_I s11 q17 ((0 : Int32)).toNatClampNeg := rdA_eq eq17
                              have w13805 : rdA s11 p0 9 0 = rdA q2.2 p0 9 0 := by rw [← es11]; exact rdA_k cq2 t_p0 (κ' := 59) rfl tq5 (by decide)
                              have w13807 := rdA_fr (k := 9) (j := 0) gq2 c0 t_p0 (κ' := 59) rfl rfl rfl
                              have w13809 := rdA_fr (k := 10) (j := 0) gq28 cq30 t_p0 (κ' := 60) rfl rfl rfl
                              have w13810 := rdA_fr (k := 10) (j := 0) gq30 cs11 t_p0 (κ' := 60) rfl rfl rfl
                              have w13811 : rdA s11 p0 10 0 = rdA q2.2 p0 10 0 := by rw [← es11]; exact rdA_j (by decide)
                              have w13813 : rdA q2.2 p0 10 0 = mm_I q2.2 q5 ((0 : Int32)).toNatClampNeg := rdA_eq eq5
                              have w13812 := rdA_fr (k := 10) (j := 0) gq2 c0 t_p0 (κ' := 60) rfl rfl rfl
                              have w13815 := rdA_fr (k := 10) (j := 1) gq28 cq30 t_p0 (κ' := 60) rfl rfl rfl
                              have w13816 := rdA_fr (k := 10) (j := 1) gq30 cs11 t_p0 (κ' := 60) rfl rfl rfl
                              have w13817 : rdA s11 p0 10 1 = -1 := by rw [← es11]; exact rdA_self eq5
                              have w13818 := rdA_fr (k := 9) (j := 1) gq28 cq30 t_p0 (κ' := 59) rfl rfl rfl
                              have w13819 := rdA_fr (k := 9) (j := 1) gq30 cs11 t_p0 (κ' := 59) rfl rfl rfl
                              have w13821 : rdA s11 p0 9 1 = mm_I s11 q17 ((1 : Int32)).toNatClampNeg := rdA_eq eq17
                              have w13820 : rdA s11 p0 9 1 = rdA q2.2 p0 9 1 := by rw [← es11]; exact rdA_k cq2 t_p0 (κ' := 59) rfl tq5 (by decide)
                              have w13822 := rdA_fr (k := 9) (j := 1) gq2 c0 t_p0 (κ' := 59) rfl rfl rfl
                              have w13826 : rdA q2.2 p0 10 1 = mm_I q2.2 q5 ((1 : Int32)).toNatClampNeg := rdA_eq eq5
                              have w13825 := rdA_fr (k := 10) (j := 1) gq2 c0 t_p0 (κ' := 60) rfl rfl rfl
                              have a13827 := zi_and p2 8 (by decide)
                              exact sw_some ⟨cq28, fq28, (by (try simp only [zp, zo, zq] at u11064 xq2 h11065 xq12 h11078 xq14 a11098 u11099 h11100 h11101 h11102 h12338 h12593 a12848 h12849 h13094 h13339 w13584 w13585 r13586 r13587 r13588 h13589 h13609 h13729 h13774 w13799 w13800 w13801 w13803 w13804 w13806 w13805 w13807 w13809 w13810 w13811 w13813 w13812 w13815 w13816 w13817 w13818 w13819 w13821 w13820 w13822 w13826 w13825 a13827 ⊢) <;> (try simp only [zz, Int32.reduceToInt, ne_eq] at u11064 xq2 h11065 xq12 h11078 xq14 a11098 u11099 h11100 h11101 h11102 h12338 h12593 a12848 h12849 h13094 h13339 w13584 w13585 r13586 r13587 r13588 h13589 h13609 h13729 h13774 w13799 w13800 w13801 w13803 w13804 w13806 w13805 w13807 w13809 w13810 w13811 w13813 w13812 w13815 w13816 w13817 w13818 w13819 w13821 w13820 w13822 w13826 w13825 a13827 ⊢) <;> (try simp (disch := omega) only [zb] at u11064 xq2 h11065 xq12 h11078 xq14 a11098 u11099 h11100 h11101 h11102 h12338 h12593 a12848 h12849 h13094 h13339 w13584 w13585 r13586 r13587 r13588 h13589 h13609 h13729 h13774 w13799 w13800 w13801 w13803 w13804 w13806 w13805 w13807 w13809 w13810 w13811 w13813 w13812 w13815 w13816 w13817 w13818 w13819 w13821 w13820 w13822 w13826 w13825 a13827 ⊢) <;> first | omega | ((try simp (disch := omega) only [zb] at u11064 xq2 h11065 xq12 h11078 xq14 a11098 u11099 h11100 h11101 h11102 h12338 h12593 a12848 h12849 h13094 h13339 w13584 w13585 r13586 r13587 r13588 h13589 h13609 h13729 h13774 w13799 w13800 w13801 w13803 w13804 w13806 w13805 w13807 w13809 w13810 w13811 w13813 w13812 w13815 w13816 w13817 w13818 w13819 w13821 w13820 w13822 w13826 w13825 a13827 ⊢) <;> omega))⟩
        · unfold fX9_pair_179
          refine sw_ite (fun h13828 => ?_) (fun h13828 => ?_)
          · unfold fX9_pair_198
            refine sw_ite (fun h13829 => ?_) (fun h13829 => ?_)
            · unfold fX9_pair_227
              unfold fX9_pair_228
              have w13830 : mm_I s11 q17 ((1 : Int32).toNatClampNeg) = mm_I q2.2 q17 ((1 : Int32).toNatClampNeg) := by rw [← es11]; exact rd_k tq17 tq5 (by decide)
              have w13831 := (gq2.2.2 _ _ tq17 ((1 : Int32).toNatClampNeg) rfl).1
              have r13832 := ci_rg c0 tq17 ((1 : Int32).toNatClampNeg) (lo := (-1)) (hi := 3) rfl
              have r13833 := ci_rg cq2 tq17 ((1 : Int32).toNatClampNeg) (lo := (-1)) (hi := 3) rfl
              have r13834 := ci_rg cs11 tq17 ((1 : Int32).toNatClampNeg) (lo := (-1)) (hi := 3) rfl
              refine sw_ite (fun h13835 => ?_) (fun h13835 => ?_)
              · have w13836 : mm_I s11 p0 0 = mm_I q2.2 p0 0 := by rw [← es11]; exact rd_k t_p0 tq5 (by decide)
                have w13839 : rdA s11 p0 9 0 = mm_I s11 q17 ((0 : Int32)).toNatClampNeg := rdA_eq eq17
                have w13838 : rdA s11 p0 9 0 = rdA q2.2 p0 9 0 := by rw [← es11]; exact rdA_k cq2 t_p0 (κ' := 59) rfl tq5 (by decide)
                have w13840 := rdA_fr (k := 9) (j := 0) gq2 c0 t_p0 (κ' := 59) rfl rfl rfl
                have w13842 : rdA s11 p0 10 0 = rdA q2.2 p0 10 0 := by rw [← es11]; exact rdA_j (by decide)
                have w13844 : rdA q2.2 p0 10 0 = mm_I q2.2 q5 ((0 : Int32)).toNatClampNeg := rdA_eq eq5
                have w13843 := rdA_fr (k := 10) (j := 0) gq2 c0 t_p0 (κ' := 60) rfl rfl rfl
                have w13846 : rdA s11 p0 10 1 = -1 := by rw [← es11]; exact rdA_self eq5
                have w13848 : rdA s11 p0 9 1 = mm_I s11 q17 ((1 : Int32)).toNatClampNeg := rdA_eq eq17
                have w13847 : rdA s11 p0 9 1 = rdA q2.2 p0 9 1 := by rw [← es11]; exact rdA_k cq2 t_p0 (κ' := 59) rfl tq5 (by decide)
                have w13849 := rdA_fr (k := 9) (j := 1) gq2 c0 t_p0 (κ' := 59) rfl rfl rfl
                have w13853 : rdA q2.2 p0 10 1 = mm_I q2.2 q5 ((1 : Int32)).toNatClampNeg := rdA_eq eq5
                have w13852 := rdA_fr (k := 10) (j := 1) gq2 c0 t_p0 (κ' := 60) rfl rfl rfl
                have a13854 := zi_and p3 127 (by decide)
                have a13855 := zi_and p2 8 (by decide)
                exact sw_some ⟨cs11, fs11, (by (try simp only [zp, zo, zq] at u11064 xq2 h11065 xq12 h11078 xq14 a11098 u11099 h11100 h11101 h13828 h13829 w13830 w13831 r13832 r13833 r13834 h13835 w13836 w13839 w13838 w13840 w13842 w13844 w13843 w13846 w13848 w13847 w13849 w13853 w13852 a13854 a13855 ⊢) <;> (try simp only [zz, Int32.reduceToInt, ne_eq] at u11064 xq2 h11065 xq12 h11078 xq14 a11098 u11099 h11100 h11101 h13828 h13829 w13830 w13831 r13832 r13833 r13834 h13835 w13836 w13839 w13838 w13840 w13842 w13844 w13843 w13846 w13848 w13847 w13849 w13853 w13852 a13854 a13855 ⊢) <;> (try simp (disch := omega) only [zb] at u11064 xq2 h11065 xq12 h11078 xq14 a11098 u11099 h11100 h11101 h13828 h13829 w13830 w13831 r13832 r13833 r13834 h13835 w13836 w13839 w13838 w13840 w13842 w13844 w13843 w13846 w13848 w13847 w13849 w13853 w13852 a13854 a13855 ⊢) <;> first | omega | ((try simp (disch := omega) only [zb] at u11064 xq2 h11065 xq12 h11078 xq14 a11098 u11099 h11100 h11101 h13828 h13829 w13830 w13831 r13832 r13833 r13834 h13835 w13836 w13839 w13838 w13840 w13842 w13844 w13843 w13846 w13848 w13847 w13849 w13853 w13852 a13854 a13855 ⊢) <;> omega))⟩
              · refine sw_ite (fun h13856 => ?_) (fun h13856 => ?_)
                · refine sw_ite (fun h13857 => ?_) (fun h13857 => ?_)
                  · have w13858 : mm_I s11 p0 0 = mm_I q2.2 p0 0 := by rw [← es11]; exact rd_k t_p0 tq5 (by decide)
                    have w13861 : rdA s11 p0 9 0 = mm_I s11 q17 ((0 : Int32)).toNatClampNeg := rdA_eq eq17
                    have w13860 : rdA s11 p0 9 0 = rdA q2.2 p0 9 0 := by rw [← es11]; exact rdA_k cq2 t_p0 (κ' := 59) rfl tq5 (by decide)
                    have w13862 := rdA_fr (k := 9) (j := 0) gq2 c0 t_p0 (κ' := 59) rfl rfl rfl
                    have w13864 : rdA s11 p0 10 0 = rdA q2.2 p0 10 0 := by rw [← es11]; exact rdA_j (by decide)
                    have w13866 : rdA q2.2 p0 10 0 = mm_I q2.2 q5 ((0 : Int32)).toNatClampNeg := rdA_eq eq5
                    have w13865 := rdA_fr (k := 10) (j := 0) gq2 c0 t_p0 (κ' := 60) rfl rfl rfl
                    have w13868 : rdA s11 p0 10 1 = -1 := by rw [← es11]; exact rdA_self eq5
                    have w13870 : rdA s11 p0 9 1 = mm_I s11 q17 ((1 : Int32)).toNatClampNeg := rdA_eq eq17
                    have w13869 : rdA s11 p0 9 1 = rdA q2.2 p0 9 1 := by rw [← es11]; exact rdA_k cq2 t_p0 (κ' := 59) rfl tq5 (by decide)
                    have w13871 := rdA_fr (k := 9) (j := 1) gq2 c0 t_p0 (κ' := 59) rfl rfl rfl
                    have w13875 : rdA q2.2 p0 10 1 = mm_I q2.2 q5 ((1 : Int32)).toNatClampNeg := rdA_eq eq5
                    have w13874 := rdA_fr (k := 10) (j := 1) gq2 c0 t_p0 (κ' := 60) rfl rfl rfl
                    have a13876 := zi_and p3 127 (by decide)
                    have a13877 := zi_and p2 8 (by decide)
                    exact sw_some ⟨cs11, fs11, (by (try simp only [zp, zo, zq] at u11064 xq2 h11065 xq12 h11078 xq14 a11098 u11099 h11100 h11101 h13828 h13829 w13830 w13831 r13832 r13833 r13834 h13835 h13856 h13857 w13858 w13861 w13860 w13862 w13864 w13866 w13865 w13868 w13870 w13869 w13871 w13875 w13874 a13876 a13877 ⊢) <;> (try simp only [zz, Int32.reduceToInt, ne_eq] at u11064 xq2 h11065 xq12 h11078 xq14 a11098 u11099 h11100 h11101 h13828 h13829 w13830 w13831 r13832 r13833 r13834 h13835 h13856 h13857 w13858 w13861 w13860 w13862 w13864 w13866 w13865 w13868 w13870 w13869 w13871 w13875 w13874 a13876 a13877 ⊢) <;> (try simp (disch := omega) only [zb] at u11064 xq2 h11065 xq12 h11078 xq14 a11098 u11099 h11100 h11101 h13828 h13829 w13830 w13831 r13832 r13833 r13834 h13835 h13856 h13857 w13858 w13861 w13860 w13862 w13864 w13866 w13865 w13868 w13870 w13869 w13871 w13875 w13874 a13876 a13877 ⊢) <;> first | omega | ((try simp (disch := omega) only [zb] at u11064 xq2 h11065 xq12 h11078 xq14 a11098 u11099 h11100 h11101 h13828 h13829 w13830 w13831 r13832 r13833 r13834 h13835 h13856 h13857 w13858 w13861 w13860 w13862 w13864 w13866 w13865 w13868 w13870 w13869 w13871 w13875 w13874 a13876 a13877 ⊢) <;> omega))⟩
                  · unfold fX9_pair_250
                    refine sw_ite (fun h13878 => ?_) (fun h13878 => ?_)
                    · unfold fX9_pair_264
                      refine sw_ite (fun h13879 => ?_) (fun h13879 => ?_)
                      · have w13880 : mm_I s11 p0 0 = mm_I q2.2 p0 0 := by rw [← es11]; exact rd_k t_p0 tq5 (by decide)
                        have w13883 : rdA s11 p0 9 0 = mm_I s11 q17 ((0 : Int32)).toNatClampNeg := rdA_eq eq17
                        have w13882 : rdA s11 p0 9 0 = rdA q2.2 p0 9 0 := by rw [← es11]; exact rdA_k cq2 t_p0 (κ' := 59) rfl tq5 (by decide)
                        have w13884 := rdA_fr (k := 9) (j := 0) gq2 c0 t_p0 (κ' := 59) rfl rfl rfl
                        have w13886 : rdA s11 p0 10 0 = rdA q2.2 p0 10 0 := by rw [← es11]; exact rdA_j (by decide)
                        have w13888 : rdA q2.2 p0 10 0 = mm_I q2.2 q5 ((0 : Int32)).toNatClampNeg := rdA_eq eq5
                        have w13887 := rdA_fr (k := 10) (j := 0) gq2 c0 t_p0 (κ' := 60) rfl rfl rfl
                        have w13890 : rdA s11 p0 10 1 = -1 := by rw [← es11]; exact rdA_self eq5
                        have w13892 : rdA s11 p0 9 1 = mm_I s11 q17 ((1 : Int32)).toNatClampNeg := rdA_eq eq17
                        have w13891 : rdA s11 p0 9 1 = rdA q2.2 p0 9 1 := by rw [← es11]; exact rdA_k cq2 t_p0 (κ' := 59) rfl tq5 (by decide)
                        have w13893 := rdA_fr (k := 9) (j := 1) gq2 c0 t_p0 (κ' := 59) rfl rfl rfl
                        have w13897 : rdA q2.2 p0 10 1 = mm_I q2.2 q5 ((1 : Int32)).toNatClampNeg := rdA_eq eq5
                        have w13896 := rdA_fr (k := 10) (j := 1) gq2 c0 t_p0 (κ' := 60) rfl rfl rfl
                        have a13898 := zi_and p3 127 (by decide)
                        have a13899 := zi_and p2 8 (by decide)
                        exact sw_some ⟨cs11, fs11, (by (try simp only [zp, zo, zq] at u11064 xq2 h11065 xq12 h11078 xq14 a11098 u11099 h11100 h11101 h13828 h13829 w13830 w13831 r13832 r13833 r13834 h13835 h13856 h13857 h13878 h13879 w13880 w13883 w13882 w13884 w13886 w13888 w13887 w13890 w13892 w13891 w13893 w13897 w13896 a13898 a13899 ⊢) <;> (try simp only [zz, Int32.reduceToInt, ne_eq] at u11064 xq2 h11065 xq12 h11078 xq14 a11098 u11099 h11100 h11101 h13828 h13829 w13830 w13831 r13832 r13833 r13834 h13835 h13856 h13857 h13878 h13879 w13880 w13883 w13882 w13884 w13886 w13888 w13887 w13890 w13892 w13891 w13893 w13897 w13896 a13898 a13899 ⊢) <;> (try simp (disch := omega) only [zb] at u11064 xq2 h11065 xq12 h11078 xq14 a11098 u11099 h11100 h11101 h13828 h13829 w13830 w13831 r13832 r13833 r13834 h13835 h13856 h13857 h13878 h13879 w13880 w13883 w13882 w13884 w13886 w13888 w13887 w13890 w13892 w13891 w13893 w13897 w13896 a13898 a13899 ⊢) <;> first | omega | ((try simp (disch := omega) only [zb] at u11064 xq2 h11065 xq12 h11078 xq14 a11098 u11099 h11100 h11101 h13828 h13829 w13830 w13831 r13832 r13833 r13834 h13835 h13856 h13857 h13878 h13879 w13880 w13883 w13882 w13884 w13886 w13888 w13887 w13890 w13892 w13891 w13893 w13897 w13896 a13898 a13899 ⊢) <;> omega))⟩
                      · refine sw_sh (ci_sh cs11 t_p0 rfl) ?_
                        refine sw_on (sX9_put cs11 t_p0 (by (try simp only [zp, zo, zq] at u11064 xq2 h11065 xq12 h11078 xq14 a11098 u11099 h11100 h11101 h13828 h13829 w13830 w13831 r13832 r13833 r13834 h13835 h13856 h13857 h13878 h13879 ⊢) <;> (try simp only [zz, Int32.reduceToInt, ne_eq] at u11064 xq2 h11065 xq12 h11078 xq14 a11098 u11099 h11100 h11101 h13828 h13829 w13830 w13831 r13832 r13833 r13834 h13835 h13856 h13857 h13878 h13879 ⊢) <;> (try simp (disch := omega) only [zb] at u11064 xq2 h11065 xq12 h11078 xq14 a11098 u11099 h11100 h11101 h13828 h13829 w13830 w13831 r13832 r13833 r13834 h13835 h13856 h13857 h13878 h13879 ⊢) <;> first | omega | ((try simp (disch := omega) only [zb] at u11064 xq2 h11065 xq12 h11078 xq14 a11098 u11099 h11100 h11101 h13828 h13829 w13830 w13831 r13832 r13833 r13834 h13835 h13856 h13857 h13878 h13879 ⊢) <;> omega)) ) ?_
                        intro q28 hqq28
                        obtain ⟨cq28, gq28, xq28⟩ := hqq28
                        have fq28 := fr_trans fs11 gq28 rfl
                        have w13900 := (gq28.2.2 _ _ t_p0 0 rfl).1
                        have w13901 : mm_I s11 p0 0 = mm_I q2.2 p0 0 := by rw [← es11]; exact rd_k t_p0 tq5 (by decide)
                        have w13903 := rdA_fr (k := 9) (j := 0) gq28 cs11 t_p0 (κ' := 59) rfl rfl rfl
                        have w13905 : rdA s11 p0 9 0 = mm_I s11 q17 ((0 : Int32)).toNatClampNeg := rdA_eq eq17
                        have w13904 : rdA s11 p0 9 0 = rdA q2.2 p0 9 0 := by rw [← es11]; exact rdA_k cq2 t_p0 (κ' := 59) rfl tq5 (by decide)
                        have w13906 := rdA_fr (k := 9) (j := 0) gq2 c0 t_p0 (κ' := 59) rfl rfl rfl
                        have w13908 := rdA_fr (k := 10) (j := 0) gq28 cs11 t_p0 (κ' := 60) rfl rfl rfl
                        have w13909 : rdA s11 p0 10 0 = rdA q2.2 p0 10 0 := by rw [← es11]; exact rdA_j (by decide)
                        have w13911 : rdA q2.2 p0 10 0 = mm_I q2.2 q5 ((0 : Int32)).toNatClampNeg := rdA_eq eq5
                        have w13910 := rdA_fr (k := 10) (j := 0) gq2 c0 t_p0 (κ' := 60) rfl rfl rfl
                        have w13913 := rdA_fr (k := 10) (j := 1) gq28 cs11 t_p0 (κ' := 60) rfl rfl rfl
                        have w13914 : rdA s11 p0 10 1 = -1 := by rw [← es11]; exact rdA_self eq5
                        have w13915 := rdA_fr (k := 9) (j := 1) gq28 cs11 t_p0 (κ' := 59) rfl rfl rfl
                        have w13917 : rdA s11 p0 9 1 = mm_I s11 q17 ((1 : Int32)).toNatClampNeg := rdA_eq eq17
                        have w13916 : rdA s11 p0 9 1 = rdA q2.2 p0 9 1 := by rw [← es11]; exact rdA_k cq2 t_p0 (κ' := 59) rfl tq5 (by decide)
                        have w13918 := rdA_fr (k := 9) (j := 1) gq2 c0 t_p0 (κ' := 59) rfl rfl rfl
                        have w13922 : rdA q2.2 p0 10 1 = mm_I q2.2 q5 ((1 : Int32)).toNatClampNeg := rdA_eq eq5
                        have w13921 := rdA_fr (k := 10) (j := 1) gq2 c0 t_p0 (κ' := 60) rfl rfl rfl
                        have a13923 := zi_and p3 127 (by decide)
                        have a13924 := zi_and p2 8 (by decide)
                        exact sw_some ⟨cq28, fq28, (by (try simp only [zp, zo, zq] at u11064 xq2 h11065 xq12 h11078 xq14 a11098 u11099 h11100 h11101 h13828 h13829 w13830 w13831 r13832 r13833 r13834 h13835 h13856 h13857 h13878 h13879 w13900 w13901 w13903 w13905 w13904 w13906 w13908 w13909 w13911 w13910 w13913 w13914 w13915 w13917 w13916 w13918 w13922 w13921 a13923 a13924 ⊢) <;> (try simp only [zz, Int32.reduceToInt, ne_eq] at u11064 xq2 h11065 xq12 h11078 xq14 a11098 u11099 h11100 h11101 h13828 h13829 w13830 w13831 r13832 r13833 r13834 h13835 h13856 h13857 h13878 h13879 w13900 w13901 w13903 w13905 w13904 w13906 w13908 w13909 w13911 w13910 w13913 w13914 w13915 w13917 w13916 w13918 w13922 w13921 a13923 a13924 ⊢) <;> (try simp (disch := omega) only [zb] at u11064 xq2 h11065 xq12 h11078 xq14 a11098 u11099 h11100 h11101 h13828 h13829 w13830 w13831 r13832 r13833 r13834 h13835 h13856 h13857 h13878 h13879 w13900 w13901 w13903 w13905 w13904 w13906 w13908 w13909 w13911 w13910 w13913 w13914 w13915 w13917 w13916 w13918 w13922 w13921 a13923 a13924 ⊢) <;> first | omega | ((try simp (disch := omega) only [zb] at u11064 xq2 h11065 xq12 h11078 xq14 a11098 u11099 h11100 h11101 h13828 h13829 w13830 w13831 r13832 r13833 r13834 h13835 h13856 h13857 h13878 h13879 w13900 w13901 w13903 w13905 w13904 w13906 w13908 w13909 w13911 w13910 w13913 w13914 w13915 w13917 w13916 w13918 w13922 w13921 a13923 a13924 ⊢) <;> omega))⟩
                    · refine sw_sh (ci_sh cs11 t_p0 rfl) ?_
                      refine sw_on (sX9_put cs11 t_p0 (by (try simp only [zp, zo, zq] at u11064 xq2 h11065 xq12 h11078 xq14 a11098 u11099 h11100 h11101 h13828 h13829 w13830 w13831 r13832 r13833 r13834 h13835 h13856 h13857 h13878 ⊢) <;> (try simp only [zz, Int32.reduceToInt, ne_eq] at u11064 xq2 h11065 xq12 h11078 xq14 a11098 u11099 h11100 h11101 h13828 h13829 w13830 w13831 r13832 r13833 r13834 h13835 h13856 h13857 h13878 ⊢) <;> (try simp (disch := omega) only [zb] at u11064 xq2 h11065 xq12 h11078 xq14 a11098 u11099 h11100 h11101 h13828 h13829 w13830 w13831 r13832 r13833 r13834 h13835 h13856 h13857 h13878 ⊢) <;> first | omega | ((try simp (disch := omega) only [zb] at u11064 xq2 h11065 xq12 h11078 xq14 a11098 u11099 h11100 h11101 h13828 h13829 w13830 w13831 r13832 r13833 r13834 h13835 h13856 h13857 h13878 ⊢) <;> omega)) ) ?_
                      intro q30 hqq30
                      obtain ⟨cq30, gq30, xq30⟩ := hqq30
                      have fq30 := fr_trans fs11 gq30 rfl
                      unfold fX9_pair_264
                      refine sw_ite (fun h13925 => ?_) (fun h13925 => ?_)
                      · have w13926 := (gq30.2.2 _ _ t_p0 0 rfl).1
                        have w13927 : mm_I s11 p0 0 = mm_I q2.2 p0 0 := by rw [← es11]; exact rd_k t_p0 tq5 (by decide)
                        have w13929 := rdA_fr (k := 9) (j := 0) gq30 cs11 t_p0 (κ' := 59) rfl rfl rfl
                        have w13931 : rdA s11 p0 9 0 = mm_I s11 q17 ((0 : Int32)).toNatClampNeg := rdA_eq eq17
                        have w13930 : rdA s11 p0 9 0 = rdA q2.2 p0 9 0 := by rw [← es11]; exact rdA_k cq2 t_p0 (κ' := 59) rfl tq5 (by decide)
                        have w13932 := rdA_fr (k := 9) (j := 0) gq2 c0 t_p0 (κ' := 59) rfl rfl rfl
                        have w13934 := rdA_fr (k := 10) (j := 0) gq30 cs11 t_p0 (κ' := 60) rfl rfl rfl
                        have w13935 : rdA s11 p0 10 0 = rdA q2.2 p0 10 0 := by rw [← es11]; exact rdA_j (by decide)
                        have w13937 : rdA q2.2 p0 10 0 = mm_I q2.2 q5 ((0 : Int32)).toNatClampNeg := rdA_eq eq5
                        have w13936 := rdA_fr (k := 10) (j := 0) gq2 c0 t_p0 (κ' := 60) rfl rfl rfl
                        have w13939 := rdA_fr (k := 10) (j := 1) gq30 cs11 t_p0 (κ' := 60) rfl rfl rfl
                        have w13940 : rdA s11 p0 10 1 = -1 := by rw [← es11]; exact rdA_self eq5
                        have w13941 := rdA_fr (k := 9) (j := 1) gq30 cs11 t_p0 (κ' := 59) rfl rfl rfl
                        have w13943 : rdA s11 p0 9 1 = mm_I s11 q17 ((1 : Int32)).toNatClampNeg := rdA_eq eq17
                        have w13942 : rdA s11 p0 9 1 = rdA q2.2 p0 9 1 := by rw [← es11]; exact rdA_k cq2 t_p0 (κ' := 59) rfl tq5 (by decide)
                        have w13944 := rdA_fr (k := 9) (j := 1) gq2 c0 t_p0 (κ' := 59) rfl rfl rfl
                        have w13948 : rdA q2.2 p0 10 1 = mm_I q2.2 q5 ((1 : Int32)).toNatClampNeg := rdA_eq eq5
                        have w13947 := rdA_fr (k := 10) (j := 1) gq2 c0 t_p0 (κ' := 60) rfl rfl rfl
                        have a13949 := zi_and p3 127 (by decide)
                        have a13950 := zi_and p2 8 (by decide)
                        exact sw_some ⟨cq30, fq30, (by (try simp only [zp, zo, zq] at u11064 xq2 h11065 xq12 h11078 xq14 a11098 u11099 h11100 h11101 h13828 h13829 w13830 w13831 r13832 r13833 r13834 h13835 h13856 h13857 h13878 h13925 w13926 w13927 w13929 w13931 w13930 w13932 w13934 w13935 w13937 w13936 w13939 w13940 w13941 w13943 w13942 w13944 w13948 w13947 a13949 a13950 ⊢) <;> (try simp only [zz, Int32.reduceToInt, ne_eq] at u11064 xq2 h11065 xq12 h11078 xq14 a11098 u11099 h11100 h11101 h13828 h13829 w13830 w13831 r13832 r13833 r13834 h13835 h13856 h13857 h13878 h13925 w13926 w13927 w13929 w13931 w13930 w13932 w13934 w13935 w13937 w13936 w13939 w13940 w13941 w13943 w13942 w13944 w13948 w13947 a13949 a13950 ⊢) <;> (try simp (disch := omega) only [zb] at u11064 xq2 h11065 xq12 h11078 xq14 a11098 u11099 h11100 h11101 h13828 h13829 w13830 w13831 r13832 r13833 r13834 h13835 h13856 h13857 h13878 h13925 w13926 w13927 w13929 w13931 w13930 w13932 w13934 w13935 w13937 w13936 w13939 w13940 w13941 w13943 w13942 w13944 w13948 w13947 a13949 a13950 ⊢) <;> first | omega | ((try simp (disch := omega) only [zb] at u11064 xq2 h11065 xq12 h11078 xq14 a11098 u11099 h11100 h11101 h13828 h13829 w13830 w13831 r13832 r13833 r13834 h13835 h13856 h13857 h13878 h13925 w13926 w13927 w13929 w13931 w13930 w13932 w13934 w13935 w13937 w13936 w13939 w13940 w13941 w13943 w13942 w13944 w13948 w13947 a13949 a13950 ⊢) <;> omega))⟩
                      · refine sw_sh (ci_sh cq30 t_p0 rfl) ?_
                        refine sw_on (sX9_put cq30 t_p0 (by (try simp only [zp, zo, zq] at u11064 xq2 h11065 xq12 h11078 xq14 a11098 u11099 h11100 h11101 h13828 h13829 w13830 w13831 r13832 r13833 r13834 h13835 h13856 h13857 h13878 h13925 ⊢) <;> (try simp only [zz, Int32.reduceToInt, ne_eq] at u11064 xq2 h11065 xq12 h11078 xq14 a11098 u11099 h11100 h11101 h13828 h13829 w13830 w13831 r13832 r13833 r13834 h13835 h13856 h13857 h13878 h13925 ⊢) <;> (try simp (disch := omega) only [zb] at u11064 xq2 h11065 xq12 h11078 xq14 a11098 u11099 h11100 h11101 h13828 h13829 w13830 w13831 r13832 r13833 r13834 h13835 h13856 h13857 h13878 h13925 ⊢) <;> first | omega | ((try simp (disch := omega) only [zb] at u11064 xq2 h11065 xq12 h11078 xq14 a11098 u11099 h11100 h11101 h13828 h13829 w13830 w13831 r13832 r13833 r13834 h13835 h13856 h13857 h13878 h13925 ⊢) <;> omega)) ) ?_
                        intro q28 hqq28
                        obtain ⟨cq28, gq28, xq28⟩ := hqq28
                        have fq28 := fr_trans fq30 gq28 rfl
                        have w13951 := (gq28.2.2 _ _ t_p0 0 rfl).1
                        have w13952 := (gq30.2.2 _ _ t_p0 0 rfl).1
                        have w13953 : mm_I s11 p0 0 = mm_I q2.2 p0 0 := by rw [← es11]; exact rd_k t_p0 tq5 (by decide)
                        have w13955 := rdA_fr (k := 9) (j := 0) gq28 cq30 t_p0 (κ' := 59) rfl rfl rfl
                        have w13956 := rdA_fr (k := 9) (j := 0) gq30 cs11 t_p0 (κ' := 59) rfl rfl rfl
                        have w13958 : rdA s11 p0 9 0 = mm_I s11 q17 ((0 : Int32)).toNatClampNeg := rdA_eq eq17
                        have w13957 : rdA s11 p0 9 0 = rdA q2.2 p0 9 0 := by rw [← es11]; exact rdA_k cq2 t_p0 (κ' := 59) rfl tq5 (by decide)
                        have w13959 := rdA_fr (k := 9) (j := 0) gq2 c0 t_p0 (κ' := 59) rfl rfl rfl
                        have w13961 := rdA_fr (k := 10) (j := 0) gq28 cq30 t_p0 (κ' := 60) rfl rfl rfl
                        have w13962 := rdA_fr (k := 10) (j := 0) gq30 cs11 t_p0 (κ' := 60) rfl rfl rfl
                        have w13963 : rdA s11 p0 10 0 = rdA q2.2 p0 10 0 := by rw [← es11]; exact rdA_j (by decide)
                        have w13965 : rdA q2.2 p0 10 0 = mm_I q2.2 q5 ((0 : Int32)).toNatClampNeg := rdA_eq eq5
                        have w13964 := rdA_fr (k := 10) (j := 0) gq2 c0 t_p0 (κ' := 60) rfl rfl rfl
                        have w13967 := rdA_fr (k := 10) (j := 1) gq28 cq30 t_p0 (κ' := 60) rfl rfl rfl
                        have w13968 := rdA_fr (k := 10) (j := 1) gq30 cs11 t_p0 (κ' := 60) rfl rfl rfl
                        have w13969 : rdA s11 p0 10 1 = -1 := by rw [← es11]; exact rdA_self eq5
                        have w13970 := rdA_fr (k := 9) (j := 1) gq28 cq30 t_p0 (κ' := 59) rfl rfl rfl
                        have w13971 := rdA_fr (k := 9) (j := 1) gq30 cs11 t_p0 (κ' := 59) rfl rfl rfl
                        have w13973 : rdA s11 p0 9 1 = mm_I s11 q17 ((1 : Int32)).toNatClampNeg := rdA_eq eq17
                        have w13972 : rdA s11 p0 9 1 = rdA q2.2 p0 9 1 := by rw [← es11]; exact rdA_k cq2 t_p0 (κ' := 59) rfl tq5 (by decide)
                        have w13974 := rdA_fr (k := 9) (j := 1) gq2 c0 t_p0 (κ' := 59) rfl rfl rfl
                        have w13978 : rdA q2.2 p0 10 1 = mm_I q2.2 q5 ((1 : Int32)).toNatClampNeg := rdA_eq eq5
                        have w13977 := rdA_fr (k := 10) (j := 1) gq2 c0 t_p0 (κ' := 60) rfl rfl rfl
                        have a13979 := zi_and p3 127 (by decide)
                        have a13980 := zi_and p2 8 (by decide)
                        exact sw_some ⟨cq28, fq28, (by (try simp only [zp, zo, zq] at u11064 xq2 h11065 xq12 h11078 xq14 a11098 u11099 h11100 h11101 h13828 h13829 w13830 w13831 r13832 r13833 r13834 h13835 h13856 h13857 h13878 h13925 w13951 w13952 w13953 w13955 w13956 w13958 w13957 w13959 w13961 w13962 w13963 w13965 w13964 w13967 w13968 w13969 w13970 w13971 w13973 w13972 w13974 w13978 w13977 a13979 a13980 ⊢) <;> (try simp only [zz, Int32.reduceToInt, ne_eq] at u11064 xq2 h11065 xq12 h11078 xq14 a11098 u11099 h11100 h11101 h13828 h13829 w13830 w13831 r13832 r13833 r13834 h13835 h13856 h13857 h13878 h13925 w13951 w13952 w13953 w13955 w13956 w13958 w13957 w13959 w13961 w13962 w13963 w13965 w13964 w13967 w13968 w13969 w13970 w13971 w13973 w13972 w13974 w13978 w13977 a13979 a13980 ⊢) <;> (try simp (disch := omega) only [zb] at u11064 xq2 h11065 xq12 h11078 xq14 a11098 u11099 h11100 h11101 h13828 h13829 w13830 w13831 r13832 r13833 r13834 h13835 h13856 h13857 h13878 h13925 w13951 w13952 w13953 w13955 w13956 w13958 w13957 w13959 w13961 w13962 w13963 w13965 w13964 w13967 w13968 w13969 w13970 w13971 w13973 w13972 w13974 w13978 w13977 a13979 a13980 ⊢) <;> first | omega | ((try simp (disch := omega) only [zb] at u11064 xq2 h11065 xq12 h11078 xq14 a11098 u11099 h11100 h11101 h13828 h13829 w13830 w13831 r13832 r13833 r13834 h13835 h13856 h13857 h13878 h13925 w13951 w13952 w13953 w13955 w13956 w13958 w13957 w13959 w13961 w13962 w13963 w13965 w13964 w13967 w13968 w13969 w13970 w13971 w13973 w13972 w13974 w13978 w13977 a13979 a13980 ⊢) <;> omega))⟩
                · unfold fX9_pair_250
                  refine sw_ite (fun h13981 => ?_) (fun h13981 => ?_)
                  · unfold fX9_pair_264
                    refine sw_ite (fun h13982 => ?_) (fun h13982 => ?_)
                    · have w13983 : mm_I s11 p0 0 = mm_I q2.2 p0 0 := by rw [← es11]; exact rd_k t_p0 tq5 (by decide)
                      have w13986 : rdA s11 p0 9 0 = mm_I s11 q17 ((0 : Int32)).toNatClampNeg := rdA_eq eq17
                      have w13985 : rdA s11 p0 9 0 = rdA q2.2 p0 9 0 := by rw [← es11]; exact rdA_k cq2 t_p0 (κ' := 59) rfl tq5 (by decide)
                      have w13987 := rdA_fr (k := 9) (j := 0) gq2 c0 t_p0 (κ' := 59) rfl rfl rfl
                      have w13989 : rdA s11 p0 10 0 = rdA q2.2 p0 10 0 := by rw [← es11]; exact rdA_j (by decide)
                      have w13991 : rdA q2.2 p0 10 0 = mm_I q2.2 q5 ((0 : Int32)).toNatClampNeg := rdA_eq eq5
                      have w13990 := rdA_fr (k := 10) (j := 0) gq2 c0 t_p0 (κ' := 60) rfl rfl rfl
                      have w13993 : rdA s11 p0 10 1 = -1 := by rw [← es11]; exact rdA_self eq5
                      have w13995 : rdA s11 p0 9 1 = mm_I s11 q17 ((1 : Int32)).toNatClampNeg := rdA_eq eq17
                      have w13994 : rdA s11 p0 9 1 = rdA q2.2 p0 9 1 := by rw [← es11]; exact rdA_k cq2 t_p0 (κ' := 59) rfl tq5 (by decide)
                      have w13996 := rdA_fr (k := 9) (j := 1) gq2 c0 t_p0 (κ' := 59) rfl rfl rfl
                      have w14000 : rdA q2.2 p0 10 1 = mm_I q2.2 q5 ((1 : Int32)).toNatClampNeg := rdA_eq eq5
                      have w13999 := rdA_fr (k := 10) (j := 1) gq2 c0 t_p0 (κ' := 60) rfl rfl rfl
                      have a14001 := zi_and p3 127 (by decide)
                      have a14002 := zi_and p2 8 (by decide)
                      exact sw_some ⟨cs11, fs11, (by (try simp only [zp, zo, zq] at u11064 xq2 h11065 xq12 h11078 xq14 a11098 u11099 h11100 h11101 h13828 h13829 w13830 w13831 r13832 r13833 r13834 h13835 h13856 h13981 h13982 w13983 w13986 w13985 w13987 w13989 w13991 w13990 w13993 w13995 w13994 w13996 w14000 w13999 a14001 a14002 ⊢) <;> (try simp only [zz, Int32.reduceToInt, ne_eq] at u11064 xq2 h11065 xq12 h11078 xq14 a11098 u11099 h11100 h11101 h13828 h13829 w13830 w13831 r13832 r13833 r13834 h13835 h13856 h13981 h13982 w13983 w13986 w13985 w13987 w13989 w13991 w13990 w13993 w13995 w13994 w13996 w14000 w13999 a14001 a14002 ⊢) <;> (try simp (disch := omega) only [zb] at u11064 xq2 h11065 xq12 h11078 xq14 a11098 u11099 h11100 h11101 h13828 h13829 w13830 w13831 r13832 r13833 r13834 h13835 h13856 h13981 h13982 w13983 w13986 w13985 w13987 w13989 w13991 w13990 w13993 w13995 w13994 w13996 w14000 w13999 a14001 a14002 ⊢) <;> first | omega | ((try simp (disch := omega) only [zb] at u11064 xq2 h11065 xq12 h11078 xq14 a11098 u11099 h11100 h11101 h13828 h13829 w13830 w13831 r13832 r13833 r13834 h13835 h13856 h13981 h13982 w13983 w13986 w13985 w13987 w13989 w13991 w13990 w13993 w13995 w13994 w13996 w14000 w13999 a14001 a14002 ⊢) <;> omega))⟩
                    · refine sw_sh (ci_sh cs11 t_p0 rfl) ?_
                      refine sw_on (sX9_put cs11 t_p0 (by (try simp only [zp, zo, zq] at u11064 xq2 h11065 xq12 h11078 xq14 a11098 u11099 h11100 h11101 h13828 h13829 w13830 w13831 r13832 r13833 r13834 h13835 h13856 h13981 h13982 ⊢) <;> (try simp only [zz, Int32.reduceToInt, ne_eq] at u11064 xq2 h11065 xq12 h11078 xq14 a11098 u11099 h11100 h11101 h13828 h13829 w13830 w13831 r13832 r13833 r13834 h13835 h13856 h13981 h13982 ⊢) <;> (try simp (disch := omega) only [zb] at u11064 xq2 h11065 xq12 h11078 xq14 a11098 u11099 h11100 h11101 h13828 h13829 w13830 w13831 r13832 r13833 r13834 h13835 h13856 h13981 h13982 ⊢) <;> first | omega | ((try simp (disch := omega) only [zb] at u11064 xq2 h11065 xq12 h11078 xq14 a11098 u11099 h11100 h11101 h13828 h13829 w13830 w13831 r13832 r13833 r13834 h13835 h13856 h13981 h13982 ⊢) <;> omega)) ) ?_
                      intro q28 hqq28
                      obtain ⟨cq28, gq28, xq28⟩ := hqq28
                      have fq28 := fr_trans fs11 gq28 rfl
                      have w14003 := (gq28.2.2 _ _ t_p0 0 rfl).1
                      have w14004 : mm_I s11 p0 0 = mm_I q2.2 p0 0 := by rw [← es11]; exact rd_k t_p0 tq5 (by decide)
                      have w14006 := rdA_fr (k := 9) (j := 0) gq28 cs11 t_p0 (κ' := 59) rfl rfl rfl
                      have w14008 : rdA s11 p0 9 0 = mm_I s11 q17 ((0 : Int32)).toNatClampNeg := rdA_eq eq17
                      have w14007 : rdA s11 p0 9 0 = rdA q2.2 p0 9 0 := by rw [← es11]; exact rdA_k cq2 t_p0 (κ' := 59) rfl tq5 (by decide)
                      have w14009 := rdA_fr (k := 9) (j := 0) gq2 c0 t_p0 (κ' := 59) rfl rfl rfl
                      have w14011 := rdA_fr (k := 10) (j := 0) gq28 cs11 t_p0 (κ' := 60) rfl rfl rfl
                      have w14012 : rdA s11 p0 10 0 = rdA q2.2 p0 10 0 := by rw [← es11]; exact rdA_j (by decide)
                      have w14014 : rdA q2.2 p0 10 0 = mm_I q2.2 q5 ((0 : Int32)).toNatClampNeg := rdA_eq eq5
                      have w14013 := rdA_fr (k := 10) (j := 0) gq2 c0 t_p0 (κ' := 60) rfl rfl rfl
                      have w14016 := rdA_fr (k := 10) (j := 1) gq28 cs11 t_p0 (κ' := 60) rfl rfl rfl
                      have w14017 : rdA s11 p0 10 1 = -1 := by rw [← es11]; exact rdA_self eq5
                      have w14018 := rdA_fr (k := 9) (j := 1) gq28 cs11 t_p0 (κ' := 59) rfl rfl rfl
                      have w14020 : rdA s11 p0 9 1 = mm_I s11 q17 ((1 : Int32)).toNatClampNeg := rdA_eq eq17
                      have w14019 : rdA s11 p0 9 1 = rdA q2.2 p0 9 1 := by rw [← es11]; exact rdA_k cq2 t_p0 (κ' := 59) rfl tq5 (by decide)
                      have w14021 := rdA_fr (k := 9) (j := 1) gq2 c0 t_p0 (κ' := 59) rfl rfl rfl
                      have w14025 : rdA q2.2 p0 10 1 = mm_I q2.2 q5 ((1 : Int32)).toNatClampNeg := rdA_eq eq5
                      have w14024 := rdA_fr (k := 10) (j := 1) gq2 c0 t_p0 (κ' := 60) rfl rfl rfl
                      have a14026 := zi_and p3 127 (by decide)
                      have a14027 := zi_and p2 8 (by decide)
                      exact sw_some ⟨cq28, fq28, (by (try simp only [zp, zo, zq] at u11064 xq2 h11065 xq12 h11078 xq14 a11098 u11099 h11100 h11101 h13828 h13829 w13830 w13831 r13832 r13833 r13834 h13835 h13856 h13981 h13982 w14003 w14004 w14006 w14008 w14007 w14009 w14011 w14012 w14014 w14013 w14016 w14017 w14018 w14020 w14019 w14021 w14025 w14024 a14026 a14027 ⊢) <;> (try simp only [zz, Int32.reduceToInt, ne_eq] at u11064 xq2 h11065 xq12 h11078 xq14 a11098 u11099 h11100 h11101 h13828 h13829 w13830 w13831 r13832 r13833 r13834 h13835 h13856 h13981 h13982 w14003 w14004 w14006 w14008 w14007 w14009 w14011 w14012 w14014 w14013 w14016 w14017 w14018 w14020 w14019 w14021 w14025 w14024 a14026 a14027 ⊢) <;> (try simp (disch := omega) only [zb] at u11064 xq2 h11065 xq12 h11078 xq14 a11098 u11099 h11100 h11101 h13828 h13829 w13830 w13831 r13832 r13833 r13834 h13835 h13856 h13981 h13982 w14003 w14004 w14006 w14008 w14007 w14009 w14011 w14012 w14014 w14013 w14016 w14017 w14018 w14020 w14019 w14021 w14025 w14024 a14026 a14027 ⊢) <;> first | omega | ((try simp (disch := omega) only [zb] at u11064 xq2 h11065 xq12 h11078 xq14 a11098 u11099 h11100 h11101 h13828 h13829 w13830 w13831 r13832 r13833 r13834 h13835 h13856 h13981 h13982 w14003 w14004 w14006 w14008 w14007 w14009 w14011 w14012 w14014 w14013 w14016 w14017 w14018 w14020 w14019 w14021 w14025 w14024 a14026 a14027 ⊢) <;> omega))⟩
                  · refine sw_sh (ci_sh cs11 t_p0 rfl) ?_
                    refine sw_on (sX9_put cs11 t_p0 (by (try simp only [zp, zo, zq] at u11064 xq2 h11065 xq12 h11078 xq14 a11098 u11099 h11100 h11101 h13828 h13829 w13830 w13831 r13832 r13833 r13834 h13835 h13856 h13981 ⊢) <;> (try simp only [zz, Int32.reduceToInt, ne_eq] at u11064 xq2 h11065 xq12 h11078 xq14 a11098 u11099 h11100 h11101 h13828 h13829 w13830 w13831 r13832 r13833 r13834 h13835 h13856 h13981 ⊢) <;> (try simp (disch := omega) only [zb] at u11064 xq2 h11065 xq12 h11078 xq14 a11098 u11099 h11100 h11101 h13828 h13829 w13830 w13831 r13832 r13833 r13834 h13835 h13856 h13981 ⊢) <;> first | omega | ((try simp (disch := omega) only [zb] at u11064 xq2 h11065 xq12 h11078 xq14 a11098 u11099 h11100 h11101 h13828 h13829 w13830 w13831 r13832 r13833 r13834 h13835 h13856 h13981 ⊢) <;> omega)) ) ?_
                    intro q30 hqq30
                    obtain ⟨cq30, gq30, xq30⟩ := hqq30
                    have fq30 := fr_trans fs11 gq30 rfl
                    unfold fX9_pair_264
                    refine sw_ite (fun h14028 => ?_) (fun h14028 => ?_)
                    · have w14029 := (gq30.2.2 _ _ t_p0 0 rfl).1
                      have w14030 : mm_I s11 p0 0 = mm_I q2.2 p0 0 := by rw [← es11]; exact rd_k t_p0 tq5 (by decide)
                      have w14032 := rdA_fr (k := 9) (j := 0) gq30 cs11 t_p0 (κ' := 59) rfl rfl rfl
                      have w14034 : rdA s11 p0 9 0 = mm_I s11 q17 ((0 : Int32)).toNatClampNeg := rdA_eq eq17
                      have w14033 : rdA s11 p0 9 0 = rdA q2.2 p0 9 0 := by rw [← es11]; exact rdA_k cq2 t_p0 (κ' := 59) rfl tq5 (by decide)
                      have w14035 := rdA_fr (k := 9) (j := 0) gq2 c0 t_p0 (κ' := 59) rfl rfl rfl
                      have w14037 := rdA_fr (k := 10) (j := 0) gq30 cs11 t_p0 (κ' := 60) rfl rfl rfl
                      have w14038 : rdA s11 p0 10 0 = rdA q2.2 p0 10 0 := by rw [← es11]; exact rdA_j (by decide)
                      have w14040 : rdA q2.2 p0 10 0 = mm_I q2.2 q5 ((0 : Int32)).toNatClampNeg := rdA_eq eq5
                      have w14039 := rdA_fr (k := 10) (j := 0) gq2 c0 t_p0 (κ' := 60) rfl rfl rfl
                      have w14042 := rdA_fr (k := 10) (j := 1) gq30 cs11 t_p0 (κ' := 60) rfl rfl rfl
                      have w14043 : rdA s11 p0 10 1 = -1 := by rw [← es11]; exact rdA_self eq5
                      have w14044 := rdA_fr (k := 9) (j := 1) gq30 cs11 t_p0 (κ' := 59) rfl rfl rfl
                      have w14046 : rdA s11 p0 9 1 = mm_I s11 q17 ((1 : Int32)).toNatClampNeg := rdA_eq eq17
                      have w14045 : rdA s11 p0 9 1 = rdA q2.2 p0 9 1 := by rw [← es11]; exact rdA_k cq2 t_p0 (κ' := 59) rfl tq5 (by decide)
                      have w14047 := rdA_fr (k := 9) (j := 1) gq2 c0 t_p0 (κ' := 59) rfl rfl rfl
                      have w14051 : rdA q2.2 p0 10 1 = mm_I q2.2 q5 ((1 : Int32)).toNatClampNeg := rdA_eq eq5
                      have w14050 := rdA_fr (k := 10) (j := 1) gq2 c0 t_p0 (κ' := 60) rfl rfl rfl
                      have a14052 := zi_and p3 127 (by decide)
                      have a14053 := zi_and p2 8 (by decide)
                      exact sw_some ⟨cq30, fq30, (by (try simp only [zp, zo, zq] at u11064 xq2 h11065 xq12 h11078 xq14 a11098 u11099 h11100 h11101 h13828 h13829 w13830 w13831 r13832 r13833 r13834 h13835 h13856 h13981 h14028 w14029 w14030 w14032 w14034 w14033 w14035 w14037 w14038 w14040 w14039 w14042 w14043 w14044 w14046 w14045 w14047 w14051 w14050 a14052 a14053 ⊢) <;> (try simp only [zz, Int32.reduceToInt, ne_eq] at u11064 xq2 h11065 xq12 h11078 xq14 a11098 u11099 h11100 h11101 h13828 h13829 w13830 w13831 r13832 r13833 r13834 h13835 h13856 h13981 h14028 w14029 w14030 w14032 w14034 w14033 w14035 w14037 w14038 w14040 w14039 w14042 w14043 w14044 w14046 w14045 w14047 w14051 w14050 a14052 a14053 ⊢) <;> (try simp (disch := omega) only [zb] at u11064 xq2 h11065 xq12 h11078 xq14 a11098 u11099 h11100 h11101 h13828 h13829 w13830 w13831 r13832 r13833 r13834 h13835 h13856 h13981 h14028 w14029 w14030 w14032 w14034 w14033 w14035 w14037 w14038 w14040 w14039 w14042 w14043 w14044 w14046 w14045 w14047 w14051 w14050 a14052 a14053 ⊢) <;> first | omega | ((try simp (disch := omega) only [zb] at u11064 xq2 h11065 xq12 h11078 xq14 a11098 u11099 h11100 h11101 h13828 h13829 w13830 w13831 r13832 r13833 r13834 h13835 h13856 h13981 h14028 w14029 w14030 w14032 w14034 w14033 w14035 w14037 w14038 w14040 w14039 w14042 w14043 w14044 w14046 w14045 w14047 w14051 w14050 a14052 a14053 ⊢) <;> omega))⟩
                    · refine sw_sh (ci_sh cq30 t_p0 rfl) ?_
                      refine sw_on (sX9_put cq30 t_p0 (by (try simp only [zp, zo, zq] at u11064 xq2 h11065 xq12 h11078 xq14 a11098 u11099 h11100 h11101 h13828 h13829 w13830 w13831 r13832 r13833 r13834 h13835 h13856 h13981 h14028 ⊢) <;> (try simp only [zz, Int32.reduceToInt, ne_eq] at u11064 xq2 h11065 xq12 h11078 xq14 a11098 u11099 h11100 h11101 h13828 h13829 w13830 w13831 r13832 r13833 r13834 h13835 h13856 h13981 h14028 ⊢) <;> (try simp (disch := omega) only [zb] at u11064 xq2 h11065 xq12 h11078 xq14 a11098 u11099 h11100 h11101 h13828 h13829 w13830 w13831 r13832 r13833 r13834 h13835 h13856 h13981 h14028 ⊢) <;> first | omega | ((try simp (disch := omega) only [zb] at u11064 xq2 h11065 xq12 h11078 xq14 a11098 u11099 h11100 h11101 h13828 h13829 w13830 w13831 r13832 r13833 r13834 h13835 h13856 h13981 h14028 ⊢) <;> omega)) ) ?_
                      intro q28 hqq28
                      obtain ⟨cq28, gq28, xq28⟩ := hqq28
                      have fq28 := fr_trans fq30 gq28 rfl
                      have w14054 := (gq28.2.2 _ _ t_p0 0 rfl).1
                      have w14055 := (gq30.2.2 _ _ t_p0 0 rfl).1
                      have w14056 : mm_I s11 p0 0 = mm_I q2.2 p0 0 := by rw [← es11]; exact rd_k t_p0 tq5 (by decide)
                      have w14058 := rdA_fr (k := 9) (j := 0) gq28 cq30 t_p0 (κ' := 59) rfl rfl rfl
                      have w14059 := rdA_fr (k := 9) (j := 0) gq30 cs11 t_p0 (κ' := 59) rfl rfl rfl
                      have w14061 : rdA s11 p0 9 0 = mm_I s11 q17 ((0 : Int32)).toNatClampNeg := rdA_eq eq17
                      have w14060 : rdA s11 p0 9 0 = rdA q2.2 p0 9 0 := by rw [← es11]; exact rdA_k cq2 t_p0 (κ' := 59) rfl tq5 (by decide)
                      have w14062 := rdA_fr (k := 9) (j := 0) gq2 c0 t_p0 (κ' := 59) rfl rfl rfl
                      have w14064 := rdA_fr (k := 10) (j := 0) gq28 cq30 t_p0 (κ' := 60) rfl rfl rfl
                      have w14065 := rdA_fr (k := 10) (j := 0) gq30 cs11 t_p0 (κ' := 60) rfl rfl rfl
                      have w14066 : rdA s11 p0 10 0 = rdA q2.2 p0 10 0 := by rw [← es11]; exact rdA_j (by decide)
                      have w14068 : rdA q2.2 p0 10 0 = mm_I q2.2 q5 ((0 : Int32)).toNatClampNeg := rdA_eq eq5
                      have w14067 := rdA_fr (k := 10) (j := 0) gq2 c0 t_p0 (κ' := 60) rfl rfl rfl
                      have w14070 := rdA_fr (k := 10) (j := 1) gq28 cq30 t_p0 (κ' := 60) rfl rfl rfl
                      have w14071 := rdA_fr (k := 10) (j := 1) gq30 cs11 t_p0 (κ' := 60) rfl rfl rfl
                      have w14072 : rdA s11 p0 10 1 = -1 := by rw [← es11]; exact rdA_self eq5
                      have w14073 := rdA_fr (k := 9) (j := 1) gq28 cq30 t_p0 (κ' := 59) rfl rfl rfl
                      have w14074 := rdA_fr (k := 9) (j := 1) gq30 cs11 t_p0 (κ' := 59) rfl rfl rfl
                      have w14076 : rdA s11 p0 9 1 = mm_I s11 q17 ((1 : Int32)).toNatClampNeg := rdA_eq eq17
                      have w14075 : rdA s11 p0 9 1 = rdA q2.2 p0 9 1 := by rw [← es11]; exact rdA_k cq2 t_p0 (κ' := 59) rfl tq5 (by decide)
                      have w14077 := rdA_fr (k := 9) (j := 1) gq2 c0 t_p0 (κ' := 59) rfl rfl rfl
                      have w14081 : rdA q2.2 p0 10 1 = mm_I q2.2 q5 ((1 : Int32)).toNatClampNeg := rdA_eq eq5
                      have w14080 := rdA_fr (k := 10) (j := 1) gq2 c0 t_p0 (κ' := 60) rfl rfl rfl
                      have a14082 := zi_and p3 127 (by decide)
                      have a14083 := zi_and p2 8 (by decide)
                      exact sw_some ⟨cq28, fq28, (by (try simp only [zp, zo, zq] at u11064 xq2 h11065 xq12 h11078 xq14 a11098 u11099 h11100 h11101 h13828 h13829 w13830 w13831 r13832 r13833 r13834 h13835 h13856 h13981 h14028 w14054 w14055 w14056 w14058 w14059 w14061 w14060 w14062 w14064 w14065 w14066 w14068 w14067 w14070 w14071 w14072 w14073 w14074 w14076 w14075 w14077 w14081 w14080 a14082 a14083 ⊢) <;> (try simp only [zz, Int32.reduceToInt, ne_eq] at u11064 xq2 h11065 xq12 h11078 xq14 a11098 u11099 h11100 h11101 h13828 h13829 w13830 w13831 r13832 r13833 r13834 h13835 h13856 h13981 h14028 w14054 w14055 w14056 w14058 w14059 w14061 w14060 w14062 w14064 w14065 w14066 w14068 w14067 w14070 w14071 w14072 w14073 w14074 w14076 w14075 w14077 w14081 w14080 a14082 a14083 ⊢) <;> (try simp (disch := omega) only [zb] at u11064 xq2 h11065 xq12 h11078 xq14 a11098 u11099 h11100 h11101 h13828 h13829 w13830 w13831 r13832 r13833 r13834 h13835 h13856 h13981 h14028 w14054 w14055 w14056 w14058 w14059 w14061 w14060 w14062 w14064 w14065 w14066 w14068 w14067 w14070 w14071 w14072 w14073 w14074 w14076 w14075 w14077 w14081 w14080 a14082 a14083 ⊢) <;> first | omega | ((try simp (disch := omega) only [zb] at u11064 xq2 h11065 xq12 h11078 xq14 a11098 u11099 h11100 h11101 h13828 h13829 w13830 w13831 r13832 r13833 r13834 h13835 h13856 h13981 h14028 w14054 w14055 w14056 w14058 w14059 w14061 w14060 w14062 w14064 w14065 w14066 w14068 w14067 w14070 w14071 w14072 w14073 w14074 w14076 w14075 w14077 w14081 w14080 a14082 a14083 ⊢) <;> omega))⟩
            · have a14084 := zi_and p3 127 (by decide)
              refine sw_ite (fun h14085 => ?_) (fun h14085 => ?_)
              · unfold fX9_pair_227
                unfold fX9_pair_228
                have w14086 : mm_I s11 q17 ((1 : Int32).toNatClampNeg) = mm_I q2.2 q17 ((1 : Int32).toNatClampNeg) := by rw [← es11]; exact rd_k tq17 tq5 (by decide)
                have w14087 := (gq2.2.2 _ _ tq17 ((1 : Int32).toNatClampNeg) rfl).1
                have r14088 := ci_rg c0 tq17 ((1 : Int32).toNatClampNeg) (lo := (-1)) (hi := 3) rfl
                have r14089 := ci_rg cq2 tq17 ((1 : Int32).toNatClampNeg) (lo := (-1)) (hi := 3) rfl
                have r14090 := ci_rg cs11 tq17 ((1 : Int32).toNatClampNeg) (lo := (-1)) (hi := 3) rfl
                refine sw_ite (fun h14091 => ?_) (fun h14091 => ?_)
                · have w14092 : mm_I s11 p0 0 = mm_I q2.2 p0 0 := by rw [← es11]; exact rd_k t_p0 tq5 (by decide)
                  have w14095 : rdA s11 p0 9 0 = mm_I s11 q17 ((0 : Int32)).toNatClampNeg := rdA_eq eq17
                  have w14094 : rdA s11 p0 9 0 = rdA q2.2 p0 9 0 := by rw [← es11]; exact rdA_k cq2 t_p0 (κ' := 59) rfl tq5 (by decide)
                  have w14096 := rdA_fr (k := 9) (j := 0) gq2 c0 t_p0 (κ' := 59) rfl rfl rfl
                  have w14098 : rdA s11 p0 10 0 = rdA q2.2 p0 10 0 := by rw [← es11]; exact rdA_j (by decide)
                  have w14100 : rdA q2.2 p0 10 0 = mm_I q2.2 q5 ((0 : Int32)).toNatClampNeg := rdA_eq eq5
                  have w14099 := rdA_fr (k := 10) (j := 0) gq2 c0 t_p0 (κ' := 60) rfl rfl rfl
                  have w14102 : rdA s11 p0 10 1 = -1 := by rw [← es11]; exact rdA_self eq5
                  have w14104 : rdA s11 p0 9 1 = mm_I s11 q17 ((1 : Int32)).toNatClampNeg := rdA_eq eq17
                  have w14103 : rdA s11 p0 9 1 = rdA q2.2 p0 9 1 := by rw [← es11]; exact rdA_k cq2 t_p0 (κ' := 59) rfl tq5 (by decide)
                  have w14105 := rdA_fr (k := 9) (j := 1) gq2 c0 t_p0 (κ' := 59) rfl rfl rfl
                  have w14109 : rdA q2.2 p0 10 1 = mm_I q2.2 q5 ((1 : Int32)).toNatClampNeg := rdA_eq eq5
                  have w14108 := rdA_fr (k := 10) (j := 1) gq2 c0 t_p0 (κ' := 60) rfl rfl rfl
                  have a14110 := zi_and p2 8 (by decide)
                  exact sw_some ⟨cs11, fs11, (by (try simp only [zp, zo, zq] at u11064 xq2 h11065 xq12 h11078 xq14 a11098 u11099 h11100 h11101 h13828 h13829 a14084 h14085 w14086 w14087 r14088 r14089 r14090 h14091 w14092 w14095 w14094 w14096 w14098 w14100 w14099 w14102 w14104 w14103 w14105 w14109 w14108 a14110 ⊢) <;> (try simp only [zz, Int32.reduceToInt, ne_eq] at u11064 xq2 h11065 xq12 h11078 xq14 a11098 u11099 h11100 h11101 h13828 h13829 a14084 h14085 w14086 w14087 r14088 r14089 r14090 h14091 w14092 w14095 w14094 w14096 w14098 w14100 w14099 w14102 w14104 w14103 w14105 w14109 w14108 a14110 ⊢) <;> (try simp (disch := omega) only [zb] at u11064 xq2 h11065 xq12 h11078 xq14 a11098 u11099 h11100 h11101 h13828 h13829 a14084 h14085 w14086 w14087 r14088 r14089 r14090 h14091 w14092 w14095 w14094 w14096 w14098 w14100 w14099 w14102 w14104 w14103 w14105 w14109 w14108 a14110 ⊢) <;> first | omega | ((try simp (disch := omega) only [zb] at u11064 xq2 h11065 xq12 h11078 xq14 a11098 u11099 h11100 h11101 h13828 h13829 a14084 h14085 w14086 w14087 r14088 r14089 r14090 h14091 w14092 w14095 w14094 w14096 w14098 w14100 w14099 w14102 w14104 w14103 w14105 w14109 w14108 a14110 ⊢) <;> omega))⟩
                · refine sw_ite (fun h14111 => ?_) (fun h14111 => ?_)
                  · refine sw_ite (fun h14112 => ?_) (fun h14112 => ?_)
                    · have w14113 : mm_I s11 p0 0 = mm_I q2.2 p0 0 := by rw [← es11]; exact rd_k t_p0 tq5 (by decide)
                      have w14116 : rdA s11 p0 9 0 = mm_I s11 q17 ((0 : Int32)).toNatClampNeg := rdA_eq eq17
                      have w14115 : rdA s11 p0 9 0 = rdA q2.2 p0 9 0 := by rw [← es11]; exact rdA_k cq2 t_p0 (κ' := 59) rfl tq5 (by decide)
                      have w14117 := rdA_fr (k := 9) (j := 0) gq2 c0 t_p0 (κ' := 59) rfl rfl rfl
                      have w14119 : rdA s11 p0 10 0 = rdA q2.2 p0 10 0 := by rw [← es11]; exact rdA_j (by decide)
                      have w14121 : rdA q2.2 p0 10 0 = mm_I q2.2 q5 ((0 : Int32)).toNatClampNeg := rdA_eq eq5
                      have w14120 := rdA_fr (k := 10) (j := 0) gq2 c0 t_p0 (κ' := 60) rfl rfl rfl
                      have w14123 : rdA s11 p0 10 1 = -1 := by rw [← es11]; exact rdA_self eq5
                      have w14125 : rdA s11 p0 9 1 = mm_I s11 q17 ((1 : Int32)).toNatClampNeg := rdA_eq eq17
                      have w14124 : rdA s11 p0 9 1 = rdA q2.2 p0 9 1 := by rw [← es11]; exact rdA_k cq2 t_p0 (κ' := 59) rfl tq5 (by decide)
                      have w14126 := rdA_fr (k := 9) (j := 1) gq2 c0 t_p0 (κ' := 59) rfl rfl rfl
                      have w14130 : rdA q2.2 p0 10 1 = mm_I q2.2 q5 ((1 : Int32)).toNatClampNeg := rdA_eq eq5
                      have w14129 := rdA_fr (k := 10) (j := 1) gq2 c0 t_p0 (κ' := 60) rfl rfl rfl
                      have a14131 := zi_and p2 8 (by decide)
                      exact sw_some ⟨cs11, fs11, (by (try simp only [zp, zo, zq] at u11064 xq2 h11065 xq12 h11078 xq14 a11098 u11099 h11100 h11101 h13828 h13829 a14084 h14085 w14086 w14087 r14088 r14089 r14090 h14091 h14111 h14112 w14113 w14116 w14115 w14117 w14119 w14121 w14120 w14123 w14125 w14124 w14126 w14130 w14129 a14131 ⊢) <;> (try simp only [zz, Int32.reduceToInt, ne_eq] at u11064 xq2 h11065 xq12 h11078 xq14 a11098 u11099 h11100 h11101 h13828 h13829 a14084 h14085 w14086 w14087 r14088 r14089 r14090 h14091 h14111 h14112 w14113 w14116 w14115 w14117 w14119 w14121 w14120 w14123 w14125 w14124 w14126 w14130 w14129 a14131 ⊢) <;> (try simp (disch := omega) only [zb] at u11064 xq2 h11065 xq12 h11078 xq14 a11098 u11099 h11100 h11101 h13828 h13829 a14084 h14085 w14086 w14087 r14088 r14089 r14090 h14091 h14111 h14112 w14113 w14116 w14115 w14117 w14119 w14121 w14120 w14123 w14125 w14124 w14126 w14130 w14129 a14131 ⊢) <;> first | omega | ((try simp (disch := omega) only [zb] at u11064 xq2 h11065 xq12 h11078 xq14 a11098 u11099 h11100 h11101 h13828 h13829 a14084 h14085 w14086 w14087 r14088 r14089 r14090 h14091 h14111 h14112 w14113 w14116 w14115 w14117 w14119 w14121 w14120 w14123 w14125 w14124 w14126 w14130 w14129 a14131 ⊢) <;> omega))⟩
                    · unfold fX9_pair_250
                      refine sw_ite (fun h14132 => ?_) (fun h14132 => ?_)
                      · unfold fX9_pair_264
                        refine sw_ite (fun h14133 => ?_) (fun h14133 => ?_)
                        · have w14134 : mm_I s11 p0 0 = mm_I q2.2 p0 0 := by rw [← es11]; exact rd_k t_p0 tq5 (by decide)
                          have w14137 : rdA s11 p0 9 0 = mm_I s11 q17 ((0 : Int32)).toNatClampNeg := rdA_eq eq17
                          have w14136 : rdA s11 p0 9 0 = rdA q2.2 p0 9 0 := by rw [← es11]; exact rdA_k cq2 t_p0 (κ' := 59) rfl tq5 (by decide)
                          have w14138 := rdA_fr (k := 9) (j := 0) gq2 c0 t_p0 (κ' := 59) rfl rfl rfl
                          have w14140 : rdA s11 p0 10 0 = rdA q2.2 p0 10 0 := by rw [← es11]; exact rdA_j (by decide)
                          have w14142 : rdA q2.2 p0 10 0 = mm_I q2.2 q5 ((0 : Int32)).toNatClampNeg := rdA_eq eq5
                          have w14141 := rdA_fr (k := 10) (j := 0) gq2 c0 t_p0 (κ' := 60) rfl rfl rfl
                          have w14144 : rdA s11 p0 10 1 = -1 := by rw [← es11]; exact rdA_self eq5
                          have w14146 : rdA s11 p0 9 1 = mm_I s11 q17 ((1 : Int32)).toNatClampNeg := rdA_eq eq17
                          have w14145 : rdA s11 p0 9 1 = rdA q2.2 p0 9 1 := by rw [← es11]; exact rdA_k cq2 t_p0 (κ' := 59) rfl tq5 (by decide)
                          have w14147 := rdA_fr (k := 9) (j := 1) gq2 c0 t_p0 (κ' := 59) rfl rfl rfl
                          have w14151 : rdA q2.2 p0 10 1 = mm_I q2.2 q5 ((1 : Int32)).toNatClampNeg := rdA_eq eq5
                          have w14150 := rdA_fr (k := 10) (j := 1) gq2 c0 t_p0 (κ' := 60) rfl rfl rfl
                          have a14152 := zi_and p2 8 (by decide)
                          exact sw_some ⟨cs11, fs11, (by (try simp only [zp, zo, zq] at u11064 xq2 h11065 xq12 h11078 xq14 a11098 u11099 h11100 h11101 h13828 h13829 a14084 h14085 w14086 w14087 r14088 r14089 r14090 h14091 h14111 h14112 h14132 h14133 w14134 w14137 w14136 w14138 w14140 w14142 w14141 w14144 w14146 w14145 w14147 w14151 w14150 a14152 ⊢) <;> (try simp only [zz, Int32.reduceToInt, ne_eq] at u11064 xq2 h11065 xq12 h11078 xq14 a11098 u11099 h11100 h11101 h13828 h13829 a14084 h14085 w14086 w14087 r14088 r14089 r14090 h14091 h14111 h14112 h14132 h14133 w14134 w14137 w14136 w14138 w14140 w14142 w14141 w14144 w14146 w14145 w14147 w14151 w14150 a14152 ⊢) <;> (try simp (disch := omega) only [zb] at u11064 xq2 h11065 xq12 h11078 xq14 a11098 u11099 h11100 h11101 h13828 h13829 a14084 h14085 w14086 w14087 r14088 r14089 r14090 h14091 h14111 h14112 h14132 h14133 w14134 w14137 w14136 w14138 w14140 w14142 w14141 w14144 w14146 w14145 w14147 w14151 w14150 a14152 ⊢) <;> first | omega | ((try simp (disch := omega) only [zb] at u11064 xq2 h11065 xq12 h11078 xq14 a11098 u11099 h11100 h11101 h13828 h13829 a14084 h14085 w14086 w14087 r14088 r14089 r14090 h14091 h14111 h14112 h14132 h14133 w14134 w14137 w14136 w14138 w14140 w14142 w14141 w14144 w14146 w14145 w14147 w14151 w14150 a14152 ⊢) <;> omega))⟩
                        · refine sw_sh (ci_sh cs11 t_p0 rfl) ?_
                          refine sw_on (sX9_put cs11 t_p0 (by (try simp only [zp, zo, zq] at u11064 xq2 h11065 xq12 h11078 xq14 a11098 u11099 h11100 h11101 h13828 h13829 a14084 h14085 w14086 w14087 r14088 r14089 r14090 h14091 h14111 h14112 h14132 h14133 ⊢) <;> (try simp only [zz, Int32.reduceToInt, ne_eq] at u11064 xq2 h11065 xq12 h11078 xq14 a11098 u11099 h11100 h11101 h13828 h13829 a14084 h14085 w14086 w14087 r14088 r14089 r14090 h14091 h14111 h14112 h14132 h14133 ⊢) <;> (try simp (disch := omega) only [zb] at u11064 xq2 h11065 xq12 h11078 xq14 a11098 u11099 h11100 h11101 h13828 h13829 a14084 h14085 w14086 w14087 r14088 r14089 r14090 h14091 h14111 h14112 h14132 h14133 ⊢) <;> first | omega | ((try simp (disch := omega) only [zb] at u11064 xq2 h11065 xq12 h11078 xq14 a11098 u11099 h11100 h11101 h13828 h13829 a14084 h14085 w14086 w14087 r14088 r14089 r14090 h14091 h14111 h14112 h14132 h14133 ⊢) <;> omega)) ) ?_
                          intro q28 hqq28
                          obtain ⟨cq28, gq28, xq28⟩ := hqq28
                          have fq28 := fr_trans fs11 gq28 rfl
                          have w14153 := (gq28.2.2 _ _ t_p0 0 rfl).1
                          have w14154 : mm_I s11 p0 0 = mm_I q2.2 p0 0 := by rw [← es11]; exact rd_k t_p0 tq5 (by decide)
                          have w14156 := rdA_fr (k := 9) (j := 0) gq28 cs11 t_p0 (κ' := 59) rfl rfl rfl
                          have w14158 : rdA s11 p0 9 0 = mm_I s11 q17 ((0 : Int32)).toNatClampNeg := rdA_eq eq17
                          have w14157 : rdA s11 p0 9 0 = rdA q2.2 p0 9 0 := by rw [← es11]; exact rdA_k cq2 t_p0 (κ' := 59) rfl tq5 (by decide)
                          have w14159 := rdA_fr (k := 9) (j := 0) gq2 c0 t_p0 (κ' := 59) rfl rfl rfl
                          have w14161 := rdA_fr (k := 10) (j := 0) gq28 cs11 t_p0 (κ' := 60) rfl rfl rfl
                          have w14162 : rdA s11 p0 10 0 = rdA q2.2 p0 10 0 := by rw [← es11]; exact rdA_j (by decide)
                          have w14164 : rdA q2.2 p0 10 0 = mm_I q2.2 q5 ((0 : Int32)).toNatClampNeg := rdA_eq eq5
                          have w14163 := rdA_fr (k := 10) (j := 0) gq2 c0 t_p0 (κ' := 60) rfl rfl rfl
                          have w14166 := rdA_fr (k := 10) (j := 1) gq28 cs11 t_p0 (κ' := 60) rfl rfl rfl
                          have w14167 : rdA s11 p0 10 1 = -1 := by rw [← es11]; exact rdA_self eq5
                          have w14168 := rdA_fr (k := 9) (j := 1) gq28 cs11 t_p0 (κ' := 59) rfl rfl rfl
                          have w14170 : rdA s11 p0 9 1 = mm_I s11 q17 ((1 : Int32)).toNatClampNeg := rdA_eq eq17
                          have w14169 : rdA s11 p0 9 1 = rdA q2.2 p0 9 1 := by rw [← es11]; exact rdA_k cq2 t_p0 (κ' := 59) rfl tq5 (by decide)
                          have w14171 := rdA_fr (k := 9) (j := 1) gq2 c0 t_p0 (κ' := 59) rfl rfl rfl
                          have w14175 : rdA q2.2 p0 10 1 = mm_I q2.2 q5 ((1 : Int32)).toNatClampNeg := rdA_eq eq5
                          have w14174 := rdA_fr (k := 10) (j := 1) gq2 c0 t_p0 (κ' := 60) rfl rfl rfl
                          have a14176 := zi_and p2 8 (by decide)
                          exact sw_some ⟨cq28, fq28, (by (try simp only [zp, zo, zq] at u11064 xq2 h11065 xq12 h11078 xq14 a11098 u11099 h11100 h11101 h13828 h13829 a14084 h14085 w14086 w14087 r14088 r14089 r14090 h14091 h14111 h14112 h14132 h14133 w14153 w14154 w14156 w14158 w14157 w14159 w14161 w14162 w14164 w14163 w14166 w14167 w14168 w14170 w14169 w14171 w14175 w14174 a14176 ⊢) <;> (try simp only [zz, Int32.reduceToInt, ne_eq] at u11064 xq2 h11065 xq12 h11078 xq14 a11098 u11099 h11100 h11101 h13828 h13829 a14084 h14085 w14086 w14087 r14088 r14089 r14090 h14091 h14111 h14112 h14132 h14133 w14153 w14154 w14156 w14158 w14157 w14159 w14161 w14162 w14164 w14163 w14166 w14167 w14168 w14170 w14169 w14171 w14175 w14174 a14176 ⊢) <;> (try simp (disch := omega) only [zb] at u11064 xq2 h11065 xq12 h11078 xq14 a11098 u11099 h11100 h11101 h13828 h13829 a14084 h14085 w14086 w14087 r14088 r14089 r14090 h14091 h14111 h14112 h14132 h14133 w14153 w14154 w14156 w14158 w14157 w14159 w14161 w14162 w14164 w14163 w14166 w14167 w14168 w14170 w14169 w14171 w14175 w14174 a14176 ⊢) <;> first | omega | ((try simp (disch := omega) only [zb] at u11064 xq2 h11065 xq12 h11078 xq14 a11098 u11099 h11100 h11101 h13828 h13829 a14084 h14085 w14086 w14087 r14088 r14089 r14090 h14091 h14111 h14112 h14132 h14133 w14153 w14154 w14156 w14158 w14157 w14159 w14161 w14162 w14164 w14163 w14166 w14167 w14168 w14170 w14169 w14171 w14175 w14174 a14176 ⊢) <;> omega))⟩
                      · refine sw_sh (ci_sh cs11 t_p0 rfl) ?_
                        refine sw_on (sX9_put cs11 t_p0 (by (try simp only [zp, zo, zq] at u11064 xq2 h11065 xq12 h11078 xq14 a11098 u11099 h11100 h11101 h13828 h13829 a14084 h14085 w14086 w14087 r14088 r14089 r14090 h14091 h14111 h14112 h14132 ⊢) <;> (try simp only [zz, Int32.reduceToInt, ne_eq] at u11064 xq2 h11065 xq12 h11078 xq14 a11098 u11099 h11100 h11101 h13828 h13829 a14084 h14085 w14086 w14087 r14088 r14089 r14090 h14091 h14111 h14112 h14132 ⊢) <;> (try simp (disch := omega) only [zb] at u11064 xq2 h11065 xq12 h11078 xq14 a11098 u11099 h11100 h11101 h13828 h13829 a14084 h14085 w14086 w14087 r14088 r14089 r14090 h14091 h14111 h14112 h14132 ⊢) <;> first | omega | ((try simp (disch := omega) only [zb] at u11064 xq2 h11065 xq12 h11078 xq14 a11098 u11099 h11100 h11101 h13828 h13829 a14084 h14085 w14086 w14087 r14088 r14089 r14090 h14091 h14111 h14112 h14132 ⊢) <;> omega)) ) ?_
                        intro q30 hqq30
                        obtain ⟨cq30, gq30, xq30⟩ := hqq30
                        have fq30 := fr_trans fs11 gq30 rfl
                        unfold fX9_pair_264
                        refine sw_ite (fun h14177 => ?_) (fun h14177 => ?_)
                        · have w14178 := (gq30.2.2 _ _ t_p0 0 rfl).1
                          have w14179 : mm_I s11 p0 0 = mm_I q2.2 p0 0 := by rw [← es11]; exact rd_k t_p0 tq5 (by decide)
                          have w14181 := rdA_fr (k := 9) (j := 0) gq30 cs11 t_p0 (κ' := 59) rfl rfl rfl
                          have w14183 : rdA s11 p0 9 0 = mm_I s11 q17 ((0 : Int32)).toNatClampNeg := rdA_eq eq17
                          have w14182 : rdA s11 p0 9 0 = rdA q2.2 p0 9 0 := by rw [← es11]; exact rdA_k cq2 t_p0 (κ' := 59) rfl tq5 (by decide)
                          have w14184 := rdA_fr (k := 9) (j := 0) gq2 c0 t_p0 (κ' := 59) rfl rfl rfl
                          have w14186 := rdA_fr (k := 10) (j := 0) gq30 cs11 t_p0 (κ' := 60) rfl rfl rfl
                          have w14187 : rdA s11 p0 10 0 = rdA q2.2 p0 10 0 := by rw [← es11]; exact rdA_j (by decide)
                          have w14189 : rdA q2.2 p0 10 0 = mm_I q2.2 q5 ((0 : Int32)).toNatClampNeg := rdA_eq eq5
                          have w14188 := rdA_fr (k := 10) (j := 0) gq2 c0 t_p0 (κ' := 60) rfl rfl rfl
                          have w14191 := rdA_fr (k := 10) (j := 1) gq30 cs11 t_p0 (κ' := 60) rfl rfl rfl
                          have w14192 : rdA s11 p0 10 1 = -1 := by rw [← es11]; exact rdA_self eq5
                          have w14193 := rdA_fr (k := 9) (j := 1) gq30 cs11 t_p0 (κ' := 59) rfl rfl rfl
                          have w14195 : rdA s11 p0 9 1 = mm_I s11 q17 ((1 : Int32)).toNatClampNeg := rdA_eq eq17
                          have w14194 : rdA s11 p0 9 1 = rdA q2.2 p0 9 1 := by rw [← es11]; exact rdA_k cq2 t_p0 (κ' := 59) rfl tq5 (by decide)
                          have w14196 := rdA_fr (k := 9) (j := 1) gq2 c0 t_p0 (κ' := 59) rfl rfl rfl
                          have w14200 : rdA q2.2 p0 10 1 = mm_I q2.2 q5 ((1 : Int32)).toNatClampNeg := rdA_eq eq5
                          have w14199 := rdA_fr (k := 10) (j := 1) gq2 c0 t_p0 (κ' := 60) rfl rfl rfl
                          have a14201 := zi_and p2 8 (by decide)
                          exact sw_some ⟨cq30, fq30, (by (try simp only [zp, zo, zq] at u11064 xq2 h11065 xq12 h11078 xq14 a11098 u11099 h11100 h11101 h13828 h13829 a14084 h14085 w14086 w14087 r14088 r14089 r14090 h14091 h14111 h14112 h14132 h14177 w14178 w14179 w14181 w14183 w14182 w14184 w14186 w14187 w14189 w14188 w14191 w14192 w14193 w14195 w14194 w14196 w14200 w14199 a14201 ⊢) <;> (try simp only [zz, Int32.reduceToInt, ne_eq] at u11064 xq2 h11065 xq12 h11078 xq14 a11098 u11099 h11100 h11101 h13828 h13829 a14084 h14085 w14086 w14087 r14088 r14089 r14090 h14091 h14111 h14112 h14132 h14177 w14178 w14179 w14181 w14183 w14182 w14184 w14186 w14187 w14189 w14188 w14191 w14192 w14193 w14195 w14194 w14196 w14200 w14199 a14201 ⊢) <;> (try simp (disch := omega) only [zb] at u11064 xq2 h11065 xq12 h11078 xq14 a11098 u11099 h11100 h11101 h13828 h13829 a14084 h14085 w14086 w14087 r14088 r14089 r14090 h14091 h14111 h14112 h14132 h14177 w14178 w14179 w14181 w14183 w14182 w14184 w14186 w14187 w14189 w14188 w14191 w14192 w14193 w14195 w14194 w14196 w14200 w14199 a14201 ⊢) <;> first | omega | ((try simp (disch := omega) only [zb] at u11064 xq2 h11065 xq12 h11078 xq14 a11098 u11099 h11100 h11101 h13828 h13829 a14084 h14085 w14086 w14087 r14088 r14089 r14090 h14091 h14111 h14112 h14132 h14177 w14178 w14179 w14181 w14183 w14182 w14184 w14186 w14187 w14189 w14188 w14191 w14192 w14193 w14195 w14194 w14196 w14200 w14199 a14201 ⊢) <;> omega))⟩
                        · refine sw_sh (ci_sh cq30 t_p0 rfl) ?_
                          refine sw_on (sX9_put cq30 t_p0 (by (try simp only [zp, zo, zq] at u11064 xq2 h11065 xq12 h11078 xq14 a11098 u11099 h11100 h11101 h13828 h13829 a14084 h14085 w14086 w14087 r14088 r14089 r14090 h14091 h14111 h14112 h14132 h14177 ⊢) <;> (try simp only [zz, Int32.reduceToInt, ne_eq] at u11064 xq2 h11065 xq12 h11078 xq14 a11098 u11099 h11100 h11101 h13828 h13829 a14084 h14085 w14086 w14087 r14088 r14089 r14090 h14091 h14111 h14112 h14132 h14177 ⊢) <;> (try simp (disch := omega) only [zb] at u11064 xq2 h11065 xq12 h11078 xq14 a11098 u11099 h11100 h11101 h13828 h13829 a14084 h14085 w14086 w14087 r14088 r14089 r14090 h14091 h14111 h14112 h14132 h14177 ⊢) <;> first | omega | ((try simp (disch := omega) only [zb] at u11064 xq2 h11065 xq12 h11078 xq14 a11098 u11099 h11100 h11101 h13828 h13829 a14084 h14085 w14086 w14087 r14088 r14089 r14090 h14091 h14111 h14112 h14132 h14177 ⊢) <;> omega)) ) ?_
                          intro q28 hqq28
                          obtain ⟨cq28, gq28, xq28⟩ := hqq28
                          have fq28 := fr_trans fq30 gq28 rfl
                          have w14202 := (gq28.2.2 _ _ t_p0 0 rfl).1
                          have w14203 := (gq30.2.2 _ _ t_p0 0 rfl).1
                          have w14204 : mm_I s11 p0 0 = mm_I q2.2 p0 0 := by rw [← es11]; exact rd_k t_p0 tq5 (by decide)
                          have w14206 := rdA_fr (k := 9) (j := 0) gq28 cq30 t_p0 (κ' := 59) rfl rfl rfl
                          have w14207 := rdA_fr (k := 9) (j := 0) gq30 cs11 t_p0 (κ' := 59) rfl rfl rfl
                          have w14209 : rdA s11 p0 9 0 = mm_I s11 q17 ((0 : Int32)).toNatClampNeg := rdA_eq eq17
                          have w14208 : rdA s11 p0 9 0 = rdA q2.2 p0 9 0 := by rw [← es11]; exact rdA_k cq2 t_p0 (κ' := 59) rfl tq5 (by decide)
                          have w14210 := rdA_fr (k := 9) (j := 0) gq2 c0 t_p0 (κ' := 59) rfl rfl rfl
                          have w14212 := rdA_fr (k := 10) (j := 0) gq28 cq30 t_p0 (κ' := 60) rfl rfl rfl
                          have w14213 := rdA_fr (k := 10) (j := 0) gq30 cs11 t_p0 (κ' := 60) rfl rfl rfl
                          have w14214 : rdA s11 p0 10 0 = rdA q2.2 p0 10 0 := by rw [← es11]; exact rdA_j (by decide)
                          have w14216 : rdA q2.2 p0 10 0 = mm_I q2.2 q5 ((0 : Int32)).toNatClampNeg := rdA_eq eq5
                          have w14215 := rdA_fr (k := 10) (j := 0) gq2 c0 t_p0 (κ' := 60) rfl rfl rfl
                          have w14218 := rdA_fr (k := 10) (j := 1) gq28 cq30 t_p0 (κ' := 60) rfl rfl rfl
                          have w14219 := rdA_fr (k := 10) (j := 1) gq30 cs11 t_p0 (κ' := 60) rfl rfl rfl
                          have w14220 : rdA s11 p0 10 1 = -1 := by rw [← es11]; exact rdA_self eq5
                          have w14221 := rdA_fr (k := 9) (j := 1) gq28 cq30 t_p0 (κ' := 59) rfl rfl rfl
                          have w14222 := rdA_fr (k := 9) (j := 1) gq30 cs11 t_p0 (κ' := 59) rfl rfl rfl
                          have w14224 : rdA s11 p0 9 1 = mm_I s11 q17 ((1 : Int32)).toNatClampNeg := rdA_eq eq17
                          have w14223 : rdA s11 p0 9 1 = rdA q2.2 p0 9 1 := by rw [← es11]; exact rdA_k cq2 t_p0 (κ' := 59) rfl tq5 (by decide)
                          have w14225 := rdA_fr (k := 9) (j := 1) gq2 c0 t_p0 (κ' := 59) rfl rfl rfl
                          have w14229 : rdA q2.2 p0 10 1 = mm_I q2.2 q5 ((1 : Int32)).toNatClampNeg := rdA_eq eq5
                          have w14228 := rdA_fr (k := 10) (j := 1) gq2 c0 t_p0 (κ' := 60) rfl rfl rfl
                          have a14230 := zi_and p2 8 (by decide)
                          exact sw_some ⟨cq28, fq28, (by (try simp only [zp, zo, zq] at u11064 xq2 h11065 xq12 h11078 xq14 a11098 u11099 h11100 h11101 h13828 h13829 a14084 h14085 w14086 w14087 r14088 r14089 r14090 h14091 h14111 h14112 h14132 h14177 w14202 w14203 w14204 w14206 w14207 w14209 w14208 w14210 w14212 w14213 w14214 w14216 w14215 w14218 w14219 w14220 w14221 w14222 w14224 w14223 w14225 w14229 w14228 a14230 ⊢) <;> (try simp only [zz, Int32.reduceToInt, ne_eq] at u11064 xq2 h11065 xq12 h11078 xq14 a11098 u11099 h11100 h11101 h13828 h13829 a14084 h14085 w14086 w14087 r14088 r14089 r14090 h14091 h14111 h14112 h14132 h14177 w14202 w14203 w14204 w14206 w14207 w14209 w14208 w14210 w14212 w14213 w14214 w14216 w14215 w14218 w14219 w14220 w14221 w14222 w14224 w14223 w14225 w14229 w14228 a14230 ⊢) <;> (try simp (disch := omega) only [zb] at u11064 xq2 h11065 xq12 h11078 xq14 a11098 u11099 h11100 h11101 h13828 h13829 a14084 h14085 w14086 w14087 r14088 r14089 r14090 h14091 h14111 h14112 h14132 h14177 w14202 w14203 w14204 w14206 w14207 w14209 w14208 w14210 w14212 w14213 w14214 w14216 w14215 w14218 w14219 w14220 w14221 w14222 w14224 w14223 w14225 w14229 w14228 a14230 ⊢) <;> first | omega | ((try simp (disch := omega) only [zb] at u11064 xq2 h11065 xq12 h11078 xq14 a11098 u11099 h11100 h11101 h13828 h13829 a14084 h14085 w14086 w14087 r14088 r14089 r14090 h14091 h14111 h14112 h14132 h14177 w14202 w14203 w14204 w14206 w14207 w14209 w14208 w14210 w14212 w14213 w14214 w14216 w14215 w14218 w14219 w14220 w14221 w14222 w14224 w14223 w14225 w14229 w14228 a14230 ⊢) <;> omega))⟩
                  · unfold fX9_pair_250
                    refine sw_ite (fun h14231 => ?_) (fun h14231 => ?_)
                    · unfold fX9_pair_264
                      refine sw_ite (fun h14232 => ?_) (fun h14232 => ?_)
                      · have w14233 : mm_I s11 p0 0 = mm_I q2.2 p0 0 := by rw [← es11]; exact rd_k t_p0 tq5 (by decide)
                        have w14236 : rdA s11 p0 9 0 = mm_I s11 q17 ((0 : Int32)).toNatClampNeg := rdA_eq eq17
                        have w14235 : rdA s11 p0 9 0 = rdA q2.2 p0 9 0 := by rw [← es11]; exact rdA_k cq2 t_p0 (κ' := 59) rfl tq5 (by decide)
                        have w14237 := rdA_fr (k := 9) (j := 0) gq2 c0 t_p0 (κ' := 59) rfl rfl rfl
                        have w14239 : rdA s11 p0 10 0 = rdA q2.2 p0 10 0 := by rw [← es11]; exact rdA_j (by decide)
                        have w14241 : rdA q2.2 p0 10 0 = mm_I q2.2 q5 ((0 : Int32)).toNatClampNeg := rdA_eq eq5
                        have w14240 := rdA_fr (k := 10) (j := 0) gq2 c0 t_p0 (κ' := 60) rfl rfl rfl
                        have w14243 : rdA s11 p0 10 1 = -1 := by rw [← es11]; exact rdA_self eq5
                        have w14245 : rdA s11 p0 9 1 = mm_I s11 q17 ((1 : Int32)).toNatClampNeg := rdA_eq eq17
                        have w14244 : rdA s11 p0 9 1 = rdA q2.2 p0 9 1 := by rw [← es11]; exact rdA_k cq2 t_p0 (κ' := 59) rfl tq5 (by decide)
                        have w14246 := rdA_fr (k := 9) (j := 1) gq2 c0 t_p0 (κ' := 59) rfl rfl rfl
                        have w14250 : rdA q2.2 p0 10 1 = mm_I q2.2 q5 ((1 : Int32)).toNatClampNeg := rdA_eq eq5
                        have w14249 := rdA_fr (k := 10) (j := 1) gq2 c0 t_p0 (κ' := 60) rfl rfl rfl
                        have a14251 := zi_and p2 8 (by decide)
                        exact sw_some ⟨cs11, fs11, (by (try simp only [zp, zo, zq] at u11064 xq2 h11065 xq12 h11078 xq14 a11098 u11099 h11100 h11101 h13828 h13829 a14084 h14085 w14086 w14087 r14088 r14089 r14090 h14091 h14111 h14231 h14232 w14233 w14236 w14235 w14237 w14239 w14241 w14240 w14243 w14245 w14244 w14246 w14250 w14249 a14251 ⊢) <;> (try simp only [zz, Int32.reduceToInt, ne_eq] at u11064 xq2 h11065 xq12 h11078 xq14 a11098 u11099 h11100 h11101 h13828 h13829 a14084 h14085 w14086 w14087 r14088 r14089 r14090 h14091 h14111 h14231 h14232 w14233 w14236 w14235 w14237 w14239 w14241 w14240 w14243 w14245 w14244 w14246 w14250 w14249 a14251 ⊢) <;> (try simp (disch := omega) only [zb] at u11064 xq2 h11065 xq12 h11078 xq14 a11098 u11099 h11100 h11101 h13828 h13829 a14084 h14085 w14086 w14087 r14088 r14089 r14090 h14091 h14111 h14231 h14232 w14233 w14236 w14235 w14237 w14239 w14241 w14240 w14243 w14245 w14244 w14246 w14250 w14249 a14251 ⊢) <;> first | omega | ((try simp (disch := omega) only [zb] at u11064 xq2 h11065 xq12 h11078 xq14 a11098 u11099 h11100 h11101 h13828 h13829 a14084 h14085 w14086 w14087 r14088 r14089 r14090 h14091 h14111 h14231 h14232 w14233 w14236 w14235 w14237 w14239 w14241 w14240 w14243 w14245 w14244 w14246 w14250 w14249 a14251 ⊢) <;> omega))⟩
                      · refine sw_sh (ci_sh cs11 t_p0 rfl) ?_
                        refine sw_on (sX9_put cs11 t_p0 (by (try simp only [zp, zo, zq] at u11064 xq2 h11065 xq12 h11078 xq14 a11098 u11099 h11100 h11101 h13828 h13829 a14084 h14085 w14086 w14087 r14088 r14089 r14090 h14091 h14111 h14231 h14232 ⊢) <;> (try simp only [zz, Int32.reduceToInt, ne_eq] at u11064 xq2 h11065 xq12 h11078 xq14 a11098 u11099 h11100 h11101 h13828 h13829 a14084 h14085 w14086 w14087 r14088 r14089 r14090 h14091 h14111 h14231 h14232 ⊢) <;> (try simp (disch := omega) only [zb] at u11064 xq2 h11065 xq12 h11078 xq14 a11098 u11099 h11100 h11101 h13828 h13829 a14084 h14085 w14086 w14087 r14088 r14089 r14090 h14091 h14111 h14231 h14232 ⊢) <;> first | omega | ((try simp (disch := omega) only [zb] at u11064 xq2 h11065 xq12 h11078 xq14 a11098 u11099 h11100 h11101 h13828 h13829 a14084 h14085 w14086 w14087 r14088 r14089 r14090 h14091 h14111 h14231 h14232 ⊢) <;> omega)) ) ?_
                        intro q28 hqq28
                        obtain ⟨cq28, gq28, xq28⟩ := hqq28
                        have fq28 := fr_trans fs11 gq28 rfl
                        have w14252 := (gq28.2.2 _ _ t_p0 0 rfl).1
                        have w14253 : mm_I s11 p0 0 = mm_I q2.2 p0 0 := by rw [← es11]; exact rd_k t_p0 tq5 (by decide)
                        have w14255 := rdA_fr (k := 9) (j := 0) gq28 cs11 t_p0 (κ' := 59) rfl rfl rfl
                        have w14257 : rdA s11 p0 9 0 = mm_I s11 q17 ((0 : Int32)).toNatClampNeg := rdA_eq eq17
                        have w14256 : rdA s11 p0 9 0 = rdA q2.2 p0 9 0 := by rw [← es11]; exact rdA_k cq2 t_p0 (κ' := 59) rfl tq5 (by decide)
                        have w14258 := rdA_fr (k := 9) (j := 0) gq2 c0 t_p0 (κ' := 59) rfl rfl rfl
                        have w14260 := rdA_fr (k := 10) (j := 0) gq28 cs11 t_p0 (κ' := 60) rfl rfl rfl
                        have w14261 : rdA s11 p0 10 0 = rdA q2.2 p0 10 0 := by rw [← es11]; exact rdA_j (by decide)
                        have w14263 : rdA q2.2 p0 10 0 = mm_I q2.2 q5 ((0 : Int32)).toNatClampNeg := rdA_eq eq5
                        have w14262 := rdA_fr (k := 10) (j := 0) gq2 c0 t_p0 (κ' := 60) rfl rfl rfl
                        have w14265 := rdA_fr (k := 10) (j := 1) gq28 cs11 t_p0 (κ' := 60) rfl rfl rfl
                        have w14266 : rdA s11 p0 10 1 = -1 := by rw [← es11]; exact rdA_self eq5
                        have w14267 := rdA_fr (k := 9) (j := 1) gq28 cs11 t_p0 (κ' := 59) rfl rfl rfl
                        have w14269 : rdA s11 p0 9 1 = mm_I s11 q17 ((1 : Int32)).toNatClampNeg := rdA_eq eq17
                        have w14268 : rdA s11 p0 9 1 = rdA q2.2 p0 9 1 := by rw [← es11]; exact rdA_k cq2 t_p0 (κ' := 59) rfl tq5 (by decide)
                        have w14270 := rdA_fr (k := 9) (j := 1) gq2 c0 t_p0 (κ' := 59) rfl rfl rfl
                        have w14274 : rdA q2.2 p0 10 1 = mm_I q2.2 q5 ((1 : Int32)).toNatClampNeg := rdA_eq eq5
                        have w14273 := rdA_fr (k := 10) (j := 1) gq2 c0 t_p0 (κ' := 60) rfl rfl rfl
                        have a14275 := zi_and p2 8 (by decide)
                        exact sw_some ⟨cq28, fq28, (by (try simp only [zp, zo, zq] at u11064 xq2 h11065 xq12 h11078 xq14 a11098 u11099 h11100 h11101 h13828 h13829 a14084 h14085 w14086 w14087 r14088 r14089 r14090 h14091 h14111 h14231 h14232 w14252 w14253 w14255 w14257 w14256 w14258 w14260 w14261 w14263 w14262 w14265 w14266 w14267 w14269 w14268 w14270 w14274 w14273 a14275 ⊢) <;> (try simp only [zz, Int32.reduceToInt, ne_eq] at u11064 xq2 h11065 xq12 h11078 xq14 a11098 u11099 h11100 h11101 h13828 h13829 a14084 h14085 w14086 w14087 r14088 r14089 r14090 h14091 h14111 h14231 h14232 w14252 w14253 w14255 w14257 w14256 w14258 w14260 w14261 w14263 w14262 w14265 w14266 w14267 w14269 w14268 w14270 w14274 w14273 a14275 ⊢) <;> (try simp (disch := omega) only [zb] at u11064 xq2 h11065 xq12 h11078 xq14 a11098 u11099 h11100 h11101 h13828 h13829 a14084 h14085 w14086 w14087 r14088 r14089 r14090 h14091 h14111 h14231 h14232 w14252 w14253 w14255 w14257 w14256 w14258 w14260 w14261 w14263 w14262 w14265 w14266 w14267 w14269 w14268 w14270 w14274 w14273 a14275 ⊢) <;> first | omega | ((try simp (disch := omega) only [zb] at u11064 xq2 h11065 xq12 h11078 xq14 a11098 u11099 h11100 h11101 h13828 h13829 a14084 h14085 w14086 w14087 r14088 r14089 r14090 h14091 h14111 h14231 h14232 w14252 w14253 w14255 w14257 w14256 w14258 w14260 w14261 w14263 w14262 w14265 w14266 w14267 w14269 w14268 w14270 w14274 w14273 a14275 ⊢) <;> omega))⟩
                    · refine sw_sh (ci_sh cs11 t_p0 rfl) ?_
                      refine sw_on (sX9_put cs11 t_p0 (by (try simp only [zp, zo, zq] at u11064 xq2 h11065 xq12 h11078 xq14 a11098 u11099 h11100 h11101 h13828 h13829 a14084 h14085 w14086 w14087 r14088 r14089 r14090 h14091 h14111 h14231 ⊢) <;> (try simp only [zz, Int32.reduceToInt, ne_eq] at u11064 xq2 h11065 xq12 h11078 xq14 a11098 u11099 h11100 h11101 h13828 h13829 a14084 h14085 w14086 w14087 r14088 r14089 r14090 h14091 h14111 h14231 ⊢) <;> (try simp (disch := omega) only [zb] at u11064 xq2 h11065 xq12 h11078 xq14 a11098 u11099 h11100 h11101 h13828 h13829 a14084 h14085 w14086 w14087 r14088 r14089 r14090 h14091 h14111 h14231 ⊢) <;> first | omega | ((try simp (disch := omega) only [zb] at u11064 xq2 h11065 xq12 h11078 xq14 a11098 u11099 h11100 h11101 h13828 h13829 a14084 h14085 w14086 w14087 r14088 r14089 r14090 h14091 h14111 h14231 ⊢) <;> omega)) ) ?_
                      intro q30 hqq30
                      obtain ⟨cq30, gq30, xq30⟩ := hqq30
                      have fq30 := fr_trans fs11 gq30 rfl
                      unfold fX9_pair_264
                      refine sw_ite (fun h14276 => ?_) (fun h14276 => ?_)
                      · have w14277 := (gq30.2.2 _ _ t_p0 0 rfl).1
                        have w14278 : mm_I s11 p0 0 = mm_I q2.2 p0 0 := by rw [← es11]; exact rd_k t_p0 tq5 (by decide)
                        have w14280 := rdA_fr (k := 9) (j := 0) gq30 cs11 t_p0 (κ' := 59) rfl rfl rfl
                        have w14282 : rdA s11 p0 9 0 = mm_I s11 q17 ((0 : Int32)).toNatClampNeg := rdA_eq eq17
                        have w14281 : rdA s11 p0 9 0 = rdA q2.2 p0 9 0 := by rw [← es11]; exact rdA_k cq2 t_p0 (κ' := 59) rfl tq5 (by decide)
                        have w14283 := rdA_fr (k := 9) (j := 0) gq2 c0 t_p0 (κ' := 59) rfl rfl rfl
                        have w14285 := rdA_fr (k := 10) (j := 0) gq30 cs11 t_p0 (κ' := 60) rfl rfl rfl
                        have w14286 : rdA s11 p0 10 0 = rdA q2.2 p0 10 0 := by rw [← es11]; exact rdA_j (by decide)
                        have w14288 : rdA q2.2 p0 10 0 = mm_I q2.2 q5 ((0 : Int32)).toNatClampNeg := rdA_eq eq5
                        have w14287 := rdA_fr (k := 10) (j := 0) gq2 c0 t_p0 (κ' := 60) rfl rfl rfl
                        have w14290 := rdA_fr (k := 10) (j := 1) gq30 cs11 t_p0 (κ' := 60) rfl rfl rfl
                        have w14291 : rdA s11 p0 10 1 = -1 := by rw [← es11]; exact rdA_self eq5
                        have w14292 := rdA_fr (k := 9) (j := 1) gq30 cs11 t_p0 (κ' := 59) rfl rfl rfl
                        have w14294 : rdA s11 p0 9 1 = mm_I s11 q17 ((1 : Int32)).toNatClampNeg := rdA_eq eq17
                        have w14293 : rdA s11 p0 9 1 = rdA q2.2 p0 9 1 := by rw [← es11]; exact rdA_k cq2 t_p0 (κ' := 59) rfl tq5 (by decide)
                        have w14295 := rdA_fr (k := 9) (j := 1) gq2 c0 t_p0 (κ' := 59) rfl rfl rfl
                        have w14299 : rdA q2.2 p0 10 1 = mm_I q2.2 q5 ((1 : Int32)).toNatClampNeg := rdA_eq eq5
                        have w14298 := rdA_fr (k := 10) (j := 1) gq2 c0 t_p0 (κ' := 60) rfl rfl rfl
                        have a14300 := zi_and p2 8 (by decide)
                        exact sw_some ⟨cq30, fq30, (by (try simp only [zp, zo, zq] at u11064 xq2 h11065 xq12 h11078 xq14 a11098 u11099 h11100 h11101 h13828 h13829 a14084 h14085 w14086 w14087 r14088 r14089 r14090 h14091 h14111 h14231 h14276 w14277 w14278 w14280 w14282 w14281 w14283 w14285 w14286 w14288 w14287 w14290 w14291 w14292 w14294 w14293 w14295 w14299 w14298 a14300 ⊢) <;> (try simp only [zz, Int32.reduceToInt, ne_eq] at u11064 xq2 h11065 xq12 h11078 xq14 a11098 u11099 h11100 h11101 h13828 h13829 a14084 h14085 w14086 w14087 r14088 r14089 r14090 h14091 h14111 h14231 h14276 w14277 w14278 w14280 w14282 w14281 w14283 w14285 w14286 w14288 w14287 w14290 w14291 w14292 w14294 w14293 w14295 w14299 w14298 a14300 ⊢) <;> (try simp (disch := omega) only [zb] at u11064 xq2 h11065 xq12 h11078 xq14 a11098 u11099 h11100 h11101 h13828 h13829 a14084 h14085 w14086 w14087 r14088 r14089 r14090 h14091 h14111 h14231 h14276 w14277 w14278 w14280 w14282 w14281 w14283 w14285 w14286 w14288 w14287 w14290 w14291 w14292 w14294 w14293 w14295 w14299 w14298 a14300 ⊢) <;> first | omega | ((try simp (disch := omega) only [zb] at u11064 xq2 h11065 xq12 h11078 xq14 a11098 u11099 h11100 h11101 h13828 h13829 a14084 h14085 w14086 w14087 r14088 r14089 r14090 h14091 h14111 h14231 h14276 w14277 w14278 w14280 w14282 w14281 w14283 w14285 w14286 w14288 w14287 w14290 w14291 w14292 w14294 w14293 w14295 w14299 w14298 a14300 ⊢) <;> omega))⟩
                      · refine sw_sh (ci_sh cq30 t_p0 rfl) ?_
                        refine sw_on (sX9_put cq30 t_p0 (by (try simp only [zp, zo, zq] at u11064 xq2 h11065 xq12 h11078 xq14 a11098 u11099 h11100 h11101 h13828 h13829 a14084 h14085 w14086 w14087 r14088 r14089 r14090 h14091 h14111 h14231 h14276 ⊢) <;> (try simp only [zz, Int32.reduceToInt, ne_eq] at u11064 xq2 h11065 xq12 h11078 xq14 a11098 u11099 h11100 h11101 h13828 h13829 a14084 h14085 w14086 w14087 r14088 r14089 r14090 h14091 h14111 h14231 h14276 ⊢) <;> (try simp (disch := omega) only [zb] at u11064 xq2 h11065 xq12 h11078 xq14 a11098 u11099 h11100 h11101 h13828 h13829 a14084 h14085 w14086 w14087 r14088 r14089 r14090 h14091 h14111 h14231 h14276 ⊢) <;> first | omega | ((try simp (disch := omega) only [zb] at u11064 xq2 h11065 xq12 h11078 xq14 a11098 u11099 h11100 h11101 h13828 h13829 a14084 h14085 w14086 w14087 r14088 r14089 r14090 h14091 h14111 h14231 h14276 ⊢) <;> omega)) ) ?_
                        intro q28 hqq28
                        obtain ⟨cq28, gq28, xq28⟩ := hqq28
                        have fq28 := fr_trans fq30 gq28 rfl
                        have w14301 := (gq28.2.2 _ _ t_p0 0 rfl).1
                        have w14302 := (gq30.2.2 _ _ t_p0 0 rfl).1
                        have w14303 : mm_I s11 p0 0 = mm_I q2.2 p0 0 := by rw [← es11]; exact rd_k t_p0 tq5 (by decide)
                        have w14305 := rdA_fr (k := 9) (j := 0) gq28 cq30 t_p0 (κ' := 59) rfl rfl rfl
                        have w14306 := rdA_fr (k := 9) (j := 0) gq30 cs11 t_p0 (κ' := 59) rfl rfl rfl
                        have w14308 : rdA s11 p0 9 0 = mm_I s11 q17 ((0 : Int32)).toNatClampNeg := rdA_eq eq17
                        have w14307 : rdA s11 p0 9 0 = rdA q2.2 p0 9 0 := by rw [← es11]; exact rdA_k cq2 t_p0 (κ' := 59) rfl tq5 (by decide)
                        have w14309 := rdA_fr (k := 9) (j := 0) gq2 c0 t_p0 (κ' := 59) rfl rfl rfl
                        have w14311 := rdA_fr (k := 10) (j := 0) gq28 cq30 t_p0 (κ' := 60) rfl rfl rfl
                        have w14312 := rdA_fr (k := 10) (j := 0) gq30 cs11 t_p0 (κ' := 60) rfl rfl rfl
                        have w14313 : rdA s11 p0 10 0 = rdA q2.2 p0 10 0 := by rw [← es11]; exact rdA_j (by decide)
                        have w14315 : rdA q2.2 p0 10 0 = mm_I q2.2 q5 ((0 : Int32)).toNatClampNeg := rdA_eq eq5
                        have w14314 := rdA_fr (k := 10) (j := 0) gq2 c0 t_p0 (κ' := 60) rfl rfl rfl
                        have w14317 := rdA_fr (k := 10) (j := 1) gq28 cq30 t_p0 (κ' := 60) rfl rfl rfl
                        have w14318 := rdA_fr (k := 10) (j := 1) gq30 cs11 t_p0 (κ' := 60) rfl rfl rfl
                        have w14319 : rdA s11 p0 10 1 = -1 := by rw [← es11]; exact rdA_self eq5
                        have w14320 := rdA_fr (k := 9) (j := 1) gq28 cq30 t_p0 (κ' := 59) rfl rfl rfl
                        have w14321 := rdA_fr (k := 9) (j := 1) gq30 cs11 t_p0 (κ' := 59) rfl rfl rfl
                        have w14323 : rdA s11 p0 9 1 = mm_I s11 q17 ((1 : Int32)).toNatClampNeg := rdA_eq eq17
                        have w14322 : rdA s11 p0 9 1 = rdA q2.2 p0 9 1 := by rw [← es11]; exact rdA_k cq2 t_p0 (κ' := 59) rfl tq5 (by decide)
                        have w14324 := rdA_fr (k := 9) (j := 1) gq2 c0 t_p0 (κ' := 59) rfl rfl rfl
                        have w14328 : rdA q2.2 p0 10 1 = mm_I q2.2 q5 ((1 : Int32)).toNatClampNeg := rdA_eq eq5
                        have w14327 := rdA_fr (k := 10) (j := 1) gq2 c0 t_p0 (κ' := 60) rfl rfl rfl
                        have a14329 := zi_and p2 8 (by decide)
                        exact sw_some ⟨cq28, fq28, (by (try simp only [zp, zo, zq] at u11064 xq2 h11065 xq12 h11078 xq14 a11098 u11099 h11100 h11101 h13828 h13829 a14084 h14085 w14086 w14087 r14088 r14089 r14090 h14091 h14111 h14231 h14276 w14301 w14302 w14303 w14305 w14306 w14308 w14307 w14309 w14311 w14312 w14313 w14315 w14314 w14317 w14318 w14319 w14320 w14321 w14323 w14322 w14324 w14328 w14327 a14329 ⊢) <;> (try simp only [zz, Int32.reduceToInt, ne_eq] at u11064 xq2 h11065 xq12 h11078 xq14 a11098 u11099 h11100 h11101 h13828 h13829 a14084 h14085 w14086 w14087 r14088 r14089 r14090 h14091 h14111 h14231 h14276 w14301 w14302 w14303 w14305 w14306 w14308 w14307 w14309 w14311 w14312 w14313 w14315 w14314 w14317 w14318 w14319 w14320 w14321 w14323 w14322 w14324 w14328 w14327 a14329 ⊢) <;> (try simp (disch := omega) only [zb] at u11064 xq2 h11065 xq12 h11078 xq14 a11098 u11099 h11100 h11101 h13828 h13829 a14084 h14085 w14086 w14087 r14088 r14089 r14090 h14091 h14111 h14231 h14276 w14301 w14302 w14303 w14305 w14306 w14308 w14307 w14309 w14311 w14312 w14313 w14315 w14314 w14317 w14318 w14319 w14320 w14321 w14323 w14322 w14324 w14328 w14327 a14329 ⊢) <;> first | omega | ((try simp (disch := omega) only [zb] at u11064 xq2 h11065 xq12 h11078 xq14 a11098 u11099 h11100 h11101 h13828 h13829 a14084 h14085 w14086 w14087 r14088 r14089 r14090 h14091 h14111 h14231 h14276 w14301 w14302 w14303 w14305 w14306 w14308 w14307 w14309 w14311 w14312 w14313 w14315 w14314 w14317 w14318 w14319 w14320 w14321 w14323 w14322 w14324 w14328 w14327 a14329 ⊢) <;> omega))⟩
              · refine sw_ite (fun h14330 => ?_) (fun h14330 => ?_)
                · unfold fX9_pair_222
                  unfold fX9_pair_228
                  have w14331 : mm_I s11 q17 ((1 : Int32).toNatClampNeg) = mm_I q2.2 q17 ((1 : Int32).toNatClampNeg) := by rw [← es11]; exact rd_k tq17 tq5 (by decide)
                  have w14332 := (gq2.2.2 _ _ tq17 ((1 : Int32).toNatClampNeg) rfl).1
                  have r14333 := ci_rg c0 tq17 ((1 : Int32).toNatClampNeg) (lo := (-1)) (hi := 3) rfl
                  have r14334 := ci_rg cq2 tq17 ((1 : Int32).toNatClampNeg) (lo := (-1)) (hi := 3) rfl
                  have r14335 := ci_rg cs11 tq17 ((1 : Int32).toNatClampNeg) (lo := (-1)) (hi := 3) rfl
                  refine sw_ite (fun h14336 => ?_) (fun h14336 => ?_)
                  · have w14337 : mm_I s11 p0 0 = mm_I q2.2 p0 0 := by rw [← es11]; exact rd_k t_p0 tq5 (by decide)
                    have w14340 : rdA s11 p0 9 0 = mm_I s11 q17 ((0 : Int32)).toNatClampNeg := rdA_eq eq17
                    have w14339 : rdA s11 p0 9 0 = rdA q2.2 p0 9 0 := by rw [← es11]; exact rdA_k cq2 t_p0 (κ' := 59) rfl tq5 (by decide)
                    have w14341 := rdA_fr (k := 9) (j := 0) gq2 c0 t_p0 (κ' := 59) rfl rfl rfl
                    have w14343 : rdA s11 p0 10 0 = rdA q2.2 p0 10 0 := by rw [← es11]; exact rdA_j (by decide)
                    have w14345 : rdA q2.2 p0 10 0 = mm_I q2.2 q5 ((0 : Int32)).toNatClampNeg := rdA_eq eq5
                    have w14344 := rdA_fr (k := 10) (j := 0) gq2 c0 t_p0 (κ' := 60) rfl rfl rfl
                    have w14347 : rdA s11 p0 10 1 = -1 := by rw [← es11]; exact rdA_self eq5
                    have w14349 : rdA s11 p0 9 1 = mm_I s11 q17 ((1 : Int32)).toNatClampNeg := rdA_eq eq17
                    have w14348 : rdA s11 p0 9 1 = rdA q2.2 p0 9 1 := by rw [← es11]; exact rdA_k cq2 t_p0 (κ' := 59) rfl tq5 (by decide)
                    have w14350 := rdA_fr (k := 9) (j := 1) gq2 c0 t_p0 (κ' := 59) rfl rfl rfl
                    have w14354 : rdA q2.2 p0 10 1 = mm_I q2.2 q5 ((1 : Int32)).toNatClampNeg := rdA_eq eq5
                    have w14353 := rdA_fr (k := 10) (j := 1) gq2 c0 t_p0 (κ' := 60) rfl rfl rfl
                    have a14355 := zi_and p2 8 (by decide)
                    exact sw_some ⟨cs11, fs11, (by (try simp only [zp, zo, zq] at u11064 xq2 h11065 xq12 h11078 xq14 a11098 u11099 h11100 h11101 h13828 h13829 a14084 h14085 h14330 w14331 w14332 r14333 r14334 r14335 h14336 w14337 w14340 w14339 w14341 w14343 w14345 w14344 w14347 w14349 w14348 w14350 w14354 w14353 a14355 ⊢) <;> (try simp only [zz, Int32.reduceToInt, ne_eq] at u11064 xq2 h11065 xq12 h11078 xq14 a11098 u11099 h11100 h11101 h13828 h13829 a14084 h14085 h14330 w14331 w14332 r14333 r14334 r14335 h14336 w14337 w14340 w14339 w14341 w14343 w14345 w14344 w14347 w14349 w14348 w14350 w14354 w14353 a14355 ⊢) <;> (try simp (disch := omega) only [zb] at u11064 xq2 h11065 xq12 h11078 xq14 a11098 u11099 h11100 h11101 h13828 h13829 a14084 h14085 h14330 w14331 w14332 r14333 r14334 r14335 h14336 w14337 w14340 w14339 w14341 w14343 w14345 w14344 w14347 w14349 w14348 w14350 w14354 w14353 a14355 ⊢) <;> first | omega | ((try simp (disch := omega) only [zb] at u11064 xq2 h11065 xq12 h11078 xq14 a11098 u11099 h11100 h11101 h13828 h13829 a14084 h14085 h14330 w14331 w14332 r14333 r14334 r14335 h14336 w14337 w14340 w14339 w14341 w14343 w14345 w14344 w14347 w14349 w14348 w14350 w14354 w14353 a14355 ⊢) <;> omega))⟩
                  · refine sw_ite (fun h14356 => ?_) (fun h14356 => ?_)
                    · refine sw_ite (fun h14357 => ?_) (fun h14357 => ?_)
                      · have w14358 : mm_I s11 p0 0 = mm_I q2.2 p0 0 := by rw [← es11]; exact rd_k t_p0 tq5 (by decide)
                        have w14361 : rdA s11 p0 9 0 = mm_I s11 q17 ((0 : Int32)).toNatClampNeg := rdA_eq eq17
                        have w14360 : rdA s11 p0 9 0 = rdA q2.2 p0 9 0 := by rw [← es11]; exact rdA_k cq2 t_p0 (κ' := 59) rfl tq5 (by decide)
                        have w14362 := rdA_fr (k := 9) (j := 0) gq2 c0 t_p0 (κ' := 59) rfl rfl rfl
                        have w14364 : rdA s11 p0 10 0 = rdA q2.2 p0 10 0 := by rw [← es11]; exact rdA_j (by decide)
                        have w14366 : rdA q2.2 p0 10 0 = mm_I q2.2 q5 ((0 : Int32)).toNatClampNeg := rdA_eq eq5
                        have w14365 := rdA_fr (k := 10) (j := 0) gq2 c0 t_p0 (κ' := 60) rfl rfl rfl
                        have w14368 : rdA s11 p0 10 1 = -1 := by rw [← es11]; exact rdA_self eq5
                        have w14370 : rdA s11 p0 9 1 = mm_I s11 q17 ((1 : Int32)).toNatClampNeg := rdA_eq eq17
                        have w14369 : rdA s11 p0 9 1 = rdA q2.2 p0 9 1 := by rw [← es11]; exact rdA_k cq2 t_p0 (κ' := 59) rfl tq5 (by decide)
                        have w14371 := rdA_fr (k := 9) (j := 1) gq2 c0 t_p0 (κ' := 59) rfl rfl rfl
                        have w14375 : rdA q2.2 p0 10 1 = mm_I q2.2 q5 ((1 : Int32)).toNatClampNeg := rdA_eq eq5
                        have w14374 := rdA_fr (k := 10) (j := 1) gq2 c0 t_p0 (κ' := 60) rfl rfl rfl
                        have a14376 := zi_and p2 8 (by decide)
                        exact sw_some ⟨cs11, fs11, (by (try simp only [zp, zo, zq] at u11064 xq2 h11065 xq12 h11078 xq14 a11098 u11099 h11100 h11101 h13828 h13829 a14084 h14085 h14330 w14331 w14332 r14333 r14334 r14335 h14336 h14356 h14357 w14358 w14361 w14360 w14362 w14364 w14366 w14365 w14368 w14370 w14369 w14371 w14375 w14374 a14376 ⊢) <;> (try simp only [zz, Int32.reduceToInt, ne_eq] at u11064 xq2 h11065 xq12 h11078 xq14 a11098 u11099 h11100 h11101 h13828 h13829 a14084 h14085 h14330 w14331 w14332 r14333 r14334 r14335 h14336 h14356 h14357 w14358 w14361 w14360 w14362 w14364 w14366 w14365 w14368 w14370 w14369 w14371 w14375 w14374 a14376 ⊢) <;> (try simp (disch := omega) only [zb] at u11064 xq2 h11065 xq12 h11078 xq14 a11098 u11099 h11100 h11101 h13828 h13829 a14084 h14085 h14330 w14331 w14332 r14333 r14334 r14335 h14336 h14356 h14357 w14358 w14361 w14360 w14362 w14364 w14366 w14365 w14368 w14370 w14369 w14371 w14375 w14374 a14376 ⊢) <;> first | omega | ((try simp (disch := omega) only [zb] at u11064 xq2 h11065 xq12 h11078 xq14 a11098 u11099 h11100 h11101 h13828 h13829 a14084 h14085 h14330 w14331 w14332 r14333 r14334 r14335 h14336 h14356 h14357 w14358 w14361 w14360 w14362 w14364 w14366 w14365 w14368 w14370 w14369 w14371 w14375 w14374 a14376 ⊢) <;> omega))⟩
                      · unfold fX9_pair_250
                        refine sw_ite (fun h14377 => ?_) (fun h14377 => ?_)
                        · unfold fX9_pair_264
                          refine sw_ite (fun h14378 => ?_) (fun h14378 => ?_)
                          · have w14379 : mm_I s11 p0 0 = mm_I q2.2 p0 0 := by rw [← es11]; exact rd_k t_p0 tq5 (by decide)
                            have w14382 : rdA s11 p0 9 0 = mm_I s11 q17 ((0 : Int32)).toNatClampNeg := rdA_eq eq17
                            have w14381 : rdA s11 p0 9 0 = rdA q2.2 p0 9 0 := by rw [← es11]; exact rdA_k cq2 t_p0 (κ' := 59) rfl tq5 (by decide)
                            have w14383 := rdA_fr (k := 9) (j := 0) gq2 c0 t_p0 (κ' := 59) rfl rfl rfl
                            have w14385 : rdA s11 p0 10 0 = rdA q2.2 p0 10 0 := by rw [← es11]; exact rdA_j (by decide)
                            have w14387 : rdA q2.2 p0 10 0 = mm_I q2.2 q5 ((0 : Int32)).toNatClampNeg := rdA_eq eq5
                            have w14386 := rdA_fr (k := 10) (j := 0) gq2 c0 t_p0 (κ' := 60) rfl rfl rfl
                            have w14389 : rdA s11 p0 10 1 = -1 := by rw [← es11]; exact rdA_self eq5
                            have w14391 : rdA s11 p0 9 1 = mm_I s11 q17 ((1 : Int32)).toNatClampNeg := rdA_eq eq17
                            have w14390 : rdA s11 p0 9 1 = rdA q2.2 p0 9 1 := by rw [← es11]; exact rdA_k cq2 t_p0 (κ' := 59) rfl tq5 (by decide)
                            have w14392 := rdA_fr (k := 9) (j := 1) gq2 c0 t_p0 (κ' := 59) rfl rfl rfl
                            have w14396 : rdA q2.2 p0 10 1 = mm_I q2.2 q5 ((1 : Int32)).toNatClampNeg := rdA_eq eq5
                            have w14395 := rdA_fr (k := 10) (j := 1) gq2 c0 t_p0 (κ' := 60) rfl rfl rfl
                            have a14397 := zi_and p2 8 (by decide)
                            exact sw_some ⟨cs11, fs11, (by (try simp only [zp, zo, zq] at u11064 xq2 h11065 xq12 h11078 xq14 a11098 u11099 h11100 h11101 h13828 h13829 a14084 h14085 h14330 w14331 w14332 r14333 r14334 r14335 h14336 h14356 h14357 h14377 h14378 w14379 w14382 w14381 w14383 w14385 w14387 w14386 w14389 w14391 w14390 w14392 w14396 w14395 a14397 ⊢) <;> (try simp only [zz, Int32.reduceToInt, ne_eq] at u11064 xq2 h11065 xq12 h11078 xq14 a11098 u11099 h11100 h11101 h13828 h13829 a14084 h14085 h14330 w14331 w14332 r14333 r14334 r14335 h14336 h14356 h14357 h14377 h14378 w14379 w14382 w14381 w14383 w14385 w14387 w14386 w14389 w14391 w14390 w14392 w14396 w14395 a14397 ⊢) <;> (try simp (disch := omega) only [zb] at u11064 xq2 h11065 xq12 h11078 xq14 a11098 u11099 h11100 h11101 h13828 h13829 a14084 h14085 h14330 w14331 w14332 r14333 r14334 r14335 h14336 h14356 h14357 h14377 h14378 w14379 w14382 w14381 w14383 w14385 w14387 w14386 w14389 w14391 w14390 w14392 w14396 w14395 a14397 ⊢) <;> first | omega | ((try simp (disch := omega) only [zb] at u11064 xq2 h11065 xq12 h11078 xq14 a11098 u11099 h11100 h11101 h13828 h13829 a14084 h14085 h14330 w14331 w14332 r14333 r14334 r14335 h14336 h14356 h14357 h14377 h14378 w14379 w14382 w14381 w14383 w14385 w14387 w14386 w14389 w14391 w14390 w14392 w14396 w14395 a14397 ⊢) <;> omega))⟩
                          · refine sw_sh (ci_sh cs11 t_p0 rfl) ?_
                            refine sw_on (sX9_put cs11 t_p0 (by (try simp only [zp, zo, zq] at u11064 xq2 h11065 xq12 h11078 xq14 a11098 u11099 h11100 h11101 h13828 h13829 a14084 h14085 h14330 w14331 w14332 r14333 r14334 r14335 h14336 h14356 h14357 h14377 h14378 ⊢) <;> (try simp only [zz, Int32.reduceToInt, ne_eq] at u11064 xq2 h11065 xq12 h11078 xq14 a11098 u11099 h11100 h11101 h13828 h13829 a14084 h14085 h14330 w14331 w14332 r14333 r14334 r14335 h14336 h14356 h14357 h14377 h14378 ⊢) <;> (try simp (disch := omega) only [zb] at u11064 xq2 h11065 xq12 h11078 xq14 a11098 u11099 h11100 h11101 h13828 h13829 a14084 h14085 h14330 w14331 w14332 r14333 r14334 r14335 h14336 h14356 h14357 h14377 h14378 ⊢) <;> first | omega | ((try simp (disch := omega) only [zb] at u11064 xq2 h11065 xq12 h11078 xq14 a11098 u11099 h11100 h11101 h13828 h13829 a14084 h14085 h14330 w14331 w14332 r14333 r14334 r14335 h14336 h14356 h14357 h14377 h14378 ⊢) <;> omega)) ) ?_
                            intro q28 hqq28
                            obtain ⟨cq28, gq28, xq28⟩ := hqq28
                            have fq28 := fr_trans fs11 gq28 rfl
                            have w14398 := (gq28.2.2 _ _ t_p0 0 rfl).1
                            have w14399 : mm_I s11 p0 0 = mm_I q2.2 p0 0 := by rw [← es11]; exact rd_k t_p0 tq5 (by decide)
                            have w14401 := rdA_fr (k := 9) (j := 0) gq28 cs11 t_p0 (κ' := 59) rfl rfl rfl
                            have w14403 : rdA s11 p0 9 0 = mm_I s11 q17 ((0 : Int32)).toNatClampNeg := rdA_eq eq17
                            have w14402 : rdA s11 p0 9 0 = rdA q2.2 p0 9 0 := by rw [← es11]; exact rdA_k cq2 t_p0 (κ' := 59) rfl tq5 (by decide)
                            have w14404 := rdA_fr (k := 9) (j := 0) gq2 c0 t_p0 (κ' := 59) rfl rfl rfl
                            have w14406 := rdA_fr (k := 10) (j := 0) gq28 cs11 t_p0 (κ' := 60) rfl rfl rfl
                            have w14407 : rdA s11 p0 10 0 = rdA q2.2 p0 10 0 := by rw [← es11]; exact rdA_j (by decide)
                            have w14409 : rdA q2.2 p0 10 0 = mm_I q2.2 q5 ((0 : Int32)).toNatClampNeg := rdA_eq eq5
                            have w14408 := rdA_fr (k := 10) (j := 0) gq2 c0 t_p0 (κ' := 60) rfl rfl rfl
                            have w14411 := rdA_fr (k := 10) (j := 1) gq28 cs11 t_p0 (κ' := 60) rfl rfl rfl
                            have w14412 : rdA s11 p0 10 1 = -1 := by rw [← es11]; exact rdA_self eq5
                            have w14413 := rdA_fr (k := 9) (j := 1) gq28 cs11 t_p0 (κ' := 59) rfl rfl rfl
                            have w14415 : rdA s11 p0 9 1 = mm_I s11 q17 ((1 : Int32)).toNatClampNeg := rdA_eq eq17
                            have w14414 : rdA s11 p0 9 1 = rdA q2.2 p0 9 1 := by rw [← es11]; exact rdA_k cq2 t_p0 (κ' := 59) rfl tq5 (by decide)
                            have w14416 := rdA_fr (k := 9) (j := 1) gq2 c0 t_p0 (κ' := 59) rfl rfl rfl
                            have w14420 : rdA q2.2 p0 10 1 = mm_I q2.2 q5 ((1 : Int32)).toNatClampNeg := rdA_eq eq5
                            have w14419 := rdA_fr (k := 10) (j := 1) gq2 c0 t_p0 (κ' := 60) rfl rfl rfl
                            have a14421 := zi_and p2 8 (by decide)
                            exact sw_some ⟨cq28, fq28, (by (try simp only [zp, zo, zq] at u11064 xq2 h11065 xq12 h11078 xq14 a11098 u11099 h11100 h11101 h13828 h13829 a14084 h14085 h14330 w14331 w14332 r14333 r14334 r14335 h14336 h14356 h14357 h14377 h14378 w14398 w14399 w14401 w14403 w14402 w14404 w14406 w14407 w14409 w14408 w14411 w14412 w14413 w14415 w14414 w14416 w14420 w14419 a14421 ⊢) <;> (try simp only [zz, Int32.reduceToInt, ne_eq] at u11064 xq2 h11065 xq12 h11078 xq14 a11098 u11099 h11100 h11101 h13828 h13829 a14084 h14085 h14330 w14331 w14332 r14333 r14334 r14335 h14336 h14356 h14357 h14377 h14378 w14398 w14399 w14401 w14403 w14402 w14404 w14406 w14407 w14409 w14408 w14411 w14412 w14413 w14415 w14414 w14416 w14420 w14419 a14421 ⊢) <;> (try simp (disch := omega) only [zb] at u11064 xq2 h11065 xq12 h11078 xq14 a11098 u11099 h11100 h11101 h13828 h13829 a14084 h14085 h14330 w14331 w14332 r14333 r14334 r14335 h14336 h14356 h14357 h14377 h14378 w14398 w14399 w14401 w14403 w14402 w14404 w14406 w14407 w14409 w14408 w14411 w14412 w14413 w14415 w14414 w14416 w14420 w14419 a14421 ⊢) <;> first | omega | ((try simp (disch := omega) only [zb] at u11064 xq2 h11065 xq12 h11078 xq14 a11098 u11099 h11100 h11101 h13828 h13829 a14084 h14085 h14330 w14331 w14332 r14333 r14334 r14335 h14336 h14356 h14357 h14377 h14378 w14398 w14399 w14401 w14403 w14402 w14404 w14406 w14407 w14409 w14408 w14411 w14412 w14413 w14415 w14414 w14416 w14420 w14419 a14421 ⊢) <;> omega))⟩
                        · refine sw_sh (ci_sh cs11 t_p0 rfl) ?_
                          refine sw_on (sX9_put cs11 t_p0 (by (try simp only [zp, zo, zq] at u11064 xq2 h11065 xq12 h11078 xq14 a11098 u11099 h11100 h11101 h13828 h13829 a14084 h14085 h14330 w14331 w14332 r14333 r14334 r14335 h14336 h14356 h14357 h14377 ⊢) <;> (try simp only [zz, Int32.reduceToInt, ne_eq] at u11064 xq2 h11065 xq12 h11078 xq14 a11098 u11099 h11100 h11101 h13828 h13829 a14084 h14085 h14330 w14331 w14332 r14333 r14334 r14335 h14336 h14356 h14357 h14377 ⊢) <;> (try simp (disch := omega) only [zb] at u11064 xq2 h11065 xq12 h11078 xq14 a11098 u11099 h11100 h11101 h13828 h13829 a14084 h14085 h14330 w14331 w14332 r14333 r14334 r14335 h14336 h14356 h14357 h14377 ⊢) <;> first | omega | ((try simp (disch := omega) only [zb] at u11064 xq2 h11065 xq12 h11078 xq14 a11098 u11099 h11100 h11101 h13828 h13829 a14084 h14085 h14330 w14331 w14332 r14333 r14334 r14335 h14336 h14356 h14357 h14377 ⊢) <;> omega)) ) ?_
                          intro q30 hqq30
                          obtain ⟨cq30, gq30, xq30⟩ := hqq30
                          have fq30 := fr_trans fs11 gq30 rfl
                          unfold fX9_pair_264
                          refine sw_ite (fun h14422 => ?_) (fun h14422 => ?_)
                          · have w14423 := (gq30.2.2 _ _ t_p0 0 rfl).1
                            have w14424 : mm_I s11 p0 0 = mm_I q2.2 p0 0 := by rw [← es11]; exact rd_k t_p0 tq5 (by decide)
                            have w14426 := rdA_fr (k := 9) (j := 0) gq30 cs11 t_p0 (κ' := 59) rfl rfl rfl
                            have w14428 : rdA s11 p0 9 0 = mm_I s11 q17 ((0 : Int32)).toNatClampNeg := rdA_eq eq17
                            have w14427 : rdA s11 p0 9 0 = rdA q2.2 p0 9 0 := by rw [← es11]; exact rdA_k cq2 t_p0 (κ' := 59) rfl tq5 (by decide)
                            have w14429 := rdA_fr (k := 9) (j := 0) gq2 c0 t_p0 (κ' := 59) rfl rfl rfl
                            have w14431 := rdA_fr (k := 10) (j := 0) gq30 cs11 t_p0 (κ' := 60) rfl rfl rfl
                            have w14432 : rdA s11 p0 10 0 = rdA q2.2 p0 10 0 := by rw [← es11]; exact rdA_j (by decide)
                            have w14434 : rdA q2.2 p0 10 0 = mm_I q2.2 q5 ((0 : Int32)).toNatClampNeg := rdA_eq eq5
                            have w14433 := rdA_fr (k := 10) (j := 0) gq2 c0 t_p0 (κ' := 60) rfl rfl rfl
                            have w14436 := rdA_fr (k := 10) (j := 1) gq30 cs11 t_p0 (κ' := 60) rfl rfl rfl
                            have w14437 : rdA s11 p0 10 1 = -1 := by rw [← es11]; exact rdA_self eq5
                            have w14438 := rdA_fr (k := 9) (j := 1) gq30 cs11 t_p0 (κ' := 59) rfl rfl rfl
                            have w14440 : rdA s11 p0 9 1 = mm_I s11 q17 ((1 : Int32)).toNatClampNeg := rdA_eq eq17
                            have w14439 : rdA s11 p0 9 1 = rdA q2.2 p0 9 1 := by rw [← es11]; exact rdA_k cq2 t_p0 (κ' := 59) rfl tq5 (by decide)
                            have w14441 := rdA_fr (k := 9) (j := 1) gq2 c0 t_p0 (κ' := 59) rfl rfl rfl
                            have w14445 : rdA q2.2 p0 10 1 = mm_I q2.2 q5 ((1 : Int32)).toNatClampNeg := rdA_eq eq5
                            have w14444 := rdA_fr (k := 10) (j := 1) gq2 c0 t_p0 (κ' := 60) rfl rfl rfl
                            have a14446 := zi_and p2 8 (by decide)
                            exact sw_some ⟨cq30, fq30, (by (try simp only [zp, zo, zq] at u11064 xq2 h11065 xq12 h11078 xq14 a11098 u11099 h11100 h11101 h13828 h13829 a14084 h14085 h14330 w14331 w14332 r14333 r14334 r14335 h14336 h14356 h14357 h14377 h14422 w14423 w14424 w14426 w14428 w14427 w14429 w14431 w14432 w14434 w14433 w14436 w14437 w14438 w14440 w14439 w14441 w14445 w14444 a14446 ⊢) <;> (try simp only [zz, Int32.reduceToInt, ne_eq] at u11064 xq2 h11065 xq12 h11078 xq14 a11098 u11099 h11100 h11101 h13828 h13829 a14084 h14085 h14330 w14331 w14332 r14333 r14334 r14335 h14336 h14356 h14357 h14377 h14422 w14423 w14424 w14426 w14428 w14427 w14429 w14431 w14432 w14434 w14433 w14436 w14437 w14438 w14440 w14439 w14441 w14445 w14444 a14446 ⊢) <;> (try simp (disch := omega) only [zb] at u11064 xq2 h11065 xq12 h11078 xq14 a11098 u11099 h11100 h11101 h13828 h13829 a14084 h14085 h14330 w14331 w14332 r14333 r14334 r14335 h14336 h14356 h14357 h14377 h14422 w14423 w14424 w14426 w14428 w14427 w14429 w14431 w14432 w14434 w14433 w14436 w14437 w14438 w14440 w14439 w14441 w14445 w14444 a14446 ⊢) <;> first | omega | ((try simp (disch := omega) only [zb] at u11064 xq2 h11065 xq12 h11078 xq14 a11098 u11099 h11100 h11101 h13828 h13829 a14084 h14085 h14330 w14331 w14332 r14333 r14334 r14335 h14336 h14356 h14357 h14377 h14422 w14423 w14424 w14426 w14428 w14427 w14429 w14431 w14432 w14434 w14433 w14436 w14437 w14438 w14440 w14439 w14441 w14445 w14444 a14446 ⊢) <;> omega))⟩
                          · refine sw_sh (ci_sh cq30 t_p0 rfl) ?_
                            refine sw_on (sX9_put cq30 t_p0 (by (try simp only [zp, zo, zq] at u11064 xq2 h11065 xq12 h11078 xq14 a11098 u11099 h11100 h11101 h13828 h13829 a14084 h14085 h14330 w14331 w14332 r14333 r14334 r14335 h14336 h14356 h14357 h14377 h14422 ⊢) <;> (try simp only [zz, Int32.reduceToInt, ne_eq] at u11064 xq2 h11065 xq12 h11078 xq14 a11098 u11099 h11100 h11101 h13828 h13829 a14084 h14085 h14330 w14331 w14332 r14333 r14334 r14335 h14336 h14356 h14357 h14377 h14422 ⊢) <;> (try simp (disch := omega) only [zb] at u11064 xq2 h11065 xq12 h11078 xq14 a11098 u11099 h11100 h11101 h13828 h13829 a14084 h14085 h14330 w14331 w14332 r14333 r14334 r14335 h14336 h14356 h14357 h14377 h14422 ⊢) <;> first | omega | ((try simp (disch := omega) only [zb] at u11064 xq2 h11065 xq12 h11078 xq14 a11098 u11099 h11100 h11101 h13828 h13829 a14084 h14085 h14330 w14331 w14332 r14333 r14334 r14335 h14336 h14356 h14357 h14377 h14422 ⊢) <;> omega)) ) ?_
                            intro q28 hqq28
                            obtain ⟨cq28, gq28, xq28⟩ := hqq28
                            have fq28 := fr_trans fq30 gq28 rfl
                            have w14447 := (gq28.2.2 _ _ t_p0 0 rfl).1
                            have w14448 := (gq30.2.2 _ _ t_p0 0 rfl).1
                            have w14449 : mm_I s11 p0 0 = mm_I q2.2 p0 0 := by rw [← es11]; exact rd_k t_p0 tq5 (by decide)
                            have w14451 := rdA_fr (k := 9) (j := 0) gq28 cq30 t_p0 (κ' := 59) rfl rfl rfl
                            have w14452 := rdA_fr (k := 9) (j := 0) gq30 cs11 t_p0 (κ' := 59) rfl rfl rfl
                            have w14454 : rdA s11 p0 9 0 = mm_I s11 q17 ((0 : Int32)).toNatClampNeg := rdA_eq eq17
                            have w14453 : rdA s11 p0 9 0 = rdA q2.2 p0 9 0 := by rw [← es11]; exact rdA_k cq2 t_p0 (κ' := 59) rfl tq5 (by decide)
                            have w14455 := rdA_fr (k := 9) (j := 0) gq2 c0 t_p0 (κ' := 59) rfl rfl rfl
                            have w14457 := rdA_fr (k := 10) (j := 0) gq28 cq30 t_p0 (κ' := 60) rfl rfl rfl
                            have w14458 := rdA_fr (k := 10) (j := 0) gq30 cs11 t_p0 (κ' := 60) rfl rfl rfl
                            have w14459 : rdA s11 p0 10 0 = rdA q2.2 p0 10 0 := by rw [← es11]; exact rdA_j (by decide)
                            have w14461 : rdA q2.2 p0 10 0 = mm_I q2.2 q5 ((0 : Int32)).toNatClampNeg := rdA_eq eq5
                            have w14460 := rdA_fr (k := 10) (j := 0) gq2 c0 t_p0 (κ' := 60) rfl rfl rfl
                            have w14463 := rdA_fr (k := 10) (j := 1) gq28 cq30 t_p0 (κ' := 60) rfl rfl rfl
                            have w14464 := rdA_fr (k := 10) (j := 1) gq30 cs11 t_p0 (κ' := 60) rfl rfl rfl
                            have w14465 : rdA s11 p0 10 1 = -1 := by rw [← es11]; exact rdA_self eq5
                            have w14466 := rdA_fr (k := 9) (j := 1) gq28 cq30 t_p0 (κ' := 59) rfl rfl rfl
                            have w14467 := rdA_fr (k := 9) (j := 1) gq30 cs11 t_p0 (κ' := 59) rfl rfl rfl
                            have w14469 : rdA s11 p0 9 1 = mm_I s11 q17 ((1 : Int32)).toNatClampNeg := rdA_eq eq17
                            have w14468 : rdA s11 p0 9 1 = rdA q2.2 p0 9 1 := by rw [← es11]; exact rdA_k cq2 t_p0 (κ' := 59) rfl tq5 (by decide)
                            have w14470 := rdA_fr (k := 9) (j := 1) gq2 c0 t_p0 (κ' := 59) rfl rfl rfl
                            have w14474 : rdA q2.2 p0 10 1 = mm_I q2.2 q5 ((1 : Int32)).toNatClampNeg := rdA_eq eq5
                            have w14473 := rdA_fr (k := 10) (j := 1) gq2 c0 t_p0 (κ' := 60) rfl rfl rfl
                            have a14475 := zi_and p2 8 (by decide)
                            exact sw_some ⟨cq28, fq28, (by (try simp only [zp, zo, zq] at u11064 xq2 h11065 xq12 h11078 xq14 a11098 u11099 h11100 h11101 h13828 h13829 a14084 h14085 h14330 w14331 w14332 r14333 r14334 r14335 h14336 h14356 h14357 h14377 h14422 w14447 w14448 w14449 w14451 w14452 w14454 w14453 w14455 w14457 w14458 w14459 w14461 w14460 w14463 w14464 w14465 w14466 w14467 w14469 w14468 w14470 w14474 w14473 a14475 ⊢) <;> (try simp only [zz, Int32.reduceToInt, ne_eq] at u11064 xq2 h11065 xq12 h11078 xq14 a11098 u11099 h11100 h11101 h13828 h13829 a14084 h14085 h14330 w14331 w14332 r14333 r14334 r14335 h14336 h14356 h14357 h14377 h14422 w14447 w14448 w14449 w14451 w14452 w14454 w14453 w14455 w14457 w14458 w14459 w14461 w14460 w14463 w14464 w14465 w14466 w14467 w14469 w14468 w14470 w14474 w14473 a14475 ⊢) <;> (try simp (disch := omega) only [zb] at u11064 xq2 h11065 xq12 h11078 xq14 a11098 u11099 h11100 h11101 h13828 h13829 a14084 h14085 h14330 w14331 w14332 r14333 r14334 r14335 h14336 h14356 h14357 h14377 h14422 w14447 w14448 w14449 w14451 w14452 w14454 w14453 w14455 w14457 w14458 w14459 w14461 w14460 w14463 w14464 w14465 w14466 w14467 w14469 w14468 w14470 w14474 w14473 a14475 ⊢) <;> first | omega | ((try simp (disch := omega) only [zb] at u11064 xq2 h11065 xq12 h11078 xq14 a11098 u11099 h11100 h11101 h13828 h13829 a14084 h14085 h14330 w14331 w14332 r14333 r14334 r14335 h14336 h14356 h14357 h14377 h14422 w14447 w14448 w14449 w14451 w14452 w14454 w14453 w14455 w14457 w14458 w14459 w14461 w14460 w14463 w14464 w14465 w14466 w14467 w14469 w14468 w14470 w14474 w14473 a14475 ⊢) <;> omega))⟩
                    · unfold fX9_pair_250
                      refine sw_ite (fun h14476 => ?_) (fun h14476 => ?_)
                      · unfold fX9_pair_264
                        refine sw_ite (fun h14477 => ?_) (fun h14477 => ?_)
                        · have w14478 : mm_I s11 p0 0 = mm_I q2.2 p0 0 := by rw [← es11]; exact rd_k t_p0 tq5 (by decide)
                          have w14481 : rdA s11 p0 9 0 = mm_I s11 q17 ((0 : Int32)).toNatClampNeg := rdA_eq eq17
                          have w14480 : rdA s11 p0 9 0 = rdA q2.2 p0 9 0 := by rw [← es11]; exact rdA_k cq2 t_p0 (κ' := 59) rfl tq5 (by decide)
                          have w14482 := rdA_fr (k := 9) (j := 0) gq2 c0 t_p0 (κ' := 59) rfl rfl rfl
                          have w14484 : rdA s11 p0 10 0 = rdA q2.2 p0 10 0 := by rw [← es11]; exact rdA_j (by decide)
                          have w14486 : rdA q2.2 p0 10 0 = mm_I q2.2 q5 ((0 : Int32)).toNatClampNeg := rdA_eq eq5
                          have w14485 := rdA_fr (k := 10) (j := 0) gq2 c0 t_p0 (κ' := 60) rfl rfl rfl
                          have w14488 : rdA s11 p0 10 1 = -1 := by rw [← es11]; exact rdA_self eq5
                          have w14490 : rdA s11 p0 9 1 = mm_I s11 q17 ((1 : Int32)).toNatClampNeg := rdA_eq eq17
                          have w14489 : rdA s11 p0 9 1 = rdA q2.2 p0 9 1 := by rw [← es11]; exact rdA_k cq2 t_p0 (κ' := 59) rfl tq5 (by decide)
                          have w14491 := rdA_fr (k := 9) (j := 1) gq2 c0 t_p0 (κ' := 59) rfl rfl rfl
                          have w14495 : rdA q2.2 p0 10 1 = mm_I q2.2 q5 ((1 : Int32)).toNatClampNeg := rdA_eq eq5
                          have w14494 := rdA_fr (k := 10) (j := 1) gq2 c0 t_p0 (κ' := 60) rfl rfl rfl
                          have a14496 := zi_and p2 8 (by decide)
                          exact sw_some ⟨cs11, fs11, (by (try simp only [zp, zo, zq] at u11064 xq2 h11065 xq12 h11078 xq14 a11098 u11099 h11100 h11101 h13828 h13829 a14084 h14085 h14330 w14331 w14332 r14333 r14334 r14335 h14336 h14356 h14476 h14477 w14478 w14481 w14480 w14482 w14484 w14486 w14485 w14488 w14490 w14489 w14491 w14495 w14494 a14496 ⊢) <;> (try simp only [zz, Int32.reduceToInt, ne_eq] at u11064 xq2 h11065 xq12 h11078 xq14 a11098 u11099 h11100 h11101 h13828 h13829 a14084 h14085 h14330 w14331 w14332 r14333 r14334 r14335 h14336 h14356 h14476 h14477 w14478 w14481 w14480 w14482 w14484 w14486 w14485 w14488 w14490 w14489 w14491 w14495 w14494 a14496 ⊢) <;> (try simp (disch := omega) only [zb] at u11064 xq2 h11065 xq12 h11078 xq14 a11098 u11099 h11100 h11101 h13828 h13829 a14084 h14085 h14330 w14331 w14332 r14333 r14334 r14335 h14336 h14356 h14476 h14477 w14478 w14481 w14480 w14482 w14484 w14486 w14485 w14488 w14490 w14489 w14491 w14495 w14494 a14496 ⊢) <;> first | omega | ((try simp (disch := omega) only [zb] at u11064 xq2 h11065 xq12 h11078 xq14 a11098 u11099 h11100 h11101 h13828 h13829 a14084 h14085 h14330 w14331 w14332 r14333 r14334 r14335 h14336 h14356 h14476 h14477 w14478 w14481 w14480 w14482 w14484 w14486 w14485 w14488 w14490 w14489 w14491 w14495 w14494 a14496 ⊢) <;> omega))⟩
                        · refine sw_sh (ci_sh cs11 t_p0 rfl) ?_
                          refine sw_on (sX9_put cs11 t_p0 (by (try simp only [zp, zo, zq] at u11064 xq2 h11065 xq12 h11078 xq14 a11098 u11099 h11100 h11101 h13828 h13829 a14084 h14085 h14330 w14331 w14332 r14333 r14334 r14335 h14336 h14356 h14476 h14477 ⊢) <;> (try simp only [zz, Int32.reduceToInt, ne_eq] at u11064 xq2 h11065 xq12 h11078 xq14 a11098 u11099 h11100 h11101 h13828 h13829 a14084 h14085 h14330 w14331 w14332 r14333 r14334 r14335 h14336 h14356 h14476 h14477 ⊢) <;> (try simp (disch := omega) only [zb] at u11064 xq2 h11065 xq12 h11078 xq14 a11098 u11099 h11100 h11101 h13828 h13829 a14084 h14085 h14330 w14331 w14332 r14333 r14334 r14335 h14336 h14356 h14476 h14477 ⊢) <;> first | omega | ((try simp (disch := omega) only [zb] at u11064 xq2 h11065 xq12 h11078 xq14 a11098 u11099 h11100 h11101 h13828 h13829 a14084 h14085 h14330 w14331 w14332 r14333 r14334 r14335 h14336 h14356 h14476 h14477 ⊢) <;> omega)) ) ?_
                          intro q28 hqq28
                          obtain ⟨cq28, gq28, xq28⟩ := hqq28
                          have fq28 := fr_trans fs11 gq28 rfl
                          have w14497 := (gq28.2.2 _ _ t_p0 0 rfl).1
                          have w14498 : mm_I s11 p0 0 = mm_I q2.2 p0 0 := by rw [← es11]; exact rd_k t_p0 tq5 (by decide)
                          have w14500 := rdA_fr (k := 9) (j := 0) gq28 cs11 t_p0 (κ' := 59) rfl rfl rfl
                          have w14502 : rdA s11 p0 9 0 = mm_I s11 q17 ((0 : Int32)).toNatClampNeg := rdA_eq eq17
                          have w14501 : rdA s11 p0 9 0 = rdA q2.2 p0 9 0 := by rw [← es11]; exact rdA_k cq2 t_p0 (κ' := 59) rfl tq5 (by decide)
                          have w14503 := rdA_fr (k := 9) (j := 0) gq2 c0 t_p0 (κ' := 59) rfl rfl rfl
                          have w14505 := rdA_fr (k := 10) (j := 0) gq28 cs11 t_p0 (κ' := 60) rfl rfl rfl
                          have w14506 : rdA s11 p0 10 0 = rdA q2.2 p0 10 0 := by rw [← es11]; exact rdA_j (by decide)
                          have w14508 : rdA q2.2 p0 10 0 = mm_I q2.2 q5 ((0 : Int32)).toNatClampNeg := rdA_eq eq5
                          have w14507 := rdA_fr (k := 10) (j := 0) gq2 c0 t_p0 (κ' := 60) rfl rfl rfl
                          have w14510 := rdA_fr (k := 10) (j := 1) gq28 cs11 t_p0 (κ' := 60) rfl rfl rfl
                          have w14511 : rdA s11 p0 10 1 = -1 := by rw [← es11]; exact rdA_self eq5
                          have w14512 := rdA_fr (k := 9) (j := 1) gq28 cs11 t_p0 (κ' := 59) rfl rfl rfl
                          have w14514 : rdA s11 p0 9 1 = mm_I s11 q17 ((1 : Int32)).toNatClampNeg := rdA_eq eq17
                          have w14513 : rdA s11 p0 9 1 = rdA q2.2 p0 9 1 := by rw [← es11]; exact rdA_k cq2 t_p0 (κ' := 59) rfl tq5 (by decide)
                          have w14515 := rdA_fr (k := 9) (j := 1) gq2 c0 t_p0 (κ' := 59) rfl rfl rfl
                          have w14519 : rdA q2.2 p0 10 1 = mm_I q2.2 q5 ((1 : Int32)).toNatClampNeg := rdA_eq eq5
                          have w14518 := rdA_fr (k := 10) (j := 1) gq2 c0 t_p0 (κ' := 60) rfl rfl rfl
                          have a14520 := zi_and p2 8 (by decide)
                          exact sw_some ⟨cq28, fq28, (by (try simp only [zp, zo, zq] at u11064 xq2 h11065 xq12 h11078 xq14 a11098 u11099 h11100 h11101 h13828 h13829 a14084 h14085 h14330 w14331 w14332 r14333 r14334 r14335 h14336 h14356 h14476 h14477 w14497 w14498 w14500 w14502 w14501 w14503 w14505 w14506 w14508 w14507 w14510 w14511 w14512 w14514 w14513 w14515 w14519 w14518 a14520 ⊢) <;> (try simp only [zz, Int32.reduceToInt, ne_eq] at u11064 xq2 h11065 xq12 h11078 xq14 a11098 u11099 h11100 h11101 h13828 h13829 a14084 h14085 h14330 w14331 w14332 r14333 r14334 r14335 h14336 h14356 h14476 h14477 w14497 w14498 w14500 w14502 w14501 w14503 w14505 w14506 w14508 w14507 w14510 w14511 w14512 w14514 w14513 w14515 w14519 w14518 a14520 ⊢) <;> (try simp (disch := omega) only [zb] at u11064 xq2 h11065 xq12 h11078 xq14 a11098 u11099 h11100 h11101 h13828 h13829 a14084 h14085 h14330 w14331 w14332 r14333 r14334 r14335 h14336 h14356 h14476 h14477 w14497 w14498 w14500 w14502 w14501 w14503 w14505 w14506 w14508 w14507 w14510 w14511 w14512 w14514 w14513 w14515 w14519 w14518 a14520 ⊢) <;> first | omega | ((try simp (disch := omega) only [zb] at u11064 xq2 h11065 xq12 h11078 xq14 a11098 u11099 h11100 h11101 h13828 h13829 a14084 h14085 h14330 w14331 w14332 r14333 r14334 r14335 h14336 h14356 h14476 h14477 w14497 w14498 w14500 w14502 w14501 w14503 w14505 w14506 w14508 w14507 w14510 w14511 w14512 w14514 w14513 w14515 w14519 w14518 a14520 ⊢) <;> omega))⟩
                      · refine sw_sh (ci_sh cs11 t_p0 rfl) ?_
                        refine sw_on (sX9_put cs11 t_p0 (by (try simp only [zp, zo, zq] at u11064 xq2 h11065 xq12 h11078 xq14 a11098 u11099 h11100 h11101 h13828 h13829 a14084 h14085 h14330 w14331 w14332 r14333 r14334 r14335 h14336 h14356 h14476 ⊢) <;> (try simp only [zz, Int32.reduceToInt, ne_eq] at u11064 xq2 h11065 xq12 h11078 xq14 a11098 u11099 h11100 h11101 h13828 h13829 a14084 h14085 h14330 w14331 w14332 r14333 r14334 r14335 h14336 h14356 h14476 ⊢) <;> (try simp (disch := omega) only [zb] at u11064 xq2 h11065 xq12 h11078 xq14 a11098 u11099 h11100 h11101 h13828 h13829 a14084 h14085 h14330 w14331 w14332 r14333 r14334 r14335 h14336 h14356 h14476 ⊢) <;> first | omega | ((try simp (disch := omega) only [zb] at u11064 xq2 h11065 xq12 h11078 xq14 a11098 u11099 h11100 h11101 h13828 h13829 a14084 h14085 h14330 w14331 w14332 r14333 r14334 r14335 h14336 h14356 h14476 ⊢) <;> omega)) ) ?_
                        intro q30 hqq30
                        obtain ⟨cq30, gq30, xq30⟩ := hqq30
                        have fq30 := fr_trans fs11 gq30 rfl
                        unfold fX9_pair_264
                        refine sw_ite (fun h14521 => ?_) (fun h14521 => ?_)
                        · have w14522 := (gq30.2.2 _ _ t_p0 0 rfl).1
                          have w14523 : mm_I s11 p0 0 = mm_I q2.2 p0 0 := by rw [← es11]; exact rd_k t_p0 tq5 (by decide)
                          have w14525 := rdA_fr (k := 9) (j := 0) gq30 cs11 t_p0 (κ' := 59) rfl rfl rfl
                          have w14527 : rdA s11 p0 9 0 = mm_I s11 q17 ((0 : Int32)).toNatClampNeg := rdA_eq eq17
                          have w14526 : rdA s11 p0 9 0 = rdA q2.2 p0 9 0 := by rw [← es11]; exact rdA_k cq2 t_p0 (κ' := 59) rfl tq5 (by decide)
                          have w14528 := rdA_fr (k := 9) (j := 0) gq2 c0 t_p0 (κ' := 59) rfl rfl rfl
                          have w14530 := rdA_fr (k := 10) (j := 0) gq30 cs11 t_p0 (κ' := 60) rfl rfl rfl
                          have w14531 : rdA s11 p0 10 0 = rdA q2.2 p0 10 0 := by rw [← es11]; exact rdA_j (by decide)
                          have w14533 : rdA q2.2 p0 10 0 = mm_I q2.2 q5 ((0 : Int32)).toNatClampNeg := rdA_eq eq5
                          have w14532 := rdA_fr (k := 10) (j := 0) gq2 c0 t_p0 (κ' := 60) rfl rfl rfl
                          have w14535 := rdA_fr (k := 10) (j := 1) gq30 cs11 t_p0 (κ' := 60) rfl rfl rfl
                          have w14536 : rdA s11 p0 10 1 = -1 := by rw [← es11]; exact rdA_self eq5
                          have w14537 := rdA_fr (k := 9) (j := 1) gq30 cs11 t_p0 (κ' := 59) rfl rfl rfl
                          have w14539 : rdA s11 p0 9 1 = mm_I s11 q17 ((1 : Int32)).toNatClampNeg := rdA_eq eq17
                          have w14538 : rdA s11 p0 9 1 = rdA q2.2 p0 9 1 := by rw [← es11]; exact rdA_k cq2 t_p0 (κ' := 59) rfl tq5 (by decide)
                          have w14540 := rdA_fr (k := 9) (j := 1) gq2 c0 t_p0 (κ' := 59) rfl rfl rfl
                          have w14544 : rdA q2.2 p0 10 1 = mm_I q2.2 q5 ((1 : Int32)).toNatClampNeg := rdA_eq eq5
                          have w14543 := rdA_fr (k := 10) (j := 1) gq2 c0 t_p0 (κ' := 60) rfl rfl rfl
                          have a14545 := zi_and p2 8 (by decide)
                          exact sw_some ⟨cq30, fq30, (by (try simp only [zp, zo, zq] at u11064 xq2 h11065 xq12 h11078 xq14 a11098 u11099 h11100 h11101 h13828 h13829 a14084 h14085 h14330 w14331 w14332 r14333 r14334 r14335 h14336 h14356 h14476 h14521 w14522 w14523 w14525 w14527 w14526 w14528 w14530 w14531 w14533 w14532 w14535 w14536 w14537 w14539 w14538 w14540 w14544 w14543 a14545 ⊢) <;> (try simp only [zz, Int32.reduceToInt, ne_eq] at u11064 xq2 h11065 xq12 h11078 xq14 a11098 u11099 h11100 h11101 h13828 h13829 a14084 h14085 h14330 w14331 w14332 r14333 r14334 r14335 h14336 h14356 h14476 h14521 w14522 w14523 w14525 w14527 w14526 w14528 w14530 w14531 w14533 w14532 w14535 w14536 w14537 w14539 w14538 w14540 w14544 w14543 a14545 ⊢) <;> (try simp (disch := omega) only [zb] at u11064 xq2 h11065 xq12 h11078 xq14 a11098 u11099 h11100 h11101 h13828 h13829 a14084 h14085 h14330 w14331 w14332 r14333 r14334 r14335 h14336 h14356 h14476 h14521 w14522 w14523 w14525 w14527 w14526 w14528 w14530 w14531 w14533 w14532 w14535 w14536 w14537 w14539 w14538 w14540 w14544 w14543 a14545 ⊢) <;> first | omega | ((try simp (disch := omega) only [zb] at u11064 xq2 h11065 xq12 h11078 xq14 a11098 u11099 h11100 h11101 h13828 h13829 a14084 h14085 h14330 w14331 w14332 r14333 r14334 r14335 h14336 h14356 h14476 h14521 w14522 w14523 w14525 w14527 w14526 w14528 w14530 w14531 w14533 w14532 w14535 w14536 w14537 w14539 w14538 w14540 w14544 w14543 a14545 ⊢) <;> omega))⟩
                        · refine sw_sh (ci_sh cq30 t_p0 rfl) ?_
                          refine sw_on (sX9_put cq30 t_p0 (by (try simp only [zp, zo, zq] at u11064 xq2 h11065 xq12 h11078 xq14 a11098 u11099 h11100 h11101 h13828 h13829 a14084 h14085 h14330 w14331 w14332 r14333 r14334 r14335 h14336 h14356 h14476 h14521 ⊢) <;> (try simp only [zz, Int32.reduceToInt, ne_eq] at u11064 xq2 h11065 xq12 h11078 xq14 a11098 u11099 h11100 h11101 h13828 h13829 a14084 h14085 h14330 w14331 w14332 r14333 r14334 r14335 h14336 h14356 h14476 h14521 ⊢) <;> (try simp (disch := omega) only [zb] at u11064 xq2 h11065 xq12 h11078 xq14 a11098 u11099 h11100 h11101 h13828 h13829 a14084 h14085 h14330 w14331 w14332 r14333 r14334 r14335 h14336 h14356 h14476 h14521 ⊢) <;> first | omega | ((try simp (disch := omega) only [zb] at u11064 xq2 h11065 xq12 h11078 xq14 a11098 u11099 h11100 h11101 h13828 h13829 a14084 h14085 h14330 w14331 w14332 r14333 r14334 r14335 h14336 h14356 h14476 h14521 ⊢) <;> omega)) ) ?_
                          intro q28 hqq28
                          obtain ⟨cq28, gq28, xq28⟩ := hqq28
                          have fq28 := fr_trans fq30 gq28 rfl
                          have w14546 := (gq28.2.2 _ _ t_p0 0 rfl).1
                          have w14547 := (gq30.2.2 _ _ t_p0 0 rfl).1
                          have w14548 : mm_I s11 p0 0 = mm_I q2.2 p0 0 := by rw [← es11]; exact rd_k t_p0 tq5 (by decide)
                          have w14550 := rdA_fr (k := 9) (j := 0) gq28 cq30 t_p0 (κ' := 59) rfl rfl rfl
                          have w14551 := rdA_fr (k := 9) (j := 0) gq30 cs11 t_p0 (κ' := 59) rfl rfl rfl
                          have w14553 : rdA s11 p0 9 0 = mm_I s11 q17 ((0 : Int32)).toNatClampNeg := rdA_eq eq17
                          have w14552 : rdA s11 p0 9 0 = rdA q2.2 p0 9 0 := by rw [← es11]; exact rdA_k cq2 t_p0 (κ' := 59) rfl tq5 (by decide)
                          have w14554 := rdA_fr (k := 9) (j := 0) gq2 c0 t_p0 (κ' := 59) rfl rfl rfl
                          have w14556 := rdA_fr (k := 10) (j := 0) gq28 cq30 t_p0 (κ' := 60) rfl rfl rfl
                          have w14557 := rdA_fr (k := 10) (j := 0) gq30 cs11 t_p0 (κ' := 60) rfl rfl rfl
                          have w14558 : rdA s11 p0 10 0 = rdA q2.2 p0 10 0 := by rw [← es11]; exact rdA_j (by decide)
                          have w14560 : rdA q2.2 p0 10 0 = mm_I q2.2 q5 ((0 : Int32)).toNatClampNeg := rdA_eq eq5
                          have w14559 := rdA_fr (k := 10) (j := 0) gq2 c0 t_p0 (κ' := 60) rfl rfl rfl
                          have w14562 := rdA_fr (k := 10) (j := 1) gq28 cq30 t_p0 (κ' := 60) rfl rfl rfl
                          have w14563 := rdA_fr (k := 10) (j := 1) gq30 cs11 t_p0 (κ' := 60) rfl rfl rfl
                          have w14564 : rdA s11 p0 10 1 = -1 := by rw [← es11]; exact rdA_self eq5
                          have w14565 := rdA_fr (k := 9) (j := 1) gq28 cq30 t_p0 (κ' := 59) rfl rfl rfl
                          have w14566 := rdA_fr (k := 9) (j := 1) gq30 cs11 t_p0 (κ' := 59) rfl rfl rfl
                          have w14568 : rdA s11 p0 9 1 = mm_I s11 q17 ((1 : Int32)).toNatClampNeg := rdA_eq eq17
                          have w14567 : rdA s11 p0 9 1 = rdA q2.2 p0 9 1 := by rw [← es11]; exact rdA_k cq2 t_p0 (κ' := 59) rfl tq5 (by decide)
                          have w14569 := rdA_fr (k := 9) (j := 1) gq2 c0 t_p0 (κ' := 59) rfl rfl rfl
                          have w14573 : rdA q2.2 p0 10 1 = mm_I q2.2 q5 ((1 : Int32)).toNatClampNeg := rdA_eq eq5
                          have w14572 := rdA_fr (k := 10) (j := 1) gq2 c0 t_p0 (κ' := 60) rfl rfl rfl
                          have a14574 := zi_and p2 8 (by decide)
                          exact sw_some ⟨cq28, fq28, (by (try simp only [zp, zo, zq] at u11064 xq2 h11065 xq12 h11078 xq14 a11098 u11099 h11100 h11101 h13828 h13829 a14084 h14085 h14330 w14331 w14332 r14333 r14334 r14335 h14336 h14356 h14476 h14521 w14546 w14547 w14548 w14550 w14551 w14553 w14552 w14554 w14556 w14557 w14558 w14560 w14559 w14562 w14563 w14564 w14565 w14566 w14568 w14567 w14569 w14573 w14572 a14574 ⊢) <;> (try simp only [zz, Int32.reduceToInt, ne_eq] at u11064 xq2 h11065 xq12 h11078 xq14 a11098 u11099 h11100 h11101 h13828 h13829 a14084 h14085 h14330 w14331 w14332 r14333 r14334 r14335 h14336 h14356 h14476 h14521 w14546 w14547 w14548 w14550 w14551 w14553 w14552 w14554 w14556 w14557 w14558 w14560 w14559 w14562 w14563 w14564 w14565 w14566 w14568 w14567 w14569 w14573 w14572 a14574 ⊢) <;> (try simp (disch := omega) only [zb] at u11064 xq2 h11065 xq12 h11078 xq14 a11098 u11099 h11100 h11101 h13828 h13829 a14084 h14085 h14330 w14331 w14332 r14333 r14334 r14335 h14336 h14356 h14476 h14521 w14546 w14547 w14548 w14550 w14551 w14553 w14552 w14554 w14556 w14557 w14558 w14560 w14559 w14562 w14563 w14564 w14565 w14566 w14568 w14567 w14569 w14573 w14572 a14574 ⊢) <;> first | omega | ((try simp (disch := omega) only [zb] at u11064 xq2 h11065 xq12 h11078 xq14 a11098 u11099 h11100 h11101 h13828 h13829 a14084 h14085 h14330 w14331 w14332 r14333 r14334 r14335 h14336 h14356 h14476 h14521 w14546 w14547 w14548 w14550 w14551 w14553 w14552 w14554 w14556 w14557 w14558 w14560 w14559 w14562 w14563 w14564 w14565 w14566 w14568 w14567 w14569 w14573 w14572 a14574 ⊢) <;> omega))⟩
                · refine sw_ite (fun h14575 => ?_) (fun h14575 => ?_)
                  · unfold fX9_pair_222
                    unfold fX9_pair_228
                    have w14576 : mm_I s11 q17 ((1 : Int32).toNatClampNeg) = mm_I q2.2 q17 ((1 : Int32).toNatClampNeg) := by rw [← es11]; exact rd_k tq17 tq5 (by decide)
                    have w14577 := (gq2.2.2 _ _ tq17 ((1 : Int32).toNatClampNeg) rfl).1
                    have r14578 := ci_rg c0 tq17 ((1 : Int32).toNatClampNeg) (lo := (-1)) (hi := 3) rfl
                    have r14579 := ci_rg cq2 tq17 ((1 : Int32).toNatClampNeg) (lo := (-1)) (hi := 3) rfl
                    have r14580 := ci_rg cs11 tq17 ((1 : Int32).toNatClampNeg) (lo := (-1)) (hi := 3) rfl
                    refine sw_ite (fun h14581 => ?_) (fun h14581 => ?_)
                    · have w14582 : mm_I s11 p0 0 = mm_I q2.2 p0 0 := by rw [← es11]; exact rd_k t_p0 tq5 (by decide)
                      have w14585 : rdA s11 p0 9 0 = mm_I s11 q17 ((0 : Int32)).toNatClampNeg := rdA_eq eq17
                      have w14584 : rdA s11 p0 9 0 = rdA q2.2 p0 9 0 := by rw [← es11]; exact rdA_k cq2 t_p0 (κ' := 59) rfl tq5 (by decide)
                      have w14586 := rdA_fr (k := 9) (j := 0) gq2 c0 t_p0 (κ' := 59) rfl rfl rfl
                      have w14588 : rdA s11 p0 10 0 = rdA q2.2 p0 10 0 := by rw [← es11]; exact rdA_j (by decide)
                      have w14590 : rdA q2.2 p0 10 0 = mm_I q2.2 q5 ((0 : Int32)).toNatClampNeg := rdA_eq eq5
                      have w14589 := rdA_fr (k := 10) (j := 0) gq2 c0 t_p0 (κ' := 60) rfl rfl rfl
                      have w14592 : rdA s11 p0 10 1 = -1 := by rw [← es11]; exact rdA_self eq5
                      have w14594 : rdA s11 p0 9 1 = mm_I s11 q17 ((1 : Int32)).toNatClampNeg := rdA_eq eq17
                      have w14593 : rdA s11 p0 9 1 = rdA q2.2 p0 9 1 := by rw [← es11]; exact rdA_k cq2 t_p0 (κ' := 59) rfl tq5 (by decide)
                      have w14595 := rdA_fr (k := 9) (j := 1) gq2 c0 t_p0 (κ' := 59) rfl rfl rfl
                      have w14599 : rdA q2.2 p0 10 1 = mm_I q2.2 q5 ((1 : Int32)).toNatClampNeg := rdA_eq eq5
                      have w14598 := rdA_fr (k := 10) (j := 1) gq2 c0 t_p0 (κ' := 60) rfl rfl rfl
                      have a14600 := zi_and p2 8 (by decide)
                      exact sw_some ⟨cs11, fs11, (by (try simp only [zp, zo, zq] at u11064 xq2 h11065 xq12 h11078 xq14 a11098 u11099 h11100 h11101 h13828 h13829 a14084 h14085 h14330 h14575 w14576 w14577 r14578 r14579 r14580 h14581 w14582 w14585 w14584 w14586 w14588 w14590 w14589 w14592 w14594 w14593 w14595 w14599 w14598 a14600 ⊢) <;> (try simp only [zz, Int32.reduceToInt, ne_eq] at u11064 xq2 h11065 xq12 h11078 xq14 a11098 u11099 h11100 h11101 h13828 h13829 a14084 h14085 h14330 h14575 w14576 w14577 r14578 r14579 r14580 h14581 w14582 w14585 w14584 w14586 w14588 w14590 w14589 w14592 w14594 w14593 w14595 w14599 w14598 a14600 ⊢) <;> (try simp (disch := omega) only [zb] at u11064 xq2 h11065 xq12 h11078 xq14 a11098 u11099 h11100 h11101 h13828 h13829 a14084 h14085 h14330 h14575 w14576 w14577 r14578 r14579 r14580 h14581 w14582 w14585 w14584 w14586 w14588 w14590 w14589 w14592 w14594 w14593 w14595 w14599 w14598 a14600 ⊢) <;> first | omega | ((try simp (disch := omega) only [zb] at u11064 xq2 h11065 xq12 h11078 xq14 a11098 u11099 h11100 h11101 h13828 h13829 a14084 h14085 h14330 h14575 w14576 w14577 r14578 r14579 r14580 h14581 w14582 w14585 w14584 w14586 w14588 w14590 w14589 w14592 w14594 w14593 w14595 w14599 w14598 a14600 ⊢) <;> omega))⟩
                    · refine sw_ite (fun h14601 => ?_) (fun h14601 => ?_)
                      · refine sw_ite (fun h14602 => ?_) (fun h14602 => ?_)
                        · have w14603 : mm_I s11 p0 0 = mm_I q2.2 p0 0 := by rw [← es11]; exact rd_k t_p0 tq5 (by decide)
                          have w14606 : rdA s11 p0 9 0 = mm_I s11 q17 ((0 : Int32)).toNatClampNeg := rdA_eq eq17
                          have w14605 : rdA s11 p0 9 0 = rdA q2.2 p0 9 0 := by rw [← es11]; exact rdA_k cq2 t_p0 (κ' := 59) rfl tq5 (by decide)
                          have w14607 := rdA_fr (k := 9) (j := 0) gq2 c0 t_p0 (κ' := 59) rfl rfl rfl
                          have w14609 : rdA s11 p0 10 0 = rdA q2.2 p0 10 0 := by rw [← es11]; exact rdA_j (by decide)
                          have w14611 : rdA q2.2 p0 10 0 = mm_I q2.2 q5 ((0 : Int32)).toNatClampNeg := rdA_eq eq5
                          have w14610 := rdA_fr (k := 10) (j := 0) gq2 c0 t_p0 (κ' := 60) rfl rfl rfl
                          have w14613 : rdA s11 p0 10 1 = -1 := by rw [← es11]; exact rdA_self eq5
                          have w14615 : rdA s11 p0 9 1 = mm_I s11 q17 ((1 : Int32)).toNatClampNeg := rdA_eq eq17
                          have w14614 : rdA s11 p0 9 1 = rdA q2.2 p0 9 1 := by rw [← es11]; exact rdA_k cq2 t_p0 (κ' := 59) rfl tq5 (by decide)
                          have w14616 := rdA_fr (k := 9) (j := 1) gq2 c0 t_p0 (κ' := 59) rfl rfl rfl
                          have w14620 : rdA q2.2 p0 10 1 = mm_I q2.2 q5 ((1 : Int32)).toNatClampNeg := rdA_eq eq5
                          have w14619 := rdA_fr (k := 10) (j := 1) gq2 c0 t_p0 (κ' := 60) rfl rfl rfl
                          have a14621 := zi_and p2 8 (by decide)
                          exact sw_some ⟨cs11, fs11, (by (try simp only [zp, zo, zq] at u11064 xq2 h11065 xq12 h11078 xq14 a11098 u11099 h11100 h11101 h13828 h13829 a14084 h14085 h14330 h14575 w14576 w14577 r14578 r14579 r14580 h14581 h14601 h14602 w14603 w14606 w14605 w14607 w14609 w14611 w14610 w14613 w14615 w14614 w14616 w14620 w14619 a14621 ⊢) <;> (try simp only [zz, Int32.reduceToInt, ne_eq] at u11064 xq2 h11065 xq12 h11078 xq14 a11098 u11099 h11100 h11101 h13828 h13829 a14084 h14085 h14330 h14575 w14576 w14577 r14578 r14579 r14580 h14581 h14601 h14602 w14603 w14606 w14605 w14607 w14609 w14611 w14610 w14613 w14615 w14614 w14616 w14620 w14619 a14621 ⊢) <;> (try simp (disch := omega) only [zb] at u11064 xq2 h11065 xq12 h11078 xq14 a11098 u11099 h11100 h11101 h13828 h13829 a14084 h14085 h14330 h14575 w14576 w14577 r14578 r14579 r14580 h14581 h14601 h14602 w14603 w14606 w14605 w14607 w14609 w14611 w14610 w14613 w14615 w14614 w14616 w14620 w14619 a14621 ⊢) <;> first | omega | ((try simp (disch := omega) only [zb] at u11064 xq2 h11065 xq12 h11078 xq14 a11098 u11099 h11100 h11101 h13828 h13829 a14084 h14085 h14330 h14575 w14576 w14577 r14578 r14579 r14580 h14581 h14601 h14602 w14603 w14606 w14605 w14607 w14609 w14611 w14610 w14613 w14615 w14614 w14616 w14620 w14619 a14621 ⊢) <;> omega))⟩
                        · unfold fX9_pair_250
                          refine sw_ite (fun h14622 => ?_) (fun h14622 => ?_)
                          · unfold fX9_pair_264
                            refine sw_ite (fun h14623 => ?_) (fun h14623 => ?_)
                            · have w14624 : mm_I s11 p0 0 = mm_I q2.2 p0 0 := by rw [← es11]; exact rd_k t_p0 tq5 (by decide)
                              have w14627 : rdA s11 p0 9 0 = mm_I s11 q17 ((0 : Int32)).toNatClampNeg := rdA_eq eq17
                              have w14626 : rdA s11 p0 9 0 = rdA q2.2 p0 9 0 := by rw [← es11]; exact rdA_k cq2 t_p0 (κ' := 59) rfl tq5 (by decide)
                              have w14628 := rdA_fr (k := 9) (j := 0) gq2 c0 t_p0 (κ' := 59) rfl rfl rfl
                              have w14630 : rdA s11 p0 10 0 = rdA q2.2 p0 10 0 := by rw [← es11]; exact rdA_j (by decide)
                              have w14632 : rdA q2.2 p0 10 0 = mm_I q2.2 q5 ((0 : Int32)).toNatClampNeg := rdA_eq eq5
                              have w14631 := rdA_fr (k := 10) (j := 0) gq2 c0 t_p0 (κ' := 60) rfl rfl rfl
                              have w14634 : rdA s11 p0 10 1 = -1 := by rw [← es11]; exact rdA_self eq5
                              have w14636 : rdA s11 p0 9 1 = mm_I s11 q17 ((1 : Int32)).toNatClampNeg := rdA_eq eq17
                              have w14635 : rdA s11 p0 9 1 = rdA q2.2 p0 9 1 := by rw [← es11]; exact rdA_k cq2 t_p0 (κ' := 59) rfl tq5 (by decide)
                              have w14637 := rdA_fr (k := 9) (j := 1) gq2 c0 t_p0 (κ' := 59) rfl rfl rfl
                              have w14641 : rdA q2.2 p0 10 1 = mm_I q2.2 q5 ((1 : Int32)).toNatClampNeg := rdA_eq eq5
                              have w14640 := rdA_fr (k := 10) (j := 1) gq2 c0 t_p0 (κ' := 60) rfl rfl rfl
                              have a14642 := zi_and p2 8 (by decide)
                              exact sw_some ⟨cs11, fs11, (by (try simp only [zp, zo, zq] at u11064 xq2 h11065 xq12 h11078 xq14 a11098 u11099 h11100 h11101 h13828 h13829 a14084 h14085 h14330 h14575 w14576 w14577 r14578 r14579 r14580 h14581 h14601 h14602 h14622 h14623 w14624 w14627 w14626 w14628 w14630 w14632 w14631 w14634 w14636 w14635 w14637 w14641 w14640 a14642 ⊢) <;> (try simp only [zz, Int32.reduceToInt, ne_eq] at u11064 xq2 h11065 xq12 h11078 xq14 a11098 u11099 h11100 h11101 h13828 h13829 a14084 h14085 h14330 h14575 w14576 w14577 r14578 r14579 r14580 h14581 h14601 h14602 h14622 h14623 w14624 w14627 w14626 w14628 w14630 w14632 w14631 w14634 w14636 w14635 w14637 w14641 w14640 a14642 ⊢) <;> (try simp (disch := omega) only [zb] at u11064 xq2 h11065 xq12 h11078 xq14 a11098 u11099 h11100 h11101 h13828 h13829 a14084 h14085 h14330 h14575 w14576 w14577 r14578 r14579 r14580 h14581 h14601 h14602 h14622 h14623 w14624 w14627 w14626 w14628 w14630 w14632 w14631 w14634 w14636 w14635 w14637 w14641 w14640 a14642 ⊢) <;> first | omega | ((try simp (disch := omega) only [zb] at u11064 xq2 h11065 xq12 h11078 xq14 a11098 u11099 h11100 h11101 h13828 h13829 a14084 h14085 h14330 h14575 w14576 w14577 r14578 r14579 r14580 h14581 h14601 h14602 h14622 h14623 w14624 w14627 w14626 w14628 w14630 w14632 w14631 w14634 w14636 w14635 w14637 w14641 w14640 a14642 ⊢) <;> omega))⟩
                            · refine sw_sh (ci_sh cs11 t_p0 rfl) ?_
                              refine sw_on (sX9_put cs11 t_p0 (by (try simp only [zp, zo, zq] at u11064 xq2 h11065 xq12 h11078 xq14 a11098 u11099 h11100 h11101 h13828 h13829 a14084 h14085 h14330 h14575 w14576 w14577 r14578 r14579 r14580 h14581 h14601 h14602 h14622 h14623 ⊢) <;> (try simp only [zz, Int32.reduceToInt, ne_eq] at u11064 xq2 h11065 xq12 h11078 xq14 a11098 u11099 h11100 h11101 h13828 h13829 a14084 h14085 h14330 h14575 w14576 w14577 r14578 r14579 r14580 h14581 h14601 h14602 h14622 h14623 ⊢) <;> (try simp (disch := omega) only [zb] at u11064 xq2 h11065 xq12 h11078 xq14 a11098 u11099 h11100 h11101 h13828 h13829 a14084 h14085 h14330 h14575 w14576 w14577 r14578 r14579 r14580 h14581 h14601 h14602 h14622 h14623 ⊢) <;> first | omega | ((try simp (disch := omega) only [zb] at u11064 xq2 h11065 xq12 h11078 xq14 a11098 u11099 h11100 h11101 h13828 h13829 a14084 h14085 h14330 h14575 w14576 w14577 r14578 r14579 r14580 h14581 h14601 h14602 h14622 h14623 ⊢) <;> omega)) ) ?_
                              intro q28 hqq28
                              obtain ⟨cq28, gq28, xq28⟩ := hqq28
                              have fq28 := fr_trans fs11 gq28 rfl
                              have w14643 := (gq28.2.2 _ _ t_p0 0 rfl).1
                              have w14644 : mm_I s11 p0 0 = mm_I q2.2 p0 0 := by rw [← es11]; exact rd_k t_p0 tq5 (by decide)
                              have w14646 := rdA_fr (k := 9) (j := 0) gq28 cs11 t_p0 (κ' := 59) rfl rfl rfl
                              have w14648 : rdA s11 p0 9 0 = mm_I s11 q17 ((0 : Int32)).toNatClampNeg := rdA_eq eq17
                              have w14647 : rdA s11 p0 9 0 = rdA q2.2 p0 9 0 := by rw [← es11]; exact rdA_k cq2 t_p0 (κ' := 59) rfl tq5 (by decide)
                              have w14649 := rdA_fr (k := 9) (j := 0) gq2 c0 t_p0 (κ' := 59) rfl rfl rfl
                              have w14651 := rdA_fr (k := 10) (j := 0) gq28 cs11 t_p0 (κ' := 60) rfl rfl rfl
                              have w14652 : rdA s11 p0 10 0 = rdA q2.2 p0 10 0 := by rw [← es11]; exact rdA_j (by decide)
                              have w14654 : rdA q2.2 p0 10 0 = mm_I q2.2 q5 ((0 : Int32)).toNatClampNeg := rdA_eq eq5
                              have w14653 := rdA_fr (k := 10) (j := 0) gq2 c0 t_p0 (κ' := 60) rfl rfl rfl
                              have w14656 := rdA_fr (k := 10) (j := 1) gq28 cs11 t_p0 (κ' := 60) rfl rfl rfl
                              have w14657 : rdA s11 p0 10 1 = -1 := by rw [← es11]; exact rdA_self eq5
                              have w14658 := rdA_fr (k := 9) (j := 1) gq28 cs11 t_p0 (κ' := 59) rfl rfl rfl
                              have w14660 : rdA s11 p0 9 1 = mm_I s11 q17 ((1 : Int32)).toNatClampNeg := rdA_eq eq17
                              have w14659 : rdA s11 p0 9 1 = rdA q2.2 p0 9 1 := by rw [← es11]; exact rdA_k cq2 t_p0 (κ' := 59) rfl tq5 (by decide)
                              have w14661 := rdA_fr (k := 9) (j := 1) gq2 c0 t_p0 (κ' := 59) rfl rfl rfl
                              have w14665 : rdA q2.2 p0 10 1 = mm_I q2.2 q5 ((1 : Int32)).toNatClampNeg := rdA_eq eq5
                              have w14664 := rdA_fr (k := 10) (j := 1) gq2 c0 t_p0 (κ' := 60) rfl rfl rfl
                              have a14666 := zi_and p2 8 (by decide)
                              exact sw_some ⟨cq28, fq28, (by (try simp only [zp, zo, zq] at u11064 xq2 h11065 xq12 h11078 xq14 a11098 u11099 h11100 h11101 h13828 h13829 a14084 h14085 h14330 h14575 w14576 w14577 r14578 r14579 r14580 h14581 h14601 h14602 h14622 h14623 w14643 w14644 w14646 w14648 w14647 w14649 w14651 w14652 w14654 w14653 w14656 w14657 w14658 w14660 w14659 w14661 w14665 w14664 a14666 ⊢) <;> (try simp only [zz, Int32.reduceToInt, ne_eq] at u11064 xq2 h11065 xq12 h11078 xq14 a11098 u11099 h11100 h11101 h13828 h13829 a14084 h14085 h14330 h14575 w14576 w14577 r14578 r14579 r14580 h14581 h14601 h14602 h14622 h14623 w14643 w14644 w14646 w14648 w14647 w14649 w14651 w14652 w14654 w14653 w14656 w14657 w14658 w14660 w14659 w14661 w14665 w14664 a14666 ⊢) <;> (try simp (disch := omega) only [zb] at u11064 xq2 h11065 xq12 h11078 xq14 a11098 u11099 h11100 h11101 h13828 h13829 a14084 h14085 h14330 h14575 w14576 w14577 r14578 r14579 r14580 h14581 h14601 h14602 h14622 h14623 w14643 w14644 w14646 w14648 w14647 w14649 w14651 w14652 w14654 w14653 w14656 w14657 w14658 w14660 w14659 w14661 w14665 w14664 a14666 ⊢) <;> first | omega | ((try simp (disch := omega) only [zb] at u11064 xq2 h11065 xq12 h11078 xq14 a11098 u11099 h11100 h11101 h13828 h13829 a14084 h14085 h14330 h14575 w14576 w14577 r14578 r14579 r14580 h14581 h14601 h14602 h14622 h14623 w14643 w14644 w14646 w14648 w14647 w14649 w14651 w14652 w14654 w14653 w14656 w14657 w14658 w14660 w14659 w14661 w14665 w14664 a14666 ⊢) <;> omega))⟩
                          · refine sw_sh (ci_sh cs11 t_p0 rfl) ?_
                            refine sw_on (sX9_put cs11 t_p0 (by (try simp only [zp, zo, zq] at u11064 xq2 h11065 xq12 h11078 xq14 a11098 u11099 h11100 h11101 h13828 h13829 a14084 h14085 h14330 h14575 w14576 w14577 r14578 r14579 r14580 h14581 h14601 h14602 h14622 ⊢) <;> (try simp only [zz, Int32.reduceToInt, ne_eq] at u11064 xq2 h11065 xq12 h11078 xq14 a11098 u11099 h11100 h11101 h13828 h13829 a14084 h14085 h14330 h14575 w14576 w14577 r14578 r14579 r14580 h14581 h14601 h14602 h14622 ⊢) <;> (try simp (disch := omega) only [zb] at u11064 xq2 h11065 xq12 h11078 xq14 a11098 u11099 h11100 h11101 h13828 h13829 a14084 h14085 h14330 h14575 w14576 w14577 r14578 r14579 r14580 h14581 h14601 h14602 h14622 ⊢) <;> first | omega | ((try simp (disch := omega) only [zb] at u11064 xq2 h11065 xq12 h11078 xq14 a11098 u11099 h11100 h11101 h13828 h13829 a14084 h14085 h14330 h14575 w14576 w14577 r14578 r14579 r14580 h14581 h14601 h14602 h14622 ⊢) <;> omega)) ) ?_
                            intro q30 hqq30
                            obtain ⟨cq30, gq30, xq30⟩ := hqq30
                            have fq30 := fr_trans fs11 gq30 rfl
                            unfold fX9_pair_264
                            refine sw_ite (fun h14667 => ?_) (fun h14667 => ?_)
                            · have w14668 := (gq30.2.2 _ _ t_p0 0 rfl).1
                              have w14669 : mm_I s11 p0 0 = mm_I q2.2 p0 0 := by rw [← es11]; exact rd_k t_p0 tq5 (by decide)
                              have w14671 := rdA_fr (k := 9) (j := 0) gq30 cs11 t_p0 (κ' := 59) rfl rfl rfl
                              have w14673 : rdA s11 p0 9 0 = mm_I s11 q17 ((0 : Int32)).toNatClampNeg := rdA_eq eq17
                              have w14672 : rdA s11 p0 9 0 = rdA q2.2 p0 9 0 := by rw [← es11]; exact rdA_k cq2 t_p0 (κ' := 59) rfl tq5 (by decide)
                              have w14674 := rdA_fr (k := 9) (j := 0) gq2 c0 t_p0 (κ' := 59) rfl rfl rfl
                              have w14676 := rdA_fr (k := 10) (j := 0) gq30 cs11 t_p0 (κ' := 60) rfl rfl rfl
                              have w14677 : rdA s11 p0 10 0 = rdA q2.2 p0 10 0 := by rw [← es11]; exact rdA_j (by decide)
                              have w14679 : rdA q2.2 p0 10 0 = mm_I q2.2 q5 ((0 : Int32)).toNatClampNeg := rdA_eq eq5
                              have w14678 := rdA_fr (k := 10) (j := 0) gq2 c0 t_p0 (κ' := 60) rfl rfl rfl
                              have w14681 := rdA_fr (k := 10) (j := 1) gq30 cs11 t_p0 (κ' := 60) rfl rfl rfl
                              have w14682 : rdA s11 p0 10 1 = -1 := by rw [← es11]; exact rdA_self eq5
                              have w14683 := rdA_fr (k := 9) (j := 1) gq30 cs11 t_p0 (κ' := 59) rfl rfl rfl
                              have w14685 : rdA s11 p0 9 1 = mm_I s11 q17 ((1 : Int32)).toNatClampNeg := rdA_eq eq17
                              have w14684 : rdA s11 p0 9 1 = rdA q2.2 p0 9 1 := by rw [← es11]; exact rdA_k cq2 t_p0 (κ' := 59) rfl tq5 (by decide)
                              have w14686 := rdA_fr (k := 9) (j := 1) gq2 c0 t_p0 (κ' := 59) rfl rfl rfl
                              have w14690 : rdA q2.2 p0 10 1 = mm_I q2.2 q5 ((1 : Int32)).toNatClampNeg := rdA_eq eq5
                              have w14689 := rdA_fr (k := 10) (j := 1) gq2 c0 t_p0 (κ' := 60) rfl rfl rfl
                              have a14691 := zi_and p2 8 (by decide)
                              exact sw_some ⟨cq30, fq30, (by (try simp only [zp, zo, zq] at u11064 xq2 h11065 xq12 h11078 xq14 a11098 u11099 h11100 h11101 h13828 h13829 a14084 h14085 h14330 h14575 w14576 w14577 r14578 r14579 r14580 h14581 h14601 h14602 h14622 h14667 w14668 w14669 w14671 w14673 w14672 w14674 w14676 w14677 w14679 w14678 w14681 w14682 w14683 w14685 w14684 w14686 w14690 w14689 a14691 ⊢) <;> (try simp only [zz, Int32.reduceToInt, ne_eq] at u11064 xq2 h11065 xq12 h11078 xq14 a11098 u11099 h11100 h11101 h13828 h13829 a14084 h14085 h14330 h14575 w14576 w14577 r14578 r14579 r14580 h14581 h14601 h14602 h14622 h14667 w14668 w14669 w14671 w14673 w14672 w14674 w14676 w14677 w14679 w14678 w14681 w14682 w14683 w14685 w14684 w14686 w14690 w14689 a14691 ⊢) <;> (try simp (disch := omega) only [zb] at u11064 xq2 h11065 xq12 h11078 xq14 a11098 u11099 h11100 h11101 h13828 h13829 a14084 h14085 h14330 h14575 w14576 w14577 r14578 r14579 r14580 h14581 h14601 h14602 h14622 h14667 w14668 w14669 w14671 w14673 w14672 w14674 w14676 w14677 w14679 w14678 w14681 w14682 w14683 w14685 w14684 w14686 w14690 w14689 a14691 ⊢) <;> first | omega | ((try simp (disch := omega) only [zb] at u11064 xq2 h11065 xq12 h11078 xq14 a11098 u11099 h11100 h11101 h13828 h13829 a14084 h14085 h14330 h14575 w14576 w14577 r14578 r14579 r14580 h14581 h14601 h14602 h14622 h14667 w14668 w14669 w14671 w14673 w14672 w14674 w14676 w14677 w14679 w14678 w14681 w14682 w14683 w14685 w14684 w14686 w14690 w14689 a14691 ⊢) <;> omega))⟩
                            · refine sw_sh (ci_sh cq30 t_p0 rfl) ?_
                              refine sw_on (sX9_put cq30 t_p0 (by (try simp only [zp, zo, zq] at u11064 xq2 h11065 xq12 h11078 xq14 a11098 u11099 h11100 h11101 h13828 h13829 a14084 h14085 h14330 h14575 w14576 w14577 r14578 r14579 r14580 h14581 h14601 h14602 h14622 h14667 ⊢) <;> (try simp only [zz, Int32.reduceToInt, ne_eq] at u11064 xq2 h11065 xq12 h11078 xq14 a11098 u11099 h11100 h11101 h13828 h13829 a14084 h14085 h14330 h14575 w14576 w14577 r14578 r14579 r14580 h14581 h14601 h14602 h14622 h14667 ⊢) <;> (try simp (disch := omega) only [zb] at u11064 xq2 h11065 xq12 h11078 xq14 a11098 u11099 h11100 h11101 h13828 h13829 a14084 h14085 h14330 h14575 w14576 w14577 r14578 r14579 r14580 h14581 h14601 h14602 h14622 h14667 ⊢) <;> first | omega | ((try simp (disch := omega) only [zb] at u11064 xq2 h11065 xq12 h11078 xq14 a11098 u11099 h11100 h11101 h13828 h13829 a14084 h14085 h14330 h14575 w14576 w14577 r14578 r14579 r14580 h14581 h14601 h14602 h14622 h14667 ⊢) <;> omega)) ) ?_
                              intro q28 hqq28
                              obtain ⟨cq28, gq28, xq28⟩ := hqq28
                              have fq28 := fr_trans fq30 gq28 rfl
                              have w14692 := (gq28.2.2 _ _ t_p0 0 rfl).1
                              have w14693 := (gq30.2.2 _ _ t_p0 0 rfl).1
                              have w14694 : mm_I s11 p0 0 = mm_I q2.2 p0 0 := by rw [← es11]; exact rd_k t_p0 tq5 (by decide)
                              have w14696 := rdA_fr (k := 9) (j := 0) gq28 cq30 t_p0 (κ' := 59) rfl rfl rfl
                              have w14697 := rdA_fr (k := 9) (j := 0) gq30 cs11 t_p0 (κ' := 59) rfl rfl rfl
                              have w14699 : rdA s11 p0 9 0 = mm_I s11 q17 ((0 : Int32)).toNatClampNeg := rdA_eq eq17
                              have w14698 : rdA s11 p0 9 0 = rdA q2.2 p0 9 0 := by rw [← es11]; exact rdA_k cq2 t_p0 (κ' := 59) rfl tq5 (by decide)
                              have w14700 := rdA_fr (k := 9) (j := 0) gq2 c0 t_p0 (κ' := 59) rfl rfl rfl
                              have w14702 := rdA_fr (k := 10) (j := 0) gq28 cq30 t_p0 (κ' := 60) rfl rfl rfl
                              have w14703 := rdA_fr (k := 10) (j := 0) gq30 cs11 t_p0 (κ' := 60) rfl rfl rfl
                              have w14704 : rdA s11 p0 10 0 = rdA q2.2 p0 10 0 := by rw [← es11]; exact rdA_j (by decide)
                              have w14706 : rdA q2.2 p0 10 0 = mm_I q2.2 q5 ((0 : Int32)).toNatClampNeg := rdA_eq eq5
                              have w14705 := rdA_fr (k := 10) (j := 0) gq2 c0 t_p0 (κ' := 60) rfl rfl rfl
                              have w14708 := rdA_fr (k := 10) (j := 1) gq28 cq30 t_p0 (κ' := 60) rfl rfl rfl
                              have w14709 := rdA_fr (k := 10) (j := 1) gq30 cs11 t_p0 (κ' := 60) rfl rfl rfl
                              have w14710 : rdA s11 p0 10 1 = -1 := by rw [← es11]; exact rdA_self eq5
                              have w14711 := rdA_fr (k := 9) (j := 1) gq28 cq30 t_p0 (κ' := 59) rfl rfl rfl
                              have w14712 := rdA_fr (k := 9) (j := 1) gq30 cs11 t_p0 (κ' := 59) rfl rfl rfl
                              have w14714 : rdA s11 p0 9 1 = mm_I s11 q17 ((1 : Int32)).toNatClampNeg := rdA_eq eq17
                              have w14713 : rdA s11 p0 9 1 = rdA q2.2 p0 9 1 := by rw [← es11]; exact rdA_k cq2 t_p0 (κ' := 59) rfl tq5 (by decide)
                              have w14715 := rdA_fr (k := 9) (j := 1) gq2 c0 t_p0 (κ' := 59) rfl rfl rfl
                              have w14719 : rdA q2.2 p0 10 1 = mm_I q2.2 q5 ((1 : Int32)).toNatClampNeg := rdA_eq eq5
                              have w14718 := rdA_fr (k := 10) (j := 1) gq2 c0 t_p0 (κ' := 60) rfl rfl rfl
                              have a14720 := zi_and p2 8 (by decide)
                              exact sw_some ⟨cq28, fq28, (by (try simp only [zp, zo, zq] at u11064 xq2 h11065 xq12 h11078 xq14 a11098 u11099 h11100 h11101 h13828 h13829 a14084 h14085 h14330 h14575 w14576 w14577 r14578 r14579 r14580 h14581 h14601 h14602 h14622 h14667 w14692 w14693 w14694 w14696 w14697 w14699 w14698 w14700 w14702 w14703 w14704 w14706 w14705 w14708 w14709 w14710 w14711 w14712 w14714 w14713 w14715 w14719 w14718 a14720 ⊢) <;> (try simp only [zz, Int32.reduceToInt, ne_eq] at u11064 xq2 h11065 xq12 h11078 xq14 a11098 u11099 h11100 h11101 h13828 h13829 a14084 h14085 h14330 h14575 w14576 w14577 r14578 r14579 r14580 h14581 h14601 h14602 h14622 h14667 w14692 w14693 w14694 w14696 w14697 w14699 w14698 w14700 w14702 w14703 w14704 w14706 w14705 w14708 w14709 w14710 w14711 w14712 w14714 w14713 w14715 w14719 w14718 a14720 ⊢) <;> (try simp (disch := omega) only [zb] at u11064 xq2 h11065 xq12 h11078 xq14 a11098 u11099 h11100 h11101 h13828 h13829 a14084 h14085 h14330 h14575 w14576 w14577 r14578 r14579 r14580 h14581 h14601 h14602 h14622 h14667 w14692 w14693 w14694 w14696 w14697 w14699 w14698 w14700 w14702 w14703 w14704 w14706 w14705 w14708 w14709 w14710 w14711 w14712 w14714 w14713 w14715 w14719 w14718 a14720 ⊢) <;> first | omega | ((try simp (disch := omega) only [zb] at u11064 xq2 h11065 xq12 h11078 xq14 a11098 u11099 h11100 h11101 h13828 h13829 a14084 h14085 h14330 h14575 w14576 w14577 r14578 r14579 r14580 h14581 h14601 h14602 h14622 h14667 w14692 w14693 w14694 w14696 w14697 w14699 w14698 w14700 w14702 w14703 w14704 w14706 w14705 w14708 w14709 w14710 w14711 w14712 w14714 w14713 w14715 w14719 w14718 a14720 ⊢) <;> omega))⟩
                      · unfold fX9_pair_250
                        refine sw_ite (fun h14721 => ?_) (fun h14721 => ?_)
                        · unfold fX9_pair_264
                          refine sw_ite (fun h14722 => ?_) (fun h14722 => ?_)
                          · have w14723 : mm_I s11 p0 0 = mm_I q2.2 p0 0 := by rw [← es11]; exact rd_k t_p0 tq5 (by decide)
                            have w14726 : rdA s11 p0 9 0 = mm_I s11 q17 ((0 : Int32)).toNatClampNeg := rdA_eq eq17
                            have w14725 : rdA s11 p0 9 0 = rdA q2.2 p0 9 0 := by rw [← es11]; exact rdA_k cq2 t_p0 (κ' := 59) rfl tq5 (by decide)
                            have w14727 := rdA_fr (k := 9) (j := 0) gq2 c0 t_p0 (κ' := 59) rfl rfl rfl
                            have w14729 : rdA s11 p0 10 0 = rdA q2.2 p0 10 0 := by rw [← es11]; exact rdA_j (by decide)
                            have w14731 : rdA q2.2 p0 10 0 = mm_I q2.2 q5 ((0 : Int32)).toNatClampNeg := rdA_eq eq5
                            have w14730 := rdA_fr (k := 10) (j := 0) gq2 c0 t_p0 (κ' := 60) rfl rfl rfl
                            have w14733 : rdA s11 p0 10 1 = -1 := by rw [← es11]; exact rdA_self eq5
                            have w14735 : rdA s11 p0 9 1 = mm_I s11 q17 ((1 : Int32)).toNatClampNeg := rdA_eq eq17
                            have w14734 : rdA s11 p0 9 1 = rdA q2.2 p0 9 1 := by rw [← es11]; exact rdA_k cq2 t_p0 (κ' := 59) rfl tq5 (by decide)
                            have w14736 := rdA_fr (k := 9) (j := 1) gq2 c0 t_p0 (κ' := 59) rfl rfl rfl
                            have w14740 : rdA q2.2 p0 10 1 = mm_I q2.2 q5 ((1 : Int32)).toNatClampNeg := rdA_eq eq5
                            have w14739 := rdA_fr (k := 10) (j := 1) gq2 c0 t_p0 (κ' := 60) rfl rfl rfl
                            have a14741 := zi_and p2 8 (by decide)
                            exact sw_some ⟨cs11, fs11, (by (try simp only [zp, zo, zq] at u11064 xq2 h11065 xq12 h11078 xq14 a11098 u11099 h11100 h11101 h13828 h13829 a14084 h14085 h14330 h14575 w14576 w14577 r14578 r14579 r14580 h14581 h14601 h14721 h14722 w14723 w14726 w14725 w14727 w14729 w14731 w14730 w14733 w14735 w14734 w14736 w14740 w14739 a14741 ⊢) <;> (try simp only [zz, Int32.reduceToInt, ne_eq] at u11064 xq2 h11065 xq12 h11078 xq14 a11098 u11099 h11100 h11101 h13828 h13829 a14084 h14085 h14330 h14575 w14576 w14577 r14578 r14579 r14580 h14581 h14601 h14721 h14722 w14723 w14726 w14725 w14727 w14729 w14731 w14730 w14733 w14735 w14734 w14736 w14740 w14739 a14741 ⊢) <;> (try simp (disch := omega) only [zb] at u11064 xq2 h11065 xq12 h11078 xq14 a11098 u11099 h11100 h11101 h13828 h13829 a14084 h14085 h14330 h14575 w14576 w14577 r14578 r14579 r14580 h14581 h14601 h14721 h14722 w14723 w14726 w14725 w14727 w14729 w14731 w14730 w14733 w14735 w14734 w14736 w14740 w14739 a14741 ⊢) <;> first | omega | ((try simp (disch := omega) only [zb] at u11064 xq2 h11065 xq12 h11078 xq14 a11098 u11099 h11100 h11101 h13828 h13829 a14084 h14085 h14330 h14575 w14576 w14577 r14578 r14579 r14580 h14581 h14601 h14721 h14722 w14723 w14726 w14725 w14727 w14729 w14731 w14730 w14733 w14735 w14734 w14736 w14740 w14739 a14741 ⊢) <;> omega))⟩
                          · refine sw_sh (ci_sh cs11 t_p0 rfl) ?_
                            refine sw_on (sX9_put cs11 t_p0 (by (try simp only [zp, zo, zq] at u11064 xq2 h11065 xq12 h11078 xq14 a11098 u11099 h11100 h11101 h13828 h13829 a14084 h14085 h14330 h14575 w14576 w14577 r14578 r14579 r14580 h14581 h14601 h14721 h14722 ⊢) <;> (try simp only [zz, Int32.reduceToInt, ne_eq] at u11064 xq2 h11065 xq12 h11078 xq14 a11098 u11099 h11100 h11101 h13828 h13829 a14084 h14085 h14330 h14575 w14576 w14577 r14578 r14579 r14580 h14581 h14601 h14721 h14722 ⊢) <;> (try simp (disch := omega) only [zb] at u11064 xq2 h11065 xq12 h11078 xq14 a11098 u11099 h11100 h11101 h13828 h13829 a14084 h14085 h14330 h14575 w14576 w14577 r14578 r14579 r14580 h14581 h14601 h14721 h14722 ⊢) <;> first | omega | ((try simp (disch := omega) only [zb] at u11064 xq2 h11065 xq12 h11078 xq14 a11098 u11099 h11100 h11101 h13828 h13829 a14084 h14085 h14330 h14575 w14576 w14577 r14578 r14579 r14580 h14581 h14601 h14721 h14722 ⊢) <;> omega)) ) ?_
                            intro q28 hqq28
                            obtain ⟨cq28, gq28, xq28⟩ := hqq28
                            have fq28 := fr_trans fs11 gq28 rfl
                            have w14742 := (gq28.2.2 _ _ t_p0 0 rfl).1
                            have w14743 : mm_I s11 p0 0 = mm_I q2.2 p0 0 := by rw [← es11]; exact rd_k t_p0 tq5 (by decide)
                            have w14745 := rdA_fr (k := 9) (j := 0) gq28 cs11 t_p0 (κ' := 59) rfl rfl rfl
                            have w14747 : rdA s11 p0 9 0 = mm_I s11 q17 ((0 : Int32)).toNatClampNeg := rdA_eq eq17
                            have w14746 : rdA s11 p0 9 0 = rdA q2.2 p0 9 0 := by rw [← es11]; exact rdA_k cq2 t_p0 (κ' := 59) rfl tq5 (by decide)
                            have w14748 := rdA_fr (k := 9) (j := 0) gq2 c0 t_p0 (κ' := 59) rfl rfl rfl
                            have w14750 := rdA_fr (k := 10) (j := 0) gq28 cs11 t_p0 (κ' := 60) rfl rfl rfl
                            have w14751 : rdA s11 p0 10 0 = rdA q2.2 p0 10 0 := by rw [← es11]; exact rdA_j (by decide)
                            have w14753 : rdA q2.2 p0 10 0 = mm_I q2.2 q5 ((0 : Int32)).toNatClampNeg := rdA_eq eq5
                            have w14752 := rdA_fr (k := 10) (j := 0) gq2 c0 t_p0 (κ' := 60) rfl rfl rfl
                            have w14755 := rdA_fr (k := 10) (j := 1) gq28 cs11 t_p0 (κ' := 60) rfl rfl rfl
                            have w14756 : rdA s11 p0 10 1 = -1 := by rw [← es11]; exact rdA_self eq5
                            have w14757 := rdA_fr (k := 9) (j := 1) gq28 cs11 t_p0 (κ' := 59) rfl rfl rfl
                            have w14759 : rdA s11 p0 9 1 = mm_I s11 q17 ((1 : Int32)).toNatClampNeg := rdA_eq eq17
                            have w14758 : rdA s11 p0 9 1 = rdA q2.2 p0 9 1 := by rw [← es11]; exact rdA_k cq2 t_p0 (κ' := 59) rfl tq5 (by decide)
                            have w14760 := rdA_fr (k := 9) (j := 1) gq2 c0 t_p0 (κ' := 59) rfl rfl rfl
                            have w14764 : rdA q2.2 p0 10 1 = mm_I q2.2 q5 ((1 : Int32)).toNatClampNeg := rdA_eq eq5
                            have w14763 := rdA_fr (k := 10) (j := 1) gq2 c0 t_p0 (κ' := 60) rfl rfl rfl
                            have a14765 := zi_and p2 8 (by decide)
                            exact sw_some ⟨cq28, fq28, (by (try simp only [zp, zo, zq] at u11064 xq2 h11065 xq12 h11078 xq14 a11098 u11099 h11100 h11101 h13828 h13829 a14084 h14085 h14330 h14575 w14576 w14577 r14578 r14579 r14580 h14581 h14601 h14721 h14722 w14742 w14743 w14745 w14747 w14746 w14748 w14750 w14751 w14753 w14752 w14755 w14756 w14757 w14759 w14758 w14760 w14764 w14763 a14765 ⊢) <;> (try simp only [zz, Int32.reduceToInt, ne_eq] at u11064 xq2 h11065 xq12 h11078 xq14 a11098 u11099 h11100 h11101 h13828 h13829 a14084 h14085 h14330 h14575 w14576 w14577 r14578 r14579 r14580 h14581 h14601 h14721 h14722 w14742 w14743 w14745 w14747 w14746 w14748 w14750 w14751 w14753 w14752 w14755 w14756 w14757 w14759 w14758 w14760 w14764 w14763 a14765 ⊢) <;> (try simp (disch := omega) only [zb] at u11064 xq2 h11065 xq12 h11078 xq14 a11098 u11099 h11100 h11101 h13828 h13829 a14084 h14085 h14330 h14575 w14576 w14577 r14578 r14579 r14580 h14581 h14601 h14721 h14722 w14742 w14743 w14745 w14747 w14746 w14748 w14750 w14751 w14753 w14752 w14755 w14756 w14757 w14759 w14758 w14760 w14764 w14763 a14765 ⊢) <;> first | omega | ((try simp (disch := omega) only [zb] at u11064 xq2 h11065 xq12 h11078 xq14 a11098 u11099 h11100 h11101 h13828 h13829 a14084 h14085 h14330 h14575 w14576 w14577 r14578 r14579 r14580 h14581 h14601 h14721 h14722 w14742 w14743 w14745 w14747 w14746 w14748 w14750 w14751 w14753 w14752 w14755 w14756 w14757 w14759 w14758 w14760 w14764 w14763 a14765 ⊢) <;> omega))⟩
                        · refine sw_sh (ci_sh cs11 t_p0 rfl) ?_
                          refine sw_on (sX9_put cs11 t_p0 (by (try simp only [zp, zo, zq] at u11064 xq2 h11065 xq12 h11078 xq14 a11098 u11099 h11100 h11101 h13828 h13829 a14084 h14085 h14330 h14575 w14576 w14577 r14578 r14579 r14580 h14581 h14601 h14721 ⊢) <;> (try simp only [zz, Int32.reduceToInt, ne_eq] at u11064 xq2 h11065 xq12 h11078 xq14 a11098 u11099 h11100 h11101 h13828 h13829 a14084 h14085 h14330 h14575 w14576 w14577 r14578 r14579 r14580 h14581 h14601 h14721 ⊢) <;> (try simp (disch := omega) only [zb] at u11064 xq2 h11065 xq12 h11078 xq14 a11098 u11099 h11100 h11101 h13828 h13829 a14084 h14085 h14330 h14575 w14576 w14577 r14578 r14579 r14580 h14581 h14601 h14721 ⊢) <;> first | omega | ((try simp (disch := omega) only [zb] at u11064 xq2 h11065 xq12 h11078 xq14 a11098 u11099 h11100 h11101 h13828 h13829 a14084 h14085 h14330 h14575 w14576 w14577 r14578 r14579 r14580 h14581 h14601 h14721 ⊢) <;> omega)) ) ?_
                          intro q30 hqq30
                          obtain ⟨cq30, gq30, xq30⟩ := hqq30
                          have fq30 := fr_trans fs11 gq30 rfl
                          unfold fX9_pair_264
                          refine sw_ite (fun h14766 => ?_) (fun h14766 => ?_)
                          · have w14767 := (gq30.2.2 _ _ t_p0 0 rfl).1
                            have w14768 : mm_I s11 p0 0 = mm_I q2.2 p0 0 := by rw [← es11]; exact rd_k t_p0 tq5 (by decide)
                            have w14770 := rdA_fr (k := 9) (j := 0) gq30 cs11 t_p0 (κ' := 59) rfl rfl rfl
                            have w14772 : rdA s11 p0 9 0 = mm_I s11 q17 ((0 : Int32)).toNatClampNeg := rdA_eq eq17
                            have w14771 : rdA s11 p0 9 0 = rdA q2.2 p0 9 0 := by rw [← es11]; exact rdA_k cq2 t_p0 (κ' := 59) rfl tq5 (by decide)
                            have w14773 := rdA_fr (k := 9) (j := 0) gq2 c0 t_p0 (κ' := 59) rfl rfl rfl
                            have w14775 := rdA_fr (k := 10) (j := 0) gq30 cs11 t_p0 (κ' := 60) rfl rfl rfl
                            have w14776 : rdA s11 p0 10 0 = rdA q2.2 p0 10 0 := by rw [← es11]; exact rdA_j (by decide)
                            have w14778 : rdA q2.2 p0 10 0 = mm_I q2.2 q5 ((0 : Int32)).toNatClampNeg := rdA_eq eq5
                            have w14777 := rdA_fr (k := 10) (j := 0) gq2 c0 t_p0 (κ' := 60) rfl rfl rfl
                            have w14780 := rdA_fr (k := 10) (j := 1) gq30 cs11 t_p0 (κ' := 60) rfl rfl rfl
                            have w14781 : rdA s11 p0 10 1 = -1 := by rw [← es11]; exact rdA_self eq5
                            have w14782 := rdA_fr (k := 9) (j := 1) gq30 cs11 t_p0 (κ' := 59) rfl rfl rfl
                            have w14784 : rdA s11 p0 9 1 = mm_I s11 q17 ((1 : Int32)).toNatClampNeg := rdA_eq eq17
                            have w14783 : rdA s11 p0 9 1 = rdA q2.2 p0 9 1 := by rw [← es11]; exact rdA_k cq2 t_p0 (κ' := 59) rfl tq5 (by decide)
                            have w14785 := rdA_fr (k := 9) (j := 1) gq2 c0 t_p0 (κ' := 59) rfl rfl rfl
                            have w14789 : rdA q2.2 p0 10 1 = mm_I q2.2 q5 ((1 : Int32)).toNatClampNeg := rdA_eq eq5
                            have w14788 := rdA_fr (k := 10) (j := 1) gq2 c0 t_p0 (κ' := 60) rfl rfl rfl
                            have a14790 := zi_and p2 8 (by decide)
                            exact sw_some ⟨cq30, fq30, (by (try simp only [zp, zo, zq] at u11064 xq2 h11065 xq12 h11078 xq14 a11098 u11099 h11100 h11101 h13828 h13829 a14084 h14085 h14330 h14575 w14576 w14577 r14578 r14579 r14580 h14581 h14601 h14721 h14766 w14767 w14768 w14770 w14772 w14771 w14773 w14775 w14776 w14778 w14777 w14780 w14781 w14782 w14784 w14783 w14785 w14789 w14788 a14790 ⊢) <;> (try simp only [zz, Int32.reduceToInt, ne_eq] at u11064 xq2 h11065 xq12 h11078 xq14 a11098 u11099 h11100 h11101 h13828 h13829 a14084 h14085 h14330 h14575 w14576 w14577 r14578 r14579 r14580 h14581 h14601 h14721 h14766 w14767 w14768 w14770 w14772 w14771 w14773 w14775 w14776 w14778 w14777 w14780 w14781 w14782 w14784 w14783 w14785 w14789 w14788 a14790 ⊢) <;> (try simp (disch := omega) only [zb] at u11064 xq2 h11065 xq12 h11078 xq14 a11098 u11099 h11100 h11101 h13828 h13829 a14084 h14085 h14330 h14575 w14576 w14577 r14578 r14579 r14580 h14581 h14601 h14721 h14766 w14767 w14768 w14770 w14772 w14771 w14773 w14775 w14776 w14778 w14777 w14780 w14781 w14782 w14784 w14783 w14785 w14789 w14788 a14790 ⊢) <;> first | omega | ((try simp (disch := omega) only [zb] at u11064 xq2 h11065 xq12 h11078 xq14 a11098 u11099 h11100 h11101 h13828 h13829 a14084 h14085 h14330 h14575 w14576 w14577 r14578 r14579 r14580 h14581 h14601 h14721 h14766 w14767 w14768 w14770 w14772 w14771 w14773 w14775 w14776 w14778 w14777 w14780 w14781 w14782 w14784 w14783 w14785 w14789 w14788 a14790 ⊢) <;> omega))⟩
                          · refine sw_sh (ci_sh cq30 t_p0 rfl) ?_
                            refine sw_on (sX9_put cq30 t_p0 (by (try simp only [zp, zo, zq] at u11064 xq2 h11065 xq12 h11078 xq14 a11098 u11099 h11100 h11101 h13828 h13829 a14084 h14085 h14330 h14575 w14576 w14577 r14578 r14579 r14580 h14581 h14601 h14721 h14766 ⊢) <;> (try simp only [zz, Int32.reduceToInt, ne_eq] at u11064 xq2 h11065 xq12 h11078 xq14 a11098 u11099 h11100 h11101 h13828 h13829 a14084 h14085 h14330 h14575 w14576 w14577 r14578 r14579 r14580 h14581 h14601 h14721 h14766 ⊢) <;> (try simp (disch := omega) only [zb] at u11064 xq2 h11065 xq12 h11078 xq14 a11098 u11099 h11100 h11101 h13828 h13829 a14084 h14085 h14330 h14575 w14576 w14577 r14578 r14579 r14580 h14581 h14601 h14721 h14766 ⊢) <;> first | omega | ((try simp (disch := omega) only [zb] at u11064 xq2 h11065 xq12 h11078 xq14 a11098 u11099 h11100 h11101 h13828 h13829 a14084 h14085 h14330 h14575 w14576 w14577 r14578 r14579 r14580 h14581 h14601 h14721 h14766 ⊢) <;> omega)) ) ?_
                            intro q28 hqq28
                            obtain ⟨cq28, gq28, xq28⟩ := hqq28
                            have fq28 := fr_trans fq30 gq28 rfl
                            have w14791 := (gq28.2.2 _ _ t_p0 0 rfl).1
                            have w14792 := (gq30.2.2 _ _ t_p0 0 rfl).1
                            have w14793 : mm_I s11 p0 0 = mm_I q2.2 p0 0 := by rw [← es11]; exact rd_k t_p0 tq5 (by decide)
                            have w14795 := rdA_fr (k := 9) (j := 0) gq28 cq30 t_p0 (κ' := 59) rfl rfl rfl
                            have w14796 := rdA_fr (k := 9) (j := 0) gq30 cs11 t_p0 (κ' := 59) rfl rfl rfl
                            have w14798 : rdA s11 p0 9 0 = mm_I s11 q17 ((0 : Int32)).toNatClampNeg := rdA_eq eq17
                            have w14797 : rdA s11 p0 9 0 = rdA q2.2 p0 9 0 := by rw [← es11]; exact rdA_k cq2 t_p0 (κ' := 59) rfl tq5 (by decide)
                            have w14799 := rdA_fr (k := 9) (j := 0) gq2 c0 t_p0 (κ' := 59) rfl rfl rfl
                            have w14801 := rdA_fr (k := 10) (j := 0) gq28 cq30 t_p0 (κ' := 60) rfl rfl rfl
                            have w14802 := rdA_fr (k := 10) (j := 0) gq30 cs11 t_p0 (κ' := 60) rfl rfl rfl
                            have w14803 : rdA s11 p0 10 0 = rdA q2.2 p0 10 0 := by rw [← es11]; exact rdA_j (by decide)
                            have w14805 : rdA q2.2 p0 10 0 = mm_I q2.2 q5 ((0 : Int32)).toNatClampNeg := rdA_eq eq5
                            have w14804 := rdA_fr (k := 10) (j := 0) gq2 c0 t_p0 (κ' := 60) rfl rfl rfl
                            have w14807 := rdA_fr (k := 10) (j := 1) gq28 cq30 t_p0 (κ' := 60) rfl rfl rfl
                            have w14808 := rdA_fr (k := 10) (j := 1) gq30 cs11 t_p0 (κ' := 60) rfl rfl rfl
                            have w14809 : rdA s11 p0 10 1 = -1 := by rw [← es11]; exact rdA_self eq5
                            have w14810 := rdA_fr (k := 9) (j := 1) gq28 cq30 t_p0 (κ' := 59) rfl rfl rfl
                            have w14811 := rdA_fr (k := 9) (j := 1) gq30 cs11 t_p0 (κ' := 59) rfl rfl rfl
                            have w14813 : rdA s11 p0 9 1 = mm_I s11 q17 ((1 : Int32)).toNatClampNeg := rdA_eq eq17
                            have w14812 : rdA s11 p0 9 1 = rdA q2.2 p0 9 1 := by rw [← es11]; exact rdA_k cq2 t_p0 (κ' := 59) rfl tq5 (by decide)
                            have w14814 := rdA_fr (k := 9) (j := 1) gq2 c0 t_p0 (κ' := 59) rfl rfl rfl
                            have w14818 : rdA q2.2 p0 10 1 = mm_I q2.2 q5 ((1 : Int32)).toNatClampNeg := rdA_eq eq5
                            have w14817 := rdA_fr (k := 10) (j := 1) gq2 c0 t_p0 (κ' := 60) rfl rfl rfl
                            have a14819 := zi_and p2 8 (by decide)
                            exact sw_some ⟨cq28, fq28, (by (try simp only [zp, zo, zq] at u11064 xq2 h11065 xq12 h11078 xq14 a11098 u11099 h11100 h11101 h13828 h13829 a14084 h14085 h14330 h14575 w14576 w14577 r14578 r14579 r14580 h14581 h14601 h14721 h14766 w14791 w14792 w14793 w14795 w14796 w14798 w14797 w14799 w14801 w14802 w14803 w14805 w14804 w14807 w14808 w14809 w14810 w14811 w14813 w14812 w14814 w14818 w14817 a14819 ⊢) <;> (try simp only [zz, Int32.reduceToInt, ne_eq] at u11064 xq2 h11065 xq12 h11078 xq14 a11098 u11099 h11100 h11101 h13828 h13829 a14084 h14085 h14330 h14575 w14576 w14577 r14578 r14579 r14580 h14581 h14601 h14721 h14766 w14791 w14792 w14793 w14795 w14796 w14798 w14797 w14799 w14801 w14802 w14803 w14805 w14804 w14807 w14808 w14809 w14810 w14811 w14813 w14812 w14814 w14818 w14817 a14819 ⊢) <;> (try simp (disch := omega) only [zb] at u11064 xq2 h11065 xq12 h11078 xq14 a11098 u11099 h11100 h11101 h13828 h13829 a14084 h14085 h14330 h14575 w14576 w14577 r14578 r14579 r14580 h14581 h14601 h14721 h14766 w14791 w14792 w14793 w14795 w14796 w14798 w14797 w14799 w14801 w14802 w14803 w14805 w14804 w14807 w14808 w14809 w14810 w14811 w14813 w14812 w14814 w14818 w14817 a14819 ⊢) <;> first | omega | ((try simp (disch := omega) only [zb] at u11064 xq2 h11065 xq12 h11078 xq14 a11098 u11099 h11100 h11101 h13828 h13829 a14084 h14085 h14330 h14575 w14576 w14577 r14578 r14579 r14580 h14581 h14601 h14721 h14766 w14791 w14792 w14793 w14795 w14796 w14798 w14797 w14799 w14801 w14802 w14803 w14805 w14804 w14807 w14808 w14809 w14810 w14811 w14813 w14812 w14814 w14818 w14817 a14819 ⊢) <;> omega))⟩
                  · unfold fX9_pair_227
                    unfold fX9_pair_228
                    have w14820 : mm_I s11 q17 ((1 : Int32).toNatClampNeg) = mm_I q2.2 q17 ((1 : Int32).toNatClampNeg) := by rw [← es11]; exact rd_k tq17 tq5 (by decide)
                    have w14821 := (gq2.2.2 _ _ tq17 ((1 : Int32).toNatClampNeg) rfl).1
                    have r14822 := ci_rg c0 tq17 ((1 : Int32).toNatClampNeg) (lo := (-1)) (hi := 3) rfl
                    have r14823 := ci_rg cq2 tq17 ((1 : Int32).toNatClampNeg) (lo := (-1)) (hi := 3) rfl
                    have r14824 := ci_rg cs11 tq17 ((1 : Int32).toNatClampNeg) (lo := (-1)) (hi := 3) rfl
                    refine sw_ite (fun h14825 => ?_) (fun h14825 => ?_)
                    · have w14826 : mm_I s11 p0 0 = mm_I q2.2 p0 0 := by rw [← es11]; exact rd_k t_p0 tq5 (by decide)
                      have w14829 : rdA s11 p0 9 0 = mm_I s11 q17 ((0 : Int32)).toNatClampNeg := rdA_eq eq17
                      have w14828 : rdA s11 p0 9 0 = rdA q2.2 p0 9 0 := by rw [← es11]; exact rdA_k cq2 t_p0 (κ' := 59) rfl tq5 (by decide)
                      have w14830 := rdA_fr (k := 9) (j := 0) gq2 c0 t_p0 (κ' := 59) rfl rfl rfl
                      have w14832 : rdA s11 p0 10 0 = rdA q2.2 p0 10 0 := by rw [← es11]; exact rdA_j (by decide)
                      have w14834 : rdA q2.2 p0 10 0 = mm_I q2.2 q5 ((0 : Int32)).toNatClampNeg := rdA_eq eq5
                      have w14833 := rdA_fr (k := 10) (j := 0) gq2 c0 t_p0 (κ' := 60) rfl rfl rfl
                      have w14836 : rdA s11 p0 10 1 = -1 := by rw [← es11]; exact rdA_self eq5
                      have w14838 : rdA s11 p0 9 1 = mm_I s11 q17 ((1 : Int32)).toNatClampNeg := rdA_eq eq17
                      have w14837 : rdA s11 p0 9 1 = rdA q2.2 p0 9 1 := by rw [← es11]; exact rdA_k cq2 t_p0 (κ' := 59) rfl tq5 (by decide)
                      have w14839 := rdA_fr (k := 9) (j := 1) gq2 c0 t_p0 (κ' := 59) rfl rfl rfl
                      have w14843 : rdA q2.2 p0 10 1 = mm_I q2.2 q5 ((1 : Int32)).toNatClampNeg := rdA_eq eq5
                      have w14842 := rdA_fr (k := 10) (j := 1) gq2 c0 t_p0 (κ' := 60) rfl rfl rfl
                      have a14844 := zi_and p2 8 (by decide)
                      exact sw_some ⟨cs11, fs11, (by (try simp only [zp, zo, zq] at u11064 xq2 h11065 xq12 h11078 xq14 a11098 u11099 h11100 h11101 h13828 h13829 a14084 h14085 h14330 h14575 w14820 w14821 r14822 r14823 r14824 h14825 w14826 w14829 w14828 w14830 w14832 w14834 w14833 w14836 w14838 w14837 w14839 w14843 w14842 a14844 ⊢) <;> (try simp only [zz, Int32.reduceToInt, ne_eq] at u11064 xq2 h11065 xq12 h11078 xq14 a11098 u11099 h11100 h11101 h13828 h13829 a14084 h14085 h14330 h14575 w14820 w14821 r14822 r14823 r14824 h14825 w14826 w14829 w14828 w14830 w14832 w14834 w14833 w14836 w14838 w14837 w14839 w14843 w14842 a14844 ⊢) <;> (try simp (disch := omega) only [zb] at u11064 xq2 h11065 xq12 h11078 xq14 a11098 u11099 h11100 h11101 h13828 h13829 a14084 h14085 h14330 h14575 w14820 w14821 r14822 r14823 r14824 h14825 w14826 w14829 w14828 w14830 w14832 w14834 w14833 w14836 w14838 w14837 w14839 w14843 w14842 a14844 ⊢) <;> first | omega | ((try simp (disch := omega) only [zb] at u11064 xq2 h11065 xq12 h11078 xq14 a11098 u11099 h11100 h11101 h13828 h13829 a14084 h14085 h14330 h14575 w14820 w14821 r14822 r14823 r14824 h14825 w14826 w14829 w14828 w14830 w14832 w14834 w14833 w14836 w14838 w14837 w14839 w14843 w14842 a14844 ⊢) <;> omega))⟩
                    · refine sw_ite (fun h14845 => ?_) (fun h14845 => ?_)
                      · refine sw_ite (fun h14846 => ?_) (fun h14846 => ?_)
                        · have w14847 : mm_I s11 p0 0 = mm_I q2.2 p0 0 := by rw [← es11]; exact rd_k t_p0 tq5 (by decide)
                          have w14850 : rdA s11 p0 9 0 = mm_I s11 q17 ((0 : Int32)).toNatClampNeg := rdA_eq eq17
                          have w14849 : rdA s11 p0 9 0 = rdA q2.2 p0 9 0 := by rw [← es11]; exact rdA_k cq2 t_p0 (κ' := 59) rfl tq5 (by decide)
                          have w14851 := rdA_fr (k := 9) (j := 0) gq2 c0 t_p0 (κ' := 59) rfl rfl rfl
                          have w14853 : rdA s11 p0 10 0 = rdA q2.2 p0 10 0 := by rw [← es11]; exact rdA_j (by decide)
                          have w14855 : rdA q2.2 p0 10 0 = mm_I q2.2 q5 ((0 : Int32)).toNatClampNeg := rdA_eq eq5
                          have w14854 := rdA_fr (k := 10) (j := 0) gq2 c0 t_p0 (κ' := 60) rfl rfl rfl
                          have w14857 : rdA s11 p0 10 1 = -1 := by rw [← es11]; exact rdA_self eq5
                          have w14859 : rdA s11 p0 9 1 = mm_I s11 q17 ((1 : Int32)).toNatClampNeg := rdA_eq eq17
                          have w14858 : rdA s11 p0 9 1 = rdA q2.2 p0 9 1 := by rw [← es11]; exact rdA_k cq2 t_p0 (κ' := 59) rfl tq5 (by decide)
                          have w14860 := rdA_fr (k := 9) (j := 1) gq2 c0 t_p0 (κ' := 59) rfl rfl rfl
                          have w14864 : rdA q2.2 p0 10 1 = mm_I q2.2 q5 ((1 : Int32)).toNatClampNeg := rdA_eq eq5
                          have w14863 := rdA_fr (k := 10) (j := 1) gq2 c0 t_p0 (κ' := 60) rfl rfl rfl
                          have a14865 := zi_and p2 8 (by decide)
                          exact sw_some ⟨cs11, fs11, (by (try simp only [zp, zo, zq] at u11064 xq2 h11065 xq12 h11078 xq14 a11098 u11099 h11100 h11101 h13828 h13829 a14084 h14085 h14330 h14575 w14820 w14821 r14822 r14823 r14824 h14825 h14845 h14846 w14847 w14850 w14849 w14851 w14853 w14855 w14854 w14857 w14859 w14858 w14860 w14864 w14863 a14865 ⊢) <;> (try simp only [zz, Int32.reduceToInt, ne_eq] at u11064 xq2 h11065 xq12 h11078 xq14 a11098 u11099 h11100 h11101 h13828 h13829 a14084 h14085 h14330 h14575 w14820 w14821 r14822 r14823 r14824 h14825 h14845 h14846 w14847 w14850 w14849 w14851 w14853 w14855 w14854 w14857 w14859 w14858 w14860 w14864 w14863 a14865 ⊢) <;> (try simp (disch := omega) only [zb] at u11064 xq2 h11065 xq12 h11078 xq14 a11098 u11099 h11100 h11101 h13828 h13829 a14084 h14085 h14330 h14575 w14820 w14821 r14822 r14823 r14824 h14825 h14845 h14846 w14847 w14850 w14849 w14851 w14853 w14855 w14854 w14857 w14859 w14858 w14860 w14864 w14863 a14865 ⊢) <;> first | omega | ((try simp (disch := omega) only [zb] at u11064 xq2 h11065 xq12 h11078 xq14 a11098 u11099 h11100 h11101 h13828 h13829 a14084 h14085 h14330 h14575 w14820 w14821 r14822 r14823 r14824 h14825 h14845 h14846 w14847 w14850 w14849 w14851 w14853 w14855 w14854 w14857 w14859 w14858 w14860 w14864 w14863 a14865 ⊢) <;> omega))⟩
                        · unfold fX9_pair_250
                          refine sw_ite (fun h14866 => ?_) (fun h14866 => ?_)
                          · unfold fX9_pair_264
                            refine sw_ite (fun h14867 => ?_) (fun h14867 => ?_)
                            · have w14868 : mm_I s11 p0 0 = mm_I q2.2 p0 0 := by rw [← es11]; exact rd_k t_p0 tq5 (by decide)
                              have w14871 : rdA s11 p0 9 0 = mm_I s11 q17 ((0 : Int32)).toNatClampNeg := rdA_eq eq17
                              have w14870 : rdA s11 p0 9 0 = rdA q2.2 p0 9 0 := by rw [← es11]; exact rdA_k cq2 t_p0 (κ' := 59) rfl tq5 (by decide)
                              have w14872 := rdA_fr (k := 9) (j := 0) gq2 c0 t_p0 (κ' := 59) rfl rfl rfl
                              have w14874 : rdA s11 p0 10 0 = rdA q2.2 p0 10 0 := by rw [← es11]; exact rdA_j (by decide)
                              have w14876 : rdA q2.2 p0 10 0 = mm_I q2.2 q5 ((0 : Int32)).toNatClampNeg := rdA_eq eq5
                              have w14875 := rdA_fr (k := 10) (j := 0) gq2 c0 t_p0 (κ' := 60) rfl rfl rfl
                              have w14878 : rdA s11 p0 10 1 = -1 := by rw [← es11]; exact rdA_self eq5
                              have w14880 : rdA s11 p0 9 1 = mm_I s11 q17 ((1 : Int32)).toNatClampNeg := rdA_eq eq17
                              have w14879 : rdA s11 p0 9 1 = rdA q2.2 p0 9 1 := by rw [← es11]; exact rdA_k cq2 t_p0 (κ' := 59) rfl tq5 (by decide)
                              have w14881 := rdA_fr (k := 9) (j := 1) gq2 c0 t_p0 (κ' := 59) rfl rfl rfl
                              have w14885 : rdA q2.2 p0 10 1 = mm_I q2.2 q5 ((1 : Int32)).toNatClampNeg := rdA_eq eq5
                              have w14884 := rdA_fr (k := 10) (j := 1) gq2 c0 t_p0 (κ' := 60) rfl rfl rfl
                              have a14886 := zi_and p2 8 (by decide)
                              exact sw_some ⟨cs11, fs11, (by (try simp only [zp, zo, zq] at u11064 xq2 h11065 xq12 h11078 xq14 a11098 u11099 h11100 h11101 h13828 h13829 a14084 h14085 h14330 h14575 w14820 w14821 r14822 r14823 r14824 h14825 h14845 h14846 h14866 h14867 w14868 w14871 w14870 w14872 w14874 w14876 w14875 w14878 w14880 w14879 w14881 w14885 w14884 a14886 ⊢) <;> (try simp only [zz, Int32.reduceToInt, ne_eq] at u11064 xq2 h11065 xq12 h11078 xq14 a11098 u11099 h11100 h11101 h13828 h13829 a14084 h14085 h14330 h14575 w14820 w14821 r14822 r14823 r14824 h14825 h14845 h14846 h14866 h14867 w14868 w14871 w14870 w14872 w14874 w14876 w14875 w14878 w14880 w14879 w14881 w14885 w14884 a14886 ⊢) <;> (try simp (disch := omega) only [zb] at u11064 xq2 h11065 xq12 h11078 xq14 a11098 u11099 h11100 h11101 h13828 h13829 a14084 h14085 h14330 h14575 w14820 w14821 r14822 r14823 r14824 h14825 h14845 h14846 h14866 h14867 w14868 w14871 w14870 w14872 w14874 w14876 w14875 w14878 w14880 w14879 w14881 w14885 w14884 a14886 ⊢) <;> first | omega | ((try simp (disch := omega) only [zb] at u11064 xq2 h11065 xq12 h11078 xq14 a11098 u11099 h11100 h11101 h13828 h13829 a14084 h14085 h14330 h14575 w14820 w14821 r14822 r14823 r14824 h14825 h14845 h14846 h14866 h14867 w14868 w14871 w14870 w14872 w14874 w14876 w14875 w14878 w14880 w14879 w14881 w14885 w14884 a14886 ⊢) <;> omega))⟩
                            · refine sw_sh (ci_sh cs11 t_p0 rfl) ?_
                              refine sw_on (sX9_put cs11 t_p0 (by (try simp only [zp, zo, zq] at u11064 xq2 h11065 xq12 h11078 xq14 a11098 u11099 h11100 h11101 h13828 h13829 a14084 h14085 h14330 h14575 w14820 w14821 r14822 r14823 r14824 h14825 h14845 h14846 h14866 h14867 ⊢) <;> (try simp only [zz, Int32.reduceToInt, ne_eq] at u11064 xq2 h11065 xq12 h11078 xq14 a11098 u11099 h11100 h11101 h13828 h13829 a14084 h14085 h14330 h14575 w14820 w14821 r14822 r14823 r14824 h14825 h14845 h14846 h14866 h14867 ⊢) <;> (try simp (disch := omega) only [zb] at u11064 xq2 h11065 xq12 h11078 xq14 a11098 u11099 h11100 h11101 h13828 h13829 a14084 h14085 h14330 h14575 w14820 w14821 r14822 r14823 r14824 h14825 h14845 h14846 h14866 h14867 ⊢) <;> first | omega | ((try simp (disch := omega) only [zb] at u11064 xq2 h11065 xq12 h11078 xq14 a11098 u11099 h11100 h11101 h13828 h13829 a14084 h14085 h14330 h14575 w14820 w14821 r14822 r14823 r14824 h14825 h14845 h14846 h14866 h14867 ⊢) <;> omega)) ) ?_
                              intro q28 hqq28
                              obtain ⟨cq28, gq28, xq28⟩ := hqq28
                              have fq28 := fr_trans fs11 gq28 rfl
                              have w14887 := (gq28.2.2 _ _ t_p0 0 rfl).1
                              have w14888 : mm_I s11 p0 0 = mm_I q2.2 p0 0 := by rw [← es11]; exact rd_k t_p0 tq5 (by decide)
                              have w14890 := rdA_fr (k := 9) (j := 0) gq28 cs11 t_p0 (κ' := 59) rfl rfl rfl
                              have w14892 : rdA s11 p0 9 0 = mm_I s11 q17 ((0 : Int32)).toNatClampNeg := rdA_eq eq17
                              have w14891 : rdA s11 p0 9 0 = rdA q2.2 p0 9 0 := by rw [← es11]; exact rdA_k cq2 t_p0 (κ' := 59) rfl tq5 (by decide)
                              have w14893 := rdA_fr (k := 9) (j := 0) gq2 c0 t_p0 (κ' := 59) rfl rfl rfl
                              have w14895 := rdA_fr (k := 10) (j := 0) gq28 cs11 t_p0 (κ' := 60) rfl rfl rfl
                              have w14896 : rdA s11 p0 10 0 = rdA q2.2 p0 10 0 := by rw [← es11]; exact rdA_j (by decide)
                              have w14898 : rdA q2.2 p0 10 0 = mm_I q2.2 q5 ((0 : Int32)).toNatClampNeg := rdA_eq eq5
                              have w14897 := rdA_fr (k := 10) (j := 0) gq2 c0 t_p0 (κ' := 60) rfl rfl rfl
                              have w14900 := rdA_fr (k := 10) (j := 1) gq28 cs11 t_p0 (κ' := 60) rfl rfl rfl
                              have w14901 : rdA s11 p0 10 1 = -1 := by rw [← es11]; exact rdA_self eq5
                              have w14902 := rdA_fr (k := 9) (j := 1) gq28 cs11 t_p0 (κ' := 59) rfl rfl rfl
                              have w14904 : rdA s11 p0 9 1 = mm_I s11 q17 ((1 : Int32)).toNatClampNeg := rdA_eq eq17
                              have w14903 : rdA s11 p0 9 1 = rdA q2.2 p0 9 1 := by rw [← es11]; exact rdA_k cq2 t_p0 (κ' := 59) rfl tq5 (by decide)
                              have w14905 := rdA_fr (k := 9) (j := 1) gq2 c0 t_p0 (κ' := 59) rfl rfl rfl
                              have w14909 : rdA q2.2 p0 10 1 = mm_I q2.2 q5 ((1 : Int32)).toNatClampNeg := rdA_eq eq5
                              have w14908 := rdA_fr (k := 10) (j := 1) gq2 c0 t_p0 (κ' := 60) rfl rfl rfl
                              have a14910 := zi_and p2 8 (by decide)
                              exact sw_some ⟨cq28, fq28, (by (try simp only [zp, zo, zq] at u11064 xq2 h11065 xq12 h11078 xq14 a11098 u11099 h11100 h11101 h13828 h13829 a14084 h14085 h14330 h14575 w14820 w14821 r14822 r14823 r14824 h14825 h14845 h14846 h14866 h14867 w14887 w14888 w14890 w14892 w14891 w14893 w14895 w14896 w14898 w14897 w14900 w14901 w14902 w14904 w14903 w14905 w14909 w14908 a14910 ⊢) <;> (try simp only [zz, Int32.reduceToInt, ne_eq] at u11064 xq2 h11065 xq12 h11078 xq14 a11098 u11099 h11100 h11101 h13828 h13829 a14084 h14085 h14330 h14575 w14820 w14821 r14822 r14823 r14824 h14825 h14845 h14846 h14866 h14867 w14887 w14888 w14890 w14892 w14891 w14893 w14895 w14896 w14898 w14897 w14900 w14901 w14902 w14904 w14903 w14905 w14909 w14908 a14910 ⊢) <;> (try simp (disch := omega) only [zb] at u11064 xq2 h11065 xq12 h11078 xq14 a11098 u11099 h11100 h11101 h13828 h13829 a14084 h14085 h14330 h14575 w14820 w14821 r14822 r14823 r14824 h14825 h14845 h14846 h14866 h14867 w14887 w14888 w14890 w14892 w14891 w14893 w14895 w14896 w14898 w14897 w14900 w14901 w14902 w14904 w14903 w14905 w14909 w14908 a14910 ⊢) <;> first | omega | ((try simp (disch := omega) only [zb] at u11064 xq2 h11065 xq12 h11078 xq14 a11098 u11099 h11100 h11101 h13828 h13829 a14084 h14085 h14330 h14575 w14820 w14821 r14822 r14823 r14824 h14825 h14845 h14846 h14866 h14867 w14887 w14888 w14890 w14892 w14891 w14893 w14895 w14896 w14898 w14897 w14900 w14901 w14902 w14904 w14903 w14905 w14909 w14908 a14910 ⊢) <;> omega))⟩
                          · refine sw_sh (ci_sh cs11 t_p0 rfl) ?_
                            refine sw_on (sX9_put cs11 t_p0 (by (try simp only [zp, zo, zq] at u11064 xq2 h11065 xq12 h11078 xq14 a11098 u11099 h11100 h11101 h13828 h13829 a14084 h14085 h14330 h14575 w14820 w14821 r14822 r14823 r14824 h14825 h14845 h14846 h14866 ⊢) <;> (try simp only [zz, Int32.reduceToInt, ne_eq] at u11064 xq2 h11065 xq12 h11078 xq14 a11098 u11099 h11100 h11101 h13828 h13829 a14084 h14085 h14330 h14575 w14820 w14821 r14822 r14823 r14824 h14825 h14845 h14846 h14866 ⊢) <;> (try simp (disch := omega) only [zb] at u11064 xq2 h11065 xq12 h11078 xq14 a11098 u11099 h11100 h11101 h13828 h13829 a14084 h14085 h14330 h14575 w14820 w14821 r14822 r14823 r14824 h14825 h14845 h14846 h14866 ⊢) <;> first | omega | ((try simp (disch := omega) only [zb] at u11064 xq2 h11065 xq12 h11078 xq14 a11098 u11099 h11100 h11101 h13828 h13829 a14084 h14085 h14330 h14575 w14820 w14821 r14822 r14823 r14824 h14825 h14845 h14846 h14866 ⊢) <;> omega)) ) ?_
                            intro q30 hqq30
                            obtain ⟨cq30, gq30, xq30⟩ := hqq30
                            have fq30 := fr_trans fs11 gq30 rfl
                            unfold fX9_pair_264
                            refine sw_ite (fun h14911 => ?_) (fun h14911 => ?_)
                            · have w14912 := (gq30.2.2 _ _ t_p0 0 rfl).1
                              have w14913 : mm_I s11 p0 0 = mm_I q2.2 p0 0 := by rw [← es11]; exact rd_k t_p0 tq5 (by decide)
                              have w14915 := rdA_fr (k := 9) (j := 0) gq30 cs11 t_p0 (κ' := 59) rfl rfl rfl
                              have w14917 : rdA s11 p0 9 0 = mm_I s11 q17 ((0 : Int32)).toNatClampNeg := rdA_eq eq17
                              have w14916 : rdA s11 p0 9 0 = rdA q2.2 p0 9 0 := by rw [← es11]; exact rdA_k cq2 t_p0 (κ' := 59) rfl tq5 (by decide)
                              have w14918 := rdA_fr (k := 9) (j := 0) gq2 c0 t_p0 (κ' := 59) rfl rfl rfl
                              have w14920 := rdA_fr (k := 10) (j := 0) gq30 cs11 t_p0 (κ' := 60) rfl rfl rfl
                              have w14921 : rdA s11 p0 10 0 = rdA q2.2 p0 10 0 := by rw [← es11]; exact rdA_j (by decide)
                              have w14923 : rdA q2.2 p0 10 0 = mm_I q2.2 q5 ((0 : Int32)).toNatClampNeg := rdA_eq eq5
                              have w14922 := rdA_fr (k := 10) (j := 0) gq2 c0 t_p0 (κ' := 60) rfl rfl rfl
                              have w14925 := rdA_fr (k := 10) (j := 1) gq30 cs11 t_p0 (κ' := 60) rfl rfl rfl
                              have w14926 : rdA s11 p0 10 1 = -1 := by rw [← es11]; exact rdA_self eq5
                              have w14927 := rdA_fr (k := 9) (j := 1) gq30 cs11 t_p0 (κ' := 59) rfl rfl rfl
                              have w14929 : rdA s11 p0 9 1 = mm_I s11 q17 ((1 : Int32)).toNatClampNeg := rdA_eq eq17
                              have w14928 : rdA s11 p0 9 1 = rdA q2.2 p0 9 1 := by rw [← es11]; exact rdA_k cq2 t_p0 (κ' := 59) rfl tq5 (by decide)
                              have w14930 := rdA_fr (k := 9) (j := 1) gq2 c0 t_p0 (κ' := 59) rfl rfl rfl
                              have w14934 : rdA q2.2 p0 10 1 = mm_I q2.2 q5 ((1 : Int32)).toNatClampNeg := rdA_eq eq5
                              have w14933 := rdA_fr (k := 10) (j := 1) gq2 c0 t_p0 (κ' := 60) rfl rfl rfl
                              have a14935 := zi_and p2 8 (by decide)
                              exact sw_some ⟨cq30, fq30, (by (try simp only [zp, zo, zq] at u11064 xq2 h11065 xq12 h11078 xq14 a11098 u11099 h11100 h11101 h13828 h13829 a14084 h14085 h14330 h14575 w14820 w14821 r14822 r14823 r14824 h14825 h14845 h14846 h14866 h14911 w14912 w14913 w14915 w14917 w14916 w14918 w14920 w14921 w14923 w14922 w14925 w14926 w14927 w14929 w14928 w14930 w14934 w14933 a14935 ⊢) <;> (try simp only [zz, Int32.reduceToInt, ne_eq] at u11064 xq2 h11065 xq12 h11078 xq14 a11098 u11099 h11100 h11101 h13828 h13829 a14084 h14085 h14330 h14575 w14820 w14821 r14822 r14823 r14824 h14825 h14845 h14846 h14866 h14911 w14912 w14913 w14915 w14917 w14916 w14918 w14920 w14921 w14923 w14922 w14925 w14926 w14927 w14929 w14928 w14930 w14934 w14933 a14935 ⊢) <;> (try simp (disch := omega) only [zb] at u11064 xq2 h11065 xq12 h11078 xq14 a11098 u11099 h11100 h11101 h13828 h13829 a14084 h14085 h14330 h14575 w14820 w14821 r14822 r14823 r14824 h14825 h14845 h14846 h14866 h14911 w14912 w14913 w14915 w14917 w14916 w14918 w14920 w14921 w14923 w14922 w14925 w14926 w14927 w14929 w14928 w14930 w14934 w14933 a14935 ⊢) <;> first | omega | ((try simp (disch := omega) only [zb] at u11064 xq2 h11065 xq12 h11078 xq14 a11098 u11099 h11100 h11101 h13828 h13829 a14084 h14085 h14330 h14575 w14820 w14821 r14822 r14823 r14824 h14825 h14845 h14846 h14866 h14911 w14912 w14913 w14915 w14917 w14916 w14918 w14920 w14921 w14923 w14922 w14925 w14926 w14927 w14929 w14928 w14930 w14934 w14933 a14935 ⊢) <;> omega))⟩
                            · refine sw_sh (ci_sh cq30 t_p0 rfl) ?_
                              refine sw_on (sX9_put cq30 t_p0 (by (try simp only [zp, zo, zq] at u11064 xq2 h11065 xq12 h11078 xq14 a11098 u11099 h11100 h11101 h13828 h13829 a14084 h14085 h14330 h14575 w14820 w14821 r14822 r14823 r14824 h14825 h14845 h14846 h14866 h14911 ⊢) <;> (try simp only [zz, Int32.reduceToInt, ne_eq] at u11064 xq2 h11065 xq12 h11078 xq14 a11098 u11099 h11100 h11101 h13828 h13829 a14084 h14085 h14330 h14575 w14820 w14821 r14822 r14823 r14824 h14825 h14845 h14846 h14866 h14911 ⊢) <;> (try simp (disch := omega) only [zb] at u11064 xq2 h11065 xq12 h11078 xq14 a11098 u11099 h11100 h11101 h13828 h13829 a14084 h14085 h14330 h14575 w14820 w14821 r14822 r14823 r14824 h14825 h14845 h14846 h14866 h14911 ⊢) <;> first | omega | ((try simp (disch := omega) only [zb] at u11064 xq2 h11065 xq12 h11078 xq14 a11098 u11099 h11100 h11101 h13828 h13829 a14084 h14085 h14330 h14575 w14820 w14821 r14822 r14823 r14824 h14825 h14845 h14846 h14866 h14911 ⊢) <;> omega)) ) ?_
                              intro q28 hqq28
                              obtain ⟨cq28, gq28, xq28⟩ := hqq28
                              have fq28 := fr_trans fq30 gq28 rfl
                              have w14936 := (gq28.2.2 _ _ t_p0 0 rfl).1
                              have w14937 := (gq30.2.2 _ _ t_p0 0 rfl).1
                              have w14938 : mm_I s11 p0 0 = mm_I q2.2 p0 0 := by rw [← es11]; exact rd_k t_p0 tq5 (by decide)
                              have w14940 := rdA_fr (k := 9) (j := 0) gq28 cq30 t_p0 (κ' := 59) rfl rfl rfl
                              have w14941 := rdA_fr (k := 9) (j := 0) gq30 cs11 t_p0 (κ' := 59) rfl rfl rfl
                              have w14943 : rdA s11 p0 9 0 = mm_I s11 q17 ((0 : Int32)).toNatClampNeg := rdA_eq eq17
                              have w14942 : rdA s11 p0 9 0 = rdA q2.2 p0 9 0 := by rw [← es11]; exact rdA_k cq2 t_p0 (κ' := 59) rfl tq5 (by decide)
                              have w14944 := rdA_fr (k := 9) (j := 0) gq2 c0 t_p0 (κ' := 59) rfl rfl rfl
                              have w14946 := rdA_fr (k := 10) (j := 0) gq28 cq30 t_p0 (κ' := 60) rfl rfl rfl
                              have w14947 := rdA_fr (k := 10) (j := 0) gq30 cs11 t_p0 (κ' := 60) rfl rfl rfl
                              have w14948 : rdA s11 p0 10 0 = rdA q2.2 p0 10 0 := by rw [← es11]; exact rdA_j (by decide)
                              have w14950 : rdA q2.2 p0 10 0 = mm_I q2.2 q5 ((0 : Int32)).toNatClampNeg := rdA_eq eq5
                              have w14949 := rdA_fr (k := 10) (j := 0) gq2 c0 t_p0 (κ' := 60) rfl rfl rfl
                              have w14952 := rdA_fr (k := 10) (j := 1) gq28 cq30 t_p0 (κ' := 60) rfl rfl rfl
                              have w14953 := rdA_fr (k := 10) (j := 1) gq30 cs11 t_p0 (κ' := 60) rfl rfl rfl
                              have w14954 : rdA s11 p0 10 1 = -1 := by rw [← es11]; exact rdA_self eq5
                              have w14955 := rdA_fr (k := 9) (j := 1) gq28 cq30 t_p0 (κ' := 59) rfl rfl rfl
                              have w14956 := rdA_fr (k := 9) (j := 1) gq30 cs11 t_p0 (κ' := 59) rfl rfl rfl
                              have w14958 : rdA s11 p0 9 1 = mm_I s11 q17 ((1 : Int32)).toNatClampNeg := rdA_eq eq17
                              have w14957 : rdA s11 p0 9 1 = rdA q2.2 p0 9 1 := by rw [← es11]; exact rdA_k cq2 t_p0 (κ' := 59) rfl tq5 (by decide)
                              have w14959 := rdA_fr (k := 9) (j := 1) gq2 c0 t_p0 (κ' := 59) rfl rfl rfl
                              have w14963 : rdA q2.2 p0 10 1 = mm_I q2.2 q5 ((1 : Int32)).toNatClampNeg := rdA_eq eq5
                              have w14962 := rdA_fr (k := 10) (j := 1) gq2 c0 t_p0 (κ' := 60) rfl rfl rfl
                              have a14964 := zi_and p2 8 (by decide)
                              exact sw_some ⟨cq28, fq28, (by (try simp only [zp, zo, zq] at u11064 xq2 h11065 xq12 h11078 xq14 a11098 u11099 h11100 h11101 h13828 h13829 a14084 h14085 h14330 h14575 w14820 w14821 r14822 r14823 r14824 h14825 h14845 h14846 h14866 h14911 w14936 w14937 w14938 w14940 w14941 w14943 w14942 w14944 w14946 w14947 w14948 w14950 w14949 w14952 w14953 w14954 w14955 w14956 w14958 w14957 w14959 w14963 w14962 a14964 ⊢) <;> (try simp only [zz, Int32.reduceToInt, ne_eq] at u11064 xq2 h11065 xq12 h11078 xq14 a11098 u11099 h11100 h11101 h13828 h13829 a14084 h14085 h14330 h14575 w14820 w14821 r14822 r14823 r14824 h14825 h14845 h14846 h14866 h14911 w14936 w14937 w14938 w14940 w14941 w14943 w14942 w14944 w14946 w14947 w14948 w14950 w14949 w14952 w14953 w14954 w14955 w14956 w14958 w14957 w14959 w14963 w14962 a14964 ⊢) <;> (try simp (disch := omega) only [zb] at u11064 xq2 h11065 xq12 h11078 xq14 a11098 u11099 h11100 h11101 h13828 h13829 a14084 h14085 h14330 h14575 w14820 w14821 r14822 r14823 r14824 h14825 h14845 h14846 h14866 h14911 w14936 w14937 w14938 w14940 w14941 w14943 w14942 w14944 w14946 w14947 w14948 w14950 w14949 w14952 w14953 w14954 w14955 w14956 w14958 w14957 w14959 w14963 w14962 a14964 ⊢) <;> first | omega | ((try simp (disch := omega) only [zb] at u11064 xq2 h11065 xq12 h11078 xq14 a11098 u11099 h11100 h11101 h13828 h13829 a14084 h14085 h14330 h14575 w14820 w14821 r14822 r14823 r14824 h14825 h14845 h14846 h14866 h14911 w14936 w14937 w14938 w14940 w14941 w14943 w14942 w14944 w14946 w14947 w14948 w14950 w14949 w14952 w14953 w14954 w14955 w14956 w14958 w14957 w14959 w14963 w14962 a14964 ⊢) <;> omega))⟩
                      · unfold fX9_pair_250
                        refine sw_ite (fun h14965 => ?_) (fun h14965 => ?_)
                        · unfold fX9_pair_264
                          refine sw_ite (fun h14966 => ?_) (fun h14966 => ?_)
                          · have w14967 : mm_I s11 p0 0 = mm_I q2.2 p0 0 := by rw [← es11]; exact rd_k t_p0 tq5 (by decide)
                            have w14970 : rdA s11 p0 9 0 = mm_I s11 q17 ((0 : Int32)).toNatClampNeg := rdA_eq eq17
                            have w14969 : rdA s11 p0 9 0 = rdA q2.2 p0 9 0 := by rw [← es11]; exact rdA_k cq2 t_p0 (κ' := 59) rfl tq5 (by decide)
                            have w14971 := rdA_fr (k := 9) (j := 0) gq2 c0 t_p0 (κ' := 59) rfl rfl rfl
                            have w14973 : rdA s11 p0 10 0 = rdA q2.2 p0 10 0 := by rw [← es11]; exact rdA_j (by decide)
                            have w14975 : rdA q2.2 p0 10 0 = mm_I q2.2 q5 ((0 : Int32)).toNatClampNeg := rdA_eq eq5
                            have w14974 := rdA_fr (k := 10) (j := 0) gq2 c0 t_p0 (κ' := 60) rfl rfl rfl
                            have w14977 : rdA s11 p0 10 1 = -1 := by rw [← es11]; exact rdA_self eq5
                            have w14979 : rdA s11 p0 9 1 = mm_I s11 q17 ((1 : Int32)).toNatClampNeg := rdA_eq eq17
                            have w14978 : rdA s11 p0 9 1 = rdA q2.2 p0 9 1 := by rw [← es11]; exact rdA_k cq2 t_p0 (κ' := 59) rfl tq5 (by decide)
                            have w14980 := rdA_fr (k := 9) (j := 1) gq2 c0 t_p0 (κ' := 59) rfl rfl rfl
                            have w14984 : rdA q2.2 p0 10 1 = mm_I q2.2 q5 ((1 : Int32)).toNatClampNeg := rdA_eq eq5
                            have w14983 := rdA_fr (k := 10) (j := 1) gq2 c0 t_p0 (κ' := 60) rfl rfl rfl
                            have a14985 := zi_and p2 8 (by decide)
                            exact sw_some ⟨cs11, fs11, (by (try simp only [zp, zo, zq] at u11064 xq2 h11065 xq12 h11078 xq14 a11098 u11099 h11100 h11101 h13828 h13829 a14084 h14085 h14330 h14575 w14820 w14821 r14822 r14823 r14824 h14825 h14845 h14965 h14966 w14967 w14970 w14969 w14971 w14973 w14975 w14974 w14977 w14979 w14978 w14980 w14984 w14983 a14985 ⊢) <;> (try simp only [zz, Int32.reduceToInt, ne_eq] at u11064 xq2 h11065 xq12 h11078 xq14 a11098 u11099 h11100 h11101 h13828 h13829 a14084 h14085 h14330 h14575 w14820 w14821 r14822 r14823 r14824 h14825 h14845 h14965 h14966 w14967 w14970 w14969 w14971 w14973 w14975 w14974 w14977 w14979 w14978 w14980 w14984 w14983 a14985 ⊢) <;> (try simp (disch := omega) only [zb] at u11064 xq2 h11065 xq12 h11078 xq14 a11098 u11099 h11100 h11101 h13828 h13829 a14084 h14085 h14330 h14575 w14820 w14821 r14822 r14823 r14824 h14825 h14845 h14965 h14966 w14967 w14970 w14969 w14971 w14973 w14975 w14974 w14977 w14979 w14978 w14980 w14984 w14983 a14985 ⊢) <;> first | omega | ((try simp (disch := omega) only [zb] at u11064 xq2 h11065 xq12 h11078 xq14 a11098 u11099 h11100 h11101 h13828 h13829 a14084 h14085 h14330 h14575 w14820 w14821 r14822 r14823 r14824 h14825 h14845 h14965 h14966 w14967 w14970 w14969 w14971 w14973 w14975 w14974 w14977 w14979 w14978 w14980 w14984 w14983 a14985 ⊢) <;> omega))⟩
                          · refine sw_sh (ci_sh cs11 t_p0 rfl) ?_
                            refine sw_on (sX9_put cs11 t_p0 (by (try simp only [zp, zo, zq] at u11064 xq2 h11065 xq12 h11078 xq14 a11098 u11099 h11100 h11101 h13828 h13829 a14084 h14085 h14330 h14575 w14820 w14821 r14822 r14823 r14824 h14825 h14845 h14965 h14966 ⊢) <;> (try simp only [zz, Int32.reduceToInt, ne_eq] at u11064 xq2 h11065 xq12 h11078 xq14 a11098 u11099 h11100 h11101 h13828 h13829 a14084 h14085 h14330 h14575 w14820 w14821 r14822 r14823 r14824 h14825 h14845 h14965 h14966 ⊢) <;> (try simp (disch := omega) only [zb] at u11064 xq2 h11065 xq12 h11078 xq14 a11098 u11099 h11100 h11101 h13828 h13829 a14084 h14085 h14330 h14575 w14820 w14821 r14822 r14823 r14824 h14825 h14845 h14965 h14966 ⊢) <;> first | omega | ((try simp (disch := omega) only [zb] at u11064 xq2 h11065 xq12 h11078 xq14 a11098 u11099 h11100 h11101 h13828 h13829 a14084 h14085 h14330 h14575 w14820 w14821 r14822 r14823 r14824 h14825 h14845 h14965 h14966 ⊢) <;> omega)) ) ?_
                            intro q28 hqq28
                            obtain ⟨cq28, gq28, xq28⟩ := hqq28
                            have fq28 := fr_trans fs11 gq28 rfl
                            have w14986 := (gq28.2.2 _ _ t_p0 0 rfl).1
                            have w14987 : mm_I s11 p0 0 = mm_I q2.2 p0 0 := by rw [← es11]; exact rd_k t_p0 tq5 (by decide)
                            have w14989 := rdA_fr (k := 9) (j := 0) gq28 cs11 t_p0 (κ' := 59) rfl rfl rfl
                            have w14991 : rdA s11 p0 9 0 = mm_I s11 q17 ((0 : Int32)).toNatClampNeg := rdA_eq eq17
                            have w14990 : rdA s11 p0 9 0 = rdA q2.2 p0 9 0 := by rw [← es11]; exact rdA_k cq2 t_p0 (κ' := 59) rfl tq5 (by decide)
                            have w14992 := rdA_fr (k := 9) (j := 0) gq2 c0 t_p0 (κ' := 59) rfl rfl rfl
                            have w14994 := rdA_fr (k := 10) (j := 0) gq28 cs11 t_p0 (κ' := 60) rfl rfl rfl
                            have w14995 : rdA s11 p0 10 0 = rdA q2.2 p0 10 0 := by rw [← es11]; exact rdA_j (by decide)
                            have w14997 : rdA q2.2 p0 10 0 = mm_I q2.2 q5 ((0 : Int32)).toNatClampNeg := rdA_eq eq5
                            have w14996 := rdA_fr (k := 10) (j := 0) gq2 c0 t_p0 (κ' := 60) rfl rfl rfl
                            have w14999 := rdA_fr (k := 10) (j := 1) gq28 cs11 t_p0 (κ' := 60) rfl rfl rfl
                            have w15000 : rdA s11 p0 10 1 = -1 := by rw [← es11]; exact rdA_self eq5
                            have w15001 := rdA_fr (k := 9) (j := 1) gq28 cs11 t_p0 (κ' := 59) rfl rfl rfl
                            have w15003 : rdA s11 p0 9 1 = mm_I s11 q17 ((1 : Int32)).toNatClampNeg := rdA_eq eq17
                            have w15002 : rdA s11 p0 9 1 = rdA q2.2 p0 9 1 := by rw [← es11]; exact rdA_k cq2 t_p0 (κ' := 59) rfl tq5 (by decide)
                            have w15004 := rdA_fr (k := 9) (j := 1) gq2 c0 t_p0 (κ' := 59) rfl rfl rfl
                            have w15008 : rdA q2.2 p0 10 1 = mm_I q2.2 q5 ((1 : Int32)).toNatClampNeg := rdA_eq eq5
                            have w15007 := rdA_fr (k := 10) (j := 1) gq2 c0 t_p0 (κ' := 60) rfl rfl rfl
                            have a15009 := zi_and p2 8 (by decide)
                            exact sw_some ⟨cq28, fq28, (by (try simp only [zp, zo, zq] at u11064 xq2 h11065 xq12 h11078 xq14 a11098 u11099 h11100 h11101 h13828 h13829 a14084 h14085 h14330 h14575 w14820 w14821 r14822 r14823 r14824 h14825 h14845 h14965 h14966 w14986 w14987 w14989 w14991 w14990 w14992 w14994 w14995 w14997 w14996 w14999 w15000 w15001 w15003 w15002 w15004 w15008 w15007 a15009 ⊢) <;> (try simp only [zz, Int32.reduceToInt, ne_eq] at u11064 xq2 h11065 xq12 h11078 xq14 a11098 u11099 h11100 h11101 h13828 h13829 a14084 h14085 h14330 h14575 w14820 w14821 r14822 r14823 r14824 h14825 h14845 h14965 h14966 w14986 w14987 w14989 w14991 w14990 w14992 w14994 w14995 w14997 w14996 w14999 w15000 w15001 w15003 w15002 w15004 w15008 w15007 a15009 ⊢) <;> (try simp (disch := omega) only [zb] at u11064 xq2 h11065 xq12 h11078 xq14 a11098 u11099 h11100 h11101 h13828 h13829 a14084 h14085 h14330 h14575 w14820 w14821 r14822 r14823 r14824 h14825 h14845 h14965 h14966 w14986 w14987 w14989 w14991 w14990 w14992 w14994 w14995 w14997 w14996 w14999 w15000 w15001 w15003 w15002 w15004 w15008 w15007 a15009 ⊢) <;> first | omega | ((try simp (disch := omega) only [zb] at u11064 xq2 h11065 xq12 h11078 xq14 a11098 u11099 h11100 h11101 h13828 h13829 a14084 h14085 h14330 h14575 w14820 w14821 r14822 r14823 r14824 h14825 h14845 h14965 h14966 w14986 w14987 w14989 w14991 w14990 w14992 w14994 w14995 w14997 w14996 w14999 w15000 w15001 w15003 w15002 w15004 w15008 w15007 a15009 ⊢) <;> omega))⟩
                        · refine sw_sh (ci_sh cs11 t_p0 rfl) ?_
                          refine sw_on (sX9_put cs11 t_p0 (by (try simp only [zp, zo, zq] at u11064 xq2 h11065 xq12 h11078 xq14 a11098 u11099 h11100 h11101 h13828 h13829 a14084 h14085 h14330 h14575 w14820 w14821 r14822 r14823 r14824 h14825 h14845 h14965 ⊢) <;> (try simp only [zz, Int32.reduceToInt, ne_eq] at u11064 xq2 h11065 xq12 h11078 xq14 a11098 u11099 h11100 h11101 h13828 h13829 a14084 h14085 h14330 h14575 w14820 w14821 r14822 r14823 r14824 h14825 h14845 h14965 ⊢) <;> (try simp (disch := omega) only [zb] at u11064 xq2 h11065 xq12 h11078 xq14 a11098 u11099 h11100 h11101 h13828 h13829 a14084 h14085 h14330 h14575 w14820 w14821 r14822 r14823 r14824 h14825 h14845 h14965 ⊢) <;> first | omega | ((try simp (disch := omega) only [zb] at u11064 xq2 h11065 xq12 h11078 xq14 a11098 u11099 h11100 h11101 h13828 h13829 a14084 h14085 h14330 h14575 w14820 w14821 r14822 r14823 r14824 h14825 h14845 h14965 ⊢) <;> omega)) ) ?_
                          intro q30 hqq30
                          obtain ⟨cq30, gq30, xq30⟩ := hqq30
                          have fq30 := fr_trans fs11 gq30 rfl
                          unfold fX9_pair_264
                          refine sw_ite (fun h15010 => ?_) (fun h15010 => ?_)
                          · have w15011 := (gq30.2.2 _ _ t_p0 0 rfl).1
                            have w15012 : mm_I s11 p0 0 = mm_I q2.2 p0 0 := by rw [← es11]; exact rd_k t_p0 tq5 (by decide)
                            have w15014 := rdA_fr (k := 9) (j := 0) gq30 cs11 t_p0 (κ' := 59) rfl rfl rfl
                            have w15016 : rdA s11 p0 9 0 = mm_I s11 q17 ((0 : Int32)).toNatClampNeg := rdA_eq eq17
                            have w15015 : rdA s11 p0 9 0 = rdA q2.2 p0 9 0 := by rw [← es11]; exact rdA_k cq2 t_p0 (κ' := 59) rfl tq5 (by decide)
                            have w15017 := rdA_fr (k := 9) (j := 0) gq2 c0 t_p0 (κ' := 59) rfl rfl rfl
                            have w15019 := rdA_fr (k := 10) (j := 0) gq30 cs11 t_p0 (κ' := 60) rfl rfl rfl
                            have w15020 : rdA s11 p0 10 0 = rdA q2.2 p0 10 0 := by rw [← es11]; exact rdA_j (by decide)
                            have w15022 : rdA q2.2 p0 10 0 = mm_I q2.2 q5 ((0 : Int32)).toNatClampNeg := rdA_eq eq5
                            have w15021 := rdA_fr (k := 10) (j := 0) gq2 c0 t_p0 (κ' := 60) rfl rfl rfl
                            have w15024 := rdA_fr (k := 10) (j := 1) gq30 cs11 t_p0 (κ' := 60) rfl rfl rfl
                            have w15025 : rdA s11 p0 10 1 = -1 := by rw [← es11]; exact rdA_self eq5
                            have w15026 := rdA_fr (k := 9) (j := 1) gq30 cs11 t_p0 (κ' := 59) rfl rfl rfl
                            have w15028 : rdA s11 p0 9 1 = mm_I s11 q17 ((1 : Int32)).toNatClampNeg := rdA_eq eq17
                            have w15027 : rdA s11 p0 9 1 = rdA q2.2 p0 9 1 := by rw [← es11]; exact rdA_k cq2 t_p0 (κ' := 59) rfl tq5 (by decide)
                            have w15029 := rdA_fr (k := 9) (j := 1) gq2 c0 t_p0 (κ' := 59) rfl rfl rfl
                            have w15033 : rdA q2.2 p0 10 1 = mm_I q2.2 q5 ((1 : Int32)).toNatClampNeg := rdA_eq eq5
                            have w15032 := rdA_fr (k := 10) (j := 1) gq2 c0 t_p0 (κ' := 60) rfl rfl rfl
                            have a15034 := zi_and p2 8 (by decide)
                            exact sw_some ⟨cq30, fq30, (by (try simp only [zp, zo, zq] at u11064 xq2 h11065 xq12 h11078 xq14 a11098 u11099 h11100 h11101 h13828 h13829 a14084 h14085 h14330 h14575 w14820 w14821 r14822 r14823 r14824 h14825 h14845 h14965 h15010 w15011 w15012 w15014 w15016 w15015 w15017 w15019 w15020 w15022 w15021 w15024 w15025 w15026 w15028 w15027 w15029 w15033 w15032 a15034 ⊢) <;> (try simp only [zz, Int32.reduceToInt, ne_eq] at u11064 xq2 h11065 xq12 h11078 xq14 a11098 u11099 h11100 h11101 h13828 h13829 a14084 h14085 h14330 h14575 w14820 w14821 r14822 r14823 r14824 h14825 h14845 h14965 h15010 w15011 w15012 w15014 w15016 w15015 w15017 w15019 w15020 w15022 w15021 w15024 w15025 w15026 w15028 w15027 w15029 w15033 w15032 a15034 ⊢) <;> (try simp (disch := omega) only [zb] at u11064 xq2 h11065 xq12 h11078 xq14 a11098 u11099 h11100 h11101 h13828 h13829 a14084 h14085 h14330 h14575 w14820 w14821 r14822 r14823 r14824 h14825 h14845 h14965 h15010 w15011 w15012 w15014 w15016 w15015 w15017 w15019 w15020 w15022 w15021 w15024 w15025 w15026 w15028 w15027 w15029 w15033 w15032 a15034 ⊢) <;> first | omega | ((try simp (disch := omega) only [zb] at u11064 xq2 h11065 xq12 h11078 xq14 a11098 u11099 h11100 h11101 h13828 h13829 a14084 h14085 h14330 h14575 w14820 w14821 r14822 r14823 r14824 h14825 h14845 h14965 h15010 w15011 w15012 w15014 w15016 w15015 w15017 w15019 w15020 w15022 w15021 w15024 w15025 w15026 w15028 w15027 w15029 w15033 w15032 a15034 ⊢) <;> omega))⟩
                          · refine sw_sh (ci_sh cq30 t_p0 rfl) ?_
                            refine sw_on (sX9_put cq30 t_p0 (by (try simp only [zp, zo, zq] at u11064 xq2 h11065 xq12 h11078 xq14 a11098 u11099 h11100 h11101 h13828 h13829 a14084 h14085 h14330 h14575 w14820 w14821 r14822 r14823 r14824 h14825 h14845 h14965 h15010 ⊢) <;> (try simp only [zz, Int32.reduceToInt, ne_eq] at u11064 xq2 h11065 xq12 h11078 xq14 a11098 u11099 h11100 h11101 h13828 h13829 a14084 h14085 h14330 h14575 w14820 w14821 r14822 r14823 r14824 h14825 h14845 h14965 h15010 ⊢) <;> (try simp (disch := omega) only [zb] at u11064 xq2 h11065 xq12 h11078 xq14 a11098 u11099 h11100 h11101 h13828 h13829 a14084 h14085 h14330 h14575 w14820 w14821 r14822 r14823 r14824 h14825 h14845 h14965 h15010 ⊢) <;> first | omega | ((try simp (disch := omega) only [zb] at u11064 xq2 h11065 xq12 h11078 xq14 a11098 u11099 h11100 h11101 h13828 h13829 a14084 h14085 h14330 h14575 w14820 w14821 r14822 r14823 r14824 h14825 h14845 h14965 h15010 ⊢) <;> omega)) ) ?_
                            intro q28 hqq28
                            obtain ⟨cq28, gq28, xq28⟩ := hqq28
                            have fq28 := fr_trans fq30 gq28 rfl
                            have w15035 := (gq28.2.2 _ _ t_p0 0 rfl).1
                            have w15036 := (gq30.2.2 _ _ t_p0 0 rfl).1
                            have w15037 : mm_I s11 p0 0 = mm_I q2.2 p0 0 := by rw [← es11]; exact rd_k t_p0 tq5 (by decide)
                            have w15039 := rdA_fr (k := 9) (j := 0) gq28 cq30 t_p0 (κ' := 59) rfl rfl rfl
                            have w15040 := rdA_fr (k := 9) (j := 0) gq30 cs11 t_p0 (κ' := 59) rfl rfl rfl
                            have w15042 : rdA s11 p0 9 0 = mm_I s11 q17 ((0 : Int32)).toNatClampNeg := rdA_eq eq17
                            have w15041 : rdA s11 p0 9 0 = rdA q2.2 p0 9 0 := by rw [← es11]; exact rdA_k cq2 t_p0 (κ' := 59) rfl tq5 (by decide)
                            have w15043 := rdA_fr (k := 9) (j := 0) gq2 c0 t_p0 (κ' := 59) rfl rfl rfl
                            have w15045 := rdA_fr (k := 10) (j := 0) gq28 cq30 t_p0 (κ' := 60) rfl rfl rfl
                            have w15046 := rdA_fr (k := 10) (j := 0) gq30 cs11 t_p0 (κ' := 60) rfl rfl rfl
                            have w15047 : rdA s11 p0 10 0 = rdA q2.2 p0 10 0 := by rw [← es11]; exact rdA_j (by decide)
                            have w15049 : rdA q2.2 p0 10 0 = mm_I q2.2 q5 ((0 : Int32)).toNatClampNeg := rdA_eq eq5
                            have w15048 := rdA_fr (k := 10) (j := 0) gq2 c0 t_p0 (κ' := 60) rfl rfl rfl
                            have w15051 := rdA_fr (k := 10) (j := 1) gq28 cq30 t_p0 (κ' := 60) rfl rfl rfl
                            have w15052 := rdA_fr (k := 10) (j := 1) gq30 cs11 t_p0 (κ' := 60) rfl rfl rfl
                            have w15053 : rdA s11 p0 10 1 = -1 := by rw [← es11]; exact rdA_self eq5
                            have w15054 := rdA_fr (k := 9) (j := 1) gq28 cq30 t_p0 (κ' := 59) rfl rfl rfl
                            have w15055 := rdA_fr (k := 9) (j := 1) gq30 cs11 t_p0 (κ' := 59) rfl rfl rfl
                            have w15057 : rdA s11 p0 9 1 = mm_I s11 q17 ((1 : Int32)).toNatClampNeg := rdA_eq eq17
                            have w15056 : rdA s11 p0 9 1 = rdA q2.2 p0 9 1 := by rw [← es11]; exact rdA_k cq2 t_p0 (κ' := 59) rfl tq5 (by decide)
                            have w15058 := rdA_fr (k := 9) (j := 1) gq2 c0 t_p0 (κ' := 59) rfl rfl rfl
                            have w15062 : rdA q2.2 p0 10 1 = mm_I q2.2 q5 ((1 : Int32)).toNatClampNeg := rdA_eq eq5
                            have w15061 := rdA_fr (k := 10) (j := 1) gq2 c0 t_p0 (κ' := 60) rfl rfl rfl
                            have a15063 := zi_and p2 8 (by decide)
                            exact sw_some ⟨cq28, fq28, (by (try simp only [zp, zo, zq] at u11064 xq2 h11065 xq12 h11078 xq14 a11098 u11099 h11100 h11101 h13828 h13829 a14084 h14085 h14330 h14575 w14820 w14821 r14822 r14823 r14824 h14825 h14845 h14965 h15010 w15035 w15036 w15037 w15039 w15040 w15042 w15041 w15043 w15045 w15046 w15047 w15049 w15048 w15051 w15052 w15053 w15054 w15055 w15057 w15056 w15058 w15062 w15061 a15063 ⊢) <;> (try simp only [zz, Int32.reduceToInt, ne_eq] at u11064 xq2 h11065 xq12 h11078 xq14 a11098 u11099 h11100 h11101 h13828 h13829 a14084 h14085 h14330 h14575 w14820 w14821 r14822 r14823 r14824 h14825 h14845 h14965 h15010 w15035 w15036 w15037 w15039 w15040 w15042 w15041 w15043 w15045 w15046 w15047 w15049 w15048 w15051 w15052 w15053 w15054 w15055 w15057 w15056 w15058 w15062 w15061 a15063 ⊢) <;> (try simp (disch := omega) only [zb] at u11064 xq2 h11065 xq12 h11078 xq14 a11098 u11099 h11100 h11101 h13828 h13829 a14084 h14085 h14330 h14575 w14820 w14821 r14822 r14823 r14824 h14825 h14845 h14965 h15010 w15035 w15036 w15037 w15039 w15040 w15042 w15041 w15043 w15045 w15046 w15047 w15049 w15048 w15051 w15052 w15053 w15054 w15055 w15057 w15056 w15058 w15062 w15061 a15063 ⊢) <;> first | omega | ((try simp (disch := omega) only [zb] at u11064 xq2 h11065 xq12 h11078 xq14 a11098 u11099 h11100 h11101 h13828 h13829 a14084 h14085 h14330 h14575 w14820 w14821 r14822 r14823 r14824 h14825 h14845 h14965 h15010 w15035 w15036 w15037 w15039 w15040 w15042 w15041 w15043 w15045 w15046 w15047 w15049 w15048 w15051 w15052 w15053 w15054 w15055 w15057 w15056 w15058 w15062 w15061 a15063 ⊢) <;> omega))⟩
          · refine sw_ite (fun h15064 => ?_) (fun h15064 => ?_)
            · unfold fX9_pair_228
              have w15065 : mm_I s11 q17 ((1 : Int32).toNatClampNeg) = mm_I q2.2 q17 ((1 : Int32).toNatClampNeg) := by rw [← es11]; exact rd_k tq17 tq5 (by decide)
              have w15066 := (gq2.2.2 _ _ tq17 ((1 : Int32).toNatClampNeg) rfl).1
              have r15067 := ci_rg c0 tq17 ((1 : Int32).toNatClampNeg) (lo := (-1)) (hi := 3) rfl
              have r15068 := ci_rg cq2 tq17 ((1 : Int32).toNatClampNeg) (lo := (-1)) (hi := 3) rfl
              have r15069 := ci_rg cs11 tq17 ((1 : Int32).toNatClampNeg) (lo := (-1)) (hi := 3) rfl
              refine sw_ite (fun h15070 => ?_) (fun h15070 => ?_)
              · have w15071 : mm_I s11 p0 0 = mm_I q2.2 p0 0 := by rw [← es11]; exact rd_k t_p0 tq5 (by decide)
                have w15074 : rdA s11 p0 9 0 = mm_I s11 q17 ((0 : Int32)).toNatClampNeg := rdA_eq eq17
                have w15073 : rdA s11 p0 9 0 = rdA q2.2 p0 9 0 := by rw [← es11]; exact rdA_k cq2 t_p0 (κ' := 59) rfl tq5 (by decide)
                have w15075 := rdA_fr (k := 9) (j := 0) gq2 c0 t_p0 (κ' := 59) rfl rfl rfl
                have w15077 : rdA s11 p0 10 0 = rdA q2.2 p0 10 0 := by rw [← es11]; exact rdA_j (by decide)
                have w15079 : rdA q2.2 p0 10 0 = mm_I q2.2 q5 ((0 : Int32)).toNatClampNeg := rdA_eq eq5
                have w15078 := rdA_fr (k := 10) (j := 0) gq2 c0 t_p0 (κ' := 60) rfl rfl rfl
                have w15081 : rdA s11 p0 10 1 = -1 := by rw [← es11]; exact rdA_self eq5
                have w15083 : rdA s11 p0 9 1 = mm_I s11 q17 ((1 : Int32)).toNatClampNeg := rdA_eq eq17
                have w15082 : rdA s11 p0 9 1 = rdA q2.2 p0 9 1 := by rw [← es11]; exact rdA_k cq2 t_p0 (κ' := 59) rfl tq5 (by decide)
                have w15084 := rdA_fr (k := 9) (j := 1) gq2 c0 t_p0 (κ' := 59) rfl rfl rfl
                have w15088 : rdA q2.2 p0 10 1 = mm_I q2.2 q5 ((1 : Int32)).toNatClampNeg := rdA_eq eq5
                have w15087 := rdA_fr (k := 10) (j := 1) gq2 c0 t_p0 (κ' := 60) rfl rfl rfl
                have a15089 := zi_and p3 127 (by decide)
                have a15090 := zi_and p2 8 (by decide)
                exact sw_some ⟨cs11, fs11, (by (try simp only [zp, zo, zq] at u11064 xq2 h11065 xq12 h11078 xq14 a11098 u11099 h11100 h11101 h13828 h15064 w15065 w15066 r15067 r15068 r15069 h15070 w15071 w15074 w15073 w15075 w15077 w15079 w15078 w15081 w15083 w15082 w15084 w15088 w15087 a15089 a15090 ⊢) <;> (try simp only [zz, Int32.reduceToInt, ne_eq] at u11064 xq2 h11065 xq12 h11078 xq14 a11098 u11099 h11100 h11101 h13828 h15064 w15065 w15066 r15067 r15068 r15069 h15070 w15071 w15074 w15073 w15075 w15077 w15079 w15078 w15081 w15083 w15082 w15084 w15088 w15087 a15089 a15090 ⊢) <;> (try simp (disch := omega) only [zb] at u11064 xq2 h11065 xq12 h11078 xq14 a11098 u11099 h11100 h11101 h13828 h15064 w15065 w15066 r15067 r15068 r15069 h15070 w15071 w15074 w15073 w15075 w15077 w15079 w15078 w15081 w15083 w15082 w15084 w15088 w15087 a15089 a15090 ⊢) <;> first | omega | ((try simp (disch := omega) only [zb] at u11064 xq2 h11065 xq12 h11078 xq14 a11098 u11099 h11100 h11101 h13828 h15064 w15065 w15066 r15067 r15068 r15069 h15070 w15071 w15074 w15073 w15075 w15077 w15079 w15078 w15081 w15083 w15082 w15084 w15088 w15087 a15089 a15090 ⊢) <;> omega))⟩
              · refine sw_ite (fun h15091 => ?_) (fun h15091 => ?_)
                · refine sw_ite (fun h15092 => ?_) (fun h15092 => ?_)
                  · have w15093 : mm_I s11 p0 0 = mm_I q2.2 p0 0 := by rw [← es11]; exact rd_k t_p0 tq5 (by decide)
                    have w15096 : rdA s11 p0 9 0 = mm_I s11 q17 ((0 : Int32)).toNatClampNeg := rdA_eq eq17
                    have w15095 : rdA s11 p0 9 0 = rdA q2.2 p0 9 0 := by rw [← es11]; exact rdA_k cq2 t_p0 (κ' := 59) rfl tq5 (by decide)
                    have w15097 := rdA_fr (k := 9) (j := 0) gq2 c0 t_p0 (κ' := 59) rfl rfl rfl
                    have w15099 : rdA s11 p0 10 0 = rdA q2.2 p0 10 0 := by rw [← es11]; exact rdA_j (by decide)
                    have w15101 : rdA q2.2 p0 10 0 = mm_I q2.2 q5 ((0 : Int32)).toNatClampNeg := rdA_eq eq5
                    have w15100 := rdA_fr (k := 10) (j := 0) gq2 c0 t_p0 (κ' := 60) rfl rfl rfl
                    have w15103 : rdA s11 p0 10 1 = -1 := by rw [← es11]; exact rdA_self eq5
                    have w15105 : rdA s11 p0 9 1 = mm_I s11 q17 ((1 : Int32)).toNatClampNeg := rdA_eq eq17
                    have w15104 : rdA s11 p0 9 1 = rdA q2.2 p0 9 1 := by rw [← es11]; exact rdA_k cq2 t_p0 (κ' := 59) rfl tq5 (by decide)
                    have w15106 := rdA_fr (k := 9) (j := 1) gq2 c0 t_p0 (κ' := 59) rfl rfl rfl
                    have w15110 : rdA q2.2 p0 10 1 = mm_I q2.2 q5 ((1 : Int32)).toNatClampNeg := rdA_eq eq5
                    have w15109 := rdA_fr (k := 10) (j := 1) gq2 c0 t_p0 (κ' := 60) rfl rfl rfl
                    have a15111 := zi_and p3 127 (by decide)
                    have a15112 := zi_and p2 8 (by decide)
                    exact sw_some ⟨cs11, fs11, (by (try simp only [zp, zo, zq] at u11064 xq2 h11065 xq12 h11078 xq14 a11098 u11099 h11100 h11101 h13828 h15064 w15065 w15066 r15067 r15068 r15069 h15070 h15091 h15092 w15093 w15096 w15095 w15097 w15099 w15101 w15100 w15103 w15105 w15104 w15106 w15110 w15109 a15111 a15112 ⊢) <;> (try simp only [zz, Int32.reduceToInt, ne_eq] at u11064 xq2 h11065 xq12 h11078 xq14 a11098 u11099 h11100 h11101 h13828 h15064 w15065 w15066 r15067 r15068 r15069 h15070 h15091 h15092 w15093 w15096 w15095 w15097 w15099 w15101 w15100 w15103 w15105 w15104 w15106 w15110 w15109 a15111 a15112 ⊢) <;> (try simp (disch := omega) only [zb] at u11064 xq2 h11065 xq12 h11078 xq14 a11098 u11099 h11100 h11101 h13828 h15064 w15065 w15066 r15067 r15068 r15069 h15070 h15091 h15092 w15093 w15096 w15095 w15097 w15099 w15101 w15100 w15103 w15105 w15104 w15106 w15110 w15109 a15111 a15112 ⊢) <;> first | omega | ((try simp (disch := omega) only [zb] at u11064 xq2 h11065 xq12 h11078 xq14 a11098 u11099 h11100 h11101 h13828 h15064 w15065 w15066 r15067 r15068 r15069 h15070 h15091 h15092 w15093 w15096 w15095 w15097 w15099 w15101 w15100 w15103 w15105 w15104 w15106 w15110 w15109 a15111 a15112 ⊢) <;> omega))⟩
                  · unfold fX9_pair_250
                    refine sw_ite (fun h15113 => ?_) (fun h15113 => ?_)
                    · unfold fX9_pair_264
                      refine sw_ite (fun h15114 => ?_) (fun h15114 => ?_)
                      · have w15115 : mm_I s11 p0 0 = mm_I q2.2 p0 0 := by rw [← es11]; exact rd_k t_p0 tq5 (by decide)
                        have w15118 : rdA s11 p0 9 0 = mm_I s11 q17 ((0 : Int32)).toNatClampNeg := rdA_eq eq17
                        have w15117 : rdA s11 p0 9 0 = rdA q2.2 p0 9 0 := by rw [← es11]; exact rdA_k cq2 t_p0 (κ' := 59) rfl tq5 (by decide)
                        have w15119 := rdA_fr (k := 9) (j := 0) gq2 c0 t_p0 (κ' := 59) rfl rfl rfl
                        have w15121 : rdA s11 p0 10 0 = rdA q2.2 p0 10 0 := by rw [← es11]; exact rdA_j (by decide)
                        have w15123 : rdA q2.2 p0 10 0 = mm_I q2.2 q5 ((0 : Int32)).toNatClampNeg := rdA_eq eq5
                        have w15122 := rdA_fr (k := 10) (j := 0) gq2 c0 t_p0 (κ' := 60) rfl rfl rfl
                        have w15125 : rdA s11 p0 10 1 = -1 := by rw [← es11]; exact rdA_self eq5
                        have w15127 : rdA s11 p0 9 1 = mm_I s11 q17 ((1 : Int32)).toNatClampNeg := rdA_eq eq17
                        have w15126 : rdA s11 p0 9 1 = rdA q2.2 p0 9 1 := by rw [← es11]; exact rdA_k cq2 t_p0 (κ' := 59) rfl tq5 (by decide)
                        have w15128 := rdA_fr (k := 9) (j := 1) gq2 c0 t_p0 (κ' := 59) rfl rfl rfl
                        have w15132 : rdA q2.2 p0 10 1 = mm_I q2.2 q5 ((1 : Int32)).toNatClampNeg := rdA_eq eq5
                        have w15131 := rdA_fr (k := 10) (j := 1) gq2 c0 t_p0 (κ' := 60) rfl rfl rfl
                        have a15133 := zi_and p3 127 (by decide)
                        have a15134 := zi_and p2 8 (by decide)
                        exact sw_some ⟨cs11, fs11, (by (try simp only [zp, zo, zq] at u11064 xq2 h11065 xq12 h11078 xq14 a11098 u11099 h11100 h11101 h13828 h15064 w15065 w15066 r15067 r15068 r15069 h15070 h15091 h15092 h15113 h15114 w15115 w15118 w15117 w15119 w15121 w15123 w15122 w15125 w15127 w15126 w15128 w15132 w15131 a15133 a15134 ⊢) <;> (try simp only [zz, Int32.reduceToInt, ne_eq] at u11064 xq2 h11065 xq12 h11078 xq14 a11098 u11099 h11100 h11101 h13828 h15064 w15065 w15066 r15067 r15068 r15069 h15070 h15091 h15092 h15113 h15114 w15115 w15118 w15117 w15119 w15121 w15123 w15122 w15125 w15127 w15126 w15128 w15132 w15131 a15133 a15134 ⊢) <;> (try simp (disch := omega) only [zb] at u11064 xq2 h11065 xq12 h11078 xq14 a11098 u11099 h11100 h11101 h13828 h15064 w15065 w15066 r15067 r15068 r15069 h15070 h15091 h15092 h15113 h15114 w15115 w15118 w15117 w15119 w15121 w15123 w15122 w15125 w15127 w15126 w15128 w15132 w15131 a15133 a15134 ⊢) <;> first | omega | ((try simp (disch := omega) only [zb] at u11064 xq2 h11065 xq12 h11078 xq14 a11098 u11099 h11100 h11101 h13828 h15064 w15065 w15066 r15067 r15068 r15069 h15070 h15091 h15092 h15113 h15114 w15115 w15118 w15117 w15119 w15121 w15123 w15122 w15125 w15127 w15126 w15128 w15132 w15131 a15133 a15134 ⊢) <;> omega))⟩
                      · refine sw_sh (ci_sh cs11 t_p0 rfl) ?_
                        refine sw_on (sX9_put cs11 t_p0 (by (try simp only [zp, zo, zq] at u11064 xq2 h11065 xq12 h11078 xq14 a11098 u11099 h11100 h11101 h13828 h15064 w15065 w15066 r15067 r15068 r15069 h15070 h15091 h15092 h15113 h15114 ⊢) <;> (try simp only [zz, Int32.reduceToInt, ne_eq] at u11064 xq2 h11065 xq12 h11078 xq14 a11098 u11099 h11100 h11101 h13828 h15064 w15065 w15066 r15067 r15068 r15069 h15070 h15091 h15092 h15113 h15114 ⊢) <;> (try simp (disch := omega) only [zb] at u11064 xq2 h11065 xq12 h11078 xq14 a11098 u11099 h11100 h11101 h13828 h15064 w15065 w15066 r15067 r15068 r15069 h15070 h15091 h15092 h15113 h15114 ⊢) <;> first | omega | ((try simp (disch := omega) only [zb] at u11064 xq2 h11065 xq12 h11078 xq14 a11098 u11099 h11100 h11101 h13828 h15064 w15065 w15066 r15067 r15068 r15069 h15070 h15091 h15092 h15113 h15114 ⊢) <;> omega)) ) ?_
                        intro q28 hqq28
                        obtain ⟨cq28, gq28, xq28⟩ := hqq28
                        have fq28 := fr_trans fs11 gq28 rfl
                        have w15135 := (gq28.2.2 _ _ t_p0 0 rfl).1
                        have w15136 : mm_I s11 p0 0 = mm_I q2.2 p0 0 := by rw [← es11]; exact rd_k t_p0 tq5 (by decide)
                        have w15138 := rdA_fr (k := 9) (j := 0) gq28 cs11 t_p0 (κ' := 59) rfl rfl rfl
                        have w15140 : rdA s11 p0 9 0 = mm_I s11 q17 ((0 : Int32)).toNatClampNeg := rdA_eq eq17
                        have w15139 : rdA s11 p0 9 0 = rdA q2.2 p0 9 0 := by rw [← es11]; exact rdA_k cq2 t_p0 (κ' := 59) rfl tq5 (by decide)
                        have w15141 := rdA_fr (k := 9) (j := 0) gq2 c0 t_p0 (κ' := 59) rfl rfl rfl
                        have w15143 := rdA_fr (k := 10) (j := 0) gq28 cs11 t_p0 (κ' := 60) rfl rfl rfl
                        have w15144 : rdA s11 p0 10 0 = rdA q2.2 p0 10 0 := by rw [← es11]; exact rdA_j (by decide)
                        have w15146 : rdA q2.2 p0 10 0 = mm_I q2.2 q5 ((0 : Int32)).toNatClampNeg := rdA_eq eq5
                        have w15145 := rdA_fr (k := 10) (j := 0) gq2 c0 t_p0 (κ' := 60) rfl rfl rfl
                        have w15148 := rdA_fr (k := 10) (j := 1) gq28 cs11 t_p0 (κ' := 60) rfl rfl rfl
                        have w15149 : rdA s11 p0 10 1 = -1 := by rw [← es11]; exact rdA_self eq5
                        have w15150 := rdA_fr (k := 9) (j := 1) gq28 cs11 t_p0 (κ' := 59) rfl rfl rfl
                        have w15152 : rdA s11 p0 9 1 = mm_I s11 q17 ((1 : Int32)).toNatClampNeg := rdA_eq eq17
                        have w15151 : rdA s11 p0 9 1 = rdA q2.2 p0 9 1 := by rw [← es11]; exact rdA_k cq2 t_p0 (κ' := 59) rfl tq5 (by decide)
                        have w15153 := rdA_fr (k := 9) (j := 1) gq2 c0 t_p0 (κ' := 59) rfl rfl rfl
                        have w15157 : rdA q2.2 p0 10 1 = mm_I q2.2 q5 ((1 : Int32)).toNatClampNeg := rdA_eq eq5
                        have w15156 := rdA_fr (k := 10) (j := 1) gq2 c0 t_p0 (κ' := 60) rfl rfl rfl
                        have a15158 := zi_and p3 127 (by decide)
                        have a15159 := zi_and p2 8 (by decide)
                        exact sw_some ⟨cq28, fq28, (by (try simp only [zp, zo, zq] at u11064 xq2 h11065 xq12 h11078 xq14 a11098 u11099 h11100 h11101 h13828 h15064 w15065 w15066 r15067 r15068 r15069 h15070 h15091 h15092 h15113 h15114 w15135 w15136 w15138 w15140 w15139 w15141 w15143 w15144 w15146 w15145 w15148 w15149 w15150 w15152 w15151 w15153 w15157 w15156 a15158 a15159 ⊢) <;> (try simp only [zz, Int32.reduceToInt, ne_eq] at u11064 xq2 h11065 xq12 h11078 xq14 a11098 u11099 h11100 h11101 h13828 h15064 w15065 w15066 r15067 r15068 r15069 h15070 h15091 h15092 h15113 h15114 w15135 w15136 w15138 w15140 w15139 w15141 w15143 w15144 w15146 w15145 w15148 w15149 w15150 w15152 w15151 w15153 w15157 w15156 a15158 a15159 ⊢) <;> (try simp (disch := omega) only [zb] at u11064 xq2 h11065 xq12 h11078 xq14 a11098 u11099 h11100 h11101 h13828 h15064 w15065 w15066 r15067 r15068 r15069 h15070 h15091 h15092 h15113 h15114 w15135 w15136 w15138 w15140 w15139 w15141 w15143 w15144 w15146 w15145 w15148 w15149 w15150 w15152 w15151 w15153 w15157 w15156 a15158 a15159 ⊢) <;> first | omega | ((try simp (disch := omega) only [zb] at u11064 xq2 h11065 xq12 h11078 xq14 a11098 u11099 h11100 h11101 h13828 h15064 w15065 w15066 r15067 r15068 r15069 h15070 h15091 h15092 h15113 h15114 w15135 w15136 w15138 w15140 w15139 w15141 w15143 w15144 w15146 w15145 w15148 w15149 w15150 w15152 w15151 w15153 w15157 w15156 a15158 a15159 ⊢) <;> omega))⟩
                    · refine sw_sh (ci_sh cs11 t_p0 rfl) ?_
                      refine sw_on (sX9_put cs11 t_p0 (by (try simp only [zp, zo, zq] at u11064 xq2 h11065 xq12 h11078 xq14 a11098 u11099 h11100 h11101 h13828 h15064 w15065 w15066 r15067 r15068 r15069 h15070 h15091 h15092 h15113 ⊢) <;> (try simp only [zz, Int32.reduceToInt, ne_eq] at u11064 xq2 h11065 xq12 h11078 xq14 a11098 u11099 h11100 h11101 h13828 h15064 w15065 w15066 r15067 r15068 r15069 h15070 h15091 h15092 h15113 ⊢) <;> (try simp (disch := omega) only [zb] at u11064 xq2 h11065 xq12 h11078 xq14 a11098 u11099 h11100 h11101 h13828 h15064 w15065 w15066 r15067 r15068 r15069 h15070 h15091 h15092 h15113 ⊢) <;> first | omega | ((try simp (disch := omega) only [zb] at u11064 xq2 h11065 xq12 h11078 xq14 a11098 u11099 h11100 h11101 h13828 h15064 w15065 w15066 r15067 r15068 r15069 h15070 h15091 h15092 h15113 ⊢) <;> omega)) ) ?_
                      intro q30 hqq30
                      obtain ⟨cq30, gq30, xq30⟩ := hqq30
                      have fq30 := fr_trans fs11 gq30 rfl
                      unfold fX9_pair_264
                      refine sw_ite (fun h15160 => ?_) (fun h15160 => ?_)
                      · have w15161 := (gq30.2.2 _ _ t_p0 0 rfl).1
                        have w15162 : mm_I s11 p0 0 = mm_I q2.2 p0 0 := by rw [← es11]; exact rd_k t_p0 tq5 (by decide)
                        have w15164 := rdA_fr (k := 9) (j := 0) gq30 cs11 t_p0 (κ' := 59) rfl rfl rfl
                        have w15166 : rdA s11 p0 9 0 = mm_I s11 q17 ((0 : Int32)).toNatClampNeg := rdA_eq eq17
                        have w15165 : rdA s11 p0 9 0 = rdA q2.2 p0 9 0 := by rw [← es11]; exact rdA_k cq2 t_p0 (κ' := 59) rfl tq5 (by decide)
                        have w15167 := rdA_fr (k := 9) (j := 0) gq2 c0 t_p0 (κ' := 59) rfl rfl rfl
                        have w15169 := rdA_fr (k := 10) (j := 0) gq30 cs11 t_p0 (κ' := 60) rfl rfl rfl
                        have w15170 : rdA s11 p0 10 0 = rdA q2.2 p0 10 0 := by rw [← es11]; exact rdA_j (by decide)
                        have w15172 : rdA q2.2 p0 10 0 = mm_I q2.2 q5 ((0 : Int32)).toNatClampNeg := rdA_eq eq5
                        have w15171 := rdA_fr (k := 10) (j := 0) gq2 c0 t_p0 (κ' := 60) rfl rfl rfl
                        have w15174 := rdA_fr (k := 10) (j := 1) gq30 cs11 t_p0 (κ' := 60) rfl rfl rfl
                        have w15175 : rdA s11 p0 10 1 = -1 := by rw [← es11]; exact rdA_self eq5
                        have w15176 := rdA_fr (k := 9) (j := 1) gq30 cs11 t_p0 (κ' := 59) rfl rfl rfl
                        have w15178 : rdA s11 p0 9 1 = mm_I s11 q17 ((1 : Int32)).toNatClampNeg := rdA_eq eq17
                        have w15177 : rdA s11 p0 9 1 = rdA q2.2 p0 9 1 := by rw [← es11]; exact rdA_k cq2 t_p0 (κ' := 59) rfl tq5 (by decide)
                        have w15179 := rdA_fr (k := 9) (j := 1) gq2 c0 t_p0 (κ' := 59) rfl rfl rfl
                        have w15183 : rdA q2.2 p0 10 1 = mm_I q2.2 q5 ((1 : Int32)).toNatClampNeg := rdA_eq eq5
                        have w15182 := rdA_fr (k := 10) (j := 1) gq2 c0 t_p0 (κ' := 60) rfl rfl rfl
                        have a15184 := zi_and p3 127 (by decide)
                        have a15185 := zi_and p2 8 (by decide)
                        exact sw_some ⟨cq30, fq30, (by (try simp only [zp, zo, zq] at u11064 xq2 h11065 xq12 h11078 xq14 a11098 u11099 h11100 h11101 h13828 h15064 w15065 w15066 r15067 r15068 r15069 h15070 h15091 h15092 h15113 h15160 w15161 w15162 w15164 w15166 w15165 w15167 w15169 w15170 w15172 w15171 w15174 w15175 w15176 w15178 w15177 w15179 w15183 w15182 a15184 a15185 ⊢) <;> (try simp only [zz, Int32.reduceToInt, ne_eq] at u11064 xq2 h11065 xq12 h11078 xq14 a11098 u11099 h11100 h11101 h13828 h15064 w15065 w15066 r15067 r15068 r15069 h15070 h15091 h15092 h15113 h15160 w15161 w15162 w15164 w15166 w15165 w15167 w15169 w15170 w15172 w15171 w15174 w15175 w15176 w15178 w15177 w15179 w15183 w15182 a15184 a15185 ⊢) <;> (try simp (disch := omega) only [zb] at u11064 xq2 h11065 xq12 h11078 xq14 a11098 u11099 h11100 h11101 h13828 h15064 w15065 w15066 r15067 r15068 r15069 h15070 h15091 h15092 h15113 h15160 w15161 w15162 w15164 w15166 w15165 w15167 w15169 w15170 w15172 w15171 w15174 w15175 w15176 w15178 w15177 w15179 w15183 w15182 a15184 a15185 ⊢) <;> first | omega | ((try simp (disch := omega) only [zb] at u11064 xq2 h11065 xq12 h11078 xq14 a11098 u11099 h11100 h11101 h13828 h15064 w15065 w15066 r15067 r15068 r15069 h15070 h15091 h15092 h15113 h15160 w15161 w15162 w15164 w15166 w15165 w15167 w15169 w15170 w15172 w15171 w15174 w15175 w15176 w15178 w15177 w15179 w15183 w15182 a15184 a15185 ⊢) <;> omega))⟩
                      · refine sw_sh (ci_sh cq30 t_p0 rfl) ?_
                        refine sw_on (sX9_put cq30 t_p0 (by (try simp only [zp, zo, zq] at u11064 xq2 h11065 xq12 h11078 xq14 a11098 u11099 h11100 h11101 h13828 h15064 w15065 w15066 r15067 r15068 r15069 h15070 h15091 h15092 h15113 h15160 ⊢) <;> (try simp only [zz, Int32.reduceToInt, ne_eq] at u11064 xq2 h11065 xq12 h11078 xq14 a11098 u11099 h11100 h11101 h13828 h15064 w15065 w15066 r15067 r15068 r15069 h15070 h15091 h15092 h15113 h15160 ⊢) <;> (try simp (disch := omega) only [zb] at u11064 xq2 h11065 xq12 h11078 xq14 a11098 u11099 h11100 h11101 h13828 h15064 w15065 w15066 r15067 r15068 r15069 h15070 h15091 h15092 h15113 h15160 ⊢) <;> first | omega | ((try simp (disch := omega) only [zb] at u11064 xq2 h11065 xq12 h11078 xq14 a11098 u11099 h11100 h11101 h13828 h15064 w15065 w15066 r15067 r15068 r15069 h15070 h15091 h15092 h15113 h15160 ⊢) <;> omega)) ) ?_
                        intro q28 hqq28
                        obtain ⟨cq28, gq28, xq28⟩ := hqq28
                        have fq28 := fr_trans fq30 gq28 rfl
                        have w15186 := (gq28.2.2 _ _ t_p0 0 rfl).1
                        have w15187 := (gq30.2.2 _ _ t_p0 0 rfl).1
                        have w15188 : mm_I s11 p0 0 = mm_I q2.2 p0 0 := by rw [← es11]; exact rd_k t_p0 tq5 (by decide)
                        have w15190 := rdA_fr (k := 9) (j := 0) gq28 cq30 t_p0 (κ' := 59) rfl rfl rfl
                        have w15191 := rdA_fr (k := 9) (j := 0) gq30 cs11 t_p0 (κ' := 59) rfl rfl rfl
                        have w15193 : rdA s11 p0 9 0 = mm_I s11 q17 ((0 : Int32)).toNatClampNeg := rdA_eq eq17
                        have w15192 : rdA s11 p0 9 0 = rdA q2.2 p0 9 0 := by rw [← es11]; exact rdA_k cq2 t_p0 (κ' := 59) rfl tq5 (by decide)
                        have w15194 := rdA_fr (k := 9) (j := 0) gq2 c0 t_p0 (κ' := 59) rfl rfl rfl
                        have w15196 := rdA_fr (k := 10) (j := 0) gq28 cq30 t_p0 (κ' := 60) rfl rfl rfl
                        have w15197 := rdA_fr (k := 10) (j := 0) gq30 cs11 t_p0 (κ' := 60) rfl rfl rfl
                        have w15198 : rdA s11 p0 10 0 = rdA q2.2 p0 10 0 := by rw [← es11]; exact rdA_j (by decide)
                        have w15200 : rdA q2.2 p0 10 0 = mm_I q2.2 q5 ((0 : Int32)).toNatClampNeg := rdA_eq eq5
                        have w15199 := rdA_fr (k := 10) (j := 0) gq2 c0 t_p0 (κ' := 60) rfl rfl rfl
                        have w15202 := rdA_fr (k := 10) (j := 1) gq28 cq30 t_p0 (κ' := 60) rfl rfl rfl
                        have w15203 := rdA_fr (k := 10) (j := 1) gq30 cs11 t_p0 (κ' := 60) rfl rfl rfl
                        have w15204 : rdA s11 p0 10 1 = -1 := by rw [← es11]; exact rdA_self eq5
                        have w15205 := rdA_fr (k := 9) (j := 1) gq28 cq30 t_p0 (κ' := 59) rfl rfl rfl
                        have w15206 := rdA_fr (k := 9) (j := 1) gq30 cs11 t_p0 (κ' := 59) rfl rfl rfl
                        have w15208 : rdA s11 p0 9 1 = mm_I s11 q17 ((1 : Int32)).toNatClampNeg := rdA_eq eq17
                        have w15207 : rdA s11 p0 9 1 = rdA q2.2 p0 9 1 := by rw [← es11]; exact rdA_k cq2 t_p0 (κ' := 59) rfl tq5 (by decide)
                        have w15209 := rdA_fr (k := 9) (j := 1) gq2 c0 t_p0 (κ' := 59) rfl rfl rfl
                        have w15213 : rdA q2.2 p0 10 1 = mm_I q2.2 q5 ((1 : Int32)).toNatClampNeg := rdA_eq eq5
                        have w15212 := rdA_fr (k := 10) (j := 1) gq2 c0 t_p0 (κ' := 60) rfl rfl rfl
                        have a15214 := zi_and p3 127 (by decide)
                        have a15215 := zi_and p2 8 (by decide)
                        exact sw_some ⟨cq28, fq28, (by (try simp only [zp, zo, zq] at u11064 xq2 h11065 xq12 h11078 xq14 a11098 u11099 h11100 h11101 h13828 h15064 w15065 w15066 r15067 r15068 r15069 h15070 h15091 h15092 h15113 h15160 w15186 w15187 w15188 w15190 w15191 w15193 w15192 w15194 w15196 w15197 w15198 w15200 w15199 w15202 w15203 w15204 w15205 w15206 w15208 w15207 w15209 w15213 w15212 a15214 a15215 ⊢) <;> (try simp only [zz, Int32.reduceToInt, ne_eq] at u11064 xq2 h11065 xq12 h11078 xq14 a11098 u11099 h11100 h11101 h13828 h15064 w15065 w15066 r15067 r15068 r15069 h15070 h15091 h15092 h15113 h15160 w15186 w15187 w15188 w15190 w15191 w15193 w15192 w15194 w15196 w15197 w15198 w15200 w15199 w15202 w15203 w15204 w15205 w15206 w15208 w15207 w15209 w15213 w15212 a15214 a15215 ⊢) <;> (try simp (disch := omega) only [zb] at u11064 xq2 h11065 xq12 h11078 xq14 a11098 u11099 h11100 h11101 h13828 h15064 w15065 w15066 r15067 r15068 r15069 h15070 h15091 h15092 h15113 h15160 w15186 w15187 w15188 w15190 w15191 w15193 w15192 w15194 w15196 w15197 w15198 w15200 w15199 w15202 w15203 w15204 w15205 w15206 w15208 w15207 w15209 w15213 w15212 a15214 a15215 ⊢) <;> first | omega | ((try simp (disch := omega) only [zb] at u11064 xq2 h11065 xq12 h11078 xq14 a11098 u11099 h11100 h11101 h13828 h15064 w15065 w15066 r15067 r15068 r15069 h15070 h15091 h15092 h15113 h15160 w15186 w15187 w15188 w15190 w15191 w15193 w15192 w15194 w15196 w15197 w15198 w15200 w15199 w15202 w15203 w15204 w15205 w15206 w15208 w15207 w15209 w15213 w15212 a15214 a15215 ⊢) <;> omega))⟩
                · unfold fX9_pair_250
                  refine sw_ite (fun h15216 => ?_) (fun h15216 => ?_)
                  · unfold fX9_pair_264
                    refine sw_ite (fun h15217 => ?_) (fun h15217 => ?_)
                    · have w15218 : mm_I s11 p0 0 = mm_I q2.2 p0 0 := by rw [← es11]; exact rd_k t_p0 tq5 (by decide)
                      have w15221 : rdA s11 p0 9 0 = mm_I s11 q17 ((0 : Int32)).toNatClampNeg := rdA_eq eq17
                      have w15220 : rdA s11 p0 9 0 = rdA q2.2 p0 9 0 := by rw [← es11]; exact rdA_k cq2 t_p0 (κ' := 59) rfl tq5 (by decide)
                      have w15222 := rdA_fr (k := 9) (j := 0) gq2 c0 t_p0 (κ' := 59) rfl rfl rfl
                      have w15224 : rdA s11 p0 10 0 = rdA q2.2 p0 10 0 := by rw [← es11]; exact rdA_j (by decide)
                      have w15226 : rdA q2.2 p0 10 0 = mm_I q2.2 q5 ((0 : Int32)).toNatClampNeg := rdA_eq eq5
                      have w15225 := rdA_fr (k := 10) (j := 0) gq2 c0 t_p0 (κ' := 60) rfl rfl rfl
                      have w15228 : rdA s11 p0 10 1 = -1 := by rw [← es11]; exact rdA_self eq5
                      have w15230 : rdA s11 p0 9 1 = mm_I s11 q17 ((1 : Int32)).toNatClampNeg := rdA_eq eq17
                      have w15229 : rdA s11 p0 9 1 = rdA q2.2 p0 9 1 := by rw [← es11]; exact rdA_k cq2 t_p0 (κ' := 59) rfl tq5 (by decide)
                      have w15231 := rdA_fr (k := 9) (j := 1) gq2 c0 t_p0 (κ' := 59) rfl rfl rfl
                      have w15235 : rdA q2.2 p0 10 1 = mm_I q2.2 q5 ((1 : Int32)).toNatClampNeg := rdA_eq eq5
                      have w15234 := rdA_fr (k := 10) (j := 1) gq2 c0 t_p0 (κ' := 60) rfl rfl rfl
                      have a15236 := zi_and p3 127 (by decide)
                      have a15237 := zi_and p2 8 (by decide)
                      exact sw_some ⟨cs11, fs11, (by (try simp only [zp, zo, zq] at u11064 xq2 h11065 xq12 h11078 xq14 a11098 u11099 h11100 h11101 h13828 h15064 w15065 w15066 r15067 r15068 r15069 h15070 h15091 h15216 h15217 w15218 w15221 w15220 w15222 w15224 w15226 w15225 w15228 w15230 w15229 w15231 w15235 w15234 a15236 a15237 ⊢) <;> (try simp only [zz, Int32.reduceToInt, ne_eq] at u11064 xq2 h11065 xq12 h11078 xq14 a11098 u11099 h11100 h11101 h13828 h15064 w15065 w15066 r15067 r15068 r15069 h15070 h15091 h15216 h15217 w15218 w15221 w15220 w15222 w15224 w15226 w15225 w15228 w15230 w15229 w15231 w15235 w15234 a15236 a15237 ⊢) <;> (try simp (disch := omega) only [zb] at u11064 xq2 h11065 xq12 h11078 xq14 a11098 u11099 h11100 h11101 h13828 h15064 w15065 w15066 r15067 r15068 r15069 h15070 h15091 h15216 h15217 w15218 w15221 w15220 w15222 w15224 w15226 w15225 w15228 w15230 w15229 w15231 w15235 w15234 a15236 a15237 ⊢) <;> first | omega | ((try simp (disch := omega) only [zb] at u11064 xq2 h11065 xq12 h11078 xq14 a11098 u11099 h11100 h11101 h13828 h15064 w15065 w15066 r15067 r15068 r15069 h15070 h15091 h15216 h15217 w15218 w15221 w15220 w15222 w15224 w15226 w15225 w15228 w15230 w15229 w15231 w15235 w15234 a15236 a15237 ⊢) <;> omega))⟩
                    · refine sw_sh (ci_sh cs11 t_p0 rfl) ?_
                      refine sw_on (sX9_put cs11 t_p0 (by (try simp only [zp, zo, zq] at u11064 xq2 h11065 xq12 h11078 xq14 a11098 u11099 h11100 h11101 h13828 h15064 w15065 w15066 r15067 r15068 r15069 h15070 h15091 h15216 h15217 ⊢) <;> (try simp only [zz, Int32.reduceToInt, ne_eq] at u11064 xq2 h11065 xq12 h11078 xq14 a11098 u11099 h11100 h11101 h13828 h15064 w15065 w15066 r15067 r15068 r15069 h15070 h15091 h15216 h15217 ⊢) <;> (try simp (disch := omega) only [zb] at u11064 xq2 h11065 xq12 h11078 xq14 a11098 u11099 h11100 h11101 h13828 h15064 w15065 w15066 r15067 r15068 r15069 h15070 h15091 h15216 h15217 ⊢) <;> first | omega | ((try simp (disch := omega) only [zb] at u11064 xq2 h11065 xq12 h11078 xq14 a11098 u11099 h11100 h11101 h13828 h15064 w15065 w15066 r15067 r15068 r15069 h15070 h15091 h15216 h15217 ⊢) <;> omega)) ) ?_
                      intro q28 hqq28
                      obtain ⟨cq28, gq28, xq28⟩ := hqq28
                      have fq28 := fr_trans fs11 gq28 rfl
                      have w15238 := (gq28.2.2 _ _ t_p0 0 rfl).1
                      have w15239 : mm_I s11 p0 0 = mm_I q2.2 p0 0 := by rw [← es11]; exact rd_k t_p0 tq5 (by decide)
                      have w15241 := rdA_fr (k := 9) (j := 0) gq28 cs11 t_p0 (κ' := 59) rfl rfl rfl
                      have w15243 : rdA s11 p0 9 0 = mm_I s11 q17 ((0 : Int32)).toNatClampNeg := rdA_eq eq17
                      have w15242 : rdA s11 p0 9 0 = rdA q2.2 p0 9 0 := by rw [← es11]; exact rdA_k cq2 t_p0 (κ' := 59) rfl tq5 (by decide)
                      have w15244 := rdA_fr (k := 9) (j := 0) gq2 c0 t_p0 (κ' := 59) rfl rfl rfl
                      have w15246 := rdA_fr (k := 10) (j := 0) gq28 cs11 t_p0 (κ' := 60) rfl rfl rfl
                      have w15247 : rdA s11 p0 10 0 = rdA q2.2 p0 10 0 := by rw [← es11]; exact rdA_j (by decide)
                      have w15249 : rdA q2.2 p0 10 0 = mm_I q2.2 q5 ((0 : Int32)).toNatClampNeg := rdA_eq eq5
                      have w15248 := rdA_fr (k := 10) (j := 0) gq2 c0 t_p0 (κ' := 60) rfl rfl rfl
                      have w15251 := rdA_fr (k := 10) (j := 1) gq28 cs11 t_p0 (κ' := 60) rfl rfl rfl
                      have w15252 : rdA s11 p0 10 1 = -1 := by rw [← es11]; exact rdA_self eq5
                      have w15253 := rdA_fr (k := 9) (j := 1) gq28 cs11 t_p0 (κ' := 59) rfl rfl rfl
                      have w15255 : rdA s11 p0 9 1 = mm_I s11 q17 ((1 : Int32)).toNatClampNeg := rdA_eq eq17
                      have w15254 : rdA s11 p0 9 1 = rdA q2.2 p0 9 1 := by rw [← es11]; exact rdA_k cq2 t_p0 (κ' := 59) rfl tq5 (by decide)
                      have w15256 := rdA_fr (k := 9) (j := 1) gq2 c0 t_p0 (κ' := 59) rfl rfl rfl
                      have w15260 : rdA q2.2 p0 10 1 = mm_I q2.2 q5 ((1 : Int32)).toNatClampNeg := rdA_eq eq5
                      have w15259 := rdA_fr (k := 10) (j := 1) gq2 c0 t_p0 (κ' := 60) rfl rfl rfl
                      have a15261 := zi_and p3 127 (by decide)
                      have a15262 := zi_and p2 8 (by decide)
                      exact sw_some ⟨cq28, fq28, (by (try simp only [zp, zo, zq] at u11064 xq2 h11065 xq12 h11078 xq14 a11098 u11099 h11100 h11101 h13828 h15064 w15065 w15066 r15067 r15068 r15069 h15070 h15091 h15216 h15217 w15238 w15239 w15241 w15243 w15242 w15244 w15246 w15247 w15249 w15248 w15251 w15252 w15253 w15255 w15254 w15256 w15260 w15259 a15261 a15262 ⊢) <;> (try simp only [zz, Int32.reduceToInt, ne_eq] at u11064 xq2 h11065 xq12 h11078 xq14 a11098 u11099 h11100 h11101 h13828 h15064 w15065 w15066 r15067 r15068 r15069 h15070 h15091 h15216 h15217 w15238 w15239 w15241 w15243 w15242 w15244 w15246 w15247 w15249 w15248 w15251 w15252 w15253 w15255 w15254 w15256 w15260 w15259 a15261 a15262 ⊢) <;> (try simp (disch := omega) only [zb] at u11064 xq2 h11065 xq12 h11078 xq14 a11098 u11099 h11100 h11101 h13828 h15064 w15065 w15066 r15067 r15068 r15069 h15070 h15091 h15216 h15217 w15238 w15239 w15241 w15243 w15242 w15244 w15246 w15247 w15249 w15248 w15251 w15252 w15253 w15255 w15254 w15256 w15260 w15259 a15261 a15262 ⊢) <;> first | omega | ((try simp (disch := omega) only [zb] at u11064 xq2 h11065 xq12 h11078 xq14 a11098 u11099 h11100 h11101 h13828 h15064 w15065 w15066 r15067 r15068 r15069 h15070 h15091 h15216 h15217 w15238 w15239 w15241 w15243 w15242 w15244 w15246 w15247 w15249 w15248 w15251 w15252 w15253 w15255 w15254 w15256 w15260 w15259 a15261 a15262 ⊢) <;> omega))⟩
                  · refine sw_sh (ci_sh cs11 t_p0 rfl) ?_
                    refine sw_on (sX9_put cs11 t_p0 (by (try simp only [zp, zo, zq] at u11064 xq2 h11065 xq12 h11078 xq14 a11098 u11099 h11100 h11101 h13828 h15064 w15065 w15066 r15067 r15068 r15069 h15070 h15091 h15216 ⊢) <;> (try simp only [zz, Int32.reduceToInt, ne_eq] at u11064 xq2 h11065 xq12 h11078 xq14 a11098 u11099 h11100 h11101 h13828 h15064 w15065 w15066 r15067 r15068 r15069 h15070 h15091 h15216 ⊢) <;> (try simp (disch := omega) only [zb] at u11064 xq2 h11065 xq12 h11078 xq14 a11098 u11099 h11100 h11101 h13828 h15064 w15065 w15066 r15067 r15068 r15069 h15070 h15091 h15216 ⊢) <;> first | omega | ((try simp (disch := omega) only [zb] at u11064 xq2 h11065 xq12 h11078 xq14 a11098 u11099 h11100 h11101 h13828 h15064 w15065 w15066 r15067 r15068 r15069 h15070 h15091 h15216 ⊢) <;> omega)) ) ?_
                    intro q30 hqq30
                    obtain ⟨cq30, gq30, xq30⟩ := hqq30
                    have fq30 := fr_trans fs11 gq30 rfl
                    unfold fX9_pair_264
                    refine sw_ite (fun h15263 => ?_) (fun h15263 => ?_)
                    · have w15264 := (gq30.2.2 _ _ t_p0 0 rfl).1
                      have w15265 : mm_I s11 p0 0 = mm_I q2.2 p0 0 := by rw [← es11]; exact rd_k t_p0 tq5 (by decide)
                      have w15267 := rdA_fr (k := 9) (j := 0) gq30 cs11 t_p0 (κ' := 59) rfl rfl rfl
                      have w15269 : rdA s11 p0 9 0 = mm_I s11 q17 ((0 : Int32)).toNatClampNeg := rdA_eq eq17
                      have w15268 : rdA s11 p0 9 0 = rdA q2.2 p0 9 0 := by rw [← es11]; exact rdA_k cq2 t_p0 (κ' := 59) rfl tq5 (by decide)
                      have w15270 := rdA_fr (k := 9) (j := 0) gq2 c0 t_p0 (κ' := 59) rfl rfl rfl
                      have w15272 := rdA_fr (k := 10) (j := 0) gq30 cs11 t_p0 (κ' := 60) rfl rfl rfl
                      have w15273 : rdA s11 p0 10 0 = rdA q2.2 p0 10 0 := by rw [← es11]; exact rdA_j (by decide)
                      have w15275 : rdA q2.2 p0 10 0 = mm_I q2.2 q5 ((0 : Int32)).toNatClampNeg := rdA_eq eq5
                      have w15274 := rdA_fr (k := 10) (j := 0) gq2 c0 t_p0 (κ' := 60) rfl rfl rfl
                      have w15277 := rdA_fr (k := 10) (j := 1) gq30 cs11 t_p0 (κ' := 60) rfl rfl rfl
                      have w15278 : rdA s11 p0 10 1 = -1 := by rw [← es11]; exact rdA_self eq5
                      have w15279 := rdA_fr (k := 9) (j := 1) gq30 cs11 t_p0 (κ' := 59) rfl rfl rfl
                      have w15281 : rdA s11 p0 9 1 = mm_I s11 q17 ((1 : Int32)).toNatClampNeg := rdA_eq eq17
                      have w15280 : rdA s11 p0 9 1 = rdA q2.2 p0 9 1 := by rw [← es11]; exact rdA_k cq2 t_p0 (κ' := 59) rfl tq5 (by decide)
                      have w15282 := rdA_fr (k := 9) (j := 1) gq2 c0 t_p0 (κ' := 59) rfl rfl rfl
                      have w15286 : rdA q2.2 p0 10 1 = mm_I q2.2 q5 ((1 : Int32)).toNatClampNeg := rdA_eq eq5
                      have w15285 := rdA_fr (k := 10) (j := 1) gq2 c0 t_p0 (κ' := 60) rfl rfl rfl
                      have a15287 := zi_and p3 127 (by decide)
                      have a15288 := zi_and p2 8 (by decide)
                      exact sw_some ⟨cq30, fq30, (by (try simp only [zp, zo, zq] at u11064 xq2 h11065 xq12 h11078 xq14 a11098 u11099 h11100 h11101 h13828 h15064 w15065 w15066 r15067 r15068 r15069 h15070 h15091 h15216 h15263 w15264 w15265 w15267 w15269 w15268 w15270 w15272 w15273 w15275 w15274 w15277 w15278 w15279 w15281 w15280 w15282 w15286 w15285 a15287 a15288 ⊢) <;> (try simp only [zz, Int32.reduceToInt, ne_eq] at u11064 xq2 h11065 xq12 h11078 xq14 a11098 u11099 h11100 h11101 h13828 h15064 w15065 w15066 r15067 r15068 r15069 h15070 h15091 h15216 h15263 w15264 w15265 w15267 w15269 w15268 w15270 w15272 w15273 w15275 w15274 w15277 w15278 w15279 w15281 w15280 w15282 w15286 w15285 a15287 a15288 ⊢) <;> (try simp (disch := omega) only [zb] at u11064 xq2 h11065 xq12 h11078 xq14 a11098 u11099 h11100 h11101 h13828 h15064 w15065 w15066 r15067 r15068 r15069 h15070 h15091 h15216 h15263 w15264 w15265 w15267 w15269 w15268 w15270 w15272 w15273 w15275 w15274 w15277 w15278 w15279 w15281 w15280 w15282 w15286 w15285 a15287 a15288 ⊢) <;> first | omega | ((try simp (disch := omega) only [zb] at u11064 xq2 h11065 xq12 h11078 xq14 a11098 u11099 h11100 h11101 h13828 h15064 w15065 w15066 r15067 r15068 r15069 h15070 h15091 h15216 h15263 w15264 w15265 w15267 w15269 w15268 w15270 w15272 w15273 w15275 w15274 w15277 w15278 w15279 w15281 w15280 w15282 w15286 w15285 a15287 a15288 ⊢) <;> omega))⟩
                    · refine sw_sh (ci_sh cq30 t_p0 rfl) ?_
                      refine sw_on (sX9_put cq30 t_p0 (by (try simp only [zp, zo, zq] at u11064 xq2 h11065 xq12 h11078 xq14 a11098 u11099 h11100 h11101 h13828 h15064 w15065 w15066 r15067 r15068 r15069 h15070 h15091 h15216 h15263 ⊢) <;> (try simp only [zz, Int32.reduceToInt, ne_eq] at u11064 xq2 h11065 xq12 h11078 xq14 a11098 u11099 h11100 h11101 h13828 h15064 w15065 w15066 r15067 r15068 r15069 h15070 h15091 h15216 h15263 ⊢) <;> (try simp (disch := omega) only [zb] at u11064 xq2 h11065 xq12 h11078 xq14 a11098 u11099 h11100 h11101 h13828 h15064 w15065 w15066 r15067 r15068 r15069 h15070 h15091 h15216 h15263 ⊢) <;> first | omega | ((try simp (disch := omega) only [zb] at u11064 xq2 h11065 xq12 h11078 xq14 a11098 u11099 h11100 h11101 h13828 h15064 w15065 w15066 r15067 r15068 r15069 h15070 h15091 h15216 h15263 ⊢) <;> omega)) ) ?_
                      intro q28 hqq28
                      obtain ⟨cq28, gq28, xq28⟩ := hqq28
                      have fq28 := fr_trans fq30 gq28 rfl
                      have w15289 := (gq28.2.2 _ _ t_p0 0 rfl).1
                      have w15290 := (gq30.2.2 _ _ t_p0 0 rfl).1
                      have w15291 : mm_I s11 p0 0 = mm_I q2.2 p0 0 := by rw [← es11]; exact rd_k t_p0 tq5 (by decide)
                      have w15293 := rdA_fr (k := 9) (j := 0) gq28 cq30 t_p0 (κ' := 59) rfl rfl rfl
                      have w15294 := rdA_fr (k := 9) (j := 0) gq30 cs11 t_p0 (κ' := 59) rfl rfl rfl
                      have w15296 : rdA s11 p0 9 0 = mm_I s11 q17 ((0 : Int32)).toNatClampNeg := rdA_eq eq17
                      have w15295 : rdA s11 p0 9 0 = rdA q2.2 p0 9 0 := by rw [← es11]; exact rdA_k cq2 t_p0 (κ' := 59) rfl tq5 (by decide)
                      have w15297 := rdA_fr (k := 9) (j := 0) gq2 c0 t_p0 (κ' := 59) rfl rfl rfl
                      have w15299 := rdA_fr (k := 10) (j := 0) gq28 cq30 t_p0 (κ' := 60) rfl rfl rfl
                      have w15300 := rdA_fr (k := 10) (j := 0) gq30 cs11 t_p0 (κ' := 60) rfl rfl rfl
                      have w15301 : rdA s11 p0 10 0 = rdA q2.2 p0 10 0 := by rw [← es11]; exact rdA_j (by decide)
                      have w15303 : rdA q2.2 p0 10 0 = mm_I q2.2 q5 ((0 : Int32)).toNatClampNeg := rdA_eq eq5
                      have w15302 := rdA_fr (k := 10) (j := 0) gq2 c0 t_p0 (κ' := 60) rfl rfl rfl
                      have w15305 := rdA_fr (k := 10) (j := 1) gq28 cq30 t_p0 (κ' := 60) rfl rfl rfl
                      have w15306 := rdA_fr (k := 10) (j := 1) gq30 cs11 t_p0 (κ' := 60) rfl rfl rfl
                      have w15307 : rdA s11 p0 10 1 = -1 := by rw [← es11]; exact rdA_self eq5
                      have w15308 := rdA_fr (k := 9) (j := 1) gq28 cq30 t_p0 (κ' := 59) rfl rfl rfl
                      have w15309 := rdA_fr (k := 9) (j := 1) gq30 cs11 t_p0 (κ' := 59) rfl rfl rfl
                      have w15311 : rdA s11 p0 9 1 = mm_I s11 q17 ((1 : Int32)).toNatClampNeg := rdA_eq eq17
                      have w15310 : rdA s11 p0 9 1 = rdA q2.2 p0 9 1 := by rw [← es11]; exact rdA_k cq2 t_p0 (κ' := 59) rfl tq5 (by decide)
                      have w15312 := rdA_fr (k := 9) (j := 1) gq2 c0 t_p0 (κ' := 59) rfl rfl rfl
                      have w15316 : rdA q2.2 p0 10 1 = mm_I q2.2 q5 ((1 : Int32)).toNatClampNeg := rdA_eq eq5
                      have w15315 := rdA_fr (k := 10) (j := 1) gq2 c0 t_p0 (κ' := 60) rfl rfl rfl
                      have a15317 := zi_and p3 127 (by decide)
                      have a15318 := zi_and p2 8 (by decide)
                      exact sw_some ⟨cq28, fq28, (by (try simp only [zp, zo, zq] at u11064 xq2 h11065 xq12 h11078 xq14 a11098 u11099 h11100 h11101 h13828 h15064 w15065 w15066 r15067 r15068 r15069 h15070 h15091 h15216 h15263 w15289 w15290 w15291 w15293 w15294 w15296 w15295 w15297 w15299 w15300 w15301 w15303 w15302 w15305 w15306 w15307 w15308 w15309 w15311 w15310 w15312 w15316 w15315 a15317 a15318 ⊢) <;> (try simp only [zz, Int32.reduceToInt, ne_eq] at u11064 xq2 h11065 xq12 h11078 xq14 a11098 u11099 h11100 h11101 h13828 h15064 w15065 w15066 r15067 r15068 r15069 h15070 h15091 h15216 h15263 w15289 w15290 w15291 w15293 w15294 w15296 w15295 w15297 w15299 w15300 w15301 w15303 w15302 w15305 w15306 w15307 w15308 w15309 w15311 w15310 w15312 w15316 w15315 a15317 a15318 ⊢) <;> (try simp (disch := omega) only [zb] at u11064 xq2 h11065 xq12 h11078 xq14 a11098 u11099 h11100 h11101 h13828 h15064 w15065 w15066 r15067 r15068 r15069 h15070 h15091 h15216 h15263 w15289 w15290 w15291 w15293 w15294 w15296 w15295 w15297 w15299 w15300 w15301 w15303 w15302 w15305 w15306 w15307 w15308 w15309 w15311 w15310 w15312 w15316 w15315 a15317 a15318 ⊢) <;> first | omega | ((try simp (disch := omega) only [zb] at u11064 xq2 h11065 xq12 h11078 xq14 a11098 u11099 h11100 h11101 h13828 h15064 w15065 w15066 r15067 r15068 r15069 h15070 h15091 h15216 h15263 w15289 w15290 w15291 w15293 w15294 w15296 w15295 w15297 w15299 w15300 w15301 w15303 w15302 w15305 w15306 w15307 w15308 w15309 w15311 w15310 w15312 w15316 w15315 a15317 a15318 ⊢) <;> omega))⟩
            · unfold fX9_pair_198
              refine sw_ite (fun h15319 => ?_) (fun h15319 => ?_)
              · unfold fX9_pair_227
                unfold fX9_pair_228
                have w15320 : mm_I s11 q17 ((1 : Int32).toNatClampNeg) = mm_I q2.2 q17 ((1 : Int32).toNatClampNeg) := by rw [← es11]; exact rd_k tq17 tq5 (by decide)
                have w15321 := (gq2.2.2 _ _ tq17 ((1 : Int32).toNatClampNeg) rfl).1
                have r15322 := ci_rg c0 tq17 ((1 : Int32).toNatClampNeg) (lo := (-1)) (hi := 3) rfl
                have r15323 := ci_rg cq2 tq17 ((1 : Int32).toNatClampNeg) (lo := (-1)) (hi := 3) rfl
                have r15324 := ci_rg cs11 tq17 ((1 : Int32).toNatClampNeg) (lo := (-1)) (hi := 3) rfl
                refine sw_ite (fun h15325 => ?_) (fun h15325 => ?_)
                · have w15326 : mm_I s11 p0 0 = mm_I q2.2 p0 0 := by rw [← es11]; exact rd_k t_p0 tq5 (by decide)
                  have w15329 : rdA s11 p0 9 0 = mm_I s11 q17 ((0 : Int32)).toNatClampNeg := rdA_eq eq17
                  have w15328 : rdA s11 p0 9 0 = rdA q2.2 p0 9 0 := by rw [← es11]; exact rdA_k cq2 t_p0 (κ' := 59) rfl tq5 (by decide)
                  have w15330 := rdA_fr (k := 9) (j := 0) gq2 c0 t_p0 (κ' := 59) rfl rfl rfl
                  have w15332 : rdA s11 p0 10 0 = rdA q2.2 p0 10 0 := by rw [← es11]; exact rdA_j (by decide)
                  have w15334 : rdA q2.2 p0 10 0 = mm_I q2.2 q5 ((0 : Int32)).toNatClampNeg := rdA_eq eq5
                  have w15333 := rdA_fr (k := 10) (j := 0) gq2 c0 t_p0 (κ' := 60) rfl rfl rfl
                  have w15336 : rdA s11 p0 10 1 = -1 := by rw [← es11]; exact rdA_self eq5
                  have w15338 : rdA s11 p0 9 1 = mm_I s11 q17 ((1 : Int32)).toNatClampNeg := rdA_eq eq17
                  have w15337 : rdA s11 p0 9 1 = rdA q2.2 p0 9 1 := by rw [← es11]; exact rdA_k cq2 t_p0 (κ' := 59) rfl tq5 (by decide)
                  have w15339 := rdA_fr (k := 9) (j := 1) gq2 c0 t_p0 (κ' := 59) rfl rfl rfl
                  have w15343 : rdA q2.2 p0 10 1 = mm_I q2.2 q5 ((1 : Int32)).toNatClampNeg := rdA_eq eq5
                  have w15342 := rdA_fr (k := 10) (j := 1) gq2 c0 t_p0 (κ' := 60) rfl rfl rfl
                  have a15344 := zi_and p3 127 (by decide)
                  have a15345 := zi_and p2 8 (by decide)
                  exact sw_some ⟨cs11, fs11, (by (try simp only [zp, zo, zq] at u11064 xq2 h11065 xq12 h11078 xq14 a11098 u11099 h11100 h11101 h13828 h15064 h15319 w15320 w15321 r15322 r15323 r15324 h15325 w15326 w15329 w15328 w15330 w15332 w15334 w15333 w15336 w15338 w15337 w15339 w15343 w15342 a15344 a15345 ⊢) <;> (try simp only [zz, Int32.reduceToInt, ne_eq] at u11064 xq2 h11065 xq12 h11078 xq14 a11098 u11099 h11100 h11101 h13828 h15064 h15319 w15320 w15321 r15322 r15323 r15324 h15325 w15326 w15329 w15328 w15330 w15332 w15334 w15333 w15336 w15338 w15337 w15339 w15343 w15342 a15344 a15345 ⊢) <;> (try simp (disch := omega) only [zb] at u11064 xq2 h11065 xq12 h11078 xq14 a11098 u11099 h11100 h11101 h13828 h15064 h15319 w15320 w15321 r15322 r15323 r15324 h15325 w15326 w15329 w15328 w15330 w15332 w15334 w15333 w15336 w15338 w15337 w15339 w15343 w15342 a15344 a15345 ⊢) <;> first | omega | ((try simp (disch := omega) only [zb] at u11064 xq2 h11065 xq12 h11078 xq14 a11098 u11099 h11100 h11101 h13828 h15064 h15319 w15320 w15321 r15322 r15323 r15324 h15325 w15326 w15329 w15328 w15330 w15332 w15334 w15333 w15336 w15338 w15337 w15339 w15343 w15342 a15344 a15345 ⊢) <;> omega))⟩
                · refine sw_ite (fun h15346 => ?_) (fun h15346 => ?_)
                  · refine sw_ite (fun h15347 => ?_) (fun h15347 => ?_)
                    · have w15348 : mm_I s11 p0 0 = mm_I q2.2 p0 0 := by rw [← es11]; exact rd_k t_p0 tq5 (by decide)
                      have w15351 : rdA s11 p0 9 0 = mm_I s11 q17 ((0 : Int32)).toNatClampNeg := rdA_eq eq17
                      have w15350 : rdA s11 p0 9 0 = rdA q2.2 p0 9 0 := by rw [← es11]; exact rdA_k cq2 t_p0 (κ' := 59) rfl tq5 (by decide)
                      have w15352 := rdA_fr (k := 9) (j := 0) gq2 c0 t_p0 (κ' := 59) rfl rfl rfl
                      have w15354 : rdA s11 p0 10 0 = rdA q2.2 p0 10 0 := by rw [← es11]; exact rdA_j (by decide)
                      have w15356 : rdA q2.2 p0 10 0 = mm_I q2.2 q5 ((0 : Int32)).toNatClampNeg := rdA_eq eq5
                      have w15355 := rdA_fr (k := 10) (j := 0) gq2 c0 t_p0 (κ' := 60) rfl rfl rfl
                      have w15358 : rdA s11 p0 10 1 = -1 := by rw [← es11]; exact rdA_self eq5
                      have w15360 : rdA s11 p0 9 1 = mm_I s11 q17 ((1 : Int32)).toNatClampNeg := rdA_eq eq17
                      have w15359 : rdA s11 p0 9 1 = rdA q2.2 p0 9 1 := by rw [← es11]; exact rdA_k cq2 t_p0 (κ' := 59) rfl tq5 (by decide)
                      have w15361 := rdA_fr (k := 9) (j := 1) gq2 c0 t_p0 (κ' := 59) rfl rfl rfl
                      have w15365 : rdA q2.2 p0 10 1 = mm_I q2.2 q5 ((1 : Int32)).toNatClampNeg := rdA_eq eq5
                      have w15364 := rdA_fr (k := 10) (j := 1) gq2 c0 t_p0 (κ' := 60) rfl rfl rfl
                      have a15366 := zi_and p3 127 (by decide)
                      have a15367 := zi_and p2 8 (by decide)
                      exact sw_some ⟨cs11, fs11, (by (try simp only [zp, zo, zq] at u11064 xq2 h11065 xq12 h11078 xq14 a11098 u11099 h11100 h11101 h13828 h15064 h15319 w15320 w15321 r15322 r15323 r15324 h15325 h15346 h15347 w15348 w15351 w15350 w15352 w15354 w15356 w15355 w15358 w15360 w15359 w15361 w15365 w15364 a15366 a15367 ⊢) <;> (try simp only [zz, Int32.reduceToInt, ne_eq] at u11064 xq2 h11065 xq12 h11078 xq14 a11098 u11099 h11100 h11101 h13828 h15064 h15319 w15320 w15321 r15322 r15323 r15324 h15325 h15346 h15347 w15348 w15351 w15350 w15352 w15354 w15356 w15355 w15358 w15360 w15359 w15361 w15365 w15364 a15366 a15367 ⊢) <;> (try simp (disch := omega) only [zb] at u11064 xq2 h11065 xq12 h11078 xq14 a11098 u11099 h11100 h11101 h13828 h15064 h15319 w15320 w15321 r15322 r15323 r15324 h15325 h15346 h15347 w15348 w15351 w15350 w15352 w15354 w15356 w15355 w15358 w15360 w15359 w15361 w15365 w15364 a15366 a15367 ⊢) <;> first | omega | ((try simp (disch := omega) only [zb] at u11064 xq2 h11065 xq12 h11078 xq14 a11098 u11099 h11100 h11101 h13828 h15064 h15319 w15320 w15321 r15322 r15323 r15324 h15325 h15346 h15347 w15348 w15351 w15350 w15352 w15354 w15356 w15355 w15358 w15360 w15359 w15361 w15365 w15364 a15366 a15367 ⊢) <;> omega))⟩
                    · unfold fX9_pair_250
                      refine sw_ite (fun h15368 => ?_) (fun h15368 => ?_)
                      · unfold fX9_pair_264
                        refine sw_ite (fun h15369 => ?_) (fun h15369 => ?_)
                        · have w15370 : mm_I s11 p0 0 = mm_I q2.2 p0 0 := by rw [← es11]; exact rd_k t_p0 tq5 (by decide)
                          have w15373 : rdA s11 p0 9 0 = mm_I s11 q17 ((0 : Int32)).toNatClampNeg := rdA_eq eq17
                          have w15372 : rdA s11 p0 9 0 = rdA q2.2 p0 9 0 := by rw [← es11]; exact rdA_k cq2 t_p0 (κ' := 59) rfl tq5 (by decide)
                          have w15374 := rdA_fr (k := 9) (j := 0) gq2 c0 t_p0 (κ' := 59) rfl rfl rfl
                          have w15376 : rdA s11 p0 10 0 = rdA q2.2 p0 10 0 := by rw [← es11]; exact rdA_j (by decide)
                          have w15378 : rdA q2.2 p0 10 0 = mm_I q2.2 q5 ((0 : Int32)).toNatClampNeg := rdA_eq eq5
                          have w15377 := rdA_fr (k := 10) (j := 0) gq2 c0 t_p0 (κ' := 60) rfl rfl rfl
                          have w15380 : rdA s11 p0 10 1 = -1 := by rw [← es11]; exact rdA_self eq5
                          have w15382 : rdA s11 p0 9 1 = mm_I s11 q17 ((1 : Int32)).toNatClampNeg := rdA_eq eq17
                          have w15381 : rdA s11 p0 9 1 = rdA q2.2 p0 9 1 := by rw [← es11]; exact rdA_k cq2 t_p0 (κ' := 59) rfl tq5 (by decide)
                          have w15383 := rdA_fr (k := 9) (j := 1) gq2 c0 t_p0 (κ' := 59) rfl rfl rfl
                          have w15387 : rdA q2.2 p0 10 1 = mm_I q2.2 q5 ((1 : Int32)).toNatClampNeg := rdA_eq eq5
                          have w15386 := rdA_fr (k := 10) (j := 1) gq2 c0 t_p0 (κ' := 60) rfl rfl rfl
                          have a15388 := zi_and p3 127 (by decide)
                          have a15389 := zi_and p2 8 (by decide)
                          exact sw_some ⟨cs11, fs11, (by (try simp only [zp, zo, zq] at u11064 xq2 h11065 xq12 h11078 xq14 a11098 u11099 h11100 h11101 h13828 h15064 h15319 w15320 w15321 r15322 r15323 r15324 h15325 h15346 h15347 h15368 h15369 w15370 w15373 w15372 w15374 w15376 w15378 w15377 w15380 w15382 w15381 w15383 w15387 w15386 a15388 a15389 ⊢) <;> (try simp only [zz, Int32.reduceToInt, ne_eq] at u11064 xq2 h11065 xq12 h11078 xq14 a11098 u11099 h11100 h11101 h13828 h15064 h15319 w15320 w15321 r15322 r15323 r15324 h15325 h15346 h15347 h15368 h15369 w15370 w15373 w15372 w15374 w15376 w15378 w15377 w15380 w15382 w15381 w15383 w15387 w15386 a15388 a15389 ⊢) <;> (try simp (disch := omega) only [zb] at u11064 xq2 h11065 xq12 h11078 xq14 a11098 u11099 h11100 h11101 h13828 h15064 h15319 w15320 w15321 r15322 r15323 r15324 h15325 h15346 h15347 h15368 h15369 w15370 w15373 w15372 w15374 w15376 w15378 w15377 w15380 w15382 w15381 w15383 w15387 w15386 a15388 a15389 ⊢) <;> first | omega | ((try simp (disch := omega) only [zb] at u11064 xq2 h11065 xq12 h11078 xq14 a11098 u11099 h11100 h11101 h13828 h15064 h15319 w15320 w15321 r15322 r15323 r15324 h15325 h15346 h15347 h15368 h15369 w15370 w15373 w15372 w15374 w15376 w15378 w15377 w15380 w15382 w15381 w15383 w15387 w15386 a15388 a15389 ⊢) <;> omega))⟩
                        · refine sw_sh (ci_sh cs11 t_p0 rfl) ?_
                          refine sw_on (sX9_put cs11 t_p0 (by (try simp only [zp, zo, zq] at u11064 xq2 h11065 xq12 h11078 xq14 a11098 u11099 h11100 h11101 h13828 h15064 h15319 w15320 w15321 r15322 r15323 r15324 h15325 h15346 h15347 h15368 h15369 ⊢) <;> (try simp only [zz, Int32.reduceToInt, ne_eq] at u11064 xq2 h11065 xq12 h11078 xq14 a11098 u11099 h11100 h11101 h13828 h15064 h15319 w15320 w15321 r15322 r15323 r15324 h15325 h15346 h15347 h15368 h15369 ⊢) <;> (try simp (disch := omega) only [zb] at u11064 xq2 h11065 xq12 h11078 xq14 a11098 u11099 h11100 h11101 h13828 h15064 h15319 w15320 w15321 r15322 r15323 r15324 h15325 h15346 h15347 h15368 h15369 ⊢) <;> first | omega | ((try simp (disch := omega) only [zb] at u11064 xq2 h11065 xq12 h11078 xq14 a11098 u11099 h11100 h11101 h13828 h15064 h15319 w15320 w15321 r15322 r15323 r15324 h15325 h15346 h15347 h15368 h15369 ⊢) <;> omega)) ) ?_
                          intro q28 hqq28
                          obtain ⟨cq28, gq28, xq28⟩ := hqq28
                          have fq28 := fr_trans fs11 gq28 rfl
                          have w15390 := (gq28.2.2 _ _ t_p0 0 rfl).1
                          have w15391 : mm_I s11 p0 0 = mm_I q2.2 p0 0 := by rw [← es11]; exact rd_k t_p0 tq5 (by decide)
                          have w15393 := rdA_fr (k := 9) (j := 0) gq28 cs11 t_p0 (κ' := 59) rfl rfl rfl
                          have w15395 : rdA s11 p0 9 0 = mm_I s11 q17 ((0 : Int32)).toNatClampNeg := rdA_eq eq17
                          have w15394 : rdA s11 p0 9 0 = rdA q2.2 p0 9 0 := by rw [← es11]; exact rdA_k cq2 t_p0 (κ' := 59) rfl tq5 (by decide)
                          have w15396 := rdA_fr (k := 9) (j := 0) gq2 c0 t_p0 (κ' := 59) rfl rfl rfl
                          have w15398 := rdA_fr (k := 10) (j := 0) gq28 cs11 t_p0 (κ' := 60) rfl rfl rfl
                          have w15399 : rdA s11 p0 10 0 = rdA q2.2 p0 10 0 := by rw [← es11]; exact rdA_j (by decide)
                          have w15401 : rdA q2.2 p0 10 0 = mm_I q2.2 q5 ((0 : Int32)).toNatClampNeg := rdA_eq eq5
                          have w15400 := rdA_fr (k := 10) (j := 0) gq2 c0 t_p0 (κ' := 60) rfl rfl rfl
                          have w15403 := rdA_fr (k := 10) (j := 1) gq28 cs11 t_p0 (κ' := 60) rfl rfl rfl
                          have w15404 : rdA s11 p0 10 1 = -1 := by rw [← es11]; exact rdA_self eq5
                          have w15405 := rdA_fr (k := 9) (j := 1) gq28 cs11 t_p0 (κ' := 59) rfl rfl rfl
                          have w15407 : rdA s11 p0 9 1 = mm_I s11 q17 ((1 : Int32)).toNatClampNeg := rdA_eq eq17
                          have w15406 : rdA s11 p0 9 1 = rdA q2.2 p0 9 1 := by rw [← es11]; exact rdA_k cq2 t_p0 (κ' := 59) rfl tq5 (by decide)
                          have w15408 := rdA_fr (k := 9) (j := 1) gq2 c0 t_p0 (κ' := 59) rfl rfl rfl
                          have w15412 : rdA q2.2 p0 10 1 = mm_I q2.2 q5 ((1 : Int32)).toNatClampNeg := rdA_eq eq5
                          have w15411 := rdA_fr (k := 10) (j := 1) gq2 c0 t_p0 (κ' := 60) rfl rfl rfl
                          have a15413 := zi_and p3 127 (by decide)
                          have a15414 := zi_and p2 8 (by decide)
                          exact sw_some ⟨cq28, fq28, (by (try simp only [zp, zo, zq] at u11064 xq2 h11065 xq12 h11078 xq14 a11098 u11099 h11100 h11101 h13828 h15064 h15319 w15320 w15321 r15322 r15323 r15324 h15325 h15346 h15347 h15368 h15369 w15390 w15391 w15393 w15395 w15394 w15396 w15398 w15399 w15401 w15400 w15403 w15404 w15405 w15407 w15406 w15408 w15412 w15411 a15413 a15414 ⊢) <;> (try simp only [zz, Int32.reduceToInt, ne_eq] at u11064 xq2 h11065 xq12 h11078 xq14 a11098 u11099 h11100 h11101 h13828 h15064 h15319 w15320 w15321 r15322 r15323 r15324 h15325 h15346 h15347 h15368 h15369 w15390 w15391 w15393 w15395 w15394 w15396 w15398 w15399 w15401 w15400 w15403 w15404 w15405 w15407 w15406 w15408 w15412 w15411 a15413 a15414 ⊢) <;> (try simp (disch := omega) only [zb] at u11064 xq2 h11065 xq12 h11078 xq14 a11098 u11099 h11100 h11101 h13828 h15064 h15319 w15320 w15321 r15322 r15323 r15324 h15325 h15346 h15347 h15368 h15369 w15390 w15391 w15393 w15395 w15394 w15396 w15398 w15399 w15401 w15400 w15403 w15404 w15405 w15407 w15406 w15408 w15412 w15411 a15413 a15414 ⊢) <;> first | omega | ((try simp (disch := omega) only [zb] at u11064 xq2 h11065 xq12 h11078 xq14 a11098 u11099 h11100 h11101 h13828 h15064 h15319 w15320 w15321 r15322 r15323 r15324 h15325 h15346 h15347 h15368 h15369 w15390 w15391 w15393 w15395 w15394 w15396 w15398 w15399 w15401 w15400 w15403 w15404 w15405 w15407 w15406 w15408 w15412 w15411 a15413 a15414 ⊢) <;> omega))⟩
                      · refine sw_sh (ci_sh cs11 t_p0 rfl) ?_
                        refine sw_on (sX9_put cs11 t_p0 (by (try simp only [zp, zo, zq] at u11064 xq2 h11065 xq12 h11078 xq14 a11098 u11099 h11100 h11101 h13828 h15064 h15319 w15320 w15321 r15322 r15323 r15324 h15325 h15346 h15347 h15368 ⊢) <;> (try simp only [zz, Int32.reduceToInt, ne_eq] at u11064 xq2 h11065 xq12 h11078 xq14 a11098 u11099 h11100 h11101 h13828 h15064 h15319 w15320 w15321 r15322 r15323 r15324 h15325 h15346 h15347 h15368 ⊢) <;> (try simp (disch := omega) only [zb] at u11064 xq2 h11065 xq12 h11078 xq14 a11098 u11099 h11100 h11101 h13828 h15064 h15319 w15320 w15321 r15322 r15323 r15324 h15325 h15346 h15347 h15368 ⊢) <;> first | omega | ((try simp (disch := omega) only [zb] at u11064 xq2 h11065 xq12 h11078 xq14 a11098 u11099 h11100 h11101 h13828 h15064 h15319 w15320 w15321 r15322 r15323 r15324 h15325 h15346 h15347 h15368 ⊢) <;> omega)) ) ?_
                        intro q30 hqq30
                        obtain ⟨cq30, gq30, xq30⟩ := hqq30
                        have fq30 := fr_trans fs11 gq30 rfl
                        unfold fX9_pair_264
                        refine sw_ite (fun h15415 => ?_) (fun h15415 => ?_)
                        · have w15416 := (gq30.2.2 _ _ t_p0 0 rfl).1
                          have w15417 : mm_I s11 p0 0 = mm_I q2.2 p0 0 := by rw [← es11]; exact rd_k t_p0 tq5 (by decide)
                          have w15419 := rdA_fr (k := 9) (j := 0) gq30 cs11 t_p0 (κ' := 59) rfl rfl rfl
                          have w15421 : rdA s11 p0 9 0 = mm_I s11 q17 ((0 : Int32)).toNatClampNeg := rdA_eq eq17
                          have w15420 : rdA s11 p0 9 0 = rdA q2.2 p0 9 0 := by rw [← es11]; exact rdA_k cq2 t_p0 (κ' := 59) rfl tq5 (by decide)
                          have w15422 := rdA_fr (k := 9) (j := 0) gq2 c0 t_p0 (κ' := 59) rfl rfl rfl
                          have w15424 := rdA_fr (k := 10) (j := 0) gq30 cs11 t_p0 (κ' := 60) rfl rfl rfl
                          have w15425 : rdA s11 p0 10 0 = rdA q2.2 p0 10 0 := by rw [← es11]; exact rdA_j (by decide)
                          have w15427 : rdA q2.2 p0 10 0 = mm_I q2.2 q5 ((0 : Int32)).toNatClampNeg := rdA_eq eq5
                          have w15426 := rdA_fr (k := 10) (j := 0) gq2 c0 t_p0 (κ' := 60) rfl rfl rfl
                          have w15429 := rdA_fr (k := 10) (j := 1) gq30 cs11 t_p0 (κ' := 60) rfl rfl rfl
                          have w15430 : rdA s11 p0 10 1 = -1 := by rw [← es11]; exact rdA_self eq5
                          have w15431 := rdA_fr (k := 9) (j := 1) gq30 cs11 t_p0 (κ' := 59) rfl rfl rfl
                          have w15433 : rdA s11 p0 9 1 = mm_I s11 q17 ((1 : Int32)).toNatClampNeg := rdA_eq eq17
                          have w15432 : rdA s11 p0 9 1 = rdA q2.2 p0 9 1 := by rw [← es11]; exact rdA_k cq2 t_p0 (κ' := 59) rfl tq5 (by decide)
                          have w15434 := rdA_fr (k := 9) (j := 1) gq2 c0 t_p0 (κ' := 59) rfl rfl rfl
                          have w15438 : rdA q2.2 p0 10 1 = mm_I q2.2 q5 ((1 : Int32)).toNatClampNeg := rdA_eq eq5
                          have w15437 := rdA_fr (k := 10) (j := 1) gq2 c0 t_p0 (κ' := 60) rfl rfl rfl
                          have a15439 := zi_and p3 127 (by decide)
                          have a15440 := zi_and p2 8 (by decide)
                          exact sw_some ⟨cq30, fq30, (by (try simp only [zp, zo, zq] at u11064 xq2 h11065 xq12 h11078 xq14 a11098 u11099 h11100 h11101 h13828 h15064 h15319 w15320 w15321 r15322 r15323 r15324 h15325 h15346 h15347 h15368 h15415 w15416 w15417 w15419 w15421 w15420 w15422 w15424 w15425 w15427 w15426 w15429 w15430 w15431 w15433 w15432 w15434 w15438 w15437 a15439 a15440 ⊢) <;> (try simp only [zz, Int32.reduceToInt, ne_eq] at u11064 xq2 h11065 xq12 h11078 xq14 a11098 u11099 h11100 h11101 h13828 h15064 h15319 w15320 w15321 r15322 r15323 r15324 h15325 h15346 h15347 h15368 h15415 w15416 w15417 w15419 w15421 w15420 w15422 w15424 w15425 w15427 w15426 w15429 w15430 w15431 w15433 w15432 w15434 w15438 w15437 a15439 a15440 ⊢) <;> (try simp (disch := omega) only [zb] at u11064 xq2 h11065 xq12 h11078 xq14 a11098 u11099 h11100 h11101 h13828 h15064 h15319 w15320 w15321 r15322 r15323 r15324 h15325 h15346 h15347 h15368 h15415 w15416 w15417 w15419 w15421 w15420 w15422 w15424 w15425 w15427 w15426 w15429 w15430 w15431 w15433 w15432 w15434 w15438 w15437 a15439 a15440 ⊢) <;> first | omega | ((try simp (disch := omega) only [zb] at u11064 xq2 h11065 xq12 h11078 xq14 a11098 u11099 h11100 h11101 h13828 h15064 h15319 w15320 w15321 r15322 r15323 r15324 h15325 h15346 h15347 h15368 h15415 w15416 w15417 w15419 w15421 w15420 w15422 w15424 w15425 w15427 w15426 w15429 w15430 w15431 w15433 w15432 w15434 w15438 w15437 a15439 a15440 ⊢) <;> omega))⟩
                        · refine sw_sh (ci_sh cq30 t_p0 rfl) ?_
                          refine sw_on (sX9_put cq30 t_p0 (by (try simp only [zp, zo, zq] at u11064 xq2 h11065 xq12 h11078 xq14 a11098 u11099 h11100 h11101 h13828 h15064 h15319 w15320 w15321 r15322 r15323 r15324 h15325 h15346 h15347 h15368 h15415 ⊢) <;> (try simp only [zz, Int32.reduceToInt, ne_eq] at u11064 xq2 h11065 xq12 h11078 xq14 a11098 u11099 h11100 h11101 h13828 h15064 h15319 w15320 w15321 r15322 r15323 r15324 h15325 h15346 h15347 h15368 h15415 ⊢) <;> (try simp (disch := omega) only [zb] at u11064 xq2 h11065 xq12 h11078 xq14 a11098 u11099 h11100 h11101 h13828 h15064 h15319 w15320 w15321 r15322 r15323 r15324 h15325 h15346 h15347 h15368 h15415 ⊢) <;> first | omega | ((try simp (disch := omega) only [zb] at u11064 xq2 h11065 xq12 h11078 xq14 a11098 u11099 h11100 h11101 h13828 h15064 h15319 w15320 w15321 r15322 r15323 r15324 h15325 h15346 h15347 h15368 h15415 ⊢) <;> omega)) ) ?_
                          intro q28 hqq28
                          obtain ⟨cq28, gq28, xq28⟩ := hqq28
                          have fq28 := fr_trans fq30 gq28 rfl
                          have w15441 := (gq28.2.2 _ _ t_p0 0 rfl).1
                          have w15442 := (gq30.2.2 _ _ t_p0 0 rfl).1
                          have w15443 : mm_I s11 p0 0 = mm_I q2.2 p0 0 := by rw [← es11]; exact rd_k t_p0 tq5 (by decide)
                          have w15445 := rdA_fr (k := 9) (j := 0) gq28 cq30 t_p0 (κ' := 59) rfl rfl rfl
                          have w15446 := rdA_fr (k := 9) (j := 0) gq30 cs11 t_p0 (κ' := 59) rfl rfl rfl
                          have w15448 : rdA s11 p0 9 0 = mm_I s11 q17 ((0 : Int32)).toNatClampNeg := rdA_eq eq17
                          have w15447 : rdA s11 p0 9 0 = rdA q2.2 p0 9 0 := by rw [← es11]; exact rdA_k cq2 t_p0 (κ' := 59) rfl tq5 (by decide)
                          have w15449 := rdA_fr (k := 9) (j := 0) gq2 c0 t_p0 (κ' := 59) rfl rfl rfl
                          have w15451 := rdA_fr (k := 10) (j := 0) gq28 cq30 t_p0 (κ' := 60) rfl rfl rfl
                          have w15452 := rdA_fr (k := 10) (j := 0) gq30 cs11 t_p0 (κ' := 60) rfl rfl rfl
                          have w15453 : rdA s11 p0 10 0 = rdA q2.2 p0 10 0 := by rw [← es11]; exact rdA_j (by decide)
                          have w15455 : rdA q2.2 p0 10 0 = mm_I q2.2 q5 ((0 : Int32)).toNatClampNeg := rdA_eq eq5
                          have w15454 := rdA_fr (k := 10) (j := 0) gq2 c0 t_p0 (κ' := 60) rfl rfl rfl
                          have w15457 := rdA_fr (k := 10) (j := 1) gq28 cq30 t_p0 (κ' := 60) rfl rfl rfl
                          have w15458 := rdA_fr (k := 10) (j := 1) gq30 cs11 t_p0 (κ' := 60) rfl rfl rfl
                          have w15459 : rdA s11 p0 10 1 = -1 := by rw [← es11]; exact rdA_self eq5
                          have w15460 := rdA_fr (k := 9) (j := 1) gq28 cq30 t_p0 (κ' := 59) rfl rfl rfl
                          have w15461 := rdA_fr (k := 9) (j := 1) gq30 cs11 t_p0 (κ' := 59) rfl rfl rfl
                          have w15463 : rdA s11 p0 9 1 = mm_I s11 q17 ((1 : Int32)).toNatClampNeg := rdA_eq eq17
                          have w15462 : rdA s11 p0 9 1 = rdA q2.2 p0 9 1 := by rw [← es11]; exact rdA_k cq2 t_p0 (κ' := 59) rfl tq5 (by decide)
                          have w15464 := rdA_fr (k := 9) (j := 1) gq2 c0 t_p0 (κ' := 59) rfl rfl rfl
                          have w15468 : rdA q2.2 p0 10 1 = mm_I q2.2 q5 ((1 : Int32)).toNatClampNeg := rdA_eq eq5
                          have w15467 := rdA_fr (k := 10) (j := 1) gq2 c0 t_p0 (κ' := 60) rfl rfl rfl
                          have a15469 := zi_and p3 127 (by decide)
                          have a15470 := zi_and p2 8 (by decide)
                          exact sw_some ⟨cq28, fq28, (by (try simp only [zp, zo, zq] at u11064 xq2 h11065 xq12 h11078 xq14 a11098 u11099 h11100 h11101 h13828 h15064 h15319 w15320 w15321 r15322 r15323 r15324 h15325 h15346 h15347 h15368 h15415 w15441 w15442 w15443 w15445 w15446 w15448 w15447 w15449 w15451 w15452 w15453 w15455 w15454 w15457 w15458 w15459 w15460 w15461 w15463 w15462 w15464 w15468 w15467 a15469 a15470 ⊢) <;> (try simp only [zz, Int32.reduceToInt, ne_eq] at u11064 xq2 h11065 xq12 h11078 xq14 a11098 u11099 h11100 h11101 h13828 h15064 h15319 w15320 w15321 r15322 r15323 r15324 h15325 h15346 h15347 h15368 h15415 w15441 w15442 w15443 w15445 w15446 w15448 w15447 w15449 w15451 w15452 w15453 w15455 w15454 w15457 w15458 w15459 w15460 w15461 w15463 w15462 w15464 w15468 w15467 a15469 a15470 ⊢) <;> (try simp (disch := omega) only [zb] at u11064 xq2 h11065 xq12 h11078 xq14 a11098 u11099 h11100 h11101 h13828 h15064 h15319 w15320 w15321 r15322 r15323 r15324 h15325 h15346 h15347 h15368 h15415 w15441 w15442 w15443 w15445 w15446 w15448 w15447 w15449 w15451 w15452 w15453 w15455 w15454 w15457 w15458 w15459 w15460 w15461 w15463 w15462 w15464 w15468 w15467 a15469 a15470 ⊢) <;> first | omega | ((try simp (disch := omega) only [zb] at u11064 xq2 h11065 xq12 h11078 xq14 a11098 u11099 h11100 h11101 h13828 h15064 h15319 w15320 w15321 r15322 r15323 r15324 h15325 h15346 h15347 h15368 h15415 w15441 w15442 w15443 w15445 w15446 w15448 w15447 w15449 w15451 w15452 w15453 w15455 w15454 w15457 w15458 w15459 w15460 w15461 w15463 w15462 w15464 w15468 w15467 a15469 a15470 ⊢) <;> omega))⟩
                  · unfold fX9_pair_250
                    refine sw_ite (fun h15471 => ?_) (fun h15471 => ?_)
                    · unfold fX9_pair_264
                      refine sw_ite (fun h15472 => ?_) (fun h15472 => ?_)
                      · have w15473 : mm_I s11 p0 0 = mm_I q2.2 p0 0 := by rw [← es11]; exact rd_k t_p0 tq5 (by decide)
                        have w15476 : rdA s11 p0 9 0 = mm_I s11 q17 ((0 : Int32)).toNatClampNeg := rdA_eq eq17
                        have w15475 : rdA s11 p0 9 0 = rdA q2.2 p0 9 0 := by rw [← es11]; exact rdA_k cq2 t_p0 (κ' := 59) rfl tq5 (by decide)
                        have w15477 := rdA_fr (k := 9) (j := 0) gq2 c0 t_p0 (κ' := 59) rfl rfl rfl
                        have w15479 : rdA s11 p0 10 0 = rdA q2.2 p0 10 0 := by rw [← es11]; exact rdA_j (by decide)
                        have w15481 : rdA q2.2 p0 10 0 = mm_I q2.2 q5 ((0 : Int32)).toNatClampNeg := rdA_eq eq5
                        have w15480 := rdA_fr (k := 10) (j := 0) gq2 c0 t_p0 (κ' := 60) rfl rfl rfl
                        have w15483 : rdA s11 p0 10 1 = -1 := by rw [← es11]; exact rdA_self eq5
                        have w15485 : rdA s11 p0 9 1 = mm_I s11 q17 ((1 : Int32)).toNatClampNeg := rdA_eq eq17
                        have w15484 : rdA s11 p0 9 1 = rdA q2.2 p0 9 1 := by rw [← es11]; exact rdA_k cq2 t_p0 (κ' := 59) rfl tq5 (by decide)
                        have w15486 := rdA_fr (k := 9) (j := 1) gq2 c0 t_p0 (κ' := 59) rfl rfl rfl
                        have w15490 : rdA q2.2 p0 10 1 = mm_I q2.2 q5 ((1 : Int32)).toNatClampNeg := rdA_eq eq5
                        have w15489 := rdA_fr (k := 10) (j := 1) gq2 c0 t_p0 (κ' := 60) rfl rfl rfl
                        have a15491 := zi_and p3 127 (by decide)
                        have a15492 := zi_and p2 8 (by decide)
                        exact sw_some ⟨cs11, fs11, (by (try simp only [zp, zo, zq] at u11064 xq2 h11065 xq12 h11078 xq14 a11098 u11099 h11100 h11101 h13828 h15064 h15319 w15320 w15321 r15322 r15323 r15324 h15325 h15346 h15471 h15472 w15473 w15476 w15475 w15477 w15479 w15481 w15480 w15483 w15485 w15484 w15486 w15490 w15489 a15491 a15492 ⊢) <;> (try simp only [zz, Int32.reduceToInt, ne_eq] at u11064 xq2 h11065 xq12 h11078 xq14 a11098 u11099 h11100 h11101 h13828 h15064 h15319 w15320 w15321 r15322 r15323 r15324 h15325 h15346 h15471 h15472 w15473 w15476 w15475 w15477 w15479 w15481 w15480 w15483 w15485 w15484 w15486 w15490 w15489 a15491 a15492 ⊢) <;> (try simp (disch := omega) only [zb] at u11064 xq2 h11065 xq12 h11078 xq14 a11098 u11099 h11100 h11101 h13828 h15064 h15319 w15320 w15321 r15322 r15323 r15324 h15325 h15346 h15471 h15472 w15473 w15476 w15475 w15477 w15479 w15481 w15480 w15483 w15485 w15484 w15486 w15490 w15489 a15491 a15492 ⊢) <;> first | omega | ((try simp (disch := omega) only [zb] at u11064 xq2 h11065 xq12 h11078 xq14 a11098 u11099 h11100 h11101 h13828 h15064 h15319 w15320 w15321 r15322 r15323 r15324 h15325 h15346 h15471 h15472 w15473 w15476 w15475 w15477 w15479 w15481 w15480 w15483 w15485 w15484 w15486 w15490 w15489 a15491 a15492 ⊢) <;> omega))⟩
                      · refine sw_sh (ci_sh cs11 t_p0 rfl) ?_
                        refine sw_on (sX9_put cs11 t_p0 (by (try simp only [zp, zo, zq] at u11064 xq2 h11065 xq12 h11078 xq14 a11098 u11099 h11100 h11101 h13828 h15064 h15319 w15320 w15321 r15322 r15323 r15324 h15325 h15346 h15471 h15472 ⊢) <;> (try simp only [zz, Int32.reduceToInt, ne_eq] at u11064 xq2 h11065 xq12 h11078 xq14 a11098 u11099 h11100 h11101 h13828 h15064 h15319 w15320 w15321 r15322 r15323 r15324 h15325 h15346 h15471 h15472 ⊢) <;> (try simp (disch := omega) only [zb] at u11064 xq2 h11065 xq12 h11078 xq14 a11098 u11099 h11100 h11101 h13828 h15064 h15319 w15320 w15321 r15322 r15323 r15324 h15325 h15346 h15471 h15472 ⊢) <;> first | omega | ((try simp (disch := omega) only [zb] at u11064 xq2 h11065 xq12 h11078 xq14 a11098 u11099 h11100 h11101 h13828 h15064 h15319 w15320 w15321 r15322 r15323 r15324 h15325 h15346 h15471 h15472 ⊢) <;> omega)) ) ?_
                        intro q28 hqq28
                        obtain ⟨cq28, gq28, xq28⟩ := hqq28
                        have fq28 := fr_trans fs11 gq28 rfl
                        have w15493 := (gq28.2.2 _ _ t_p0 0 rfl).1
                        have w15494 : mm_I s11 p0 0 = mm_I q2.2 p0 0 := by rw [← es11]; exact rd_k t_p0 tq5 (by decide)
                        have w15496 := rdA_fr (k := 9) (j := 0) gq28 cs11 t_p0 (κ' := 59) rfl rfl rfl
                        have w15498 : rdA s11 p0 9 0 = mm_I s11 q17 ((0 : Int32)).toNatClampNeg := rdA_eq eq17
                        have w15497 : rdA s11 p0 9 0 = rdA q2.2 p0 9 0 := by rw [← es11]; exact rdA_k cq2 t_p0 (κ' := 59) rfl tq5 (by decide)
                        have w15499 := rdA_fr (k := 9) (j := 0) gq2 c0 t_p0 (κ' := 59) rfl rfl rfl
                        have w15501 := rdA_fr (k := 10) (j := 0) gq28 cs11 t_p0 (κ' := 60) rfl rfl rfl
                        have w15502 : rdA s11 p0 10 0 = rdA q2.2 p0 10 0 := by rw [← es11]; exact rdA_j (by decide)
                        have w15504 : rdA q2.2 p0 10 0 = mm_I q2.2 q5 ((0 : Int32)).toNatClampNeg := rdA_eq eq5
                        have w15503 := rdA_fr (k := 10) (j := 0) gq2 c0 t_p0 (κ' := 60) rfl rfl rfl
                        have w15506 := rdA_fr (k := 10) (j := 1) gq28 cs11 t_p0 (κ' := 60) rfl rfl rfl
                        have w15507 : rdA s11 p0 10 1 = -1 := by rw [← es11]; exact rdA_self eq5
                        have w15508 := rdA_fr (k := 9) (j := 1) gq28 cs11 t_p0 (κ' := 59) rfl rfl rfl
                        have w15510 : rdA s11 p0 9 1 = mm_I s11 q17 ((1 : Int32)).toNatClampNeg := rdA_eq eq17
                        have w15509 : rdA s11 p0 9 1 = rdA q2.2 p0 9 1 := by rw [← es11]; exact rdA_k cq2 t_p0 (κ' := 59) rfl tq5 (by decide)
                        have w15511 := rdA_fr (k := 9) (j := 1) gq2 c0 t_p0 (κ' := 59) rfl rfl rfl
                        have w15515 : rdA q2.2 p0 10 1 = mm_I q2.2 q5 ((1 : Int32)).toNatClampNeg := rdA_eq eq5
                        have w15514 := rdA_fr (k := 10) (j := 1) gq2 c0 t_p0 (κ' := 60) rfl rfl rfl
                        have a15516 := zi_and p3 127 (by decide)
                        have a15517 := zi_and p2 8 (by decide)
                        exact sw_some ⟨cq28, fq28, (by (try simp only [zp, zo, zq] at u11064 xq2 h11065 xq12 h11078 xq14 a11098 u11099 h11100 h11101 h13828 h15064 h15319 w15320 w15321 r15322 r15323 r15324 h15325 h15346 h15471 h15472 w15493 w15494 w15496 w15498 w15497 w15499 w15501 w15502 w15504 w15503 w15506 w15507 w15508 w15510 w15509 w15511 w15515 w15514 a15516 a15517 ⊢) <;> (try simp only [zz, Int32.reduceToInt, ne_eq] at u11064 xq2 h11065 xq12 h11078 xq14 a11098 u11099 h11100 h11101 h13828 h15064 h15319 w15320 w15321 r15322 r15323 r15324 h15325 h15346 h15471 h15472 w15493 w15494 w15496 w15498 w15497 w15499 w15501 w15502 w15504 w15503 w15506 w15507 w15508 w15510 w15509 w15511 w15515 w15514 a15516 a15517 ⊢) <;> (try simp (disch := omega) only [zb] at u11064 xq2 h11065 xq12 h11078 xq14 a11098 u11099 h11100 h11101 h13828 h15064 h15319 w15320 w15321 r15322 r15323 r15324 h15325 h15346 h15471 h15472 w15493 w15494 w15496 w15498 w15497 w15499 w15501 w15502 w15504 w15503 w15506 w15507 w15508 w15510 w15509 w15511 w15515 w15514 a15516 a15517 ⊢) <;> first | omega | ((try simp (disch := omega) only [zb] at u11064 xq2 h11065 xq12 h11078 xq14 a11098 u11099 h11100 h11101 h13828 h15064 h15319 w15320 w15321 r15322 r15323 r15324 h15325 h15346 h15471 h15472 w15493 w15494 w15496 w15498 w15497 w15499 w15501 w15502 w15504 w15503 w15506 w15507 w15508 w15510 w15509 w15511 w15515 w15514 a15516 a15517 ⊢) <;> omega))⟩
                    · refine sw_sh (ci_sh cs11 t_p0 rfl) ?_
                      refine sw_on (sX9_put cs11 t_p0 (by (try simp only [zp, zo, zq] at u11064 xq2 h11065 xq12 h11078 xq14 a11098 u11099 h11100 h11101 h13828 h15064 h15319 w15320 w15321 r15322 r15323 r15324 h15325 h15346 h15471 ⊢) <;> (try simp only [zz, Int32.reduceToInt, ne_eq] at u11064 xq2 h11065 xq12 h11078 xq14 a11098 u11099 h11100 h11101 h13828 h15064 h15319 w15320 w15321 r15322 r15323 r15324 h15325 h15346 h15471 ⊢) <;> (try simp (disch := omega) only [zb] at u11064 xq2 h11065 xq12 h11078 xq14 a11098 u11099 h11100 h11101 h13828 h15064 h15319 w15320 w15321 r15322 r15323 r15324 h15325 h15346 h15471 ⊢) <;> first | omega | ((try simp (disch := omega) only [zb] at u11064 xq2 h11065 xq12 h11078 xq14 a11098 u11099 h11100 h11101 h13828 h15064 h15319 w15320 w15321 r15322 r15323 r15324 h15325 h15346 h15471 ⊢) <;> omega)) ) ?_
                      intro q30 hqq30
                      obtain ⟨cq30, gq30, xq30⟩ := hqq30
                      have fq30 := fr_trans fs11 gq30 rfl
                      unfold fX9_pair_264
                      refine sw_ite (fun h15518 => ?_) (fun h15518 => ?_)
                      · have w15519 := (gq30.2.2 _ _ t_p0 0 rfl).1
                        have w15520 : mm_I s11 p0 0 = mm_I q2.2 p0 0 := by rw [← es11]; exact rd_k t_p0 tq5 (by decide)
                        have w15522 := rdA_fr (k := 9) (j := 0) gq30 cs11 t_p0 (κ' := 59) rfl rfl rfl
                        have w15524 : rdA s11 p0 9 0 = mm_I s11 q17 ((0 : Int32)).toNatClampNeg := rdA_eq eq17
                        have w15523 : rdA s11 p0 9 0 = rdA q2.2 p0 9 0 := by rw [← es11]; exact rdA_k cq2 t_p0 (κ' := 59) rfl tq5 (by decide)
                        have w15525 := rdA_fr (k := 9) (j := 0) gq2 c0 t_p0 (κ' := 59) rfl rfl rfl
                        have w15527 := rdA_fr (k := 10) (j := 0) gq30 cs11 t_p0 (κ' := 60) rfl rfl rfl
                        have w15528 : rdA s11 p0 10 0 = rdA q2.2 p0 10 0 := by rw [← es11]; exact rdA_j (by decide)
                        have w15530 : rdA q2.2 p0 10 0 = mm_I q2.2 q5 ((0 : Int32)).toNatClampNeg := rdA_eq eq5
                        have w15529 := rdA_fr (k := 10) (j := 0) gq2 c0 t_p0 (κ' := 60) rfl rfl rfl
                        have w15532 := rdA_fr (k := 10) (j := 1) gq30 cs11 t_p0 (κ' := 60) rfl rfl rfl
                        have w15533 : rdA s11 p0 10 1 = -1 := by rw [← es11]; exact rdA_self eq5
                        have w15534 := rdA_fr (k := 9) (j := 1) gq30 cs11 t_p0 (κ' := 59) rfl rfl rfl
                        have w15536 : rdA s11 p0 9 1 = mm_I s11 q17 ((1 : Int32)).toNatClampNeg := rdA_eq eq17
                        have w15535 : rdA s11 p0 9 1 = rdA q2.2 p0 9 1 := by rw [← es11]; exact rdA_k cq2 t_p0 (κ' := 59) rfl tq5 (by decide)
                        have w15537 := rdA_fr (k := 9) (j := 1) gq2 c0 t_p0 (κ' := 59) rfl rfl rfl
                        have w15541 : rdA q2.2 p0 10 1 = mm_I q2.2 q5 ((1 : Int32)).toNatClampNeg := rdA_eq eq5
                        have w15540 := rdA_fr (k := 10) (j := 1) gq2 c0 t_p0 (κ' := 60) rfl rfl rfl
                        have a15542 := zi_and p3 127 (by decide)
                        have a15543 := zi_and p2 8 (by decide)
                        exact sw_some ⟨cq30, fq30, (by (try simp only [zp, zo, zq] at u11064 xq2 h11065 xq12 h11078 xq14 a11098 u11099 h11100 h11101 h13828 h15064 h15319 w15320 w15321 r15322 r15323 r15324 h15325 h15346 h15471 h15518 w15519 w15520 w15522 w15524 w15523 w15525 w15527 w15528 w15530 w15529 w15532 w15533 w15534 w15536 w15535 w15537 w15541 w15540 a15542 a15543 ⊢) <;> (try simp only [zz, Int32.reduceToInt, ne_eq] at u11064 xq2 h11065 xq12 h11078 xq14 a11098 u11099 h11100 h11101 h13828 h15064 h15319 w15320 w15321 r15322 r15323 r15324 h15325 h15346 h15471 h15518 w15519 w15520 w15522 w15524 w15523 w15525 w15527 w15528 w15530 w15529 w15532 w15533 w15534 w15536 w15535 w15537 w15541 w15540 a15542 a15543 ⊢) <;> (try simp (disch := omega) only [zb] at u11064 xq2 h11065 xq12 h11078 xq14 a11098 u11099 h11100 h11101 h13828 h15064 h15319 w15320 w15321 r15322 r15323 r15324 h15325 h15346 h15471 h15518 w15519 w15520 w15522 w15524 w15523 w15525 w15527 w15528 w15530 w15529 w15532 w15533 w15534 w15536 w15535 w15537 w15541 w15540 a15542 a15543 ⊢) <;> first | omega | ((try simp (disch := omega) only [zb] at u11064 xq2 h11065 xq12 h11078 xq14 a11098 u11099 h11100 h11101 h13828 h15064 h15319 w15320 w15321 r15322 r15323 r15324 h15325 h15346 h15471 h15518 w15519 w15520 w15522 w15524 w15523 w15525 w15527 w15528 w15530 w15529 w15532 w15533 w15534 w15536 w15535 w15537 w15541 w15540 a15542 a15543 ⊢) <;> omega))⟩
                      · refine sw_sh (ci_sh cq30 t_p0 rfl) ?_
                        refine sw_on (sX9_put cq30 t_p0 (by (try simp only [zp, zo, zq] at u11064 xq2 h11065 xq12 h11078 xq14 a11098 u11099 h11100 h11101 h13828 h15064 h15319 w15320 w15321 r15322 r15323 r15324 h15325 h15346 h15471 h15518 ⊢) <;> (try simp only [zz, Int32.reduceToInt, ne_eq] at u11064 xq2 h11065 xq12 h11078 xq14 a11098 u11099 h11100 h11101 h13828 h15064 h15319 w15320 w15321 r15322 r15323 r15324 h15325 h15346 h15471 h15518 ⊢) <;> (try simp (disch := omega) only [zb] at u11064 xq2 h11065 xq12 h11078 xq14 a11098 u11099 h11100 h11101 h13828 h15064 h15319 w15320 w15321 r15322 r15323 r15324 h15325 h15346 h15471 h15518 ⊢) <;> first | omega | ((try simp (disch := omega) only [zb] at u11064 xq2 h11065 xq12 h11078 xq14 a11098 u11099 h11100 h11101 h13828 h15064 h15319 w15320 w15321 r15322 r15323 r15324 h15325 h15346 h15471 h15518 ⊢) <;> omega)) ) ?_
                        intro q28 hqq28
                        obtain ⟨cq28, gq28, xq28⟩ := hqq28
                        have fq28 := fr_trans fq30 gq28 rfl
                        have w15544 := (gq28.2.2 _ _ t_p0 0 rfl).1
                        have w15545 := (gq30.2.2 _ _ t_p0 0 rfl).1
                        have w15546 : mm_I s11 p0 0 = mm_I q2.2 p0 0 := by rw [← es11]; exact rd_k t_p0 tq5 (by decide)
                        have w15548 := rdA_fr (k := 9) (j := 0) gq28 cq30 t_p0 (κ' := 59) rfl rfl rfl
                        have w15549 := rdA_fr (k := 9) (j := 0) gq30 cs11 t_p0 (κ' := 59) rfl rfl rfl
                        have w15551 : rdA s11 p0 9 0 = mm_I s11 q17 ((0 : Int32)).toNatClampNeg := rdA_eq eq17
                        have w15550 : rdA s11 p0 9 0 = rdA q2.2 p0 9 0 := by rw [← es11]; exact rdA_k cq2 t_p0 (κ' := 59) rfl tq5 (by decide)
                        have w15552 := rdA_fr (k := 9) (j := 0) gq2 c0 t_p0 (κ' := 59) rfl rfl rfl
                        have w15554 := rdA_fr (k := 10) (j := 0) gq28 cq30 t_p0 (κ' := 60) rfl rfl rfl
                        have w15555 := rdA_fr (k := 10) (j := 0) gq30 cs11 t_p0 (κ' := 60) rfl rfl rfl
                        have w15556 : rdA s11 p0 10 0 = rdA q2.2 p0 10 0 := by rw [← es11]; exact rdA_j (by decide)
                        have w15558 : rdA q2.2 p0 10 0 = mm_I q2.2 q5 ((0 : Int32)).toNatClampNeg := rdA_eq eq5
                        have w15557 := rdA_fr (k := 10) (j := 0) gq2 c0 t_p0 (κ' := 60) rfl rfl rfl
                        have w15560 := rdA_fr (k := 10) (j := 1) gq28 cq30 t_p0 (κ' := 60) rfl rfl rfl
                        have w15561 := rdA_fr (k := 10) (j := 1) gq30 cs11 t_p0 (κ' := 60) rfl rfl rfl
                        have w15562 : rdA s11 p0 10 1 = -1 := by rw [← es11]; exact rdA_self eq5
                        have w15563 := rdA_fr (k := 9) (j := 1) gq28 cq30 t_p0 (κ' := 59) rfl rfl rfl
                        have w15564 := rdA_fr (k := 9) (j := 1) gq30 cs11 t_p0 (κ' := 59) rfl rfl rfl
                        have w15566 : rdA s11 p0 9 1 = mm_I s11 q17 ((1 : Int32)).toNatClampNeg := rdA_eq eq17
                        have w15565 : rdA s11 p0 9 1 = rdA q2.2 p0 9 1 := by rw [← es11]; exact rdA_k cq2 t_p0 (κ' := 59) rfl tq5 (by decide)
                        have w15567 := rdA_fr (k := 9) (j := 1) gq2 c0 t_p0 (κ' := 59) rfl rfl rfl
                        have w15571 : rdA q2.2 p0 10 1 = mm_I q2.2 q5 ((1 : Int32)).toNatClampNeg := rdA_eq eq5
                        have w15570 := rdA_fr (k := 10) (j := 1) gq2 c0 t_p0 (κ' := 60) rfl rfl rfl
                        have a15572 := zi_and p3 127 (by decide)
                        have a15573 := zi_and p2 8 (by decide)
                        exact sw_some ⟨cq28, fq28, (by (try simp only [zp, zo, zq] at u11064 xq2 h11065 xq12 h11078 xq14 a11098 u11099 h11100 h11101 h13828 h15064 h15319 w15320 w15321 r15322 r15323 r15324 h15325 h15346 h15471 h15518 w15544 w15545 w15546 w15548 w15549 w15551 w15550 w15552 w15554 w15555 w15556 w15558 w15557 w15560 w15561 w15562 w15563 w15564 w15566 w15565 w15567 w15571 w15570 a15572 a15573 ⊢) <;> (try simp only [zz, Int32.reduceToInt, ne_eq] at u11064 xq2 h11065 xq12 h11078 xq14 a11098 u11099 h11100 h11101 h13828 h15064 h15319 w15320 w15321 r15322 r15323 r15324 h15325 h15346 h15471 h15518 w15544 w15545 w15546 w15548 w15549 w15551 w15550 w15552 w15554 w15555 w15556 w15558 w15557 w15560 w15561 w15562 w15563 w15564 w15566 w15565 w15567 w15571 w15570 a15572 a15573 ⊢) <;> (try simp (disch := omega) only [zb] at u11064 xq2 h11065 xq12 h11078 xq14 a11098 u11099 h11100 h11101 h13828 h15064 h15319 w15320 w15321 r15322 r15323 r15324 h15325 h15346 h15471 h15518 w15544 w15545 w15546 w15548 w15549 w15551 w15550 w15552 w15554 w15555 w15556 w15558 w15557 w15560 w15561 w15562 w15563 w15564 w15566 w15565 w15567 w15571 w15570 a15572 a15573 ⊢) <;> first | omega | ((try simp (disch := omega) only [zb] at u11064 xq2 h11065 xq12 h11078 xq14 a11098 u11099 h11100 h11101 h13828 h15064 h15319 w15320 w15321 r15322 r15323 r15324 h15325 h15346 h15471 h15518 w15544 w15545 w15546 w15548 w15549 w15551 w15550 w15552 w15554 w15555 w15556 w15558 w15557 w15560 w15561 w15562 w15563 w15564 w15566 w15565 w15567 w15571 w15570 a15572 a15573 ⊢) <;> omega))⟩
              · have a15574 := zi_and p3 127 (by decide)
                refine sw_ite (fun h15575 => ?_) (fun h15575 => ?_)
                · unfold fX9_pair_227
                  unfold fX9_pair_228
                  have w15576 : mm_I s11 q17 ((1 : Int32).toNatClampNeg) = mm_I q2.2 q17 ((1 : Int32).toNatClampNeg) := by rw [← es11]; exact rd_k tq17 tq5 (by decide)
                  have w15577 := (gq2.2.2 _ _ tq17 ((1 : Int32).toNatClampNeg) rfl).1
                  have r15578 := ci_rg c0 tq17 ((1 : Int32).toNatClampNeg) (lo := (-1)) (hi := 3) rfl
                  have r15579 := ci_rg cq2 tq17 ((1 : Int32).toNatClampNeg) (lo := (-1)) (hi := 3) rfl
                  have r15580 := ci_rg cs11 tq17 ((1 : Int32).toNatClampNeg) (lo := (-1)) (hi := 3) rfl
                  refine sw_ite (fun h15581 => ?_) (fun h15581 => ?_)
                  · have w15582 : mm_I s11 p0 0 = mm_I q2.2 p0 0 := by rw [← es11]; exact rd_k t_p0 tq5 (by decide)
                    have w15585 : rdA s11 p0 9 0 = mm_I s11 q17 ((0 : Int32)).toNatClampNeg := rdA_eq eq17
                    have w15584 : rdA s11 p0 9 0 = rdA q2.2 p0 9 0 := by rw [← es11]; exact rdA_k cq2 t_p0 (κ' := 59) rfl tq5 (by decide)
                    have w15586 := rdA_fr (k := 9) (j := 0) gq2 c0 t_p0 (κ' := 59) rfl rfl rfl
                    have w15588 : rdA s11 p0 10 0 = rdA q2.2 p0 10 0 := by rw [← es11]; exact rdA_j (by decide)
                    have w15590 : rdA q2.2 p0 10 0 = mm_I q2.2 q5 ((0 : Int32)).toNatClampNeg := rdA_eq eq5
                    have w15589 := rdA_fr (k := 10) (j := 0) gq2 c0 t_p0 (κ' := 60) rfl rfl rfl
                    have w15592 : rdA s11 p0 10 1 = -1 := by rw [← es11]; exact rdA_self eq5
                    have w15594 : rdA s11 p0 9 1 = mm_I s11 q17 ((1 : Int32)).toNatClampNeg := rdA_eq eq17
                    have w15593 : rdA s11 p0 9 1 = rdA q2.2 p0 9 1 := by rw [← es11]; exact rdA_k cq2 t_p0 (κ' := 59) rfl tq5 (by decide)
                    have w15595 := rdA_fr (k := 9) (j := 1) gq2 c0 t_p0 (κ' := 59) rfl rfl rfl
                    have w15599 : rdA q2.2 p0 10 1 = mm_I q2.2 q5 ((1 : Int32)).toNatClampNeg := rdA_eq eq5
                    have w15598 := rdA_fr (k := 10) (j := 1) gq2 c0 t_p0 (κ' := 60) rfl rfl rfl
                    have a15600 := zi_and p2 8 (by decide)
                    exact sw_some ⟨cs11, fs11, (by (try simp only [zp, zo, zq] at u11064 xq2 h11065 xq12 h11078 xq14 a11098 u11099 h11100 h11101 h13828 h15064 h15319 a15574 h15575 w15576 w15577 r15578 r15579 r15580 h15581 w15582 w15585 w15584 w15586 w15588 w15590 w15589 w15592 w15594 w15593 w15595 w15599 w15598 a15600 ⊢) <;> (try simp only [zz, Int32.reduceToInt, ne_eq] at u11064 xq2 h11065 xq12 h11078 xq14 a11098 u11099 h11100 h11101 h13828 h15064 h15319 a15574 h15575 w15576 w15577 r15578 r15579 r15580 h15581 w15582 w15585 w15584 w15586 w15588 w15590 w15589 w15592 w15594 w15593 w15595 w15599 w15598 a15600 ⊢) <;> (try simp (disch := omega) only [zb] at u11064 xq2 h11065 xq12 h11078 xq14 a11098 u11099 h11100 h11101 h13828 h15064 h15319 a15574 h15575 w15576 w15577 r15578 r15579 r15580 h15581 w15582 w15585 w15584 w15586 w15588 w15590 w15589 w15592 w15594 w15593 w15595 w15599 w15598 a15600 ⊢) <;> first | omega | ((try simp (disch := omega) only [zb] at u11064 xq2 h11065 xq12 h11078 xq14 a11098 u11099 h11100 h11101 h13828 h15064 h15319 a15574 h15575 w15576 w15577 r15578 r15579 r15580 h15581 w15582 w15585 w15584 w15586 w15588 w15590 w15589 w15592 w15594 w15593 w15595 w15599 w15598 a15600 ⊢) <;> omega))⟩
                  · refine sw_ite (fun h15601 => ?_) (fun h15601 => ?_)
                    · refine sw_ite (fun h15602 => ?_) (fun h15602 => ?_)
                      · have w15603 : mm_I s11 p0 0 = mm_I q2.2 p0 0 := by rw [← es11]; exact rd_k t_p0 tq5 (by decide)
                        have w15606 : rdA s11 p0 9 0 = mm_I s11 q17 ((0 : Int32)).toNatClampNeg := rdA_eq eq17
                        have w15605 : rdA s11 p0 9 0 = rdA q2.2 p0 9 0 := by rw [← es11]; exact rdA_k cq2 t_p0 (κ' := 59) rfl tq5 (by decide)
                        have w15607 := rdA_fr (k := 9) (j := 0) gq2 c0 t_p0 (κ' := 59) rfl rfl rfl
                        have w15609 : rdA s11 p0 10 0 = rdA q2.2 p0 10 0 := by rw [← es11]; exact rdA_j (by decide)
                        have w15611 : rdA q2.2 p0 10 0 = mm_I q2.2 q5 ((0 : Int32)).toNatClampNeg := rdA_eq eq5
                        have w15610 := rdA_fr (k := 10) (j := 0) gq2 c0 t_p0 (κ' := 60) rfl rfl rfl
                        have w15613 : rdA s11 p0 10 1 = -1 := by rw [← es11]; exact rdA_self eq5
                        have w15615 : rdA s11 p0 9 1 = mm_I s11 q17 ((1 : Int32)).toNatClampNeg := rdA_eq eq17
                        have w15614 : rdA s11 p0 9 1 = rdA q2.2 p0 9 1 := by rw [← es11]; exact rdA_k cq2 t_p0 (κ' := 59) rfl tq5 (by decide)
                        have w15616 := rdA_fr (k := 9) (j := 1) gq2 c0 t_p0 (κ' := 59) rfl rfl rfl
                        have w15620 : rdA q2.2 p0 10 1 = mm_I q2.2 q5 ((1 : Int32)).toNatClampNeg := rdA_eq eq5
                        have w15619 := rdA_fr (k := 10) (j := 1) gq2 c0 t_p0 (κ' := 60) rfl rfl rfl
                        have a15621 := zi_and p2 8 (by decide)
                        exact sw_some ⟨cs11, fs11, (by (try simp only [zp, zo, zq] at u11064 xq2 h11065 xq12 h11078 xq14 a11098 u11099 h11100 h11101 h13828 h15064 h15319 a15574 h15575 w15576 w15577 r15578 r15579 r15580 h15581 h15601 h15602 w15603 w15606 w15605 w15607 w15609 w15611 w15610 w15613 w15615 w15614 w15616 w15620 w15619 a15621 ⊢) <;> (try simp only [zz, Int32.reduceToInt, ne_eq] at u11064 xq2 h11065 xq12 h11078 xq14 a11098 u11099 h11100 h11101 h13828 h15064 h15319 a15574 h15575 w15576 w15577 r15578 r15579 r15580 h15581 h15601 h15602 w15603 w15606 w15605 w15607 w15609 w15611 w15610 w15613 w15615 w15614 w15616 w15620 w15619 a15621 ⊢) <;> (try simp (disch := omega) only [zb] at u11064 xq2 h11065 xq12 h11078 xq14 a11098 u11099 h11100 h11101 h13828 h15064 h15319 a15574 h15575 w15576 w15577 r15578 r15579 r15580 h15581 h15601 h15602 w15603 w15606 w15605 w15607 w15609 w15611 w15610 w15613 w15615 w15614 w15616 w15620 w15619 a15621 ⊢) <;> first | omega | ((try simp (disch := omega) only [zb] at u11064 xq2 h11065 xq12 h11078 xq14 a11098 u11099 h11100 h11101 h13828 h15064 h15319 a15574 h15575 w15576 w15577 r15578 r15579 r15580 h15581 h15601 h15602 w15603 w15606 w15605 w15607 w15609 w15611 w15610 w15613 w15615 w15614 w15616 w15620 w15619 a15621 ⊢) <;> omega))⟩
                      · unfold fX9_pair_250
                        refine sw_ite (fun h15622 => ?_) (fun h15622 => ?_)
                        · unfold fX9_pair_264
                          refine sw_ite (fun h15623 => ?_) (fun h15623 => ?_)
                          · have w15624 : mm_I s11 p0 0 = mm_I q2.2 p0 0 := by rw [← es11]; exact rd_k t_p0 tq5 (by decide)
                            have w15627 : rdA s11 p0 9 0 = mm_I s11 q17 ((0 : Int32)).toNatClampNeg := rdA_eq eq17
                            have w15626 : rdA s11 p0 9 0 = rdA q2.2 p0 9 0 := by rw [← es11]; exact rdA_k cq2 t_p0 (κ' := 59) rfl tq5 (by decide)
                            have w15628 := rdA_fr (k := 9) (j := 0) gq2 c0 t_p0 (κ' := 59) rfl rfl rfl
                            have w15630 : rdA s11 p0 10 0 = rdA q2.2 p0 10 0 := by rw [← es11]; exact rdA_j (by decide)
                            have w15632 : rdA q2.2 p0 10 0 = mm_I q2.2 q5 ((0 : Int32)).toNatClampNeg := rdA_eq eq5
                            have w15631 := rdA_fr (k := 10) (j := 0) gq2 c0 t_p0 (κ' := 60) rfl rfl rfl
                            have w15634 : rdA s11 p0 10 1 = -1 := by rw [← es11]; exact rdA_self eq5
                            have w15636 : rdA s11 p0 9 1 = mm_I s11 q17 ((1 : Int32)).toNatClampNeg := rdA_eq eq17
                            have w15635 : rdA s11 p0 9 1 = rdA q2.2 p0 9 1 := by rw [← es11]; exact rdA_k cq2 t_p0 (κ' := 59) rfl tq5 (by decide)
                            have w15637 := rdA_fr (k := 9) (j := 1) gq2 c0 t_p0 (κ' := 59) rfl rfl rfl
                            have w15641 : rdA q2.2 p0 10 1 = mm_I q2.2 q5 ((1 : Int32)).toNatClampNeg := rdA_eq eq5
                            have w15640 := rdA_fr (k := 10) (j := 1) gq2 c0 t_p0 (κ' := 60) rfl rfl rfl
                            have a15642 := zi_and p2 8 (by decide)
                            exact sw_some ⟨cs11, fs11, (by (try simp only [zp, zo, zq] at u11064 xq2 h11065 xq12 h11078 xq14 a11098 u11099 h11100 h11101 h13828 h15064 h15319 a15574 h15575 w15576 w15577 r15578 r15579 r15580 h15581 h15601 h15602 h15622 h15623 w15624 w15627 w15626 w15628 w15630 w15632 w15631 w15634 w15636 w15635 w15637 w15641 w15640 a15642 ⊢) <;> (try simp only [zz, Int32.reduceToInt, ne_eq] at u11064 xq2 h11065 xq12 h11078 xq14 a11098 u11099 h11100 h11101 h13828 h15064 h15319 a15574 h15575 w15576 w15577 r15578 r15579 r15580 h15581 h15601 h15602 h15622 h15623 w15624 w15627 w15626 w15628 w15630 w15632 w15631 w15634 w15636 w15635 w15637 w15641 w15640 a15642 ⊢) <;> (try simp (disch := omega) only [zb] at u11064 xq2 h11065 xq12 h11078 xq14 a11098 u11099 h11100 h11101 h13828 h15064 h15319 a15574 h15575 w15576 w15577 r15578 r15579 r15580 h15581 h15601 h15602 h15622 h15623 w15624 w15627 w15626 w15628 w15630 w15632 w15631 w15634 w15636 w15635 w15637 w15641 w15640 a15642 ⊢) <;> first | omega | ((try simp (disch := omega) only [zb] at u11064 xq2 h11065 xq12 h11078 xq14 a11098 u11099 h11100 h11101 h13828 h15064 h15319 a15574 h15575 w15576 w15577 r15578 r15579 r15580 h15581 h15601 h15602 h15622 h15623 w15624 w15627 w15626 w15628 w15630 w15632 w15631 w15634 w15636 w15635 w15637 w15641 w15640 a15642 ⊢) <;> omega))⟩
                          · refine sw_sh (ci_sh cs11 t_p0 rfl) ?_
                            refine sw_on (sX9_put cs11 t_p0 (by (try simp only [zp, zo, zq] at u11064 xq2 h11065 xq12 h11078 xq14 a11098 u11099 h11100 h11101 h13828 h15064 h15319 a15574 h15575 w15576 w15577 r15578 r15579 r15580 h15581 h15601 h15602 h15622 h15623 ⊢) <;> (try simp only [zz, Int32.reduceToInt, ne_eq] at u11064 xq2 h11065 xq12 h11078 xq14 a11098 u11099 h11100 h11101 h13828 h15064 h15319 a15574 h15575 w15576 w15577 r15578 r15579 r15580 h15581 h15601 h15602 h15622 h15623 ⊢) <;> (try simp (disch := omega) only [zb] at u11064 xq2 h11065 xq12 h11078 xq14 a11098 u11099 h11100 h11101 h13828 h15064 h15319 a15574 h15575 w15576 w15577 r15578 r15579 r15580 h15581 h15601 h15602 h15622 h15623 ⊢) <;> first | omega | ((try simp (disch := omega) only [zb] at u11064 xq2 h11065 xq12 h11078 xq14 a11098 u11099 h11100 h11101 h13828 h15064 h15319 a15574 h15575 w15576 w15577 r15578 r15579 r15580 h15581 h15601 h15602 h15622 h15623 ⊢) <;> omega)) ) ?_
                            intro q28 hqq28
                            obtain ⟨cq28, gq28, xq28⟩ := hqq28
                            have fq28 := fr_trans fs11 gq28 rfl
                            have w15643 := (gq28.2.2 _ _ t_p0 0 rfl).1
                            have w15644 : mm_I s11 p0 0 = mm_I q2.2 p0 0 := by rw [← es11]; exact rd_k t_p0 tq5 (by decide)
                            have w15646 := rdA_fr (k := 9) (j := 0) gq28 cs11 t_p0 (κ' := 59) rfl rfl rfl
                            have w15648 : rdA s11 p0 9 0 = mm_I s11 q17 ((0 : Int32)).toNatClampNeg := rdA_eq eq17
                            have w15647 : rdA s11 p0 9 0 = rdA q2.2 p0 9 0 := by rw [← es11]; exact rdA_k cq2 t_p0 (κ' := 59) rfl tq5 (by decide)
                            have w15649 := rdA_fr (k := 9) (j := 0) gq2 c0 t_p0 (κ' := 59) rfl rfl rfl
                            have w15651 := rdA_fr (k := 10) (j := 0) gq28 cs11 t_p0 (κ' := 60) rfl rfl rfl
                            have w15652 : rdA s11 p0 10 0 = rdA q2.2 p0 10 0 := by rw [← es11]; exact rdA_j (by decide)
                            have w15654 : rdA q2.2 p0 10 0 = mm_I q2.2 q5 ((0 : Int32)).toNatClampNeg := rdA_eq eq5
                            have w15653 := rdA_fr (k := 10) (j := 0) gq2 c0 t_p0 (κ' := 60) rfl rfl rfl
                            have w15656 := rdA_fr (k := 10) (j := 1) gq28 cs11 t_p0 (κ' := 60) rfl rfl rfl
                            have w15657 : rdA s11 p0 10 1 = -1 := by rw [← es11]; exact rdA_self eq5
                            have w15658 := rdA_fr (k := 9) (j := 1) gq28 cs11 t_p0 (κ' := 59) rfl rfl rfl
                            have w15660 : rdA s11 p0 9 1 = mm_I s11 q17 ((1 : Int32)).toNatClampNeg := rdA_eq eq17
                            have w15659 : rdA s11 p0 9 1 = rdA q2.2 p0 9 1 := by rw [← es11]; exact rdA_k cq2 t_p0 (κ' := 59) rfl tq5 (by decide)
                            have w15661 := rdA_fr (k := 9) (j := 1) gq2 c0 t_p0 (κ' := 59) rfl rfl rfl
                            have w15665 : rdA q2.2 p0 10 1 = mm_I q2.2 q5 ((1 : Int32)).toNatClampNeg := rdA_eq eq5
                            have w15664 := rdA_fr (k := 10) (j := 1) gq2 c0 t_p0 (κ' := 60) rfl rfl rfl
                            have a15666 := zi_and p2 8 (by decide)
                            exact sw_some ⟨cq28, fq28, (by (try simp only [zp, zo, zq] at u11064 xq2 h11065 xq12 h11078 xq14 a11098 u11099 h11100 h11101 h13828 h15064 h15319 a15574 h15575 w15576 w15577 r15578 r15579 r15580 h15581 h15601 h15602 h15622 h15623 w15643 w15644 w15646 w15648 w15647 w15649 w15651 w15652 w15654 w15653 w15656 w15657 w15658 w15660 w15659 w15661 w15665 w15664 a15666 ⊢) <;> (try simp only [zz, Int32.reduceToInt, ne_eq] at u11064 xq2 h11065 xq12 h11078 xq14 a11098 u11099 h11100 h11101 h13828 h15064 h15319 a15574 h15575 w15576 w15577 r15578 r15579 r15580 h15581 h15601 h15602 h15622 h15623 w15643 w15644 w15646 w15648 w15647 w15649 w15651 w15652 w15654 w15653 w15656 w15657 w15658 w15660 w15659 w15661 w15665 w15664 a15666 ⊢) <;> (try simp (disch := omega) only [zb] at u11064 xq2 h11065 xq12 h11078 xq14 a11098 u11099 h11100 h11101 h13828 h15064 h15319 a15574 h15575 w15576 w15577 r15578 r15579 r15580 h15581 h15601 h15602 h15622 h15623 w15643 w15644 w15646 w15648 w15647 w15649 w15651 w15652 w15654 w15653 w15656 w15657 w15658 w15660 w15659 w15661 w15665 w15664 a15666 ⊢) <;> first | omega | ((try simp (disch := omega) only [zb] at u11064 xq2 h11065 xq12 h11078 xq14 a11098 u11099 h11100 h11101 h13828 h15064 h15319 a15574 h15575 w15576 w15577 r15578 r15579 r15580 h15581 h15601 h15602 h15622 h15623 w15643 w15644 w15646 w15648 w15647 w15649 w15651 w15652 w15654 w15653 w15656 w15657 w15658 w15660 w15659 w15661 w15665 w15664 a15666 ⊢) <;> omega))⟩
                        · refine sw_sh (ci_sh cs11 t_p0 rfl) ?_
                          refine sw_on (sX9_put cs11 t_p0 (by (try simp only [zp, zo, zq] at u11064 xq2 h11065 xq12 h11078 xq14 a11098 u11099 h11100 h11101 h13828 h15064 h15319 a15574 h15575 w15576 w15577 r15578 r15579 r15580 h15581 h15601 h15602 h15622 ⊢) <;> (try simp only [zz, Int32.reduceToInt, ne_eq] at u11064 xq2 h11065 xq12 h11078 xq14 a11098 u11099 h11100 h11101 h13828 h15064 h15319 a15574 h15575 w15576 w15577 r15578 r15579 r15580 h15581 h15601 h15602 h15622 ⊢) <;> (try simp (disch := omega) only [zb] at u11064 xq2 h11065 xq12 h11078 xq14 a11098 u11099 h11100 h11101 h13828 h15064 h15319 a15574 h15575 w15576 w15577 r15578 r15579 r15580 h15581 h15601 h15602 h15622 ⊢) <;> first | omega | ((try simp (disch := omega) only [zb] at u11064 xq2 h11065 xq12 h11078 xq14 a11098 u11099 h11100 h11101 h13828 h15064 h15319 a15574 h15575 w15576 w15577 r15578 r15579 r15580 h15581 h15601 h15602 h15622 ⊢) <;> omega)) ) ?_
                          intro q30 hqq30
                          obtain ⟨cq30, gq30, xq30⟩ := hqq30
                          have fq30 := fr_trans fs11 gq30 rfl
                          unfold fX9_pair_264
                          refine sw_ite (fun h15667 => ?_) (fun h15667 => ?_)
                          · have w15668 := (gq30.2.2 _ _ t_p0 0 rfl).1
                            have w15669 : mm_I s11 p0 0 = mm_I q2.2 p0 0 := by rw [← es11]; exact rd_k t_p0 tq5 (by decide)
                            have w15671 := rdA_fr (k := 9) (j := 0) gq30 cs11 t_p0 (κ' := 59) rfl rfl rfl
                            have w15673 : rdA s11 p0 9 0 = mm_I s11 q17 ((0 : Int32)).toNatClampNeg := rdA_eq eq17
                            have w15672 : rdA s11 p0 9 0 = rdA q2.2 p0 9 0 := by rw [← es11]; exact rdA_k cq2 t_p0 (κ' := 59) rfl tq5 (by decide)
                            have w15674 := rdA_fr (k := 9) (j := 0) gq2 c0 t_p0 (κ' := 59) rfl rfl rfl
                            have w15676 := rdA_fr (k := 10) (j := 0) gq30 cs11 t_p0 (κ' := 60) rfl rfl rfl
                            have w15677 : rdA s11 p0 10 0 = rdA q2.2 p0 10 0 := by rw [← es11]; exact rdA_j (by decide)
                            have w15679 : rdA q2.2 p0 10 0 = mm_I q2.2 q5 ((0 : Int32)).toNatClampNeg := rdA_eq eq5
                            have w15678 := rdA_fr (k := 10) (j := 0) gq2 c0 t_p0 (κ' := 60) rfl rfl rfl
                            have w15681 := rdA_fr (k := 10) (j := 1) gq30 cs11 t_p0 (κ' := 60) rfl rfl rfl
                            have w15682 : rdA s11 p0 10 1 = -1 := by rw [← es11]; exact rdA_self eq5
                            have w15683 := rdA_fr (k := 9) (j := 1) gq30 cs11 t_p0 (κ' := 59) rfl rfl rfl
                            have w15685 : rdA s11 p0 9 1 = mm_I s11 q17 ((1 : Int32)).toNatClampNeg := rdA_eq eq17
                            have w15684 : rdA s11 p0 9 1 = rdA q2.2 p0 9 1 := by rw [← es11]; exact rdA_k cq2 t_p0 (κ' := 59) rfl tq5 (by decide)
                            have w15686 := rdA_fr (k := 9) (j := 1) gq2 c0 t_p0 (κ' := 59) rfl rfl rfl
                            have w15690 : rdA q2.2 p0 10 1 = mm_I q2.2 q5 ((1 : Int32)).toNatClampNeg := rdA_eq eq5
                            have w15689 := rdA_fr (k := 10) (j := 1) gq2 c0 t_p0 (κ' := 60) rfl rfl rfl
                            have a15691 := zi_and p2 8 (by decide)
                            exact sw_some ⟨cq30, fq30, (by (try simp only [zp, zo, zq] at u11064 xq2 h11065 xq12 h11078 xq14 a11098 u11099 h11100 h11101 h13828 h15064 h15319 a15574 h15575 w15576 w15577 r15578 r15579 r15580 h15581 h15601 h15602 h15622 h15667 w15668 w15669 w15671 w15673 w15672 w15674 w15676 w15677 w15679 w15678 w15681 w15682 w15683 w15685 w15684 w15686 w15690 w15689 a15691 ⊢) <;> (try simp only [zz, Int32.reduceToInt, ne_eq] at u11064 xq2 h11065 xq12 h11078 xq14 a11098 u11099 h11100 h11101 h13828 h15064 h15319 a15574 h15575 w15576 w15577 r15578 r15579 r15580 h15581 h15601 h15602 h15622 h15667 w15668 w15669 w15671 w15673 w15672 w15674 w15676 w15677 w15679 w15678 w15681 w15682 w15683 w15685 w15684 w15686 w15690 w15689 a15691 ⊢) <;> (try simp (disch := omega) only [zb] at u11064 xq2 h11065 xq12 h11078 xq14 a11098 u11099 h11100 h11101 h13828 h15064 h15319 a15574 h15575 w15576 w15577 r15578 r15579 r15580 h15581 h15601 h15602 h15622 h15667 w15668 w15669 w15671 w15673 w15672 w15674 w15676 w15677 w15679 w15678 w15681 w15682 w15683 w15685 w15684 w15686 w15690 w15689 a15691 ⊢) <;> first | omega | ((try simp (disch := omega) only [zb] at u11064 xq2 h11065 xq12 h11078 xq14 a11098 u11099 h11100 h11101 h13828 h15064 h15319 a15574 h15575 w15576 w15577 r15578 r15579 r15580 h15581 h15601 h15602 h15622 h15667 w15668 w15669 w15671 w15673 w15672 w15674 w15676 w15677 w15679 w15678 w15681 w15682 w15683 w15685 w15684 w15686 w15690 w15689 a15691 ⊢) <;> omega))⟩
                          · refine sw_sh (ci_sh cq30 t_p0 rfl) ?_
                            refine sw_on (sX9_put cq30 t_p0 (by (try simp only [zp, zo, zq] at u11064 xq2 h11065 xq12 h11078 xq14 a11098 u11099 h11100 h11101 h13828 h15064 h15319 a15574 h15575 w15576 w15577 r15578 r15579 r15580 h15581 h15601 h15602 h15622 h15667 ⊢) <;> (try simp only [zz, Int32.reduceToInt, ne_eq] at u11064 xq2 h11065 xq12 h11078 xq14 a11098 u11099 h11100 h11101 h13828 h15064 h15319 a15574 h15575 w15576 w15577 r15578 r15579 r15580 h15581 h15601 h15602 h15622 h15667 ⊢) <;> (try simp (disch := omega) only [zb] at u11064 xq2 h11065 xq12 h11078 xq14 a11098 u11099 h11100 h11101 h13828 h15064 h15319 a15574 h15575 w15576 w15577 r15578 r15579 r15580 h15581 h15601 h15602 h15622 h15667 ⊢) <;> first | omega | ((try simp (disch := omega) only [zb] at u11064 xq2 h11065 xq12 h11078 xq14 a11098 u11099 h11100 h11101 h13828 h15064 h15319 a15574 h15575 w15576 w15577 r15578 r15579 r15580 h15581 h15601 h15602 h15622 h15667 ⊢) <;> omega)) ) ?_
                            intro q28 hqq28
                            obtain ⟨cq28, gq28, xq28⟩ := hqq28
                            have fq28 := fr_trans fq30 gq28 rfl
                            have w15692 := (gq28.2.2 _ _ t_p0 0 rfl).1
                            have w15693 := (gq30.2.2 _ _ t_p0 0 rfl).1
                            have w15694 : mm_I s11 p0 0 = mm_I q2.2 p0 0 := by rw [← es11]; exact rd_k t_p0 tq5 (by decide)
                            have w15696 := rdA_fr (k := 9) (j := 0) gq28 cq30 t_p0 (κ' := 59) rfl rfl rfl
                            have w15697 := rdA_fr (k := 9) (j := 0) gq30 cs11 t_p0 (κ' := 59) rfl rfl rfl
                            have w15699 : rdA s11 p0 9 0 = mm_I s11 q17 ((0 : Int32)).toNatClampNeg := rdA_eq eq17
                            have w15698 : rdA s11 p0 9 0 = rdA q2.2 p0 9 0 := by rw [← es11]; exact rdA_k cq2 t_p0 (κ' := 59) rfl tq5 (by decide)
                            have w15700 := rdA_fr (k := 9) (j := 0) gq2 c0 t_p0 (κ' := 59) rfl rfl rfl
                            have w15702 := rdA_fr (k := 10) (j := 0) gq28 cq30 t_p0 (κ' := 60) rfl rfl rfl
                            have w15703 := rdA_fr (k := 10) (j := 0) gq30 cs11 t_p0 (κ' := 60) rfl rfl rfl
                            have w15704 : rdA s11 p0 10 0 = rdA q2.2 p0 10 0 := by rw [← es11]; exact rdA_j (by decide)
                            have w15706 : rdA q2.2 p0 10 0 = mm_I q2.2 q5 ((0 : Int32)).toNatClampNeg := rdA_eq eq5
                            have w15705 := rdA_fr (k := 10) (j := 0) gq2 c0 t_p0 (κ' := 60) rfl rfl rfl
                            have w15708 := rdA_fr (k := 10) (j := 1) gq28 cq30 t_p0 (κ' := 60) rfl rfl rfl
                            have w15709 := rdA_fr (k := 10) (j := 1) gq30 cs11 t_p0 (κ' := 60) rfl rfl rfl
                            have w15710 : rdA s11 p0 10 1 = -1 := by rw [← es11]; exact rdA_self eq5
                            have w15711 := rdA_fr (k := 9) (j := 1) gq28 cq30 t_p0 (κ' := 59) rfl rfl rfl
                            have w15712 := rdA_fr (k := 9) (j := 1) gq30 cs11 t_p0 (κ' := 59) rfl rfl rfl
                            have w15714 : rdA s11 p0 9 1 = mm_I s11 q17 ((1 : Int32)).toNatClampNeg := rdA_eq eq17
                            have w15713 : rdA s11 p0 9 1 = rdA q2.2 p0 9 1 := by rw [← es11]; exact rdA_k cq2 t_p0 (κ' := 59) rfl tq5 (by decide)
                            have w15715 := rdA_fr (k := 9) (j := 1) gq2 c0 t_p0 (κ' := 59) rfl rfl rfl
                            have w15719 : rdA q2.2 p0 10 1 = mm_I q2.2 q5 ((1 : Int32)).toNatClampNeg := rdA_eq eq5
                            have w15718 := rdA_fr (k := 10) (j := 1) gq2 c0 t_p0 (κ' := 60) rfl rfl rfl
                            have a15720 := zi_and p2 8 (by decide)
                            exact sw_some ⟨cq28, fq28, (by (try simp only [zp, zo, zq] at u11064 xq2 h11065 xq12 h11078 xq14 a11098 u11099 h11100 h11101 h13828 h15064 h15319 a15574 h15575 w15576 w15577 r15578 r15579 r15580 h15581 h15601 h15602 h15622 h15667 w15692 w15693 w15694 w15696 w15697 w15699 w15698 w15700 w15702 w15703 w15704 w15706 w15705 w15708 w15709 w15710 w15711 w15712 w15714 w15713 w15715 w15719 w15718 a15720 ⊢) <;> (try simp only [zz, Int32.reduceToInt, ne_eq] at u11064 xq2 h11065 xq12 h11078 xq14 a11098 u11099 h11100 h11101 h13828 h15064 h15319 a15574 h15575 w15576 w15577 r15578 r15579 r15580 h15581 h15601 h15602 h15622 h15667 w15692 w15693 w15694 w15696 w15697 w15699 w15698 w15700 w15702 w15703 w15704 w15706 w15705 w15708 w15709 w15710 w15711 w15712 w15714 w15713 w15715 w15719 w15718 a15720 ⊢) <;> (try simp (disch := omega) only [zb] at u11064 xq2 h11065 xq12 h11078 xq14 a11098 u11099 h11100 h11101 h13828 h15064 h15319 a15574 h15575 w15576 w15577 r15578 r15579 r15580 h15581 h15601 h15602 h15622 h15667 w15692 w15693 w15694 w15696 w15697 w15699 w15698 w15700 w15702 w15703 w15704 w15706 w15705 w15708 w15709 w15710 w15711 w15712 w15714 w15713 w15715 w15719 w15718 a15720 ⊢) <;> first | omega | ((try simp (disch := omega) only [zb] at u11064 xq2 h11065 xq12 h11078 xq14 a11098 u11099 h11100 h11101 h13828 h15064 h15319 a15574 h15575 w15576 w15577 r15578 r15579 r15580 h15581 h15601 h15602 h15622 h15667 w15692 w15693 w15694 w15696 w15697 w15699 w15698 w15700 w15702 w15703 w15704 w15706 w15705 w15708 w15709 w15710 w15711 w15712 w15714 w15713 w15715 w15719 w15718 a15720 ⊢) <;> omega))⟩
                    · unfold fX9_pair_250
                      refine sw_ite (fun h15721 => ?_) (fun h15721 => ?_)
                      · unfold fX9_pair_264
                        refine sw_ite (fun h15722 => ?_) (fun h15722 => ?_)
                        · have w15723 : mm_I s11 p0 0 = mm_I q2.2 p0 0 := by rw [← es11]; exact rd_k t_p0 tq5 (by decide)
                          have w15726 : rdA s11 p0 9 0 = mm_I s11 q17 ((0 : Int32)).toNatClampNeg := rdA_eq eq17
                          have w15725 : rdA s11 p0 9 0 = rdA q2.2 p0 9 0 := by rw [← es11]; exact rdA_k cq2 t_p0 (κ' := 59) rfl tq5 (by decide)
                          have w15727 := rdA_fr (k := 9) (j := 0) gq2 c0 t_p0 (κ' := 59) rfl rfl rfl
                          have w15729 : rdA s11 p0 10 0 = rdA q2.2 p0 10 0 := by rw [← es11]; exact rdA_j (by decide)
                          have w15731 : rdA q2.2 p0 10 0 = mm_I q2.2 q5 ((0 : Int32)).toNatClampNeg := rdA_eq eq5
                          have w15730 := rdA_fr (k := 10) (j := 0) gq2 c0 t_p0 (κ' := 60) rfl rfl rfl
                          have w15733 : rdA s11 p0 10 1 = -1 := by rw [← es11]; exact rdA_self eq5
                          have w15735 : rdA s11 p0 9 1 = mm_I s11 q17 ((1 : Int32)).toNatClampNeg := rdA_eq eq17
                          have w15734 : rdA s11 p0 9 1 = rdA q2.2 p0 9 1 := by rw [← es11]; exact rdA_k cq2 t_p0 (κ' := 59) rfl tq5 (by decide)
                          have w15736 := rdA_fr (k := 9) (j := 1) gq2 c0 t_p0 (κ' := 59) rfl rfl rfl
                          have w15740 : rdA q2.2 p0 10 1 = mm_I q2.2 q5 ((1 : Int32)).toNatClampNeg := rdA_eq eq5
                          have w15739 := rdA_fr (k := 10) (j := 1) gq2 c0 t_p0 (κ' := 60) rfl rfl rfl
                          have a15741 := zi_and p2 8 (by decide)
                          exact sw_some ⟨cs11, fs11, (by (try simp only [zp, zo, zq] at u11064 xq2 h11065 xq12 h11078 xq14 a11098 u11099 h11100 h11101 h13828 h15064 h15319 a15574 h15575 w15576 w15577 r15578 r15579 r15580 h15581 h15601 h15721 h15722 w15723 w15726 w15725 w15727 w15729 w15731 w15730 w15733 w15735 w15734 w15736 w15740 w15739 a15741 ⊢) <;> (try simp only [zz, Int32.reduceToInt, ne_eq] at u11064 xq2 h11065 xq12 h11078 xq14 a11098 u11099 h11100 h11101 h13828 h15064 h15319 a15574 h15575 w15576 w15577 r15578 r15579 r15580 h15581 h15601 h15721 h15722 w15723 w15726 w15725 w15727 w15729 w15731 w15730 w15733 w15735 w15734 w15736 w15740 w15739 a15741 ⊢) <;> (try simp (disch := omega) only [zb] at u11064 xq2 h11065 xq12 h11078 xq14 a11098 u11099 h11100 h11101 h13828 h15064 h15319 a15574 h15575 w15576 w15577 r15578 r15579 r15580 h15581 h15601 h15721 h15722 w15723 w15726 w15725 w15727 w15729 w15731 w15730 w15733 w15735 w15734 w15736 w15740 w15739 a15741 ⊢) <;> first | omega | ((try simp (disch := omega) only [zb] at u11064 xq2 h11065 xq12 h11078 xq14 a11098 u11099 h11100 h11101 h13828 h15064 h15319 a15574 h15575 w15576 w15577 r15578 r15579 r15580 h15581 h15601 h15721 h15722 w15723 w15726 w15725 w15727 w15729 w15731 w15730 w15733 w15735 w15734 w15736 w15740 w15739 a15741 ⊢) <;> omega))⟩
                        · refine sw_sh (ci_sh cs11 t_p0 rfl) ?_
                          refine sw_on (sX9_put cs11 t_p0 (by (try simp only [zp, zo, zq] at u11064 xq2 h11065 xq12 h11078 xq14 a11098 u11099 h11100 h11101 h13828 h15064 h15319 a15574 h15575 w15576 w15577 r15578 r15579 r15580 h15581 h15601 h15721 h15722 ⊢) <;> (try simp only [zz, Int32.reduceToInt, ne_eq] at u11064 xq2 h11065 xq12 h11078 xq14 a11098 u11099 h11100 h11101 h13828 h15064 h15319 a15574 h15575 w15576 w15577 r15578 r15579 r15580 h15581 h15601 h15721 h15722 ⊢) <;> (try simp (disch := omega) only [zb] at u11064 xq2 h11065 xq12 h11078 xq14 a11098 u11099 h11100 h11101 h13828 h15064 h15319 a15574 h15575 w15576 w15577 r15578 r15579 r15580 h15581 h15601 h15721 h15722 ⊢) <;> first | omega | ((try simp (disch := omega) only [zb] at u11064 xq2 h11065 xq12 h11078 xq14 a11098 u11099 h11100 h11101 h13828 h15064 h15319 a15574 h15575 w15576 w15577 r15578 r15579 r15580 h15581 h15601 h15721 h15722 ⊢) <;> omega)) ) ?_
                          intro q28 hqq28
                          obtain ⟨cq28, gq28, xq28⟩ := hqq28
                          have fq28 := fr_trans fs11 gq28 rfl
                          have w15742 := (gq28.2.2 _ _ t_p0 0 rfl).1
                          have w15743 : mm_I s11 p0 0 = mm_I q2.2 p0 0 := by rw [← es11]; exact rd_k t_p0 tq5 (by decide)
                          have w15745 := rdA_fr (k := 9) (j := 0) gq28 cs11 t_p0 (κ' := 59) rfl rfl rfl
                          have w15747 : rdA s11 p0 9 0 = mm_I s11 q17 ((0 : Int32)).toNatClampNeg := rdA_eq eq17
                          have w15746 : rdA s11 p0 9 0 = rdA q2.2 p0 9 0 := by rw [← es11]; exact rdA_k cq2 t_p0 (κ' := 59) rfl tq5 (by decide)
                          have w15748 := rdA_fr (k := 9) (j := 0) gq2 c0 t_p0 (κ' := 59) rfl rfl rfl
                          have w15750 := rdA_fr (k := 10) (j := 0) gq28 cs11 t_p0 (κ' := 60) rfl rfl rfl
                          have w15751 : rdA s11 p0 10 0 = rdA q2.2 p0 10 0 := by rw [← es11]; exact rdA_j (by decide)
                          have w15753 : rdA q2.2 p0 10 0 = mm_I q2.2 q5 ((0 : Int32)).toNatClampNeg := rdA_eq eq5
                          have w15752 := rdA_fr (k := 10) (j := 0) gq2 c0 t_p0 (κ' := 60) rfl rfl rfl
                          have w15755 := rdA_fr (k := 10) (j := 1) gq28 cs11 t_p0 (κ' := 60) rfl rfl rfl
                          have w15756 : rdA s11 p0 10 1 = -1 := by rw [← es11]; exact rdA_self eq5
                          have w15757 := rdA_fr (k := 9) (j := 1) gq28 cs11 t_p0 (κ' := 59) rfl rfl rfl
                          have w15759 : rdA s11 p0 9 1 = mm_I s11 q17 ((1 : Int32)).toNatClampNeg := rdA_eq eq17
                          have w15758 : rdA s11 p0 9 1 = rdA q2.2 p0 9 1 := by rw [← es11]; exact rdA_k cq2 t_p0 (κ' := 59) rfl tq5 (by decide)
                          have w15760 := rdA_fr (k := 9) (j := 1) gq2 c0 t_p0 (κ' := 59) rfl rfl rfl
                          have w15764 : rdA q2.2 p0 10 1 = mm_I q2.2 q5 ((1 : Int32)).toNatClampNeg := rdA_eq eq5
                          have w15763 := rdA_fr (k := 10) (j := 1) gq2 c0 t_p0 (κ' := 60) rfl rfl rfl
                          have a15765 := zi_and p2 8 (by decide)
                          exact sw_some ⟨cq28, fq28, (by (try simp only [zp, zo, zq] at u11064 xq2 h11065 xq12 h11078 xq14 a11098 u11099 h11100 h11101 h13828 h15064 h15319 a15574 h15575 w15576 w15577 r15578 r15579 r15580 h15581 h15601 h15721 h15722 w15742 w15743 w15745 w15747 w15746 w15748 w15750 w15751 w15753 w15752 w15755 w15756 w15757 w15759 w15758 w15760 w15764 w15763 a15765 ⊢) <;> (try simp only [zz, Int32.reduceToInt, ne_eq] at u11064 xq2 h11065 xq12 h11078 xq14 a11098 u11099 h11100 h11101 h13828 h15064 h15319 a15574 h15575 w15576 w15577 r15578 r15579 r15580 h15581 h15601 h15721 h15722 w15742 w15743 w15745 w15747 w15746 w15748 w15750 w15751 w15753 w15752 w15755 w15756 w15757 w15759 w15758 w15760 w15764 w15763 a15765 ⊢) <;> (try simp (disch := omega) only [zb] at u11064 xq2 h11065 xq12 h11078 xq14 a11098 u11099 h11100 h11101 h13828 h15064 h15319 a15574 h15575 w15576 w15577 r15578 r15579 r15580 h15581 h15601 h15721 h15722 w15742 w15743 w15745 w15747 w15746 w15748 w15750 w15751 w15753 w15752 w15755 w15756 w15757 w15759 w15758 w15760 w15764 w15763 a15765 ⊢) <;> first | omega | ((try simp (disch := omega) only [zb] at u11064 xq2 h11065 xq12 h11078 xq14 a11098 u11099 h11100 h11101 h13828 h15064 h15319 a15574 h15575 w15576 w15577 r15578 r15579 r15580 h15581 h15601 h15721 h15722 w15742 w15743 w15745 w15747 w15746 w15748 w15750 w15751 w15753 w15752 w15755 w15756 w15757 w15759 w15758 w15760 w15764 w15763 a15765 ⊢) <;> omega))⟩
                      · refine sw_sh (ci_sh cs11 t_p0 rfl) ?_
                        refine sw_on (sX9_put cs11 t_p0 (by (try simp only [zp, zo, zq] at u11064 xq2 h11065 xq12 h11078 xq14 a11098 u11099 h11100 h11101 h13828 h15064 h15319 a15574 h15575 w15576 w15577 r15578 r15579 r15580 h15581 h15601 h15721 ⊢) <;> (try simp only [zz, Int32.reduceToInt, ne_eq] at u11064 xq2 h11065 xq12 h11078 xq14 a11098 u11099 h11100 h11101 h13828 h15064 h15319 a15574 h15575 w15576 w15577 r15578 r15579 r15580 h15581 h15601 h15721 ⊢) <;> (try simp (disch := omega) only [zb] at u11064 xq2 h11065 xq12 h11078 xq14 a11098 u11099 h11100 h11101 h13828 h15064 h15319 a15574 h15575 w15576 w15577 r15578 r15579 r15580 h15581 h15601 h15721 ⊢) <;> first | omega | ((try simp (disch := omega) only [zb] at u11064 xq2 h11065 xq12 h11078 xq14 a11098 u11099 h11100 h11101 h13828 h15064 h15319 a15574 h15575 w15576 w15577 r15578 r15579 r15580 h15581 h15601 h15721 ⊢) <;> omega)) ) ?_
                        intro q30 hqq30
                        obtain ⟨cq30, gq30, xq30⟩ := hqq30
                        have fq30 := fr_trans fs11 gq30 rfl
                        unfold fX9_pair_264
                        refine sw_ite (fun h15766 => ?_) (fun h15766 => ?_)
                        · have w15767 := (gq30.2.2 _ _ t_p0 0 rfl).1
                          have w15768 : mm_I s11 p0 0 = mm_I q2.2 p0 0 := by rw [← es11]; exact rd_k t_p0 tq5 (by decide)
                          have w15770 := rdA_fr (k := 9) (j := 0) gq30 cs11 t_p0 (κ' := 59) rfl rfl rfl
                          have w15772 : rdA s11 p0 9 0 = mm_I s11 q17 ((0 : Int32)).toNatClampNeg := rdA_eq eq17
                          have w15771 : rdA s11 p0 9 0 = rdA q2.2 p0 9 0 := by rw [← es11]; exact rdA_k cq2 t_p0 (κ' := 59) rfl tq5 (by decide)
                          have w15773 := rdA_fr (k := 9) (j := 0) gq2 c0 t_p0 (κ' := 59) rfl rfl rfl
                          have w15775 := rdA_fr (k := 10) (j := 0) gq30 cs11 t_p0 (κ' := 60) rfl rfl rfl
                          have w15776 : rdA s11 p0 10 0 = rdA q2.2 p0 10 0 := by rw [← es11]; exact rdA_j (by decide)
                          have w15778 : rdA q2.2 p0 10 0 = mm_I q2.2 q5 ((0 : Int32)).toNatClampNeg := rdA_eq eq5
                          have w15777 := rdA_fr (k := 10) (j := 0) gq2 c0 t_p0 (κ' := 60) rfl rfl rfl
                          have w15780 := rdA_fr (k := 10) (j := 1) gq30 cs11 t_p0 (κ' := 60) rfl rfl rfl
                          have w15781 : rdA s11 p0 10 1 = -1 := by rw [← es11]; exact rdA_self eq5
                          have w15782 := rdA_fr (k := 9) (j := 1) gq30 cs11 t_p0 (κ' := 59) rfl rfl rfl
                          have w15784 : rdA s11 p0 9 1 = mm_I s11 q17 ((1 : Int32)).toNatClampNeg := rdA_eq eq17
                          have w15783 : rdA s11 p0 9 1 = rdA q2.2 p0 9 1 := by rw [← es11]; exact rdA_k cq2 t_p0 (κ' := 59) rfl tq5 (by decide)
                          have w15785 := rdA_fr (k := 9) (j := 1) gq2 c0 t_p0 (κ' := 59) rfl rfl rfl
                          have w15789 : rdA q2.2 p0 10 1 = mm_I q2.2 q5 ((1 : Int32)).toNatClampNeg := rdA_eq eq5
                          have w15788 := rdA_fr (k := 10) (j := 1) gq2 c0 t_p0 (κ' := 60) rfl rfl rfl
                          have a15790 := zi_and p2 8 (by decide)
                          exact sw_some ⟨cq30, fq30, (by (try simp only [zp, zo, zq] at u11064 xq2 h11065 xq12 h11078 xq14 a11098 u11099 h11100 h11101 h13828 h15064 h15319 a15574 h15575 w15576 w15577 r15578 r15579 r15580 h15581 h15601 h15721 h15766 w15767 w15768 w15770 w15772 w15771 w15773 w15775 w15776 w15778 w15777 w15780 w15781 w15782 w15784 w15783 w15785 w15789 w15788 a15790 ⊢) <;> (try simp only [zz, Int32.reduceToInt, ne_eq] at u11064 xq2 h11065 xq12 h11078 xq14 a11098 u11099 h11100 h11101 h13828 h15064 h15319 a15574 h15575 w15576 w15577 r15578 r15579 r15580 h15581 h15601 h15721 h15766 w15767 w15768 w15770 w15772 w15771 w15773 w15775 w15776 w15778 w15777 w15780 w15781 w15782 w15784 w15783 w15785 w15789 w15788 a15790 ⊢) <;> (try simp (disch := omega) only [zb] at u11064 xq2 h11065 xq12 h11078 xq14 a11098 u11099 h11100 h11101 h13828 h15064 h15319 a15574 h15575 w15576 w15577 r15578 r15579 r15580 h15581 h15601 h15721 h15766 w15767 w15768 w15770 w15772 w15771 w15773 w15775 w15776 w15778 w15777 w15780 w15781 w15782 w15784 w15783 w15785 w15789 w15788 a15790 ⊢) <;> first | omega | ((try simp (disch := omega) only [zb] at u11064 xq2 h11065 xq12 h11078 xq14 a11098 u11099 h11100 h11101 h13828 h15064 h15319 a15574 h15575 w15576 w15577 r15578 r15579 r15580 h15581 h15601 h15721 h15766 w15767 w15768 w15770 w15772 w15771 w15773 w15775 w15776 w15778 w15777 w15780 w15781 w15782 w15784 w15783 w15785 w15789 w15788 a15790 ⊢) <;> omega))⟩
                        · refine sw_sh (ci_sh cq30 t_p0 rfl) ?_
                          refine sw_on (sX9_put cq30 t_p0 (by (try simp only [zp, zo, zq] at u11064 xq2 h11065 xq12 h11078 xq14 a11098 u11099 h11100 h11101 h13828 h15064 h15319 a15574 h15575 w15576 w15577 r15578 r15579 r15580 h15581 h15601 h15721 h15766 ⊢) <;> (try simp only [zz, Int32.reduceToInt, ne_eq] at u11064 xq2 h11065 xq12 h11078 xq14 a11098 u11099 h11100 h11101 h13828 h15064 h15319 a15574 h15575 w15576 w15577 r15578 r15579 r15580 h15581 h15601 h15721 h15766 ⊢) <;> (try simp (disch := omega) only [zb] at u11064 xq2 h11065 xq12 h11078 xq14 a11098 u11099 h11100 h11101 h13828 h15064 h15319 a15574 h15575 w15576 w15577 r15578 r15579 r15580 h15581 h15601 h15721 h15766 ⊢) <;> first | omega | ((try simp (disch := omega) only [zb] at u11064 xq2 h11065 xq12 h11078 xq14 a11098 u11099 h11100 h11101 h13828 h15064 h15319 a15574 h15575 w15576 w15577 r15578 r15579 r15580 h15581 h15601 h15721 h15766 ⊢) <;> omega)) ) ?_
                          intro q28 hqq28
                          obtain ⟨cq28, gq28, xq28⟩ := hqq28
                          have fq28 := fr_trans fq30 gq28 rfl
                          have w15791 := (gq28.2.2 _ _ t_p0 0 rfl).1
                          have w15792 := (gq30.2.2 _ _ t_p0 0 rfl).1
                          have w15793 : mm_I s11 p0 0 = mm_I q2.2 p0 0 := by rw [← es11]; exact rd_k t_p0 tq5 (by decide)
                          have w15795 := rdA_fr (k := 9) (j := 0) gq28 cq30 t_p0 (κ' := 59) rfl rfl rfl
                          have w15796 := rdA_fr (k := 9) (j := 0) gq30 cs11 t_p0 (κ' := 59) rfl rfl rfl
                          have w15798 : rdA s11 p0 9 0 = mm_I s11 q17 ((0 : Int32)).toNatClampNeg := rdA_eq eq17
                          have w15797 : rdA s11 p0 9 0 = rdA q2.2 p0 9 0 := by rw [← es11]; exact rdA_k cq2 t_p0 (κ' := 59) rfl tq5 (by decide)
                          have w15799 := rdA_fr (k := 9) (j := 0) gq2 c0 t_p0 (κ' := 59) rfl rfl rfl
                          have w15801 := rdA_fr (k := 10) (j := 0) gq28 cq30 t_p0 (κ' := 60) rfl rfl rfl
                          have w15802 := rdA_fr (k := 10) (j := 0) gq30 cs11 t_p0 (κ' := 60) rfl rfl rfl
                          have w15803 : rdA s11 p0 10 0 = rdA q2.2 p0 10 0 := by rw [← es11]; exact rdA_j (by decide)
                          have w15805 : rdA q2.2 p0 10 0 = mm_I q2.2 q5 ((0 : Int32)).toNatClampNeg := rdA_eq eq5
                          have w15804 := rdA_fr (k := 10) (j := 0) gq2 c0 t_p0 (κ' := 60) rfl rfl rfl
                          have w15807 := rdA_fr (k := 10) (j := 1) gq28 cq30 t_p0 (κ' := 60) rfl rfl rfl
                          have w15808 := rdA_fr (k := 10) (j := 1) gq30 cs11 t_p0 (κ' := 60) rfl rfl rfl
                          have w15809 : rdA s11 p0 10 1 = -1 := by rw [← es11]; exact rdA_self eq5
                          have w15810 := rdA_fr (k := 9) (j := 1) gq28 cq30 t_p0 (κ' := 59) rfl rfl rfl
                          have w15811 := rdA_fr (k := 9) (j := 1) gq30 cs11 t_p0 (κ' := 59) rfl rfl rfl
                          have w15813 : rdA s11 p0 9 1 = mm_I s11 q17 ((1 : Int32)).toNatClampNeg := rdA_eq eq17
                          have w15812 : rdA s11 p0 9 1 = rdA q2.2 p0 9 1 := by rw [← es11]; exact rdA_k cq2 t_p0 (κ' := 59) rfl tq5 (by decide)
                          have w15814 := rdA_fr (k := 9) (j := 1) gq2 c0 t_p0 (κ' := 59) rfl rfl rfl
                          have w15818 : rdA q2.2 p0 10 1 = mm_I q2.2 q5 ((1 : Int32)).toNatClampNeg := rdA_eq eq5
                          have w15817 := rdA_fr (k := 10) (j := 1) gq2 c0 t_p0 (κ' := 60) rfl rfl rfl
                          have a15819 := zi_and p2 8 (by decide)
                          exact sw_some ⟨cq28, fq28, (by (try simp only [zp, zo, zq] at u11064 xq2 h11065 xq12 h11078 xq14 a11098 u11099 h11100 h11101 h13828 h15064 h15319 a15574 h15575 w15576 w15577 r15578 r15579 r15580 h15581 h15601 h15721 h15766 w15791 w15792 w15793 w15795 w15796 w15798 w15797 w15799 w15801 w15802 w15803 w15805 w15804 w15807 w15808 w15809 w15810 w15811 w15813 w15812 w15814 w15818 w15817 a15819 ⊢) <;> (try simp only [zz, Int32.reduceToInt, ne_eq] at u11064 xq2 h11065 xq12 h11078 xq14 a11098 u11099 h11100 h11101 h13828 h15064 h15319 a15574 h15575 w15576 w15577 r15578 r15579 r15580 h15581 h15601 h15721 h15766 w15791 w15792 w15793 w15795 w15796 w15798 w15797 w15799 w15801 w15802 w15803 w15805 w15804 w15807 w15808 w15809 w15810 w15811 w15813 w15812 w15814 w15818 w15817 a15819 ⊢) <;> (try simp (disch := omega) only [zb] at u11064 xq2 h11065 xq12 h11078 xq14 a11098 u11099 h11100 h11101 h13828 h15064 h15319 a15574 h15575 w15576 w15577 r15578 r15579 r15580 h15581 h15601 h15721 h15766 w15791 w15792 w15793 w15795 w15796 w15798 w15797 w15799 w15801 w15802 w15803 w15805 w15804 w15807 w15808 w15809 w15810 w15811 w15813 w15812 w15814 w15818 w15817 a15819 ⊢) <;> first | omega | ((try simp (disch := omega) only [zb] at u11064 xq2 h11065 xq12 h11078 xq14 a11098 u11099 h11100 h11101 h13828 h15064 h15319 a15574 h15575 w15576 w15577 r15578 r15579 r15580 h15581 h15601 h15721 h15766 w15791 w15792 w15793 w15795 w15796 w15798 w15797 w15799 w15801 w15802 w15803 w15805 w15804 w15807 w15808 w15809 w15810 w15811 w15813 w15812 w15814 w15818 w15817 a15819 ⊢) <;> omega))⟩
                · refine sw_ite (fun h15820 => ?_) (fun h15820 => ?_)
                  · unfold fX9_pair_222
                    unfold fX9_pair_228
                    have w15821 : mm_I s11 q17 ((1 : Int32).toNatClampNeg) = mm_I q2.2 q17 ((1 : Int32).toNatClampNeg) := by rw [← es11]; exact rd_k tq17 tq5 (by decide)
                    have w15822 := (gq2.2.2 _ _ tq17 ((1 : Int32).toNatClampNeg) rfl).1
                    have r15823 := ci_rg c0 tq17 ((1 : Int32).toNatClampNeg) (lo := (-1)) (hi := 3) rfl
                    have r15824 := ci_rg cq2 tq17 ((1 : Int32).toNatClampNeg) (lo := (-1)) (hi := 3) rfl
                    have r15825 := ci_rg cs11 tq17 ((1 : Int32).toNatClampNeg) (lo := (-1)) (hi := 3) rfl
                    refine sw_ite (fun h15826 => ?_) (fun h15826 => ?_)
                    · have w15827 : mm_I s11 p0 0 = mm_I q2.2 p0 0 := by rw [← es11]; exact rd_k t_p0 tq5 (by decide)
                      have w15830 : rdA s11 p0 9 0 = mm_I s11 q17 ((0 : Int32)).toNatClampNeg := rdA_eq eq17
                      have w15829 : rdA s11 p0 9 0 = rdA q2.2 p0 9 0 := by rw [← es11]; exact rdA_k cq2 t_p0 (κ' := 59) rfl tq5 (by decide)
                      have w15831 := rdA_fr (k := 9) (j := 0) gq2 c0 t_p0 (κ' := 59) rfl rfl rfl
                      have w15833 : rdA s11 p0 10 0 = rdA q2.2 p0 10 0 := by rw [← es11]; exact rdA_j (by decide)
                      have w15835 : rdA q2.2 p0 10 0 = mm_I q2.2 q5 ((0 : Int32)).toNatClampNeg := rdA_eq eq5
                      have w15834 := rdA_fr (k := 10) (j := 0) gq2 c0 t_p0 (κ' := 60) rfl rfl rfl
                      have w15837 : rdA s11 p0 10 1 = -1 := by rw [← es11]; exact rdA_self eq5
                      have w15839 : rdA s11 p0 9 1 = mm_I s11 q17 ((1 : Int32)).toNatClampNeg := rdA_eq eq17
                      have w15838 : rdA s11 p0 9 1 = rdA q2.2 p0 9 1 := by rw [← es11]; exact rdA_k cq2 t_p0 (κ' := 59) rfl tq5 (by decide)
                      have w15840 := rdA_fr (k := 9) (j := 1) gq2 c0 t_p0 (κ' := 59) rfl rfl rfl
                      have w15844 : rdA q2.2 p0 10 1 = mm_I q2.2 q5 ((1 : Int32)).toNatClampNeg := rdA_eq eq5
                      have w15843 := rdA_fr (k := 10) (j := 1) gq2 c0 t_p0 (κ' := 60) rfl rfl rfl
                      have a15845 := zi_and p2 8 (by decide)
                      exact sw_some ⟨cs11, fs11, (by (try simp only [zp, zo, zq] at u11064 xq2 h11065 xq12 h11078 xq14 a11098 u11099 h11100 h11101 h13828 h15064 h15319 a15574 h15575 h15820 w15821 w15822 r15823 r15824 r15825 h15826 w15827 w15830 w15829 w15831 w15833 w15835 w15834 w15837 w15839 w15838 w15840 w15844 w15843 a15845 ⊢) <;> (try simp only [zz, Int32.reduceToInt, ne_eq] at u11064 xq2 h11065 xq12 h11078 xq14 a11098 u11099 h11100 h11101 h13828 h15064 h15319 a15574 h15575 h15820 w15821 w15822 r15823 r15824 r15825 h15826 w15827 w15830 w15829 w15831 w15833 w15835 w15834 w15837 w15839 w15838 w15840 w15844 w15843 a15845 ⊢) <;> (try simp (disch := omega) only [zb] at u11064 xq2 h11065 xq12 h11078 xq14 a11098 u11099 h11100 h11101 h13828 h15064 h15319 a15574 h15575 h15820 w15821 w15822 r15823 r15824 r15825 h15826 w15827 w15830 w15829 w15831 w15833 w15835 w15834 w15837 w15839 w15838 w15840 w15844 w15843 a15845 ⊢) <;> first | omega | ((try simp (disch := omega) only [zb] at u11064 xq2 h11065 xq12 h11078 xq14 a11098 u11099 h11100 h11101 h13828 h15064 h15319 a15574 h15575 h15820 w15821 w15822 r15823 r15824 r15825 h15826 w15827 w15830 w15829 w15831 w15833 w15835 w15834 w15837 w15839 w15838 w15840 w15844 w15843 a15845 ⊢) <;> omega))⟩
                    · refine sw_ite (fun h15846 => ?_) (fun h15846 => ?_)
                      · refine sw_ite (fun h15847 => ?_) (fun h15847 => ?_)
                        · have w15848 : mm_I s11 p0 0 = mm_I q2.2 p0 0 := by rw [← es11]; exact rd_k t_p0 tq5 (by decide)
                          have w15851 : rdA s11 p0 9 0 = mm_I s11 q17 ((0 : Int32)).toNatClampNeg := rdA_eq eq17
                          have w15850 : rdA s11 p0 9 0 = rdA q2.2 p0 9 0 := by rw [← es11]; exact rdA_k cq2 t_p0 (κ' := 59) rfl tq5 (by decide)
                          have w15852 := rdA_fr (k := 9) (j := 0) gq2 c0 t_p0 (κ' := 59) rfl rfl rfl
                          have w15854 : rdA s11 p0 10 0 = rdA q2.2 p0 10 0 := by rw [← es11]; exact rdA_j (by decide)
                          have w15856 : rdA q2.2 p0 10 0 = mm_I q2.2 q5 ((0 : Int32)).toNatClampNeg := rdA_eq eq5
                          have w15855 := rdA_fr (k := 10) (j := 0) gq2 c0 t_p0 (κ' := 60) rfl rfl rfl
                          have w15858 : rdA s11 p0 10 1 = -1 := by rw [← es11]; exact rdA_self eq5
                          have w15860 : rdA s11 p0 9 1 = mm_I s11 q17 ((1 : Int32)).toNatClampNeg := rdA_eq eq17
                          have w15859 : rdA s11 p0 9 1 = rdA q2.2 p0 9 1 := by rw [← es11]; exact rdA_k cq2 t_p0 (κ' := 59) rfl tq5 (by decide)
                          have w15861 := rdA_fr (k := 9) (j := 1) gq2 c0 t_p0 (κ' := 59) rfl rfl rfl
                          have w15865 : rdA q2.2 p0 10 1 = mm_I q2.2 q5 ((1 : Int32)).toNatClampNeg := rdA_eq eq5
                          have w15864 := rdA_fr (k := 10) (j := 1) gq2 c0 t_p0 (κ' := 60) rfl rfl rfl
                          have a15866 := zi_and p2 8 (by decide)
                          exact sw_some ⟨cs11, fs11, (by (try simp only [zp, zo, zq] at u11064 xq2 h11065 xq12 h11078 xq14 a11098 u11099 h11100 h11101 h13828 h15064 h15319 a15574 h15575 h15820 w15821 w15822 r15823 r15824 r15825 h15826 h15846 h15847 w15848 w15851 w15850 w15852 w15854 w15856 w15855 w15858 w15860 w15859 w15861 w15865 w15864 a15866 ⊢) <;> (try simp only [zz, Int32.reduceToInt, ne_eq] at u11064 xq2 h11065 xq12 h11078 xq14 a11098 u11099 h11100 h11101 h13828 h15064 h15319 a15574 h15575 h15820 w15821 w15822 r15823 r15824 r15825 h15826 h15846 h15847 w15848 w15851 w15850 w15852 w15854 w15856 w15855 w15858 w15860 w15859 w15861 w15865 w15864 a15866 ⊢) <;> (try simp (disch := omega) only [zb] at u11064 xq2 h11065 xq12 h11078 xq14 a11098 u11099 h11100 h11101 h13828 h15064 h15319 a15574 h15575 h15820 w15821 w15822 r15823 r15824 r15825 h15826 h15846 h15847 w15848 w15851 w15850 w15852 w15854 w15856 w15855 w15858 w15860 w15859 w15861 w15865 w15864 a15866 ⊢) <;> first | omega | ((try simp (disch := omega) only [zb] at u11064 xq2 h11065 xq12 h11078 xq14 a11098 u11099 h11100 h11101 h13828 h15064 h15319 a15574 h15575 h15820 w15821 w15822 r15823 r15824 r15825 h15826 h15846 h15847 w15848 w15851 w15850 w15852 w15854 w15856 w15855 w15858 w15860 w15859 w15861 w15865 w15864 a15866 ⊢) <;> omega))⟩
                        · unfold fX9_pair_250
                          refine sw_ite (fun h15867 => ?_) (fun h15867 => ?_)
                          · unfold fX9_pair_264
                            refine sw_ite (fun h15868 => ?_) (fun h15868 => ?_)
                            · have w15869 : mm_I s11 p0 0 = mm_I q2.2 p0 0 := by rw [← es11]; exact rd_k t_p0 tq5 (by decide)
                              have w15872 : rdA s11 p0 9 0 = mm_I s11 q17 ((0 : Int32)).toNatClampNeg := rdA_eq eq17
                              have w15871 : rdA s11 p0 9 0 = rdA q2.2 p0 9 0 := by rw [← es11]; exact rdA_k cq2 t_p0 (κ' := 59) rfl tq5 (by decide)
                              have w15873 := rdA_fr (k := 9) (j := 0) gq2 c0 t_p0 (κ' := 59) rfl rfl rfl
                              have w15875 : rdA s11 p0 10 0 = rdA q2.2 p0 10 0 := by rw [← es11]; exact rdA_j (by decide)
                              have w15877 : rdA q2.2 p0 10 0 = mm_I q2.2 q5 ((0 : Int32)).toNatClampNeg := rdA_eq eq5
                              have w15876 := rdA_fr (k := 10) (j := 0) gq2 c0 t_p0 (κ' := 60) rfl rfl rfl
                              have w15879 : rdA s11 p0 10 1 = -1 := by rw [← es11]; exact rdA_self eq5
                              have w15881 : rdA s11 p0 9 1 = mm_I s11 q17 ((1 : Int32)).toNatClampNeg := rdA_eq eq17
                              have w15880 : rdA s11 p0 9 1 = rdA q2.2 p0 9 1 := by rw [← es11]; exact rdA_k cq2 t_p0 (κ' := 59) rfl tq5 (by decide)
                              have w15882 := rdA_fr (k := 9) (j := 1) gq2 c0 t_p0 (κ' := 59) rfl rfl rfl
                              have w15886 : rdA q2.2 p0 10 1 = mm_I q2.2 q5 ((1 : Int32)).toNatClampNeg := rdA_eq eq5
                              have w15885 := rdA_fr (k := 10) (j := 1) gq2 c0 t_p0 (κ' := 60) rfl rfl rfl
                              have a15887 := zi_and p2 8 (by decide)
                              exact sw_some ⟨cs11, fs11, (by (try simp only [zp, zo, zq] at u11064 xq2 h11065 xq12 h11078 xq14 a11098 u11099 h11100 h11101 h13828 h15064 h15319 a15574 h15575 h15820 w15821 w15822 r15823 r15824 r15825 h15826 h15846 h15847 h15867 h15868 w15869 w15872 w15871 w15873 w15875 w15877 w15876 w15879 w15881 w15880 w15882 w15886 w15885 a15887 ⊢) <;> (try simp only [zz, Int32.reduceToInt, ne_eq] at u11064 xq2 h11065 xq12 h11078 xq14 a11098 u11099 h11100 h11101 h13828 h15064 h15319 a15574 h15575 h15820 w15821 w15822 r15823 r15824 r15825 h15826 h15846 h15847 h15867 h15868 w15869 w15872 w15871 w15873 w15875 w15877 w15876 w15879 w15881 w15880 w15882 w15886 w15885 a15887 ⊢) <;> (try simp (disch := omega) only [zb] at u11064 xq2 h11065 xq12 h11078 xq14 a11098 u11099 h11100 h11101 h13828 h15064 h15319 a15574 h15575 h15820 w15821 w15822 r15823 r15824 r15825 h15826 h15846 h15847 h15867 h15868 w15869 w15872 w15871 w15873 w15875 w15877 w15876 w15879 w15881 w15880 w15882 w15886 w15885 a15887 ⊢) <;> first | omega | ((try simp (disch := omega) only [zb] at u11064 xq2 h11065 xq12 h11078 xq14 a11098 u11099 h11100 h11101 h13828 h15064 h15319 a15574 h15575 h15820 w15821 w15822 r15823 r15824 r15825 h15826 h15846 h15847 h15867 h15868 w15869 w15872 w15871 w15873 w15875 w15877 w15876 w15879 w15881 w15880 w15882 w15886 w15885 a15887 ⊢) <;> omega))⟩
                            · refine sw_sh (ci_sh cs11 t_p0 rfl) ?_
                              refine sw_on (sX9_put cs11 t_p0 (by (try simp only [zp, zo, zq] at u11064 xq2 h11065 xq12 h11078 xq14 a11098 u11099 h11100 h11101 h13828 h15064 h15319 a15574 h15575 h15820 w15821 w15822 r15823 r15824 r15825 h15826 h15846 h15847 h15867 h15868 ⊢) <;> (try simp only [zz, Int32.reduceToInt, ne_eq] at u11064 xq2 h11065 xq12 h11078 xq14 a11098 u11099 h11100 h11101 h13828 h15064 h15319 a15574 h15575 h15820 w15821 w15822 r15823 r15824 r15825 h15826 h15846 h15847 h15867 h15868 ⊢) <;> (try simp (disch := omega) only [zb] at u11064 xq2 h11065 xq12 h11078 xq14 a11098 u11099 h11100 h11101 h13828 h15064 h15319 a15574 h15575 h15820 w15821 w15822 r15823 r15824 r15825 h15826 h15846 h15847 h15867 h15868 ⊢) <;> first | omega | ((try simp (disch := omega) only [zb] at u11064 xq2 h11065 xq12 h11078 xq14 a11098 u11099 h11100 h11101 h13828 h15064 h15319 a15574 h15575 h15820 w15821 w15822 r15823 r15824 r15825 h15826 h15846 h15847 h15867 h15868 ⊢) <;> omega)) ) ?_
                              intro q28 hqq28
                              obtain ⟨cq28, gq28, xq28⟩ := hqq28
                              have fq28 := fr_trans fs11 gq28 rfl
                              have w15888 := (gq28.2.2 _ _ t_p0 0 rfl).1
                              have w15889 : mm_I s11 p0 0 = mm_I q2.2 p0 0 := by rw [← es11]; exact rd_k t_p0 tq5 (by decide)
                              have w15891 := rdA_fr (k := 9) (j := 0) gq28 cs11 t_p0 (κ' := 59) rfl rfl rfl
                              have w15893 : rdA s11 p0 9 0 = mm_I s11 q17 ((0 : Int32)).toNatClampNeg := rdA_eq eq17
                              have w15892 : rdA s11 p0 9 0 = rdA q2.2 p0 9 0 := by rw [← es11]; exact rdA_k cq2 t_p0 (κ' := 59) rfl tq5 (by decide)
                              have w15894 := rdA_fr (k := 9) (j := 0) gq2 c0 t_p0 (κ' := 59) rfl rfl rfl
                              have w15896 := rdA_fr (k := 10) (j := 0) gq28 cs11 t_p0 (κ' := 60) rfl rfl rfl
                              have w15897 : rdA s11 p0 10 0 = rdA q2.2 p0 10 0 := by rw [← es11]; exact rdA_j (by decide)
                              have w15899 : rdA q2.2 p0 10 0 = mm_I q2.2 q5 ((0 : Int32)).toNatClampNeg := rdA_eq eq5
                              have w15898 := rdA_fr (k := 10) (j := 0) gq2 c0 t_p0 (κ' := 60) rfl rfl rfl
                              have w15901 := rdA_fr (k := 10) (j := 1) gq28 cs11 t_p0 (κ' := 60) rfl rfl rfl
                              have w15902 : rdA s11 p0 10 1 = -1 := by rw [← es11]; exact rdA_self eq5
                              have w15903 := rdA_fr (k := 9) (j := 1) gq28 cs11 t_p0 (κ' := 59) rfl rfl rfl
                              have w15905 : rdA s11 p0 9 1 = mm_I s11 q17 ((1 : Int32)).toNatClampNeg := rdA_eq eq17
                              have w15904 : rdA s11 p0 9 1 = rdA q2.2 p0 9 1 := by rw [← es11]; exact rdA_k cq2 t_p0 (κ' := 59) rfl tq5 (by decide)
                              have w15906 := rdA_fr (k := 9) (j := 1) gq2 c0 t_p0 (κ' := 59) rfl rfl rfl
                              have w15910 : rdA q2.2 p0 10 1 = mm_I q2.2 q5 ((1 : Int32)).toNatClampNeg := rdA_eq eq5
                              have w15909 := rdA_fr (k := 10) (j := 1) gq2 c0 t_p0 (κ' := 60) rfl rfl rfl
                              have a15911 := zi_and p2 8 (by decide)
                              exact sw_some ⟨cq28, fq28, (by (try simp only [zp, zo, zq] at u11064 xq2 h11065 xq12 h11078 xq14 a11098 u11099 h11100 h11101 h13828 h15064 h15319 a15574 h15575 h15820 w15821 w15822 r15823 r15824 r15825 h15826 h15846 h15847 h15867 h15868 w15888 w15889 w15891 w15893 w15892 w15894 w15896 w15897 w15899 w15898 w15901 w15902 w15903 w15905 w15904 w15906 w15910 w15909 a15911 ⊢) <;> (try simp only [zz, Int32.reduceToInt, ne_eq] at u11064 xq2 h11065 xq12 h11078 xq14 a11098 u11099 h11100 h11101 h13828 h15064 h15319 a15574 h15575 h15820 w15821 w15822 r15823 r15824 r15825 h15826 h15846 h15847 h15867 h15868 w15888 w15889 w15891 w15893 w15892 w15894 w15896 w15897 w15899 w15898 w15901 w15902 w15903 w15905 w15904 w15906 w15910 w15909 a15911 ⊢) <;> (try simp (disch := omega) only [zb] at u11064 xq2 h11065 xq12 h11078 xq14 a11098 u11099 h11100 h11101 h13828 h15064 h15319 a15574 h15575 h15820 w15821 w15822 r15823 r15824 r15825 h15826 h15846 h15847 h15867 h15868 w15888 w15889 w15891 w15893 w15892 w15894 w15896 w15897 w15899 w15898 w15901 w15902 w15903 w15905 w15904 w15906 w15910 w15909 a15911 ⊢) <;> first | omega | ((try simp (disch := omega) only [zb] at u11064 xq2 h11065 xq12 h11078 xq14 a11098 u11099 h11100 h11101 h13828 h15064 h15319 a15574 h15575 h15820 w15821 w15822 r15823 r15824 r15825 h15826 h15846 h15847 h15867 h15868 w15888 w15889 w15891 w15893 w15892 w15894 w15896 w15897 w15899 w15898 w15901 w15902 w15903 w15905 w15904 w15906 w15910 w15909 a15911 ⊢) <;> omega))⟩
                          · refine sw_sh (ci_sh cs11 t_p0 rfl) ?_
                            refine sw_on (sX9_put cs11 t_p0 (by (try simp only [zp, zo, zq] at u11064 xq2 h11065 xq12 h11078 xq14 a11098 u11099 h11100 h11101 h13828 h15064 h15319 a15574 h15575 h15820 w15821 w15822 r15823 r15824 r15825 h15826 h15846 h15847 h15867 ⊢) <;> (try simp only [zz, Int32.reduceToInt, ne_eq] at u11064 xq2 h11065 xq12 h11078 xq14 a11098 u11099 h11100 h11101 h13828 h15064 h15319 a15574 h15575 h15820 w15821 w15822 r15823 r15824 r15825 h15826 h15846 h15847 h15867 ⊢) <;> (try simp (disch := omega) only [zb] at u11064 xq2 h11065 xq12 h11078 xq14 a11098 u11099 h11100 h11101 h13828 h15064 h15319 a15574 h15575 h15820 w15821 w15822 r15823 r15824 r15825 h15826 h15846 h15847 h15867 ⊢) <;> first | omega | ((try simp (disch := omega) only [zb] at u11064 xq2 h11065 xq12 h11078 xq14 a11098 u11099 h11100 h11101 h13828 h15064 h15319 a15574 h15575 h15820 w15821 w15822 r15823 r15824 r15825 h15826 h15846 h15847 h15867 ⊢) <;> omega)) ) ?_
                            intro q30 hqq30
                            obtain ⟨cq30, gq30, xq30⟩ := hqq30
                            have fq30 := fr_trans fs11 gq30 rfl
                            unfold fX9_pair_264
                            refine sw_ite (fun h15912 => ?_) (fun h15912 => ?_)
                            · have w15913 := (gq30.2.2 _ _ t_p0 0 rfl).1
                              have w15914 : mm_I s11 p0 0 = mm_I q2.2 p0 0 := by rw [← es11]; exact rd_k t_p0 tq5 (by decide)
                              have w15916 := rdA_fr (k := 9) (j := 0) gq30 cs11 t_p0 (κ' := 59) rfl rfl rfl
                              have w15918 : rdA s11 p0 9 0 = mm_I s11 q17 ((0 : Int32)).toNatClampNeg := rdA_eq eq17
                              have w15917 : rdA s11 p0 9 0 = rdA q2.2 p0 9 0 := by rw [← es11]; exact rdA_k cq2 t_p0 (κ' := 59) rfl tq5 (by decide)
                              have w15919 := rdA_fr (k := 9) (j := 0) gq2 c0 t_p0 (κ' := 59) rfl rfl rfl
                              have w15921 := rdA_fr (k := 10) (j := 0) gq30 cs11 t_p0 (κ' := 60) rfl rfl rfl
                              have w15922 : rdA s11 p0 10 0 = rdA q2.2 p0 10 0 := by rw [← es11]; exact rdA_j (by decide)
                              have w15924 : rdA q2.2 p0 10 0 = mm_I q2.2 q5 ((0 : Int32)).toNatClampNeg := rdA_eq eq5
                              have w15923 := rdA_fr (k := 10) (j := 0) gq2 c0 t_p0 (κ' := 60) rfl rfl rfl
                              have w15926 := rdA_fr (k := 10) (j := 1) gq30 cs11 t_p0 (κ' := 60) rfl rfl rfl
                              have w15927 : rdA s11 p0 10 1 = -1 := by rw [← es11]; exact rdA_self eq5
                              have w15928 := rdA_fr (k := 9) (j := 1) gq30 cs11 t_p0 (κ' := 59) rfl rfl rfl
                              have w15930 : rdA s11 p0 9 1 = mm_I s11 q17 ((1 : Int32)).toNatClampNeg := rdA_eq eq17
                              have w15929 : rdA s11 p0 9 1 = rdA q2.2 p0 9 1 := by rw [← es11]; exact rdA_k cq2 t_p0 (κ' := 59) rfl tq5 (by decide)
                              have w15931 := rdA_fr (k := 9) (j := 1) gq2 c0 t_p0 (κ' := 59) rfl rfl rfl
                              have w15935 : rdA q2.2 p0 10 1 = mm_I q2.2 q5 ((1 : Int32)).toNatClampNeg := rdA_eq eq5
                              have w15934 := rdA_fr (k := 10) (j := 1) gq2 c0 t_p0 (κ' := 60) rfl rfl rfl
                              have a15936 := zi_and p2 8 (by decide)
                              exact sw_some ⟨cq30, fq30, (by (try simp only [zp, zo, zq] at u11064 xq2 h11065 xq12 h11078 xq14 a11098 u11099 h11100 h11101 h13828 h15064 h15319 a15574 h15575 h15820 w15821 w15822 r15823 r15824 r15825 h15826 h15846 h15847 h15867 h15912 w15913 w15914 w15916 w15918 w15917 w15919 w15921 w15922 w15924 w15923 w15926 w15927 w15928 w15930 w15929 w15931 w15935 w15934 a15936 ⊢) <;> (try simp only [zz, Int32.reduceToInt, ne_eq] at u11064 xq2 h11065 xq12 h11078 xq14 a11098 u11099 h11100 h11101 h13828 h15064 h15319 a15574 h15575 h15820 w15821 w15822 r15823 r15824 r15825 h15826 h15846 h15847 h15867 h15912 w15913 w15914 w15916 w15918 w15917 w15919 w15921 w15922 w15924 w15923 w15926 w15927 w15928 w15930 w15929 w15931 w15935 w15934 a15936 ⊢) <;> (try simp (disch := omega) only [zb] at u11064 xq2 h11065 xq12 h11078 xq14 a11098 u11099 h11100 h11101 h13828 h15064 h15319 a15574 h15575 h15820 w15821 w15822 r15823 r15824 r15825 h15826 h15846 h15847 h15867 h15912 w15913 w15914 w15916 w15918 w15917 w15919 w15921 w15922 w15924 w15923 w15926 w15927 w15928 w15930 w15929 w15931 w15935 w15934 a15936 ⊢) <;> first | omega | ((try simp (disch := omega) only [zb] at u11064 xq2 h11065 xq12 h11078 xq14 a11098 u11099 h11100 h11101 h13828 h15064 h15319 a15574 h15575 h15820 w15821 w15822 r15823 r15824 r15825 h15826 h15846 h15847 h15867 h15912 w15913 w15914 w15916 w15918 w15917 w15919 w15921 w15922 w15924 w15923 w15926 w15927 w15928 w15930 w15929 w15931 w15935 w15934 a15936 ⊢) <;> omega))⟩
                            · refine sw_sh (ci_sh cq30 t_p0 rfl) ?_
                              refine sw_on (sX9_put cq30 t_p0 (by (try simp only [zp, zo, zq] at u11064 xq2 h11065 xq12 h11078 xq14 a11098 u11099 h11100 h11101 h13828 h15064 h15319 a15574 h15575 h15820 w15821 w15822 r15823 r15824 r15825 h15826 h15846 h15847 h15867 h15912 ⊢) <;> (try simp only [zz, Int32.reduceToInt, ne_eq] at u11064 xq2 h11065 xq12 h11078 xq14 a11098 u11099 h11100 h11101 h13828 h15064 h15319 a15574 h15575 h15820 w15821 w15822 r15823 r15824 r15825 h15826 h15846 h15847 h15867 h15912 ⊢) <;> (try simp (disch := omega) only [zb] at u11064 xq2 h11065 xq12 h11078 xq14 a11098 u11099 h11100 h11101 h13828 h15064 h15319 a15574 h15575 h15820 w15821 w15822 r15823 r15824 r15825 h15826 h15846 h15847 h15867 h15912 ⊢) <;> first | omega | ((try simp (disch := omega) only [zb] at u11064 xq2 h11065 xq12 h11078 xq14 a11098 u11099 h11100 h11101 h13828 h15064 h15319 a15574 h15575 h15820 w15821 w15822 r15823 r15824 r15825 h15826 h15846 h15847 h15867 h15912 ⊢) <;> omega)) ) ?_
                              intro q28 hqq28
                              obtain ⟨cq28, gq28, xq28⟩ := hqq28
                              have fq28 := fr_trans fq30 gq28 rfl
                              have w15937 := (gq28.2.2 _ _ t_p0 0 rfl).1
                              have w15938 := (gq30.2.2 _ _ t_p0 0 rfl).1
                              have w15939 : mm_I s11 p0 0 = mm_I q2.2 p0 0 := by rw [← es11]; exact rd_k t_p0 tq5 (by decide)
                              have w15941 := rdA_fr (k := 9) (j := 0) gq28 cq30 t_p0 (κ' := 59) rfl rfl rfl
                              have w15942 := rdA_fr (k := 9) (j := 0) gq30 cs11 t_p0 (κ' := 59) rfl rfl rfl
                              have w15944 : rdA s11 p0 9 0 = mm_I s11 q17 ((0 : Int32)).toNatClampNeg := rdA_eq eq17
                              have w15943 : rdA s11 p0 9 0 = rdA q2.2 p0 9 0 := by rw [← es11]; exact rdA_k cq2 t_p0 (κ' := 59) rfl tq5 (by decide)
                              have w15945 := rdA_fr (k := 9) (j := 0) gq2 c0 t_p0 (κ' := 59) rfl rfl rfl
                              have w15947 := rdA_fr (k := 10) (j := 0) gq28 cq30 t_p0 (κ' := 60) rfl rfl rfl
                              have w15948 := rdA_fr (k := 10) (j := 0) gq30 cs11 t_p0 (κ' := 60) rfl rfl rfl
                              have w15949 : rdA s11 p0 10 0 = rdA q2.2 p0 10 0 := by rw [← es11]; exact rdA_j (by decide)
                              have w15951 : rdA q2.2 p0 10 0 = mm_I q2.2 q5 ((0 : Int32)).toNatClampNeg := rdA_eq eq5
                              have w15950 := rdA_fr (k := 10) (j := 0) gq2 c0 t_p0 (κ' := 60) rfl rfl rfl
                              have w15953 := rdA_fr (k := 10) (j := 1) gq28 cq30 t_p0 (κ' := 60) rfl rfl rfl
                              have w15954 := rdA_fr (k := 10) (j := 1) gq30 cs11 t_p0 (κ' := 60) rfl rfl rfl
                              have w15955 : rdA s11 p0 10 1 = -1 := by rw [← es11]; exact rdA_self eq5
                              have w15956 := rdA_fr (k := 9) (j := 1) gq28 cq30 t_p0 (κ' := 59) rfl rfl rfl
                              have w15957 := rdA_fr (k := 9) (j := 1) gq30 cs11 t_p0 (κ' := 59) rfl rfl rfl
                              have w15959 : rdA s11 p0 9 1 = mm_I s11 q17 ((1 : Int32)).toNatClampNeg := rdA_eq eq17
                              have w15958 : rdA s11 p0 9 1 = rdA q2.2 p0 9 1 := by rw [← es11]; exact rdA_k cq2 t_p0 (κ' := 59) rfl tq5 (by decide)
                              have w15960 := rdA_fr (k := 9) (j := 1) gq2 c0 t_p0 (κ' := 59) rfl rfl rfl
                              have w15964 : rdA q2.2 p0 10 1 = mm_I q2.2 q5 ((1 : Int32)).toNatClampNeg := rdA_eq eq5
                              have w15963 := rdA_fr (k := 10) (j := 1) gq2 c0 t_p0 (κ' := 60) rfl rfl rfl
                              have a15965 := zi_and p2 8 (by decide)
                              exact sw_some ⟨cq28, fq28, (by (try simp only [zp, zo, zq] at u11064 xq2 h11065 xq12 h11078 xq14 a11098 u11099 h11100 h11101 h13828 h15064 h15319 a15574 h15575 h15820 w15821 w15822 r15823 r15824 r15825 h15826 h15846 h15847 h15867 h15912 w15937 w15938 w15939 w15941 w15942 w15944 w15943 w15945 w15947 w15948 w15949 w15951 w15950 w15953 w15954 w15955 w15956 w15957 w15959 w15958 w15960 w15964 w15963 a15965 ⊢) <;> (try simp only [zz, Int32.reduceToInt, ne_eq] at u11064 xq2 h11065 xq12 h11078 xq14 a11098 u11099 h11100 h11101 h13828 h15064 h15319 a15574 h15575 h15820 w15821 w15822 r15823 r15824 r15825 h15826 h15846 h15847 h15867 h15912 w15937 w15938 w15939 w15941 w15942 w15944 w15943 w15945 w15947 w15948 w15949 w15951 w15950 w15953 w15954 w15955 w15956 w15957 w15959 w15958 w15960 w15964 w15963 a15965 ⊢) <;> (try simp (disch := omega) only [zb] at u11064 xq2 h11065 xq12 h11078 xq14 a11098 u11099 h11100 h11101 h13828 h15064 h15319 a15574 h15575 h15820 w15821 w15822 r15823 r15824 r15825 h15826 h15846 h15847 h15867 h15912 w15937 w15938 w15939 w15941 w15942 w15944 w15943 w15945 w15947 w15948 w15949 w15951 w15950 w15953 w15954 w15955 w15956 w15957 w15959 w15958 w15960 w15964 w15963 a15965 ⊢) <;> first | omega | ((try simp (disch := omega) only [zb] at u11064 xq2 h11065 xq12 h11078 xq14 a11098 u11099 h11100 h11101 h13828 h15064 h15319 a15574 h15575 h15820 w15821 w15822 r15823 r15824 r15825 h15826 h15846 h15847 h15867 h15912 w15937 w15938 w15939 w15941 w15942 w15944 w15943 w15945 w15947 w15948 w15949 w15951 w15950 w15953 w15954 w15955 w15956 w15957 w15959 w15958 w15960 w15964 w15963 a15965 ⊢) <;> omega))⟩
                      · unfold fX9_pair_250
                        refine sw_ite (fun h15966 => ?_) (fun h15966 => ?_)
                        · unfold fX9_pair_264
                          refine sw_ite (fun h15967 => ?_) (fun h15967 => ?_)
                          · have w15968 : mm_I s11 p0 0 = mm_I q2.2 p0 0 := by rw [← es11]; exact rd_k t_p0 tq5 (by decide)
                            have w15971 : rdA s11 p0 9 0 = mm_I s11 q17 ((0 : Int32)).toNatClampNeg := rdA_eq eq17
                            have w15970 : rdA s11 p0 9 0 = rdA q2.2 p0 9 0 := by rw [← es11]; exact rdA_k cq2 t_p0 (κ' := 59) rfl tq5 (by decide)
                            have w15972 := rdA_fr (k := 9) (j := 0) gq2 c0 t_p0 (κ' := 59) rfl rfl rfl
                            have w15974 : rdA s11 p0 10 0 = rdA q2.2 p0 10 0 := by rw [← es11]; exact rdA_j (by decide)
                            have w15976 : rdA q2.2 p0 10 0 = mm_I q2.2 q5 ((0 : Int32)).toNatClampNeg := rdA_eq eq5
                            have w15975 := rdA_fr (k := 10) (j := 0) gq2 c0 t_p0 (κ' := 60) rfl rfl rfl
                            have w15978 : rdA s11 p0 10 1 = -1 := by rw [← es11]; exact rdA_self eq5
                            have w15980 : rdA s11 p0 9 1 = mm_I s11 q17 ((1 : Int32)).toNatClampNeg := rdA_eq eq17
                            have w15979 : rdA s11 p0 9 1 = rdA q2.2 p0 9 1 := by rw [← es11]; exact rdA_k cq2 t_p0 (κ' := 59) rfl tq5 (by decide)
                            have w15981 := rdA_fr (k := 9) (j := 1) gq2 c0 t_p0 (κ' := 59) rfl rfl rfl
                            have w15985 : rdA q2.2 p0 10 1 = mm_I q2.2 q5 ((1 : Int32)).toNatClampNeg := rdA_eq eq5
                            have w15984 := rdA_fr (k := 10) (j := 1) gq2 c0 t_p0 (κ' := 60) rfl rfl rfl
                            have a15986 := zi_and p2 8 (by decide)
                            exact sw_some ⟨cs11, fs11, (by (try simp only [zp, zo, zq] at u11064 xq2 h11065 xq12 h11078 xq14 a11098 u11099 h11100 h11101 h13828 h15064 h15319 a15574 h15575 h15820 w15821 w15822 r15823 r15824 r15825 h15826 h15846 h15966 h15967 w15968 w15971 w15970 w15972 w15974 w15976 w15975 w15978 w15980 w15979 w15981 w15985 w15984 a15986 ⊢) <;> (try simp only [zz, Int32.reduceToInt, ne_eq] at u11064 xq2 h11065 xq12 h11078 xq14 a11098 u11099 h11100 h11101 h13828 h15064 h15319 a15574 h15575 h15820 w15821 w15822 r15823 r15824 r15825 h15826 h15846 h15966 h15967 w15968 w15971 w15970 w15972 w15974 w15976 w15975 w15978 w15980 w15979 w15981 w15985 w15984 a15986 ⊢) <;> (try simp (disch := omega) only [zb] at u11064 xq2 h11065 xq12 h11078 xq14 a11098 u11099 h11100 h11101 h13828 h15064 h15319 a15574 h15575 h15820 w15821 w15822 r15823 r15824 r15825 h15826 h15846 h15966 h15967 w15968 w15971 w15970 w15972 w15974 w15976 w15975 w15978 w15980 w15979 w15981 w15985 w15984 a15986 ⊢) <;> first | omega | ((try simp (disch := omega) only [zb] at u11064 xq2 h11065 xq12 h11078 xq14 a11098 u11099 h11100 h11101 h13828 h15064 h15319 a15574 h15575 h15820 w15821 w15822 r15823 r15824 r15825 h15826 h15846 h15966 h15967 w15968 w15971 w15970 w15972 w15974 w15976 w15975 w15978 w15980 w15979 w15981 w15985 w15984 a15986 ⊢) <;> omega))⟩
                          · refine sw_sh (ci_sh cs11 t_p0 rfl) ?_
                            refine sw_on (sX9_put cs11 t_p0 (by (try simp only [zp, zo, zq] at u11064 xq2 h11065 xq12 h11078 xq14 a11098 u11099 h11100 h11101 h13828 h15064 h15319 a15574 h15575 h15820 w15821 w15822 r15823 r15824 r15825 h15826 h15846 h15966 h15967 ⊢) <;> (try simp only [zz, Int32.reduceToInt, ne_eq] at u11064 xq2 h11065 xq12 h11078 xq14 a11098 u11099 h11100 h11101 h13828 h15064 h15319 a15574 h15575 h15820 w15821 w15822 r15823 r15824 r15825 h15826 h15846 h15966 h15967 ⊢) <;> (try simp (disch := omega) only [zb] at u11064 xq2 h11065 xq12 h11078 xq14 a11098 u11099 h11100 h11101 h13828 h15064 h15319 a15574 h15575 h15820 w15821 w15822 r15823 r15824 r15825 h15826 h15846 h15966 h15967 ⊢) <;> first | omega | ((try simp (disch := omega) only [zb] at u11064 xq2 h11065 xq12 h11078 xq14 a11098 u11099 h11100 h11101 h13828 h15064 h15319 a15574 h15575 h15820 w15821 w15822 r15823 r15824 r15825 h15826 h15846 h15966 h15967 ⊢) <;> omega)) ) ?_
                            intro q28 hqq28
                            obtain ⟨cq28, gq28, xq28⟩ := hqq28
                            have fq28 := fr_trans fs11 gq28 rfl
                            have w15987 := (gq28.2.2 _ _ t_p0 0 rfl).1
                            have w15988 : mm_I s11 p0 0 = mm_I q2.2 p0 0 := by rw [← es11]; exact rd_k t_p0 tq5 (by decide)
                            have w15990 := rdA_fr (k := 9) (j := 0) gq28 cs11 t_p0 (κ' := 59) rfl rfl rfl
                            have w15992 : rdA s11 p0 9 0 = mm_I s11 q17 ((0 : Int32)).toNatClampNeg := rdA_eq eq17
                            have w15991 : rdA s11 p0 9 0 = rdA q2.2 p0 9 0 := by rw [← es11]; exact rdA_k cq2 t_p0 (κ' := 59) rfl tq5 (by decide)
                            have w15993 := rdA_fr (k := 9) (j := 0) gq2 c0 t_p0 (κ' := 59) rfl rfl rfl
                            have w15995 := rdA_fr (k := 10) (j := 0) gq28 cs11 t_p0 (κ' := 60) rfl rfl rfl
                            have w15996 : rdA s11 p0 10 0 = rdA q2.2 p0 10 0 := by rw [← es11]; exact rdA_j (by decide)
                            have w15998 : rdA q2.2 p0 10 0 = mm_I q2.2 q5 ((0 : Int32)).toNatClampNeg := rdA_eq eq5
                            have w15997 := rdA_fr (k := 10) (j := 0) gq2 c0 t_p0 (κ' := 60) rfl rfl rfl
                            have w16000 := rdA_fr (k := 10) (j := 1) gq28 cs11 t_p0 (κ' := 60) rfl rfl rfl
                            have w16001 : rdA s11 p0 10 1 = -1 := by rw [← es11]; exact rdA_self eq5
                            have w16002 := rdA_fr (k := 9) (j := 1) gq28 cs11 t_p0 (κ' := 59) rfl rfl rfl
                            have w16004 : rdA s11 p0 9 1 = mm_I s11 q17 ((1 : Int32)).toNatClampNeg := rdA_eq eq17
                            have w16003 : rdA s11 p0 9 1 = rdA q2.2 p0 9 1 := by rw [← es11]; exact rdA_k cq2 t_p0 (κ' := 59) rfl tq5 (by decide)
                            have w16005 := rdA_fr (k := 9) (j := 1) gq2 c0 t_p0 (κ' := 59) rfl rfl rfl
                            have w16009 : rdA q2.2 p0 10 1 = mm_I q2.2 q5 ((1 : Int32)).toNatClampNeg := rdA_eq eq5
                            have w16008 := rdA_fr (k := 10) (j := 1) gq2 c0 t_p0 (κ' := 60) rfl rfl rfl
                            have a16010 := zi_and p2 8 (by decide)
                            exact sw_some ⟨cq28, fq28, (by (try simp only [zp, zo, zq] at u11064 xq2 h11065 xq12 h11078 xq14 a11098 u11099 h11100 h11101 h13828 h15064 h15319 a15574 h15575 h15820 w15821 w15822 r15823 r15824 r15825 h15826 h15846 h15966 h15967 w15987 w15988 w15990 w15992 w15991 w15993 w15995 w15996 w15998 w15997 w16000 w16001 w16002 w16004 w16003 w16005 w16009 w16008 a16010 ⊢) <;> (try simp only [zz, Int32.reduceToInt, ne_eq] at u11064 xq2 h11065 xq12 h11078 xq14 a11098 u11099 h11100 h11101 h13828 h15064 h15319 a15574 h15575 h15820 w15821 w15822 r15823 r15824 r15825 h15826 h15846 h15966 h15967 w15987 w15988 w15990 w15992 w15991 w15993 w15995 w15996 w15998 w15997 w16000 w16001 w16002 w16004 w16003 w16005 w16009 w16008 a16010 ⊢) <;> (try simp (disch := omega) only [zb] at u11064 xq2 h11065 xq12 h11078 xq14 a11098 u11099 h11100 h11101 h13828 h15064 h15319 a15574 h15575 h15820 w15821 w15822 r15823 r15824 r15825 h15826 h15846 h15966 h15967 w15987 w15988 w15990 w15992 w15991 w15993 w15995 w15996 w15998 w15997 w16000 w16001 w16002 w16004 w16003 w16005 w16009 w16008 a16010 ⊢) <;> first | omega | ((try simp (disch := omega) only [zb] at u11064 xq2 h11065 xq12 h11078 xq14 a11098 u11099 h11100 h11101 h13828 h15064 h15319 a15574 h15575 h15820 w15821 w15822 r15823 r15824 r15825 h15826 h15846 h15966 h15967 w15987 w15988 w15990 w15992 w15991 w15993 w15995 w15996 w15998 w15997 w16000 w16001 w16002 w16004 w16003 w16005 w16009 w16008 a16010 ⊢) <;> omega))⟩
                        · refine sw_sh (ci_sh cs11 t_p0 rfl) ?_
                          refine sw_on (sX9_put cs11 t_p0 (by (try simp only [zp, zo, zq] at u11064 xq2 h11065 xq12 h11078 xq14 a11098 u11099 h11100 h11101 h13828 h15064 h15319 a15574 h15575 h15820 w15821 w15822 r15823 r15824 r15825 h15826 h15846 h15966 ⊢) <;> (try simp only [zz, Int32.reduceToInt, ne_eq] at u11064 xq2 h11065 xq12 h11078 xq14 a11098 u11099 h11100 h11101 h13828 h15064 h15319 a15574 h15575 h15820 w15821 w15822 r15823 r15824 r15825 h15826 h15846 h15966 ⊢) <;> (try simp (disch := omega) only [zb] at u11064 xq2 h11065 xq12 h11078 xq14 a11098 u11099 h11100 h11101 h13828 h15064 h15319 a15574 h15575 h15820 w15821 w15822 r15823 r15824 r15825 h15826 h15846 h15966 ⊢) <;> first | omega | ((try simp (disch := omega) only [zb] at u11064 xq2 h11065 xq12 h11078 xq14 a11098 u11099 h11100 h11101 h13828 h15064 h15319 a15574 h15575 h15820 w15821 w15822 r15823 r15824 r15825 h15826 h15846 h15966 ⊢) <;> omega)) ) ?_
                          intro q30 hqq30
                          obtain ⟨cq30, gq30, xq30⟩ := hqq30
                          have fq30 := fr_trans fs11 gq30 rfl
                          unfold fX9_pair_264
                          refine sw_ite (fun h16011 => ?_) (fun h16011 => ?_)
                          · have w16012 := (gq30.2.2 _ _ t_p0 0 rfl).1
                            have w16013 : mm_I s11 p0 0 = mm_I q2.2 p0 0 := by rw [← es11]; exact rd_k t_p0 tq5 (by decide)
                            have w16015 := rdA_fr (k := 9) (j := 0) gq30 cs11 t_p0 (κ' := 59) rfl rfl rfl
                            have w16017 : rdA s11 p0 9 0 = mm_I s11 q17 ((0 : Int32)).toNatClampNeg := rdA_eq eq17
                            have w16016 : rdA s11 p0 9 0 = rdA q2.2 p0 9 0 := by rw [← es11]; exact rdA_k cq2 t_p0 (κ' := 59) rfl tq5 (by decide)
                            have w16018 := rdA_fr (k := 9) (j := 0) gq2 c0 t_p0 (κ' := 59) rfl rfl rfl
                            have w16020 := rdA_fr (k := 10) (j := 0) gq30 cs11 t_p0 (κ' := 60) rfl rfl rfl
                            have w16021 : rdA s11 p0 10 0 = rdA q2.2 p0 10 0 := by rw [← es11]; exact rdA_j (by decide)
                            have w16023 : rdA q2.2 p0 10 0 = mm_I q2.2 q5 ((0 : Int32)).toNatClampNeg := rdA_eq eq5
                            have w16022 := rdA_fr (k := 10) (j := 0) gq2 c0 t_p0 (κ' := 60) rfl rfl rfl
                            have w16025 := rdA_fr (k := 10) (j := 1) gq30 cs11 t_p0 (κ' := 60) rfl rfl rfl
                            have w16026 : rdA s11 p0 10 1 = -1 := by rw [← es11]; exact rdA_self eq5
                            have w16027 := rdA_fr (k := 9) (j := 1) gq30 cs11 t_p0 (κ' := 59) rfl rfl rfl
                            have w16029 : rdA s11 p0 9 1 = mm_I s11 q17 ((1 : Int32)).toNatClampNeg := rdA_eq eq17
                            have w16028 : rdA s11 p0 9 1 = rdA q2.2 p0 9 1 := by rw [← es11]; exact rdA_k cq2 t_p0 (κ' := 59) rfl tq5 (by decide)
                            have w16030 := rdA_fr (k := 9) (j := 1) gq2 c0 t_p0 (κ' := 59) rfl rfl rfl
                            have w16034 : rdA q2.2 p0 10 1 = mm_I q2.2 q5 ((1 : Int32)).toNatClampNeg := rdA_eq eq5
                            have w16033 := rdA_fr (k := 10) (j := 1) gq2 c0 t_p0 (κ' := 60) rfl rfl rfl
                            have a16035 := zi_and p2 8 (by decide)
                            exact sw_some ⟨cq30, fq30, (by (try simp only [zp, zo, zq] at u11064 xq2 h11065 xq12 h11078 xq14 a11098 u11099 h11100 h11101 h13828 h15064 h15319 a15574 h15575 h15820 w15821 w15822 r15823 r15824 r15825 h15826 h15846 h15966 h16011 w16012 w16013 w16015 w16017 w16016 w16018 w16020 w16021 w16023 w16022 w16025 w16026 w16027 w16029 w16028 w16030 w16034 w16033 a16035 ⊢) <;> (try simp only [zz, Int32.reduceToInt, ne_eq] at u11064 xq2 h11065 xq12 h11078 xq14 a11098 u11099 h11100 h11101 h13828 h15064 h15319 a15574 h15575 h15820 w15821 w15822 r15823 r15824 r15825 h15826 h15846 h15966 h16011 w16012 w16013 w16015 w16017 w16016 w16018 w16020 w16021 w16023 w16022 w16025 w16026 w16027 w16029 w16028 w16030 w16034 w16033 a16035 ⊢) <;> (try simp (disch := omega) only [zb] at u11064 xq2 h11065 xq12 h11078 xq14 a11098 u11099 h11100 h11101 h13828 h15064 h15319 a15574 h15575 h15820 w15821 w15822 r15823 r15824 r15825 h15826 h15846 h15966 h16011 w16012 w16013 w16015 w16017 w16016 w16018 w16020 w16021 w16023 w16022 w16025 w16026 w16027 w16029 w16028 w16030 w16034 w16033 a16035 ⊢) <;> first | omega | ((try simp (disch := omega) only [zb] at u11064 xq2 h11065 xq12 h11078 xq14 a11098 u11099 h11100 h11101 h13828 h15064 h15319 a15574 h15575 h15820 w15821 w15822 r15823 r15824 r15825 h15826 h15846 h15966 h16011 w16012 w16013 w16015 w16017 w16016 w16018 w16020 w16021 w16023 w16022 w16025 w16026 w16027 w16029 w16028 w16030 w16034 w16033 a16035 ⊢) <;> omega))⟩
                          · refine sw_sh (ci_sh cq30 t_p0 rfl) ?_
                            refine sw_on (sX9_put cq30 t_p0 (by (try simp only [zp, zo, zq] at u11064 xq2 h11065 xq12 h11078 xq14 a11098 u11099 h11100 h11101 h13828 h15064 h15319 a15574 h15575 h15820 w15821 w15822 r15823 r15824 r15825 h15826 h15846 h15966 h16011 ⊢) <;> (try simp only [zz, Int32.reduceToInt, ne_eq] at u11064 xq2 h11065 xq12 h11078 xq14 a11098 u11099 h11100 h11101 h13828 h15064 h15319 a15574 h15575 h15820 w15821 w15822 r15823 r15824 r15825 h15826 h15846 h15966 h16011 ⊢) <;> (try simp (disch := omega) only [zb] at u11064 xq2 h11065 xq12 h11078 xq14 a11098 u11099 h11100 h11101 h13828 h15064 h15319 a15574 h15575 h15820 w15821 w15822 r15823 r15824 r15825 h15826 h15846 h15966 h16011 ⊢) <;> first | omega | ((try simp (disch := omega) only [zb] at u11064 xq2 h11065 xq12 h11078 xq14 a11098 u11099 h11100 h11101 h13828 h15064 h15319 a15574 h15575 h15820 w15821 w15822 r15823 r15824 r15825 h15826 h15846 h15966 h16011 ⊢) <;> omega)) ) ?_
                            intro q28 hqq28
                            obtain ⟨cq28, gq28, xq28⟩ := hqq28
                            have fq28 := fr_trans fq30 gq28 rfl
                            have w16036 := (gq28.2.2 _ _ t_p0 0 rfl).1
                            have w16037 := (gq30.2.2 _ _ t_p0 0 rfl).1
                            have w16038 : mm_I s11 p0 0 = mm_I q2.2 p0 0 := by rw [← es11]; exact rd_k t_p0 tq5 (by decide)
                            have w16040 := rdA_fr (k := 9) (j := 0) gq28 cq30 t_p0 (κ' := 59) rfl rfl rfl
                            have w16041 := rdA_fr (k := 9) (j := 0) gq30 cs11 t_p0 (κ' := 59) rfl rfl rfl
                            have w16043 : rdA s11 p0 9 0 = mm_I s11 q17 ((0 : Int32)).toNatClampNeg := rdA_eq eq17
                            have w16042 : rdA s11 p0 9 0 = rdA q2.2 p0 9 0 := by rw [← es11]; exact rdA_k cq2 t_p0 (κ' := 59) rfl tq5 (by decide)
                            have w16044 := rdA_fr (k := 9) (j := 0) gq2 c0 t_p0 (κ' := 59) rfl rfl rfl
                            have w16046 := rdA_fr (k := 10) (j := 0) gq28 cq30 t_p0 (κ' := 60) rfl rfl rfl
                            have w16047 := rdA_fr (k := 10) (j := 0) gq30 cs11 t_p0 (κ' := 60) rfl rfl rfl
                            have w16048 : rdA s11 p0 10 0 = rdA q2.2 p0 10 0 := by rw [← es11]; exact rdA_j (by decide)
                            have w16050 : rdA q2.2 p0 10 0 = mm_I q2.2 q5 ((0 : Int32)).toNatClampNeg := rdA_eq eq5
                            have w16049 := rdA_fr (k := 10) (j := 0) gq2 c0 t_p0 (κ' := 60) rfl rfl rfl
                            have w16052 := rdA_fr (k := 10) (j := 1) gq28 cq30 t_p0 (κ' := 60) rfl rfl rfl
                            have w16053 := rdA_fr (k := 10) (j := 1) gq30 cs11 t_p0 (κ' := 60) rfl rfl rfl
                            have w16054 : rdA s11 p0 10 1 = -1 := by rw [← es11]; exact rdA_self eq5
                            have w16055 := rdA_fr (k := 9) (j := 1) gq28 cq30 t_p0 (κ' := 59) rfl rfl rfl
                            have w16056 := rdA_fr (k := 9) (j := 1) gq30 cs11 t_p0 (κ' := 59) rfl rfl rfl
                            have w16058 : rdA s11 p0 9 1 = mm_I s11 q17 ((1 : Int32)).toNatClampNeg := rdA_eq eq17
                            have w16057 : rdA s11 p0 9 1 = rdA q2.2 p0 9 1 := by rw [← es11]; exact rdA_k cq2 t_p0 (κ' := 59) rfl tq5 (by decide)
                            have w16059 := rdA_fr (k := 9) (j := 1) gq2 c0 t_p0 (κ' := 59) rfl rfl rfl
                            have w16063 : rdA q2.2 p0 10 1 = mm_I q2.2 q5 ((1 : Int32)).toNatClampNeg := rdA_eq eq5
                            have w16062 := rdA_fr (k := 10) (j := 1) gq2 c0 t_p0 (κ' := 60) rfl rfl rfl
                            have a16064 := zi_and p2 8 (by decide)
                            exact sw_some ⟨cq28, fq28, (by (try simp only [zp, zo, zq] at u11064 xq2 h11065 xq12 h11078 xq14 a11098 u11099 h11100 h11101 h13828 h15064 h15319 a15574 h15575 h15820 w15821 w15822 r15823 r15824 r15825 h15826 h15846 h15966 h16011 w16036 w16037 w16038 w16040 w16041 w16043 w16042 w16044 w16046 w16047 w16048 w16050 w16049 w16052 w16053 w16054 w16055 w16056 w16058 w16057 w16059 w16063 w16062 a16064 ⊢) <;> (try simp only [zz, Int32.reduceToInt, ne_eq] at u11064 xq2 h11065 xq12 h11078 xq14 a11098 u11099 h11100 h11101 h13828 h15064 h15319 a15574 h15575 h15820 w15821 w15822 r15823 r15824 r15825 h15826 h15846 h15966 h16011 w16036 w16037 w16038 w16040 w16041 w16043 w16042 w16044 w16046 w16047 w16048 w16050 w16049 w16052 w16053 w16054 w16055 w16056 w16058 w16057 w16059 w16063 w16062 a16064 ⊢) <;> (try simp (disch := omega) only [zb] at u11064 xq2 h11065 xq12 h11078 xq14 a11098 u11099 h11100 h11101 h13828 h15064 h15319 a15574 h15575 h15820 w15821 w15822 r15823 r15824 r15825 h15826 h15846 h15966 h16011 w16036 w16037 w16038 w16040 w16041 w16043 w16042 w16044 w16046 w16047 w16048 w16050 w16049 w16052 w16053 w16054 w16055 w16056 w16058 w16057 w16059 w16063 w16062 a16064 ⊢) <;> first | omega | ((try simp (disch := omega) only [zb] at u11064 xq2 h11065 xq12 h11078 xq14 a11098 u11099 h11100 h11101 h13828 h15064 h15319 a15574 h15575 h15820 w15821 w15822 r15823 r15824 r15825 h15826 h15846 h15966 h16011 w16036 w16037 w16038 w16040 w16041 w16043 w16042 w16044 w16046 w16047 w16048 w16050 w16049 w16052 w16053 w16054 w16055 w16056 w16058 w16057 w16059 w16063 w16062 a16064 ⊢) <;> omega))⟩
                  · refine sw_ite (fun h16065 => ?_) (fun h16065 => ?_)
                    · unfold fX9_pair_222
                      unfold fX9_pair_228
                      have w16066 : mm_I s11 q17 ((1 : Int32).toNatClampNeg) = mm_I q2.2 q17 ((1 : Int32).toNatClampNeg) := by rw [← es11]; exact rd_k tq17 tq5 (by decide)
                      have w16067 := (gq2.2.2 _ _ tq17 ((1 : Int32).toNatClampNeg) rfl).1
                      have r16068 := ci_rg c0 tq17 ((1 : Int32).toNatClampNeg) (lo := (-1)) (hi := 3) rfl
                      have r16069 := ci_rg cq2 tq17 ((1 : Int32).toNatClampNeg) (lo := (-1)) (hi := 3) rfl
                      have r16070 := ci_rg cs11 tq17 ((1 : Int32).toNatClampNeg) (lo := (-1)) (hi := 3) rfl
                      refine sw_ite (fun h16071 => ?_) (fun h16071 => ?_)
                      · have w16072 : mm_I s11 p0 0 = mm_I q2.2 p0 0 := by rw [← es11]; exact rd_k t_p0 tq5 (by decide)
                        have w16075 : rdA s11 p0 9 0 = mm_I s11 q17 ((0 : Int32)).toNatClampNeg := rdA_eq eq17
                        have w16074 : rdA s11 p0 9 0 = rdA q2.2 p0 9 0 := by rw [← es11]; exact rdA_k cq2 t_p0 (κ' := 59) rfl tq5 (by decide)
                        have w16076 := rdA_fr (k := 9) (j := 0) gq2 c0 t_p0 (κ' := 59) rfl rfl rfl
                        have w16078 : rdA s11 p0 10 0 = rdA q2.2 p0 10 0 := by rw [← es11]; exact rdA_j (by decide)
                        have w16080 : rdA q2.2 p0 10 0 = mm_I q2.2 q5 ((0 : Int32)).toNatClampNeg := rdA_eq eq5
                        have w16079 := rdA_fr (k := 10) (j := 0) gq2 c0 t_p0 (κ' := 60) rfl rfl rfl
                        have w16082 : rdA s11 p0 10 1 = -1 := by rw [← es11]; exact rdA_self eq5
                        have w16084 : rdA s11 p0 9 1 = mm_I s11 q17 ((1 : Int32)).toNatClampNeg := rdA_eq eq17
                        have w16083 : rdA s11 p0 9 1 = rdA q2.2 p0 9 1 := by rw [← es11]; exact rdA_k cq2 t_p0 (κ' := 59) rfl tq5 (by decide)
                        have w16085 := rdA_fr (k := 9) (j := 1) gq2 c0 t_p0 (κ' := 59) rfl rfl rfl
                        have w16089 : rdA q2.2 p0 10 1 = mm_I q2.2 q5 ((1 : Int32)).toNatClampNeg := rdA_eq eq5
                        have w16088 := rdA_fr (k := 10) (j := 1) gq2 c0 t_p0 (κ' := 60) rfl rfl rfl
                        have a16090 := zi_and p2 8 (by decide)
                        exact sw_some ⟨cs11, fs11, (by (try simp only [zp, zo, zq] at u11064 xq2 h11065 xq12 h11078 xq14 a11098 u11099 h11100 h11101 h13828 h15064 h15319 a15574 h15575 h15820 h16065 w16066 w16067 r16068 r16069 r16070 h16071 w16072 w16075 w16074 w16076 w16078 w16080 w16079 w16082 w16084 w16083 w16085 w16089 w16088 a16090 ⊢) <;> (try simp only [zz, Int32.reduceToInt, ne_eq] at u11064 xq2 h11065 xq12 h11078 xq14 a11098 u11099 h11100 h11101 h13828 h15064 h15319 a15574 h15575 h15820 h16065 w16066 w16067 r16068 r16069 r16070 h16071 w16072 w16075 w16074 w16076 w16078 w16080 w16079 w16082 w16084 w16083 w16085 w16089 w16088 a16090 ⊢) <;> (try simp (disch := omega) only [zb] at u11064 xq2 h11065 xq12 h11078 xq14 a11098 u11099 h11100 h11101 h13828 h15064 h15319 a15574 h15575 h15820 h16065 w16066 w16067 r16068 r16069 r16070 h16071 w16072 w16075 w16074 w16076 w16078 w16080 w16079 w16082 w16084 w16083 w16085 w16089 w16088 a16090 ⊢) <;> first | omega | ((try simp (disch := omega) only [zb] at u11064 xq2 h11065 xq12 h11078 xq14 a11098 u11099 h11100 h11101 h13828 h15064 h15319 a15574 h15575 h15820 h16065 w16066 w16067 r16068 r16069 r16070 h16071 w16072 w16075 w16074 w16076 w16078 w16080 w16079 w16082 w16084 w16083 w16085 w16089 w16088 a16090 ⊢) <;> omega))⟩
                      · refine sw_ite (fun h16091 => ?_) (fun h16091 => ?_)
                        · refine sw_ite (fun h16092 => ?_) (fun h16092 => ?_)
                          · have w16093 : mm_I s11 p0 0 = mm_I q2.2 p0 0 := by rw [← es11]; exact rd_k t_p0 tq5 (by decide)
                            have w16096 : rdA s11 p0 9 0 = mm_I s11 q17 ((0 : Int32)).toNatClampNeg := rdA_eq eq17
                            have w16095 : rdA s11 p0 9 0 = rdA q2.2 p0 9 0 := by rw [← es11]; exact rdA_k cq2 t_p0 (κ' := 59) rfl tq5 (by decide)
                            have w16097 := rdA_fr (k := 9) (j := 0) gq2 c0 t_p0 (κ' := 59) rfl rfl rfl
                            have w16099 : rdA s11 p0 10 0 = rdA q2.2 p0 10 0 := by rw [← es11]; exact rdA_j (by decide)
                            have w16101 : rdA q2.2 p0 10 0 = mm_I q2.2 q5 ((0 : Int32)).toNatClampNeg := rdA_eq eq5
                            have w16100 := rdA_fr (k := 10) (j := 0) gq2 c0 t_p0 (κ' := 60) rfl rfl rfl
                            have w16103 : rdA s11 p0 10 1 = -1 := by rw [← es11]; exact rdA_self eq5
                            have w16105 : rdA s11 p0 9 1 = mm_I s11 q17 ((1 : Int32)).toNatClampNeg := rdA_eq eq17
                            have w16104 : rdA s11 p0 9 1 = rdA q2.2 p0 9 1 := by rw [← es11]; exact rdA_k cq2 t_p0 (κ' := 59) rfl tq5 (by decide)
                            have w16106 := rdA_fr (k := 9) (j := 1) gq2 c0 t_p0 (κ' := 59) rfl rfl rfl
                            have w16110 : rdA q2.2 p0 10 1 = mm_I q2.2 q5 ((1 : Int32)).toNatClampNeg := rdA_eq eq5
                            have w16109 := rdA_fr (k := 10) (j := 1) gq2 c0 t_p0 (κ' := 60) rfl rfl rfl
                            have a16111 := zi_and p2 8 (by decide)
                            exact sw_some ⟨cs11, fs11, (by (try simp only [zp, zo, zq] at u11064 xq2 h11065 xq12 h11078 xq14 a11098 u11099 h11100 h11101 h13828 h15064 h15319 a15574 h15575 h15820 h16065 w16066 w16067 r16068 r16069 r16070 h16071 h16091 h16092 w16093 w16096 w16095 w16097 w16099 w16101 w16100 w16103 w16105 w16104 w16106 w16110 w16109 a16111 ⊢) <;> (try simp only [zz, Int32.reduceToInt, ne_eq] at u11064 xq2 h11065 xq12 h11078 xq14 a11098 u11099 h11100 h11101 h13828 h15064 h15319 a15574 h15575 h15820 h16065 w16066 w16067 r16068 r16069 r16070 h16071 h16091 h16092 w16093 w16096 w16095 w16097 w16099 w16101 w16100 w16103 w16105 w16104 w16106 w16110 w16109 a16111 ⊢) <;> (try simp (disch := omega) only [zb] at u11064 xq2 h11065 xq12 h11078 xq14 a11098 u11099 h11100 h11101 h13828 h15064 h15319 a15574 h15575 h15820 h16065 w16066 w16067 r16068 r16069 r16070 h16071 h16091 h16092 w16093 w16096 w16095 w16097 w16099 w16101 w16100 w16103 w16105 w16104 w16106 w16110 w16109 a16111 ⊢) <;> first | omega | ((try simp (disch := omega) only [zb] at u11064 xq2 h11065 xq12 h11078 xq14 a11098 u11099 h11100 h11101 h13828 h15064 h15319 a15574 h15575 h15820 h16065 w16066 w16067 r16068 r16069 r16070 h16071 h16091 h16092 w16093 w16096 w16095 w16097 w16099 w16101 w16100 w16103 w16105 w16104 w16106 w16110 w16109 a16111 ⊢) <;> omega))⟩
                          · unfold fX9_pair_250
                            refine sw_ite (fun h16112 => ?_) (fun h16112 => ?_)
                            · unfold fX9_pair_264
                              refine sw_ite (fun h16113 => ?_) (fun h16113 => ?_)
                              · have w16114 : mm_I s11 p0 0 = mm_I q2.2 p0 0 := by rw [← es11]; exact rd_k t_p0 tq5 (by decide)
                                have w16117 : rdA s11 p0 9 0 = mm_I s11 q17 ((0 : Int32)).toNatClampNeg := rdA_eq eq17
                                have w16116 : rdA s11 p0 9 0 = rdA q2.2 p0 9 0 := by rw [← es11]; exact rdA_k cq2 t_p0 (κ' := 59) rfl tq5 (by decide)
                                have w16118 := rdA_fr (k := 9) (j := 0) gq2 c0 t_p0 (κ' := 59) rfl rfl rfl
                                have w16120 : rdA s11 p0 10 0 = rdA q2.2 p0 10 0 := by rw [← es11]; exact rdA_j (by decide)
                                have w16122 : rdA q2.2 p0 10 0 = mm_I q2.2 q5 ((0 : Int32)).toNatClampNeg := rdA_eq eq5
                                have w16121 := rdA_fr (k := 10) (j := 0) gq2 c0 t_p0 (κ' := 60) rfl rfl rfl
                                have w16124 : rdA s11 p0 10 1 = -1 := by rw [← es11]; exact rdA_self eq5
                                have w16126 : rdA s11 p0 9 1 = mm_I s11 q17 ((1 : Int32)).toNatClampNeg := rdA_eq eq17
                                have w16125 : rdA s11 p0 9 1 = rdA q2.2 p0 9 1 := by rw [← es11]; exact rdA_k cq2 t_p0 (κ' := 59) rfl tq5 (by decide)
                                have w16127 := rdA_fr (k := 9) (j := 1) gq2 c0 t_p0 (κ' := 59) rfl rfl rfl
                                have w16131 : rdA q2.2 p0 10 1 = mm_I q2.2 q5 ((1 : Int32)).toNatClampNeg := rdA_eq eq5
                                have w16130 := rdA_fr (k := 10) (j := 1) gq2 c0 t_p0 (κ' := 60) rfl rfl rfl
                                have a16132 := zi_and p2 8 (by decide)
                                exact sw_some ⟨cs11, fs11, (by (try simp only [zp, zo, zq] at u11064 xq2 h11065 xq12 h11078 xq14 a11098 u11099 h11100 h11101 h13828 h15064 h15319 a15574 h15575 h15820 h16065 w16066 w16067 r16068 r16069 r16070 h16071 h16091 h16092 h16112 h16113 w16114 w16117 w16116 w16118 w16120 w16122 w16121 w16124 w16126 w16125 w16127 w16131 w16130 a16132 ⊢) <;> (try simp only [zz, Int32.reduceToInt, ne_eq] at u11064 xq2 h11065 xq12 h11078 xq14 a11098 u11099 h11100 h11101 h13828 h15064 h15319 a15574 h15575 h15820 h16065 w16066 w16067 r16068 r16069 r16070 h16071 h16091 h16092 h16112 h16113 w16114 w16117 w16116 w16118 w16120 w16122 w16121 w16124 w16126 w16125 w16127 w16131 w16130 a16132 ⊢) <;> (try simp (disch := omega) only [zb] at u11064 xq2 h11065 xq12 h11078 xq14 a11098 u11099 h11100 h11101 h13828 h15064 h15319 a15574 h15575 h15820 h16065 w16066 w16067 r16068 r16069 r16070 h16071 h16091 h16092 h16112 h16113 w16114 w16117 w16116 w16118 w16120 w16122 w16121 w16124 w16126 w16125 w16127 w16131 w16130 a16132 ⊢) <;> first | omega | ((try simp (disch := omega) only [zb] at u11064 xq2 h11065 xq12 h11078 xq14 a11098 u11099 h11100 h11101 h13828 h15064 h15319 a15574 h15575 h15820 h16065 w16066 w16067 r16068 r16069 r16070 h16071 h16091 h16092 h16112 h16113 w16114 w16117 w16116 w16118 w16120 w16122 w16121 w16124 w16126 w16125 w16127 w16131 w16130 a16132 ⊢) <;> omega))⟩
                              · refine sw_sh (ci_sh cs11 t_p0 rfl) ?_
                                refine sw_on (sX9_put cs11 t_p0 (by (try simp only [zp, zo, zq] at u11064 xq2 h11065 xq12 h11078 xq14 a11098 u11099 h11100 h11101 h13828 h15064 h15319 a15574 h15575 h15820 h16065 w16066 w16067 r16068 r16069 r16070 h16071 h16091 h16092 h16112 h16113 ⊢) <;> (try simp only [zz, Int32.reduceToInt, ne_eq] at u11064 xq2 h11065 xq12 h11078 xq14 a11098 u11099 h11100 h11101 h13828 h15064 h15319 a15574 h15575 h15820 h16065 w16066 w16067 r16068 r16069 r16070 h16071 h16091 h16092 h16112 h16113 ⊢) <;> (try simp (disch := omega) only [zb] at u11064 xq2 h11065 xq12 h11078 xq14 a11098 u11099 h11100 h11101 h13828 h15064 h15319 a15574 h15575 h15820 h16065 w16066 w16067 r16068 r16069 r16070 h16071 h16091 h16092 h16112 h16113 ⊢) <;> first | omega | ((try simp (disch := omega) only [zb] at u11064 xq2 h11065 xq12 h11078 xq14 a11098 u11099 h11100 h11101 h13828 h15064 h15319 a15574 h15575 h15820 h16065 w16066 w16067 r16068 r16069 r16070 h16071 h16091 h16092 h16112 h16113 ⊢) <;> omega)) ) ?_
                                intro q28 hqq28
                                obtain ⟨cq28, gq28, xq28⟩ := hqq28
                                have fq28 := fr_trans fs11 gq28 rfl
                                have w16133 := (gq28.2.2 _ _ t_p0 0 rfl).1
                                have w16134 : mm_I s11 p0 0 = mm_I q2.2 p0 0 := by rw [← es11]; exact rd_k t_p0 tq5 (by decide)
                                have w16136 := rdA_fr (k := 9) (j := 0) gq28 cs11 t_p0 (κ' := 59) rfl rfl rfl
                                have w16138 : rdA s11 p0 9 0 = mm_I s11 q17 ((0 : Int32)).toNatClampNeg := rdA_eq eq17
                                have w16137 : rdA s11 p0 9 0 = rdA q2.2 p0 9 0 := by rw [← es11]; exact rdA_k cq2 t_p0 (κ' := 59) rfl tq5 (by decide)
                                have w16139 := rdA_fr (k := 9) (j := 0) gq2 c0 t_p0 (κ' := 59) rfl rfl rfl
                                have w16141 := rdA_fr (k := 10) (j := 0) gq28 cs11 t_p0 (κ' := 60) rfl rfl rfl
                                have w16142 : rdA s11 p0 10 0 = rdA q2.2 p0 10 0 := by rw [← es11]; exact rdA_j (by decide)
                                have w16144 : rdA q2.2 p0 10 0 = mm_I q2.2 q5 ((0 : Int32)).toNatClampNeg := rdA_eq eq5
                                have w16143 := rdA_fr (k := 10) (j := 0) gq2 c0 t_p0 (κ' := 60) rfl rfl rfl
                                have w16146 := rdA_fr (k := 10) (j := 1) gq28 cs11 t_p0 (κ' := 60) rfl rfl rfl
                                have w16147 : rdA s11 p0 10 1 = -1 := by rw [← es11]; exact rdA_self eq5
                                have w16148 := rdA_fr (k := 9) (j := 1) gq28 cs11 t_p0 (κ' := 59) rfl rfl rfl
                                have w16150 : rdA s11 p0 9 1 = mm_I s11 q17 ((1 : Int32)).toNatClampNeg := rdA_eq eq17
                                have w16149 : rdA s11 p0 9 1 = rdA q2.2 p0 9 1 := by rw [← es11]; exact rdA_k cq2 t_p0 (κ' := 59) rfl tq5 (by decide)
                                have w16151 := rdA_fr (k := 9) (j := 1) gq2 c0 t_p0 (κ' := 59) rfl rfl rfl
                                have w16155 : rdA q2.2 p0 10 1 = mm_I q2.2 q5 ((1 : Int32)).toNatClampNeg := rdA_eq eq5
                                have w16154 := rdA_fr (k := 10) (j := 1) gq2 c0 t_p0 (κ' := 60) rfl rfl rfl
                                have a16156 := zi_and p2 8 (by decide)
                                exact sw_some ⟨cq28, fq28, (by (try simp only [zp, zo, zq] at u11064 xq2 h11065 xq12 h11078 xq14 a11098 u11099 h11100 h11101 h13828 h15064 h15319 a15574 h15575 h15820 h16065 w16066 w16067 r16068 r16069 r16070 h16071 h16091 h16092 h16112 h16113 w16133 w16134 w16136 w16138 w16137 w16139 w16141 w16142 w16144 w16143 w16146 w16147 w16148 w16150 w16149 w16151 w16155 w16154 a16156 ⊢) <;> (try simp only [zz, Int32.reduceToInt, ne_eq] at u11064 xq2 h11065 xq12 h11078 xq14 a11098 u11099 h11100 h11101 h13828 h15064 h15319 a15574 h15575 h15820 h16065 w16066 w16067 r16068 r16069 r16070 h16071 h16091 h16092 h16112 h16113 w16133 w16134 w16136 w16138 w16137 w16139 w16141 w16142 w16144 w16143 w16146 w16147 w16148 w16150 w16149 w16151 w16155 w16154 a16156 ⊢) <;> (try simp (disch := omega) only [zb] at u11064 xq2 h11065 xq12 h11078 xq14 a11098 u11099 h11100 h11101 h13828 h15064 h15319 a15574 h15575 h15820 h16065 w16066 w16067 r16068 r16069 r16070 h16071 h16091 h16092 h16112 h16113 w16133 w16134 w16136 w16138 w16137 w16139 w16141 w16142 w16144 w16143 w16146 w16147 w16148 w16150 w16149 w16151 w16155 w16154 a16156 ⊢) <;> first | omega | ((try simp (disch := omega) only [zb] at u11064 xq2 h11065 xq12 h11078 xq14 a11098 u11099 h11100 h11101 h13828 h15064 h15319 a15574 h15575 h15820 h16065 w16066 w16067 r16068 r16069 r16070 h16071 h16091 h16092 h16112 h16113 w16133 w16134 w16136 w16138 w16137 w16139 w16141 w16142 w16144 w16143 w16146 w16147 w16148 w16150 w16149 w16151 w16155 w16154 a16156 ⊢) <;> omega))⟩
                            · refine sw_sh (ci_sh cs11 t_p0 rfl) ?_
                              refine sw_on (sX9_put cs11 t_p0 (by (try simp only [zp, zo, zq] at u11064 xq2 h11065 xq12 h11078 xq14 a11098 u11099 h11100 h11101 h13828 h15064 h15319 a15574 h15575 h15820 h16065 w16066 w16067 r16068 r16069 r16070 h16071 h16091 h16092 h16112 ⊢) <;> (try simp only [zz, Int32.reduceToInt, ne_eq] at u11064 xq2 h11065 xq12 h11078 xq14 a11098 u11099 h11100 h11101 h13828 h15064 h15319 a15574 h15575 h15820 h16065 w16066 w16067 r16068 r16069 r16070 h16071 h16091 h16092 h16112 ⊢) <;> (try simp (disch := omega) only [zb] at u11064 xq2 h11065 xq12 h11078 xq14 a11098 u11099 h11100 h11101 h13828 h15064 h15319 a15574 h15575 h15820 h16065 w16066 w16067 r16068 r16069 r16070 h16071 h16091 h16092 h16112 ⊢) <;> first | omega | ((try simp (disch := omega) only [zb] at u11064 xq2 h11065 xq12 h11078 xq14 a11098 u11099 h11100 h11101 h13828 h15064 h15319 a15574 h15575 h15820 h16065 w16066 w16067 r16068 r16069 r16070 h16071 h16091 h16092 h16112 ⊢) <;> omega)) ) ?_
                              intro q30 hqq30
                              obtain ⟨cq30, gq30, xq30⟩ := hqq30
                              have fq30 := fr_trans fs11 gq30 rfl
                              unfold fX9_pair_264
                              refine sw_ite (fun h16157 => ?_) (fun h16157 => ?_)
                              · have w16158 := (gq30.2.2 _ _ t_p0 0 rfl).1
                                have w16159 : mm_I s11 p0 0 = mm_I q2.2 p0 0 := by rw [← es11]; exact rd_k t_p0 tq5 (by decide)
                                have w16161 := rdA_fr (k := 9) (j := 0) gq30 cs11 t_p0 (κ' := 59) rfl rfl rfl
                                have w16163 : rdA s11 p0 9 0 = mm_I s11 q17 ((0 : Int32)).toNatClampNeg := rdA_eq eq17
                                have w16162 : rdA s11 p0 9 0 = rdA q2.2 p0 9 0 := by rw [← es11]; exact rdA_k cq2 t_p0 (κ' := 59) rfl tq5 (by decide)
                                have w16164 := rdA_fr (k := 9) (j := 0) gq2 c0 t_p0 (κ' := 59) rfl rfl rfl
                                have w16166 := rdA_fr (k := 10) (j := 0) gq30 cs11 t_p0 (κ' := 60) rfl rfl rfl
                                have w16167 : rdA s11 p0 10 0 = rdA q2.2 p0 10 0 := by rw [← es11]; exact rdA_j (by decide)
                                have w16169 : rdA q2.2 p0 10 0 = mm_I q2.2 q5 ((0 : Int32)).toNatClampNeg := rdA_eq eq5
                                have w16168 := rdA_fr (k := 10) (j := 0) gq2 c0 t_p0 (κ' := 60) rfl rfl rfl
                                have w16171 := rdA_fr (k := 10) (j := 1) gq30 cs11 t_p0 (κ' := 60) rfl rfl rfl
                                have w16172 : rdA s11 p0 10 1 = -1 := by rw [← es11]; exact rdA_self eq5
                                have w16173 := rdA_fr (k := 9) (j := 1) gq30 cs11 t_p0 (κ' := 59) rfl rfl rfl
                                have w16175 : rdA s11 p0 9 1 = mm_I s11 q17 ((1 : Int32)).toNatClampNeg := rdA_eq eq17
                                have w16174 : rdA s11 p0 9 1 = rdA q2.2 p0 9 1 := by rw [← es11]; exact rdA_k cq2 t_p0 (κ' := 59) rfl tq5 (by decide)
                                have w16176 := rdA_fr (k := 9) (j := 1) gq2 c0 t_p0 (κ' := 59) rfl rfl rfl
                                have w16180 : rdA q2.2 p0 10 1 = mm_I q2.2 q5 ((1 : Int32)).toNatClampNeg := rdA_eq eq5
                                have w16179 := rdA_fr (k := 10) (j := 1) gq2 c0 t_p0 (κ' := 60) rfl rfl rfl
                                have a16181 := zi_and p2 8 (by decide)
                                exact sw_some ⟨cq30, fq30, (by (try simp only [zp, zo, zq] at u11064 xq2 h11065 xq12 h11078 xq14 a11098 u11099 h11100 h11101 h13828 h15064 h15319 a15574 h15575 h15820 h16065 w16066 w16067 r16068 r16069 r16070 h16071 h16091 h16092 h16112 h16157 w16158 w16159 w16161 w16163 w16162 w16164 w16166 w16167 w16169 w16168 w16171 w16172 w16173 w16175 w16174 w16176 w16180 w16179 a16181 ⊢) <;> (try simp only [zz, Int32.reduceToInt, ne_eq] at u11064 xq2 h11065 xq12 h11078 xq14 a11098 u11099 h11100 h11101 h13828 h15064 h15319 a15574 h15575 h15820 h16065 w16066 w16067 r16068 r16069 r16070 h16071 h16091 h16092 h16112 h16157 w16158 w16159 w16161 w16163 w16162 w16164 w16166 w16167 w16169 w16168 w16171 w16172 w16173 w16175 w16174 w16176 w16180 w16179 a16181 ⊢) <;> (try simp (disch := omega) only [zb] at u11064 xq2 h11065 xq12 h11078 xq14 a11098 u11099 h11100 h11101 h13828 h15064 h15319 a15574 h15575 h15820 h16065 w16066 w16067 r16068 r16069 r16070 h16071 h16091 h16092 h16112 h16157 w16158 w16159 w16161 w16163 w16162 w16164 w16166 w16167 w16169 w16168 w16171 w16172 w16173 w16175 w16174 w16176 w16180 w16179 a16181 ⊢) <;> first | omega | ((try simp (disch := omega) only [zb] at u11064 xq2 h11065 xq12 h11078 xq14 a11098 u11099 h11100 h11101 h13828 h15064 h15319 a15574 h15575 h15820 h16065 w16066 w16067 r16068 r16069 r16070 h16071 h16091 h16092 h16112 h16157 w16158 w16159 w16161 w16163 w16162 w16164 w16166 w16167 w16169 w16168 w16171 w16172 w16173 w16175 w16174 w16176 w16180 w16179 a16181 ⊢) <;> omega))⟩
                              · refine sw_sh (ci_sh cq30 t_p0 rfl) ?_
                                refine sw_on (sX9_put cq30 t_p0 (by (try simp only [zp, zo, zq] at u11064 xq2 h11065 xq12 h11078 xq14 a11098 u11099 h11100 h11101 h13828 h15064 h15319 a15574 h15575 h15820 h16065 w16066 w16067 r16068 r16069 r16070 h16071 h16091 h16092 h16112 h16157 ⊢) <;> (try simp only [zz, Int32.reduceToInt, ne_eq] at u11064 xq2 h11065 xq12 h11078 xq14 a11098 u11099 h11100 h11101 h13828 h15064 h15319 a15574 h15575 h15820 h16065 w16066 w16067 r16068 r16069 r16070 h16071 h16091 h16092 h16112 h16157 ⊢) <;> (try simp (disch := omega) only [zb] at u11064 xq2 h11065 xq12 h11078 xq14 a11098 u11099 h11100 h11101 h13828 h15064 h15319 a15574 h15575 h15820 h16065 w16066 w16067 r16068 r16069 r16070 h16071 h16091 h16092 h16112 h16157 ⊢) <;> first | omega | ((try simp (disch := omega) only [zb] at u11064 xq2 h11065 xq12 h11078 xq14 a11098 u11099 h11100 h11101 h13828 h15064 h15319 a15574 h15575 h15820 h16065 w16066 w16067 r16068 r16069 r16070 h16071 h16091 h16092 h16112 h16157 ⊢) <;> omega)) ) ?_
                                intro q28 hqq28
                                obtain ⟨cq28, gq28, xq28⟩ := hqq28
                                have fq28 := fr_trans fq30 gq28 rfl
                                have w16182 := (gq28.2.2 _ _ t_p0 0 rfl).1
                                have w16183 := (gq30.2.2 _ _ t_p0 0 rfl).1
                                have w16184 : mm_I s11 p0 0 = mm_I q2.2 p0 0 := by rw [← es11]; exact rd_k t_p0 tq5 (by decide)
                                have w16186 := rdA_fr (k := 9) (j := 0) gq28 cq30 t_p0 (κ' := 59) rfl rfl rfl
                                have w16187 := rdA_fr (k := 9) (j := 0) gq30 cs11 t_p0 (κ' := 59) rfl rfl rfl
                                have w16189 : rdA s11 p0 9 0 = mm_I s11 q17 ((0 : Int32)).toNatClampNeg := rdA_eq eq17
                                have w16188 : rdA s11 p0 9 0 = rdA q2.2 p0 9 0 := by rw [← es11]; exact rdA_k cq2 t_p0 (κ' := 59) rfl tq5 (by decide)
                                have w16190 := rdA_fr (k := 9) (j := 0) gq2 c0 t_p0 (κ' := 59) rfl rfl rfl
                                have w16192 := rdA_fr (k := 10) (j := 0) gq28 cq30 t_p0 (κ' := 60) rfl rfl rfl
                                have w16193 := rdA_fr (k := 10) (j := 0) gq30 cs11 t_p0 (κ' := 60) rfl rfl rfl
                                have w16194 : rdA s11 p0 10 0 = rdA q2.2 p0 10 0 := by rw [← es11]; exact rdA_j (by decide)
                                have w16196 : rdA q2.2 p0 10 0 = mm_I q2.2 q5 ((0 : Int32)).toNatClampNeg := rdA_eq eq5
                                have w16195 := rdA_fr (k := 10) (j := 0) gq2 c0 t_p0 (κ' := 60) rfl rfl rfl
                                have w16198 := rdA_fr (k := 10) (j := 1) gq28 cq30 t_p0 (κ' := 60) rfl rfl rfl
                                have w16199 := rdA_fr (k := 10) (j := 1) gq30 cs11 t_p0 (κ' := 60) rfl rfl rfl
                                have w16200 : rdA s11 p0 10 1 = -1 := by rw [← es11]; exact rdA_self eq5
                                have w16201 := rdA_fr (k := 9) (j := 1) gq28 cq30 t_p0 (κ' := 59) rfl rfl rfl
                                have w16202 := rdA_fr (k := 9) (j := 1) gq30 cs11 t_p0 (κ' := 59) rfl rfl rfl
                                have w16204 : rdA s11 p0 9 1 = mm_I s11 q17 ((1 : Int32)).toNatClampNeg := rdA_eq eq17
                                have w16203 : rdA s11 p0 9 1 = rdA q2.2 p0 9 1 := by rw [← es11]; exact rdA_k cq2 t_p0 (κ' := 59) rfl tq5 (by decide)
                                have w16205 := rdA_fr (k := 9) (j := 1) gq2 c0 t_p0 (κ' := 59) rfl rfl rfl
                                have w16209 : rdA q2.2 p0 10 1 = mm_I q2.2 q5 ((1 : Int32)).toNatClampNeg := rdA_eq eq5
                                have w16208 := rdA_fr (k := 10) (j := 1) gq2 c0 t_p0 (κ' := 60) rfl rfl rfl
                                have a16210 := zi_and p2 8 (by decide)
                                exact sw_some ⟨cq28, fq28, (by (try simp only [zp, zo, zq] at u11064 xq2 h11065 xq12 h11078 xq14 a11098 u11099 h11100 h11101 h13828 h15064 h15319 a15574 h15575 h15820 h16065 w16066 w16067 r16068 r16069 r16070 h16071 h16091 h16092 h16112 h16157 w16182 w16183 w16184 w16186 w16187 w16189 w16188 w16190 w16192 w16193 w16194 w16196 w16195 w16198 w16199 w16200 w16201 w16202 w16204 w16203 w16205 w16209 w16208 a16210 ⊢) <;> (try simp only [zz, Int32.reduceToInt, ne_eq] at u11064 xq2 h11065 xq12 h11078 xq14 a11098 u11099 h11100 h11101 h13828 h15064 h15319 a15574 h15575 h15820 h16065 w16066 w16067 r16068 r16069 r16070 h16071 h16091 h16092 h16112 h16157 w16182 w16183 w16184 w16186 w16187 w16189 w16188 w16190 w16192 w16193 w16194 w16196 w16195 w16198 w16199 w16200 w16201 w16202 w16204 w16203 w16205 w16209 w16208 a16210 ⊢) <;> (try simp (disch := omega) only [zb] at u11064 xq2 h11065 xq12 h11078 xq14 a11098 u11099 h11100 h11101 h13828 h15064 h15319 a15574 h15575 h15820 h16065 w16066 w16067 r16068 r16069 r16070 h16071 h16091 h16092 h16112 h16157 w16182 w16183 w16184 w16186 w16187 w16189 w16188 w16190 w16192 w16193 w16194 w16196 w16195 w16198 w16199 w16200 w16201 w16202 w16204 w16203 w16205 w16209 w16208 a16210 ⊢) <;> first | omega | ((try simp (disch := omega) only [zb] at u11064 xq2 h11065 xq12 h11078 xq14 a11098 u11099 h11100 h11101 h13828 h15064 h15319 a15574 h15575 h15820 h16065 w16066 w16067 r16068 r16069 r16070 h16071 h16091 h16092 h16112 h16157 w16182 w16183 w16184 w16186 w16187 w16189 w16188 w16190 w16192 w16193 w16194 w16196 w16195 w16198 w16199 w16200 w16201 w16202 w16204 w16203 w16205 w16209 w16208 a16210 ⊢) <;> omega))⟩
                        · unfold fX9_pair_250
                          refine sw_ite (fun h16211 => ?_) (fun h16211 => ?_)
                          · unfold fX9_pair_264
                            refine sw_ite (fun h16212 => ?_) (fun h16212 => ?_)
                            · have w16213 : mm_I s11 p0 0 = mm_I q2.2 p0 0 := by rw [← es11]; exact rd_k t_p0 tq5 (by decide)
                              have w16216 : rdA s11 p0 9 0 = mm_I s11 q17 ((0 : Int32)).toNatClampNeg := rdA_eq eq17
                              have w16215 : rdA s11 p0 9 0 = rdA q2.2 p0 9 0 := by rw [← es11]; exact rdA_k cq2 t_p0 (κ' := 59) rfl tq5 (by decide)
                              have w16217 := rdA_fr (k := 9) (j := 0) gq2 c0 t_p0 (κ' := 59) rfl rfl rfl
                              have w16219 : rdA s11 p0 10 0 = rdA q2.2 p0 10 0 := by rw [← es11]; exact rdA_j (by decide)
                              have w16221 : rdA q2.2 p0 10 0 = mm_I q2.2 q5 ((0 : Int32)).toNatClampNeg := rdA_eq eq5
                              have w16220 := rdA_fr (k := 10) (j := 0) gq2 c0 t_p0 (κ' := 60) rfl rfl rfl
                              have w16223 : rdA s11 p0 10 1 = -1 := by rw [← es11]; exact rdA_self eq5
                              have w16225 : rdA s11 p0 9 1 = mm_I s11 q17 ((1 : Int32)).toNatClampNeg := rdA_eq eq17
                              have w16224 : rdA s11 p0 9 1 = rdA q2.2 p0 9 1 := by rw [← es11]; exact rdA_k cq2 t_p0 (κ' := 59) rfl tq5 (by decide)
                              have w16226 := rdA_fr (k := 9) (j := 1) gq2 c0 t_p0 (κ' := 59) rfl rfl rfl
                              have w16230 : rdA q2.2 p0 10 1 = mm_I q2.2 q5 ((1 : Int32)).toNatClampNeg := rdA_eq eq5
                              have w16229 := rdA_fr (k := 10) (j := 1) gq2 c0 t_p0 (κ' := 60) rfl rfl rfl
                              have a16231 := zi_and p2 8 (by decide)
                              exact sw_some ⟨cs11, fs11, (by (try simp only [zp, zo, zq] at u11064 xq2 h11065 xq12 h11078 xq14 a11098 u11099 h11100 h11101 h13828 h15064 h15319 a15574 h15575 h15820 h16065 w16066 w16067 r16068 r16069 r16070 h16071 h16091 h16211 h16212 w16213 w16216 w16215 w16217 w16219 w16221 w16220 w16223 w16225 w16224 w16226 w16230 w16229 a16231 ⊢) <;> (try simp only [zz, Int32.reduceToInt, ne_eq] at u11064 xq2 h11065 xq12 h11078 xq14 a11098 u11099 h11100 h11101 h13828 h15064 h15319 a15574 h15575 h15820 h16065 w16066 w16067 r16068 r16069 r16070 h16071 h16091 h16211 h16212 w16213 w16216 w16215 w16217 w16219 w16221 w16220 w16223 w16225 w16224 w16226 w16230 w16229 a16231 ⊢) <;> (try simp (disch := omega) only [zb] at u11064 xq2 h11065 xq12 h11078 xq14 a11098 u11099 h11100 h11101 h13828 h15064 h15319 a15574 h15575 h15820 h16065 w16066 w16067 r16068 r16069 r16070 h16071 h16091 h16211 h16212 w16213 w16216 w16215 w16217 w16219 w16221 w16220 w16223 w16225 w16224 w16226 w16230 w16229 a16231 ⊢) <;> first | omega | ((try simp (disch := omega) only [zb] at u11064 xq2 h11065 xq12 h11078 xq14 a11098 u11099 h11100 h11101 h13828 h15064 h15319 a15574 h15575 h15820 h16065 w16066 w16067 r16068 r16069 r16070 h16071 h16091 h16211 h16212 w16213 w16216 w16215 w16217 w16219 w16221 w16220 w16223 w16225 w16224 w16226 w16230 w16229 a16231 ⊢) <;> omega))⟩
                            · refine sw_sh (ci_sh cs11 t_p0 rfl) ?_
                              refine sw_on (sX9_put cs11 t_p0 (by (try simp only [zp, zo, zq] at u11064 xq2 h11065 xq12 h11078 xq14 a11098 u11099 h11100 h11101 h13828 h15064 h15319 a15574 h15575 h15820 h16065 w16066 w16067 r16068 r16069 r16070 h16071 h16091 h16211 h16212 ⊢) <;> (try simp only [zz, Int32.reduceToInt, ne_eq] at u11064 xq2 h11065 xq12 h11078 xq14 a11098 u11099 h11100 h11101 h13828 h15064 h15319 a15574 h15575 h15820 h16065 w16066 w16067 r16068 r16069 r16070 h16071 h16091 h16211 h16212 ⊢) <;> (try simp (disch := omega) only [zb] at u11064 xq2 h11065 xq12 h11078 xq14 a11098 u11099 h11100 h11101 h13828 h15064 h15319 a15574 h15575 h15820 h16065 w16066 w16067 r16068 r16069 r16070 h16071 h16091 h16211 h16212 ⊢) <;> first | omega | ((try simp (disch := omega) only [zb] at u11064 xq2 h11065 xq12 h11078 xq14 a11098 u11099 h11100 h11101 h13828 h15064 h15319 a15574 h15575 h15820 h16065 w16066 w16067 r16068 r16069 r16070 h16071 h16091 h16211 h16212 ⊢) <;> omega)) ) ?_
                              intro q28 hqq28
                              obtain ⟨cq28, gq28, xq28⟩ := hqq28
                              have fq28 := fr_trans fs11 gq28 rfl
                              have w16232 := (gq28.2.2 _ _ t_p0 0 rfl).1
                              have w16233 : mm_I s11 p0 0 = mm_I q2.2 p0 0 := by rw [← es11]; exact rd_k t_p0 tq5 (by decide)
                              have w16235 := rdA_fr (k := 9) (j := 0) gq28 cs11 t_p0 (κ' := 59) rfl rfl rfl
                              have w16237 : rdA s11 p0 9 0 = mm_I s11 q17 ((0 : Int32)).toNatClampNeg := rdA_eq eq17
                              have w16236 : rdA s11 p0 9 0 = rdA q2.2 p0 9 0 := by rw [← es11]; exact rdA_k cq2 t_p0 (κ' := 59) rfl tq5 (by decide)
                              have w16238 := rdA_fr (k := 9) (j := 0) gq2 c0 t_p0 (κ' := 59) rfl rfl rfl
                              have w16240 := rdA_fr (k := 10) (j := 0) gq28 cs11 t_p0 (κ' := 60) rfl rfl rfl
                              have w16241 : rdA s11 p0 10 0 = rdA q2.2 p0 10 0 := by rw [← es11]; exact rdA_j (by decide)
                              have w16243 : rdA q2.2 p0 10 0 = mm_I q2.2 q5 ((0 : Int32)).toNatClampNeg := rdA_eq eq5
                              have w16242 := rdA_fr (k := 10) (j := 0) gq2 c0 t_p0 (κ' := 60) rfl rfl rfl
                              have w16245 := rdA_fr (k := 10) (j := 1) gq28 cs11 t_p0 (κ' := 60) rfl rfl rfl
                              have w16246 : rdA s11 p0 10 1 = -1 := by rw [← es11]; exact rdA_self eq5
                              have w16247 := rdA_fr (k := 9) (j := 1) gq28 cs11 t_p0 (κ' := 59) rfl rfl rfl
                              have w16249 : rdA s11 p0 9 1 = mm_I s11 q17 ((1 : Int32)).toNatClampNeg := rdA_eq eq17
                              have w16248 : rdA s11 p0 9 1 = rdA q2.2 p0 9 1 := by rw [← es11]; exact rdA_k cq2 t_p0 (κ' := 59) rfl tq5 (by decide)
                              have w16250 := rdA_fr (k := 9) (j := 1) gq2 c0 t_p0 (κ' := 59) rfl rfl rfl
                              have w16254 : rdA q2.2 p0 10 1 = mm_I q2.2 q5 ((1 : Int32)).toNatClampNeg := rdA_eq eq5
                              have w16253 := rdA_fr (k := 10) (j := 1) gq2 c0 t_p0 (κ' := 60) rfl rfl rfl
                              have a16255 := zi_and p2 8 (by decide)
                              exact sw_some ⟨cq28, fq28, (by (try simp only [zp, zo, zq] at u11064 xq2 h11065 xq12 h11078 xq14 a11098 u11099 h11100 h11101 h13828 h15064 h15319 a15574 h15575 h15820 h16065 w16066 w16067 r16068 r16069 r16070 h16071 h16091 h16211 h16212 w16232 w16233 w16235 w16237 w16236 w16238 w16240 w16241 w16243 w16242 w16245 w16246 w16247 w16249 w16248 w16250 w16254 w16253 a16255 ⊢) <;> (try simp only [zz, Int32.reduceToInt, ne_eq] at u11064 xq2 h11065 xq12 h11078 xq14 a11098 u11099 h11100 h11101 h13828 h15064 h15319 a15574 h15575 h15820 h16065 w16066 w16067 r16068 r16069 r16070 h16071 h16091 h16211 h16212 w16232 w16233 w16235 w16237 w16236 w16238 w16240 w16241 w16243 w16242 w16245 w16246 w16247 w16249 w16248 w16250 w16254 w16253 a16255 ⊢) <;> (try simp (disch := omega) only [zb] at u11064 xq2 h11065 xq12 h11078 xq14 a11098 u11099 h11100 h11101 h13828 h15064 h15319 a15574 h15575 h15820 h16065 w16066 w16067 r16068 r16069 r16070 h16071 h16091 h16211 h16212 w16232 w16233 w16235 w16237 w16236 w16238 w16240 w16241 w16243 w16242 w16245 w16246 w16247 w16249 w16248 w16250 w16254 w16253 a16255 ⊢) <;> first | omega | ((try simp (disch := omega) only [zb] at u11064 xq2 h11065 xq12 h11078 xq14 a11098 u11099 h11100 h11101 h13828 h15064 h15319 a15574 h15575 h15820 h16065 w16066 w16067 r16068 r16069 r16070 h16071 h16091 h16211 h16212 w16232 w16233 w16235 w16237 w16236 w16238 w16240 w16241 w16243 w16242 w16245 w16246 w16247 w16249 w16248 w16250 w16254 w16253 a16255 ⊢) <;> omega))⟩
                          · refine sw_sh (ci_sh cs11 t_p0 rfl) ?_
                            refine sw_on (sX9_put cs11 t_p0 (by (try simp only [zp, zo, zq] at u11064 xq2 h11065 xq12 h11078 xq14 a11098 u11099 h11100 h11101 h13828 h15064 h15319 a15574 h15575 h15820 h16065 w16066 w16067 r16068 r16069 r16070 h16071 h16091 h16211 ⊢) <;> (try simp only [zz, Int32.reduceToInt, ne_eq] at u11064 xq2 h11065 xq12 h11078 xq14 a11098 u11099 h11100 h11101 h13828 h15064 h15319 a15574 h15575 h15820 h16065 w16066 w16067 r16068 r16069 r16070 h16071 h16091 h16211 ⊢) <;> (try simp (disch := omega) only [zb] at u11064 xq2 h11065 xq12 h11078 xq14 a11098 u11099 h11100 h11101 h13828 h15064 h15319 a15574 h15575 h15820 h16065 w16066 w16067 r16068 r16069 r16070 h16071 h16091 h16211 ⊢) <;> first | omega | ((try simp (disch := omega) only [zb] at u11064 xq2 h11065 xq12 h11078 xq14 a11098 u11099 h11100 h11101 h13828 h15064 h15319 a15574 h15575 h15820 h16065 w16066 w16067 r16068 r16069 r16070 h16071 h16091 h16211 ⊢) <;> omega)) ) ?_
                            intro q30 hqq30
                            obtain ⟨cq30, gq30, xq30⟩ := hqq30
                            have fq30 := fr_trans fs11 gq30 rfl
                            unfold fX9_pair_264
                            refine sw_ite (fun h16256 => ?_) (fun h16256 => ?_)
                            · have w16257 := (gq30.2.2 _ _ t_p0 0 rfl).1
                              have w16258 : mm_I s11 p0 0 = mm_I q2.2 p0 0 := by rw [← es11]; exact rd_k t_p0 tq5 (by decide)
                              have w16260 := rdA_fr (k := 9) (j := 0) gq30 cs11 t_p0 (κ' := 59) rfl rfl rfl
                              have w16262 : rdA s11 p0 9 0 = mm_I s11 q17 ((0 : Int32)).toNatClampNeg := rdA_eq eq17
                              have w16261 : rdA s11 p0 9 0 = rdA q2.2 p0 9 0 := by rw [← es11]; exact rdA_k cq2 t_p0 (κ' := 59) rfl tq5 (by decide)
                              have w16263 := rdA_fr (k := 9) (j := 0) gq2 c0 t_p0 (κ' := 59) rfl rfl rfl
                              have w16265 := rdA_fr (k := 10) (j := 0) gq30 cs11 t_p0 (κ' := 60) rfl rfl rfl
                              have w16266 : rdA s11 p0 10 0 = rdA q2.2 p0 10 0 := by rw [← es11]; exact rdA_j (by decide)
                              have w16268 : rdA q2.2 p0 10 0 = mm_I q2.2 q5 ((0 : Int32)).toNatClampNeg := rdA_eq eq5
                              have w16267 := rdA_fr (k := 10) (j := 0) gq2 c0 t_p0 (κ' := 60) rfl rfl rfl
                              have w16270 := rdA_fr (k := 10) (j := 1) gq30 cs11 t_p0 (κ' := 60) rfl rfl rfl
                              have w16271 : rdA s11 p0 10 1 = -1 := by rw [← es11]; exact rdA_self eq5
                              have w16272 := rdA_fr (k := 9) (j := 1) gq30 cs11 t_p0 (κ' := 59) rfl rfl rfl
                              have w16274 : rdA s11 p0 9 1 = mm_I s11 q17 ((1 : Int32)).toNatClampNeg := rdA_eq eq17
                              have w16273 : rdA s11 p0 9 1 = rdA q2.2 p0 9 1 := by rw [← es11]; exact rdA_k cq2 t_p0 (κ' := 59) rfl tq5 (by decide)
                              have w16275 := rdA_fr (k := 9) (j := 1) gq2 c0 t_p0 (κ' := 59) rfl rfl rfl
                              have w16279 : rdA q2.2 p0 10 1 = mm_I q2.2 q5 ((1 : Int32)).toNatClampNeg := rdA_eq eq5
                              have w16278 := rdA_fr (k := 10) (j := 1) gq2 c0 t_p0 (κ' := 60) rfl rfl rfl
                              have a16280 := zi_and p2 8 (by decide)
                              exact sw_some ⟨cq30, fq30, (by (try simp only [zp, zo, zq] at u11064 xq2 h11065 xq12 h11078 xq14 a11098 u11099 h11100 h11101 h13828 h15064 h15319 a15574 h15575 h15820 h16065 w16066 w16067 r16068 r16069 r16070 h16071 h16091 h16211 h16256 w16257 w16258 w16260 w16262 w16261 w16263 w16265 w16266 w16268 w16267 w16270 w16271 w16272 w16274 w16273 w16275 w16279 w16278 a16280 ⊢) <;> (try simp only [zz, Int32.reduceToInt, ne_eq] at u11064 xq2 h11065 xq12 h11078 xq14 a11098 u11099 h11100 h11101 h13828 h15064 h15319 a15574 h15575 h15820 h16065 w16066 w16067 r16068 r16069 r16070 h16071 h16091 h16211 h16256 w16257 w16258 w16260 w16262 w16261 w16263 w16265 w16266 w16268 w16267 w16270 w16271 w16272 w16274 w16273 w16275 w16279 w16278 a16280 ⊢) <;> (try simp (disch := omega) only [zb] at u11064 xq2 h11065 xq12 h11078 xq14 a11098 u11099 h11100 h11101 h13828 h15064 h15319 a15574 h15575 h15820 h16065 w16066 w16067 r16068 r16069 r16070 h16071 h16091 h16211 h16256 w16257 w16258 w16260 w16262 w16261 w16263 w16265 w16266 w16268 w16267 w16270 w16271 w16272 w16274 w16273 w16275 w16279 w16278 a16280 ⊢) <;> first | omega | ((try simp (disch := omega) only [zb] at u11064 xq2 h11065 xq12 h11078 xq14 a11098 u11099 h11100 h11101 h13828 h15064 h15319 a15574 h15575 h15820 h16065 w16066 w16067 r16068 r16069 r16070 h16071 h16091 h16211 h16256 w16257 w16258 w16260 w16262 w16261 w16263 w16265 w16266 w16268 w16267 w16270 w16271 w16272 w16274 w16273 w16275 w16279 w16278 a16280 ⊢) <;> omega))⟩
                            · refine sw_sh (ci_sh cq30 t_p0 rfl) ?_
                              refine sw_on (sX9_put cq30 t_p0 (by (try simp only [zp, zo, zq] at u11064 xq2 h11065 xq12 h11078 xq14 a11098 u11099 h11100 h11101 h13828 h15064 h15319 a15574 h15575 h15820 h16065 w16066 w16067 r16068 r16069 r16070 h16071 h16091 h16211 h16256 ⊢) <;> (try simp only [zz, Int32.reduceToInt, ne_eq] at u11064 xq2 h11065 xq12 h11078 xq14 a11098 u11099 h11100 h11101 h13828 h15064 h15319 a15574 h15575 h15820 h16065 w16066 w16067 r16068 r16069 r16070 h16071 h16091 h16211 h16256 ⊢) <;> (try simp (disch := omega) only [zb] at u11064 xq2 h11065 xq12 h11078 xq14 a11098 u11099 h11100 h11101 h13828 h15064 h15319 a15574 h15575 h15820 h16065 w16066 w16067 r16068 r16069 r16070 h16071 h16091 h16211 h16256 ⊢) <;> first | omega | ((try simp (disch := omega) only [zb] at u11064 xq2 h11065 xq12 h11078 xq14 a11098 u11099 h11100 h11101 h13828 h15064 h15319 a15574 h15575 h15820 h16065 w16066 w16067 r16068 r16069 r16070 h16071 h16091 h16211 h16256 ⊢) <;> omega)) ) ?_
                              intro q28 hqq28
                              obtain ⟨cq28, gq28, xq28⟩ := hqq28
                              have fq28 := fr_trans fq30 gq28 rfl
                              have w16281 := (gq28.2.2 _ _ t_p0 0 rfl).1
                              have w16282 := (gq30.2.2 _ _ t_p0 0 rfl).1
                              have w16283 : mm_I s11 p0 0 = mm_I q2.2 p0 0 := by rw [← es11]; exact rd_k t_p0 tq5 (by decide)
                              have w16285 := rdA_fr (k := 9) (j := 0) gq28 cq30 t_p0 (κ' := 59) rfl rfl rfl
                              have w16286 := rdA_fr (k := 9) (j := 0) gq30 cs11 t_p0 (κ' := 59) rfl rfl rfl
                              have w16288 : rdA s11 p0 9 0 = mm_I s11 q17 ((0 : Int32)).toNatClampNeg := rdA_eq eq17
                              have w16287 : rdA s11 p0 9 0 = rdA q2.2 p0 9 0 := by rw [← es11]; exact rdA_k cq2 t_p0 (κ' := 59) rfl tq5 (by decide)
                              have w16289 := rdA_fr (k := 9) (j := 0) gq2 c0 t_p0 (κ' := 59) rfl rfl rfl
                              have w16291 := rdA_fr (k := 10) (j := 0) gq28 cq30 t_p0 (κ' := 60) rfl rfl rfl
                              have w16292 := rdA_fr (k := 10) (j := 0) gq30 cs11 t_p0 (κ' := 60) rfl rfl rfl
                              have w16293 : rdA s11 p0 10 0 = rdA q2.2 p0 10 0 := by rw [← es11]; exact rdA_j (by decide)
                              have w16295 : rdA q2.2 p0 10 0 = mm_I q2.2 q5 ((0 : Int32)).toNatClampNeg := rdA_eq eq5
                              have w16294 := rdA_fr (k := 10) (j := 0) gq2 c0 t_p0 (κ' := 60) rfl rfl rfl
                              have w16297 := rdA_fr (k := 10) (j := 1) gq28 cq30 t_p0 (κ' := 60) rfl rfl rfl
                              have w16298 := rdA_fr (k := 10) (j := 1) gq30 cs11 t_p0 (κ' := 60) rfl rfl rfl
                              have w16299 : rdA s11 p0 10 1 = -1 := by rw [← es11]; exact rdA_self eq5
                              have w16300 := rdA_fr (k := 9) (j := 1) gq28 cq30 t_p0 (κ' := 59) rfl rfl rfl
                              have w16301 := rdA_fr (k := 9) (j := 1) gq30 cs11 t_p0 (κ' := 59) rfl rfl rfl
                              have w16303 : rdA s11 p0 9 1 = mm_I s11 q17 ((1 : Int32)).toNatClampNeg := rdA_eq eq17
                              have w16302 : rdA s11 p0 9 1 = rdA q2.2 p0 9 1 := by rw [← es11]; exact rdA_k cq2 t_p0 (κ' := 59) rfl tq5 (by decide)
                              have w16304 := rdA_fr (k := 9) (j := 1) gq2 c0 t_p0 (κ' := 59) rfl rfl rfl
                              have w16308 : rdA q2.2 p0 10 1 = mm_I q2.2 q5 ((1 : Int32)).toNatClampNeg := rdA_eq eq5
                              have w16307 := rdA_fr (k := 10) (j := 1) gq2 c0 t_p0 (κ' := 60) rfl rfl rfl
                              have a16309 := zi_and p2 8 (by decide)
                              exact sw_some ⟨cq28, fq28, (by (try simp only [zp, zo, zq] at u11064 xq2 h11065 xq12 h11078 xq14 a11098 u11099 h11100 h11101 h13828 h15064 h15319 a15574 h15575 h15820 h16065 w16066 w16067 r16068 r16069 r16070 h16071 h16091 h16211 h16256 w16281 w16282 w16283 w16285 w16286 w16288 w16287 w16289 w16291 w16292 w16293 w16295 w16294 w16297 w16298 w16299 w16300 w16301 w16303 w16302 w16304 w16308 w16307 a16309 ⊢) <;> (try simp only [zz, Int32.reduceToInt, ne_eq] at u11064 xq2 h11065 xq12 h11078 xq14 a11098 u11099 h11100 h11101 h13828 h15064 h15319 a15574 h15575 h15820 h16065 w16066 w16067 r16068 r16069 r16070 h16071 h16091 h16211 h16256 w16281 w16282 w16283 w16285 w16286 w16288 w16287 w16289 w16291 w16292 w16293 w16295 w16294 w16297 w16298 w16299 w16300 w16301 w16303 w16302 w16304 w16308 w16307 a16309 ⊢) <;> (try simp (disch := omega) only [zb] at u11064 xq2 h11065 xq12 h11078 xq14 a11098 u11099 h11100 h11101 h13828 h15064 h15319 a15574 h15575 h15820 h16065 w16066 w16067 r16068 r16069 r16070 h16071 h16091 h16211 h16256 w16281 w16282 w16283 w16285 w16286 w16288 w16287 w16289 w16291 w16292 w16293 w16295 w16294 w16297 w16298 w16299 w16300 w16301 w16303 w16302 w16304 w16308 w16307 a16309 ⊢) <;> first | omega | ((try simp (disch := omega) only [zb] at u11064 xq2 h11065 xq12 h11078 xq14 a11098 u11099 h11100 h11101 h13828 h15064 h15319 a15574 h15575 h15820 h16065 w16066 w16067 r16068 r16069 r16070 h16071 h16091 h16211 h16256 w16281 w16282 w16283 w16285 w16286 w16288 w16287 w16289 w16291 w16292 w16293 w16295 w16294 w16297 w16298 w16299 w16300 w16301 w16303 w16302 w16304 w16308 w16307 a16309 ⊢) <;> omega))⟩
                    · unfold fX9_pair_227
                      unfold fX9_pair_228
                      have w16310 : mm_I s11 q17 ((1 : Int32).toNatClampNeg) = mm_I q2.2 q17 ((1 : Int32).toNatClampNeg) := by rw [← es11]; exact rd_k tq17 tq5 (by decide)
                      have w16311 := (gq2.2.2 _ _ tq17 ((1 : Int32).toNatClampNeg) rfl).1
                      have r16312 := ci_rg c0 tq17 ((1 : Int32).toNatClampNeg) (lo := (-1)) (hi := 3) rfl
                      have r16313 := ci_rg cq2 tq17 ((1 : Int32).toNatClampNeg) (lo := (-1)) (hi := 3) rfl
                      have r16314 := ci_rg cs11 tq17 ((1 : Int32).toNatClampNeg) (lo := (-1)) (hi := 3) rfl
                      refine sw_ite (fun h16315 => ?_) (fun h16315 => ?_)
                      · have w16316 : mm_I s11 p0 0 = mm_I q2.2 p0 0 := by rw [← es11]; exact rd_k t_p0 tq5 (by decide)
                        have w16319 : rdA s11 p0 9 0 = mm_I s11 q17 ((0 : Int32)).toNatClampNeg := rdA_eq eq17
                        have w16318 : rdA s11 p0 9 0 = rdA q2.2 p0 9 0 := by rw [← es11]; exact rdA_k cq2 t_p0 (κ' := 59) rfl tq5 (by decide)
                        have w16320 := rdA_fr (k := 9) (j := 0) gq2 c0 t_p0 (κ' := 59) rfl rfl rfl
                        have w16322 : rdA s11 p0 10 0 = rdA q2.2 p0 10 0 := by rw [← es11]; exact rdA_j (by decide)
                        have w16324 : rdA q2.2 p0 10 0 = mm_I q2.2 q5 ((0 : Int32)).toNatClampNeg := rdA_eq eq5
                        have w16323 := rdA_fr (k := 10) (j := 0) gq2 c0 t_p0 (κ' := 60) rfl rfl rfl
                        have w16326 : rdA s11 p0 10 1 = -1 := by rw [← es11]; exact rdA_self eq5
                        have w16328 : rdA s11 p0 9 1 = mm_I s11 q17 ((1 : Int32)).toNatClampNeg := rdA_eq eq17
                        have w16327 : rdA s11 p0 9 1 = rdA q2.2 p0 9 1 := by rw [← es11]; exact rdA_k cq2 t_p0 (κ' := 59) rfl tq5 (by decide)
                        have w16329 := rdA_fr (k := 9) (j := 1) gq2 c0 t_p0 (κ' := 59) rfl rfl rfl
                        have w16333 : rdA q2.2 p0 10 1 = mm_I q2.2 q5 ((1 : Int32)).toNatClampNeg := rdA_eq eq5
                        have w16332 := rdA_fr (k := 10) (j := 1) gq2 c0 t_p0 (κ' := 60) rfl rfl rfl
                        have a16334 := zi_and p2 8 (by decide)
                        exact sw_some ⟨cs11, fs11, (by (try simp only [zp, zo, zq] at u11064 xq2 h11065 xq12 h11078 xq14 a11098 u11099 h11100 h11101 h13828 h15064 h15319 a15574 h15575 h15820 h16065 w16310 w16311 r16312 r16313 r16314 h16315 w16316 w16319 w16318 w16320 w16322 w16324 w16323 w16326 w16328 w16327 w16329 w16333 w16332 a16334 ⊢) <;> (try simp only [zz, Int32.reduceToInt, ne_eq] at u11064 xq2 h11065 xq12 h11078 xq14 a11098 u11099 h11100 h11101 h13828 h15064 h15319 a15574 h15575 h15820 h16065 w16310 w16311 r16312 r16313 r16314 h16315 w16316 w16319 w16318 w16320 w16322 w16324 w16323 w16326 w16328 w16327 w16329 w16333 w16332 a16334 ⊢) <;> (try simp (disch := omega) only [zb] at u11064 xq2 h11065 xq12 h11078 xq14 a11098 u11099 h11100 h11101 h13828 h15064 h15319 a15574 h15575 h15820 h16065 w16310 w16311 r16312 r16313 r16314 h16315 w16316 w16319 w16318 w16320 w16322 w16324 w16323 w16326 w16328 w16327 w16329 w16333 w16332 a16334 ⊢) <;> first | omega | ((try simp (disch := omega) only [zb] at u11064 xq2 h11065 xq12 h11078 xq14 a11098 u11099 h11100 h11101 h13828 h15064 h15319 a15574 h15575 h15820 h16065 w16310 w16311 r16312 r16313 r16314 h16315 w16316 w16319 w16318 w16320 w16322 w16324 w16323 w16326 w16328 w16327 w16329 w16333 w16332 a16334 ⊢) <;> omega))⟩
                      · refine sw_ite (fun h16335 => ?_) (fun h16335 => ?_)
                        · refine sw_ite (fun h16336 => ?_) (fun h16336 => ?_)
                          · have w16337 : mm_I s11 p0 0 = mm_I q2.2 p0 0 := by rw [← es11]; exact rd_k t_p0 tq5 (by decide)
                            have w16340 : rdA s11 p0 9 0 = mm_I s11 q17 ((0 : Int32)).toNatClampNeg := rdA_eq eq17
                            have w16339 : rdA s11 p0 9 0 = rdA q2.2 p0 9 0 := by rw [← es11]; exact rdA_k cq2 t_p0 (κ' := 59) rfl tq5 (by decide)
                            have w16341 := rdA_fr (k := 9) (j := 0) gq2 c0 t_p0 (κ' := 59) rfl rfl rfl
                            have w16343 : rdA s11 p0 10 0 = rdA q2.2 p0 10 0 := by rw [← es11]; exact rdA_j (by decide)
                            have w16345 : rdA q2.2 p0 10 0 = mm_I q2.2 q5 ((0 : Int32)).toNatClampNeg := rdA_eq eq5
                            have w16344 := rdA_fr (k := 10) (j := 0) gq2 c0 t_p0 (κ' := 60) rfl rfl rfl
                            have w16347 : rdA s11 p0 10 1 = -1 := by rw [← es11]; exact rdA_self eq5
                            have w16349 : rdA s11 p0 9 1 = mm_I s11 q17 ((1 : Int32)).toNatClampNeg := rdA_eq eq17
                            have w16348 : rdA s11 p0 9 1 = rdA q2.2 p0 9 1 := by rw [← es11]; exact rdA_k cq2 t_p0 (κ' := 59) rfl tq5 (by decide)
                            have w16350 := rdA_fr (k := 9) (j := 1) gq2 c0 t_p0 (κ' := 59) rfl rfl rfl
                            have w16354 : rdA q2.2 p0 10 1 = mm_I q2.2 q5 ((1 : Int32)).toNatClampNeg := rdA_eq eq5
                            have w16353 := rdA_fr (k := 10) (j := 1) gq2 c0 t_p0 (κ' := 60) rfl rfl rfl
                            have a16355 := zi_and p2 8 (by decide)
                            exact sw_some ⟨cs11, fs11, (by (try simp only [zp, zo, zq] at u11064 xq2 h11065 xq12 h11078 xq14 a11098 u11099 h11100 h11101 h13828 h15064 h15319 a15574 h15575 h15820 h16065 w16310 w16311 r16312 r16313 r16314 h16315 h16335 h16336 w16337 w16340 w16339 w16341 w16343 w16345 w16344 w16347 w16349 w16348 w16350 w16354 w16353 a16355 ⊢) <;> (try simp only [zz, Int32.reduceToInt, ne_eq] at u11064 xq2 h11065 xq12 h11078 xq14 a11098 u11099 h11100 h11101 h13828 h15064 h15319 a15574 h15575 h15820 h16065 w16310 w16311 r16312 r16313 r16314 h16315 h16335 h16336 w16337 w16340 w16339 w16341 w16343 w16345 w16344 w16347 w16349 w16348 w16350 w16354 w16353 a16355 ⊢) <;> (try simp (disch := omega) only [zb] at u11064 xq2 h11065 xq12 h11078 xq14 a11098 u11099 h11100 h11101 h13828 h15064 h15319 a15574 h15575 h15820 h16065 w16310 w16311 r16312 r16313 r16314 h16315 h16335 h16336 w16337 w16340 w16339 w16341 w16343 w16345 w16344 w16347 w16349 w16348 w16350 w16354 w16353 a16355 ⊢) <;> first | omega | ((try simp (disch := omega) only [zb] at u11064 xq2 h11065 xq12 h11078 xq14 a11098 u11099 h11100 h11101 h13828 h15064 h15319 a15574 h15575 h15820 h16065 w16310 w16311 r16312 r16313 r16314 h16315 h16335 h16336 w16337 w16340 w16339 w16341 w16343 w16345 w16344 w16347 w16349 w16348 w16350 w16354 w16353 a16355 ⊢) <;> omega))⟩
                          · unfold fX9_pair_250
                            refine sw_ite (fun h16356 => ?_) (fun h16356 => ?_)
                            · unfold fX9_pair_264
                              refine sw_ite (fun h16357 => ?_) (fun h16357 => ?_)
                              · have w16358 : mm_I s11 p0 0 = mm_I q2.2 p0 0 := by rw [← es11]; exact rd_k t_p0 tq5 (by decide)
                                have w16361 : rdA s11 p0 9 0 = mm_I s11 q17 ((0 : Int32)).toNatClampNeg := rdA_eq eq17
                                have w16360 : rdA s11 p0 9 0 = rdA q2.2 p0 9 0 := by rw [← es11]; exact rdA_k cq2 t_p0 (κ' := 59) rfl tq5 (by decide)
                                have w16362 := rdA_fr (k := 9) (j := 0) gq2 c0 t_p0 (κ' := 59) rfl rfl rfl
                                have w16364 : rdA s11 p0 10 0 = rdA q2.2 p0 10 0 := by rw [← es11]; exact rdA_j (by decide)
                                have w16366 : rdA q2.2 p0 10 0 = mm_I q2.2 q5 ((0 : Int32)).toNatClampNeg := rdA_eq eq5
                                have w16365 := rdA_fr (k := 10) (j := 0) gq2 c0 t_p0 (κ' := 60) rfl rfl rfl
                                have w16368 : rdA s11 p0 10 1 = -1 := by rw [← es11]; exact rdA_self eq5
                                have w16370 : rdA s11 p0 9 1 = mm_I s11 q17 ((1 : Int32)).toNatClampNeg := rdA_eq eq17
                                have w16369 : rdA s11 p0 9 1 = rdA q2.2 p0 9 1 := by rw [← es11]; exact rdA_k cq2 t_p0 (κ' := 59) rfl tq5 (by decide)
                                have w16371 := rdA_fr (k := 9) (j := 1) gq2 c0 t_p0 (κ' := 59) rfl rfl rfl
                                have w16375 : rdA q2.2 p0 10 1 = mm_I q2.2 q5 ((1 : Int32)).toNatClampNeg := rdA_eq eq5
                                have w16374 := rdA_fr (k := 10) (j := 1) gq2 c0 t_p0 (κ' := 60) rfl rfl rfl
                                have a16376 := zi_and p2 8 (by decide)
                                exact sw_some ⟨cs11, fs11, (by (try simp only [zp, zo, zq] at u11064 xq2 h11065 xq12 h11078 xq14 a11098 u11099 h11100 h11101 h13828 h15064 h15319 a15574 h15575 h15820 h16065 w16310 w16311 r16312 r16313 r16314 h16315 h16335 h16336 h16356 h16357 w16358 w16361 w16360 w16362 w16364 w16366 w16365 w16368 w16370 w16369 w16371 w16375 w16374 a16376 ⊢) <;> (try simp only [zz, Int32.reduceToInt, ne_eq] at u11064 xq2 h11065 xq12 h11078 xq14 a11098 u11099 h11100 h11101 h13828 h15064 h15319 a15574 h15575 h15820 h16065 w16310 w16311 r16312 r16313 r16314 h16315 h16335 h16336 h16356 h16357 w16358 w16361 w16360 w16362 w16364 w16366 w16365 w16368 w16370 w16369 w16371 w16375 w16374 a16376 ⊢) <;> (try simp (disch := omega) only [zb] at u11064 xq2 h11065 xq12 h11078 xq14 a11098 u11099 h11100 h11101 h13828 h15064 h15319 a15574 h15575 h15820 h16065 w16310 w16311 r16312 r16313 r16314 h16315 h16335 h16336 h16356 h16357 w16358 w16361 w16360 w16362 w16364 w16366 w16365 w16368 w16370 w16369 w16371 w16375 w16374 a16376 ⊢) <;> first | omega | ((try simp (disch := omega) only [zb] at u11064 xq2 h11065 xq12 h11078 xq14 a11098 u11099 h11100 h11101 h13828 h15064 h15319 a15574 h15575 h15820 h16065 w16310 w16311 r16312 r16313 r16314 h16315 h16335 h16336 h16356 h16357 w16358 w16361 w16360 w16362 w16364 w16366 w16365 w16368 w16370 w16369 w16371 w16375 w16374 a16376 ⊢) <;> omega))⟩
                              · refine sw_sh (ci_sh cs11 t_p0 rfl) ?_
                                refine sw_on (sX9_put cs11 t_p0 (by (try simp only [zp, zo, zq] at u11064 xq2 h11065 xq12 h11078 xq14 a11098 u11099 h11100 h11101 h13828 h15064 h15319 a15574 h15575 h15820 h16065 w16310 w16311 r16312 r16313 r16314 h16315 h16335 h16336 h16356 h16357 ⊢) <;> (try simp only [zz, Int32.reduceToInt, ne_eq] at u11064 xq2 h11065 xq12 h11078 xq14 a11098 u11099 h11100 h11101 h13828 h15064 h15319 a15574 h15575 h15820 h16065 w16310 w16311 r16312 r16313 r16314 h16315 h16335 h16336 h16356 h16357 ⊢) <;> (try simp (disch := omega) only [zb] at u11064 xq2 h11065 xq12 h11078 xq14 a11098 u11099 h11100 h11101 h13828 h15064 h15319 a15574 h15575 h15820 h16065 w16310 w16311 r16312 r16313 r16314 h16315 h16335 h16336 h16356 h16357 ⊢) <;> first | omega | ((try simp (disch := omega) only [zb] at u11064 xq2 h11065 xq12 h11078 xq14 a11098 u11099 h11100 h11101 h13828 h15064 h15319 a15574 h15575 h15820 h16065 w16310 w16311 r16312 r16313 r16314 h16315 h16335 h16336 h16356 h16357 ⊢) <;> omega)) ) ?_
                                intro q28 hqq28
                                obtain ⟨cq28, gq28, xq28⟩ := hqq28
                                have fq28 := fr_trans fs11 gq28 rfl
                                have w16377 := (gq28.2.2 _ _ t_p0 0 rfl).1
                                have w16378 : mm_I s11 p0 0 = mm_I q2.2 p0 0 := by rw [← es11]; exact rd_k t_p0 tq5 (by decide)
                                have w16380 := rdA_fr (k := 9) (j := 0) gq28 cs11 t_p0 (κ' := 59) rfl rfl rfl
                                have w16382 : rdA s11 p0 9 0 = mm_I s11 q17 ((0 : Int32)).toNatClampNeg := rdA_eq eq17
                                have w16381 : rdA s11 p0 9 0 = rdA q2.2 p0 9 0 := by rw [← es11]; exact rdA_k cq2 t_p0 (κ' := 59) rfl tq5 (by decide)
                                have w16383 := rdA_fr (k := 9) (j := 0) gq2 c0 t_p0 (κ' := 59) rfl rfl rfl
                                have w16385 := rdA_fr (k := 10) (j := 0) gq28 cs11 t_p0 (κ' := 60) rfl rfl rfl
                                have w16386 : rdA s11 p0 10 0 = rdA q2.2 p0 10 0 := by rw [← es11]; exact rdA_j (by decide)
                                have w16388 : rdA q2.2 p0 10 0 = mm_I q2.2 q5 ((0 : Int32)).toNatClampNeg := rdA_eq eq5
                                have w16387 := rdA_fr (k := 10) (j := 0) gq2 c0 t_p0 (κ' := 60) rfl rfl rfl
                                have w16390 := rdA_fr (k := 10) (j := 1) gq28 cs11 t_p0 (κ' := 60) rfl rfl rfl
                                have w16391 : rdA s11 p0 10 1 = -1 := by rw [← es11]; exact rdA_self eq5
                                have w16392 := rdA_fr (k := 9) (j := 1) gq28 cs11 t_p0 (κ' := 59) rfl rfl rfl
                                have w16394 : rdA s11 p0 9 1 = mm_I s11 q17 ((1 : Int32)).toNatClampNeg := rdA_eq eq17
                                have w16393 : rdA s11 p0 9 1 = rdA q2.2 p0 9 1 := by rw [← es11]; exact rdA_k cq2 t_p0 (κ' := 59) rfl tq5 (by decide)
                                have w16395 := rdA_fr (k := 9) (j := 1) gq2 c0 t_p0 (κ' := 59) rfl rfl rfl
                                have w16399 : rdA q2.2 p0 10 1 = mm_I q2.2 q5 ((1 : Int32)).toNatClampNeg := rdA_eq eq5
                                have w16398 := rdA_fr (k := 10) (j := 1) gq2 c0 t_p0 (κ' := 60) rfl rfl rfl
                                have a16400 := zi_and p2 8 (by decide)
                                exact sw_some ⟨cq28, fq28, (by (try simp only [zp, zo, zq] at u11064 xq2 h11065 xq12 h11078 xq14 a11098 u11099 h11100 h11101 h13828 h15064 h15319 a15574 h15575 h15820 h16065 w16310 w16311 r16312 r16313 r16314 h16315 h16335 h16336 h16356 h16357 w16377 w16378 w16380 w16382 w16381 w16383 w16385 w16386 w16388 w16387 w16390 w16391 w16392 w16394 w16393 w16395 w16399 w16398 a16400 ⊢) <;> (try simp only [zz, Int32.reduceToInt, ne_eq] at u11064 xq2 h11065 xq12 h11078 xq14 a11098 u11099 h11100 h11101 h13828 h15064 h15319 a15574 h15575 h15820 h16065 w16310 w16311 r16312 r16313 r16314 h16315 h16335 h16336 h16356 h16357 w16377 w16378 w16380 w16382 w16381 w16383 w16385 w16386 w16388 w16387 w16390 w16391 w16392 w16394 w16393 w16395 w16399 w16398 a16400 ⊢) <;> (try simp (disch := omega) only [zb] at u11064 xq2 h11065 xq12 h11078 xq14 a11098 u11099 h11100 h11101 h13828 h15064 h15319 a15574 h15575 h15820 h16065 w16310 w16311 r16312 r16313 r16314 h16315 h16335 h16336 h16356 h16357 w16377 w16378 w16380 w16382 w16381 w16383 w16385 w16386 w16388 w16387 w16390 w16391 w16392 w16394 w16393 w16395 w16399 w16398 a16400 ⊢) <;> first | omega | ((try simp (disch := omega) only [zb] at u11064 xq2 h11065 xq12 h11078 xq14 a11098 u11099 h11100 h11101 h13828 h15064 h15319 a15574 h15575 h15820 h16065 w16310 w16311 r16312 r16313 r16314 h16315 h16335 h16336 h16356 h16357 w16377 w16378 w16380 w16382 w16381 w16383 w16385 w16386 w16388 w16387 w16390 w16391 w16392 w16394 w16393 w16395 w16399 w16398 a16400 ⊢) <;> omega))⟩
                            · refine sw_sh (ci_sh cs11 t_p0 rfl) ?_
                              refine sw_on (sX9_put cs11 t_p0 (by (try simp only [zp, zo, zq] at u11064 xq2 h11065 xq12 h11078 xq14 a11098 u11099 h11100 h11101 h13828 h15064 h15319 a15574 h15575 h15820 h16065 w16310 w16311 r16312 r16313 r16314 h16315 h16335 h16336 h16356 ⊢) <;> (try simp only [zz, Int32.reduceToInt, ne_eq] at u11064 xq2 h11065 xq12 h11078 xq14 a11098 u11099 h11100 h11101 h13828 h15064 h15319 a15574 h15575 h15820 h16065 w16310 w16311 r16312 r16313 r16314 h16315 h16335 h16336 h16356 ⊢) <;> (try simp (disch := omega) only [zb] at u11064 xq2 h11065 xq12 h11078 xq14 a11098 u11099 h11100 h11101 h13828 h15064 h15319 a15574 h15575 h15820 h16065 w16310 w16311 r16312 r16313 r16314 h16315 h16335 h16336 h16356 ⊢) <;> first | omega | ((try simp (disch := omega) only [zb] at u11064 xq2 h11065 xq12 h11078 xq14 a11098 u11099 h11100 h11101 h13828 h15064 h15319 a15574 h15575 h15820 h16065 w16310 w16311 r16312 r16313 r16314 h16315 h16335 h16336 h16356 ⊢) <;> omega)) ) ?_
                              intro q30 hqq30
                              obtain ⟨cq30, gq30, xq30⟩ := hqq30
                              have fq30 := fr_trans fs11 gq30 rfl
                              unfold fX9_pair_264
                              refine sw_ite (fun h16401 => ?_) (fun h16401 => ?_)
                              · have w16402 := (gq30.2.2 _ _ t_p0 0 rfl).1
                                have w16403 : mm_I s11 p0 0 = mm_I q2.2 p0 0 := by rw [← es11]; exact rd_k t_p0 tq5 (by decide)
                                have w16405 := rdA_fr (k := 9) (j := 0) gq30 cs11 t_p0 (κ' := 59) rfl rfl rfl
                                have w16407 : rdA s11 p0 9 0 = mm_I s11 q17 ((0 : Int32)).toNatClampNeg := rdA_eq eq17
                                have w16406 : rdA s11 p0 9 0 = rdA q2.2 p0 9 0 := by rw [← es11]; exact rdA_k cq2 t_p0 (κ' := 59) rfl tq5 (by decide)
                                have w16408 := rdA_fr (k := 9) (j := 0) gq2 c0 t_p0 (κ' := 59) rfl rfl rfl
                                have w16410 := rdA_fr (k := 10) (j := 0) gq30 cs11 t_p0 (κ' := 60) rfl rfl rfl
                                have w16411 : rdA s11 p0 10 0 = rdA q2.2 p0 10 0 := by rw [← es11]; exact rdA_j (by decide)
                                have w16413 : rdA q2.2 p0 10 0 = mm_I q2.2 q5 ((0 : Int32)).toNatClampNeg := rdA_eq eq5
                                have w16412 := rdA_fr (k := 10) (j := 0) gq2 c0 t_p0 (κ' := 60) rfl rfl rfl
                                have w16415 := rdA_fr (k := 10) (j := 1) gq30 cs11 t_p0 (κ' := 60) rfl rfl rfl
                                have w16416 : rdA s11 p0 10 1 = -1 := by rw [← es11]; exact rdA_self eq5
                                have w16417 := rdA_fr (k := 9) (j := 1) gq30 cs11 t_p0 (κ' := 59) rfl rfl rfl
                                have w16419 : rdA s11 p0 9 1 = mm_I s11 q17 ((1 : Int32)).toNatClampNeg := rdA_eq eq17
                                have w16418 : rdA s11 p0 9 1 = rdA q2.2 p0 9 1 := by rw [← es11]; exact rdA_k cq2 t_p0 (κ' := 59) rfl tq5 (by decide)
                                have w16420 := rdA_fr (k := 9) (j := 1) gq2 c0 t_p0 (κ' := 59) rfl rfl rfl
                                have w16424 : rdA q2.2 p0 10 1 = mm_I q2.2 q5 ((1 : Int32)).toNatClampNeg := rdA_eq eq5
                                have w16423 := rdA_fr (k := 10) (j := 1) gq2 c0 t_p0 (κ' := 60) rfl rfl rfl
                                have a16425 := zi_and p2 8 (by decide)
                                exact sw_some ⟨cq30, fq30, (by (try simp only [zp, zo, zq] at u11064 xq2 h11065 xq12 h11078 xq14 a11098 u11099 h11100 h11101 h13828 h15064 h15319 a15574 h15575 h15820 h16065 w16310 w16311 r16312 r16313 r16314 h16315 h16335 h16336 h16356 h16401 w16402 w16403 w16405 w16407 w16406 w16408 w16410 w16411 w16413 w16412 w16415 w16416 w16417 w16419 w16418 w16420 w16424 w16423 a16425 ⊢) <;> (try simp only [zz, Int32.reduceToInt, ne_eq] at u11064 xq2 h11065 xq12 h11078 xq14 a11098 u11099 h11100 h11101 h13828 h15064 h15319 a15574 h15575 h15820 h16065 w16310 w16311 r16312 r16313 r16314 h16315 h16335 h16336 h16356 h16401 w16402 w16403 w16405 w16407 w16406 w16408 w16410 w16411 w16413 w16412 w16415 w16416 w16417 w16419 w16418 w16420 w16424 w16423 a16425 ⊢) <;> (try simp (disch := omega) only [zb] at u11064 xq2 h11065 xq12 h11078 xq14 a11098 u11099 h11100 h11101 h13828 h15064 h15319 a15574 h15575 h15820 h16065 w16310 w16311 r16312 r16313 r16314 h16315 h16335 h16336 h16356 h16401 w16402 w16403 w16405 w16407 w16406 w16408 w16410 w16411 w16413 w16412 w16415 w16416 w16417 w16419 w16418 w16420 w16424 w16423 a16425 ⊢) <;> first | omega | ((try simp (disch := omega) only [zb] at u11064 xq2 h11065 xq12 h11078 xq14 a11098 u11099 h11100 h11101 h13828 h15064 h15319 a15574 h15575 h15820 h16065 w16310 w16311 r16312 r16313 r16314 h16315 h16335 h16336 h16356 h16401 w16402 w16403 w16405 w16407 w16406 w16408 w16410 w16411 w16413 w16412 w16415 w16416 w16417 w16419 w16418 w16420 w16424 w16423 a16425 ⊢) <;> omega))⟩
                              · refine sw_sh (ci_sh cq30 t_p0 rfl) ?_
                                refine sw_on (sX9_put cq30 t_p0 (by (try simp only [zp, zo, zq] at u11064 xq2 h11065 xq12 h11078 xq14 a11098 u11099 h11100 h11101 h13828 h15064 h15319 a15574 h15575 h15820 h16065 w16310 w16311 r16312 r16313 r16314 h16315 h16335 h16336 h16356 h16401 ⊢) <;> (try simp only [zz, Int32.reduceToInt, ne_eq] at u11064 xq2 h11065 xq12 h11078 xq14 a11098 u11099 h11100 h11101 h13828 h15064 h15319 a15574 h15575 h15820 h16065 w16310 w16311 r16312 r16313 r16314 h16315 h16335 h16336 h16356 h16401 ⊢) <;> (try simp (disch := omega) only [zb] at u11064 xq2 h11065 xq12 h11078 xq14 a11098 u11099 h11100 h11101 h13828 h15064 h15319 a15574 h15575 h15820 h16065 w16310 w16311 r16312 r16313 r16314 h16315 h16335 h16336 h16356 h16401 ⊢) <;> first | omega | ((try simp (disch := omega) only [zb] at u11064 xq2 h11065 xq12 h11078 xq14 a11098 u11099 h11100 h11101 h13828 h15064 h15319 a15574 h15575 h15820 h16065 w16310 w16311 r16312 r16313 r16314 h16315 h16335 h16336 h16356 h16401 ⊢) <;> omega)) ) ?_
                                intro q28 hqq28
                                obtain ⟨cq28, gq28, xq28⟩ := hqq28
                                have fq28 := fr_trans fq30 gq28 rfl
                                have w16426 := (gq28.2.2 _ _ t_p0 0 rfl).1
                                have w16427 := (gq30.2.2 _ _ t_p0 0 rfl).1
                                have w16428 : mm_I s11 p0 0 = mm_I q2.2 p0 0 := by rw [← es11]; exact rd_k t_p0 tq5 (by decide)
                                have w16430 := rdA_fr (k := 9) (j := 0) gq28 cq30 t_p0 (κ' := 59) rfl rfl rfl
                                have w16431 := rdA_fr (k := 9) (j := 0) gq30 cs11 t_p0 (κ' := 59) rfl rfl rfl
                                have w16433 : rdA s11 p0 9 0 = mm_I s11 q17 ((0 : Int32)).toNatClampNeg := rdA_eq eq17
                                have w16432 : rdA s11 p0 9 0 = rdA q2.2 p0 9 0 := by rw [← es11]; exact rdA_k cq2 t_p0 (κ' := 59) rfl tq5 (by decide)
                                have w16434 := rdA_fr (k := 9) (j := 0) gq2 c0 t_p0 (κ' := 59) rfl rfl rfl
                                have w16436 := rdA_fr (k := 10) (j := 0) gq28 cq30 t_p0 (κ' := 60) rfl rfl rfl
                                have w16437 := rdA_fr (k := 10) (j := 0) gq30 cs11 t_p0 (κ' := 60) rfl rfl rfl
                                have w16438 : rdA s11 p0 10 0 = rdA q2.2 p0 10 0 := by rw [← es11]; exact rdA_j (by decide)
                                have w16440 : rdA q2.2 p0 10 0 = mm_I q2.2 q5 ((0 : Int32)).toNatClampNeg := rdA_eq eq5
                                have w16439 := rdA_fr (k := 10) (j := 0) gq2 c0 t_p0 (κ' := 60) rfl rfl rfl
                                have w16442 := rdA_fr (k := 10) (j := 1) gq28 cq30 t_p0 (κ' := 60) rfl rfl rfl
                                have w16443 := rdA_fr (k := 10) (j := 1) gq30 cs11 t_p0 (κ' := 60) rfl rfl rfl
                                have w16444 : rdA s11 p0 10 1 = -1 := by rw [← es11]; exact rdA_self eq5
                                have w16445 := rdA_fr (k := 9) (j := 1) gq28 cq30 t_p0 (κ' := 59) rfl rfl rfl
                                have w16446 := rdA_fr (k := 9) (j := 1) gq30 cs11 t_p0 (κ' := 59) rfl rfl rfl
                                have w16448 : rdA s11 p0 9 1 = mm_I s11 q17 ((1 : Int32)).toNatClampNeg := rdA_eq eq17
                                have w16447 : rdA s11 p0 9 1 = rdA q2.2 p0 9 1 := by rw [← es11]; exact rdA_k cq2 t_p0 (κ' := 59) rfl tq5 (by decide)
                                have w16449 := rdA_fr (k := 9) (j := 1) gq2 c0 t_p0 (κ' := 59) rfl rfl rfl
                                have w16453 : rdA q2.2 p0 10 1 = mm_I q2.2 q5 ((1 : Int32)).toNatClampNeg := rdA_eq eq5
                                have w16452 := rdA_fr (k := 10) (j := 1) gq2 c0 t_p0 (κ' := 60) rfl rfl rfl
                                have a16454 := zi_and p2 8 (by decide)
                                exact sw_some ⟨cq28, fq28, (by (try simp only [zp, zo, zq] at u11064 xq2 h11065 xq12 h11078 xq14 a11098 u11099 h11100 h11101 h13828 h15064 h15319 a15574 h15575 h15820 h16065 w16310 w16311 r16312 r16313 r16314 h16315 h16335 h16336 h16356 h16401 w16426 w16427 w16428 w16430 w16431 w16433 w16432 w16434 w16436 w16437 w16438 w16440 w16439 w16442 w16443 w16444 w16445 w16446 w16448 w16447 w16449 w16453 w16452 a16454 ⊢) <;> (try simp only [zz, Int32.reduceToInt, ne_eq] at u11064 xq2 h11065 xq12 h11078 xq14 a11098 u11099 h11100 h11101 h13828 h15064 h15319 a15574 h15575 h15820 h16065 w16310 w16311 r16312 r16313 r16314 h16315 h16335 h16336 h16356 h16401 w16426 w16427 w16428 w16430 w16431 w16433 w16432 w16434 w16436 w16437 w16438 w16440 w16439 w16442 w16443 w16444 w16445 w16446 w16448 w16447 w16449 w16453 w16452 a16454 ⊢) <;> (try simp (disch := omega) only [zb] at u11064 xq2 h11065 xq12 h11078 xq14 a11098 u11099 h11100 h11101 h13828 h15064 h15319 a15574 h15575 h15820 h16065 w16310 w16311 r16312 r16313 r16314 h16315 h16335 h16336 h16356 h16401 w16426 w16427 w16428 w16430 w16431 w16433 w16432 w16434 w16436 w16437 w16438 w16440 w16439 w16442 w16443 w16444 w16445 w16446 w16448 w16447 w16449 w16453 w16452 a16454 ⊢) <;> first | omega | ((try simp (disch := omega) only [zb] at u11064 xq2 h11065 xq12 h11078 xq14 a11098 u11099 h11100 h11101 h13828 h15064 h15319 a15574 h15575 h15820 h16065 w16310 w16311 r16312 r16313 r16314 h16315 h16335 h16336 h16356 h16401 w16426 w16427 w16428 w16430 w16431 w16433 w16432 w16434 w16436 w16437 w16438 w16440 w16439 w16442 w16443 w16444 w16445 w16446 w16448 w16447 w16449 w16453 w16452 a16454 ⊢) <;> omega))⟩
                        · unfold fX9_pair_250
                          refine sw_ite (fun h16455 => ?_) (fun h16455 => ?_)
                          · unfold fX9_pair_264
                            refine sw_ite (fun h16456 => ?_) (fun h16456 => ?_)
                            · have w16457 : mm_I s11 p0 0 = mm_I q2.2 p0 0 := by rw [← es11]; exact rd_k t_p0 tq5 (by decide)
                              have w16460 : rdA s11 p0 9 0 = mm_I s11 q17 ((0 : Int32)).toNatClampNeg := rdA_eq eq17
                              have w16459 : rdA s11 p0 9 0 = rdA q2.2 p0 9 0 := by rw [← es11]; exact rdA_k cq2 t_p0 (κ' := 59) rfl tq5 (by decide)
                              have w16461 := rdA_fr (k := 9) (j := 0) gq2 c0 t_p0 (κ' := 59) rfl rfl rfl
                              have w16463 : rdA s11 p0 10 0 = rdA q2.2 p0 10 0 := by rw [← es11]; exact rdA_j (by decide)
                              have w16465 : rdA q2.2 p0 10 0 = mm_I q2.2 q5 ((0 : Int32)).toNatClampNeg := rdA_eq eq5
                              have w16464 := rdA_fr (k := 10) (j := 0) gq2 c0 t_p0 (κ' := 60) rfl rfl rfl
                              have w16467 : rdA s11 p0 10 1 = -1 := by rw [← es11]; exact rdA_self eq5
                              have w16469 : rdA s11 p0 9 1 = mm_I s11 q17 ((1 : Int32)).toNatClampNeg := rdA_eq eq17
                              have w16468 : rdA s11 p0 9 1 = rdA q2.2 p0 9 1 := by rw [← es11]; exact rdA_k cq2 t_p0 (κ' := 59) rfl tq5 (by decide)
                              have w16470 := rdA_fr (k := 9) (j := 1) gq2 c0 t_p0 (κ' := 59) rfl rfl rfl
                              have w16474 : rdA q2.2 p0 10 1 = mm_I q2.2 q5 ((1 : Int32)).toNatClampNeg := rdA_eq eq5
                              have w16473 := rdA_fr (k := 10) (j := 1) gq2 c0 t_p0 (κ' := 60) rfl rfl rfl
                              have a16475 := zi_and p2 8 (by decide)
                              exact sw_some ⟨cs11, fs11, (by (try simp only [zp, zo, zq] at u11064 xq2 h11065 xq12 h11078 xq14 a11098 u11099 h11100 h11101 h13828 h15064 h15319 a15574 h15575 h15820 h16065 w16310 w16311 r16312 r16313 r16314 h16315 h16335 h16455 h16456 w16457 w16460 w16459 w16461 w16463 w16465 w16464 w16467 w16469 w16468 w16470 w16474 w16473 a16475 ⊢) <;> (try simp only [zz, Int32.reduceToInt, ne_eq] at u11064 xq2 h11065 xq12 h11078 xq14 a11098 u11099 h11100 h11101 h13828 h15064 h15319 a15574 h15575 h15820 h16065 w16310 w16311 r16312 r16313 r16314 h16315 h16335 h16455 h16456 w16457 w16460 w16459 w16461 w16463 w16465 w16464 w16467 w16469 w16468 w16470 w16474 w16473 a16475 ⊢) <;> (try simp (disch := omega) only [zb] at u11064 xq2 h11065 xq12 h11078 xq14 a11098 u11099 h11100 h11101 h13828 h15064 h15319 a15574 h15575 h15820 h16065 w16310 w16311 r16312 r16313 r16314 h16315 h16335 h16455 h16456 w16457 w16460 w16459 w16461 w16463 w16465 w16464 w16467 w16469 w16468 w16470 w16474 w16473 a16475 ⊢) <;> first | omega | ((try simp (disch := omega) only [zb] at u11064 xq2 h11065 xq12 h11078 xq14 a11098 u11099 h11100 h11101 h13828 h15064 h15319 a15574 h15575 h15820 h16065 w16310 w16311 r16312 r16313 r16314 h16315 h16335 h16455 h16456 w16457 w16460 w16459 w16461 w16463 w16465 w16464 w16467 w16469 w16468 w16470 w16474 w16473 a16475 ⊢) <;> omega))⟩
                            · refine sw_sh (ci_sh cs11 t_p0 rfl) ?_
                              refine sw_on (sX9_put cs11 t_p0 (by (try simp only [zp, zo, zq] at u11064 xq2 h11065 xq12 h11078 xq14 a11098 u11099 h11100 h11101 h13828 h15064 h15319 a15574 h15575 h15820 h16065 w16310 w16311 r16312 r16313 r16314 h16315 h16335 h16455 h16456 ⊢) <;> (try simp only [zz, Int32.reduceToInt, ne_eq] at u11064 xq2 h11065 xq12 h11078 xq14 a11098 u11099 h11100 h11101 h13828 h15064 h15319 a15574 h15575 h15820 h16065 w16310 w16311 r16312 r16313 r16314 h16315 h16335 h16455 h16456 ⊢) <;> (try simp (disch := omega) only [zb] at u11064 xq2 h11065 xq12 h11078 xq14 a11098 u11099 h11100 h11101 h13828 h15064 h15319 a15574 h15575 h15820 h16065 w16310 w16311 r16312 r16313 r16314 h16315 h16335 h16455 h16456 ⊢) <;> first | omega | ((try simp (disch := omega) only [zb] at u11064 xq2 h11065 xq12 h11078 xq14 a11098 u11099 h11100 h11101 h13828 h15064 h15319 a15574 h15575 h15820 h16065 w16310 w16311 r16312 r16313 r16314 h16315 h16335 h16455 h16456 ⊢) <;> omega)) ) ?_
                              intro q28 hqq28
                              obtain ⟨cq28, gq28, xq28⟩ := hqq28
                              have fq28 := fr_trans fs11 gq28 rfl
                              have w16476 := (gq28.2.2 _ _ t_p0 0 rfl).1
                              have w16477 : mm_I s11 p0 0 = mm_I q2.2 p0 0 := by rw [← es11]; exact rd_k t_p0 tq5 (by decide)
                              have w16479 := rdA_fr (k := 9) (j := 0) gq28 cs11 t_p0 (κ' := 59) rfl rfl rfl
                              have w16481 : rdA s11 p0 9 0 = mm_I s11 q17 ((0 : Int32)).toNatClampNeg := rdA_eq eq17
                              have w16480 : rdA s11 p0 9 0 = rdA q2.2 p0 9 0 := by rw [← es11]; exact rdA_k cq2 t_p0 (κ' := 59) rfl tq5 (by decide)
                              have w16482 := rdA_fr (k := 9) (j := 0) gq2 c0 t_p0 (κ' := 59) rfl rfl rfl
                              have w16484 := rdA_fr (k := 10) (j := 0) gq28 cs11 t_p0 (κ' := 60) rfl rfl rfl
                              have w16485 : rdA s11 p0 10 0 = rdA q2.2 p0 10 0 := by rw [← es11]; exact rdA_j (by decide)
                              have w16487 : rdA q2.2 p0 10 0 = mm_I q2.2 q5 ((0 : Int32)).toNatClampNeg := rdA_eq eq5
                              have w16486 := rdA_fr (k := 10) (j := 0) gq2 c0 t_p0 (κ' := 60) rfl rfl rfl
                              have w16489 := rdA_fr (k := 10) (j := 1) gq28 cs11 t_p0 (κ' := 60) rfl rfl rfl
                              have w16490 : rdA s11 p0 10 1 = -1 := by rw [← es11]; exact rdA_self eq5
                              have w16491 := rdA_fr (k := 9) (j := 1) gq28 cs11 t_p0 (κ' := 59) rfl rfl rfl
                              have w16493 : rdA s11 p0 9 1 = mm_I s11 q17 ((1 : Int32)).toNatClampNeg := rdA_eq eq17
                              have w16492 : rdA s11 p0 9 1 = rdA q2.2 p0 9 1 := by rw [← es11]; exact rdA_k cq2 t_p0 (κ' := 59) rfl tq5 (by decide)
                              have w16494 := rdA_fr (k := 9) (j := 1) gq2 c0 t_p0 (κ' := 59) rfl rfl rfl
                              have w16498 : rdA q2.2 p0 10 1 = mm_I q2.2 q5 ((1 : Int32)).toNatClampNeg := rdA_eq eq5
                              have w16497 := rdA_fr (k := 10) (j := 1) gq2 c0 t_p0 (κ' := 60) rfl rfl rfl
                              have a16499 := zi_and p2 8 (by decide)
                              exact sw_some ⟨cq28, fq28, (by (try simp only [zp, zo, zq] at u11064 xq2 h11065 xq12 h11078 xq14 a11098 u11099 h11100 h11101 h13828 h15064 h15319 a15574 h15575 h15820 h16065 w16310 w16311 r16312 r16313 r16314 h16315 h16335 h16455 h16456 w16476 w16477 w16479 w16481 w16480 w16482 w16484 w16485 w16487 w16486 w16489 w16490 w16491 w16493 w16492 w16494 w16498 w16497 a16499 ⊢) <;> (try simp only [zz, Int32.reduceToInt, ne_eq] at u11064 xq2 h11065 xq12 h11078 xq14 a11098 u11099 h11100 h11101 h13828 h15064 h15319 a15574 h15575 h15820 h16065 w16310 w16311 r16312 r16313 r16314 h16315 h16335 h16455 h16456 w16476 w16477 w16479 w16481 w16480 w16482 w16484 w16485 w16487 w16486 w16489 w16490 w16491 w16493 w16492 w16494 w16498 w16497 a16499 ⊢) <;> (try simp (disch := omega) only [zb] at u11064 xq2 h11065 xq12 h11078 xq14 a11098 u11099 h11100 h11101 h13828 h15064 h15319 a15574 h15575 h15820 h16065 w16310 w16311 r16312 r16313 r16314 h16315 h16335 h16455 h16456 w16476 w16477 w16479 w16481 w16480 w16482 w16484 w16485 w16487 w16486 w16489 w16490 w16491 w16493 w16492 w16494 w16498 w16497 a16499 ⊢) <;> first | omega | ((try simp (disch := omega) only [zb] at u11064 xq2 h11065 xq12 h11078 xq14 a11098 u11099 h11100 h11101 h13828 h15064 h15319 a15574 h15575 h15820 h16065 w16310 w16311 r16312 r16313 r16314 h16315 h16335 h16455 h16456 w16476 w16477 w16479 w16481 w16480 w16482 w16484 w16485 w16487 w16486 w16489 w16490 w16491 w16493 w16492 w16494 w16498 w16497 a16499 ⊢) <;> omega))⟩
                          · refine sw_sh (ci_sh cs11 t_p0 rfl) ?_
                            refine sw_on (sX9_put cs11 t_p0 (by (try simp only [zp, zo, zq] at u11064 xq2 h11065 xq12 h11078 xq14 a11098 u11099 h11100 h11101 h13828 h15064 h15319 a15574 h15575 h15820 h16065 w16310 w16311 r16312 r16313 r16314 h16315 h16335 h16455 ⊢) <;> (try simp only [zz, Int32.reduceToInt, ne_eq] at u11064 xq2 h11065 xq12 h11078 xq14 a11098 u11099 h11100 h11101 h13828 h15064 h15319 a15574 h15575 h15820 h16065 w16310 w16311 r16312 r16313 r16314 h16315 h16335 h16455 ⊢) <;> (try simp (disch := omega) only [zb] at u11064 xq2 h11065 xq12 h11078 xq14 a11098 u11099 h11100 h11101 h13828 h15064 h15319 a15574 h15575 h15820 h16065 w16310 w16311 r16312 r16313 r16314 h16315 h16335 h16455 ⊢) <;> first | omega | ((try simp (disch := omega) only [zb] at u11064 xq2 h11065 xq12 h11078 xq14 a11098 u11099 h11100 h11101 h13828 h15064 h15319 a15574 h15575 h15820 h16065 w16310 w16311 r16312 r16313 r16314 h16315 h16335 h16455 ⊢) <;> omega)) ) ?_
                            intro q30 hqq30
                            obtain ⟨cq30, gq30, xq30⟩ := hqq30
                            have fq30 := fr_trans fs11 gq30 rfl
                            unfold fX9_pair_264
                            refine sw_ite (fun h16500 => ?_) (fun h16500 => ?_)
                            · have w16501 := (gq30.2.2 _ _ t_p0 0 rfl).1
                              have w16502 : mm_I s11 p0 0 = mm_I q2.2 p0 0 := by rw [← es11]; exact rd_k t_p0 tq5 (by decide)
                              have w16504 := rdA_fr (k := 9) (j := 0) gq30 cs11 t_p0 (κ' := 59) rfl rfl rfl
                              have w16506 : rdA s11 p0 9 0 = mm_I s11 q17 ((0 : Int32)).toNatClampNeg := rdA_eq eq17
                              have w16505 : rdA s11 p0 9 0 = rdA q2.2 p0 9 0 := by rw [← es11]; exact rdA_k cq2 t_p0 (κ' := 59) rfl tq5 (by decide)
                              have w16507 := rdA_fr (k := 9) (j := 0) gq2 c0 t_p0 (κ' := 59) rfl rfl rfl
                              have w16509 := rdA_fr (k := 10) (j := 0) gq30 cs11 t_p0 (κ' := 60) rfl rfl rfl
                              have w16510 : rdA s11 p0 10 0 = rdA q2.2 p0 10 0 := by rw [← es11]; exact rdA_j (by decide)
                              have w16512 : rdA q2.2 p0 10 0 = mm_I q2.2 q5 ((0 : Int32)).toNatClampNeg := rdA_eq eq5
                              have w16511 := rdA_fr (k := 10) (j := 0) gq2 c0 t_p0 (κ' := 60) rfl rfl rfl
                              have w16514 := rdA_fr (k := 10) (j := 1) gq30 cs11 t_p0 (κ' := 60) rfl rfl rfl
                              have w16515 : rdA s11 p0 10 1 = -1 := by rw [← es11]; exact rdA_self eq5
                              have w16516 := rdA_fr (k := 9) (j := 1) gq30 cs11 t_p0 (κ' := 59) rfl rfl rfl
                              have w16518 : rdA s11 p0 9 1 = mm_I s11 q17 ((1 : Int32)).toNatClampNeg := rdA_eq eq17
                              have w16517 : rdA s11 p0 9 1 = rdA q2.2 p0 9 1 := by rw [← es11]; exact rdA_k cq2 t_p0 (κ' := 59) rfl tq5 (by decide)
                              have w16519 := rdA_fr (k := 9) (j := 1) gq2 c0 t_p0 (κ' := 59) rfl rfl rfl
                              have w16523 : rdA q2.2 p0 10 1 = mm_I q2.2 q5 ((1 : Int32)).toNatClampNeg := rdA_eq eq5
                              have w16522 := rdA_fr (k := 10) (j := 1) gq2 c0 t_p0 (κ' := 60) rfl rfl rfl
                              have a16524 := zi_and p2 8 (by decide)
                              exact sw_some ⟨cq30, fq30, (by (try simp only [zp, zo, zq] at u11064 xq2 h11065 xq12 h11078 xq14 a11098 u11099 h11100 h11101 h13828 h15064 h15319 a15574 h15575 h15820 h16065 w16310 w16311 r16312 r16313 r16314 h16315 h16335 h16455 h16500 w16501 w16502 w16504 w16506 w16505 w16507 w16509 w16510 w16512 w16511 w16514 w16515 w16516 w16518 w16517 w16519 w16523 w16522 a16524 ⊢) <;> (try simp only [zz, Int32.reduceToInt, ne_eq] at u11064 xq2 h11065 xq12 h11078 xq14 a11098 u11099 h11100 h11101 h13828 h15064 h15319 a15574 h15575 h15820 h16065 w16310 w16311 r16312 r16313 r16314 h16315 h16335 h16455 h16500 w16501 w16502 w16504 w16506 w16505 w16507 w16509 w16510 w16512 w16511 w16514 w16515 w16516 w16518 w16517 w16519 w16523 w16522 a16524 ⊢) <;> (try simp (disch := omega) only [zb] at u11064 xq2 h11065 xq12 h11078 xq14 a11098 u11099 h11100 h11101 h13828 h15064 h15319 a15574 h15575 h15820 h16065 w16310 w16311 r16312 r16313 r16314 h16315 h16335 h16455 h16500 w16501 w16502 w16504 w16506 w16505 w16507 w16509 w16510 w16512 w16511 w16514 w16515 w16516 w16518 w16517 w16519 w16523 w16522 a16524 ⊢) <;> first | omega | ((try simp (disch := omega) only [zb] at u11064 xq2 h11065 xq12 h11078 xq14 a11098 u11099 h11100 h11101 h13828 h15064 h15319 a15574 h15575 h15820 h16065 w16310 w16311 r16312 r16313 r16314 h16315 h16335 h16455 h16500 w16501 w16502 w16504 w16506 w16505 w16507 w16509 w16510 w16512 w16511 w16514 w16515 w16516 w16518 w16517 w16519 w16523 w16522 a16524 ⊢) <;> omega))⟩
                            · refine sw_sh (ci_sh cq30 t_p0 rfl) ?_
                              refine sw_on (sX9_put cq30 t_p0 (by (try simp only [zp, zo, zq] at u11064 xq2 h11065 xq12 h11078 xq14 a11098 u11099 h11100 h11101 h13828 h15064 h15319 a15574 h15575 h15820 h16065 w16310 w16311 r16312 r16313 r16314 h16315 h16335 h16455 h16500 ⊢) <;> (try simp only [zz, Int32.reduceToInt, ne_eq] at u11064 xq2 h11065 xq12 h11078 xq14 a11098 u11099 h11100 h11101 h13828 h15064 h15319 a15574 h15575 h15820 h16065 w16310 w16311 r16312 r16313 r16314 h16315 h16335 h16455 h16500 ⊢) <;> (try simp (disch := omega) only [zb] at u11064 xq2 h11065 xq12 h11078 xq14 a11098 u11099 h11100 h11101 h13828 h15064 h15319 a15574 h15575 h15820 h16065 w16310 w16311 r16312 r16313 r16314 h16315 h16335 h16455 h16500 ⊢) <;> first | omega | ((try simp (disch := omega) only [zb] at u11064 xq2 h11065 xq12 h11078 xq14 a11098 u11099 h11100 h11101 h13828 h15064 h15319 a15574 h15575 h15820 h16065 w16310 w16311 r16312 r16313 r16314 h16315 h16335 h16455 h16500 ⊢) <;> omega)) ) ?_
                              intro q28 hqq28
                              obtain ⟨cq28, gq28, xq28⟩ := hqq28
                              have fq28 := fr_trans fq30 gq28 rfl
                              have w16525 := (gq28.2.2 _ _ t_p0 0 rfl).1
                              have w16526 := (gq30.2.2 _ _ t_p0 0 rfl).1
                              have w16527 : mm_I s11 p0 0 = mm_I q2.2 p0 0 := by rw [← es11]; exact rd_k t_p0 tq5 (by decide)
                              have w16529 := rdA_fr (k := 9) (j := 0) gq28 cq30 t_p0 (κ' := 59) rfl rfl rfl
                              have w16530 := rdA_fr (k := 9) (j := 0) gq30 cs11 t_p0 (κ' := 59) rfl rfl rfl
                              have w16532 : rdA s11 p0 9 0 = mm_I s11 q17 ((0 : Int32)).toNatClampNeg := rdA_eq eq17
                              have w16531 : rdA s11 p0 9 0 = rdA q2.2 p0 9 0 := by rw [← es11]; exact rdA_k cq2 t_p0 (κ' := 59) rfl tq5 (by decide)
                              have w16533 := rdA_fr (k := 9) (j := 0) gq2 c0 t_p0 (κ' := 59) rfl rfl rfl
                              have w16535 := rdA_fr (k := 10) (j := 0) gq28 cq30 t_p0 (κ' := 60) rfl rfl rfl
                              have w16536 := rdA_fr (k := 10) (j := 0) gq30 cs11 t_p0 (κ' := 60) rfl rfl rfl
                              have w16537 : rdA s11 p0 10 0 = rdA q2.2 p0 10 0 := by rw [← es11]; exact rdA_j (by decide)
                              have w16539 : rdA q2.2 p0 10 0 = mm_I q2.2 q5 ((0 : Int32)).toNatClampNeg := rdA_eq eq5
                              have w16538 := rdA_fr (k := 10) (j := 0) gq2 c0 t_p0 (κ' := 60) rfl rfl rfl
                              have w16541 := rdA_fr (k := 10) (j := 1) gq28 cq30 t_p0 (κ' := 60) rfl rfl rfl
                              have w16542 := rdA_fr (k := 10) (j := 1) gq30 cs11 t_p0 (κ' := 60) rfl rfl rfl
                              have w16543 : rdA s11 p0 10 1 = -1 := by rw [← es11]; exact rdA_self eq5
                              have w16544 := rdA_fr (k := 9) (j := 1) gq28 cq30 t_p0 (κ' := 59) rfl rfl rfl
                              have w16545 := rdA_fr (k := 9) (j := 1) gq30 cs11 t_p0 (κ' := 59) rfl rfl rfl
                              have w16547 : rdA s11 p0 9 1 = mm_I s11 q17 ((1 : Int32)).toNatClampNeg := rdA_eq eq17
                              have w16546 : rdA s11 p0 9 1 = rdA q2.2 p0 9 1 := by rw [← es11]; exact rdA_k cq2 t_p0 (κ' := 59) rfl tq5 (by decide)
                              have w16548 := rdA_fr (k := 9) (j := 1) gq2 c0 t_p0 (κ' := 59) rfl rfl rfl
                              have w16552 : rdA q2.2 p0 10 1 = mm_I q2.2 q5 ((1 : Int32)).toNatClampNeg := rdA_eq eq5
                              have w16551 := rdA_fr (k := 10) (j := 1) gq2 c0 t_p0 (κ' := 60) rfl rfl rfl
                              have a16553 := zi_and p2 8 (by decide)
                              exact sw_some ⟨cq28, fq28, (by (try simp only [zp, zo, zq] at u11064 xq2 h11065 xq12 h11078 xq14 a11098 u11099 h11100 h11101 h13828 h15064 h15319 a15574 h15575 h15820 h16065 w16310 w16311 r16312 r16313 r16314 h16315 h16335 h16455 h16500 w16525 w16526 w16527 w16529 w16530 w16532 w16531 w16533 w16535 w16536 w16537 w16539 w16538 w16541 w16542 w16543 w16544 w16545 w16547 w16546 w16548 w16552 w16551 a16553 ⊢) <;> (try simp only [zz, Int32.reduceToInt, ne_eq] at u11064 xq2 h11065 xq12 h11078 xq14 a11098 u11099 h11100 h11101 h13828 h15064 h15319 a15574 h15575 h15820 h16065 w16310 w16311 r16312 r16313 r16314 h16315 h16335 h16455 h16500 w16525 w16526 w16527 w16529 w16530 w16532 w16531 w16533 w16535 w16536 w16537 w16539 w16538 w16541 w16542 w16543 w16544 w16545 w16547 w16546 w16548 w16552 w16551 a16553 ⊢) <;> (try simp (disch := omega) only [zb] at u11064 xq2 h11065 xq12 h11078 xq14 a11098 u11099 h11100 h11101 h13828 h15064 h15319 a15574 h15575 h15820 h16065 w16310 w16311 r16312 r16313 r16314 h16315 h16335 h16455 h16500 w16525 w16526 w16527 w16529 w16530 w16532 w16531 w16533 w16535 w16536 w16537 w16539 w16538 w16541 w16542 w16543 w16544 w16545 w16547 w16546 w16548 w16552 w16551 a16553 ⊢) <;> first | omega | ((try simp (disch := omega) only [zb] at u11064 xq2 h11065 xq12 h11078 xq14 a11098 u11099 h11100 h11101 h13828 h15064 h15319 a15574 h15575 h15820 h16065 w16310 w16311 r16312 r16313 r16314 h16315 h16335 h16455 h16500 w16525 w16526 w16527 w16529 w16530 w16532 w16531 w16533 w16535 w16536 w16537 w16539 w16538 w16541 w16542 w16543 w16544 w16545 w16547 w16546 w16548 w16552 w16551 a16553 ⊢) <;> omega))⟩
      · refine sw_ite (fun h16554 => ?_) (fun h16554 => ?_)
        · have w16555 : mm_I s11 p0 0 = mm_I q2.2 p0 0 := by rw [← es11]; exact rd_k t_p0 tq5 (by decide)
          have w16557 : rdA s11 p0 9 0 = rdA q2.2 p0 9 0 := by rw [← es11]; exact rdA_k cq2 t_p0 (κ' := 59) rfl tq5 (by decide)
          have w16558 := rdA_fr (k := 9) (j := 0) gq2 c0 t_p0 (κ' := 59) rfl rfl rfl
          have w16560 : rdA s11 p0 10 0 = rdA q2.2 p0 10 0 := by rw [← es11]; exact rdA_j (by decide)
          have w16562 : rdA q2.2 p0 10 0 = mm_I q2.2 q5 ((0 : Int32)).toNatClampNeg := rdA_eq eq5
          have w16561 := rdA_fr (k := 10) (j := 0) gq2 c0 t_p0 (κ' := 60) rfl rfl rfl
          have w16564 : rdA s11 p0 10 1 = -1 := by rw [← es11]; exact rdA_self eq5
          have w16565 : rdA s11 p0 9 1 = rdA q2.2 p0 9 1 := by rw [← es11]; exact rdA_k cq2 t_p0 (κ' := 59) rfl tq5 (by decide)
          have w16566 := rdA_fr (k := 9) (j := 1) gq2 c0 t_p0 (κ' := 59) rfl rfl rfl
          have w16570 : rdA q2.2 p0 10 1 = mm_I q2.2 q5 ((1 : Int32)).toNatClampNeg := rdA_eq eq5
          have w16569 := rdA_fr (k := 10) (j := 1) gq2 c0 t_p0 (κ' := 60) rfl rfl rfl
          have a16571 := zi_and p3 127 (by decide)
          have a16572 := zi_and p2 8 (by decide)
          exact sw_some ⟨cs11, fs11, (by (try simp only [zp, zo, zq] at u11064 xq2 h11065 xq12 h11078 xq14 a11098 u11099 h11100 h16554 w16555 w16557 w16558 w16560 w16562 w16561 w16564 w16565 w16566 w16570 w16569 a16571 a16572 ⊢) <;> (try simp only [zz, Int32.reduceToInt, ne_eq] at u11064 xq2 h11065 xq12 h11078 xq14 a11098 u11099 h11100 h16554 w16555 w16557 w16558 w16560 w16562 w16561 w16564 w16565 w16566 w16570 w16569 a16571 a16572 ⊢) <;> (try simp (disch := omega) only [zb] at u11064 xq2 h11065 xq12 h11078 xq14 a11098 u11099 h11100 h16554 w16555 w16557 w16558 w16560 w16562 w16561 w16564 w16565 w16566 w16570 w16569 a16571 a16572 ⊢) <;> first | omega | ((try simp (disch := omega) only [zb] at u11064 xq2 h11065 xq12 h11078 xq14 a11098 u11099 h11100 h16554 w16555 w16557 w16558 w16560 w16562 w16561 w16564 w16565 w16566 w16570 w16569 a16571 a16572 ⊢) <;> omega))⟩
        · have a16573 := zi_and p3 127 (by decide)
          refine sw_ite (fun h16574 => ?_) (fun h16574 => ?_)
          · have w16575 := (gq2.2.2 _ _ tq5 ((1 : Int32).toNatClampNeg) rfl).1
            refine sw_ite (fun h16576 => ?_) (fun h16576 => ?_)
            · have w16577 : mm_I s11 p0 0 = mm_I q2.2 p0 0 := by rw [← es11]; exact rd_k t_p0 tq5 (by decide)
              have w16579 : rdA s11 p0 9 0 = rdA q2.2 p0 9 0 := by rw [← es11]; exact rdA_k cq2 t_p0 (κ' := 59) rfl tq5 (by decide)
              have w16580 := rdA_fr (k := 9) (j := 0) gq2 c0 t_p0 (κ' := 59) rfl rfl rfl
              have w16582 : rdA s11 p0 10 0 = rdA q2.2 p0 10 0 := by rw [← es11]; exact rdA_j (by decide)
              have w16584 : rdA q2.2 p0 10 0 = mm_I q2.2 q5 ((0 : Int32)).toNatClampNeg := rdA_eq eq5
              have w16583 := rdA_fr (k := 10) (j := 0) gq2 c0 t_p0 (κ' := 60) rfl rfl rfl
              have w16586 : rdA s11 p0 10 1 = -1 := by rw [← es11]; exact rdA_self eq5
              have w16587 : rdA s11 p0 9 1 = rdA q2.2 p0 9 1 := by rw [← es11]; exact rdA_k cq2 t_p0 (κ' := 59) rfl tq5 (by decide)
              have w16588 := rdA_fr (k := 9) (j := 1) gq2 c0 t_p0 (κ' := 59) rfl rfl rfl
              have w16592 : rdA q2.2 p0 10 1 = mm_I q2.2 q5 ((1 : Int32)).toNatClampNeg := rdA_eq eq5
              have w16591 := rdA_fr (k := 10) (j := 1) gq2 c0 t_p0 (κ' := 60) rfl rfl rfl
              have a16593 := zi_and p2 8 (by decide)
              exact sw_some ⟨cs11, fs11, (by (try simp only [zp, zo, zq] at u11064 xq2 h11065 xq12 h11078 xq14 a11098 u11099 h11100 h16554 a16573 h16574 w16575 h16576 w16577 w16579 w16580 w16582 w16584 w16583 w16586 w16587 w16588 w16592 w16591 a16593 ⊢) <;> (try simp only [zz, Int32.reduceToInt, ne_eq] at u11064 xq2 h11065 xq12 h11078 xq14 a11098 u11099 h11100 h16554 a16573 h16574 w16575 h16576 w16577 w16579 w16580 w16582 w16584 w16583 w16586 w16587 w16588 w16592 w16591 a16593 ⊢) <;> (try simp (disch := omega) only [zb] at u11064 xq2 h11065 xq12 h11078 xq14 a11098 u11099 h11100 h16554 a16573 h16574 w16575 h16576 w16577 w16579 w16580 w16582 w16584 w16583 w16586 w16587 w16588 w16592 w16591 a16593 ⊢) <;> first | omega | ((try simp (disch := omega) only [zb] at u11064 xq2 h11065 xq12 h11078 xq14 a11098 u11099 h11100 h16554 a16573 h16574 w16575 h16576 w16577 w16579 w16580 w16582 w16584 w16583 w16586 w16587 w16588 w16592 w16591 a16593 ⊢) <;> omega))⟩
            · refine sw_sh (ci_sh cs11 t_p0 rfl) ?_
              have v16594 : mm_R s11 p0 10 = some q5 := (by rw [← es11]; exact eq5)
              refine sw_onS v16594 ?_
              refine sw_ar (ci_sh cs11 tq5 rfl) ?_
              refine sw_ib (by (try simp only [zp, zo, zq] at u11064 xq2 h11065 xq12 h11078 xq14 a11098 u11099 h11100 h16554 a16573 h16574 w16575 h16576 ⊢) <;> (try simp only [zz, Int32.reduceToInt, ne_eq] at u11064 xq2 h11065 xq12 h11078 xq14 a11098 u11099 h11100 h16554 a16573 h16574 w16575 h16576 ⊢) <;> (try simp (disch := omega) only [zb] at u11064 xq2 h11065 xq12 h11078 xq14 a11098 u11099 h11100 h16554 a16573 h16574 w16575 h16576 ⊢) <;> first | omega | ((try simp (disch := omega) only [zb] at u11064 xq2 h11065 xq12 h11078 xq14 a11098 u11099 h11100 h16554 a16573 h16574 w16575 h16576 ⊢) <;> omega)) ?_
              have cs43 := ci_wI cs11 tq5 (j := (1 : Int32).toNatClampNeg) (v := (128 * (p2 &&& 127)) + (p3 &&& 127)) (kr_n rfl)
              have fs43 := fr_wI fs11 tq5 (j := (1 : Int32).toNatClampNeg) (v := (128 * (p2 &&& 127)) + (p3 &&& 127)) rfl
              refine sw_let (fun s43 es43 => ?_)
              rw [es43] at cs43 fs43
              have a16595 := zi_and (p2 &&& 127) 8 (by decide)
              refine sw_ite (fun h16596 => ?_) (fun h16596 => ?_)
              · unfold fX9_pair_131
                refine sw_sh (ci_sh cs43 t_p0 rfl) ?_
                obtain ⟨q46, eq46, tq46⟩ := ci_ref cs43 t_p0 9 (κ' := 59) rfl
                refine sw_onS eq46 ?_
                refine sw_ar (ci_sh cs43 tq46 rfl) ?_
                refine sw_ib (by (try simp only [zp, zo, zq] at u11064 xq2 h11065 xq12 h11078 xq14 a11098 u11099 h11100 h16554 a16573 h16574 w16575 h16576 a16595 h16596 ⊢) <;> (try simp only [zz, Int32.reduceToInt, ne_eq] at u11064 xq2 h11065 xq12 h11078 xq14 a11098 u11099 h11100 h16554 a16573 h16574 w16575 h16576 a16595 h16596 ⊢) <;> (try simp (disch := omega) only [zb] at u11064 xq2 h11065 xq12 h11078 xq14 a11098 u11099 h11100 h16554 a16573 h16574 w16575 h16576 a16595 h16596 ⊢) <;> first | omega | ((try simp (disch := omega) only [zb] at u11064 xq2 h11065 xq12 h11078 xq14 a11098 u11099 h11100 h16554 a16573 h16574 w16575 h16576 a16595 h16596 ⊢) <;> omega)) ?_
                have cs49 := ci_wI cs43 tq46 (j := ((1 : Int32)).toNatClampNeg) (v := (2 * (1 : Int32)) + (0 : Int32)) (kr_s (lo := (-1)) (hi := 3) rfl (by (try simp only [zp, zo, zq] at u11064 xq2 h11065 xq12 h11078 xq14 a11098 u11099 h11100 h16554 a16573 h16574 w16575 h16576 a16595 h16596 ⊢) <;> (try simp only [zz, Int32.reduceToInt, ne_eq] at u11064 xq2 h11065 xq12 h11078 xq14 a11098 u11099 h11100 h16554 a16573 h16574 w16575 h16576 a16595 h16596 ⊢) <;> (try simp (disch := omega) only [zb] at u11064 xq2 h11065 xq12 h11078 xq14 a11098 u11099 h11100 h16554 a16573 h16574 w16575 h16576 a16595 h16596 ⊢) <;> first | omega | ((try simp (disch := omega) only [zb] at u11064 xq2 h11065 xq12 h11078 xq14 a11098 u11099 h11100 h16554 a16573 h16574 w16575 h16576 a16595 h16596 ⊢) <;> omega)))
                have fs49 := fr_wI fs43 tq46 (j := ((1 : Int32)).toNatClampNeg) (v := (2 * (1 : Int32)) + (0 : Int32)) rfl
                refine sw_let (fun s49 es49 => ?_)
                rw [es49] at cs49 fs49
                refine sw_on (sX9_code cs49 t_p0 (by (try simp only [zp, zo, zq] at u11064 xq2 h11065 xq12 h11078 xq14 a11098 u11099 h11100 h16554 a16573 h16574 w16575 h16576 a16595 h16596 ⊢) <;> (try simp only [zz, Int32.reduceToInt, ne_eq] at u11064 xq2 h11065 xq12 h11078 xq14 a11098 u11099 h11100 h16554 a16573 h16574 w16575 h16576 a16595 h16596 ⊢) <;> (try simp (disch := omega) only [zb] at u11064 xq2 h11065 xq12 h11078 xq14 a11098 u11099 h11100 h16554 a16573 h16574 w16575 h16576 a16595 h16596 ⊢) <;> first | omega | ((try simp (disch := omega) only [zb] at u11064 xq2 h11065 xq12 h11078 xq14 a11098 u11099 h11100 h16554 a16573 h16574 w16575 h16576 a16595 h16596 ⊢) <;> omega)) (by (try simp only [zp, zo, zq] at u11064 xq2 h11065 xq12 h11078 xq14 a11098 u11099 h11100 h16554 a16573 h16574 w16575 h16576 a16595 h16596 ⊢) <;> (try simp only [zz, Int32.reduceToInt, ne_eq] at u11064 xq2 h11065 xq12 h11078 xq14 a11098 u11099 h11100 h16554 a16573 h16574 w16575 h16576 a16595 h16596 ⊢) <;> (try simp (disch := omega) only [zb] at u11064 xq2 h11065 xq12 h11078 xq14 a11098 u11099 h11100 h16554 a16573 h16574 w16575 h16576 a16595 h16596 ⊢) <;> first | omega | ((try simp (disch := omega) only [zb] at u11064 xq2 h11065 xq12 h11078 xq14 a11098 u11099 h11100 h16554 a16573 h16574 w16575 h16576 a16595 h16596 ⊢) <;> omega)) ) ?_
                intro q50 hqq50
                obtain ⟨cq50, gq50, xq50⟩ := hqq50
                have fq50 := fr_trans fs49 gq50 rfl
                have w16597 := (gq50.2.2 _ _ t_p0 0 rfl).1
                have w16598 : mm_I s49 p0 0 = mm_I s43 p0 0 := by rw [← es49]; exact rd_k t_p0 tq46 (by decide)
                have w16599 : mm_I s43 p0 0 = mm_I s11 p0 0 := by rw [← es43]; exact rd_k t_p0 tq5 (by decide)
                have w16600 : mm_I s11 p0 0 = mm_I q2.2 p0 0 := by rw [← es11]; exact rd_k t_p0 tq5 (by decide)
                have w16602 := rdA_fr (k := 9) (j := 0) gq50 cs49 t_p0 (κ' := 59) rfl rfl rfl
                have w16603 : rdA s49 p0 9 0 = rdA s43 p0 9 0 := by rw [← es49]; exact rdA_j (by decide)
                have w16605 : rdA s43 p0 9 0 = mm_I s43 q46 ((0 : Int32)).toNatClampNeg := rdA_eq eq46
                have w16604 : rdA s43 p0 9 0 = rdA s11 p0 9 0 := by rw [← es43]; exact rdA_k cs11 t_p0 (κ' := 59) rfl tq5 (by decide)
                have w16606 : rdA s11 p0 9 0 = rdA q2.2 p0 9 0 := by rw [← es11]; exact rdA_k cq2 t_p0 (κ' := 59) rfl tq5 (by decide)
                have w16607 := rdA_fr (k := 9) (j := 0) gq2 c0 t_p0 (κ' := 59) rfl rfl rfl
                have w16609 := rdA_fr (k := 10) (j := 0) gq50 cs49 t_p0 (κ' := 60) rfl rfl rfl
                have w16610 : rdA s49 p0 10 0 = rdA s43 p0 10 0 := by rw [← es49]; exact rdA_k cs43 t_p0 (κ' := 60) rfl tq46 (by decide)
                have w16611 : rdA s43 p0 10 0 = rdA s11 p0 10 0 := by rw [← es43]; exact rdA_j (by decide)
                have w16613 : rdA s11 p0 10 0 = mm_I s11 q5 ((0 : Int32)).toNatClampNeg := rdA_eq v16594
                have w16612 : rdA s11 p0 10 0 = rdA q2.2 p0 10 0 := by rw [← es11]; exact rdA_j (by decide)
                have w16615 : rdA q2.2 p0 10 0 = mm_I q2.2 q5 ((0 : Int32)).toNatClampNeg := rdA_eq eq5
                have w16614 := rdA_fr (k := 10) (j := 0) gq2 c0 t_p0 (κ' := 60) rfl rfl rfl
                have w16617 := rdA_fr (k := 10) (j := 1) gq50 cs49 t_p0 (κ' := 60) rfl rfl rfl
                have w16618 : rdA s49 p0 10 1 = rdA s43 p0 10 1 := by rw [← es49]; exact rdA_k cs43 t_p0 (κ' := 60) rfl tq46 (by decide)
                have w16619 : rdA s43 p0 10 1 = (128 * (p2 &&& 127)) + (p3 &&& 127) := by rw [← es43]; exact rdA_self v16594
                have w16620 := rdA_fr (k := 9) (j := 1) gq50 cs49 t_p0 (κ' := 59) rfl rfl rfl
                have w16621 : rdA s49 p0 9 1 = (2 * (1 : Int32)) + (0 : Int32) := by rw [← es49]; exact rdA_self eq46
                have w16624 : rdA s43 p0 9 1 = mm_I s43 q46 ((1 : Int32)).toNatClampNeg := rdA_eq eq46
                have w16623 : rdA s43 p0 9 1 = rdA s11 p0 9 1 := by rw [← es43]; exact rdA_k cs11 t_p0 (κ' := 59) rfl tq5 (by decide)
                have w16625 : rdA s11 p0 9 1 = rdA q2.2 p0 9 1 := by rw [← es11]; exact rdA_k cq2 t_p0 (κ' := 59) rfl tq5 (by decide)
                have w16626 := rdA_fr (k := 9) (j := 1) gq2 c0 t_p0 (κ' := 59) rfl rfl rfl
                have w16629 : rdA q2.2 p0 10 1 = mm_I q2.2 q5 ((1 : Int32)).toNatClampNeg := rdA_eq eq5
                have w16628 := rdA_fr (k := 10) (j := 1) gq2 c0 t_p0 (κ' := 60) rfl rfl rfl
                have w16631 : rdA s11 p0 10 1 = mm_I s11 q5 ((1 : Int32)).toNatClampNeg := rdA_eq v16594
                have w16630 : rdA s11 p0 10 1 = -1 := by rw [← es11]; exact rdA_self eq5
                have a16632 := zi_and p2 8 (by decide)
                exact sw_some ⟨cq50, fq50, (by (try simp only [zp, zo, zq] at u11064 xq2 h11065 xq12 h11078 xq14 a11098 u11099 h11100 h16554 a16573 h16574 w16575 h16576 a16595 h16596 w16597 w16598 w16599 w16600 w16602 w16603 w16605 w16604 w16606 w16607 w16609 w16610 w16611 w16613 w16612 w16615 w16614 w16617 w16618 w16619 w16620 w16621 w16624 w16623 w16625 w16626 w16629 w16628 w16631 w16630 a16632 ⊢) <;> (try simp only [zz, Int32.reduceToInt, ne_eq] at u11064 xq2 h11065 xq12 h11078 xq14 a11098 u11099 h11100 h16554 a16573 h16574 w16575 h16576 a16595 h16596 w16597 w16598 w16599 w16600 w16602 w16603 w16605 w16604 w16606 w16607 w16609 w16610 w16611 w16613 w16612 w16615 w16614 w16617 w16618 w16619 w16620 w16621 w16624 w16623 w16625 w16626 w16629 w16628 w16631 w16630 a16632 ⊢) <;> (try simp (disch := omega) only [zb] at u11064 xq2 h11065 xq12 h11078 xq14 a11098 u11099 h11100 h16554 a16573 h16574 w16575 h16576 a16595 h16596 w16597 w16598 w16599 w16600 w16602 w16603 w16605 w16604 w16606 w16607 w16609 w16610 w16611 w16613 w16612 w16615 w16614 w16617 w16618 w16619 w16620 w16621 w16624 w16623 w16625 w16626 w16629 w16628 w16631 w16630 a16632 ⊢) <;> first | omega | ((try simp (disch := omega) only [zb] at u11064 xq2 h11065 xq12 h11078 xq14 a11098 u11099 h11100 h16554 a16573 h16574 w16575 h16576 a16595 h16596 w16597 w16598 w16599 w16600 w16602 w16603 w16605 w16604 w16606 w16607 w16609 w16610 w16611 w16613 w16612 w16615 w16614 w16617 w16618 w16619 w16620 w16621 w16624 w16623 w16625 w16626 w16629 w16628 w16631 w16630 a16632 ⊢) <;> omega))⟩
              · unfold fX9_pair_131
                refine sw_sh (ci_sh cs43 t_p0 rfl) ?_
                obtain ⟨q46, eq46, tq46⟩ := ci_ref cs43 t_p0 9 (κ' := 59) rfl
                refine sw_onS eq46 ?_
                refine sw_ar (ci_sh cs43 tq46 rfl) ?_
                refine sw_ib (by (try simp only [zp, zo, zq] at u11064 xq2 h11065 xq12 h11078 xq14 a11098 u11099 h11100 h16554 a16573 h16574 w16575 h16576 a16595 h16596 ⊢) <;> (try simp only [zz, Int32.reduceToInt, ne_eq] at u11064 xq2 h11065 xq12 h11078 xq14 a11098 u11099 h11100 h16554 a16573 h16574 w16575 h16576 a16595 h16596 ⊢) <;> (try simp (disch := omega) only [zb] at u11064 xq2 h11065 xq12 h11078 xq14 a11098 u11099 h11100 h16554 a16573 h16574 w16575 h16576 a16595 h16596 ⊢) <;> first | omega | ((try simp (disch := omega) only [zb] at u11064 xq2 h11065 xq12 h11078 xq14 a11098 u11099 h11100 h16554 a16573 h16574 w16575 h16576 a16595 h16596 ⊢) <;> omega)) ?_
                have cs49 := ci_wI cs43 tq46 (j := ((1 : Int32)).toNatClampNeg) (v := (2 * (1 : Int32)) + (1 : Int32)) (kr_s (lo := (-1)) (hi := 3) rfl (by (try simp only [zp, zo, zq] at u11064 xq2 h11065 xq12 h11078 xq14 a11098 u11099 h11100 h16554 a16573 h16574 w16575 h16576 a16595 h16596 ⊢) <;> (try simp only [zz, Int32.reduceToInt, ne_eq] at u11064 xq2 h11065 xq12 h11078 xq14 a11098 u11099 h11100 h16554 a16573 h16574 w16575 h16576 a16595 h16596 ⊢) <;> (try simp (disch := omega) only [zb] at u11064 xq2 h11065 xq12 h11078 xq14 a11098 u11099 h11100 h16554 a16573 h16574 w16575 h16576 a16595 h16596 ⊢) <;> first | omega | ((try simp (disch := omega) only [zb] at u11064 xq2 h11065 xq12 h11078 xq14 a11098 u11099 h11100 h16554 a16573 h16574 w16575 h16576 a16595 h16596 ⊢) <;> omega)))
                have fs49 := fr_wI fs43 tq46 (j := ((1 : Int32)).toNatClampNeg) (v := (2 * (1 : Int32)) + (1 : Int32)) rfl
                refine sw_let (fun s49 es49 => ?_)
                rw [es49] at cs49 fs49
                refine sw_on (sX9_code cs49 t_p0 (by (try simp only [zp, zo, zq] at u11064 xq2 h11065 xq12 h11078 xq14 a11098 u11099 h11100 h16554 a16573 h16574 w16575 h16576 a16595 h16596 ⊢) <;> (try simp only [zz, Int32.reduceToInt, ne_eq] at u11064 xq2 h11065 xq12 h11078 xq14 a11098 u11099 h11100 h16554 a16573 h16574 w16575 h16576 a16595 h16596 ⊢) <;> (try simp (disch := omega) only [zb] at u11064 xq2 h11065 xq12 h11078 xq14 a11098 u11099 h11100 h16554 a16573 h16574 w16575 h16576 a16595 h16596 ⊢) <;> first | omega | ((try simp (disch := omega) only [zb] at u11064 xq2 h11065 xq12 h11078 xq14 a11098 u11099 h11100 h16554 a16573 h16574 w16575 h16576 a16595 h16596 ⊢) <;> omega)) (by (try simp only [zp, zo, zq] at u11064 xq2 h11065 xq12 h11078 xq14 a11098 u11099 h11100 h16554 a16573 h16574 w16575 h16576 a16595 h16596 ⊢) <;> (try simp only [zz, Int32.reduceToInt, ne_eq] at u11064 xq2 h11065 xq12 h11078 xq14 a11098 u11099 h11100 h16554 a16573 h16574 w16575 h16576 a16595 h16596 ⊢) <;> (try simp (disch := omega) only [zb] at u11064 xq2 h11065 xq12 h11078 xq14 a11098 u11099 h11100 h16554 a16573 h16574 w16575 h16576 a16595 h16596 ⊢) <;> first | omega | ((try simp (disch := omega) only [zb] at u11064 xq2 h11065 xq12 h11078 xq14 a11098 u11099 h11100 h16554 a16573 h16574 w16575 h16576 a16595 h16596 ⊢) <;> omega)) ) ?_
                intro q50 hqq50
                obtain ⟨cq50, gq50, xq50⟩ := hqq50
                have fq50 := fr_trans fs49 gq50 rfl
                have w16633 := (gq50.2.2 _ _ t_p0 0 rfl).1
                have w16634 : mm_I s49 p0 0 = mm_I s43 p0 0 := by rw [← es49]; exact rd_k t_p0 tq46 (by decide)
                have w16635 : mm_I s43 p0 0 = mm_I s11 p0 0 := by rw [← es43]; exact rd_k t_p0 tq5 (by decide)
                have w16636 : mm_I s11 p0 0 = mm_I q2.2 p0 0 := by rw [← es11]; exact rd_k t_p0 tq5 (by decide)
                have w16638 := rdA_fr (k := 9) (j := 0) gq50 cs49 t_p0 (κ' := 59) rfl rfl rfl
                have w16639 : rdA s49 p0 9 0 = rdA s43 p0 9 0 := by rw [← es49]; exact rdA_j (by decide)
                have w16641 : rdA s43 p0 9 0 = mm_I s43 q46 ((0 : Int32)).toNatClampNeg := rdA_eq eq46
                have w16640 : rdA s43 p0 9 0 = rdA s11 p0 9 0 := by rw [← es43]; exact rdA_k cs11 t_p0 (κ' := 59) rfl tq5 (by decide)
                have w16642 : rdA s11 p0 9 0 = rdA q2.2 p0 9 0 := by rw [← es11]; exact rdA_k cq2 t_p0 (κ' := 59) rfl tq5 (by decide)
                have w16643 := rdA_fr (k := 9) (j := 0) gq2 c0 t_p0 (κ' := 59) rfl rfl rfl
                have w16645 := rdA_fr (k := 10) (j := 0) gq50 cs49 t_p0 (κ' := 60) rfl rfl rfl
                have w16646 : rdA s49 p0 10 0 = rdA s43 p0 10 0 := by rw [← es49]; exact rdA_k cs43 t_p0 (κ' := 60) rfl tq46 (by decide)
                have w16647 : rdA s43 p0 10 0 = rdA s11 p0 10 0 := by rw [← es43]; exact rdA_j (by decide)
                have w16649 : rdA s11 p0 10 0 = mm_I s11 q5 ((0 : Int32)).toNatClampNeg := rdA_eq v16594
                have w16648 : rdA s11 p0 10 0 = rdA q2.2 p0 10 0 := by rw [← es11]; exact rdA_j (by decide)
                have w16651 : rdA q2.2 p0 10 0 = mm_I q2.2 q5 ((0 : Int32)).toNatClampNeg := rdA_eq eq5
                have w16650 := rdA_fr (k := 10) (j := 0) gq2 c0 t_p0 (κ' := 60) rfl rfl rfl
                have w16653 := rdA_fr (k := 10) (j := 1) gq50 cs49 t_p0 (κ' := 60) rfl rfl rfl
                have w16654 : rdA s49 p0 10 1 = rdA s43 p0 10 1 := by rw [← es49]; exact rdA_k cs43 t_p0 (κ' := 60) rfl tq46 (by decide)
                have w16655 : rdA s43 p0 10 1 = (128 * (p2 &&& 127)) + (p3 &&& 127) := by rw [← es43]; exact rdA_self v16594
                have w16656 := rdA_fr (k := 9) (j := 1) gq50 cs49 t_p0 (κ' := 59) rfl rfl rfl
                have w16657 : rdA s49 p0 9 1 = (2 * (1 : Int32)) + (1 : Int32) := by rw [← es49]; exact rdA_self eq46
                have w16660 : rdA s43 p0 9 1 = mm_I s43 q46 ((1 : Int32)).toNatClampNeg := rdA_eq eq46
                have w16659 : rdA s43 p0 9 1 = rdA s11 p0 9 1 := by rw [← es43]; exact rdA_k cs11 t_p0 (κ' := 59) rfl tq5 (by decide)
                have w16661 : rdA s11 p0 9 1 = rdA q2.2 p0 9 1 := by rw [← es11]; exact rdA_k cq2 t_p0 (κ' := 59) rfl tq5 (by decide)
                have w16662 := rdA_fr (k := 9) (j := 1) gq2 c0 t_p0 (κ' := 59) rfl rfl rfl
                have w16665 : rdA q2.2 p0 10 1 = mm_I q2.2 q5 ((1 : Int32)).toNatClampNeg := rdA_eq eq5
                have w16664 := rdA_fr (k := 10) (j := 1) gq2 c0 t_p0 (κ' := 60) rfl rfl rfl
                have w16667 : rdA s11 p0 10 1 = mm_I s11 q5 ((1 : Int32)).toNatClampNeg := rdA_eq v16594
                have w16666 : rdA s11 p0 10 1 = -1 := by rw [← es11]; exact rdA_self eq5
                have a16668 := zi_and p2 8 (by decide)
                exact sw_some ⟨cq50, fq50, (by (try simp only [zp, zo, zq] at u11064 xq2 h11065 xq12 h11078 xq14 a11098 u11099 h11100 h16554 a16573 h16574 w16575 h16576 a16595 h16596 w16633 w16634 w16635 w16636 w16638 w16639 w16641 w16640 w16642 w16643 w16645 w16646 w16647 w16649 w16648 w16651 w16650 w16653 w16654 w16655 w16656 w16657 w16660 w16659 w16661 w16662 w16665 w16664 w16667 w16666 a16668 ⊢) <;> (try simp only [zz, Int32.reduceToInt, ne_eq] at u11064 xq2 h11065 xq12 h11078 xq14 a11098 u11099 h11100 h16554 a16573 h16574 w16575 h16576 a16595 h16596 w16633 w16634 w16635 w16636 w16638 w16639 w16641 w16640 w16642 w16643 w16645 w16646 w16647 w16649 w16648 w16651 w16650 w16653 w16654 w16655 w16656 w16657 w16660 w16659 w16661 w16662 w16665 w16664 w16667 w16666 a16668 ⊢) <;> (try simp (disch := omega) only [zb] at u11064 xq2 h11065 xq12 h11078 xq14 a11098 u11099 h11100 h16554 a16573 h16574 w16575 h16576 a16595 h16596 w16633 w16634 w16635 w16636 w16638 w16639 w16641 w16640 w16642 w16643 w16645 w16646 w16647 w16649 w16648 w16651 w16650 w16653 w16654 w16655 w16656 w16657 w16660 w16659 w16661 w16662 w16665 w16664 w16667 w16666 a16668 ⊢) <;> first | omega | ((try simp (disch := omega) only [zb] at u11064 xq2 h11065 xq12 h11078 xq14 a11098 u11099 h11100 h16554 a16573 h16574 w16575 h16576 a16595 h16596 w16633 w16634 w16635 w16636 w16638 w16639 w16641 w16640 w16642 w16643 w16645 w16646 w16647 w16649 w16648 w16651 w16650 w16653 w16654 w16655 w16656 w16657 w16660 w16659 w16661 w16662 w16665 w16664 w16667 w16666 a16668 ⊢) <;> omega))⟩
          · have w16669 : mm_I s11 p0 0 = mm_I q2.2 p0 0 := by rw [← es11]; exact rd_k t_p0 tq5 (by decide)
            have w16671 : rdA s11 p0 9 0 = rdA q2.2 p0 9 0 := by rw [← es11]; exact rdA_k cq2 t_p0 (κ' := 59) rfl tq5 (by decide)
            have w16672 := rdA_fr (k := 9) (j := 0) gq2 c0 t_p0 (κ' := 59) rfl rfl rfl
            have w16674 : rdA s11 p0 10 0 = rdA q2.2 p0 10 0 := by rw [← es11]; exact rdA_j (by decide)
            have w16676 : rdA q2.2 p0 10 0 = mm_I q2.2 q5 ((0 : Int32)).toNatClampNeg := rdA_eq eq5
            have w16675 := rdA_fr (k := 10) (j := 0) gq2 c0 t_p0 (κ' := 60) rfl rfl rfl
            have w16678 : rdA s11 p0 10 1 = -1 := by rw [← es11]; exact rdA_self eq5
            have w16679 : rdA s11 p0 9 1 = rdA q2.2 p0 9 1 := by rw [← es11]; exact rdA_k cq2 t_p0 (κ' := 59) rfl tq5 (by decide)
            have w16680 := rdA_fr (k := 9) (j := 1) gq2 c0 t_p0 (κ' := 59) rfl rfl rfl
            have w16684 : rdA q2.2 p0 10 1 = mm_I q2.2 q5 ((1 : Int32)).toNatClampNeg := rdA_eq eq5
            have w16683 := rdA_fr (k := 10) (j := 1) gq2 c0 t_p0 (κ' := 60) rfl rfl rfl
            have a16685 := zi_and p2 8 (by decide)
            exact sw_some ⟨cs11, fs11, (by (try simp only [zp, zo, zq] at u11064 xq2 h11065 xq12 h11078 xq14 a11098 u11099 h11100 h16554 a16573 h16574 w16669 w16671 w16672 w16674 w16676 w16675 w16678 w16679 w16680 w16684 w16683 a16685 ⊢) <;> (try simp only [zz, Int32.reduceToInt, ne_eq] at u11064 xq2 h11065 xq12 h11078 xq14 a11098 u11099 h11100 h16554 a16573 h16574 w16669 w16671 w16672 w16674 w16676 w16675 w16678 w16679 w16680 w16684 w16683 a16685 ⊢) <;> (try simp (disch := omega) only [zb] at u11064 xq2 h11065 xq12 h11078 xq14 a11098 u11099 h11100 h16554 a16573 h16574 w16669 w16671 w16672 w16674 w16676 w16675 w16678 w16679 w16680 w16684 w16683 a16685 ⊢) <;> first | omega | ((try simp (disch := omega) only [zb] at u11064 xq2 h11065 xq12 h11078 xq14 a11098 u11099 h11100 h16554 a16573 h16574 w16669 w16671 w16672 w16674 w16676 w16675 w16678 w16679 w16680 w16684 w16683 a16685 ⊢) <;> omega))⟩
abbrev UX8_channel : List Nat := []
