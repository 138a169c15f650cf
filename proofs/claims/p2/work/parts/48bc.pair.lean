set_option maxHeartbeats 4000000 in
set_option maxRecDepth 10000 in
theorem uX8_takeLetters_f1 {T : Nat → Option Nat} {σ0 : mm_M} {p0 : Nat} {p2 : Int32} {p3 : Int32} (c0 : sCI T σ0) (t_p0 : T p0 = some 8) : sw (fX8_takeLetters p0 (1 : Int32) p2 p3 σ0) (fun R => sCI T R.2 ∧ sFR T UX8_takeLetters_f1 σ0 R.2 ∧ ((((0 ≤ (rdA σ0 p0 1 1).toInt ∧ (rdA σ0 p0 1 1).toInt ≤ 3) ∧ (fX8_isRight p2).toInt ≠ 0 ∧ (32 ≤ (p2 &&& 127).toInt ∨ ((p2 &&& 127).toInt = 0 ∧ (fX8_isRight p3).toInt ≠ 0 ∧ 32 ≤ (p3 &&& 127).toInt))) ∧ R.1.toInt = 1) ∨ (¬ ((0 ≤ (rdA σ0 p0 1 1).toInt ∧ (rdA σ0 p0 1 1).toInt ≤ 3) ∧ (fX8_isRight p2).toInt ≠ 0 ∧ (32 ≤ (p2 &&& 127).toInt ∨ ((p2 &&& 127).toInt = 0 ∧ (fX8_isRight p3).toInt ≠ 0 ∧ 32 ≤ (p3 &&& 127).toInt))) ∧ R.1.toInt = 0))) := by
  have f0 : sFR T UX8_takeLetters_f1 σ0 σ0 := fr_refl
  unfold fX8_takeLetters
  refine sw_sh (ci_sh c0 t_p0 rfl) ?_
  obtain ⟨q2, eq2, tq2⟩ := ci_ref c0 t_p0 1 (κ' := 11) rfl
  refine sw_onS eq2 ?_
  refine sw_ar (ci_sh c0 tq2 rfl) ?_
  refine sw_ib (by (try simp only [zp, zo, zq] at ⊢) <;> (try simp only [zz, Int32.reduceToInt, ne_eq] at ⊢) <;> (try simp (disch := omega) only [zb] at ⊢) <;> first | omega | ((try simp (disch := omega) only [zb] at ⊢) <;> omega)) ?_
  refine sw_ite (fun h10940 => ?_) (fun h10940 => ?_)
  · refine sw_ite (fun h10941 => ?_) (fun h10941 => ?_)
    · have w10943 : rdA σ0 p0 1 1 = mm_I σ0 q2 ((1 : Int32)).toNatClampNeg := rdA_eq eq2
      have a10944 := zi_and p2 127 (by decide)
      have a10945 := zi_and p3 127 (by decide)
      exact sw_some ⟨c0, f0, (by (try simp only [zp, zo, zq] at h10940 h10941 w10943 a10944 a10945 ⊢) <;> (try simp only [zz, Int32.reduceToInt, ne_eq] at h10940 h10941 w10943 a10944 a10945 ⊢) <;> (try simp (disch := omega) only [zb] at h10940 h10941 w10943 a10944 a10945 ⊢) <;> first | omega | ((try simp (disch := omega) only [zb] at h10940 h10941 w10943 a10944 a10945 ⊢) <;> omega))⟩
    · have a10946 := zi_and p2 127 (by decide)
      refine sw_ite (fun h10947 => ?_) (fun h10947 => ?_)
      · refine sw_ite (fun h10948 => ?_) (fun h10948 => ?_)
        · refine sw_ite (fun h10949 => ?_) (fun h10949 => ?_)
          · have w10951 : rdA σ0 p0 1 1 = mm_I σ0 q2 ((1 : Int32)).toNatClampNeg := rdA_eq eq2
            have a10952 := zi_and p3 127 (by decide)
            exact sw_some ⟨c0, f0, (by (try simp only [zp, zo, zq] at h10940 h10941 a10946 h10947 h10948 h10949 w10951 a10952 ⊢) <;> (try simp only [zz, Int32.reduceToInt, ne_eq] at h10940 h10941 a10946 h10947 h10948 h10949 w10951 a10952 ⊢) <;> (try simp (disch := omega) only [zb] at h10940 h10941 a10946 h10947 h10948 h10949 w10951 a10952 ⊢) <;> first | omega | ((try simp (disch := omega) only [zb] at h10940 h10941 a10946 h10947 h10948 h10949 w10951 a10952 ⊢) <;> omega))⟩
          · have a10953 := zi_and p3 127 (by decide)
            refine sw_ite (fun h10954 => ?_) (fun h10954 => ?_)
            · have w10956 : rdA σ0 p0 1 1 = mm_I σ0 q2 ((1 : Int32)).toNatClampNeg := rdA_eq eq2
              exact sw_some ⟨c0, f0, (by (try simp only [zp, zo, zq] at h10940 h10941 a10946 h10947 h10948 h10949 a10953 h10954 w10956 ⊢) <;> (try simp only [zz, Int32.reduceToInt, ne_eq] at h10940 h10941 a10946 h10947 h10948 h10949 a10953 h10954 w10956 ⊢) <;> (try simp (disch := omega) only [zb] at h10940 h10941 a10946 h10947 h10948 h10949 a10953 h10954 w10956 ⊢) <;> first | omega | ((try simp (disch := omega) only [zb] at h10940 h10941 a10946 h10947 h10948 h10949 a10953 h10954 w10956 ⊢) <;> omega))⟩
            · obtain ⟨q11, eq11, tq11⟩ := ci_ref c0 t_p0 0 (κ' := 10) rfl
              refine sw_onS eq11 ?_
              refine sw_ar (ci_sh c0 tq11 rfl) ?_
              refine sw_ib (by (try simp only [zp, zo, zq] at h10940 h10941 a10946 h10947 h10948 h10949 a10953 h10954 ⊢) <;> (try simp only [zz, Int32.reduceToInt, ne_eq] at h10940 h10941 a10946 h10947 h10948 h10949 a10953 h10954 ⊢) <;> (try simp (disch := omega) only [zb] at h10940 h10941 a10946 h10947 h10948 h10949 a10953 h10954 ⊢) <;> first | omega | ((try simp (disch := omega) only [zb] at h10940 h10941 a10946 h10947 h10948 h10949 a10953 h10954 ⊢) <;> omega)) ?_
              obtain ⟨q14, eq14, tq14⟩ := ci_chan c0 tq11 (k := (mm_I σ0 q2 (1 : Int32).toNatClampNeg).toNatClampNeg) (by (try simp only [zp, zo, zq] at h10940 h10941 a10946 h10947 h10948 h10949 a10953 h10954 ⊢) <;> (try simp only [zz, Int32.reduceToInt, ne_eq] at h10940 h10941 a10946 h10947 h10948 h10949 a10953 h10954 ⊢) <;> (try simp (disch := omega) only [zb] at h10940 h10941 a10946 h10947 h10948 h10949 a10953 h10954 ⊢) <;> first | omega | ((try simp (disch := omega) only [zb] at h10940 h10941 a10946 h10947 h10948 h10949 a10953 h10954 ⊢) <;> omega))
              refine sw_onS eq14 ?_
              refine sw_sh (ci_sh c0 tq14 rfl) ?_
              refine sw_on (sX0_put c0 tq14  ) ?_
              intro q16 hqq16
              obtain ⟨cq16, gq16, xq16⟩ := hqq16
              have fq16 := fr_trans f0 gq16 rfl
              have w10958 : rdA σ0 p0 1 1 = mm_I σ0 q2 ((1 : Int32)).toNatClampNeg := rdA_eq eq2
              exact sw_some ⟨cq16, fq16, (by (try simp only [zp, zo, zq] at h10940 h10941 a10946 h10947 h10948 h10949 a10953 h10954 w10958 ⊢) <;> (try simp only [zz, Int32.reduceToInt, ne_eq] at h10940 h10941 a10946 h10947 h10948 h10949 a10953 h10954 w10958 ⊢) <;> (try simp (disch := omega) only [zb] at h10940 h10941 a10946 h10947 h10948 h10949 a10953 h10954 w10958 ⊢) <;> first | omega | ((try simp (disch := omega) only [zb] at h10940 h10941 a10946 h10947 h10948 h10949 a10953 h10954 w10958 ⊢) <;> omega))⟩
        · have w10960 : rdA σ0 p0 1 1 = mm_I σ0 q2 ((1 : Int32)).toNatClampNeg := rdA_eq eq2
          have a10961 := zi_and p3 127 (by decide)
          exact sw_some ⟨c0, f0, (by (try simp only [zp, zo, zq] at h10940 h10941 a10946 h10947 h10948 w10960 a10961 ⊢) <;> (try simp only [zz, Int32.reduceToInt, ne_eq] at h10940 h10941 a10946 h10947 h10948 w10960 a10961 ⊢) <;> (try simp (disch := omega) only [zb] at h10940 h10941 a10946 h10947 h10948 w10960 a10961 ⊢) <;> first | omega | ((try simp (disch := omega) only [zb] at h10940 h10941 a10946 h10947 h10948 w10960 a10961 ⊢) <;> omega))⟩
      · obtain ⟨q17, eq17, tq17⟩ := ci_ref c0 t_p0 0 (κ' := 10) rfl
        refine sw_onS eq17 ?_
        refine sw_ar (ci_sh c0 tq17 rfl) ?_
        refine sw_ib (by (try simp only [zp, zo, zq] at h10940 h10941 a10946 h10947 ⊢) <;> (try simp only [zz, Int32.reduceToInt, ne_eq] at h10940 h10941 a10946 h10947 ⊢) <;> (try simp (disch := omega) only [zb] at h10940 h10941 a10946 h10947 ⊢) <;> first | omega | ((try simp (disch := omega) only [zb] at h10940 h10941 a10946 h10947 ⊢) <;> omega)) ?_
        obtain ⟨q20, eq20, tq20⟩ := ci_chan c0 tq17 (k := (mm_I σ0 q2 (1 : Int32).toNatClampNeg).toNatClampNeg) (by (try simp only [zp, zo, zq] at h10940 h10941 a10946 h10947 ⊢) <;> (try simp only [zz, Int32.reduceToInt, ne_eq] at h10940 h10941 a10946 h10947 ⊢) <;> (try simp (disch := omega) only [zb] at h10940 h10941 a10946 h10947 ⊢) <;> first | omega | ((try simp (disch := omega) only [zb] at h10940 h10941 a10946 h10947 ⊢) <;> omega))
        refine sw_onS eq20 ?_
        refine sw_sh (ci_sh c0 tq20 rfl) ?_
        refine sw_on (sX0_put c0 tq20  ) ?_
        intro q22 hqq22
        obtain ⟨cq22, gq22, xq22⟩ := hqq22
        have fq22 := fr_trans f0 gq22 rfl
        refine sw_sh (ci_sh cq22 t_p0 rfl) ?_
        have v10962 : mm_R q22 p0 0 = some q17 := ((gq22.2.2 _ _ t_p0 0 rfl).2.trans eq17)
        refine sw_onS v10962 ?_
        refine sw_ar (ci_sh cq22 tq17 rfl) ?_
        refine sw_ib (by (try simp only [zp, zo, zq] at h10940 h10941 a10946 h10947 ⊢) <;> (try simp only [zz, Int32.reduceToInt, ne_eq] at h10940 h10941 a10946 h10947 ⊢) <;> (try simp (disch := omega) only [zb] at h10940 h10941 a10946 h10947 ⊢) <;> first | omega | ((try simp (disch := omega) only [zb] at h10940 h10941 a10946 h10947 ⊢) <;> omega)) ?_
        have v10963 : mm_R q22 q17 ((mm_I σ0 q2 (1 : Int32).toNatClampNeg).toNatClampNeg) = some q20 := ((gq22.2.2 _ _ tq17 ((mm_I σ0 q2 (1 : Int32).toNatClampNeg).toNatClampNeg) rfl).2.trans eq20)
        refine sw_onS v10963 ?_
        refine sw_on (sX8_takeSecondLetter cq22 tq20  ) ?_
        intro q28 hqq28
        obtain ⟨cq28, gq28, xq28⟩ := hqq28
        have fq28 := fr_trans fq22 gq28 rfl
        have w10965 : rdA σ0 p0 1 1 = mm_I σ0 q2 ((1 : Int32)).toNatClampNeg := rdA_eq eq2
        have a10966 := zi_and p3 127 (by decide)
        exact sw_some ⟨cq28, fq28, (by (try simp only [zp, zo, zq] at h10940 h10941 a10946 h10947 w10965 a10966 ⊢) <;> (try simp only [zz, Int32.reduceToInt, ne_eq] at h10940 h10941 a10946 h10947 w10965 a10966 ⊢) <;> (try simp (disch := omega) only [zb] at h10940 h10941 a10946 h10947 w10965 a10966 ⊢) <;> first | omega | ((try simp (disch := omega) only [zb] at h10940 h10941 a10946 h10947 w10965 a10966 ⊢) <;> omega))⟩
  · have w10968 : rdA σ0 p0 1 1 = mm_I σ0 q2 ((1 : Int32)).toNatClampNeg := rdA_eq eq2
    have a10969 := zi_and p2 127 (by decide)
    have a10970 := zi_and p3 127 (by decide)
    exact sw_some ⟨c0, f0, (by (try simp only [zp, zo, zq] at h10940 w10968 a10969 a10970 ⊢) <;> (try simp only [zz, Int32.reduceToInt, ne_eq] at h10940 w10968 a10969 a10970 ⊢) <;> (try simp (disch := omega) only [zb] at h10940 w10968 a10969 a10970 ⊢) <;> first | omega | ((try simp (disch := omega) only [zb] at h10940 w10968 a10969 a10970 ⊢) <;> omega))⟩
abbrev UX8_takeCode_f1 : List Nat := [0, 11, 20, 21]
set_option maxHeartbeats 4000000 in
set_option maxRecDepth 10000 in
theorem uX8_takeCode_f1 {T : Nat → Option Nat} {σ0 : mm_M} {p0 : Nat} {p2 : Int32} {p3 : Int32} (c0 : sCI T σ0) (t_p0 : T p0 = some 8) : sw (fX8_takeCode p0 (1 : Int32) p2 p3 σ0) (fun R => sCI T R.2 ∧ sFR T UX8_takeCode_f1 σ0 R.2 ∧ ((((p2 &&& 8).toInt = 0 ∧ R.1.toInt = 2) ∨ ((p2 &&& 8).toInt ≠ 0 ∧ R.1.toInt = 3)) ∧ (rdA R.2 p0 1 1).toInt = R.1.toInt ∧ (rdA R.2 p0 1 0).toInt = (rdA σ0 p0 1 0).toInt)) := by
  have f0 : sFR T UX8_takeCode_f1 σ0 σ0 := fr_refl
  unfold fX8_takeCode
  have a10971 := zi_and p2 8 (by decide)
  refine sw_ite (fun h10972 => ?_) (fun h10972 => ?_)
  · unfold fX8_takeCode_15
    refine sw_sh (ci_sh c0 t_p0 rfl) ?_
    obtain ⟨q3, eq3, tq3⟩ := ci_ref c0 t_p0 1 (κ' := 11) rfl
    refine sw_onS eq3 ?_
    refine sw_ar (ci_sh c0 tq3 rfl) ?_
    refine sw_ib (by (try simp only [zp, zo, zq] at a10971 h10972 ⊢) <;> (try simp only [zz, Int32.reduceToInt, ne_eq] at a10971 h10972 ⊢) <;> (try simp (disch := omega) only [zb] at a10971 h10972 ⊢) <;> first | omega | ((try simp (disch := omega) only [zb] at a10971 h10972 ⊢) <;> omega)) ?_
    have cs6 := ci_wI c0 tq3 (j := ((1 : Int32)).toNatClampNeg) (v := (2 * (1 : Int32)) + (0 : Int32)) (kr_n rfl)
    have fs6 := fr_wI f0 tq3 (j := ((1 : Int32)).toNatClampNeg) (v := (2 * (1 : Int32)) + (0 : Int32)) rfl
    refine sw_let (fun s6 es6 => ?_)
    rw [es6] at cs6 fs6
    obtain ⟨q7, eq7, tq7⟩ := ci_ref cs6 t_p0 0 (κ' := 10) rfl
    refine sw_onS eq7 ?_
    refine sw_ar (ci_sh cs6 tq7 rfl) ?_
    refine sw_ib (by (try simp only [zp, zo, zq] at a10971 h10972 ⊢) <;> (try simp only [zz, Int32.reduceToInt, ne_eq] at a10971 h10972 ⊢) <;> (try simp (disch := omega) only [zb] at a10971 h10972 ⊢) <;> first | omega | ((try simp (disch := omega) only [zb] at a10971 h10972 ⊢) <;> omega)) ?_
    obtain ⟨q10, eq10, tq10⟩ := ci_chan cs6 tq7 (k := ((2 * (1 : Int32)) + (0 : Int32)).toNatClampNeg) (by (try simp only [zp, zo, zq] at a10971 h10972 ⊢) <;> (try simp only [zz, Int32.reduceToInt, ne_eq] at a10971 h10972 ⊢) <;> (try simp (disch := omega) only [zb] at a10971 h10972 ⊢) <;> first | omega | ((try simp (disch := omega) only [zb] at a10971 h10972 ⊢) <;> omega))
    refine sw_onS eq10 ?_
    refine sw_sh (ci_sh cs6 tq10 rfl) ?_
    refine sw_on (sX0_obey cs6 tq10  ) ?_
    intro q12 hqq12
    obtain ⟨cq12, gq12, xq12⟩ := hqq12
    have fq12 := fr_trans fs6 gq12 rfl
    have w10973 := rdA_fr (k := 1) (j := 1) gq12 cs6 t_p0 (κ' := 11) rfl rfl rfl
    have w10974 : rdA s6 p0 1 1 = (2 * (1 : Int32)) + (0 : Int32) := by rw [← es6]; exact rdA_self eq3
    have w10975 := rdA_fr (k := 1) (j := 0) gq12 cs6 t_p0 (κ' := 11) rfl rfl rfl
    have w10976 : rdA s6 p0 1 0 = rdA σ0 p0 1 0 := by rw [← es6]; exact rdA_j (by decide)
    have w10978 : rdA σ0 p0 1 0 = mm_I σ0 q3 ((0 : Int32)).toNatClampNeg := rdA_eq eq3
    exact sw_some ⟨cq12, fq12, (by (try simp only [zp, zo, zq] at a10971 h10972 w10973 w10974 w10975 w10976 w10978 ⊢) <;> (try simp only [zz, Int32.reduceToInt, ne_eq] at a10971 h10972 w10973 w10974 w10975 w10976 w10978 ⊢) <;> (try simp (disch := omega) only [zb] at a10971 h10972 w10973 w10974 w10975 w10976 w10978 ⊢) <;> first | omega | ((try simp (disch := omega) only [zb] at a10971 h10972 w10973 w10974 w10975 w10976 w10978 ⊢) <;> omega))⟩
  · unfold fX8_takeCode_15
    refine sw_sh (ci_sh c0 t_p0 rfl) ?_
    obtain ⟨q3, eq3, tq3⟩ := ci_ref c0 t_p0 1 (κ' := 11) rfl
    refine sw_onS eq3 ?_
    refine sw_ar (ci_sh c0 tq3 rfl) ?_
    refine sw_ib (by (try simp only [zp, zo, zq] at a10971 h10972 ⊢) <;> (try simp only [zz, Int32.reduceToInt, ne_eq] at a10971 h10972 ⊢) <;> (try simp (disch := omega) only [zb] at a10971 h10972 ⊢) <;> first | omega | ((try simp (disch := omega) only [zb] at a10971 h10972 ⊢) <;> omega)) ?_
    have cs6 := ci_wI c0 tq3 (j := ((1 : Int32)).toNatClampNeg) (v := (2 * (1 : Int32)) + (1 : Int32)) (kr_n rfl)
    have fs6 := fr_wI f0 tq3 (j := ((1 : Int32)).toNatClampNeg) (v := (2 * (1 : Int32)) + (1 : Int32)) rfl
    refine sw_let (fun s6 es6 => ?_)
    rw [es6] at cs6 fs6
    obtain ⟨q7, eq7, tq7⟩ := ci_ref cs6 t_p0 0 (κ' := 10) rfl
    refine sw_onS eq7 ?_
    refine sw_ar (ci_sh cs6 tq7 rfl) ?_
    refine sw_ib (by (try simp only [zp, zo, zq] at a10971 h10972 ⊢) <;> (try simp only [zz, Int32.reduceToInt, ne_eq] at a10971 h10972 ⊢) <;> (try simp (disch := omega) only [zb] at a10971 h10972 ⊢) <;> first | omega | ((try simp (disch := omega) only [zb] at a10971 h10972 ⊢) <;> omega)) ?_
    obtain ⟨q10, eq10, tq10⟩ := ci_chan cs6 tq7 (k := ((2 * (1 : Int32)) + (1 : Int32)).toNatClampNeg) (by (try simp only [zp, zo, zq] at a10971 h10972 ⊢) <;> (try simp only [zz, Int32.reduceToInt, ne_eq] at a10971 h10972 ⊢) <;> (try simp (disch := omega) only [zb] at a10971 h10972 ⊢) <;> first | omega | ((try simp (disch := omega) only [zb] at a10971 h10972 ⊢) <;> omega))
    refine sw_onS eq10 ?_
    refine sw_sh (ci_sh cs6 tq10 rfl) ?_
    refine sw_on (sX0_obey cs6 tq10  ) ?_
    intro q12 hqq12
    obtain ⟨cq12, gq12, xq12⟩ := hqq12
    have fq12 := fr_trans fs6 gq12 rfl
    have w10979 := rdA_fr (k := 1) (j := 1) gq12 cs6 t_p0 (κ' := 11) rfl rfl rfl
    have w10980 : rdA s6 p0 1 1 = (2 * (1 : Int32)) + (1 : Int32) := by rw [← es6]; exact rdA_self eq3
    have w10981 := rdA_fr (k := 1) (j := 0) gq12 cs6 t_p0 (κ' := 11) rfl rfl rfl
    have w10982 : rdA s6 p0 1 0 = rdA σ0 p0 1 0 := by rw [← es6]; exact rdA_j (by decide)
    have w10984 : rdA σ0 p0 1 0 = mm_I σ0 q3 ((0 : Int32)).toNatClampNeg := rdA_eq eq3
    exact sw_some ⟨cq12, fq12, (by (try simp only [zp, zo, zq] at a10971 h10972 w10979 w10980 w10981 w10982 w10984 ⊢) <;> (try simp only [zz, Int32.reduceToInt, ne_eq] at a10971 h10972 w10979 w10980 w10981 w10982 w10984 ⊢) <;> (try simp (disch := omega) only [zb] at a10971 h10972 w10979 w10980 w10981 w10982 w10984 ⊢) <;> first | omega | ((try simp (disch := omega) only [zb] at a10971 h10972 w10979 w10980 w10981 w10982 w10984 ⊢) <;> omega))⟩
abbrev UX8_pair_f1 : List Nat := [0, 11, 12, 20, 21]
set_option maxHeartbeats 4000000 in
set_option maxRecDepth 10000 in
theorem uX8_pair_f1 {T : Nat → Option Nat} {σ0 : mm_M} {p0 : Nat} {p2 : Int32} {p3 : Int32} (c0 : sCI T σ0) (t_p0 : T p0 = some 8) : sw (fX8_pair p0 (1 : Int32) p2 p3 σ0) (fun R => sCI T R.2 ∧ sFR T UX8_pair_f1 σ0 R.2 ∧ (((rdA R.2 p0 1 0).toInt = (rdA σ0 p0 1 0).toInt ∧ (rdA R.2 p0 2 0).toInt = (rdA σ0 p0 2 0).toInt) ∧ ((¬ ((fX8_isRight p2).toInt ≠ 0 ∧ 16 ≤ (p2 &&& 127).toInt ∧ (p2 &&& 127).toInt ≤ 31 ∧ (fX8_isRight p3).toInt ≠ 0 ∧ 32 ≤ (p3 &&& 127).toInt) ∧ (rdA R.2 p0 2 1).toInt = -1 ∧ (rdA R.2 p0 1 1).toInt = (rdA σ0 p0 1 1).toInt ∧ ((((0 ≤ (rdA σ0 p0 1 1).toInt ∧ (rdA σ0 p0 1 1).toInt ≤ 3) ∧ (fX8_isRight p2).toInt ≠ 0 ∧ (32 ≤ (p2 &&& 127).toInt ∨ ((p2 &&& 127).toInt = 0 ∧ (fX8_isRight p3).toInt ≠ 0 ∧ 32 ≤ (p3 &&& 127).toInt))) ∧ oi R.1 = 9) ∨ (¬ ((0 ≤ (rdA σ0 p0 1 1).toInt ∧ (rdA σ0 p0 1 1).toInt ≤ 3) ∧ (fX8_isRight p2).toInt ≠ 0 ∧ (32 ≤ (p2 &&& 127).toInt ∨ ((p2 &&& 127).toInt = 0 ∧ (fX8_isRight p3).toInt ≠ 0 ∧ 32 ≤ (p3 &&& 127).toInt))) ∧ oi R.1 = -1))) ∨ (((fX8_isRight p2).toInt ≠ 0 ∧ 16 ≤ (p2 &&& 127).toInt ∧ (p2 &&& 127).toInt ≤ 31 ∧ (fX8_isRight p3).toInt ≠ 0 ∧ 32 ≤ (p3 &&& 127).toInt) ∧ (rdA σ0 p0 2 1).toInt = 128 * (p2 &&& 127).toInt + (p3 &&& 127).toInt ∧ (rdA R.2 p0 2 1).toInt = -1 ∧ (rdA R.2 p0 1 1).toInt = (rdA σ0 p0 1 1).toInt ∧ oi R.1 = 8) ∨ (((fX8_isRight p2).toInt ≠ 0 ∧ 16 ≤ (p2 &&& 127).toInt ∧ (p2 &&& 127).toInt ≤ 31 ∧ (fX8_isRight p3).toInt ≠ 0 ∧ 32 ≤ (p3 &&& 127).toInt) ∧ (rdA σ0 p0 2 1).toInt ≠ 128 * (p2 &&& 127).toInt + (p3 &&& 127).toInt ∧ (rdA R.2 p0 2 1).toInt = 128 * (p2 &&& 127).toInt + (p3 &&& 127).toInt ∧ (((p2 &&& 8).toInt = 0 ∧ (rdA R.2 p0 1 1).toInt = 2) ∨ ((p2 &&& 8).toInt ≠ 0 ∧ (rdA R.2 p0 1 1).toInt = 3)) ∧ oi R.1 = (rdA R.2 p0 1 1).toInt)))) := by
  have f0 : sFR T UX8_pair_f1 σ0 σ0 := fr_refl
  unfold fX8_pair
  refine sw_ite (fun h10985 => ?_) (fun h10985 => ?_)
  · have a10986 := zi_and p2 255 (by decide)
    have a10987 := zi_and p3 255 (by decide)
    refine sw_ite (fun h10988 => ?_) (fun h10988 => ?_)
    · refine sw_sh (ci_sh c0 t_p0 rfl) ?_
      obtain ⟨q18, eq18, tq18⟩ := ci_ref c0 t_p0 2 (κ' := 12) rfl
      refine sw_onS eq18 ?_
      refine sw_ar (ci_sh c0 tq18 rfl) ?_
      refine sw_ib (by (try simp only [zp, zo, zq] at h10985 a10986 a10987 h10988 ⊢) <;> (try simp only [zz, Int32.reduceToInt, ne_eq] at h10985 a10986 a10987 h10988 ⊢) <;> (try simp (disch := omega) only [zb] at h10985 a10986 a10987 h10988 ⊢) <;> first | omega | ((try simp (disch := omega) only [zb] at h10985 a10986 a10987 h10988 ⊢) <;> omega)) ?_
      have cs21 := ci_wI c0 tq18 (j := (1 : Int32).toNatClampNeg) (v := -1) (kr_n rfl)
      have fs21 := fr_wI f0 tq18 (j := (1 : Int32).toNatClampNeg) (v := -1) rfl
      refine sw_let (fun s21 es21 => ?_)
      rw [es21] at cs21 fs21
      refine sw_on (uX8_takeLetters_f1 cs21 t_p0  ) ?_
      intro q22 hqq22
      obtain ⟨cq22, gq22, xq22⟩ := hqq22
      have fq22 := fr_trans fs21 gq22 rfl
      have w10989 : rdA s21 p0 1 1 = rdA σ0 p0 1 1 := by rw [← es21]; exact rdA_k c0 t_p0 (κ' := 11) rfl tq18 (by decide)
      have a10991 := zi_and (p2 &&& 255) 127 (by decide)
      have a10992 := zi_and (p3 &&& 255) 127 (by decide)
      refine sw_ite (fun h10993 => ?_) (fun h10993 => ?_)
      · have w10994 := rdA_fr (k := 1) (j := 0) gq22 cs21 t_p0 (κ' := 11) rfl rfl rfl
        have w10995 : rdA s21 p0 1 0 = rdA σ0 p0 1 0 := by rw [← es21]; exact rdA_k c0 t_p0 (κ' := 11) rfl tq18 (by decide)
        have w10997 := rdA_fr (k := 2) (j := 0) gq22 cs21 t_p0 (κ' := 12) rfl rfl rfl
        have w10998 : rdA s21 p0 2 0 = rdA σ0 p0 2 0 := by rw [← es21]; exact rdA_j (by decide)
        have w11000 : rdA σ0 p0 2 0 = mm_I σ0 q18 ((0 : Int32)).toNatClampNeg := rdA_eq eq18
        have w11001 := rdA_fr (k := 2) (j := 1) gq22 cs21 t_p0 (κ' := 12) rfl rfl rfl
        have w11002 : rdA s21 p0 2 1 = -1 := by rw [← es21]; exact rdA_self eq18
        have w11003 := rdA_fr (k := 1) (j := 1) gq22 cs21 t_p0 (κ' := 11) rfl rfl rfl
        have w11005 : rdA σ0 p0 2 1 = mm_I σ0 q18 ((1 : Int32)).toNatClampNeg := rdA_eq eq18
        have a11006 := zi_and p2 127 (by decide)
        have a11007 := zi_and p3 127 (by decide)
        have a11008 := zi_and p2 8 (by decide)
        exact sw_some ⟨cq22, fq22, (by (try simp only [zp, zo, zq] at h10985 a10986 a10987 h10988 xq22 w10989 a10991 a10992 h10993 w10994 w10995 w10997 w10998 w11000 w11001 w11002 w11003 w11005 a11006 a11007 a11008 ⊢) <;> (try simp only [zz, Int32.reduceToInt, ne_eq] at h10985 a10986 a10987 h10988 xq22 w10989 a10991 a10992 h10993 w10994 w10995 w10997 w10998 w11000 w11001 w11002 w11003 w11005 a11006 a11007 a11008 ⊢) <;> (try simp (disch := omega) only [zb] at h10985 a10986 a10987 h10988 xq22 w10989 a10991 a10992 h10993 w10994 w10995 w10997 w10998 w11000 w11001 w11002 w11003 w11005 a11006 a11007 a11008 ⊢) <;> first | omega | ((try simp (disch := omega) only [zb] at h10985 a10986 a10987 h10988 xq22 w10989 a10991 a10992 h10993 w10994 w10995 w10997 w10998 w11000 w11001 w11002 w11003 w11005 a11006 a11007 a11008 ⊢) <;> omega))⟩
      · have w11009 := rdA_fr (k := 1) (j := 0) gq22 cs21 t_p0 (κ' := 11) rfl rfl rfl
        have w11010 : rdA s21 p0 1 0 = rdA σ0 p0 1 0 := by rw [← es21]; exact rdA_k c0 t_p0 (κ' := 11) rfl tq18 (by decide)
        have w11012 := rdA_fr (k := 2) (j := 0) gq22 cs21 t_p0 (κ' := 12) rfl rfl rfl
        have w11013 : rdA s21 p0 2 0 = rdA σ0 p0 2 0 := by rw [← es21]; exact rdA_j (by decide)
        have w11015 : rdA σ0 p0 2 0 = mm_I σ0 q18 ((0 : Int32)).toNatClampNeg := rdA_eq eq18
        have w11016 := rdA_fr (k := 2) (j := 1) gq22 cs21 t_p0 (κ' := 12) rfl rfl rfl
        have w11017 : rdA s21 p0 2 1 = -1 := by rw [← es21]; exact rdA_self eq18
        have w11018 := rdA_fr (k := 1) (j := 1) gq22 cs21 t_p0 (κ' := 11) rfl rfl rfl
        have w11020 : rdA σ0 p0 2 1 = mm_I σ0 q18 ((1 : Int32)).toNatClampNeg := rdA_eq eq18
        have a11021 := zi_and p2 127 (by decide)
        have a11022 := zi_and p3 127 (by decide)
        have a11023 := zi_and p2 8 (by decide)
        exact sw_some ⟨cq22, fq22, (by (try simp only [zp, zo, zq] at h10985 a10986 a10987 h10988 xq22 w10989 a10991 a10992 h10993 w11009 w11010 w11012 w11013 w11015 w11016 w11017 w11018 w11020 a11021 a11022 a11023 ⊢) <;> (try simp only [zz, Int32.reduceToInt, ne_eq] at h10985 a10986 a10987 h10988 xq22 w10989 a10991 a10992 h10993 w11009 w11010 w11012 w11013 w11015 w11016 w11017 w11018 w11020 a11021 a11022 a11023 ⊢) <;> (try simp (disch := omega) only [zb] at h10985 a10986 a10987 h10988 xq22 w10989 a10991 a10992 h10993 w11009 w11010 w11012 w11013 w11015 w11016 w11017 w11018 w11020 a11021 a11022 a11023 ⊢) <;> first | omega | ((try simp (disch := omega) only [zb] at h10985 a10986 a10987 h10988 xq22 w10989 a10991 a10992 h10993 w11009 w11010 w11012 w11013 w11015 w11016 w11017 w11018 w11020 a11021 a11022 a11023 ⊢) <;> omega))⟩
    · refine sw_sh (ci_sh c0 t_p0 rfl) ?_
      obtain ⟨q4, eq4, tq4⟩ := ci_ref c0 t_p0 2 (κ' := 12) rfl
      refine sw_onS eq4 ?_
      refine sw_ar (ci_sh c0 tq4 rfl) ?_
      refine sw_ib (by (try simp only [zp, zo, zq] at h10985 a10986 a10987 h10988 ⊢) <;> (try simp only [zz, Int32.reduceToInt, ne_eq] at h10985 a10986 a10987 h10988 ⊢) <;> (try simp (disch := omega) only [zb] at h10985 a10986 a10987 h10988 ⊢) <;> first | omega | ((try simp (disch := omega) only [zb] at h10985 a10986 a10987 h10988 ⊢) <;> omega)) ?_
      have a11024 := zi_and (p2 &&& 255) 127 (by decide)
      have a11025 := zi_and (p3 &&& 255) 127 (by decide)
      refine sw_ite (fun h11026 => ?_) (fun h11026 => ?_)
      · refine sw_onS eq4 ?_
        refine sw_ar (ci_sh c0 tq4 rfl) ?_
        refine sw_ib (by (try simp only [zp, zo, zq] at h10985 a10986 a10987 h10988 a11024 a11025 h11026 ⊢) <;> (try simp only [zz, Int32.reduceToInt, ne_eq] at h10985 a10986 a10987 h10988 a11024 a11025 h11026 ⊢) <;> (try simp (disch := omega) only [zb] at h10985 a10986 a10987 h10988 a11024 a11025 h11026 ⊢) <;> first | omega | ((try simp (disch := omega) only [zb] at h10985 a10986 a10987 h10988 a11024 a11025 h11026 ⊢) <;> omega)) ?_
        have cs16 := ci_wI c0 tq4 (j := (1 : Int32).toNatClampNeg) (v := -1) (kr_n rfl)
        have fs16 := fr_wI f0 tq4 (j := (1 : Int32).toNatClampNeg) (v := -1) rfl
        refine sw_let (fun s16 es16 => ?_)
        rw [es16] at cs16 fs16
        have w11027 : rdA s16 p0 1 0 = rdA σ0 p0 1 0 := by rw [← es16]; exact rdA_k c0 t_p0 (κ' := 11) rfl tq4 (by decide)
        have w11029 : rdA s16 p0 2 0 = rdA σ0 p0 2 0 := by rw [← es16]; exact rdA_j (by decide)
        have w11031 : rdA σ0 p0 2 0 = mm_I σ0 q4 ((0 : Int32)).toNatClampNeg := rdA_eq eq4
        have w11032 : rdA s16 p0 2 1 = -1 := by rw [← es16]; exact rdA_self eq4
        have w11033 : rdA s16 p0 1 1 = rdA σ0 p0 1 1 := by rw [← es16]; exact rdA_k c0 t_p0 (κ' := 11) rfl tq4 (by decide)
        have w11036 : rdA σ0 p0 2 1 = mm_I σ0 q4 ((1 : Int32)).toNatClampNeg := rdA_eq eq4
        have a11037 := zi_and p2 127 (by decide)
        have a11038 := zi_and p3 127 (by decide)
        have a11039 := zi_and p2 8 (by decide)
        exact sw_some ⟨cs16, fs16, (by (try simp only [zp, zo, zq] at h10985 a10986 a10987 h10988 a11024 a11025 h11026 w11027 w11029 w11031 w11032 w11033 w11036 a11037 a11038 a11039 ⊢) <;> (try simp only [zz, Int32.reduceToInt, ne_eq] at h10985 a10986 a10987 h10988 a11024 a11025 h11026 w11027 w11029 w11031 w11032 w11033 w11036 a11037 a11038 a11039 ⊢) <;> (try simp (disch := omega) only [zb] at h10985 a10986 a10987 h10988 a11024 a11025 h11026 w11027 w11029 w11031 w11032 w11033 w11036 a11037 a11038 a11039 ⊢) <;> first | omega | ((try simp (disch := omega) only [zb] at h10985 a10986 a10987 h10988 a11024 a11025 h11026 w11027 w11029 w11031 w11032 w11033 w11036 a11037 a11038 a11039 ⊢) <;> omega))⟩
      · refine sw_onS eq4 ?_
        refine sw_ar (ci_sh c0 tq4 rfl) ?_
        refine sw_ib (by (try simp only [zp, zo, zq] at h10985 a10986 a10987 h10988 a11024 a11025 h11026 ⊢) <;> (try simp only [zz, Int32.reduceToInt, ne_eq] at h10985 a10986 a10987 h10988 a11024 a11025 h11026 ⊢) <;> (try simp (disch := omega) only [zb] at h10985 a10986 a10987 h10988 a11024 a11025 h11026 ⊢) <;> first | omega | ((try simp (disch := omega) only [zb] at h10985 a10986 a10987 h10988 a11024 a11025 h11026 ⊢) <;> omega)) ?_
        have cs11 := ci_wI c0 tq4 (j := (1 : Int32).toNatClampNeg) (v := (((p2 &&& 255) &&& 127) * 128) + ((p3 &&& 255) &&& 127)) (kr_n rfl)
        have fs11 := fr_wI f0 tq4 (j := (1 : Int32).toNatClampNeg) (v := (((p2 &&& 255) &&& 127) * 128) + ((p3 &&& 255) &&& 127)) rfl
        refine sw_let (fun s11 es11 => ?_)
        rw [es11] at cs11 fs11
        refine sw_on (uX8_takeCode_f1 cs11 t_p0  ) ?_
        intro q12 hqq12
        obtain ⟨cq12, gq12, xq12⟩ := hqq12
        have fq12 := fr_trans fs11 gq12 rfl
        have w11042 : rdA s11 p0 1 0 = rdA σ0 p0 1 0 := by rw [← es11]; exact rdA_k c0 t_p0 (κ' := 11) rfl tq4 (by decide)
        have a11044 := zi_and ((p2 &&& 255) &&& 127) 8 (by decide)
        have w11045 := rdA_fr (k := 2) (j := 0) gq12 cs11 t_p0 (κ' := 12) rfl rfl rfl
        have w11046 : rdA s11 p0 2 0 = rdA σ0 p0 2 0 := by rw [← es11]; exact rdA_j (by decide)
        have w11048 : rdA σ0 p0 2 0 = mm_I σ0 q4 ((0 : Int32)).toNatClampNeg := rdA_eq eq4
        have w11049 := rdA_fr (k := 2) (j := 1) gq12 cs11 t_p0 (κ' := 12) rfl rfl rfl
        have w11050 : rdA s11 p0 2 1 = (((p2 &&& 255) &&& 127) * 128) + ((p3 &&& 255) &&& 127) := by rw [← es11]; exact rdA_self eq4
        have w11053 : rdA σ0 p0 2 1 = mm_I σ0 q4 ((1 : Int32)).toNatClampNeg := rdA_eq eq4
        have a11054 := zi_and p2 127 (by decide)
        have a11055 := zi_and p3 127 (by decide)
        have a11056 := zi_and p2 8 (by decide)
        exact sw_some ⟨cq12, fq12, (by (try simp only [zp, zo, zq] at h10985 a10986 a10987 h10988 a11024 a11025 h11026 xq12 w11042 a11044 w11045 w11046 w11048 w11049 w11050 w11053 a11054 a11055 a11056 ⊢) <;> (try simp only [zz, Int32.reduceToInt, ne_eq] at h10985 a10986 a10987 h10988 a11024 a11025 h11026 xq12 w11042 a11044 w11045 w11046 w11048 w11049 w11050 w11053 a11054 a11055 a11056 ⊢) <;> (try simp (disch := omega) only [zb] at h10985 a10986 a10987 h10988 a11024 a11025 h11026 xq12 w11042 a11044 w11045 w11046 w11048 w11049 w11050 w11053 a11054 a11055 a11056 ⊢) <;> first | omega | ((try simp (disch := omega) only [zb] at h10985 a10986 a10987 h10988 a11024 a11025 h11026 xq12 w11042 a11044 w11045 w11046 w11048 w11049 w11050 w11053 a11054 a11055 a11056 ⊢) <;> omega))⟩
  · have a11061 := zi_and p2 127 (by decide)
    have a11062 := zi_and p3 127 (by decide)
    have a11063 := zi_and p2 8 (by decide)
    exact sw_some ⟨c0, f0, (by (try simp only [zp, zo, zq] at h10985 a11061 a11062 a11063 ⊢) <;> (try simp only [zz, Int32.reduceToInt, ne_eq] at h10985 a11061 a11062 a11063 ⊢) <;> (try simp (disch := omega) only [zb] at h10985 a11061 a11062 a11063 ⊢) <;> first | omega | ((try simp (disch := omega) only [zb] at h10985 a11061 a11062 a11063 ⊢) <;> omega))⟩
abbrev UX9_pair_f1 : List Nat := [51, 52, 53, 54, 55, 56, 57, 58, 59, 60, 92, 93, 900]
