/-! the array behind a field -/
def rdA (σ : mm_M) (o k j : Nat) : Int32 := match mm_R σ o k with
  | some q => mm_I σ q j
  | none => 0
theorem rdA_eq {σ : mm_M} {o k j q : Nat} (e : mm_R σ o k = some q) : rdA σ o k j = mm_I σ q j := by
  unfold rdA; rw [e]
theorem rdA_fr {T : Nat → Option Nat} {K : List Nat} {σ σ' : mm_M} {o k j κ κ' : Nat} (f : sFR T K σ σ') (c : sCI T σ) (t : T o = some κ) (hk : kref κ k = some κ') (h1 : K.contains (kcode κ k) = false) (h2 : K.contains (kcode κ' j) = false) : rdA σ' o k j = rdA σ o k j := by
  obtain ⟨q, e, tq⟩ := ci_ref c t k hk
  rw [rdA_eq e, rdA_eq (((f.2.2 o κ t k h1).2).trans e)]
  exact (f.2.2 q κ' tq j h2).1
theorem rdA_k {T : Nat → Option Nat} {σ : mm_M} {o k j a i κ κ' κ2 : Nat} {v : Int32} (c : sCI T σ) (t : T o = some κ) (hk : kref κ k = some κ') (ta : T a = some κ2) (h : κ' ≠ κ2) : rdA (mm_wI σ a i v) o k j = rdA σ o k j := by
  obtain ⟨q, e, tq⟩ := ci_ref c t k hk
  rw [rdA_eq e, rdA_eq (σ := mm_wI σ a i v) (q := q) e]
  exact rd_k tq ta h
theorem rdA_self {σ : mm_M} {o k j q : Nat} {v : Int32} (e : mm_R σ o k = some q) : rdA (mm_wI σ q j v) o k j = v := by
  rw [rdA_eq (σ := mm_wI σ q j v) (q := q) e]; exact rd_self
theorem rdA_j {σ : mm_M} {o k j q i : Nat} {v : Int32} (h : j ≠ i) : rdA (mm_wI σ q i v) o k j = rdA σ o k j := by
  unfold rdA
  show (match mm_R σ o k with | some q' => mm_I (mm_wI σ q i v) q' j | none => 0) = _
  cases mm_R σ o k with
  | none => rfl
  | some q' => exact mm_up2_nk q' h
theorem rdA_congr {σ τ : mm_M} (h1 : ∀ a k, mm_I τ a k = mm_I σ a k) (h2 : ∀ a k, mm_R τ a k = mm_R σ a k) (o k j : Nat) : rdA τ o k j = rdA σ o k j := by
  unfold rdA
  rw [h2]
  cases mm_R σ o k with
  | none => rfl
  | some q => exact h1 q j

abbrev UX8_takeLetters_f0 : List Nat := [0, 20, 21]
set_option maxHeartbeats 4000000 in
set_option maxRecDepth 10000 in
theorem uX8_takeLetters_f0 {T : Nat → Option Nat} {σ0 : mm_M} {p0 : Nat} {p2 : Int32} {p3 : Int32} (c0 : sCI T σ0) (t_p0 : T p0 = some 8) : sw (fX8_takeLetters p0 (0 : Int32) p2 p3 σ0) (fun R => sCI T R.2 ∧ sFR T UX8_takeLetters_f0 σ0 R.2 ∧ ((((0 ≤ (rdA σ0 p0 1 0).toInt ∧ (rdA σ0 p0 1 0).toInt ≤ 3) ∧ (fX8_isRight p2).toInt ≠ 0 ∧ (32 ≤ (p2 &&& 127).toInt ∨ ((p2 &&& 127).toInt = 0 ∧ (fX8_isRight p3).toInt ≠ 0 ∧ 32 ≤ (p3 &&& 127).toInt))) ∧ R.1.toInt = 1) ∨ (¬ ((0 ≤ (rdA σ0 p0 1 0).toInt ∧ (rdA σ0 p0 1 0).toInt ≤ 3) ∧ (fX8_isRight p2).toInt ≠ 0 ∧ (32 ≤ (p2 &&& 127).toInt ∨ ((p2 &&& 127).toInt = 0 ∧ (fX8_isRight p3).toInt ≠ 0 ∧ 32 ≤ (p3 &&& 127).toInt))) ∧ R.1.toInt = 0))) := by
  have f0 : sFR T UX8_takeLetters_f0 σ0 σ0 := fr_refl
  unfold fX8_takeLetters
  refine sw_sh (ci_sh c0 t_p0 rfl) ?_
  obtain ⟨q2, eq2, tq2⟩ := ci_ref c0 t_p0 1 (κ' := 11) rfl
  refine sw_onS eq2 ?_
  refine sw_ar (ci_sh c0 tq2 rfl) ?_
  refine sw_ib (by (try simp only [zp, zo, zq] at ⊢) <;> (try simp only [zz, Int32.reduceToInt, ne_eq] at ⊢) <;> (try simp (disch := omega) only [zb] at ⊢) <;> first | omega | ((try simp (disch := omega) only [zb] at ⊢) <;> omega)) ?_
  refine sw_ite (fun h5194 => ?_) (fun h5194 => ?_)
  · refine sw_ite (fun h5195 => ?_) (fun h5195 => ?_)
    · have w5197 : rdA σ0 p0 1 0 = mm_I σ0 q2 ((0 : Int32)).toNatClampNeg := rdA_eq eq2
      have a5198 := zi_and p2 127 (by decide)
      have a5199 := zi_and p3 127 (by decide)
      exact sw_some ⟨c0, f0, (by (try simp only [zp, zo, zq] at h5194 h5195 w5197 a5198 a5199 ⊢) <;> (try simp only [zz, Int32.reduceToInt, ne_eq] at h5194 h5195 w5197 a5198 a5199 ⊢) <;> (try simp (disch := omega) only [zb] at h5194 h5195 w5197 a5198 a5199 ⊢) <;> first | omega | ((try simp (disch := omega) only [zb] at h5194 h5195 w5197 a5198 a5199 ⊢) <;> omega))⟩
    · have a5200 := zi_and p2 127 (by decide)
      refine sw_ite (fun h5201 => ?_) (fun h5201 => ?_)
      · refine sw_ite (fun h5202 => ?_) (fun h5202 => ?_)
        · refine sw_ite (fun h5203 => ?_) (fun h5203 => ?_)
          · have w5205 : rdA σ0 p0 1 0 = mm_I σ0 q2 ((0 : Int32)).toNatClampNeg := rdA_eq eq2
            have a5206 := zi_and p3 127 (by decide)
            exact sw_some ⟨c0, f0, (by (try simp only [zp, zo, zq] at h5194 h5195 a5200 h5201 h5202 h5203 w5205 a5206 ⊢) <;> (try simp only [zz, Int32.reduceToInt, ne_eq] at h5194 h5195 a5200 h5201 h5202 h5203 w5205 a5206 ⊢) <;> (try simp (disch := omega) only [zb] at h5194 h5195 a5200 h5201 h5202 h5203 w5205 a5206 ⊢) <;> first | omega | ((try simp (disch := omega) only [zb] at h5194 h5195 a5200 h5201 h5202 h5203 w5205 a5206 ⊢) <;> omega))⟩
          · have a5207 := zi_and p3 127 (by decide)
            refine sw_ite (fun h5208 => ?_) (fun h5208 => ?_)
            · have w5210 : rdA σ0 p0 1 0 = mm_I σ0 q2 ((0 : Int32)).toNatClampNeg := rdA_eq eq2
              exact sw_some ⟨c0, f0, (by (try simp only [zp, zo, zq] at h5194 h5195 a5200 h5201 h5202 h5203 a5207 h5208 w5210 ⊢) <;> (try simp only [zz, Int32.reduceToInt, ne_eq] at h5194 h5195 a5200 h5201 h5202 h5203 a5207 h5208 w5210 ⊢) <;> (try simp (disch := omega) only [zb] at h5194 h5195 a5200 h5201 h5202 h5203 a5207 h5208 w5210 ⊢) <;> first | omega | ((try simp (disch := omega) only [zb] at h5194 h5195 a5200 h5201 h5202 h5203 a5207 h5208 w5210 ⊢) <;> omega))⟩
            · obtain ⟨q11, eq11, tq11⟩ := ci_ref c0 t_p0 0 (κ' := 10) rfl
              refine sw_onS eq11 ?_
              refine sw_ar (ci_sh c0 tq11 rfl) ?_
              refine sw_ib (by (try simp only [zp, zo, zq] at h5194 h5195 a5200 h5201 h5202 h5203 a5207 h5208 ⊢) <;> (try simp only [zz, Int32.reduceToInt, ne_eq] at h5194 h5195 a5200 h5201 h5202 h5203 a5207 h5208 ⊢) <;> (try simp (disch := omega) only [zb] at h5194 h5195 a5200 h5201 h5202 h5203 a5207 h5208 ⊢) <;> first | omega | ((try simp (disch := omega) only [zb] at h5194 h5195 a5200 h5201 h5202 h5203 a5207 h5208 ⊢) <;> omega)) ?_
              obtain ⟨q14, eq14, tq14⟩ := ci_chan c0 tq11 (k := (mm_I σ0 q2 (0 : Int32).toNatClampNeg).toNatClampNeg) (by (try simp only [zp, zo, zq] at h5194 h5195 a5200 h5201 h5202 h5203 a5207 h5208 ⊢) <;> (try simp only [zz, Int32.reduceToInt, ne_eq] at h5194 h5195 a5200 h5201 h5202 h5203 a5207 h5208 ⊢) <;> (try simp (disch := omega) only [zb] at h5194 h5195 a5200 h5201 h5202 h5203 a5207 h5208 ⊢) <;> first | omega | ((try simp (disch := omega) only [zb] at h5194 h5195 a5200 h5201 h5202 h5203 a5207 h5208 ⊢) <;> omega))
              refine sw_onS eq14 ?_
              refine sw_sh (ci_sh c0 tq14 rfl) ?_
              refine sw_on (sX0_put c0 tq14  ) ?_
              intro q16 hqq16
              obtain ⟨cq16, gq16, xq16⟩ := hqq16
              have fq16 := fr_trans f0 gq16 rfl
              have w5212 : rdA σ0 p0 1 0 = mm_I σ0 q2 ((0 : Int32)).toNatClampNeg := rdA_eq eq2
              exact sw_some ⟨cq16, fq16, (by (try simp only [zp, zo, zq] at h5194 h5195 a5200 h5201 h5202 h5203 a5207 h5208 w5212 ⊢) <;> (try simp only [zz, Int32.reduceToInt, ne_eq] at h5194 h5195 a5200 h5201 h5202 h5203 a5207 h5208 w5212 ⊢) <;> (try simp (disch := omega) only [zb] at h5194 h5195 a5200 h5201 h5202 h5203 a5207 h5208 w5212 ⊢) <;> first | omega | ((try simp (disch := omega) only [zb] at h5194 h5195 a5200 h5201 h5202 h5203 a5207 h5208 w5212 ⊢) <;> omega))⟩
        · have w5214 : rdA σ0 p0 1 0 = mm_I σ0 q2 ((0 : Int32)).toNatClampNeg := rdA_eq eq2
          have a5215 := zi_and p3 127 (by decide)
          exact sw_some ⟨c0, f0, (by (try simp only [zp, zo, zq] at h5194 h5195 a5200 h5201 h5202 w5214 a5215 ⊢) <;> (try simp only [zz, Int32.reduceToInt, ne_eq] at h5194 h5195 a5200 h5201 h5202 w5214 a5215 ⊢) <;> (try simp (disch := omega) only [zb] at h5194 h5195 a5200 h5201 h5202 w5214 a5215 ⊢) <;> first | omega | ((try simp (disch := omega) only [zb] at h5194 h5195 a5200 h5201 h5202 w5214 a5215 ⊢) <;> omega))⟩
      · obtain ⟨q17, eq17, tq17⟩ := ci_ref c0 t_p0 0 (κ' := 10) rfl
        refine sw_onS eq17 ?_
        refine sw_ar (ci_sh c0 tq17 rfl) ?_
        refine sw_ib (by (try simp only [zp, zo, zq] at h5194 h5195 a5200 h5201 ⊢) <;> (try simp only [zz, Int32.reduceToInt, ne_eq] at h5194 h5195 a5200 h5201 ⊢) <;> (try simp (disch := omega) only [zb] at h5194 h5195 a5200 h5201 ⊢) <;> first | omega | ((try simp (disch := omega) only [zb] at h5194 h5195 a5200 h5201 ⊢) <;> omega)) ?_
        obtain ⟨q20, eq20, tq20⟩ := ci_chan c0 tq17 (k := (mm_I σ0 q2 (0 : Int32).toNatClampNeg).toNatClampNeg) (by (try simp only [zp, zo, zq] at h5194 h5195 a5200 h5201 ⊢) <;> (try simp only [zz, Int32.reduceToInt, ne_eq] at h5194 h5195 a5200 h5201 ⊢) <;> (try simp (disch := omega) only [zb] at h5194 h5195 a5200 h5201 ⊢) <;> first | omega | ((try simp (disch := omega) only [zb] at h5194 h5195 a5200 h5201 ⊢) <;> omega))
        refine sw_onS eq20 ?_
        refine sw_sh (ci_sh c0 tq20 rfl) ?_
        refine sw_on (sX0_put c0 tq20  ) ?_
        intro q22 hqq22
        obtain ⟨cq22, gq22, xq22⟩ := hqq22
        have fq22 := fr_trans f0 gq22 rfl
        refine sw_sh (ci_sh cq22 t_p0 rfl) ?_
        have v5216 : mm_R q22 p0 0 = some q17 := ((gq22.2.2 _ _ t_p0 0 rfl).2.trans eq17)
        refine sw_onS v5216 ?_
        refine sw_ar (ci_sh cq22 tq17 rfl) ?_
        refine sw_ib (by (try simp only [zp, zo, zq] at h5194 h5195 a5200 h5201 ⊢) <;> (try simp only [zz, Int32.reduceToInt, ne_eq] at h5194 h5195 a5200 h5201 ⊢) <;> (try simp (disch := omega) only [zb] at h5194 h5195 a5200 h5201 ⊢) <;> first | omega | ((try simp (disch := omega) only [zb] at h5194 h5195 a5200 h5201 ⊢) <;> omega)) ?_
        have v5217 : mm_R q22 q17 ((mm_I σ0 q2 (0 : Int32).toNatClampNeg).toNatClampNeg) = some q20 := ((gq22.2.2 _ _ tq17 ((mm_I σ0 q2 (0 : Int32).toNatClampNeg).toNatClampNeg) rfl).2.trans eq20)
        refine sw_onS v5217 ?_
        refine sw_on (sX8_takeSecondLetter cq22 tq20  ) ?_
        intro q28 hqq28
        obtain ⟨cq28, gq28, xq28⟩ := hqq28
        have fq28 := fr_trans fq22 gq28 rfl
        have w5219 : rdA σ0 p0 1 0 = mm_I σ0 q2 ((0 : Int32)).toNatClampNeg := rdA_eq eq2
        have a5220 := zi_and p3 127 (by decide)
        exact sw_some ⟨cq28, fq28, (by (try simp only [zp, zo, zq] at h5194 h5195 a5200 h5201 w5219 a5220 ⊢) <;> (try simp only [zz, Int32.reduceToInt, ne_eq] at h5194 h5195 a5200 h5201 w5219 a5220 ⊢) <;> (try simp (disch := omega) only [zb] at h5194 h5195 a5200 h5201 w5219 a5220 ⊢) <;> first | omega | ((try simp (disch := omega) only [zb] at h5194 h5195 a5200 h5201 w5219 a5220 ⊢) <;> omega))⟩
  · have w5222 : rdA σ0 p0 1 0 = mm_I σ0 q2 ((0 : Int32)).toNatClampNeg := rdA_eq eq2
    have a5223 := zi_and p2 127 (by decide)
    have a5224 := zi_and p3 127 (by decide)
    exact sw_some ⟨c0, f0, (by (try simp only [zp, zo, zq] at h5194 w5222 a5223 a5224 ⊢) <;> (try simp only [zz, Int32.reduceToInt, ne_eq] at h5194 w5222 a5223 a5224 ⊢) <;> (try simp (disch := omega) only [zb] at h5194 w5222 a5223 a5224 ⊢) <;> first | omega | ((try simp (disch := omega) only [zb] at h5194 w5222 a5223 a5224 ⊢) <;> omega))⟩
abbrev UX8_takeCode_f0 : List Nat := [0, 11, 20, 21]
set_option maxHeartbeats 4000000 in
set_option maxRecDepth 10000 in
theorem uX8_takeCode_f0 {T : Nat → Option Nat} {σ0 : mm_M} {p0 : Nat} {p2 : Int32} {p3 : Int32} (c0 : sCI T σ0) (t_p0 : T p0 = some 8) : sw (fX8_takeCode p0 (0 : Int32) p2 p3 σ0) (fun R => sCI T R.2 ∧ sFR T UX8_takeCode_f0 σ0 R.2 ∧ ((((p2 &&& 8).toInt = 0 ∧ R.1.toInt = 0) ∨ ((p2 &&& 8).toInt ≠ 0 ∧ R.1.toInt = 1)) ∧ (rdA R.2 p0 1 0).toInt = R.1.toInt ∧ (rdA R.2 p0 1 1).toInt = (rdA σ0 p0 1 1).toInt)) := by
  have f0 : sFR T UX8_takeCode_f0 σ0 σ0 := fr_refl
  unfold fX8_takeCode
  have a5225 := zi_and p2 8 (by decide)
  refine sw_ite (fun h5226 => ?_) (fun h5226 => ?_)
  · unfold fX8_takeCode_15
    refine sw_sh (ci_sh c0 t_p0 rfl) ?_
    obtain ⟨q3, eq3, tq3⟩ := ci_ref c0 t_p0 1 (κ' := 11) rfl
    refine sw_onS eq3 ?_
    refine sw_ar (ci_sh c0 tq3 rfl) ?_
    refine sw_ib (by (try simp only [zp, zo, zq] at a5225 h5226 ⊢) <;> (try simp only [zz, Int32.reduceToInt, ne_eq] at a5225 h5226 ⊢) <;> (try simp (disch := omega) only [zb] at a5225 h5226 ⊢) <;> first | omega | ((try simp (disch := omega) only [zb] at a5225 h5226 ⊢) <;> omega)) ?_
    have cs6 := ci_wI c0 tq3 (j := ((0 : Int32)).toNatClampNeg) (v := (2 * (0 : Int32)) + (0 : Int32)) (kr_n rfl)
    have fs6 := fr_wI f0 tq3 (j := ((0 : Int32)).toNatClampNeg) (v := (2 * (0 : Int32)) + (0 : Int32)) rfl
    refine sw_let (fun s6 es6 => ?_)
    rw [es6] at cs6 fs6
    obtain ⟨q7, eq7, tq7⟩ := ci_ref cs6 t_p0 0 (κ' := 10) rfl
    refine sw_onS eq7 ?_
    refine sw_ar (ci_sh cs6 tq7 rfl) ?_
    refine sw_ib (by (try simp only [zp, zo, zq] at a5225 h5226 ⊢) <;> (try simp only [zz, Int32.reduceToInt, ne_eq] at a5225 h5226 ⊢) <;> (try simp (disch := omega) only [zb] at a5225 h5226 ⊢) <;> first | omega | ((try simp (disch := omega) only [zb] at a5225 h5226 ⊢) <;> omega)) ?_
    obtain ⟨q10, eq10, tq10⟩ := ci_chan cs6 tq7 (k := ((2 * (0 : Int32)) + (0 : Int32)).toNatClampNeg) (by (try simp only [zp, zo, zq] at a5225 h5226 ⊢) <;> (try simp only [zz, Int32.reduceToInt, ne_eq] at a5225 h5226 ⊢) <;> (try simp (disch := omega) only [zb] at a5225 h5226 ⊢) <;> first | omega | ((try simp (disch := omega) only [zb] at a5225 h5226 ⊢) <;> omega))
    refine sw_onS eq10 ?_
    refine sw_sh (ci_sh cs6 tq10 rfl) ?_
    refine sw_on (sX0_obey cs6 tq10  ) ?_
    intro q12 hqq12
    obtain ⟨cq12, gq12, xq12⟩ := hqq12
    have fq12 := fr_trans fs6 gq12 rfl
    have w5227 := rdA_fr (k := 1) (j := 0) gq12 cs6 t_p0 (κ' := 11) rfl rfl rfl
    have w5228 : rdA s6 p0 1 0 = (2 * (0 : Int32)) + (0 : Int32) := by rw [← es6]; exact rdA_self eq3
    have w5229 := rdA_fr (k := 1) (j := 1) gq12 cs6 t_p0 (κ' := 11) rfl rfl rfl
    have w5230 : rdA s6 p0 1 1 = rdA σ0 p0 1 1 := by rw [← es6]; exact rdA_j (by decide)
    have w5232 : rdA σ0 p0 1 1 = mm_I σ0 q3 ((1 : Int32)).toNatClampNeg := rdA_eq eq3
    exact sw_some ⟨cq12, fq12, (by (try simp only [zp, zo, zq] at a5225 h5226 w5227 w5228 w5229 w5230 w5232 ⊢) <;> (try simp only [zz, Int32.reduceToInt, ne_eq] at a5225 h5226 w5227 w5228 w5229 w5230 w5232 ⊢) <;> (try simp (disch := omega) only [zb] at a5225 h5226 w5227 w5228 w5229 w5230 w5232 ⊢) <;> first | omega | ((try simp (disch := omega) only [zb] at a5225 h5226 w5227 w5228 w5229 w5230 w5232 ⊢) <;> omega))⟩
  · unfold fX8_takeCode_15
    refine sw_sh (ci_sh c0 t_p0 rfl) ?_
    obtain ⟨q3, eq3, tq3⟩ := ci_ref c0 t_p0 1 (κ' := 11) rfl
    refine sw_onS eq3 ?_
    refine sw_ar (ci_sh c0 tq3 rfl) ?_
    refine sw_ib (by (try simp only [zp, zo, zq] at a5225 h5226 ⊢) <;> (try simp only [zz, Int32.reduceToInt, ne_eq] at a5225 h5226 ⊢) <;> (try simp (disch := omega) only [zb] at a5225 h5226 ⊢) <;> first | omega | ((try simp (disch := omega) only [zb] at a5225 h5226 ⊢) <;> omega)) ?_
    have cs6 := ci_wI c0 tq3 (j := ((0 : Int32)).toNatClampNeg) (v := (2 * (0 : Int32)) + (1 : Int32)) (kr_n rfl)
    have fs6 := fr_wI f0 tq3 (j := ((0 : Int32)).toNatClampNeg) (v := (2 * (0 : Int32)) + (1 : Int32)) rfl
    refine sw_let (fun s6 es6 => ?_)
    rw [es6] at cs6 fs6
    obtain ⟨q7, eq7, tq7⟩ := ci_ref cs6 t_p0 0 (κ' := 10) rfl
    refine sw_onS eq7 ?_
    refine sw_ar (ci_sh cs6 tq7 rfl) ?_
    refine sw_ib (by (try simp only [zp, zo, zq] at a5225 h5226 ⊢) <;> (try simp only [zz, Int32.reduceToInt, ne_eq] at a5225 h5226 ⊢) <;> (try simp (disch := omega) only [zb] at a5225 h5226 ⊢) <;> first | omega | ((try simp (disch := omega) only [zb] at a5225 h5226 ⊢) <;> omega)) ?_
    obtain ⟨q10, eq10, tq10⟩ := ci_chan cs6 tq7 (k := ((2 * (0 : Int32)) + (1 : Int32)).toNatClampNeg) (by (try simp only [zp, zo, zq] at a5225 h5226 ⊢) <;> (try simp only [zz, Int32.reduceToInt, ne_eq] at a5225 h5226 ⊢) <;> (try simp (disch := omega) only [zb] at a5225 h5226 ⊢) <;> first | omega | ((try simp (disch := omega) only [zb] at a5225 h5226 ⊢) <;> omega))
    refine sw_onS eq10 ?_
    refine sw_sh (ci_sh cs6 tq10 rfl) ?_
    refine sw_on (sX0_obey cs6 tq10  ) ?_
    intro q12 hqq12
    obtain ⟨cq12, gq12, xq12⟩ := hqq12
    have fq12 := fr_trans fs6 gq12 rfl
    have w5233 := rdA_fr (k := 1) (j := 0) gq12 cs6 t_p0 (κ' := 11) rfl rfl rfl
    have w5234 : rdA s6 p0 1 0 = (2 * (0 : Int32)) + (1 : Int32) := by rw [← es6]; exact rdA_self eq3
    have w5235 := rdA_fr (k := 1) (j := 1) gq12 cs6 t_p0 (κ' := 11) rfl rfl rfl
    have w5236 : rdA s6 p0 1 1 = rdA σ0 p0 1 1 := by rw [← es6]; exact rdA_j (by decide)
    have w5238 : rdA σ0 p0 1 1 = mm_I σ0 q3 ((1 : Int32)).toNatClampNeg := rdA_eq eq3
    exact sw_some ⟨cq12, fq12, (by (try simp only [zp, zo, zq] at a5225 h5226 w5233 w5234 w5235 w5236 w5238 ⊢) <;> (try simp only [zz, Int32.reduceToInt, ne_eq] at a5225 h5226 w5233 w5234 w5235 w5236 w5238 ⊢) <;> (try simp (disch := omega) only [zb] at a5225 h5226 w5233 w5234 w5235 w5236 w5238 ⊢) <;> first | omega | ((try simp (disch := omega) only [zb] at a5225 h5226 w5233 w5234 w5235 w5236 w5238 ⊢) <;> omega))⟩
abbrev UX8_pair_f0 : List Nat := [0, 11, 12, 20, 21]
set_option maxHeartbeats 4000000 in
set_option maxRecDepth 10000 in
theorem uX8_pair_f0 {T : Nat → Option Nat} {σ0 : mm_M} {p0 : Nat} {p2 : Int32} {p3 : Int32} (c0 : sCI T σ0) (t_p0 : T p0 = some 8) : sw (fX8_pair p0 (0 : Int32) p2 p3 σ0) (fun R => sCI T R.2 ∧ sFR T UX8_pair_f0 σ0 R.2 ∧ (((rdA R.2 p0 1 1).toInt = (rdA σ0 p0 1 1).toInt ∧ (rdA R.2 p0 2 1).toInt = (rdA σ0 p0 2 1).toInt) ∧ ((¬ ((fX8_isRight p2).toInt ≠ 0 ∧ 16 ≤ (p2 &&& 127).toInt ∧ (p2 &&& 127).toInt ≤ 31 ∧ (fX8_isRight p3).toInt ≠ 0 ∧ 32 ≤ (p3 &&& 127).toInt) ∧ (rdA R.2 p0 2 0).toInt = -1 ∧ (rdA R.2 p0 1 0).toInt = (rdA σ0 p0 1 0).toInt ∧ ((((0 ≤ (rdA σ0 p0 1 0).toInt ∧ (rdA σ0 p0 1 0).toInt ≤ 3) ∧ (fX8_isRight p2).toInt ≠ 0 ∧ (32 ≤ (p2 &&& 127).toInt ∨ ((p2 &&& 127).toInt = 0 ∧ (fX8_isRight p3).toInt ≠ 0 ∧ 32 ≤ (p3 &&& 127).toInt))) ∧ oi R.1 = 9) ∨ (¬ ((0 ≤ (rdA σ0 p0 1 0).toInt ∧ (rdA σ0 p0 1 0).toInt ≤ 3) ∧ (fX8_isRight p2).toInt ≠ 0 ∧ (32 ≤ (p2 &&& 127).toInt ∨ ((p2 &&& 127).toInt = 0 ∧ (fX8_isRight p3).toInt ≠ 0 ∧ 32 ≤ (p3 &&& 127).toInt))) ∧ oi R.1 = -1))) ∨ (((fX8_isRight p2).toInt ≠ 0 ∧ 16 ≤ (p2 &&& 127).toInt ∧ (p2 &&& 127).toInt ≤ 31 ∧ (fX8_isRight p3).toInt ≠ 0 ∧ 32 ≤ (p3 &&& 127).toInt) ∧ (rdA σ0 p0 2 0).toInt = 128 * (p2 &&& 127).toInt + (p3 &&& 127).toInt ∧ (rdA R.2 p0 2 0).toInt = -1 ∧ (rdA R.2 p0 1 0).toInt = (rdA σ0 p0 1 0).toInt ∧ oi R.1 = 8) ∨ (((fX8_isRight p2).toInt ≠ 0 ∧ 16 ≤ (p2 &&& 127).toInt ∧ (p2 &&& 127).toInt ≤ 31 ∧ (fX8_isRight p3).toInt ≠ 0 ∧ 32 ≤ (p3 &&& 127).toInt) ∧ (rdA σ0 p0 2 0).toInt ≠ 128 * (p2 &&& 127).toInt + (p3 &&& 127).toInt ∧ (rdA R.2 p0 2 0).toInt = 128 * (p2 &&& 127).toInt + (p3 &&& 127).toInt ∧ (((p2 &&& 8).toInt = 0 ∧ (rdA R.2 p0 1 0).toInt = 0) ∨ ((p2 &&& 8).toInt ≠ 0 ∧ (rdA R.2 p0 1 0).toInt = 1)) ∧ oi R.1 = (rdA R.2 p0 1 0).toInt)))) := by
  have f0 : sFR T UX8_pair_f0 σ0 σ0 := fr_refl
  unfold fX8_pair
  refine sw_ite (fun h5239 => ?_) (fun h5239 => ?_)
  · have a5240 := zi_and p2 255 (by decide)
    have a5241 := zi_and p3 255 (by decide)
    refine sw_ite (fun h5242 => ?_) (fun h5242 => ?_)
    · refine sw_sh (ci_sh c0 t_p0 rfl) ?_
      obtain ⟨q18, eq18, tq18⟩ := ci_ref c0 t_p0 2 (κ' := 12) rfl
      refine sw_onS eq18 ?_
      refine sw_ar (ci_sh c0 tq18 rfl) ?_
      refine sw_ib (by (try simp only [zp, zo, zq] at h5239 a5240 a5241 h5242 ⊢) <;> (try simp only [zz, Int32.reduceToInt, ne_eq] at h5239 a5240 a5241 h5242 ⊢) <;> (try simp (disch := omega) only [zb] at h5239 a5240 a5241 h5242 ⊢) <;> first | omega | ((try simp (disch := omega) only [zb] at h5239 a5240 a5241 h5242 ⊢) <;> omega)) ?_
      have cs21 := ci_wI c0 tq18 (j := (0 : Int32).toNatClampNeg) (v := -1) (kr_n rfl)
      have fs21 := fr_wI f0 tq18 (j := (0 : Int32).toNatClampNeg) (v := -1) rfl
      refine sw_let (fun s21 es21 => ?_)
      rw [es21] at cs21 fs21
      refine sw_on (uX8_takeLetters_f0 cs21 t_p0  ) ?_
      intro q22 hqq22
      obtain ⟨cq22, gq22, xq22⟩ := hqq22
      have fq22 := fr_trans fs21 gq22 rfl
      have w5243 : rdA s21 p0 1 0 = rdA σ0 p0 1 0 := by rw [← es21]; exact rdA_k c0 t_p0 (κ' := 11) rfl tq18 (by decide)
      have a5245 := zi_and (p2 &&& 255) 127 (by decide)
      have a5246 := zi_and (p3 &&& 255) 127 (by decide)
      refine sw_ite (fun h5247 => ?_) (fun h5247 => ?_)
      · have w5248 := rdA_fr (k := 1) (j := 1) gq22 cs21 t_p0 (κ' := 11) rfl rfl rfl
        have w5249 : rdA s21 p0 1 1 = rdA σ0 p0 1 1 := by rw [← es21]; exact rdA_k c0 t_p0 (κ' := 11) rfl tq18 (by decide)
        have w5251 := rdA_fr (k := 2) (j := 1) gq22 cs21 t_p0 (κ' := 12) rfl rfl rfl
        have w5252 : rdA s21 p0 2 1 = rdA σ0 p0 2 1 := by rw [← es21]; exact rdA_j (by decide)
        have w5254 : rdA σ0 p0 2 1 = mm_I σ0 q18 ((1 : Int32)).toNatClampNeg := rdA_eq eq18
        have w5255 := rdA_fr (k := 2) (j := 0) gq22 cs21 t_p0 (κ' := 12) rfl rfl rfl
        have w5256 : rdA s21 p0 2 0 = -1 := by rw [← es21]; exact rdA_self eq18
        have w5257 := rdA_fr (k := 1) (j := 0) gq22 cs21 t_p0 (κ' := 11) rfl rfl rfl
        have w5259 : rdA σ0 p0 2 0 = mm_I σ0 q18 ((0 : Int32)).toNatClampNeg := rdA_eq eq18
        have a5260 := zi_and p2 127 (by decide)
        have a5261 := zi_and p3 127 (by decide)
        have a5262 := zi_and p2 8 (by decide)
        exact sw_some ⟨cq22, fq22, (by (try simp only [zp, zo, zq] at h5239 a5240 a5241 h5242 xq22 w5243 a5245 a5246 h5247 w5248 w5249 w5251 w5252 w5254 w5255 w5256 w5257 w5259 a5260 a5261 a5262 ⊢) <;> (try simp only [zz, Int32.reduceToInt, ne_eq] at h5239 a5240 a5241 h5242 xq22 w5243 a5245 a5246 h5247 w5248 w5249 w5251 w5252 w5254 w5255 w5256 w5257 w5259 a5260 a5261 a5262 ⊢) <;> (try simp (disch := omega) only [zb] at h5239 a5240 a5241 h5242 xq22 w5243 a5245 a5246 h5247 w5248 w5249 w5251 w5252 w5254 w5255 w5256 w5257 w5259 a5260 a5261 a5262 ⊢) <;> first | omega | ((try simp (disch := omega) only [zb] at h5239 a5240 a5241 h5242 xq22 w5243 a5245 a5246 h5247 w5248 w5249 w5251 w5252 w5254 w5255 w5256 w5257 w5259 a5260 a5261 a5262 ⊢) <;> omega))⟩
      · have w5263 := rdA_fr (k := 1) (j := 1) gq22 cs21 t_p0 (κ' := 11) rfl rfl rfl
        have w5264 : rdA s21 p0 1 1 = rdA σ0 p0 1 1 := by rw [← es21]; exact rdA_k c0 t_p0 (κ' := 11) rfl tq18 (by decide)
        have w5266 := rdA_fr (k := 2) (j := 1) gq22 cs21 t_p0 (κ' := 12) rfl rfl rfl
        have w5267 : rdA s21 p0 2 1 = rdA σ0 p0 2 1 := by rw [← es21]; exact rdA_j (by decide)
        have w5269 : rdA σ0 p0 2 1 = mm_I σ0 q18 ((1 : Int32)).toNatClampNeg := rdA_eq eq18
        have w5270 := rdA_fr (k := 2) (j := 0) gq22 cs21 t_p0 (κ' := 12) rfl rfl rfl
        have w5271 : rdA s21 p0 2 0 = -1 := by rw [← es21]; exact rdA_self eq18
        have w5272 := rdA_fr (k := 1) (j := 0) gq22 cs21 t_p0 (κ' := 11) rfl rfl rfl
        have w5274 : rdA σ0 p0 2 0 = mm_I σ0 q18 ((0 : Int32)).toNatClampNeg := rdA_eq eq18
        have a5275 := zi_and p2 127 (by decide)
        have a5276 := zi_and p3 127 (by decide)
        have a5277 := zi_and p2 8 (by decide)
        exact sw_some ⟨cq22, fq22, (by (try simp only [zp, zo, zq] at h5239 a5240 a5241 h5242 xq22 w5243 a5245 a5246 h5247 w5263 w5264 w5266 w5267 w5269 w5270 w5271 w5272 w5274 a5275 a5276 a5277 ⊢) <;> (try simp only [zz, Int32.reduceToInt, ne_eq] at h5239 a5240 a5241 h5242 xq22 w5243 a5245 a5246 h5247 w5263 w5264 w5266 w5267 w5269 w5270 w5271 w5272 w5274 a5275 a5276 a5277 ⊢) <;> (try simp (disch := omega) only [zb] at h5239 a5240 a5241 h5242 xq22 w5243 a5245 a5246 h5247 w5263 w5264 w5266 w5267 w5269 w5270 w5271 w5272 w5274 a5275 a5276 a5277 ⊢) <;> first | omega | ((try simp (disch := omega) only [zb] at h5239 a5240 a5241 h5242 xq22 w5243 a5245 a5246 h5247 w5263 w5264 w5266 w5267 w5269 w5270 w5271 w5272 w5274 a5275 a5276 a5277 ⊢) <;> omega))⟩
    · refine sw_sh (ci_sh c0 t_p0 rfl) ?_
      obtain ⟨q4, eq4, tq4⟩ := ci_ref c0 t_p0 2 (κ' := 12) rfl
      refine sw_onS eq4 ?_
      refine sw_ar (ci_sh c0 tq4 rfl) ?_
      refine sw_ib (by (try simp only [zp, zo, zq] at h5239 a5240 a5241 h5242 ⊢) <;> (try simp only [zz, Int32.reduceToInt, ne_eq] at h5239 a5240 a5241 h5242 ⊢) <;> (try simp (disch := omega) only [zb] at h5239 a5240 a5241 h5242 ⊢) <;> first | omega | ((try simp (disch := omega) only [zb] at h5239 a5240 a5241 h5242 ⊢) <;> omega)) ?_
      have a5278 := zi_and (p2 &&& 255) 127 (by decide)
      have a5279 := zi_and (p3 &&& 255) 127 (by decide)
      refine sw_ite (fun h5280 => ?_) (fun h5280 => ?_)
      · refine sw_onS eq4 ?_
        refine sw_ar (ci_sh c0 tq4 rfl) ?_
        refine sw_ib (by (try simp only [zp, zo, zq] at h5239 a5240 a5241 h5242 a5278 a5279 h5280 ⊢) <;> (try simp only [zz, Int32.reduceToInt, ne_eq] at h5239 a5240 a5241 h5242 a5278 a5279 h5280 ⊢) <;> (try simp (disch := omega) only [zb] at h5239 a5240 a5241 h5242 a5278 a5279 h5280 ⊢) <;> first | omega | ((try simp (disch := omega) only [zb] at h5239 a5240 a5241 h5242 a5278 a5279 h5280 ⊢) <;> omega)) ?_
        have cs16 := ci_wI c0 tq4 (j := (0 : Int32).toNatClampNeg) (v := -1) (kr_n rfl)
        have fs16 := fr_wI f0 tq4 (j := (0 : Int32).toNatClampNeg) (v := -1) rfl
        refine sw_let (fun s16 es16 => ?_)
        rw [es16] at cs16 fs16
        have w5281 : rdA s16 p0 1 1 = rdA σ0 p0 1 1 := by rw [← es16]; exact rdA_k c0 t_p0 (κ' := 11) rfl tq4 (by decide)
        have w5283 : rdA s16 p0 2 1 = rdA σ0 p0 2 1 := by rw [← es16]; exact rdA_j (by decide)
        have w5285 : rdA σ0 p0 2 1 = mm_I σ0 q4 ((1 : Int32)).toNatClampNeg := rdA_eq eq4
        have w5286 : rdA s16 p0 2 0 = -1 := by rw [← es16]; exact rdA_self eq4
        have w5287 : rdA s16 p0 1 0 = rdA σ0 p0 1 0 := by rw [← es16]; exact rdA_k c0 t_p0 (κ' := 11) rfl tq4 (by decide)
        have w5290 : rdA σ0 p0 2 0 = mm_I σ0 q4 ((0 : Int32)).toNatClampNeg := rdA_eq eq4
        have a5291 := zi_and p2 127 (by decide)
        have a5292 := zi_and p3 127 (by decide)
        have a5293 := zi_and p2 8 (by decide)
        exact sw_some ⟨cs16, fs16, (by (try simp only [zp, zo, zq] at h5239 a5240 a5241 h5242 a5278 a5279 h5280 w5281 w5283 w5285 w5286 w5287 w5290 a5291 a5292 a5293 ⊢) <;> (try simp only [zz, Int32.reduceToInt, ne_eq] at h5239 a5240 a5241 h5242 a5278 a5279 h5280 w5281 w5283 w5285 w5286 w5287 w5290 a5291 a5292 a5293 ⊢) <;> (try simp (disch := omega) only [zb] at h5239 a5240 a5241 h5242 a5278 a5279 h5280 w5281 w5283 w5285 w5286 w5287 w5290 a5291 a5292 a5293 ⊢) <;> first | omega | ((try simp (disch := omega) only [zb] at h5239 a5240 a5241 h5242 a5278 a5279 h5280 w5281 w5283 w5285 w5286 w5287 w5290 a5291 a5292 a5293 ⊢) <;> omega))⟩
      · refine sw_onS eq4 ?_
        refine sw_ar (ci_sh c0 tq4 rfl) ?_
        refine sw_ib (by (try simp only [zp, zo, zq] at h5239 a5240 a5241 h5242 a5278 a5279 h5280 ⊢) <;> (try simp only [zz, Int32.reduceToInt, ne_eq] at h5239 a5240 a5241 h5242 a5278 a5279 h5280 ⊢) <;> (try simp (disch := omega) only [zb] at h5239 a5240 a5241 h5242 a5278 a5279 h5280 ⊢) <;> first | omega | ((try simp (disch := omega) only [zb] at h5239 a5240 a5241 h5242 a5278 a5279 h5280 ⊢) <;> omega)) ?_
        have cs11 := ci_wI c0 tq4 (j := (0 : Int32).toNatClampNeg) (v := (((p2 &&& 255) &&& 127) * 128) + ((p3 &&& 255) &&& 127)) (kr_n rfl)
        have fs11 := fr_wI f0 tq4 (j := (0 : Int32).toNatClampNeg) (v := (((p2 &&& 255) &&& 127) * 128) + ((p3 &&& 255) &&& 127)) rfl
        refine sw_let (fun s11 es11 => ?_)
        rw [es11] at cs11 fs11
        refine sw_on (uX8_takeCode_f0 cs11 t_p0  ) ?_
        intro q12 hqq12
        obtain ⟨cq12, gq12, xq12⟩ := hqq12
        have fq12 := fr_trans fs11 gq12 rfl
        have w5296 : rdA s11 p0 1 1 = rdA σ0 p0 1 1 := by rw [← es11]; exact rdA_k c0 t_p0 (κ' := 11) rfl tq4 (by decide)
        have a5298 := zi_and ((p2 &&& 255) &&& 127) 8 (by decide)
        have w5299 := rdA_fr (k := 2) (j := 1) gq12 cs11 t_p0 (κ' := 12) rfl rfl rfl
        have w5300 : rdA s11 p0 2 1 = rdA σ0 p0 2 1 := by rw [← es11]; exact rdA_j (by decide)
        have w5302 : rdA σ0 p0 2 1 = mm_I σ0 q4 ((1 : Int32)).toNatClampNeg := rdA_eq eq4
        have w5303 := rdA_fr (k := 2) (j := 0) gq12 cs11 t_p0 (κ' := 12) rfl rfl rfl
        have w5304 : rdA s11 p0 2 0 = (((p2 &&& 255) &&& 127) * 128) + ((p3 &&& 255) &&& 127) := by rw [← es11]; exact rdA_self eq4
        have w5307 : rdA σ0 p0 2 0 = mm_I σ0 q4 ((0 : Int32)).toNatClampNeg := rdA_eq eq4
        have a5308 := zi_and p2 127 (by decide)
        have a5309 := zi_and p3 127 (by decide)
        have a5310 := zi_and p2 8 (by decide)
        exact sw_some ⟨cq12, fq12, (by (try simp only [zp, zo, zq] at h5239 a5240 a5241 h5242 a5278 a5279 h5280 xq12 w5296 a5298 w5299 w5300 w5302 w5303 w5304 w5307 a5308 a5309 a5310 ⊢) <;> (try simp only [zz, Int32.reduceToInt, ne_eq] at h5239 a5240 a5241 h5242 a5278 a5279 h5280 xq12 w5296 a5298 w5299 w5300 w5302 w5303 w5304 w5307 a5308 a5309 a5310 ⊢) <;> (try simp (disch := omega) only [zb] at h5239 a5240 a5241 h5242 a5278 a5279 h5280 xq12 w5296 a5298 w5299 w5300 w5302 w5303 w5304 w5307 a5308 a5309 a5310 ⊢) <;> first | omega | ((try simp (disch := omega) only [zb] at h5239 a5240 a5241 h5242 a5278 a5279 h5280 xq12 w5296 a5298 w5299 w5300 w5302 w5303 w5304 w5307 a5308 a5309 a5310 ⊢) <;> omega))⟩
  · have a5315 := zi_and p2 127 (by decide)
    have a5316 := zi_and p3 127 (by decide)
    have a5317 := zi_and p2 8 (by decide)
    exact sw_some ⟨c0, f0, (by (try simp only [zp, zo, zq] at h5239 a5315 a5316 a5317 ⊢) <;> (try simp only [zz, Int32.reduceToInt, ne_eq] at h5239 a5315 a5316 a5317 ⊢) <;> (try simp (disch := omega) only [zb] at h5239 a5315 a5316 a5317 ⊢) <;> first | omega | ((try simp (disch := omega) only [zb] at h5239 a5315 a5316 a5317 ⊢) <;> omega))⟩
abbrev UX9_pair_f0 : List Nat := [51, 52, 53, 54, 55, 56, 57, 58, 59, 60, 92, 93, 900]
