set_option maxHeartbeats 4000000 in
set_option maxRecDepth 10000 in
theorem uX8_channel {T : Nat → Option Nat} {σ0 : mm_M} {p0 : Nat} {p1 : Int32} (c0 : sCI T σ0) (t_p0 : T p0 = some 8) : sw (fX8_channel p0 p1 σ0) (fun R => sCI T R.2 ∧ sFR T UX8_channel σ0 R.2 ∧ (((0 ≤ p1.toInt ∧ p1.toInt ≤ 1) ∧ oi R.1 = (rdA σ0 p0 1 p1.toNatClampNeg).toInt) ∨ (¬ (0 ≤ p1.toInt ∧ p1.toInt ≤ 1) ∧ oi R.1 = -9999999999))) := by
  have f0 : sFR T UX8_channel σ0 σ0 := fr_refl
  unfold fX8_channel
  refine sw_ite (fun h16686 => ?_) (fun h16686 => ?_)
  · refine sw_sh (ci_sh c0 t_p0 rfl) ?_
    obtain ⟨q3, eq3, tq3⟩ := ci_ref c0 t_p0 1 (κ' := 11) rfl
    refine sw_onS eq3 ?_
    refine sw_ar (ci_sh c0 tq3 rfl) ?_
    refine sw_ib (by (try simp only [zp, zo, zq] at h16686 ⊢) <;> (try simp only [zz, Int32.reduceToInt, ne_eq] at h16686 ⊢) <;> (try simp (disch := omega) only [zb] at h16686 ⊢) <;> first | omega | ((try simp (disch := omega) only [zb] at h16686 ⊢) <;> omega)) ?_
    have w16688 : rdA σ0 p0 1 p1.toNatClampNeg = mm_I σ0 q3 p1.toNatClampNeg := rdA_eq eq3
    exact sw_some ⟨c0, f0, (by (try simp only [zp, zo, zq] at h16686 w16688 ⊢) <;> (try simp only [zz, Int32.reduceToInt, ne_eq] at h16686 w16688 ⊢) <;> (try simp (disch := omega) only [zb] at h16686 w16688 ⊢) <;> first | omega | ((try simp (disch := omega) only [zb] at h16686 w16688 ⊢) <;> omega))⟩
  · exact sw_some ⟨c0, f0, (by (try simp only [zp, zo, zq] at h16686 ⊢) <;> (try simp only [zz, Int32.reduceToInt, ne_eq] at h16686 ⊢) <;> (try simp (disch := omega) only [zb] at h16686 ⊢) <;> first | omega | ((try simp (disch := omega) only [zb] at h16686 ⊢) <;> omega))⟩
abbrev UX9_channel : List Nat := [900]
set_option maxHeartbeats 4000000 in
set_option maxRecDepth 10000 in
theorem uX9_channel {T : Nat → Option Nat} {σ0 : mm_M} {p0 : Nat} {p1 : Int32} (c0 : sCI T σ0) (t_p0 : T p0 = some 9) : sw (fX9_channel p0 p1 σ0) (fun R => sCI T R.2 ∧ sFR T UX9_channel σ0 R.2 ∧ (((0 ≤ p1.toInt ∧ p1.toInt ≤ 1) ∧ R.1.toInt = (rdA σ0 p0 9 p1.toNatClampNeg).toInt ∧ (mm_I R.2 p0 0).toInt = 0) ∨ (¬ (0 ≤ p1.toInt ∧ p1.toInt ≤ 1) ∧ (mm_I R.2 p0 0).toInt = 1))) := by
  have f0 : sFR T UX9_channel σ0 σ0 := fr_refl
  unfold fX9_channel
  refine sw_sh (ci_sh c0 t_p0 rfl) ?_
  have u16690 := su_in p1 0 1
  refine sw_on (vX9_goes c0 t_p0 (by (try simp only [zp, zo, zq] at u16690 ⊢) <;> (try simp only [zz, Int32.reduceToInt, ne_eq] at u16690 ⊢) <;> (try simp (disch := omega) only [zb] at u16690 ⊢) <;> first | omega | ((try simp (disch := omega) only [zb] at u16690 ⊢) <;> omega)) ) ?_
  intro q2 hqq2
  obtain ⟨cq2, gq2, xq2⟩ := hqq2
  have fq2 := fr_trans f0 gq2 rfl
  refine sw_ite (fun h16691 => ?_) (fun h16691 => ?_)
  · exact sw_some ⟨cq2, fq2, (by (try simp only [zp, zo, zq] at u16690 xq2 h16691 ⊢) <;> (try simp only [zz, Int32.reduceToInt, ne_eq] at u16690 xq2 h16691 ⊢) <;> (try simp (disch := omega) only [zb] at u16690 xq2 h16691 ⊢) <;> first | omega | ((try simp (disch := omega) only [zb] at u16690 xq2 h16691 ⊢) <;> omega))⟩
  · refine sw_sh (ci_sh cq2 t_p0 rfl) ?_
    obtain ⟨q5, eq5, tq5⟩ := ci_ref cq2 t_p0 9 (κ' := 59) rfl
    refine sw_onS eq5 ?_
    refine sw_ar (ci_sh cq2 tq5 rfl) ?_
    refine sw_ib (by (try simp only [zp, zo, zq] at u16690 xq2 h16691 ⊢) <;> (try simp only [zz, Int32.reduceToInt, ne_eq] at u16690 xq2 h16691 ⊢) <;> (try simp (disch := omega) only [zb] at u16690 xq2 h16691 ⊢) <;> first | omega | ((try simp (disch := omega) only [zb] at u16690 xq2 h16691 ⊢) <;> omega)) ?_
    have w16694 := (gq2.2.2 _ _ tq5 p1.toNatClampNeg rfl).1
    have r16695 := ci_rg c0 tq5 p1.toNatClampNeg (lo := (-1)) (hi := 3) rfl
    have r16696 := ci_rg cq2 tq5 p1.toNatClampNeg (lo := (-1)) (hi := 3) rfl
    have w16700 : rdA q2.2 p0 9 p1.toNatClampNeg = mm_I q2.2 q5 p1.toNatClampNeg := rdA_eq eq5
    have w16699 := rdA_fr (k := 9) (j := p1.toNatClampNeg) gq2 c0 t_p0 (κ' := 59) rfl rfl rfl
    exact sw_some ⟨cq2, fq2, (by (try simp only [zp, zo, zq] at u16690 xq2 h16691 w16694 r16695 r16696 w16700 w16699 ⊢) <;> (try simp only [zz, Int32.reduceToInt, ne_eq] at u16690 xq2 h16691 w16694 r16695 r16696 w16700 w16699 ⊢) <;> (try simp (disch := omega) only [zb] at u16690 xq2 h16691 w16694 r16695 r16696 w16700 w16699 ⊢) <;> first | omega | ((try simp (disch := omega) only [zb] at u16690 xq2 h16691 w16694 r16695 r16696 w16700 w16699 ⊢) <;> omega))⟩
set_option maxHeartbeats 4000000 in
set_option maxRecDepth 10000 in
theorem uX8_pair_f9 {T : Nat → Option Nat} {σ0 : mm_M} {p0 : Nat} {p1 : Int32} {p2 : Int32} {p3 : Int32} (c0 : sCI T σ0) (t_p0 : T p0 = some 8) (p_0 : ¬ (0 ≤ p1.toInt ∧ p1.toInt ≤ 1)) : sw (fX8_pair p0 p1 p2 p3 σ0) (fun R => R.2 = σ0 ∧ (oi R.1 = -9999999999)) := by
  unfold fX8_pair
  refine sw_ite (fun h16701 => ?_) (fun h16701 => ?_)
  · exfalso; exact (by (try simp only [zp, zo, zq] at p_0 h16701 ⊢) <;> (try simp only [zz, Int32.reduceToInt, ne_eq] at p_0 h16701 ⊢) <;> (try simp (disch := omega) only [zb] at p_0 h16701 ⊢) <;> first | omega | ((try simp (disch := omega) only [zb] at p_0 h16701 ⊢) <;> omega))
  · exact sw_some ⟨rfl, (by (try simp only [zp, zo, zq] at p_0 h16701 ⊢) <;> (try simp only [zz, Int32.reduceToInt, ne_eq] at p_0 h16701 ⊢) <;> (try simp (disch := omega) only [zb] at p_0 h16701 ⊢) <;> first | omega | ((try simp (disch := omega) only [zb] at p_0 h16701 ⊢) <;> omega))⟩
abbrev UX9_pair_f9 : List Nat := [900]
set_option maxHeartbeats 4000000 in
set_option maxRecDepth 10000 in
theorem uX9_pair_f9 {T : Nat → Option Nat} {σ0 : mm_M} {p0 : Nat} {p1 : Int32} {p2 : Int32} {p3 : Int32} (c0 : sCI T σ0) (t_p0 : T p0 = some 9) (p_0 : ¬ (0 ≤ p1.toInt ∧ p1.toInt ≤ 1)) : sw (fX9_pair p0 p1 p2 p3 σ0) (fun R => sCI T R.2 ∧ sFR T UX9_pair_f9 σ0 R.2 ∧ ((mm_I R.2 p0 0).toInt = 1)) := by
  have f0 : sFR T UX9_pair_f9 σ0 σ0 := fr_refl
  unfold fX9_pair
  refine sw_sh (ci_sh c0 t_p0 rfl) ?_
  have u16702 := su_in p1 0 1
  refine sw_on (vX9_goes c0 t_p0 (by (try simp only [zp, zo, zq] at p_0 u16702 ⊢) <;> (try simp only [zz, Int32.reduceToInt, ne_eq] at p_0 u16702 ⊢) <;> (try simp (disch := omega) only [zb] at p_0 u16702 ⊢) <;> first | omega | ((try simp (disch := omega) only [zb] at p_0 u16702 ⊢) <;> omega)) ) ?_
  intro q2 hqq2
  obtain ⟨cq2, gq2, xq2⟩ := hqq2
  have fq2 := fr_trans f0 gq2 rfl
  refine sw_ite (fun h16703 => ?_) (fun h16703 => ?_)
  · exact sw_some ⟨cq2, fq2, (by (try simp only [zp, zo, zq] at p_0 u16702 xq2 h16703 ⊢) <;> (try simp only [zz, Int32.reduceToInt, ne_eq] at p_0 u16702 xq2 h16703 ⊢) <;> (try simp (disch := omega) only [zb] at p_0 u16702 xq2 h16703 ⊢) <;> first | omega | ((try simp (disch := omega) only [zb] at p_0 u16702 xq2 h16703 ⊢) <;> omega))⟩
  · exfalso; exact (by (try simp only [zp, zo, zq] at p_0 u16702 xq2 h16703 ⊢) <;> (try simp only [zz, Int32.reduceToInt, ne_eq] at p_0 u16702 xq2 h16703 ⊢) <;> (try simp (disch := omega) only [zb] at p_0 u16702 xq2 h16703 ⊢) <;> first | omega | ((try simp (disch := omega) only [zb] at p_0 u16702 xq2 h16703 ⊢) <;> omega))
