theorem su_gv (x : Int32) : 0 ≤ (fX8_guardedValue x).toInt ∧ (fX8_guardedValue x).toInt ≤ 15 := by
  unfold fX8_guardedValue
  have h1 := zi_and (x >>> ((1 : Int32) &&& 31)) 1 (by decide)
  have h2 := zi_and (x >>> ((2 : Int32) &&& 31)) 2 (by decide)
  have h3 := zi_and (x >>> ((3 : Int32) &&& 31)) 4 (by decide)
  have h4 := zi_and (x >>> ((4 : Int32) &&& 31)) 8 (by decide)
  generalize (x >>> ((1 : Int32) &&& 31)) &&& 1 = a at *
  generalize (x >>> ((2 : Int32) &&& 31)) &&& 2 = b at *
  generalize (x >>> ((3 : Int32) &&& 31)) &&& 4 = c at *
  generalize (x >>> ((4 : Int32) &&& 31)) &&& 8 = d at *
  simp only [zi_add, Int.bmod_add_bmod, Int.add_bmod_bmod, Int32.reduceToInt] at *
  rw [zi_bm (by omega) (by omega)]
  omega
theorem su_rows : ∀ n : Nat, n < 8 → 1 ≤ (([11, 1, 3, 12, 14, 5, 7, 9] : List Int32).getD n 0).toInt ∧ (([11, 1, 3, 12, 14, 5, 7, 9] : List Int32).getD n 0).toInt ≤ 14 := by decide
theorem cp_fits {v : Int32} (h : 0 ≤ v.toInt ∧ v.toInt ≤ 1) : fits .boolean (.int v) = true := by
  have : v = 0 ∨ v = 1 := by
    simp only [zi_eq, Int32.reduceToInt]; omega
  rcases this with rfl | rfl <;> rfl
theorem cp_rg {T : Nat → Option Nat} {σ : mm_M} {a b sp dp n : Nat} (c : sCI T σ) (t : T a = some 23) (t' : T b = some 23) (j : Nat) : kr 23 j (va_cpy (mm_I σ a) (mm_I σ b) sp dp n j) := by
  refine kr_s (lo := 0) (hi := 1) rfl ?_
  unfold va_cpy
  split
  · exact ci_rg c t _ (lo := 0) (hi := 1) rfl
  · exact ci_rg c t' _ (lo := 0) (hi := 1) rfl

set_option maxHeartbeats 4000000 in
set_option maxRecDepth 10000 in
theorem sX0_putScreen {T : Nat → Option Nat} {σ0 : mm_M} {p0 : Nat} (c0 : sCI T σ0) (t_p0 : T p0 = some 0) : sw (fX0_putScreen p0 σ0) (fun R => R.2 = σ0 ∧ (∀ q, R.1 = some q → T q = some 5)) := by
  unfold fX0_putScreen
  refine sw_sh (ci_sh c0 t_p0 rfl) ?_
  refine sw_ite (fun h1 => ?_) (fun h1 => ?_)
  · exact sw_some ⟨rfl, (fun q e => by obtain ⟨q1, e1, t1⟩ := ci_ref c0 t_p0 1 (κ' := 5) rfl; rw [e1] at e; cases e; exact t1)⟩
  · refine sw_ite (fun h2 => ?_) (fun h2 => ?_)
    · exact sw_some ⟨rfl, (fun q e => by obtain ⟨q1, e1, t1⟩ := ci_ref c0 t_p0 0 (κ' := 5) rfl; rw [e1] at e; cases e; exact t1)⟩
    · refine sw_ite (fun h3 => ?_) (fun h3 => ?_)
      · exact sw_some ⟨rfl, (fun q e => by obtain ⟨q1, e1, t1⟩ := ci_ref c0 t_p0 0 (κ' := 5) rfl; rw [e1] at e; cases e; exact t1)⟩
      · exact sw_some ⟨rfl, (fun q e => by cases e)⟩
abbrev KX0_skipColumns : List Nat := [0]
set_option maxHeartbeats 4000000 in
set_option maxRecDepth 10000 in
theorem sX0_skipColumns {T : Nat → Option Nat} {σ0 : mm_M} {p0 : Nat} {p1 : Int32} (c0 : sCI T σ0) (t_p0 : T p0 = some 0) : sw (fX0_skipColumns p0 p1 σ0) (fun R => sCI T R ∧ sFR T KX0_skipColumns σ0 R ∧ (True)) := by
  have f0 : sFR T KX0_skipColumns σ0 σ0 := fr_refl
  unfold fX0_skipColumns
  refine sw_sh (ci_sh c0 t_p0 rfl) ?_
  refine sw_ite (fun h4 => ?_) (fun h4 => ?_)
  · exact sw_some ⟨c0, f0, trivial⟩
  · have cs3 := ci_wI c0 t_p0 (j := 4) (v := if 31 < ((mm_I σ0 p0 4) + p1) then 31 else ((mm_I σ0 p0 4) + p1)) (kr_n rfl)
    have fs3 := fr_wI f0 t_p0 (j := 4) (v := if 31 < ((mm_I σ0 p0 4) + p1) then 31 else ((mm_I σ0 p0 4) + p1)) rfl
    refine sw_let (fun s3 es3 => ?_)
    rw [es3] at cs3 fs3
    exact sw_some ⟨cs3, fs3, trivial⟩
abbrev KX0_changeScreens : List Nat := [0]
set_option maxHeartbeats 4000000 in
set_option maxRecDepth 10000 in
theorem sX0_changeScreens {T : Nat → Option Nat} {σ0 : mm_M} {p0 : Nat} (c0 : sCI T σ0) (t_p0 : T p0 = some 0) : sw (fX0_changeScreens p0 σ0) (fun R => sCI T R ∧ sFR T KX0_changeScreens σ0 R ∧ (True)) := by
  have f0 : sFR T KX0_changeScreens σ0 σ0 := fr_refl
  unfold fX0_changeScreens
  refine sw_sh (ci_sh c0 t_p0 rfl) ?_
  have cs2 := ci_wR c0 t_p0 (k := 0) (v := mm_R σ0 p0 1) (fun κ' h => by cases h; exact ci_ref c0 t_p0 1 rfl) (fun κ' h => by cases h)
  have fs2 := fr_wR f0 t_p0 (k := 0) (v := mm_R σ0 p0 1) rfl
  refine sw_let (fun s2 es2 => ?_)
  rw [es2] at cs2 fs2
  have cs3 := ci_wR cs2 t_p0 (k := 1) (v := mm_R σ0 p0 0) (fun κ' h => by cases h; exact ci_ref c0 t_p0 0 rfl) (fun κ' h => by cases h)
  have fs3 := fr_wR fs2 t_p0 (k := 1) (v := mm_R σ0 p0 0) rfl
  refine sw_let (fun s3 es3 => ?_)
  rw [es3] at cs3 fs3
  have cs4 := ci_wI cs3 t_p0 (j := 2) (v := 1) (kr_n rfl)
  have fs4 := fr_wI fs3 t_p0 (j := 2) (v := 1) rfl
  refine sw_let (fun s4 es4 => ?_)
  rw [es4] at cs4 fs4
  exact sw_some ⟨cs4, fs4, trivial⟩
abbrev KX2_addByte : List Nat := [2, 26]
set_option maxHeartbeats 4000000 in
set_option maxRecDepth 10000 in
theorem sX2_addByte {T : Nat → Option Nat} {σ0 : mm_M} {p0 : Nat} {p1 : Int32} (c0 : sCI T σ0) (t_p0 : T p0 = some 2) : sw (fX2_addByte p0 p1 σ0) (fun R => sCI T R ∧ sFR T KX2_addByte σ0 R ∧ (True)) := by
  have f0 : sFR T KX2_addByte σ0 σ0 := fr_refl
  unfold fX2_addByte
  refine sw_sh (ci_sh c0 t_p0 rfl) ?_
  have r5 := ci_rg c0 t_p0 1 (lo := 0) (hi := 400) rfl
  refine sw_ite (fun h6 => ?_) (fun h6 => ?_)
  · exact sw_some ⟨c0, f0, trivial⟩
  · obtain ⟨q3, eq3, tq3⟩ := ci_ref c0 t_p0 0 (κ' := 26) rfl
    refine sw_onS eq3 ?_
    refine sw_ar (ci_sh c0 tq3 rfl) ?_
    refine sw_ib (by (try simp only [zp] at r5 h6 ⊢) <;> (try simp only [zz, Int32.reduceToInt, ne_eq] at r5 h6 ⊢) <;> (try simp (disch := omega) only [zb] at r5 h6 ⊢) <;> first | omega | ((try simp (disch := omega) only [zb] at r5 h6 ⊢) <;> omega)) ?_
    have cs6 := ci_wI c0 tq3 (j := (mm_I σ0 p0 1).toNatClampNeg) (v := p1) (kr_n rfl)
    have fs6 := fr_wI f0 tq3 (j := (mm_I σ0 p0 1).toNatClampNeg) (v := p1) rfl
    refine sw_let (fun s6 es6 => ?_)
    rw [es6] at cs6 fs6
    have w7 : mm_I s6 p0 1 = mm_I σ0 p0 1 := by rw [← es6]; exact rd_k t_p0 tq3 (by decide)
    have r8 := ci_rg cs6 t_p0 1 (lo := 0) (hi := 400) rfl
    have cs7 := ci_wI cs6 t_p0 (j := 1) (v := (mm_I s6 p0 1) + 1) (kr_s (lo := 0) (hi := 400) rfl (by (try simp only [zp] at r5 h6 w7 r8 ⊢) <;> (try simp only [zz, Int32.reduceToInt, ne_eq] at r5 h6 w7 r8 ⊢) <;> (try simp (disch := omega) only [zb] at r5 h6 w7 r8 ⊢) <;> first | omega | ((try simp (disch := omega) only [zb] at r5 h6 w7 r8 ⊢) <;> omega)))
    have fs7 := fr_wI fs6 t_p0 (j := 1) (v := (mm_I s6 p0 1) + 1) rfl
    refine sw_let (fun s7 es7 => ?_)
    rw [es7] at cs7 fs7
    exact sw_some ⟨cs7, fs7, trivial⟩
set_option maxHeartbeats 4000000 in
set_option maxRecDepth 10000 in
theorem sX2_areThose_13 {T : Nat → Option Nat} {σ0 : mm_M} : ∀ (n : Nat) (a0 : Nat) (a1 : Nat) (x2 : Int32), sCI T σ0 → (T a0 = some 2) → (T a1 = some 27) → (0 ≤ x2.toInt ∧ x2.toInt ≤ 400) → 400 - x2.toInt < (n : Int) → sw (fX2_areThose_13 n a0 a1 x2 σ0) (fun R => R.2 = σ0 ∧ (True)) := by
  intro n
  induction n with
  | zero => intro a0 a1 x2 c0 t_a0 t_a1 p_0 hn; exfalso; exact (by (try simp only [zp] at p_0 hn ⊢) <;> (try simp only [zz, Int32.reduceToInt, ne_eq] at p_0 hn ⊢) <;> (try simp (disch := omega) only [zb] at p_0 hn ⊢) <;> first | omega | ((try simp (disch := omega) only [zb] at p_0 hn ⊢) <;> omega))
  | succ n ih =>
    intro a0 a1 x2 c0 t_a0 t_a1 p_0 hn
    unfold fX2_areThose_13
    obtain ⟨n4, hn9, ehn9⟩ := ci_sh27 c0 t_a1
    refine sw_ar ehn9 ?_
    refine sw_ite (fun h10 => ?_) (fun h10 => ?_)
    · exact sw_some ⟨rfl, trivial⟩
    · refine sw_ite (fun h11 => ?_) (fun h11 => ?_)
      · exact sw_some ⟨rfl, trivial⟩
      · refine sw_sh (ci_sh c0 t_a0 rfl) ?_
        obtain ⟨q8, eq8, tq8⟩ := ci_ref c0 t_a0 0 (κ' := 26) rfl
        refine sw_onS eq8 ?_
        refine sw_ar (ci_sh c0 tq8 rfl) ?_
        refine sw_ib (by (try simp only [zp] at p_0 hn hn9 h10 h11 ⊢) <;> (try simp only [zz, Int32.reduceToInt, ne_eq] at p_0 hn hn9 h10 h11 ⊢) <;> (try simp (disch := omega) only [zb] at p_0 hn hn9 h10 h11 ⊢) <;> first | omega | ((try simp (disch := omega) only [zb] at p_0 hn hn9 h10 h11 ⊢) <;> omega)) ?_
        refine sw_ib (by (try simp only [zp] at p_0 hn hn9 h10 h11 ⊢) <;> (try simp only [zz, Int32.reduceToInt, ne_eq] at p_0 hn hn9 h10 h11 ⊢) <;> (try simp (disch := omega) only [zb] at p_0 hn hn9 h10 h11 ⊢) <;> first | omega | ((try simp (disch := omega) only [zb] at p_0 hn hn9 h10 h11 ⊢) <;> omega)) ?_
        refine sw_ite (fun h12 => ?_) (fun h12 => ?_)
        · exact ih a0 a1 (x2 + 1) c0 t_a0 t_a1 (by (try simp only [zp] at p_0 hn hn9 h10 h11 h12 ⊢) <;> (try simp only [zz, Int32.reduceToInt, ne_eq] at p_0 hn hn9 h10 h11 h12 ⊢) <;> (try simp (disch := omega) only [zb] at p_0 hn hn9 h10 h11 h12 ⊢) <;> first | omega | ((try simp (disch := omega) only [zb] at p_0 hn hn9 h10 h11 h12 ⊢) <;> omega)) (by (try simp only [zp] at p_0 hn hn9 h10 h11 h12 ⊢) <;> (try simp only [zz, Int32.reduceToInt, ne_eq] at p_0 hn hn9 h10 h11 h12 ⊢) <;> (try simp (disch := omega) only [zb] at p_0 hn hn9 h10 h11 h12 ⊢) <;> first | omega | ((try simp (disch := omega) only [zb] at p_0 hn hn9 h10 h11 h12 ⊢) <;> omega))
        · exact sw_some ⟨rfl, trivial⟩
set_option maxHeartbeats 4000000 in
set_option maxRecDepth 10000 in
theorem sX2_areThose {T : Nat → Option Nat} {σ0 : mm_M} {p0 : Nat} {p1 : Nat} (c0 : sCI T σ0) (t_p0 : T p0 = some 2) (t_p1 : T p1 = some 27) : sw (fX2_areThose p0 p1 σ0) (fun R => R.2 = σ0 ∧ (True)) := by
  unfold fX2_areThose
  obtain ⟨n1, hn13, ehn13⟩ := ci_sh27 c0 t_p1
  refine sw_ar ehn13 ?_
  refine sw_sh (ci_sh c0 t_p0 rfl) ?_
  have r14 := ci_rg c0 t_p0 1 (lo := 0) (hi := 400) rfl
  refine sw_ite (fun h15 => ?_) (fun h15 => ?_)
  · exact sX2_areThose_13 mm_fuel p0 p1 0 c0 t_p0 t_p1 (by (try simp only [zp] at hn13 r14 h15 ⊢) <;> (try simp only [zz, Int32.reduceToInt, ne_eq] at hn13 r14 h15 ⊢) <;> (try simp (disch := omega) only [zb] at hn13 r14 h15 ⊢) <;> first | omega | ((try simp (disch := omega) only [zb] at hn13 r14 h15 ⊢) <;> omega)) (by have hz : (mm_fuel : Int) = 2000 := rfl; rw [hz]; exact (by (try simp only [zp] at hn13 r14 h15 ⊢) <;> (try simp only [zz, Int32.reduceToInt, ne_eq] at hn13 r14 h15 ⊢) <;> (try simp (disch := omega) only [zb] at hn13 r14 h15 ⊢) <;> first | omega | ((try simp (disch := omega) only [zb] at hn13 r14 h15 ⊢) <;> omega)))
  · exact sw_some ⟨rfl, trivial⟩
abbrev KX3_eraseLinks : List Nat := [24]
set_option maxHeartbeats 4000000 in
set_option maxRecDepth 10000 in
theorem sX3_eraseLinks_2 {T : Nat → Option Nat} {σ0 : mm_M} : ∀ (n : Nat) (a0 : Nat) (x1 : Int32) (σ : mm_M), sCI T σ → sFR T KX3_eraseLinks σ0 σ → (T a0 = some 3) → (0 ≤ x1.toInt ∧ x1.toInt ≤ 18) → 18 - x1.toInt < (n : Int) → sw (fX3_eraseLinks_2 n a0 x1 σ) (fun R => sCI T R ∧ sFR T KX3_eraseLinks σ0 R ∧ (True)) := by
  intro n
  induction n with
  | zero => intro a0 x1 σ c0 f0 t_a0 p_0 hn; exfalso; exact (by (try simp only [zp] at p_0 hn ⊢) <;> (try simp only [zz, Int32.reduceToInt, ne_eq] at p_0 hn ⊢) <;> (try simp (disch := omega) only [zb] at p_0 hn ⊢) <;> first | omega | ((try simp (disch := omega) only [zb] at p_0 hn ⊢) <;> omega))
  | succ n ih =>
    intro a0 x1 σ c0 f0 t_a0 p_0 hn
    unfold fX3_eraseLinks_2
    refine sw_sh (ci_sh c0 t_a0 rfl) ?_
    obtain ⟨q2, eq2, tq2⟩ := ci_ref c0 t_a0 1 (κ' := 24) rfl
    refine sw_onS eq2 ?_
    refine sw_ar (ci_sh c0 tq2 rfl) ?_
    refine sw_ite (fun h16 => ?_) (fun h16 => ?_)
    · exact sw_some ⟨c0, f0, trivial⟩
    · refine sw_onS eq2 ?_
      refine sw_ar (ci_sh c0 tq2 rfl) ?_
      refine sw_ib (by (try simp only [zp] at p_0 hn h16 ⊢) <;> (try simp only [zz, Int32.reduceToInt, ne_eq] at p_0 hn h16 ⊢) <;> (try simp (disch := omega) only [zb] at p_0 hn h16 ⊢) <;> first | omega | ((try simp (disch := omega) only [zb] at p_0 hn h16 ⊢) <;> omega)) ?_
      have cs8 := ci_wI c0 tq2 (j := x1.toNatClampNeg) (v := -1) (kr_n rfl)
      have fs8 := fr_wI f0 tq2 (j := x1.toNatClampNeg) (v := -1) rfl
      refine sw_let (fun s8 es8 => ?_)
      rw [es8] at cs8 fs8
      exact ih a0 (x1 + 1) s8 cs8 fs8 t_a0 (by (try simp only [zp] at p_0 hn h16 ⊢) <;> (try simp only [zz, Int32.reduceToInt, ne_eq] at p_0 hn h16 ⊢) <;> (try simp (disch := omega) only [zb] at p_0 hn h16 ⊢) <;> first | omega | ((try simp (disch := omega) only [zb] at p_0 hn h16 ⊢) <;> omega)) (by (try simp only [zp] at p_0 hn h16 ⊢) <;> (try simp only [zz, Int32.reduceToInt, ne_eq] at p_0 hn h16 ⊢) <;> (try simp (disch := omega) only [zb] at p_0 hn h16 ⊢) <;> first | omega | ((try simp (disch := omega) only [zb] at p_0 hn h16 ⊢) <;> omega))
set_option maxHeartbeats 4000000 in
set_option maxRecDepth 10000 in
theorem sX3_eraseLinks {T : Nat → Option Nat} {σ0 : mm_M} {p0 : Nat} (c0 : sCI T σ0) (t_p0 : T p0 = some 3) : sw (fX3_eraseLinks p0 σ0) (fun R => sCI T R ∧ sFR T KX3_eraseLinks σ0 R ∧ (True)) := by
  have f0 : sFR T KX3_eraseLinks σ0 σ0 := fr_refl
  unfold fX3_eraseLinks
  exact sX3_eraseLinks_2 mm_fuel p0 0 σ0 c0 f0 t_p0 (by (try simp only [zp] at ⊢) <;> (try simp only [zz, Int32.reduceToInt, ne_eq] at ⊢) <;> (try simp (disch := omega) only [zb] at ⊢) <;> first | omega | ((try simp (disch := omega) only [zb] at ⊢) <;> omega)) (by have hz : (mm_fuel : Int) = 2000 := rfl; rw [hz]; exact (by (try simp only [zp] at ⊢) <;> (try simp only [zz, Int32.reduceToInt, ne_eq] at ⊢) <;> (try simp (disch := omega) only [zb] at ⊢) <;> first | omega | ((try simp (disch := omega) only [zb] at ⊢) <;> omega)))
set_option maxHeartbeats 4000000 in
set_option maxRecDepth 10000 in
theorem sX3_hasName {T : Nat → Option Nat} {σ0 : mm_M} {p0 : Nat} {p1 : Int32} {p2 : Int32} {p3 : Int32} (c0 : sCI T σ0) (t_p0 : T p0 = some 3) : sw (fX3_hasName p0 p1 p2 p3 σ0) (fun R => R.2 = σ0 ∧ (True)) := by
  unfold fX3_hasName
  refine sw_sh (ci_sh c0 t_p0 rfl) ?_
  refine sw_ite (fun h17 => ?_) (fun h17 => ?_)
  · refine sw_ite (fun h18 => ?_) (fun h18 => ?_)
    · refine sw_ite (fun h19 => ?_) (fun h19 => ?_)
      · exact sw_some ⟨rfl, trivial⟩
      · refine sw_ite (fun h20 => ?_) (fun h20 => ?_)
        · exact sw_some ⟨rfl, trivial⟩
        · exact sw_some ⟨rfl, trivial⟩
    · exact sw_some ⟨rfl, trivial⟩
  · exact sw_some ⟨rfl, trivial⟩
abbrev KX4_setSigns : List Nat := [22]
set_option maxHeartbeats 4000000 in
set_option maxRecDepth 10000 in
theorem sX4_setSigns_3 {T : Nat → Option Nat} {σ0 : mm_M} : ∀ (n : Nat) (a0 : Nat) (x1 : Int32) (x2 : Int32) (x3 : Int32) (x4 : Int32) (σ : mm_M), sCI T σ → sFR T KX4_setSigns σ0 σ → (T a0 = some 4) → (0 ≤ x1.toInt ∧ x1.toInt ≤ 24) → (0 ≤ x4.toInt ∧ x4.toInt ≤ 40) → 40 - x4.toInt < (n : Int) → sw (fX4_setSigns_3 n a0 x1 x2 x3 x4 σ) (fun R => sCI T R ∧ sFR T KX4_setSigns σ0 R ∧ (True)) := by
  intro n
  induction n with
  | zero => intro a0 x1 x2 x3 x4 σ c0 f0 t_a0 p_0 p_1 hn; exfalso; exact (by (try simp only [zp] at p_0 p_1 hn ⊢) <;> (try simp only [zz, Int32.reduceToInt, ne_eq] at p_0 p_1 hn ⊢) <;> (try simp (disch := omega) only [zb] at p_0 p_1 hn ⊢) <;> first | omega | ((try simp (disch := omega) only [zb] at p_0 p_1 hn ⊢) <;> omega))
  | succ n ih =>
    intro a0 x1 x2 x3 x4 σ c0 f0 t_a0 p_0 p_1 hn
    unfold fX4_setSigns_3
    refine sw_ite (fun h21 => ?_) (fun h21 => ?_)
    · exact sw_some ⟨c0, f0, trivial⟩
    · refine sw_ite (fun h22 => ?_) (fun h22 => ?_)
      · exact sw_some ⟨c0, f0, trivial⟩
      · refine sw_sh (ci_sh c0 t_a0 rfl) ?_
        obtain ⟨q4, eq4, tq4⟩ := ci_ref c0 t_a0 0 (κ' := 22) rfl
        refine sw_onS eq4 ?_
        refine sw_ar (ci_sh c0 tq4 rfl) ?_
        refine sw_ib (by (try simp only [zp] at p_0 p_1 hn h21 h22 ⊢) <;> (try simp only [zz, Int32.reduceToInt, ne_eq] at p_0 p_1 hn h21 h22 ⊢) <;> (try simp (disch := omega) only [zb] at p_0 p_1 hn h21 h22 ⊢) <;> first | omega | ((try simp (disch := omega) only [zb] at p_0 p_1 hn h21 h22 ⊢) <;> omega)) ?_
        have cs7 := ci_wI c0 tq4 (j := ((x1 * 40) + x4).toNatClampNeg) (v := x3) (kr_n rfl)
        have fs7 := fr_wI f0 tq4 (j := ((x1 * 40) + x4).toNatClampNeg) (v := x3) rfl
        refine sw_let (fun s7 es7 => ?_)
        rw [es7] at cs7 fs7
        exact ih a0 x1 x2 x3 (x4 + 1) s7 cs7 fs7 t_a0 (by (try simp only [zp] at p_0 p_1 hn h21 h22 ⊢) <;> (try simp only [zz, Int32.reduceToInt, ne_eq] at p_0 p_1 hn h21 h22 ⊢) <;> (try simp (disch := omega) only [zb] at p_0 p_1 hn h21 h22 ⊢) <;> first | omega | ((try simp (disch := omega) only [zb] at p_0 p_1 hn h21 h22 ⊢) <;> omega)) (by (try simp only [zp] at p_0 p_1 hn h21 h22 ⊢) <;> (try simp only [zz, Int32.reduceToInt, ne_eq] at p_0 p_1 hn h21 h22 ⊢) <;> (try simp (disch := omega) only [zb] at p_0 p_1 hn h21 h22 ⊢) <;> first | omega | ((try simp (disch := omega) only [zb] at p_0 p_1 hn h21 h22 ⊢) <;> omega)) (by (try simp only [zp] at p_0 p_1 hn h21 h22 ⊢) <;> (try simp only [zz, Int32.reduceToInt, ne_eq] at p_0 p_1 hn h21 h22 ⊢) <;> (try simp (disch := omega) only [zb] at p_0 p_1 hn h21 h22 ⊢) <;> first | omega | ((try simp (disch := omega) only [zb] at p_0 p_1 hn h21 h22 ⊢) <;> omega))
set_option maxHeartbeats 4000000 in
set_option maxRecDepth 10000 in
theorem sX4_setSigns {T : Nat → Option Nat} {σ0 : mm_M} {p0 : Nat} {p1 : Int32} {p2 : Int32} {p3 : Int32} (c0 : sCI T σ0) (t_p0 : T p0 = some 4) (p_0 : 0 ≤ p1.toInt ∧ p1.toInt ≤ 24) : sw (fX4_setSigns p0 p1 p2 p3 σ0) (fun R => sCI T R ∧ sFR T KX4_setSigns σ0 R ∧ (True)) := by
  have f0 : sFR T KX4_setSigns σ0 σ0 := fr_refl
  unfold fX4_setSigns
  exact sX4_setSigns_3 mm_fuel p0 p1 p2 p3 0 σ0 c0 f0 t_p0 (by (try simp only [zp] at p_0 ⊢) <;> (try simp only [zz, Int32.reduceToInt, ne_eq] at p_0 ⊢) <;> (try simp (disch := omega) only [zb] at p_0 ⊢) <;> first | omega | ((try simp (disch := omega) only [zb] at p_0 ⊢) <;> omega)) (by (try simp only [zp] at p_0 ⊢) <;> (try simp only [zz, Int32.reduceToInt, ne_eq] at p_0 ⊢) <;> (try simp (disch := omega) only [zb] at p_0 ⊢) <;> first | omega | ((try simp (disch := omega) only [zb] at p_0 ⊢) <;> omega)) (by have hz : (mm_fuel : Int) = 2000 := rfl; rw [hz]; exact (by (try simp only [zp] at p_0 ⊢) <;> (try simp only [zz, Int32.reduceToInt, ne_eq] at p_0 ⊢) <;> (try simp (disch := omega) only [zb] at p_0 ⊢) <;> first | omega | ((try simp (disch := omega) only [zb] at p_0 ⊢) <;> omega)))
abbrev KX4_copyFrom : List Nat := [22, 23]
set_option maxHeartbeats 4000000 in
set_option maxRecDepth 10000 in
theorem sX4_copyFrom {T : Nat → Option Nat} {σ0 : mm_M} {p0 : Nat} {p1 : Nat} (c0 : sCI T σ0) (t_p0 : T p0 = some 4) (t_p1 : T p1 = some 4) : sw (fX4_copyFrom p0 p1 σ0) (fun R => sCI T R ∧ sFR T KX4_copyFrom σ0 R ∧ (True)) := by
  have f0 : sFR T KX4_copyFrom σ0 σ0 := fr_refl
  unfold fX4_copyFrom
  refine sw_sh (ci_sh c0 t_p1 rfl) ?_
  refine sw_sh (ci_sh c0 t_p0 rfl) ?_
  obtain ⟨q3, eq3, tq3⟩ := ci_ref c0 t_p0 0 (κ' := 22) rfl
  refine sw_onS eq3 ?_
  obtain ⟨q4, eq4, tq4⟩ := ci_ref c0 t_p1 0 (κ' := 22) rfl
  refine sw_onS eq4 ?_
  refine sw_ar (ci_sh c0 tq4 rfl) ?_
  refine sw_ar (ci_sh c0 tq3 rfl) ?_
  refine sw_ck ⟨by decide, by decide, by decide, by decide, by decide, fun _ _ => rfl⟩ ?_
  have cs8 := ci_wA c0 tq3 (f := va_cpy (mm_I σ0 q4) (mm_I σ0 q3) (0 : Int32).toNatClampNeg (0 : Int32).toNatClampNeg (1000 : Int32).toNatClampNeg) (fun _ => kr_n rfl)
  have fs8 := fr_wA f0 tq3 (g := va_cpy (mm_I σ0 q4) (mm_I σ0 q3) (0 : Int32).toNatClampNeg (0 : Int32).toNatClampNeg (1000 : Int32).toNatClampNeg) (fun _ => rfl)
  refine sw_let (fun s8 es8 => ?_)
  rw [es8] at cs8 fs8
  obtain ⟨q9, eq9, tq9⟩ := ci_ref cs8 t_p0 1 (κ' := 23) rfl
  refine sw_onS eq9 ?_
  obtain ⟨q10, eq10, tq10⟩ := ci_ref cs8 t_p1 1 (κ' := 23) rfl
  refine sw_onS eq10 ?_
  refine sw_ar (ci_sh cs8 tq10 rfl) ?_
  refine sw_ar (ci_sh cs8 tq9 rfl) ?_
  refine sw_ck ⟨by decide, by decide, by decide, by decide, by decide, fun i _ => cp_fits (ci_rg cs8 tq10 _ (lo := 0) (hi := 1) rfl)⟩ ?_
  have cs14 := ci_wA cs8 tq9 (f := va_cpy (mm_I s8 q10) (mm_I s8 q9) (0 : Int32).toNatClampNeg (0 : Int32).toNatClampNeg (25 : Int32).toNatClampNeg) (cp_rg cs8 tq10 tq9)
  have fs14 := fr_wA fs8 tq9 (g := va_cpy (mm_I s8 q10) (mm_I s8 q9) (0 : Int32).toNatClampNeg (0 : Int32).toNatClampNeg (25 : Int32).toNatClampNeg) (fun _ => rfl)
  refine sw_let (fun s14 es14 => ?_)
  rw [es14] at cs14 fs14
  exact sw_some ⟨cs14, fs14, trivial⟩
abbrev KX5_eraseCells : List Nat := [20, 21]
set_option maxHeartbeats 4000000 in
set_option maxRecDepth 10000 in
theorem sX5_eraseCells_2 {T : Nat → Option Nat} {σ0 : mm_M} : ∀ (n : Nat) (a0 : Nat) (x1 : Int32) (x2 : Int32) (x3 : Int32) (σ : mm_M), sCI T σ → sFR T KX5_eraseCells σ0 σ → (T a0 = some 5) → (0 ≤ x3.toInt ∧ x3.toInt ≤ 480) → 480 - x3.toInt < (n : Int) → sw (fX5_eraseCells_2 n a0 x1 x2 x3 σ) (fun R => sCI T R ∧ sFR T KX5_eraseCells σ0 R ∧ (True)) := by
  intro n
  induction n with
  | zero => intro a0 x1 x2 x3 σ c0 f0 t_a0 p_0 hn; exfalso; exact (by (try simp only [zp] at p_0 hn ⊢) <;> (try simp only [zz, Int32.reduceToInt, ne_eq] at p_0 hn ⊢) <;> (try simp (disch := omega) only [zb] at p_0 hn ⊢) <;> first | omega | ((try simp (disch := omega) only [zb] at p_0 hn ⊢) <;> omega))
  | succ n ih =>
    intro a0 x1 x2 x3 σ c0 f0 t_a0 p_0 hn
    unfold fX5_eraseCells_2
    refine sw_ite (fun h23 => ?_) (fun h23 => ?_)
    · exact sw_some ⟨c0, f0, trivial⟩
    · refine sw_ite (fun h24 => ?_) (fun h24 => ?_)
      · exact sw_some ⟨c0, f0, trivial⟩
      · refine sw_ite (fun h25 => ?_) (fun h25 => ?_)
        · exact sw_some ⟨c0, f0, trivial⟩
        · refine sw_sh (ci_sh c0 t_a0 rfl) ?_
          obtain ⟨q5, eq5, tq5⟩ := ci_ref c0 t_a0 0 (κ' := 20) rfl
          refine sw_onS eq5 ?_
          refine sw_ar (ci_sh c0 tq5 rfl) ?_
          refine sw_ib (by (try simp only [zp] at p_0 hn h23 h24 h25 ⊢) <;> (try simp only [zz, Int32.reduceToInt, ne_eq] at p_0 hn h23 h24 h25 ⊢) <;> (try simp (disch := omega) only [zb] at p_0 hn h23 h24 h25 ⊢) <;> first | omega | ((try simp (disch := omega) only [zb] at p_0 hn h23 h24 h25 ⊢) <;> omega)) ?_
          have cs8 := ci_wI c0 tq5 (j := x3.toNatClampNeg) (v := 0) (kr_n rfl)
          have fs8 := fr_wI f0 tq5 (j := x3.toNatClampNeg) (v := 0) rfl
          refine sw_let (fun s8 es8 => ?_)
          rw [es8] at cs8 fs8
          obtain ⟨q9, eq9, tq9⟩ := ci_ref cs8 t_a0 1 (κ' := 21) rfl
          refine sw_onS eq9 ?_
          refine sw_ar (ci_sh cs8 tq9 rfl) ?_
          refine sw_ib (by (try simp only [zp] at p_0 hn h23 h24 h25 ⊢) <;> (try simp only [zz, Int32.reduceToInt, ne_eq] at p_0 hn h23 h24 h25 ⊢) <;> (try simp (disch := omega) only [zb] at p_0 hn h23 h24 h25 ⊢) <;> first | omega | ((try simp (disch := omega) only [zb] at p_0 hn h23 h24 h25 ⊢) <;> omega)) ?_
          have cs12 := ci_wI cs8 tq9 (j := x3.toNatClampNeg) (v := 0) (kr_n rfl)
          have fs12 := fr_wI fs8 tq9 (j := x3.toNatClampNeg) (v := 0) rfl
          refine sw_let (fun s12 es12 => ?_)
          rw [es12] at cs12 fs12
          exact ih a0 x1 x2 (x3 + 1) s12 cs12 fs12 t_a0 (by (try simp only [zp] at p_0 hn h23 h24 h25 ⊢) <;> (try simp only [zz, Int32.reduceToInt, ne_eq] at p_0 hn h23 h24 h25 ⊢) <;> (try simp (disch := omega) only [zb] at p_0 hn h23 h24 h25 ⊢) <;> first | omega | ((try simp (disch := omega) only [zb] at p_0 hn h23 h24 h25 ⊢) <;> omega)) (by (try simp only [zp] at p_0 hn h23 h24 h25 ⊢) <;> (try simp only [zz, Int32.reduceToInt, ne_eq] at p_0 hn h23 h24 h25 ⊢) <;> (try simp (disch := omega) only [zb] at p_0 hn h23 h24 h25 ⊢) <;> first | omega | ((try simp (disch := omega) only [zb] at p_0 hn h23 h24 h25 ⊢) <;> omega))
set_option maxHeartbeats 4000000 in
set_option maxRecDepth 10000 in
theorem sX5_eraseCells {T : Nat → Option Nat} {σ0 : mm_M} {p0 : Nat} {p1 : Int32} {p2 : Int32} (c0 : sCI T σ0) (t_p0 : T p0 = some 5) (p_0 : 0 ≤ p1.toInt ∧ p1.toInt ≤ 480) : sw (fX5_eraseCells p0 p1 p2 σ0) (fun R => sCI T R ∧ sFR T KX5_eraseCells σ0 R ∧ (True)) := by
  have f0 : sFR T KX5_eraseCells σ0 σ0 := fr_refl
  unfold fX5_eraseCells
  exact sX5_eraseCells_2 mm_fuel p0 p1 p2 p1 σ0 c0 f0 t_p0 (by (try simp only [zp] at p_0 ⊢) <;> (try simp only [zz, Int32.reduceToInt, ne_eq] at p_0 ⊢) <;> (try simp (disch := omega) only [zb] at p_0 ⊢) <;> first | omega | ((try simp (disch := omega) only [zb] at p_0 ⊢) <;> omega)) (by have hz : (mm_fuel : Int) = 2000 := rfl; rw [hz]; exact (by (try simp only [zp] at p_0 ⊢) <;> (try simp only [zz, Int32.reduceToInt, ne_eq] at p_0 ⊢) <;> (try simp (disch := omega) only [zb] at p_0 ⊢) <;> first | omega | ((try simp (disch := omega) only [zb] at p_0 ⊢) <;> omega)))
abbrev KX4_signAt : List Nat := []
set_option maxHeartbeats 4000000 in
set_option maxRecDepth 10000 in
theorem sX4_signAt {T : Nat → Option Nat} {σ0 : mm_M} {p0 : Nat} {p1 : Int32} {p2 : Int32} (c0 : sCI T σ0) (t_p0 : T p0 = some 4) : sw (fX4_signAt p0 p1 p2 σ0) (fun R => sCI T R.2 ∧ sFR T KX4_signAt σ0 R.2 ∧ (True)) := by
  have f0 : sFR T KX4_signAt σ0 σ0 := fr_refl
  unfold fX4_signAt
  refine sw_ite (fun h26 => ?_) (fun h26 => ?_)
  · refine sw_ite (fun h27 => ?_) (fun h27 => ?_)
    · refine sw_sh (ci_sh c0 t_p0 rfl) ?_
      obtain ⟨q4, eq4, tq4⟩ := ci_ref c0 t_p0 0 (κ' := 22) rfl
      refine sw_onS eq4 ?_
      refine sw_ar (ci_sh c0 tq4 rfl) ?_
      refine sw_ib (by (try simp only [zp] at h26 h27 ⊢) <;> (try simp only [zz, Int32.reduceToInt, ne_eq] at h26 h27 ⊢) <;> (try simp (disch := omega) only [zb] at h26 h27 ⊢) <;> first | omega | ((try simp (disch := omega) only [zb] at h26 h27 ⊢) <;> omega)) ?_
      exact sw_some ⟨c0, f0, trivial⟩
    · exact sw_some ⟨c0, f0, trivial⟩
  · exact sw_some ⟨c0, f0, trivial⟩
abbrev KX4_eraseRows : List Nat := [22, 23]
set_option maxHeartbeats 4000000 in
set_option maxRecDepth 10000 in
theorem sX4_eraseRows_6 {T : Nat → Option Nat} {σ0 : mm_M} : ∀ (n : Nat) (a0 : Nat) (x1 : Int32) (x2 : Int32) (σ : mm_M), sCI T σ → sFR T KX4_eraseRows σ0 σ → (T a0 = some 4) → (0 ≤ x2.toInt ∧ x2.toInt ≤ 25) → 25 - x2.toInt < (n : Int) → sw (fX4_eraseRows_6 n a0 x1 x2 σ) (fun R => sCI T R ∧ sFR T KX4_eraseRows σ0 R ∧ (True)) := by
  intro n
  induction n with
  | zero => intro a0 x1 x2 σ c0 f0 t_a0 p_0 hn; exfalso; exact (by (try simp only [zp] at p_0 hn ⊢) <;> (try simp only [zz, Int32.reduceToInt, ne_eq] at p_0 hn ⊢) <;> (try simp (disch := omega) only [zb] at p_0 hn ⊢) <;> first | omega | ((try simp (disch := omega) only [zb] at p_0 hn ⊢) <;> omega))
  | succ n ih =>
    intro a0 x1 x2 σ c0 f0 t_a0 p_0 hn
    unfold fX4_eraseRows_6
    refine sw_ite (fun h28 => ?_) (fun h28 => ?_)
    · exact sw_some ⟨c0, f0, trivial⟩
    · refine sw_sh (ci_sh c0 t_a0 rfl) ?_
      obtain ⟨q3, eq3, tq3⟩ := ci_ref c0 t_a0 1 (κ' := 23) rfl
      refine sw_onS eq3 ?_
      refine sw_ar (ci_sh c0 tq3 rfl) ?_
      refine sw_ib (by (try simp only [zp] at p_0 hn h28 ⊢) <;> (try simp only [zz, Int32.reduceToInt, ne_eq] at p_0 hn h28 ⊢) <;> (try simp (disch := omega) only [zb] at p_0 hn h28 ⊢) <;> first | omega | ((try simp (disch := omega) only [zb] at p_0 hn h28 ⊢) <;> omega)) ?_
      have r29 := ci_rg c0 tq3 x2.toNatClampNeg (lo := 0) (hi := 1) rfl
      refine sw_ite (fun h30 => ?_) (fun h30 => ?_)
      · exact ih a0 x1 (x2 + 1) σ c0 f0 t_a0 (by (try simp only [zp] at p_0 hn h28 r29 h30 ⊢) <;> (try simp only [zz, Int32.reduceToInt, ne_eq] at p_0 hn h28 r29 h30 ⊢) <;> (try simp (disch := omega) only [zb] at p_0 hn h28 r29 h30 ⊢) <;> first | omega | ((try simp (disch := omega) only [zb] at p_0 hn h28 r29 h30 ⊢) <;> omega)) (by (try simp only [zp] at p_0 hn h28 r29 h30 ⊢) <;> (try simp only [zz, Int32.reduceToInt, ne_eq] at p_0 hn h28 r29 h30 ⊢) <;> (try simp (disch := omega) only [zb] at p_0 hn h28 r29 h30 ⊢) <;> first | omega | ((try simp (disch := omega) only [zb] at p_0 hn h28 r29 h30 ⊢) <;> omega))
      · refine sw_on (sX4_setSigns c0 t_a0 (by (try simp only [zp] at p_0 hn h28 r29 h30 ⊢) <;> (try simp only [zz, Int32.reduceToInt, ne_eq] at p_0 hn h28 r29 h30 ⊢) <;> (try simp (disch := omega) only [zb] at p_0 hn h28 r29 h30 ⊢) <;> first | omega | ((try simp (disch := omega) only [zb] at p_0 hn h28 r29 h30 ⊢) <;> omega)) ) ?_
        intro q7 hqq7
        obtain ⟨cq7, gq7, xq7⟩ := hqq7
        have fq7 := fr_trans f0 gq7 rfl
        refine sw_sh (ci_sh cq7 t_a0 rfl) ?_
        have v31 : mm_R q7 a0 1 = some q3 := ((gq7.2.2 _ _ t_a0 1 rfl).2.trans eq3)
        refine sw_onS v31 ?_
        refine sw_ar (ci_sh cq7 tq3 rfl) ?_
        refine sw_ib (by (try simp only [zp] at p_0 hn h28 r29 h30 ⊢) <;> (try simp only [zz, Int32.reduceToInt, ne_eq] at p_0 hn h28 r29 h30 ⊢) <;> (try simp (disch := omega) only [zb] at p_0 hn h28 r29 h30 ⊢) <;> first | omega | ((try simp (disch := omega) only [zb] at p_0 hn h28 r29 h30 ⊢) <;> omega)) ?_
        have cs12 := ci_wI cq7 tq3 (j := x2.toNatClampNeg) (v := vp_nar .boolean 0) (kr_s (lo := 0) (hi := 1) rfl (by (try simp only [zp] at p_0 hn h28 r29 h30 ⊢) <;> (try simp only [zz, Int32.reduceToInt, ne_eq] at p_0 hn h28 r29 h30 ⊢) <;> (try simp (disch := omega) only [zb] at p_0 hn h28 r29 h30 ⊢) <;> first | omega | ((try simp (disch := omega) only [zb] at p_0 hn h28 r29 h30 ⊢) <;> omega)))
        have fs12 := fr_wI fq7 tq3 (j := x2.toNatClampNeg) (v := vp_nar .boolean 0) rfl
        refine sw_let (fun s12 es12 => ?_)
        rw [es12] at cs12 fs12
        exact ih a0 x1 (x2 + 1) s12 cs12 fs12 t_a0 (by (try simp only [zp] at p_0 hn h28 r29 h30 ⊢) <;> (try simp only [zz, Int32.reduceToInt, ne_eq] at p_0 hn h28 r29 h30 ⊢) <;> (try simp (disch := omega) only [zb] at p_0 hn h28 r29 h30 ⊢) <;> first | omega | ((try simp (disch := omega) only [zb] at p_0 hn h28 r29 h30 ⊢) <;> omega)) (by (try simp only [zp] at p_0 hn h28 r29 h30 ⊢) <;> (try simp only [zz, Int32.reduceToInt, ne_eq] at p_0 hn h28 r29 h30 ⊢) <;> (try simp (disch := omega) only [zb] at p_0 hn h28 r29 h30 ⊢) <;> first | omega | ((try simp (disch := omega) only [zb] at p_0 hn h28 r29 h30 ⊢) <;> omega))
set_option maxHeartbeats 4000000 in
set_option maxRecDepth 10000 in
theorem sX4_eraseRows {T : Nat → Option Nat} {σ0 : mm_M} {p0 : Nat} {p1 : Int32} (c0 : sCI T σ0) (t_p0 : T p0 = some 4) (p_0 : 0 ≤ p1.toInt ∧ p1.toInt ≤ 1) : sw (fX4_eraseRows p0 p1 σ0) (fun R => sCI T R ∧ sFR T KX4_eraseRows σ0 R ∧ (True)) := by
  have f0 : sFR T KX4_eraseRows σ0 σ0 := fr_refl
  unfold fX4_eraseRows
  exact sX4_eraseRows_6 mm_fuel p0 p1 (if p1 < 0 then 0 else p1) σ0 c0 f0 t_p0 (by (try simp only [zp] at p_0 ⊢) <;> (try simp only [zz, Int32.reduceToInt, ne_eq] at p_0 ⊢) <;> (try simp (disch := omega) only [zb] at p_0 ⊢) <;> first | omega | ((try simp (disch := omega) only [zb] at p_0 ⊢) <;> omega)) (by have hz : (mm_fuel : Int) = 2000 := rfl; rw [hz]; exact (by (try simp only [zp] at p_0 ⊢) <;> (try simp only [zz, Int32.reduceToInt, ne_eq] at p_0 ⊢) <;> (try simp (disch := omega) only [zb] at p_0 ⊢) <;> first | omega | ((try simp (disch := omega) only [zb] at p_0 ⊢) <;> omega)))
abbrev KX2_addRow_20 : List Nat := [2, 26]
set_option maxHeartbeats 4000000 in
set_option maxRecDepth 10000 in
theorem sX2_addRow_80_20 {T : Nat → Option Nat} {σ0 : mm_M} : ∀ (n : Nat) (a0 : Nat) (a1 : Nat) (x2 : Int32) (x3 : Int32) (x4 : Int32) (x5 : Int32) (x6 : Int32) (σ : mm_M), sCI T σ → sFR T KX2_addRow_20 σ0 σ → (T a0 = some 2) → (T a1 = some 20) → (0 ≤ x2.toInt ∧ 0 ≤ x3.toInt ∧ x2.toInt + x3.toInt ≤ 480) → (x2.toInt ≤ x4.toInt) → (x5.toInt ≤ x2.toInt + x3.toInt - 1) → (x4.toInt ≤ x6.toInt ∧ x6.toInt ≤ x5.toInt + 1) → x5.toInt - x6.toInt + 1 < (n : Int) → sw (fX2_addRow_80 n a0 a1 x2 x3 x4 x5 x6 σ) (fun R => sCI T R ∧ sFR T KX2_addRow_20 σ0 R ∧ (True)) := by
  intro n
  induction n with
  | zero => intro a0 a1 x2 x3 x4 x5 x6 σ c0 f0 t_a0 t_a1 p_0 p_1 p_2 p_3 hn; exfalso; exact (by (try simp only [zp] at p_0 p_1 p_2 p_3 hn ⊢) <;> (try simp only [zz, Int32.reduceToInt, ne_eq] at p_0 p_1 p_2 p_3 hn ⊢) <;> (try simp (disch := omega) only [zb] at p_0 p_1 p_2 p_3 hn ⊢) <;> first | omega | ((try simp (disch := omega) only [zb] at p_0 p_1 p_2 p_3 hn ⊢) <;> omega))
  | succ n ih =>
    intro a0 a1 x2 x3 x4 x5 x6 σ c0 f0 t_a0 t_a1 p_0 p_1 p_2 p_3 hn
    unfold fX2_addRow_80
    refine sw_ite (fun h32 => ?_) (fun h32 => ?_)
    · refine sw_sh (ci_sh c0 t_a0 rfl) ?_
      refine sw_on (sX2_addByte c0 t_a0  ) ?_
      intro q9 hqq9
      obtain ⟨cq9, gq9, xq9⟩ := hqq9
      have fq9 := fr_trans f0 gq9 rfl
      exact sw_some ⟨cq9, fq9, trivial⟩
    · refine sw_ar (ci_sh c0 t_a1 rfl) ?_
      refine sw_ib (by (try simp only [zp] at p_0 p_1 p_2 p_3 hn h32 ⊢) <;> (try simp only [zz, Int32.reduceToInt, ne_eq] at p_0 p_1 p_2 p_3 hn h32 ⊢) <;> (try simp (disch := omega) only [zb] at p_0 p_1 p_2 p_3 hn h32 ⊢) <;> first | omega | ((try simp (disch := omega) only [zb] at p_0 p_1 p_2 p_3 hn h32 ⊢) <;> omega)) ?_
      refine sw_sh (ci_sh c0 t_a0 rfl) ?_
      have a33 := zi_and (if (mm_I σ a1 x6.toNatClampNeg) < 32 then 32 else (mm_I σ a1 x6.toNatClampNeg)) 255 (by decide)
      refine sw_on (sX2_addByte c0 t_a0  ) ?_
      intro q13 hqq13
      obtain ⟨cq13, gq13, xq13⟩ := hqq13
      have fq13 := fr_trans f0 gq13 rfl
      exact ih a0 a1 x2 x3 x4 x5 (x6 + 1) q13 cq13 fq13 t_a0 t_a1 (by (try simp only [zp] at p_0 p_1 p_2 p_3 hn h32 a33 ⊢) <;> (try simp only [zz, Int32.reduceToInt, ne_eq] at p_0 p_1 p_2 p_3 hn h32 a33 ⊢) <;> (try simp (disch := omega) only [zb] at p_0 p_1 p_2 p_3 hn h32 a33 ⊢) <;> first | omega | ((try simp (disch := omega) only [zb] at p_0 p_1 p_2 p_3 hn h32 a33 ⊢) <;> omega)) (by (try simp only [zp] at p_0 p_1 p_2 p_3 hn h32 a33 ⊢) <;> (try simp only [zz, Int32.reduceToInt, ne_eq] at p_0 p_1 p_2 p_3 hn h32 a33 ⊢) <;> (try simp (disch := omega) only [zb] at p_0 p_1 p_2 p_3 hn h32 a33 ⊢) <;> first | omega | ((try simp (disch := omega) only [zb] at p_0 p_1 p_2 p_3 hn h32 a33 ⊢) <;> omega)) (by (try simp only [zp] at p_0 p_1 p_2 p_3 hn h32 a33 ⊢) <;> (try simp only [zz, Int32.reduceToInt, ne_eq] at p_0 p_1 p_2 p_3 hn h32 a33 ⊢) <;> (try simp (disch := omega) only [zb] at p_0 p_1 p_2 p_3 hn h32 a33 ⊢) <;> first | omega | ((try simp (disch := omega) only [zb] at p_0 p_1 p_2 p_3 hn h32 a33 ⊢) <;> omega)) (by (try simp only [zp] at p_0 p_1 p_2 p_3 hn h32 a33 ⊢) <;> (try simp only [zz, Int32.reduceToInt, ne_eq] at p_0 p_1 p_2 p_3 hn h32 a33 ⊢) <;> (try simp (disch := omega) only [zb] at p_0 p_1 p_2 p_3 hn h32 a33 ⊢) <;> first | omega | ((try simp (disch := omega) only [zb] at p_0 p_1 p_2 p_3 hn h32 a33 ⊢) <;> omega)) (by (try simp only [zp] at p_0 p_1 p_2 p_3 hn h32 a33 ⊢) <;> (try simp only [zz, Int32.reduceToInt, ne_eq] at p_0 p_1 p_2 p_3 hn h32 a33 ⊢) <;> (try simp (disch := omega) only [zb] at p_0 p_1 p_2 p_3 hn h32 a33 ⊢) <;> first | omega | ((try simp (disch := omega) only [zb] at p_0 p_1 p_2 p_3 hn h32 a33 ⊢) <;> omega))
set_option maxHeartbeats 4000000 in
set_option maxRecDepth 10000 in
theorem sX2_addRow_46_20 {T : Nat → Option Nat} {σ0 : mm_M} : ∀ (n : Nat) (a0 : Nat) (a1 : Nat) (x2 : Int32) (x3 : Int32) (x4 : Int32) (x5 : Int32) (σ : mm_M), sCI T σ → sFR T KX2_addRow_20 σ0 σ → (T a0 = some 2) → (T a1 = some 20) → (0 ≤ x2.toInt ∧ 0 ≤ x3.toInt ∧ x2.toInt + x3.toInt ≤ 480) → (x2.toInt ≤ x4.toInt ∧ x4.toInt ≤ x2.toInt + x3.toInt) → (x4.toInt - 1 ≤ x5.toInt ∧ x5.toInt ≤ x2.toInt + x3.toInt - 1) → x5.toInt - x4.toInt + 1 < (n : Int) → sw (fX2_addRow_46 n a0 a1 x2 x3 x4 x5 σ) (fun R => sCI T R ∧ sFR T KX2_addRow_20 σ0 R ∧ (True)) := by
  intro n
  induction n with
  | zero => intro a0 a1 x2 x3 x4 x5 σ c0 f0 t_a0 t_a1 p_0 p_1 p_2 hn; exfalso; exact (by (try simp only [zp] at p_0 p_1 p_2 hn ⊢) <;> (try simp only [zz, Int32.reduceToInt, ne_eq] at p_0 p_1 p_2 hn ⊢) <;> (try simp (disch := omega) only [zb] at p_0 p_1 p_2 hn ⊢) <;> first | omega | ((try simp (disch := omega) only [zb] at p_0 p_1 p_2 hn ⊢) <;> omega))
  | succ n ih =>
    intro a0 a1 x2 x3 x4 x5 σ c0 f0 t_a0 t_a1 p_0 p_1 p_2 hn
    unfold fX2_addRow_46
    refine sw_ite (fun h34 => ?_) (fun h34 => ?_)
    · unfold fX2_addRow_68
      refine sw_ite (fun h35 => ?_) (fun h35 => ?_)
      · exact sX2_addRow_80_20 mm_fuel a0 a1 x2 x3 x4 x5 x4 σ c0 f0 t_a0 t_a1 (by (try simp only [zp] at p_0 p_1 p_2 hn h34 h35 ⊢) <;> (try simp only [zz, Int32.reduceToInt, ne_eq] at p_0 p_1 p_2 hn h34 h35 ⊢) <;> (try simp (disch := omega) only [zb] at p_0 p_1 p_2 hn h34 h35 ⊢) <;> first | omega | ((try simp (disch := omega) only [zb] at p_0 p_1 p_2 hn h34 h35 ⊢) <;> omega)) (by (try simp only [zp] at p_0 p_1 p_2 hn h34 h35 ⊢) <;> (try simp only [zz, Int32.reduceToInt, ne_eq] at p_0 p_1 p_2 hn h34 h35 ⊢) <;> (try simp (disch := omega) only [zb] at p_0 p_1 p_2 hn h34 h35 ⊢) <;> first | omega | ((try simp (disch := omega) only [zb] at p_0 p_1 p_2 hn h34 h35 ⊢) <;> omega)) (by (try simp only [zp] at p_0 p_1 p_2 hn h34 h35 ⊢) <;> (try simp only [zz, Int32.reduceToInt, ne_eq] at p_0 p_1 p_2 hn h34 h35 ⊢) <;> (try simp (disch := omega) only [zb] at p_0 p_1 p_2 hn h34 h35 ⊢) <;> first | omega | ((try simp (disch := omega) only [zb] at p_0 p_1 p_2 hn h34 h35 ⊢) <;> omega)) (by (try simp only [zp] at p_0 p_1 p_2 hn h34 h35 ⊢) <;> (try simp only [zz, Int32.reduceToInt, ne_eq] at p_0 p_1 p_2 hn h34 h35 ⊢) <;> (try simp (disch := omega) only [zb] at p_0 p_1 p_2 hn h34 h35 ⊢) <;> first | omega | ((try simp (disch := omega) only [zb] at p_0 p_1 p_2 hn h34 h35 ⊢) <;> omega)) (by have hz : (mm_fuel : Int) = 2000 := rfl; rw [hz]; exact (by (try simp only [zp] at p_0 p_1 p_2 hn h34 h35 ⊢) <;> (try simp only [zz, Int32.reduceToInt, ne_eq] at p_0 p_1 p_2 hn h34 h35 ⊢) <;> (try simp (disch := omega) only [zb] at p_0 p_1 p_2 hn h34 h35 ⊢) <;> first | omega | ((try simp (disch := omega) only [zb] at p_0 p_1 p_2 hn h34 h35 ⊢) <;> omega)))
      · exact sw_some ⟨c0, f0, trivial⟩
    · refine sw_ar (ci_sh c0 t_a1 rfl) ?_
      refine sw_ib (by (try simp only [zp] at p_0 p_1 p_2 hn h34 ⊢) <;> (try simp only [zz, Int32.reduceToInt, ne_eq] at p_0 p_1 p_2 hn h34 ⊢) <;> (try simp (disch := omega) only [zb] at p_0 p_1 p_2 hn h34 ⊢) <;> first | omega | ((try simp (disch := omega) only [zb] at p_0 p_1 p_2 hn h34 ⊢) <;> omega)) ?_
      refine sw_ite (fun h36 => ?_) (fun h36 => ?_)
      · unfold fX2_addRow_68
        refine sw_ite (fun h37 => ?_) (fun h37 => ?_)
        · exact sX2_addRow_80_20 mm_fuel a0 a1 x2 x3 x4 x5 x4 σ c0 f0 t_a0 t_a1 (by (try simp only [zp] at p_0 p_1 p_2 hn h34 h36 h37 ⊢) <;> (try simp only [zz, Int32.reduceToInt, ne_eq] at p_0 p_1 p_2 hn h34 h36 h37 ⊢) <;> (try simp (disch := omega) only [zb] at p_0 p_1 p_2 hn h34 h36 h37 ⊢) <;> first | omega | ((try simp (disch := omega) only [zb] at p_0 p_1 p_2 hn h34 h36 h37 ⊢) <;> omega)) (by (try simp only [zp] at p_0 p_1 p_2 hn h34 h36 h37 ⊢) <;> (try simp only [zz, Int32.reduceToInt, ne_eq] at p_0 p_1 p_2 hn h34 h36 h37 ⊢) <;> (try simp (disch := omega) only [zb] at p_0 p_1 p_2 hn h34 h36 h37 ⊢) <;> first | omega | ((try simp (disch := omega) only [zb] at p_0 p_1 p_2 hn h34 h36 h37 ⊢) <;> omega)) (by (try simp only [zp] at p_0 p_1 p_2 hn h34 h36 h37 ⊢) <;> (try simp only [zz, Int32.reduceToInt, ne_eq] at p_0 p_1 p_2 hn h34 h36 h37 ⊢) <;> (try simp (disch := omega) only [zb] at p_0 p_1 p_2 hn h34 h36 h37 ⊢) <;> first | omega | ((try simp (disch := omega) only [zb] at p_0 p_1 p_2 hn h34 h36 h37 ⊢) <;> omega)) (by (try simp only [zp] at p_0 p_1 p_2 hn h34 h36 h37 ⊢) <;> (try simp only [zz, Int32.reduceToInt, ne_eq] at p_0 p_1 p_2 hn h34 h36 h37 ⊢) <;> (try simp (disch := omega) only [zb] at p_0 p_1 p_2 hn h34 h36 h37 ⊢) <;> first | omega | ((try simp (disch := omega) only [zb] at p_0 p_1 p_2 hn h34 h36 h37 ⊢) <;> omega)) (by have hz : (mm_fuel : Int) = 2000 := rfl; rw [hz]; exact (by (try simp only [zp] at p_0 p_1 p_2 hn h34 h36 h37 ⊢) <;> (try simp only [zz, Int32.reduceToInt, ne_eq] at p_0 p_1 p_2 hn h34 h36 h37 ⊢) <;> (try simp (disch := omega) only [zb] at p_0 p_1 p_2 hn h34 h36 h37 ⊢) <;> first | omega | ((try simp (disch := omega) only [zb] at p_0 p_1 p_2 hn h34 h36 h37 ⊢) <;> omega)))
        · exact sw_some ⟨c0, f0, trivial⟩
      · exact ih a0 a1 x2 x3 x4 (x5 + (-1)) σ c0 f0 t_a0 t_a1 (by (try simp only [zp] at p_0 p_1 p_2 hn h34 h36 ⊢) <;> (try simp only [zz, Int32.reduceToInt, ne_eq] at p_0 p_1 p_2 hn h34 h36 ⊢) <;> (try simp (disch := omega) only [zb] at p_0 p_1 p_2 hn h34 h36 ⊢) <;> first | omega | ((try simp (disch := omega) only [zb] at p_0 p_1 p_2 hn h34 h36 ⊢) <;> omega)) (by (try simp only [zp] at p_0 p_1 p_2 hn h34 h36 ⊢) <;> (try simp only [zz, Int32.reduceToInt, ne_eq] at p_0 p_1 p_2 hn h34 h36 ⊢) <;> (try simp (disch := omega) only [zb] at p_0 p_1 p_2 hn h34 h36 ⊢) <;> first | omega | ((try simp (disch := omega) only [zb] at p_0 p_1 p_2 hn h34 h36 ⊢) <;> omega)) (by (try simp only [zp] at p_0 p_1 p_2 hn h34 h36 ⊢) <;> (try simp only [zz, Int32.reduceToInt, ne_eq] at p_0 p_1 p_2 hn h34 h36 ⊢) <;> (try simp (disch := omega) only [zb] at p_0 p_1 p_2 hn h34 h36 ⊢) <;> first | omega | ((try simp (disch := omega) only [zb] at p_0 p_1 p_2 hn h34 h36 ⊢) <;> omega)) (by (try simp only [zp] at p_0 p_1 p_2 hn h34 h36 ⊢) <;> (try simp only [zz, Int32.reduceToInt, ne_eq] at p_0 p_1 p_2 hn h34 h36 ⊢) <;> (try simp (disch := omega) only [zb] at p_0 p_1 p_2 hn h34 h36 ⊢) <;> first | omega | ((try simp (disch := omega) only [zb] at p_0 p_1 p_2 hn h34 h36 ⊢) <;> omega))
set_option maxHeartbeats 4000000 in
set_option maxRecDepth 10000 in
theorem sX2_addRow_16_20 {T : Nat → Option Nat} {σ0 : mm_M} : ∀ (n : Nat) (a0 : Nat) (a1 : Nat) (x2 : Int32) (x3 : Int32) (x4 : Int32) (σ : mm_M), sCI T σ → sFR T KX2_addRow_20 σ0 σ → (T a0 = some 2) → (T a1 = some 20) → (0 ≤ x2.toInt ∧ 0 ≤ x3.toInt ∧ x2.toInt + x3.toInt ≤ 480) → (x2.toInt ≤ x4.toInt ∧ x4.toInt ≤ x2.toInt + x3.toInt) → x2.toInt + x3.toInt - x4.toInt < (n : Int) → sw (fX2_addRow_16 n a0 a1 x2 x3 x4 σ) (fun R => sCI T R ∧ sFR T KX2_addRow_20 σ0 R ∧ (True)) := by
  intro n
  induction n with
  | zero => intro a0 a1 x2 x3 x4 σ c0 f0 t_a0 t_a1 p_0 p_1 hn; exfalso; exact (by (try simp only [zp] at p_0 p_1 hn ⊢) <;> (try simp only [zz, Int32.reduceToInt, ne_eq] at p_0 p_1 hn ⊢) <;> (try simp (disch := omega) only [zb] at p_0 p_1 hn ⊢) <;> first | omega | ((try simp (disch := omega) only [zb] at p_0 p_1 hn ⊢) <;> omega))
  | succ n ih =>
    intro a0 a1 x2 x3 x4 σ c0 f0 t_a0 t_a1 p_0 p_1 hn
    unfold fX2_addRow_16
    refine sw_ite (fun h38 => ?_) (fun h38 => ?_)
    · unfold fX2_addRow_39
      exact sX2_addRow_46_20 mm_fuel a0 a1 x2 x3 x4 ((x2 + x3) - 1) σ c0 f0 t_a0 t_a1 (by (try simp only [zp] at p_0 p_1 hn h38 ⊢) <;> (try simp only [zz, Int32.reduceToInt, ne_eq] at p_0 p_1 hn h38 ⊢) <;> (try simp (disch := omega) only [zb] at p_0 p_1 hn h38 ⊢) <;> first | omega | ((try simp (disch := omega) only [zb] at p_0 p_1 hn h38 ⊢) <;> omega)) (by (try simp only [zp] at p_0 p_1 hn h38 ⊢) <;> (try simp only [zz, Int32.reduceToInt, ne_eq] at p_0 p_1 hn h38 ⊢) <;> (try simp (disch := omega) only [zb] at p_0 p_1 hn h38 ⊢) <;> first | omega | ((try simp (disch := omega) only [zb] at p_0 p_1 hn h38 ⊢) <;> omega)) (by (try simp only [zp] at p_0 p_1 hn h38 ⊢) <;> (try simp only [zz, Int32.reduceToInt, ne_eq] at p_0 p_1 hn h38 ⊢) <;> (try simp (disch := omega) only [zb] at p_0 p_1 hn h38 ⊢) <;> first | omega | ((try simp (disch := omega) only [zb] at p_0 p_1 hn h38 ⊢) <;> omega)) (by have hz : (mm_fuel : Int) = 2000 := rfl; rw [hz]; exact (by (try simp only [zp] at p_0 p_1 hn h38 ⊢) <;> (try simp only [zz, Int32.reduceToInt, ne_eq] at p_0 p_1 hn h38 ⊢) <;> (try simp (disch := omega) only [zb] at p_0 p_1 hn h38 ⊢) <;> first | omega | ((try simp (disch := omega) only [zb] at p_0 p_1 hn h38 ⊢) <;> omega)))
    · refine sw_ar (ci_sh c0 t_a1 rfl) ?_
      refine sw_ib (by (try simp only [zp] at p_0 p_1 hn h38 ⊢) <;> (try simp only [zz, Int32.reduceToInt, ne_eq] at p_0 p_1 hn h38 ⊢) <;> (try simp (disch := omega) only [zb] at p_0 p_1 hn h38 ⊢) <;> first | omega | ((try simp (disch := omega) only [zb] at p_0 p_1 hn h38 ⊢) <;> omega)) ?_
      refine sw_ite (fun h39 => ?_) (fun h39 => ?_)
      · unfold fX2_addRow_39
        exact sX2_addRow_46_20 mm_fuel a0 a1 x2 x3 x4 ((x2 + x3) - 1) σ c0 f0 t_a0 t_a1 (by (try simp only [zp] at p_0 p_1 hn h38 h39 ⊢) <;> (try simp only [zz, Int32.reduceToInt, ne_eq] at p_0 p_1 hn h38 h39 ⊢) <;> (try simp (disch := omega) only [zb] at p_0 p_1 hn h38 h39 ⊢) <;> first | omega | ((try simp (disch := omega) only [zb] at p_0 p_1 hn h38 h39 ⊢) <;> omega)) (by (try simp only [zp] at p_0 p_1 hn h38 h39 ⊢) <;> (try simp only [zz, Int32.reduceToInt, ne_eq] at p_0 p_1 hn h38 h39 ⊢) <;> (try simp (disch := omega) only [zb] at p_0 p_1 hn h38 h39 ⊢) <;> first | omega | ((try simp (disch := omega) only [zb] at p_0 p_1 hn h38 h39 ⊢) <;> omega)) (by (try simp only [zp] at p_0 p_1 hn h38 h39 ⊢) <;> (try simp only [zz, Int32.reduceToInt, ne_eq] at p_0 p_1 hn h38 h39 ⊢) <;> (try simp (disch := omega) only [zb] at p_0 p_1 hn h38 h39 ⊢) <;> first | omega | ((try simp (disch := omega) only [zb] at p_0 p_1 hn h38 h39 ⊢) <;> omega)) (by have hz : (mm_fuel : Int) = 2000 := rfl; rw [hz]; exact (by (try simp only [zp] at p_0 p_1 hn h38 h39 ⊢) <;> (try simp only [zz, Int32.reduceToInt, ne_eq] at p_0 p_1 hn h38 h39 ⊢) <;> (try simp (disch := omega) only [zb] at p_0 p_1 hn h38 h39 ⊢) <;> first | omega | ((try simp (disch := omega) only [zb] at p_0 p_1 hn h38 h39 ⊢) <;> omega)))
      · exact ih a0 a1 x2 x3 (x4 + 1) σ c0 f0 t_a0 t_a1 (by (try simp only [zp] at p_0 p_1 hn h38 h39 ⊢) <;> (try simp only [zz, Int32.reduceToInt, ne_eq] at p_0 p_1 hn h38 h39 ⊢) <;> (try simp (disch := omega) only [zb] at p_0 p_1 hn h38 h39 ⊢) <;> first | omega | ((try simp (disch := omega) only [zb] at p_0 p_1 hn h38 h39 ⊢) <;> omega)) (by (try simp only [zp] at p_0 p_1 hn h38 h39 ⊢) <;> (try simp only [zz, Int32.reduceToInt, ne_eq] at p_0 p_1 hn h38 h39 ⊢) <;> (try simp (disch := omega) only [zb] at p_0 p_1 hn h38 h39 ⊢) <;> first | omega | ((try simp (disch := omega) only [zb] at p_0 p_1 hn h38 h39 ⊢) <;> omega)) (by (try simp only [zp] at p_0 p_1 hn h38 h39 ⊢) <;> (try simp only [zz, Int32.reduceToInt, ne_eq] at p_0 p_1 hn h38 h39 ⊢) <;> (try simp (disch := omega) only [zb] at p_0 p_1 hn h38 h39 ⊢) <;> first | omega | ((try simp (disch := omega) only [zb] at p_0 p_1 hn h38 h39 ⊢) <;> omega))
set_option maxHeartbeats 4000000 in
set_option maxRecDepth 10000 in
theorem sX2_addRow_20 {T : Nat → Option Nat} {σ0 : mm_M} {p0 : Nat} {p1 : Nat} {p2 : Int32} {p3 : Int32} (c0 : sCI T σ0) (t_p0 : T p0 = some 2) (t_p1 : T p1 = some 20) (p_0 : 0 ≤ p2.toInt ∧ p2.toInt ≤ 1000) (p_1 : 0 ≤ p3.toInt ∧ p3.toInt ≤ 40) : sw (fX2_addRow p0 p1 p2 p3 σ0) (fun R => sCI T R ∧ sFR T KX2_addRow_20 σ0 R ∧ (True)) := by
  have f0 : sFR T KX2_addRow_20 σ0 σ0 := fr_refl
  unfold fX2_addRow
  refine sw_ite (fun h40 => ?_) (fun h40 => ?_)
  · exact sw_some ⟨c0, f0, trivial⟩
  · refine sw_ar (ci_sh c0 t_p1 rfl) ?_
    refine sw_ite (fun h41 => ?_) (fun h41 => ?_)
    · exact sX2_addRow_16_20 mm_fuel p0 p1 p2 p3 p2 σ0 c0 f0 t_p0 t_p1 (by (try simp only [zp] at p_0 p_1 h40 h41 ⊢) <;> (try simp only [zz, Int32.reduceToInt, ne_eq] at p_0 p_1 h40 h41 ⊢) <;> (try simp (disch := omega) only [zb] at p_0 p_1 h40 h41 ⊢) <;> first | omega | ((try simp (disch := omega) only [zb] at p_0 p_1 h40 h41 ⊢) <;> omega)) (by (try simp only [zp] at p_0 p_1 h40 h41 ⊢) <;> (try simp only [zz, Int32.reduceToInt, ne_eq] at p_0 p_1 h40 h41 ⊢) <;> (try simp (disch := omega) only [zb] at p_0 p_1 h40 h41 ⊢) <;> first | omega | ((try simp (disch := omega) only [zb] at p_0 p_1 h40 h41 ⊢) <;> omega)) (by have hz : (mm_fuel : Int) = 2000 := rfl; rw [hz]; exact (by (try simp only [zp] at p_0 p_1 h40 h41 ⊢) <;> (try simp only [zz, Int32.reduceToInt, ne_eq] at p_0 p_1 h40 h41 ⊢) <;> (try simp (disch := omega) only [zb] at p_0 p_1 h40 h41 ⊢) <;> first | omega | ((try simp (disch := omega) only [zb] at p_0 p_1 h40 h41 ⊢) <;> omega)))
    · exact sw_some ⟨c0, f0, trivial⟩
abbrev KX2_addRow_22 : List Nat := [2, 26]
set_option maxHeartbeats 4000000 in
set_option maxRecDepth 10000 in
theorem sX2_addRow_80_22 {T : Nat → Option Nat} {σ0 : mm_M} : ∀ (n : Nat) (a0 : Nat) (a1 : Nat) (x2 : Int32) (x3 : Int32) (x4 : Int32) (x5 : Int32) (x6 : Int32) (σ : mm_M), sCI T σ → sFR T KX2_addRow_22 σ0 σ → (T a0 = some 2) → (T a1 = some 22) → (0 ≤ x2.toInt ∧ 0 ≤ x3.toInt ∧ x2.toInt + x3.toInt ≤ 1000) → (x2.toInt ≤ x4.toInt) → (x5.toInt ≤ x2.toInt + x3.toInt - 1) → (x4.toInt ≤ x6.toInt ∧ x6.toInt ≤ x5.toInt + 1) → x5.toInt - x6.toInt + 1 < (n : Int) → sw (fX2_addRow_80 n a0 a1 x2 x3 x4 x5 x6 σ) (fun R => sCI T R ∧ sFR T KX2_addRow_22 σ0 R ∧ (True)) := by
  intro n
  induction n with
  | zero => intro a0 a1 x2 x3 x4 x5 x6 σ c0 f0 t_a0 t_a1 p_0 p_1 p_2 p_3 hn; exfalso; exact (by (try simp only [zp] at p_0 p_1 p_2 p_3 hn ⊢) <;> (try simp only [zz, Int32.reduceToInt, ne_eq] at p_0 p_1 p_2 p_3 hn ⊢) <;> (try simp (disch := omega) only [zb] at p_0 p_1 p_2 p_3 hn ⊢) <;> first | omega | ((try simp (disch := omega) only [zb] at p_0 p_1 p_2 p_3 hn ⊢) <;> omega))
  | succ n ih =>
    intro a0 a1 x2 x3 x4 x5 x6 σ c0 f0 t_a0 t_a1 p_0 p_1 p_2 p_3 hn
    unfold fX2_addRow_80
    refine sw_ite (fun h42 => ?_) (fun h42 => ?_)
    · refine sw_sh (ci_sh c0 t_a0 rfl) ?_
      refine sw_on (sX2_addByte c0 t_a0  ) ?_
      intro q9 hqq9
      obtain ⟨cq9, gq9, xq9⟩ := hqq9
      have fq9 := fr_trans f0 gq9 rfl
      exact sw_some ⟨cq9, fq9, trivial⟩
    · refine sw_ar (ci_sh c0 t_a1 rfl) ?_
      refine sw_ib (by (try simp only [zp] at p_0 p_1 p_2 p_3 hn h42 ⊢) <;> (try simp only [zz, Int32.reduceToInt, ne_eq] at p_0 p_1 p_2 p_3 hn h42 ⊢) <;> (try simp (disch := omega) only [zb] at p_0 p_1 p_2 p_3 hn h42 ⊢) <;> first | omega | ((try simp (disch := omega) only [zb] at p_0 p_1 p_2 p_3 hn h42 ⊢) <;> omega)) ?_
      refine sw_sh (ci_sh c0 t_a0 rfl) ?_
      have a43 := zi_and (if (mm_I σ a1 x6.toNatClampNeg) < 32 then 32 else (mm_I σ a1 x6.toNatClampNeg)) 255 (by decide)
      refine sw_on (sX2_addByte c0 t_a0  ) ?_
      intro q13 hqq13
      obtain ⟨cq13, gq13, xq13⟩ := hqq13
      have fq13 := fr_trans f0 gq13 rfl
      exact ih a0 a1 x2 x3 x4 x5 (x6 + 1) q13 cq13 fq13 t_a0 t_a1 (by (try simp only [zp] at p_0 p_1 p_2 p_3 hn h42 a43 ⊢) <;> (try simp only [zz, Int32.reduceToInt, ne_eq] at p_0 p_1 p_2 p_3 hn h42 a43 ⊢) <;> (try simp (disch := omega) only [zb] at p_0 p_1 p_2 p_3 hn h42 a43 ⊢) <;> first | omega | ((try simp (disch := omega) only [zb] at p_0 p_1 p_2 p_3 hn h42 a43 ⊢) <;> omega)) (by (try simp only [zp] at p_0 p_1 p_2 p_3 hn h42 a43 ⊢) <;> (try simp only [zz, Int32.reduceToInt, ne_eq] at p_0 p_1 p_2 p_3 hn h42 a43 ⊢) <;> (try simp (disch := omega) only [zb] at p_0 p_1 p_2 p_3 hn h42 a43 ⊢) <;> first | omega | ((try simp (disch := omega) only [zb] at p_0 p_1 p_2 p_3 hn h42 a43 ⊢) <;> omega)) (by (try simp only [zp] at p_0 p_1 p_2 p_3 hn h42 a43 ⊢) <;> (try simp only [zz, Int32.reduceToInt, ne_eq] at p_0 p_1 p_2 p_3 hn h42 a43 ⊢) <;> (try simp (disch := omega) only [zb] at p_0 p_1 p_2 p_3 hn h42 a43 ⊢) <;> first | omega | ((try simp (disch := omega) only [zb] at p_0 p_1 p_2 p_3 hn h42 a43 ⊢) <;> omega)) (by (try simp only [zp] at p_0 p_1 p_2 p_3 hn h42 a43 ⊢) <;> (try simp only [zz, Int32.reduceToInt, ne_eq] at p_0 p_1 p_2 p_3 hn h42 a43 ⊢) <;> (try simp (disch := omega) only [zb] at p_0 p_1 p_2 p_3 hn h42 a43 ⊢) <;> first | omega | ((try simp (disch := omega) only [zb] at p_0 p_1 p_2 p_3 hn h42 a43 ⊢) <;> omega)) (by (try simp only [zp] at p_0 p_1 p_2 p_3 hn h42 a43 ⊢) <;> (try simp only [zz, Int32.reduceToInt, ne_eq] at p_0 p_1 p_2 p_3 hn h42 a43 ⊢) <;> (try simp (disch := omega) only [zb] at p_0 p_1 p_2 p_3 hn h42 a43 ⊢) <;> first | omega | ((try simp (disch := omega) only [zb] at p_0 p_1 p_2 p_3 hn h42 a43 ⊢) <;> omega))
set_option maxHeartbeats 4000000 in
set_option maxRecDepth 10000 in
theorem sX2_addRow_46_22 {T : Nat → Option Nat} {σ0 : mm_M} : ∀ (n : Nat) (a0 : Nat) (a1 : Nat) (x2 : Int32) (x3 : Int32) (x4 : Int32) (x5 : Int32) (σ : mm_M), sCI T σ → sFR T KX2_addRow_22 σ0 σ → (T a0 = some 2) → (T a1 = some 22) → (0 ≤ x2.toInt ∧ 0 ≤ x3.toInt ∧ x2.toInt + x3.toInt ≤ 1000) → (x2.toInt ≤ x4.toInt ∧ x4.toInt ≤ x2.toInt + x3.toInt) → (x4.toInt - 1 ≤ x5.toInt ∧ x5.toInt ≤ x2.toInt + x3.toInt - 1) → x5.toInt - x4.toInt + 1 < (n : Int) → sw (fX2_addRow_46 n a0 a1 x2 x3 x4 x5 σ) (fun R => sCI T R ∧ sFR T KX2_addRow_22 σ0 R ∧ (True)) := by
  intro n
  induction n with
  | zero => intro a0 a1 x2 x3 x4 x5 σ c0 f0 t_a0 t_a1 p_0 p_1 p_2 hn; exfalso; exact (by (try simp only [zp] at p_0 p_1 p_2 hn ⊢) <;> (try simp only [zz, Int32.reduceToInt, ne_eq] at p_0 p_1 p_2 hn ⊢) <;> (try simp (disch := omega) only [zb] at p_0 p_1 p_2 hn ⊢) <;> first | omega | ((try simp (disch := omega) only [zb] at p_0 p_1 p_2 hn ⊢) <;> omega))
  | succ n ih =>
    intro a0 a1 x2 x3 x4 x5 σ c0 f0 t_a0 t_a1 p_0 p_1 p_2 hn
    unfold fX2_addRow_46
    refine sw_ite (fun h44 => ?_) (fun h44 => ?_)
    · unfold fX2_addRow_68
      refine sw_ite (fun h45 => ?_) (fun h45 => ?_)
      · exact sX2_addRow_80_22 mm_fuel a0 a1 x2 x3 x4 x5 x4 σ c0 f0 t_a0 t_a1 (by (try simp only [zp] at p_0 p_1 p_2 hn h44 h45 ⊢) <;> (try simp only [zz, Int32.reduceToInt, ne_eq] at p_0 p_1 p_2 hn h44 h45 ⊢) <;> (try simp (disch := omega) only [zb] at p_0 p_1 p_2 hn h44 h45 ⊢) <;> first | omega | ((try simp (disch := omega) only [zb] at p_0 p_1 p_2 hn h44 h45 ⊢) <;> omega)) (by (try simp only [zp] at p_0 p_1 p_2 hn h44 h45 ⊢) <;> (try simp only [zz, Int32.reduceToInt, ne_eq] at p_0 p_1 p_2 hn h44 h45 ⊢) <;> (try simp (disch := omega) only [zb] at p_0 p_1 p_2 hn h44 h45 ⊢) <;> first | omega | ((try simp (disch := omega) only [zb] at p_0 p_1 p_2 hn h44 h45 ⊢) <;> omega)) (by (try simp only [zp] at p_0 p_1 p_2 hn h44 h45 ⊢) <;> (try simp only [zz, Int32.reduceToInt, ne_eq] at p_0 p_1 p_2 hn h44 h45 ⊢) <;> (try simp (disch := omega) only [zb] at p_0 p_1 p_2 hn h44 h45 ⊢) <;> first | omega | ((try simp (disch := omega) only [zb] at p_0 p_1 p_2 hn h44 h45 ⊢) <;> omega)) (by (try simp only [zp] at p_0 p_1 p_2 hn h44 h45 ⊢) <;> (try simp only [zz, Int32.reduceToInt, ne_eq] at p_0 p_1 p_2 hn h44 h45 ⊢) <;> (try simp (disch := omega) only [zb] at p_0 p_1 p_2 hn h44 h45 ⊢) <;> first | omega | ((try simp (disch := omega) only [zb] at p_0 p_1 p_2 hn h44 h45 ⊢) <;> omega)) (by have hz : (mm_fuel : Int) = 2000 := rfl; rw [hz]; exact (by (try simp only [zp] at p_0 p_1 p_2 hn h44 h45 ⊢) <;> (try simp only [zz, Int32.reduceToInt, ne_eq] at p_0 p_1 p_2 hn h44 h45 ⊢) <;> (try simp (disch := omega) only [zb] at p_0 p_1 p_2 hn h44 h45 ⊢) <;> first | omega | ((try simp (disch := omega) only [zb] at p_0 p_1 p_2 hn h44 h45 ⊢) <;> omega)))
      · exact sw_some ⟨c0, f0, trivial⟩
    · refine sw_ar (ci_sh c0 t_a1 rfl) ?_
      refine sw_ib (by (try simp only [zp] at p_0 p_1 p_2 hn h44 ⊢) <;> (try simp only [zz, Int32.reduceToInt, ne_eq] at p_0 p_1 p_2 hn h44 ⊢) <;> (try simp (disch := omega) only [zb] at p_0 p_1 p_2 hn h44 ⊢) <;> first | omega | ((try simp (disch := omega) only [zb] at p_0 p_1 p_2 hn h44 ⊢) <;> omega)) ?_
      refine sw_ite (fun h46 => ?_) (fun h46 => ?_)
      · unfold fX2_addRow_68
        refine sw_ite (fun h47 => ?_) (fun h47 => ?_)
        · exact sX2_addRow_80_22 mm_fuel a0 a1 x2 x3 x4 x5 x4 σ c0 f0 t_a0 t_a1 (by (try simp only [zp] at p_0 p_1 p_2 hn h44 h46 h47 ⊢) <;> (try simp only [zz, Int32.reduceToInt, ne_eq] at p_0 p_1 p_2 hn h44 h46 h47 ⊢) <;> (try simp (disch := omega) only [zb] at p_0 p_1 p_2 hn h44 h46 h47 ⊢) <;> first | omega | ((try simp (disch := omega) only [zb] at p_0 p_1 p_2 hn h44 h46 h47 ⊢) <;> omega)) (by (try simp only [zp] at p_0 p_1 p_2 hn h44 h46 h47 ⊢) <;> (try simp only [zz, Int32.reduceToInt, ne_eq] at p_0 p_1 p_2 hn h44 h46 h47 ⊢) <;> (try simp (disch := omega) only [zb] at p_0 p_1 p_2 hn h44 h46 h47 ⊢) <;> first | omega | ((try simp (disch := omega) only [zb] at p_0 p_1 p_2 hn h44 h46 h47 ⊢) <;> omega)) (by (try simp only [zp] at p_0 p_1 p_2 hn h44 h46 h47 ⊢) <;> (try simp only [zz, Int32.reduceToInt, ne_eq] at p_0 p_1 p_2 hn h44 h46 h47 ⊢) <;> (try simp (disch := omega) only [zb] at p_0 p_1 p_2 hn h44 h46 h47 ⊢) <;> first | omega | ((try simp (disch := omega) only [zb] at p_0 p_1 p_2 hn h44 h46 h47 ⊢) <;> omega)) (by (try simp only [zp] at p_0 p_1 p_2 hn h44 h46 h47 ⊢) <;> (try simp only [zz, Int32.reduceToInt, ne_eq] at p_0 p_1 p_2 hn h44 h46 h47 ⊢) <;> (try simp (disch := omega) only [zb] at p_0 p_1 p_2 hn h44 h46 h47 ⊢) <;> first | omega | ((try simp (disch := omega) only [zb] at p_0 p_1 p_2 hn h44 h46 h47 ⊢) <;> omega)) (by have hz : (mm_fuel : Int) = 2000 := rfl; rw [hz]; exact (by (try simp only [zp] at p_0 p_1 p_2 hn h44 h46 h47 ⊢) <;> (try simp only [zz, Int32.reduceToInt, ne_eq] at p_0 p_1 p_2 hn h44 h46 h47 ⊢) <;> (try simp (disch := omega) only [zb] at p_0 p_1 p_2 hn h44 h46 h47 ⊢) <;> first | omega | ((try simp (disch := omega) only [zb] at p_0 p_1 p_2 hn h44 h46 h47 ⊢) <;> omega)))
        · exact sw_some ⟨c0, f0, trivial⟩
      · exact ih a0 a1 x2 x3 x4 (x5 + (-1)) σ c0 f0 t_a0 t_a1 (by (try simp only [zp] at p_0 p_1 p_2 hn h44 h46 ⊢) <;> (try simp only [zz, Int32.reduceToInt, ne_eq] at p_0 p_1 p_2 hn h44 h46 ⊢) <;> (try simp (disch := omega) only [zb] at p_0 p_1 p_2 hn h44 h46 ⊢) <;> first | omega | ((try simp (disch := omega) only [zb] at p_0 p_1 p_2 hn h44 h46 ⊢) <;> omega)) (by (try simp only [zp] at p_0 p_1 p_2 hn h44 h46 ⊢) <;> (try simp only [zz, Int32.reduceToInt, ne_eq] at p_0 p_1 p_2 hn h44 h46 ⊢) <;> (try simp (disch := omega) only [zb] at p_0 p_1 p_2 hn h44 h46 ⊢) <;> first | omega | ((try simp (disch := omega) only [zb] at p_0 p_1 p_2 hn h44 h46 ⊢) <;> omega)) (by (try simp only [zp] at p_0 p_1 p_2 hn h44 h46 ⊢) <;> (try simp only [zz, Int32.reduceToInt, ne_eq] at p_0 p_1 p_2 hn h44 h46 ⊢) <;> (try simp (disch := omega) only [zb] at p_0 p_1 p_2 hn h44 h46 ⊢) <;> first | omega | ((try simp (disch := omega) only [zb] at p_0 p_1 p_2 hn h44 h46 ⊢) <;> omega)) (by (try simp only [zp] at p_0 p_1 p_2 hn h44 h46 ⊢) <;> (try simp only [zz, Int32.reduceToInt, ne_eq] at p_0 p_1 p_2 hn h44 h46 ⊢) <;> (try simp (disch := omega) only [zb] at p_0 p_1 p_2 hn h44 h46 ⊢) <;> first | omega | ((try simp (disch := omega) only [zb] at p_0 p_1 p_2 hn h44 h46 ⊢) <;> omega))
set_option maxHeartbeats 4000000 in
set_option maxRecDepth 10000 in
theorem sX2_addRow_16_22 {T : Nat → Option Nat} {σ0 : mm_M} : ∀ (n : Nat) (a0 : Nat) (a1 : Nat) (x2 : Int32) (x3 : Int32) (x4 : Int32) (σ : mm_M), sCI T σ → sFR T KX2_addRow_22 σ0 σ → (T a0 = some 2) → (T a1 = some 22) → (0 ≤ x2.toInt ∧ 0 ≤ x3.toInt ∧ x2.toInt + x3.toInt ≤ 1000) → (x2.toInt ≤ x4.toInt ∧ x4.toInt ≤ x2.toInt + x3.toInt) → x2.toInt + x3.toInt - x4.toInt < (n : Int) → sw (fX2_addRow_16 n a0 a1 x2 x3 x4 σ) (fun R => sCI T R ∧ sFR T KX2_addRow_22 σ0 R ∧ (True)) := by
  intro n
  induction n with
  | zero => intro a0 a1 x2 x3 x4 σ c0 f0 t_a0 t_a1 p_0 p_1 hn; exfalso; exact (by (try simp only [zp] at p_0 p_1 hn ⊢) <;> (try simp only [zz, Int32.reduceToInt, ne_eq] at p_0 p_1 hn ⊢) <;> (try simp (disch := omega) only [zb] at p_0 p_1 hn ⊢) <;> first | omega | ((try simp (disch := omega) only [zb] at p_0 p_1 hn ⊢) <;> omega))
  | succ n ih =>
    intro a0 a1 x2 x3 x4 σ c0 f0 t_a0 t_a1 p_0 p_1 hn
    unfold fX2_addRow_16
    refine sw_ite (fun h48 => ?_) (fun h48 => ?_)
    · unfold fX2_addRow_39
      exact sX2_addRow_46_22 mm_fuel a0 a1 x2 x3 x4 ((x2 + x3) - 1) σ c0 f0 t_a0 t_a1 (by (try simp only [zp] at p_0 p_1 hn h48 ⊢) <;> (try simp only [zz, Int32.reduceToInt, ne_eq] at p_0 p_1 hn h48 ⊢) <;> (try simp (disch := omega) only [zb] at p_0 p_1 hn h48 ⊢) <;> first | omega | ((try simp (disch := omega) only [zb] at p_0 p_1 hn h48 ⊢) <;> omega)) (by (try simp only [zp] at p_0 p_1 hn h48 ⊢) <;> (try simp only [zz, Int32.reduceToInt, ne_eq] at p_0 p_1 hn h48 ⊢) <;> (try simp (disch := omega) only [zb] at p_0 p_1 hn h48 ⊢) <;> first | omega | ((try simp (disch := omega) only [zb] at p_0 p_1 hn h48 ⊢) <;> omega)) (by (try simp only [zp] at p_0 p_1 hn h48 ⊢) <;> (try simp only [zz, Int32.reduceToInt, ne_eq] at p_0 p_1 hn h48 ⊢) <;> (try simp (disch := omega) only [zb] at p_0 p_1 hn h48 ⊢) <;> first | omega | ((try simp (disch := omega) only [zb] at p_0 p_1 hn h48 ⊢) <;> omega)) (by have hz : (mm_fuel : Int) = 2000 := rfl; rw [hz]; exact (by (try simp only [zp] at p_0 p_1 hn h48 ⊢) <;> (try simp only [zz, Int32.reduceToInt, ne_eq] at p_0 p_1 hn h48 ⊢) <;> (try simp (disch := omega) only [zb] at p_0 p_1 hn h48 ⊢) <;> first | omega | ((try simp (disch := omega) only [zb] at p_0 p_1 hn h48 ⊢) <;> omega)))
    · refine sw_ar (ci_sh c0 t_a1 rfl) ?_
      refine sw_ib (by (try simp only [zp] at p_0 p_1 hn h48 ⊢) <;> (try simp only [zz, Int32.reduceToInt, ne_eq] at p_0 p_1 hn h48 ⊢) <;> (try simp (disch := omega) only [zb] at p_0 p_1 hn h48 ⊢) <;> first | omega | ((try simp (disch := omega) only [zb] at p_0 p_1 hn h48 ⊢) <;> omega)) ?_
      refine sw_ite (fun h49 => ?_) (fun h49 => ?_)
      · unfold fX2_addRow_39
        exact sX2_addRow_46_22 mm_fuel a0 a1 x2 x3 x4 ((x2 + x3) - 1) σ c0 f0 t_a0 t_a1 (by (try simp only [zp] at p_0 p_1 hn h48 h49 ⊢) <;> (try simp only [zz, Int32.reduceToInt, ne_eq] at p_0 p_1 hn h48 h49 ⊢) <;> (try simp (disch := omega) only [zb] at p_0 p_1 hn h48 h49 ⊢) <;> first | omega | ((try simp (disch := omega) only [zb] at p_0 p_1 hn h48 h49 ⊢) <;> omega)) (by (try simp only [zp] at p_0 p_1 hn h48 h49 ⊢) <;> (try simp only [zz, Int32.reduceToInt, ne_eq] at p_0 p_1 hn h48 h49 ⊢) <;> (try simp (disch := omega) only [zb] at p_0 p_1 hn h48 h49 ⊢) <;> first | omega | ((try simp (disch := omega) only [zb] at p_0 p_1 hn h48 h49 ⊢) <;> omega)) (by (try simp only [zp] at p_0 p_1 hn h48 h49 ⊢) <;> (try simp only [zz, Int32.reduceToInt, ne_eq] at p_0 p_1 hn h48 h49 ⊢) <;> (try simp (disch := omega) only [zb] at p_0 p_1 hn h48 h49 ⊢) <;> first | omega | ((try simp (disch := omega) only [zb] at p_0 p_1 hn h48 h49 ⊢) <;> omega)) (by have hz : (mm_fuel : Int) = 2000 := rfl; rw [hz]; exact (by (try simp only [zp] at p_0 p_1 hn h48 h49 ⊢) <;> (try simp only [zz, Int32.reduceToInt, ne_eq] at p_0 p_1 hn h48 h49 ⊢) <;> (try simp (disch := omega) only [zb] at p_0 p_1 hn h48 h49 ⊢) <;> first | omega | ((try simp (disch := omega) only [zb] at p_0 p_1 hn h48 h49 ⊢) <;> omega)))
      · exact ih a0 a1 x2 x3 (x4 + 1) σ c0 f0 t_a0 t_a1 (by (try simp only [zp] at p_0 p_1 hn h48 h49 ⊢) <;> (try simp only [zz, Int32.reduceToInt, ne_eq] at p_0 p_1 hn h48 h49 ⊢) <;> (try simp (disch := omega) only [zb] at p_0 p_1 hn h48 h49 ⊢) <;> first | omega | ((try simp (disch := omega) only [zb] at p_0 p_1 hn h48 h49 ⊢) <;> omega)) (by (try simp only [zp] at p_0 p_1 hn h48 h49 ⊢) <;> (try simp only [zz, Int32.reduceToInt, ne_eq] at p_0 p_1 hn h48 h49 ⊢) <;> (try simp (disch := omega) only [zb] at p_0 p_1 hn h48 h49 ⊢) <;> first | omega | ((try simp (disch := omega) only [zb] at p_0 p_1 hn h48 h49 ⊢) <;> omega)) (by (try simp only [zp] at p_0 p_1 hn h48 h49 ⊢) <;> (try simp only [zz, Int32.reduceToInt, ne_eq] at p_0 p_1 hn h48 h49 ⊢) <;> (try simp (disch := omega) only [zb] at p_0 p_1 hn h48 h49 ⊢) <;> first | omega | ((try simp (disch := omega) only [zb] at p_0 p_1 hn h48 h49 ⊢) <;> omega))
set_option maxHeartbeats 4000000 in
set_option maxRecDepth 10000 in
theorem sX2_addRow_22 {T : Nat → Option Nat} {σ0 : mm_M} {p0 : Nat} {p1 : Nat} {p2 : Int32} {p3 : Int32} (c0 : sCI T σ0) (t_p0 : T p0 = some 2) (t_p1 : T p1 = some 22) (p_0 : 0 ≤ p2.toInt ∧ p2.toInt ≤ 1000) (p_1 : 0 ≤ p3.toInt ∧ p3.toInt ≤ 40) : sw (fX2_addRow p0 p1 p2 p3 σ0) (fun R => sCI T R ∧ sFR T KX2_addRow_22 σ0 R ∧ (True)) := by
  have f0 : sFR T KX2_addRow_22 σ0 σ0 := fr_refl
  unfold fX2_addRow
  refine sw_ite (fun h50 => ?_) (fun h50 => ?_)
  · exact sw_some ⟨c0, f0, trivial⟩
  · refine sw_ar (ci_sh c0 t_p1 rfl) ?_
    refine sw_ite (fun h51 => ?_) (fun h51 => ?_)
    · exact sX2_addRow_16_22 mm_fuel p0 p1 p2 p3 p2 σ0 c0 f0 t_p0 t_p1 (by (try simp only [zp] at p_0 p_1 h50 h51 ⊢) <;> (try simp only [zz, Int32.reduceToInt, ne_eq] at p_0 p_1 h50 h51 ⊢) <;> (try simp (disch := omega) only [zb] at p_0 p_1 h50 h51 ⊢) <;> first | omega | ((try simp (disch := omega) only [zb] at p_0 p_1 h50 h51 ⊢) <;> omega)) (by (try simp only [zp] at p_0 p_1 h50 h51 ⊢) <;> (try simp only [zz, Int32.reduceToInt, ne_eq] at p_0 p_1 h50 h51 ⊢) <;> (try simp (disch := omega) only [zb] at p_0 p_1 h50 h51 ⊢) <;> first | omega | ((try simp (disch := omega) only [zb] at p_0 p_1 h50 h51 ⊢) <;> omega)) (by have hz : (mm_fuel : Int) = 2000 := rfl; rw [hz]; exact (by (try simp only [zp] at p_0 p_1 h50 h51 ⊢) <;> (try simp only [zz, Int32.reduceToInt, ne_eq] at p_0 p_1 h50 h51 ⊢) <;> (try simp (disch := omega) only [zb] at p_0 p_1 h50 h51 ⊢) <;> first | omega | ((try simp (disch := omega) only [zb] at p_0 p_1 h50 h51 ⊢) <;> omega)))
    · exact sw_some ⟨c0, f0, trivial⟩
abbrev KX4_addTo : List Nat := [2, 26]
set_option maxHeartbeats 4000000 in
set_option maxRecDepth 10000 in
theorem sX4_addTo_2 {T : Nat → Option Nat} {σ0 : mm_M} : ∀ (n : Nat) (a0 : Nat) (a1 : Nat) (x2 : Int32) (σ : mm_M), sCI T σ → sFR T KX4_addTo σ0 σ → (T a0 = some 4) → (T a1 = some 2) → (1 ≤ x2.toInt ∧ x2.toInt ≤ 25) → 25 - x2.toInt < (n : Int) → sw (fX4_addTo_2 n a0 a1 x2 σ) (fun R => sCI T R ∧ sFR T KX4_addTo σ0 R ∧ (True)) := by
  intro n
  induction n with
  | zero => intro a0 a1 x2 σ c0 f0 t_a0 t_a1 p_0 hn; exfalso; exact (by (try simp only [zp] at p_0 hn ⊢) <;> (try simp only [zz, Int32.reduceToInt, ne_eq] at p_0 hn ⊢) <;> (try simp (disch := omega) only [zb] at p_0 hn ⊢) <;> first | omega | ((try simp (disch := omega) only [zb] at p_0 hn ⊢) <;> omega))
  | succ n ih =>
    intro a0 a1 x2 σ c0 f0 t_a0 t_a1 p_0 hn
    unfold fX4_addTo_2
    refine sw_ite (fun h52 => ?_) (fun h52 => ?_)
    · exact sw_some ⟨c0, f0, trivial⟩
    · refine sw_sh (ci_sh c0 t_a0 rfl) ?_
      obtain ⟨q3, eq3, tq3⟩ := ci_ref c0 t_a0 1 (κ' := 23) rfl
      refine sw_onS eq3 ?_
      refine sw_ar (ci_sh c0 tq3 rfl) ?_
      refine sw_ib (by (try simp only [zp] at p_0 hn h52 ⊢) <;> (try simp only [zz, Int32.reduceToInt, ne_eq] at p_0 hn h52 ⊢) <;> (try simp (disch := omega) only [zb] at p_0 hn h52 ⊢) <;> first | omega | ((try simp (disch := omega) only [zb] at p_0 hn h52 ⊢) <;> omega)) ?_
      have r53 := ci_rg c0 tq3 x2.toNatClampNeg (lo := 0) (hi := 1) rfl
      refine sw_ite (fun h54 => ?_) (fun h54 => ?_)
      · exact ih a0 a1 (x2 + 1) σ c0 f0 t_a0 t_a1 (by (try simp only [zp] at p_0 hn h52 r53 h54 ⊢) <;> (try simp only [zz, Int32.reduceToInt, ne_eq] at p_0 hn h52 r53 h54 ⊢) <;> (try simp (disch := omega) only [zb] at p_0 hn h52 r53 h54 ⊢) <;> first | omega | ((try simp (disch := omega) only [zb] at p_0 hn h52 r53 h54 ⊢) <;> omega)) (by (try simp only [zp] at p_0 hn h52 r53 h54 ⊢) <;> (try simp only [zz, Int32.reduceToInt, ne_eq] at p_0 hn h52 r53 h54 ⊢) <;> (try simp (disch := omega) only [zb] at p_0 hn h52 r53 h54 ⊢) <;> first | omega | ((try simp (disch := omega) only [zb] at p_0 hn h52 r53 h54 ⊢) <;> omega))
      · obtain ⟨q7, eq7, tq7⟩ := ci_ref c0 t_a0 0 (κ' := 22) rfl
        refine sw_onS eq7 ?_
        refine sw_sh (ci_sh c0 t_a1 rfl) ?_
        refine sw_on (sX2_addRow_22 c0 t_a1 tq7 (by (try simp only [zp] at p_0 hn h52 r53 h54 ⊢) <;> (try simp only [zz, Int32.reduceToInt, ne_eq] at p_0 hn h52 r53 h54 ⊢) <;> (try simp (disch := omega) only [zb] at p_0 hn h52 r53 h54 ⊢) <;> first | omega | ((try simp (disch := omega) only [zb] at p_0 hn h52 r53 h54 ⊢) <;> omega)) (by (try simp only [zp] at p_0 hn h52 r53 h54 ⊢) <;> (try simp only [zz, Int32.reduceToInt, ne_eq] at p_0 hn h52 r53 h54 ⊢) <;> (try simp (disch := omega) only [zb] at p_0 hn h52 r53 h54 ⊢) <;> first | omega | ((try simp (disch := omega) only [zb] at p_0 hn h52 r53 h54 ⊢) <;> omega)) ) ?_
        intro q9 hqq9
        obtain ⟨cq9, gq9, xq9⟩ := hqq9
        have fq9 := fr_trans f0 gq9 rfl
        exact ih a0 a1 (x2 + 1) q9 cq9 fq9 t_a0 t_a1 (by (try simp only [zp] at p_0 hn h52 r53 h54 ⊢) <;> (try simp only [zz, Int32.reduceToInt, ne_eq] at p_0 hn h52 r53 h54 ⊢) <;> (try simp (disch := omega) only [zb] at p_0 hn h52 r53 h54 ⊢) <;> first | omega | ((try simp (disch := omega) only [zb] at p_0 hn h52 r53 h54 ⊢) <;> omega)) (by (try simp only [zp] at p_0 hn h52 r53 h54 ⊢) <;> (try simp only [zz, Int32.reduceToInt, ne_eq] at p_0 hn h52 r53 h54 ⊢) <;> (try simp (disch := omega) only [zb] at p_0 hn h52 r53 h54 ⊢) <;> first | omega | ((try simp (disch := omega) only [zb] at p_0 hn h52 r53 h54 ⊢) <;> omega))
set_option maxHeartbeats 4000000 in
set_option maxRecDepth 10000 in
theorem sX4_addTo {T : Nat → Option Nat} {σ0 : mm_M} {p0 : Nat} {p1 : Nat} (c0 : sCI T σ0) (t_p0 : T p0 = some 4) (t_p1 : T p1 = some 2) : sw (fX4_addTo p0 p1 σ0) (fun R => sCI T R ∧ sFR T KX4_addTo σ0 R ∧ (True)) := by
  have f0 : sFR T KX4_addTo σ0 σ0 := fr_refl
  unfold fX4_addTo
  exact sX4_addTo_2 mm_fuel p0 p1 1 σ0 c0 f0 t_p0 t_p1 (by (try simp only [zp] at ⊢) <;> (try simp only [zz, Int32.reduceToInt, ne_eq] at ⊢) <;> (try simp (disch := omega) only [zb] at ⊢) <;> first | omega | ((try simp (disch := omega) only [zb] at ⊢) <;> omega)) (by have hz : (mm_fuel : Int) = 2000 := rfl; rw [hz]; exact (by (try simp only [zp] at ⊢) <;> (try simp only [zz, Int32.reduceToInt, ne_eq] at ⊢) <;> (try simp (disch := omega) only [zb] at ⊢) <;> first | omega | ((try simp (disch := omega) only [zb] at ⊢) <;> omega)))
set_option maxHeartbeats 4000000 in
set_option maxRecDepth 10000 in
theorem sX5_letterAt {T : Nat → Option Nat} {σ0 : mm_M} {p0 : Nat} {p1 : Int32} {p2 : Int32} (c0 : sCI T σ0) (t_p0 : T p0 = some 5) : sw (fX5_letterAt p0 p1 p2 σ0) (fun R => R.2 = σ0 ∧ (True)) := by
  unfold fX5_letterAt
  refine sw_ite (fun h55 => ?_) (fun h55 => ?_)
  · exact sw_some ⟨rfl, trivial⟩
  · refine sw_sh (ci_sh c0 t_p0 rfl) ?_
    obtain ⟨q3, eq3, tq3⟩ := ci_ref c0 t_p0 0 (κ' := 20) rfl
    refine sw_onS eq3 ?_
    refine sw_ar (ci_sh c0 tq3 rfl) ?_
    refine sw_ib (by (try simp only [zp] at h55 ⊢) <;> (try simp only [zz, Int32.reduceToInt, ne_eq] at h55 ⊢) <;> (try simp (disch := omega) only [zb] at h55 ⊢) <;> first | omega | ((try simp (disch := omega) only [zb] at h55 ⊢) <;> omega)) ?_
    exact sw_some ⟨rfl, trivial⟩
set_option maxHeartbeats 4000000 in
set_option maxRecDepth 10000 in
theorem sX5_lookAt {T : Nat → Option Nat} {σ0 : mm_M} {p0 : Nat} {p1 : Int32} {p2 : Int32} (c0 : sCI T σ0) (t_p0 : T p0 = some 5) : sw (fX5_lookAt p0 p1 p2 σ0) (fun R => R.2 = σ0 ∧ (True)) := by
  unfold fX5_lookAt
  refine sw_ite (fun h56 => ?_) (fun h56 => ?_)
  · exact sw_some ⟨rfl, trivial⟩
  · refine sw_sh (ci_sh c0 t_p0 rfl) ?_
    obtain ⟨q3, eq3, tq3⟩ := ci_ref c0 t_p0 1 (κ' := 21) rfl
    refine sw_onS eq3 ?_
    refine sw_ar (ci_sh c0 tq3 rfl) ?_
    refine sw_ib (by (try simp only [zp] at h56 ⊢) <;> (try simp only [zz, Int32.reduceToInt, ne_eq] at h56 ⊢) <;> (try simp (disch := omega) only [zb] at h56 ⊢) <;> first | omega | ((try simp (disch := omega) only [zb] at h56 ⊢) <;> omega)) ?_
    exact sw_some ⟨rfl, trivial⟩
abbrev KX5_write : List Nat := [20, 21]
set_option maxHeartbeats 4000000 in
set_option maxRecDepth 10000 in
theorem sX5_write {T : Nat → Option Nat} {σ0 : mm_M} {p0 : Nat} {p1 : Int32} {p2 : Int32} {p3 : Int32} {p4 : Int32} (c0 : sCI T σ0) (t_p0 : T p0 = some 5) : sw (fX5_write p0 p1 p2 p3 p4 σ0) (fun R => sCI T R ∧ sFR T KX5_write σ0 R ∧ (True)) := by
  have f0 : sFR T KX5_write σ0 σ0 := fr_refl
  unfold fX5_write
  refine sw_ite (fun h57 => ?_) (fun h57 => ?_)
  · exact sw_some ⟨c0, f0, trivial⟩
  · refine sw_sh (ci_sh c0 t_p0 rfl) ?_
    obtain ⟨q3, eq3, tq3⟩ := ci_ref c0 t_p0 0 (κ' := 20) rfl
    refine sw_onS eq3 ?_
    refine sw_ar (ci_sh c0 tq3 rfl) ?_
    refine sw_ib (by (try simp only [zp] at h57 ⊢) <;> (try simp only [zz, Int32.reduceToInt, ne_eq] at h57 ⊢) <;> (try simp (disch := omega) only [zb] at h57 ⊢) <;> first | omega | ((try simp (disch := omega) only [zb] at h57 ⊢) <;> omega)) ?_
    have cs6 := ci_wI c0 tq3 (j := (fX5_indexOf p1 p2).toNatClampNeg) (v := p3) (kr_n rfl)
    have fs6 := fr_wI f0 tq3 (j := (fX5_indexOf p1 p2).toNatClampNeg) (v := p3) rfl
    refine sw_let (fun s6 es6 => ?_)
    rw [es6] at cs6 fs6
    obtain ⟨q7, eq7, tq7⟩ := ci_ref cs6 t_p0 1 (κ' := 21) rfl
    refine sw_onS eq7 ?_
    refine sw_ar (ci_sh cs6 tq7 rfl) ?_
    refine sw_ib (by (try simp only [zp] at h57 ⊢) <;> (try simp only [zz, Int32.reduceToInt, ne_eq] at h57 ⊢) <;> (try simp (disch := omega) only [zb] at h57 ⊢) <;> first | omega | ((try simp (disch := omega) only [zb] at h57 ⊢) <;> omega)) ?_
    have cs10 := ci_wI cs6 tq7 (j := (fX5_indexOf p1 p2).toNatClampNeg) (v := p4) (kr_n rfl)
    have fs10 := fr_wI fs6 tq7 (j := (fX5_indexOf p1 p2).toNatClampNeg) (v := p4) rfl
    refine sw_let (fun s10 es10 => ?_)
    rw [es10] at cs10 fs10
    exact sw_some ⟨cs10, fs10, trivial⟩
abbrev KX5_eraseFrom : List Nat := [20, 21]
set_option maxHeartbeats 4000000 in
set_option maxRecDepth 10000 in
theorem sX5_eraseFrom {T : Nat → Option Nat} {σ0 : mm_M} {p0 : Nat} {p1 : Int32} {p2 : Int32} (c0 : sCI T σ0) (t_p0 : T p0 = some 5) : sw (fX5_eraseFrom p0 p1 p2 σ0) (fun R => sCI T R ∧ sFR T KX5_eraseFrom σ0 R ∧ (True)) := by
  have f0 : sFR T KX5_eraseFrom σ0 σ0 := fr_refl
  unfold fX5_eraseFrom
  refine sw_ite (fun h58 => ?_) (fun h58 => ?_)
  · exact sw_some ⟨c0, f0, trivial⟩
  · refine sw_sh (ci_sh c0 t_p0 rfl) ?_
    refine sw_on (sX5_eraseCells c0 t_p0 (by (try simp only [zp] at h58 ⊢) <;> (try simp only [zz, Int32.reduceToInt, ne_eq] at h58 ⊢) <;> (try simp (disch := omega) only [zb] at h58 ⊢) <;> first | omega | ((try simp (disch := omega) only [zb] at h58 ⊢) <;> omega)) ) ?_
    intro q3 hqq3
    obtain ⟨cq3, gq3, xq3⟩ := hqq3
    have fq3 := fr_trans f0 gq3 rfl
    exact sw_some ⟨cq3, fq3, trivial⟩
abbrev KX5_eraseRowsAbove : List Nat := [20, 21]
set_option maxHeartbeats 4000000 in
set_option maxRecDepth 10000 in
theorem sX5_eraseRowsAbove {T : Nat → Option Nat} {σ0 : mm_M} {p0 : Nat} {p1 : Int32} (c0 : sCI T σ0) (t_p0 : T p0 = some 5) : sw (fX5_eraseRowsAbove p0 p1 σ0) (fun R => sCI T R ∧ sFR T KX5_eraseRowsAbove σ0 R ∧ (True)) := by
  have f0 : sFR T KX5_eraseRowsAbove σ0 σ0 := fr_refl
  unfold fX5_eraseRowsAbove
  refine sw_sh (ci_sh c0 t_p0 rfl) ?_
  refine sw_on (sX5_eraseCells c0 t_p0 (by (try simp only [zp] at ⊢) <;> (try simp only [zz, Int32.reduceToInt, ne_eq] at ⊢) <;> (try simp (disch := omega) only [zb] at ⊢) <;> first | omega | ((try simp (disch := omega) only [zb] at ⊢) <;> omega)) ) ?_
  intro q2 hqq2
  obtain ⟨cq2, gq2, xq2⟩ := hqq2
  have fq2 := fr_trans f0 gq2 rfl
  exact sw_some ⟨cq2, fq2, trivial⟩
abbrev KX5_eraseAll : List Nat := [20, 21]
set_option maxHeartbeats 4000000 in
set_option maxRecDepth 10000 in
theorem sX5_eraseAll {T : Nat → Option Nat} {σ0 : mm_M} {p0 : Nat} (c0 : sCI T σ0) (t_p0 : T p0 = some 5) : sw (fX5_eraseAll p0 σ0) (fun R => sCI T R ∧ sFR T KX5_eraseAll σ0 R ∧ (True)) := by
  have f0 : sFR T KX5_eraseAll σ0 σ0 := fr_refl
  unfold fX5_eraseAll
  refine sw_sh (ci_sh c0 t_p0 rfl) ?_
  refine sw_on (sX5_eraseCells c0 t_p0 (by (try simp only [zp] at ⊢) <;> (try simp only [zz, Int32.reduceToInt, ne_eq] at ⊢) <;> (try simp (disch := omega) only [zb] at ⊢) <;> first | omega | ((try simp (disch := omega) only [zb] at ⊢) <;> omega)) ) ?_
  intro q2 hqq2
  obtain ⟨cq2, gq2, xq2⟩ := hqq2
  have fq2 := fr_trans f0 gq2 rfl
  exact sw_some ⟨cq2, fq2, trivial⟩
abbrev KX5_moveRow : List Nat := [20, 21]
set_option maxHeartbeats 4000000 in
set_option maxRecDepth 10000 in
theorem sX5_moveRow {T : Nat → Option Nat} {σ0 : mm_M} {p0 : Nat} {p1 : Int32} {p2 : Int32} (c0 : sCI T σ0) (t_p0 : T p0 = some 5) : sw (fX5_moveRow p0 p1 p2 σ0) (fun R => sCI T R ∧ sFR T KX5_moveRow σ0 R ∧ (True)) := by
  have f0 : sFR T KX5_moveRow σ0 σ0 := fr_refl
  unfold fX5_moveRow
  refine sw_ite (fun h59 => ?_) (fun h59 => ?_)
  · exact sw_some ⟨c0, f0, trivial⟩
  · refine sw_ite (fun h60 => ?_) (fun h60 => ?_)
    · exact sw_some ⟨c0, f0, trivial⟩
    · refine sw_ite (fun h61 => ?_) (fun h61 => ?_)
      · exact sw_some ⟨c0, f0, trivial⟩
      · refine sw_sh (ci_sh c0 t_p0 rfl) ?_
        obtain ⟨q5, eq5, tq5⟩ := ci_ref c0 t_p0 0 (κ' := 20) rfl
        refine sw_onS eq5 ?_
        refine sw_ar (ci_sh c0 tq5 rfl) ?_
        refine sw_ck ⟨(by (try simp only [zp] at h59 h60 h61 ⊢) <;> (try simp only [zz, Int32.reduceToInt, ne_eq] at h59 h60 h61 ⊢) <;> (try simp (disch := omega) only [zb] at h59 h60 h61 ⊢) <;> first | omega | ((try simp (disch := omega) only [zb] at h59 h60 h61 ⊢) <;> omega)), (by (try simp only [zp] at h59 h60 h61 ⊢) <;> (try simp only [zz, Int32.reduceToInt, ne_eq] at h59 h60 h61 ⊢) <;> (try simp (disch := omega) only [zb] at h59 h60 h61 ⊢) <;> first | omega | ((try simp (disch := omega) only [zb] at h59 h60 h61 ⊢) <;> omega)), by decide, (by (try simp only [zp] at h59 h60 h61 ⊢) <;> (try simp only [zz, Int32.reduceToInt, ne_eq] at h59 h60 h61 ⊢) <;> (try simp (disch := omega) only [zb] at h59 h60 h61 ⊢) <;> first | omega | ((try simp (disch := omega) only [zb] at h59 h60 h61 ⊢) <;> omega)), (by (try simp only [zp] at h59 h60 h61 ⊢) <;> (try simp only [zz, Int32.reduceToInt, ne_eq] at h59 h60 h61 ⊢) <;> (try simp (disch := omega) only [zb] at h59 h60 h61 ⊢) <;> first | omega | ((try simp (disch := omega) only [zb] at h59 h60 h61 ⊢) <;> omega)), fun _ _ => rfl⟩ ?_
        have cs8 := ci_wA c0 tq5 (f := va_cpy (mm_I σ0 q5) (mm_I σ0 q5) (fX5_indexOf p1 0).toNatClampNeg (fX5_indexOf p2 0).toNatClampNeg (32 : Int32).toNatClampNeg) (fun _ => kr_n rfl)
        have fs8 := fr_wA f0 tq5 (g := va_cpy (mm_I σ0 q5) (mm_I σ0 q5) (fX5_indexOf p1 0).toNatClampNeg (fX5_indexOf p2 0).toNatClampNeg (32 : Int32).toNatClampNeg) (fun _ => rfl)
        refine sw_let (fun s8 es8 => ?_)
        rw [es8] at cs8 fs8
        obtain ⟨q9, eq9, tq9⟩ := ci_ref cs8 t_p0 1 (κ' := 21) rfl
        refine sw_onS eq9 ?_
        refine sw_ar (ci_sh cs8 tq9 rfl) ?_
        refine sw_ck ⟨(by (try simp only [zp] at h59 h60 h61 ⊢) <;> (try simp only [zz, Int32.reduceToInt, ne_eq] at h59 h60 h61 ⊢) <;> (try simp (disch := omega) only [zb] at h59 h60 h61 ⊢) <;> first | omega | ((try simp (disch := omega) only [zb] at h59 h60 h61 ⊢) <;> omega)), (by (try simp only [zp] at h59 h60 h61 ⊢) <;> (try simp only [zz, Int32.reduceToInt, ne_eq] at h59 h60 h61 ⊢) <;> (try simp (disch := omega) only [zb] at h59 h60 h61 ⊢) <;> first | omega | ((try simp (disch := omega) only [zb] at h59 h60 h61 ⊢) <;> omega)), by decide, (by (try simp only [zp] at h59 h60 h61 ⊢) <;> (try simp only [zz, Int32.reduceToInt, ne_eq] at h59 h60 h61 ⊢) <;> (try simp (disch := omega) only [zb] at h59 h60 h61 ⊢) <;> first | omega | ((try simp (disch := omega) only [zb] at h59 h60 h61 ⊢) <;> omega)), (by (try simp only [zp] at h59 h60 h61 ⊢) <;> (try simp only [zz, Int32.reduceToInt, ne_eq] at h59 h60 h61 ⊢) <;> (try simp (disch := omega) only [zb] at h59 h60 h61 ⊢) <;> first | omega | ((try simp (disch := omega) only [zb] at h59 h60 h61 ⊢) <;> omega)), fun _ _ => rfl⟩ ?_
        have cs12 := ci_wA cs8 tq9 (f := va_cpy (mm_I s8 q9) (mm_I s8 q9) (fX5_indexOf p1 0).toNatClampNeg (fX5_indexOf p2 0).toNatClampNeg (32 : Int32).toNatClampNeg) (fun _ => kr_n rfl)
        have fs12 := fr_wA fs8 tq9 (g := va_cpy (mm_I s8 q9) (mm_I s8 q9) (fX5_indexOf p1 0).toNatClampNeg (fX5_indexOf p2 0).toNatClampNeg (32 : Int32).toNatClampNeg) (fun _ => rfl)
        refine sw_let (fun s12 es12 => ?_)
        rw [es12] at cs12 fs12
        refine sw_on (sX5_eraseCells cs12 t_p0 (by (try simp only [zp] at h59 h60 h61 ⊢) <;> (try simp only [zz, Int32.reduceToInt, ne_eq] at h59 h60 h61 ⊢) <;> (try simp (disch := omega) only [zb] at h59 h60 h61 ⊢) <;> first | omega | ((try simp (disch := omega) only [zb] at h59 h60 h61 ⊢) <;> omega)) ) ?_
        intro q13 hqq13
        obtain ⟨cq13, gq13, xq13⟩ := hqq13
        have fq13 := fr_trans fs12 gq13 rfl
        exact sw_some ⟨cq13, fq13, trivial⟩
abbrev KX5_addTo : List Nat := [2, 26]
set_option maxHeartbeats 4000000 in
set_option maxRecDepth 10000 in
theorem sX5_addTo_2 {T : Nat → Option Nat} {σ0 : mm_M} : ∀ (n : Nat) (a0 : Nat) (a1 : Nat) (x2 : Int32) (σ : mm_M), sCI T σ → sFR T KX5_addTo σ0 σ → (T a0 = some 5) → (T a1 = some 2) → (1 ≤ x2.toInt ∧ x2.toInt ≤ 16) → 16 - x2.toInt < (n : Int) → sw (fX5_addTo_2 n a0 a1 x2 σ) (fun R => sCI T R ∧ sFR T KX5_addTo σ0 R ∧ (True)) := by
  intro n
  induction n with
  | zero => intro a0 a1 x2 σ c0 f0 t_a0 t_a1 p_0 hn; exfalso; exact (by (try simp only [zp] at p_0 hn ⊢) <;> (try simp only [zz, Int32.reduceToInt, ne_eq] at p_0 hn ⊢) <;> (try simp (disch := omega) only [zb] at p_0 hn ⊢) <;> first | omega | ((try simp (disch := omega) only [zb] at p_0 hn ⊢) <;> omega))
  | succ n ih =>
    intro a0 a1 x2 σ c0 f0 t_a0 t_a1 p_0 hn
    unfold fX5_addTo_2
    refine sw_ite (fun h62 => ?_) (fun h62 => ?_)
    · exact sw_some ⟨c0, f0, trivial⟩
    · refine sw_sh (ci_sh c0 t_a0 rfl) ?_
      obtain ⟨q3, eq3, tq3⟩ := ci_ref c0 t_a0 0 (κ' := 20) rfl
      refine sw_onS eq3 ?_
      refine sw_sh (ci_sh c0 t_a1 rfl) ?_
      refine sw_on (sX2_addRow_20 c0 t_a1 tq3 (by (try simp only [zp] at p_0 hn h62 ⊢) <;> (try simp only [zz, Int32.reduceToInt, ne_eq] at p_0 hn h62 ⊢) <;> (try simp (disch := omega) only [zb] at p_0 hn h62 ⊢) <;> first | omega | ((try simp (disch := omega) only [zb] at p_0 hn h62 ⊢) <;> omega)) (by (try simp only [zp] at p_0 hn h62 ⊢) <;> (try simp only [zz, Int32.reduceToInt, ne_eq] at p_0 hn h62 ⊢) <;> (try simp (disch := omega) only [zb] at p_0 hn h62 ⊢) <;> first | omega | ((try simp (disch := omega) only [zb] at p_0 hn h62 ⊢) <;> omega)) ) ?_
      intro q5 hqq5
      obtain ⟨cq5, gq5, xq5⟩ := hqq5
      have fq5 := fr_trans f0 gq5 rfl
      exact ih a0 a1 (x2 + 1) q5 cq5 fq5 t_a0 t_a1 (by (try simp only [zp] at p_0 hn h62 ⊢) <;> (try simp only [zz, Int32.reduceToInt, ne_eq] at p_0 hn h62 ⊢) <;> (try simp (disch := omega) only [zb] at p_0 hn h62 ⊢) <;> first | omega | ((try simp (disch := omega) only [zb] at p_0 hn h62 ⊢) <;> omega)) (by (try simp only [zp] at p_0 hn h62 ⊢) <;> (try simp only [zz, Int32.reduceToInt, ne_eq] at p_0 hn h62 ⊢) <;> (try simp (disch := omega) only [zb] at p_0 hn h62 ⊢) <;> first | omega | ((try simp (disch := omega) only [zb] at p_0 hn h62 ⊢) <;> omega))
set_option maxHeartbeats 4000000 in
set_option maxRecDepth 10000 in
theorem sX5_addTo {T : Nat → Option Nat} {σ0 : mm_M} {p0 : Nat} {p1 : Nat} (c0 : sCI T σ0) (t_p0 : T p0 = some 5) (t_p1 : T p1 = some 2) : sw (fX5_addTo p0 p1 σ0) (fun R => sCI T R ∧ sFR T KX5_addTo σ0 R ∧ (True)) := by
  have f0 : sFR T KX5_addTo σ0 σ0 := fr_refl
  unfold fX5_addTo
  exact sX5_addTo_2 mm_fuel p0 p1 1 σ0 c0 f0 t_p0 t_p1 (by (try simp only [zp] at ⊢) <;> (try simp only [zz, Int32.reduceToInt, ne_eq] at ⊢) <;> (try simp (disch := omega) only [zb] at ⊢) <;> first | omega | ((try simp (disch := omega) only [zb] at ⊢) <;> omega)) (by have hz : (mm_fuel : Int) = 2000 := rfl; rw [hz]; exact (by (try simp only [zp] at ⊢) <;> (try simp only [zz, Int32.reduceToInt, ne_eq] at ⊢) <;> (try simp (disch := omega) only [zb] at ⊢) <;> first | omega | ((try simp (disch := omega) only [zb] at ⊢) <;> omega)))
set_option maxHeartbeats 4000000 in
set_option maxRecDepth 10000 in
theorem sX6_pageAt {T : Nat → Option Nat} {σ0 : mm_M} {p0 : Nat} {p1 : Int32} (c0 : sCI T σ0) (t_p0 : T p0 = some 6) : sw (fX6_pageAt p0 p1 σ0) (fun R => R.2 = σ0 ∧ (∀ q, R.1 = some q → T q = some 3)) := by
  unfold fX6_pageAt
  refine sw_sh (ci_sh c0 t_p0 rfl) ?_
  have r63 := ci_rg c0 t_p0 1 (lo := 0) (hi := 20) rfl
  refine sw_ite (fun h64 => ?_) (fun h64 => ?_)
  · refine sw_ite (fun h65 => ?_) (fun h65 => ?_)
    · obtain ⟨q4, eq4, tq4⟩ := ci_ref c0 t_p0 0 (κ' := 25) rfl
      refine sw_onS eq4 ?_
      refine sw_ar (ci_sh c0 tq4 rfl) ?_
      refine sw_ib (by (try simp only [zp] at r63 h64 h65 ⊢) <;> (try simp only [zz, Int32.reduceToInt, ne_eq] at r63 h64 h65 ⊢) <;> (try simp (disch := omega) only [zb] at r63 h64 h65 ⊢) <;> first | omega | ((try simp (disch := omega) only [zb] at r63 h64 h65 ⊢) <;> omega)) ?_
      exact sw_some ⟨rfl, (fun q e => ci_nul c0 tq4 rfl e)⟩
    · exact sw_some ⟨rfl, (fun q e => by cases e)⟩
  · exact sw_some ⟨rfl, (fun q e => by cases e)⟩
set_option maxHeartbeats 4000000 in
set_option maxRecDepth 10000 in
theorem sX6_placeOf_8 {T : Nat → Option Nat} {σ0 : mm_M} : ∀ (n : Nat) (a0 : Nat) (x1 : Int32) (x2 : Int32) (x3 : Int32) (x4 : Int32), sCI T σ0 → (T a0 = some 6) → (-1 ≤ x4.toInt ∧ x4.toInt ≤ 19) → x4.toInt + 1 < (n : Int) → sw (fX6_placeOf_8 n a0 x1 x2 x3 x4 σ0) (fun R => R.2 = σ0 ∧ (-1 ≤ R.1.toInt ∧ R.1.toInt ≤ 19)) := by
  intro n
  induction n with
  | zero => intro a0 x1 x2 x3 x4 c0 t_a0 p_0 hn; exfalso; exact (by (try simp only [zp] at p_0 hn ⊢) <;> (try simp only [zz, Int32.reduceToInt, ne_eq] at p_0 hn ⊢) <;> (try simp (disch := omega) only [zb] at p_0 hn ⊢) <;> first | omega | ((try simp (disch := omega) only [zb] at p_0 hn ⊢) <;> omega))
  | succ n ih =>
    intro a0 x1 x2 x3 x4 c0 t_a0 p_0 hn
    unfold fX6_placeOf_8
    refine sw_ite (fun h66 => ?_) (fun h66 => ?_)
    · exact sw_some ⟨rfl, (by (try simp only [zp] at p_0 hn h66 ⊢) <;> (try simp only [zz, Int32.reduceToInt, ne_eq] at p_0 hn h66 ⊢) <;> (try simp (disch := omega) only [zb] at p_0 hn h66 ⊢) <;> first | omega | ((try simp (disch := omega) only [zb] at p_0 hn h66 ⊢) <;> omega))⟩
    · refine sw_sh (ci_sh c0 t_a0 rfl) ?_
      refine sw_on (sX6_pageAt c0 t_a0  ) ?_
      intro q4 hqq4
      obtain ⟨eq4, xq4⟩ := hqq4
      (try rw [eq4])
      refine sw_nu (fun eq5 => ?_) (fun q5 eq5 => ?_)
      · exact ih a0 x1 x2 x3 (x4 + (-1)) c0 t_a0 (by (try simp only [zp] at p_0 hn h66 ⊢) <;> (try simp only [zz, Int32.reduceToInt, ne_eq] at p_0 hn h66 ⊢) <;> (try simp (disch := omega) only [zb] at p_0 hn h66 ⊢) <;> first | omega | ((try simp (disch := omega) only [zb] at p_0 hn h66 ⊢) <;> omega)) (by (try simp only [zp] at p_0 hn h66 ⊢) <;> (try simp only [zz, Int32.reduceToInt, ne_eq] at p_0 hn h66 ⊢) <;> (try simp (disch := omega) only [zb] at p_0 hn h66 ⊢) <;> first | omega | ((try simp (disch := omega) only [zb] at p_0 hn h66 ⊢) <;> omega))
      · have tq5 := xq4 q5 eq5
        refine sw_sh (ci_sh c0 tq5 rfl) ?_
        refine sw_on (sX3_hasName c0 tq5  ) ?_
        intro q7 hqq7
        obtain ⟨eq7, xq7⟩ := hqq7
        (try rw [eq7])
        refine sw_ite (fun h67 => ?_) (fun h67 => ?_)
        · exact ih a0 x1 x2 x3 (x4 + (-1)) c0 t_a0 (by (try simp only [zp] at p_0 hn h66 h67 ⊢) <;> (try simp only [zz, Int32.reduceToInt, ne_eq] at p_0 hn h66 h67 ⊢) <;> (try simp (disch := omega) only [zb] at p_0 hn h66 h67 ⊢) <;> first | omega | ((try simp (disch := omega) only [zb] at p_0 hn h66 h67 ⊢) <;> omega)) (by (try simp only [zp] at p_0 hn h66 h67 ⊢) <;> (try simp only [zz, Int32.reduceToInt, ne_eq] at p_0 hn h66 h67 ⊢) <;> (try simp (disch := omega) only [zb] at p_0 hn h66 h67 ⊢) <;> first | omega | ((try simp (disch := omega) only [zb] at p_0 hn h66 h67 ⊢) <;> omega))
        · exact sw_some ⟨rfl, (by (try simp only [zp] at p_0 hn h66 h67 ⊢) <;> (try simp only [zz, Int32.reduceToInt, ne_eq] at p_0 hn h66 h67 ⊢) <;> (try simp (disch := omega) only [zb] at p_0 hn h66 h67 ⊢) <;> first | omega | ((try simp (disch := omega) only [zb] at p_0 hn h66 h67 ⊢) <;> omega))⟩
set_option maxHeartbeats 4000000 in
set_option maxRecDepth 10000 in
theorem sX6_placeOf {T : Nat → Option Nat} {σ0 : mm_M} {p0 : Nat} {p1 : Int32} {p2 : Int32} {p3 : Int32} (c0 : sCI T σ0) (t_p0 : T p0 = some 6) : sw (fX6_placeOf p0 p1 p2 p3 σ0) (fun R => R.2 = σ0 ∧ (-1 ≤ R.1.toInt ∧ R.1.toInt ≤ 19)) := by
  unfold fX6_placeOf
  refine sw_sh (ci_sh c0 t_p0 rfl) ?_
  have r68 := ci_rg c0 t_p0 1 (lo := 0) (hi := 20) rfl
  exact sX6_placeOf_8 mm_fuel p0 p1 p2 p3 ((mm_I σ0 p0 1) - 1) c0 t_p0 (by (try simp only [zp] at r68 ⊢) <;> (try simp only [zz, Int32.reduceToInt, ne_eq] at r68 ⊢) <;> (try simp (disch := omega) only [zb] at r68 ⊢) <;> first | omega | ((try simp (disch := omega) only [zb] at r68 ⊢) <;> omega)) (by have hz : (mm_fuel : Int) = 2000 := rfl; rw [hz]; exact (by (try simp only [zp] at r68 ⊢) <;> (try simp only [zz, Int32.reduceToInt, ne_eq] at r68 ⊢) <;> (try simp (disch := omega) only [zb] at r68 ⊢) <;> first | omega | ((try simp (disch := omega) only [zb] at r68 ⊢) <;> omega)))
set_option maxHeartbeats 4000000 in
set_option maxRecDepth 10000 in
theorem sX6_placeOfOpen_2 {T : Nat → Option Nat} {σ0 : mm_M} : ∀ (n : Nat) (a0 : Nat) (x1 : Int32) (x2 : Int32), sCI T σ0 → (T a0 = some 6) → (0 ≤ x2.toInt ∧ x2.toInt ≤ 20) → 20 - x2.toInt < (n : Int) → sw (fX6_placeOfOpen_2 n a0 x1 x2 σ0) (fun R => R.2 = σ0 ∧ (-1 ≤ R.1.toInt ∧ R.1.toInt ≤ 19)) := by
  intro n
  induction n with
  | zero => intro a0 x1 x2 c0 t_a0 p_0 hn; exfalso; exact (by (try simp only [zp] at p_0 hn ⊢) <;> (try simp only [zz, Int32.reduceToInt, ne_eq] at p_0 hn ⊢) <;> (try simp (disch := omega) only [zb] at p_0 hn ⊢) <;> first | omega | ((try simp (disch := omega) only [zb] at p_0 hn ⊢) <;> omega))
  | succ n ih =>
    intro a0 x1 x2 c0 t_a0 p_0 hn
    unfold fX6_placeOfOpen_2
    refine sw_sh (ci_sh c0 t_a0 rfl) ?_
    have r69 := ci_rg c0 t_a0 1 (lo := 0) (hi := 20) rfl
    refine sw_ite (fun h70 => ?_) (fun h70 => ?_)
    · exact sw_some ⟨rfl, (by (try simp only [zp] at p_0 hn r69 h70 ⊢) <;> (try simp only [zz, Int32.reduceToInt, ne_eq] at p_0 hn r69 h70 ⊢) <;> (try simp (disch := omega) only [zb] at p_0 hn r69 h70 ⊢) <;> first | omega | ((try simp (disch := omega) only [zb] at p_0 hn r69 h70 ⊢) <;> omega))⟩
    · refine sw_on (sX6_pageAt c0 t_a0  ) ?_
      intro q3 hqq3
      obtain ⟨eq3, xq3⟩ := hqq3
      (try rw [eq3])
      refine sw_nu (fun eq4 => ?_) (fun q4 eq4 => ?_)
      · exact ih a0 x1 (x2 + 1) c0 t_a0 (by (try simp only [zp] at p_0 hn r69 h70 ⊢) <;> (try simp only [zz, Int32.reduceToInt, ne_eq] at p_0 hn r69 h70 ⊢) <;> (try simp (disch := omega) only [zb] at p_0 hn r69 h70 ⊢) <;> first | omega | ((try simp (disch := omega) only [zb] at p_0 hn r69 h70 ⊢) <;> omega)) (by (try simp only [zp] at p_0 hn r69 h70 ⊢) <;> (try simp only [zz, Int32.reduceToInt, ne_eq] at p_0 hn r69 h70 ⊢) <;> (try simp (disch := omega) only [zb] at p_0 hn r69 h70 ⊢) <;> first | omega | ((try simp (disch := omega) only [zb] at p_0 hn r69 h70 ⊢) <;> omega))
      · have tq4 := xq3 q4 eq4
        refine sw_sh (ci_sh c0 tq4 rfl) ?_
        refine sw_ite (fun h71 => ?_) (fun h71 => ?_)
        · exact ih a0 x1 (x2 + 1) c0 t_a0 (by (try simp only [zp] at p_0 hn r69 h70 h71 ⊢) <;> (try simp only [zz, Int32.reduceToInt, ne_eq] at p_0 hn r69 h70 h71 ⊢) <;> (try simp (disch := omega) only [zb] at p_0 hn r69 h70 h71 ⊢) <;> first | omega | ((try simp (disch := omega) only [zb] at p_0 hn r69 h70 h71 ⊢) <;> omega)) (by (try simp only [zp] at p_0 hn r69 h70 h71 ⊢) <;> (try simp only [zz, Int32.reduceToInt, ne_eq] at p_0 hn r69 h70 h71 ⊢) <;> (try simp (disch := omega) only [zb] at p_0 hn r69 h70 h71 ⊢) <;> first | omega | ((try simp (disch := omega) only [zb] at p_0 hn r69 h70 h71 ⊢) <;> omega))
        · refine sw_ite (fun h72 => ?_) (fun h72 => ?_)
          · exact sw_some ⟨rfl, (by (try simp only [zp] at p_0 hn r69 h70 h71 h72 ⊢) <;> (try simp only [zz, Int32.reduceToInt, ne_eq] at p_0 hn r69 h70 h71 h72 ⊢) <;> (try simp (disch := omega) only [zb] at p_0 hn r69 h70 h71 h72 ⊢) <;> first | omega | ((try simp (disch := omega) only [zb] at p_0 hn r69 h70 h71 h72 ⊢) <;> omega))⟩
          · exact ih a0 x1 (x2 + 1) c0 t_a0 (by (try simp only [zp] at p_0 hn r69 h70 h71 h72 ⊢) <;> (try simp only [zz, Int32.reduceToInt, ne_eq] at p_0 hn r69 h70 h71 h72 ⊢) <;> (try simp (disch := omega) only [zb] at p_0 hn r69 h70 h71 h72 ⊢) <;> first | omega | ((try simp (disch := omega) only [zb] at p_0 hn r69 h70 h71 h72 ⊢) <;> omega)) (by (try simp only [zp] at p_0 hn r69 h70 h71 h72 ⊢) <;> (try simp only [zz, Int32.reduceToInt, ne_eq] at p_0 hn r69 h70 h71 h72 ⊢) <;> (try simp (disch := omega) only [zb] at p_0 hn r69 h70 h71 h72 ⊢) <;> first | omega | ((try simp (disch := omega) only [zb] at p_0 hn r69 h70 h71 h72 ⊢) <;> omega))
set_option maxHeartbeats 4000000 in
set_option maxRecDepth 10000 in
theorem sX6_placeOfOpen {T : Nat → Option Nat} {σ0 : mm_M} {p0 : Nat} {p1 : Int32} (c0 : sCI T σ0) (t_p0 : T p0 = some 6) : sw (fX6_placeOfOpen p0 p1 σ0) (fun R => R.2 = σ0 ∧ (-1 ≤ R.1.toInt ∧ R.1.toInt ≤ 19)) := by
  unfold fX6_placeOfOpen
  exact sX6_placeOfOpen_2 mm_fuel p0 p1 0 c0 t_p0 (by (try simp only [zp] at ⊢) <;> (try simp only [zz, Int32.reduceToInt, ne_eq] at ⊢) <;> (try simp (disch := omega) only [zb] at ⊢) <;> first | omega | ((try simp (disch := omega) only [zb] at ⊢) <;> omega)) (by have hz : (mm_fuel : Int) = 2000 := rfl; rw [hz]; exact (by (try simp only [zp] at ⊢) <;> (try simp only [zz, Int32.reduceToInt, ne_eq] at ⊢) <;> (try simp (disch := omega) only [zb] at ⊢) <;> first | omega | ((try simp (disch := omega) only [zb] at ⊢) <;> omega)))
abbrev KX7_begin : List Nat := [7, 22, 23]
set_option maxHeartbeats 4000000 in
set_option maxRecDepth 10000 in
theorem sX7_begin {T : Nat → Option Nat} {σ0 : mm_M} {p0 : Nat} {p1 : Int32} {p2 : Int32} (c0 : sCI T σ0) (t_p0 : T p0 = some 7) : sw (fX7_begin p0 p1 p2 σ0) (fun R => sCI T R ∧ sFR T KX7_begin σ0 R ∧ (True)) := by
  have f0 : sFR T KX7_begin σ0 σ0 := fr_refl
  unfold fX7_begin
  refine sw_sh (ci_sh c0 t_p0 rfl) ?_
  have cs2 := ci_wI c0 t_p0 (j := 1) (v := p1) (kr_n rfl)
  have fs2 := fr_wI f0 t_p0 (j := 1) (v := p1) rfl
  refine sw_let (fun s2 es2 => ?_)
  rw [es2] at cs2 fs2
  have cs3 := ci_wI cs2 t_p0 (j := 2) (v := p2) (kr_n rfl)
  have fs3 := fr_wI fs2 t_p0 (j := 2) (v := p2) rfl
  refine sw_let (fun s3 es3 => ?_)
  rw [es3] at cs3 fs3
  obtain ⟨q4, eq4, tq4⟩ := ci_ref cs3 t_p0 0 (κ' := 4) rfl
  refine sw_onS eq4 ?_
  refine sw_sh (ci_sh cs3 tq4 rfl) ?_
  refine sw_on (sX4_eraseRows cs3 tq4 (by (try simp only [zp] at ⊢) <;> (try simp only [zz, Int32.reduceToInt, ne_eq] at ⊢) <;> (try simp (disch := omega) only [zb] at ⊢) <;> first | omega | ((try simp (disch := omega) only [zb] at ⊢) <;> omega)) ) ?_
  intro q6 hqq6
  obtain ⟨cq6, gq6, xq6⟩ := hqq6
  have fq6 := fr_trans fs3 gq6 rfl
  exact sw_some ⟨cq6, fq6, trivial⟩
abbrev KX7_see : List Nat := [22, 23]
set_option maxHeartbeats 4000000 in
set_option maxRecDepth 10000 in
theorem sX7_see {T : Nat → Option Nat} {σ0 : mm_M} {p0 : Nat} {p1 : Nat} (c0 : sCI T σ0) (t_p0 : T p0 = some 7) (t_p1 : T p1 = some 3) : sw (fX7_see p0 p1 σ0) (fun R => sCI T R ∧ sFR T KX7_see σ0 R ∧ (True)) := by
  have f0 : sFR T KX7_see σ0 σ0 := fr_refl
  unfold fX7_see
  refine sw_sh (ci_sh c0 t_p0 rfl) ?_
  refine sw_sh (ci_sh c0 t_p1 rfl) ?_
  refine sw_on (sX3_hasName c0 t_p1  ) ?_
  intro q3 hqq3
  obtain ⟨eq3, xq3⟩ := hqq3
  (try rw [eq3])
  refine sw_ite (fun h73 => ?_) (fun h73 => ?_)
  · exact sw_some ⟨c0, f0, trivial⟩
  · refine sw_sh (ci_sh c0 t_p0 rfl) ?_
    refine sw_sh (ci_sh c0 t_p1 rfl) ?_
    obtain ⟨q7, eq7, tq7⟩ := ci_ref c0 t_p1 0 (κ' := 4) rfl
    refine sw_onS eq7 ?_
    obtain ⟨q8, eq8, tq8⟩ := ci_ref c0 t_p0 0 (κ' := 4) rfl
    refine sw_onS eq8 ?_
    refine sw_sh (ci_sh c0 tq8 rfl) ?_
    refine sw_on (sX4_copyFrom c0 tq8 tq7  ) ?_
    intro q10 hqq10
    obtain ⟨cq10, gq10, xq10⟩ := hqq10
    have fq10 := fr_trans f0 gq10 rfl
    exact sw_some ⟨cq10, fq10, trivial⟩
abbrev KX7_addTo : List Nat := [2, 26]
set_option maxHeartbeats 4000000 in
set_option maxRecDepth 10000 in
theorem sX7_addTo {T : Nat → Option Nat} {σ0 : mm_M} {p0 : Nat} {p1 : Nat} (c0 : sCI T σ0) (t_p0 : T p0 = some 7) (t_p1 : T p1 = some 2) : sw (fX7_addTo p0 p1 σ0) (fun R => sCI T R ∧ sFR T KX7_addTo σ0 R ∧ (True)) := by
  have f0 : sFR T KX7_addTo σ0 σ0 := fr_refl
  unfold fX7_addTo
  refine sw_sh (ci_sh c0 t_p0 rfl) ?_
  obtain ⟨q2, eq2, tq2⟩ := ci_ref c0 t_p0 0 (κ' := 4) rfl
  refine sw_onS eq2 ?_
  refine sw_sh (ci_sh c0 tq2 rfl) ?_
  refine sw_on (sX4_addTo c0 tq2 t_p1  ) ?_
  intro q4 hqq4
  obtain ⟨cq4, gq4, xq4⟩ := hqq4
  have fq4 := fr_trans f0 gq4 rfl
  exact sw_some ⟨cq4, fq4, trivial⟩
abbrev KX0_put : List Nat := [0, 20, 21]
set_option maxHeartbeats 4000000 in
set_option maxRecDepth 10000 in
theorem sX0_put {T : Nat → Option Nat} {σ0 : mm_M} {p0 : Nat} {p1 : Int32} (c0 : sCI T σ0) (t_p0 : T p0 = some 0) : sw (fX0_put p0 p1 σ0) (fun R => sCI T R ∧ sFR T KX0_put σ0 R ∧ (True)) := by
  have f0 : sFR T KX0_put σ0 σ0 := fr_refl
  unfold fX0_put
  refine sw_sh (ci_sh c0 t_p0 rfl) ?_
  refine sw_on (sX0_putScreen c0 t_p0  ) ?_
  intro q2 hqq2
  obtain ⟨eq2, xq2⟩ := hqq2
  (try rw [eq2])
  refine sw_nu (fun eq3 => ?_) (fun q3 eq3 => ?_)
  · exact sw_some ⟨c0, f0, trivial⟩
  · have tq3 := xq2 q3 eq3
    refine sw_sh (ci_sh c0 t_p0 rfl) ?_
    refine sw_sh (ci_sh c0 tq3 rfl) ?_
    have r74 := ci_rg c0 t_p0 3 (lo := 1) (hi := 15) rfl
    refine sw_on (sX5_write c0 tq3  ) ?_
    intro q6 hqq6
    obtain ⟨cq6, gq6, xq6⟩ := hqq6
    have fq6 := fr_trans f0 gq6 rfl
    refine sw_sh (ci_sh cq6 t_p0 rfl) ?_
    have cs8 := ci_wI cq6 t_p0 (j := 4) (v := if 32 < ((mm_I q6 p0 4) + 1) then 32 else ((mm_I q6 p0 4) + 1)) (kr_n rfl)
    have fs8 := fr_wI fq6 t_p0 (j := 4) (v := if 32 < ((mm_I q6 p0 4) + 1) then 32 else ((mm_I q6 p0 4) + 1)) rfl
    refine sw_let (fun s8 es8 => ?_)
    rw [es8] at cs8 fs8
    exact sw_some ⟨cs8, fs8, trivial⟩
abbrev KX0_moveRolledRows : List Nat := [20, 21]
set_option maxHeartbeats 4000000 in
set_option maxRecDepth 10000 in
theorem sX0_moveRolledRows_11 {T : Nat → Option Nat} {σ0 : mm_M} : ∀ (n : Nat) (a0 : Nat) (x1 : Int32) (x2 : Int32) (σ : mm_M), sCI T σ → sFR T KX0_moveRolledRows σ0 σ → (T a0 = some 0) → (0 ≤ x2.toInt ∧ x2.toInt ≤ 4) → 4 - x2.toInt < (n : Int) → sw (fX0_moveRolledRows_11 n a0 x1 x2 σ) (fun R => sCI T R ∧ sFR T KX0_moveRolledRows σ0 R ∧ (True)) := by
  intro n
  induction n with
  | zero => intro a0 x1 x2 σ c0 f0 t_a0 p_0 hn; exfalso; exact (by (try simp only [zp] at p_0 hn ⊢) <;> (try simp only [zz, Int32.reduceToInt, ne_eq] at p_0 hn ⊢) <;> (try simp (disch := omega) only [zb] at p_0 hn ⊢) <;> first | omega | ((try simp (disch := omega) only [zb] at p_0 hn ⊢) <;> omega))
  | succ n ih =>
    intro a0 x1 x2 σ c0 f0 t_a0 p_0 hn
    unfold fX0_moveRolledRows_11
    refine sw_sh (ci_sh c0 t_a0 rfl) ?_
    have r75 := ci_rg c0 t_a0 6 (lo := 2) (hi := 4) rfl
    refine sw_ite (fun h76 => ?_) (fun h76 => ?_)
    · exact sw_some ⟨c0, f0, trivial⟩
    · have r77 := ci_rg c0 t_a0 3 (lo := 1) (hi := 15) rfl
      refine sw_ite (fun h78 => ?_) (fun h78 => ?_)
      · unfold fX0_moveRolledRows_39
        refine sw_sh (ci_sh c0 t_a0 rfl) ?_
        obtain ⟨q7, eq7, tq7⟩ := ci_ref c0 t_a0 0 (κ' := 5) rfl
        refine sw_onS eq7 ?_
        refine sw_sh (ci_sh c0 tq7 rfl) ?_
        refine sw_on (sX5_moveRow c0 tq7  ) ?_
        intro q9 hqq9
        obtain ⟨cq9, gq9, xq9⟩ := hqq9
        have fq9 := fr_trans f0 gq9 rfl
        exact ih a0 x1 (x2 + 1) q9 cq9 fq9 t_a0 (by (try simp only [zp] at p_0 hn r75 h76 r77 h78 ⊢) <;> (try simp only [zz, Int32.reduceToInt, ne_eq] at p_0 hn r75 h76 r77 h78 ⊢) <;> (try simp (disch := omega) only [zb] at p_0 hn r75 h76 r77 h78 ⊢) <;> first | omega | ((try simp (disch := omega) only [zb] at p_0 hn r75 h76 r77 h78 ⊢) <;> omega)) (by (try simp only [zp] at p_0 hn r75 h76 r77 h78 ⊢) <;> (try simp only [zz, Int32.reduceToInt, ne_eq] at p_0 hn r75 h76 r77 h78 ⊢) <;> (try simp (disch := omega) only [zb] at p_0 hn r75 h76 r77 h78 ⊢) <;> first | omega | ((try simp (disch := omega) only [zb] at p_0 hn r75 h76 r77 h78 ⊢) <;> omega))
      · unfold fX0_moveRolledRows_39
        refine sw_sh (ci_sh c0 t_a0 rfl) ?_
        obtain ⟨q7, eq7, tq7⟩ := ci_ref c0 t_a0 0 (κ' := 5) rfl
        refine sw_onS eq7 ?_
        refine sw_sh (ci_sh c0 tq7 rfl) ?_
        refine sw_on (sX5_moveRow c0 tq7  ) ?_
        intro q9 hqq9
        obtain ⟨cq9, gq9, xq9⟩ := hqq9
        have fq9 := fr_trans f0 gq9 rfl
        exact ih a0 x1 (x2 + 1) q9 cq9 fq9 t_a0 (by (try simp only [zp] at p_0 hn r75 h76 r77 h78 ⊢) <;> (try simp only [zz, Int32.reduceToInt, ne_eq] at p_0 hn r75 h76 r77 h78 ⊢) <;> (try simp (disch := omega) only [zb] at p_0 hn r75 h76 r77 h78 ⊢) <;> first | omega | ((try simp (disch := omega) only [zb] at p_0 hn r75 h76 r77 h78 ⊢) <;> omega)) (by (try simp only [zp] at p_0 hn r75 h76 r77 h78 ⊢) <;> (try simp only [zz, Int32.reduceToInt, ne_eq] at p_0 hn r75 h76 r77 h78 ⊢) <;> (try simp (disch := omega) only [zb] at p_0 hn r75 h76 r77 h78 ⊢) <;> first | omega | ((try simp (disch := omega) only [zb] at p_0 hn r75 h76 r77 h78 ⊢) <;> omega))
set_option maxHeartbeats 4000000 in
set_option maxRecDepth 10000 in
theorem sX0_moveRolledRows {T : Nat → Option Nat} {σ0 : mm_M} {p0 : Nat} {p1 : Int32} (c0 : sCI T σ0) (t_p0 : T p0 = some 0) : sw (fX0_moveRolledRows p0 p1 σ0) (fun R => sCI T R ∧ sFR T KX0_moveRolledRows σ0 R ∧ (True)) := by
  have f0 : sFR T KX0_moveRolledRows σ0 σ0 := fr_refl
  unfold fX0_moveRolledRows
  refine sw_sh (ci_sh c0 t_p0 rfl) ?_
  have r79 := ci_rg c0 t_p0 3 (lo := 1) (hi := 15) rfl
  refine sw_ite (fun h80 => ?_) (fun h80 => ?_)
  · exact sw_some ⟨c0, f0, trivial⟩
  · exact sX0_moveRolledRows_11 mm_fuel p0 p1 0 σ0 c0 f0 t_p0 (by (try simp only [zp] at r79 h80 ⊢) <;> (try simp only [zz, Int32.reduceToInt, ne_eq] at r79 h80 ⊢) <;> (try simp (disch := omega) only [zb] at r79 h80 ⊢) <;> first | omega | ((try simp (disch := omega) only [zb] at r79 h80 ⊢) <;> omega)) (by have hz : (mm_fuel : Int) = 2000 := rfl; rw [hz]; exact (by (try simp only [zp] at r79 h80 ⊢) <;> (try simp only [zz, Int32.reduceToInt, ne_eq] at r79 h80 ⊢) <;> (try simp (disch := omega) only [zb] at r79 h80 ⊢) <;> first | omega | ((try simp (disch := omega) only [zb] at r79 h80 ⊢) <;> omega)))
abbrev KX0_obeyLookOrSpecial : List Nat := [0, 20, 21]
set_option maxHeartbeats 4000000 in
set_option maxRecDepth 10000 in
theorem sX0_obeyLookOrSpecial {T : Nat → Option Nat} {σ0 : mm_M} {p0 : Nat} {p1 : Int32} (c0 : sCI T σ0) (t_p0 : T p0 = some 0) : sw (fX0_obeyLookOrSpecial p0 p1 σ0) (fun R => sCI T R ∧ sFR T KX0_obeyLookOrSpecial σ0 R ∧ (True)) := by
  have f0 : sFR T KX0_obeyLookOrSpecial σ0 σ0 := fr_refl
  unfold fX0_obeyLookOrSpecial
  refine sw_ite (fun h81 => ?_) (fun h81 => ?_)
  · have a82 := zi_and p1 1 (by decide)
    refine sw_ite (fun h83 => ?_) (fun h83 => ?_)
    · unfold fX0_obeyLookOrSpecial_38
      refine sw_sh (ci_sh c0 t_p0 rfl) ?_
      have cs4 := ci_wI c0 t_p0 (j := 5) (v := ((p1 / 2) - (p1 / 2) / 8 * 8) + (0 : Int32)) (kr_n rfl)
      have fs4 := fr_wI f0 t_p0 (j := 5) (v := ((p1 / 2) - (p1 / 2) / 8 * 8) + (0 : Int32)) rfl
      refine sw_let (fun s4 es4 => ?_)
      rw [es4] at cs4 fs4
      refine sw_sh (ci_sh cs4 t_p0 rfl) ?_
      refine sw_on (sX0_put cs4 t_p0  ) ?_
      intro q6 hqq6
      obtain ⟨cq6, gq6, xq6⟩ := hqq6
      have fq6 := fr_trans fs4 gq6 rfl
      exact sw_some ⟨cq6, fq6, trivial⟩
    · unfold fX0_obeyLookOrSpecial_38
      refine sw_sh (ci_sh c0 t_p0 rfl) ?_
      have cs4 := ci_wI c0 t_p0 (j := 5) (v := ((p1 / 2) - (p1 / 2) / 8 * 8) + (8 : Int32)) (kr_n rfl)
      have fs4 := fr_wI f0 t_p0 (j := 5) (v := ((p1 / 2) - (p1 / 2) / 8 * 8) + (8 : Int32)) rfl
      refine sw_let (fun s4 es4 => ?_)
      rw [es4] at cs4 fs4
      refine sw_sh (ci_sh cs4 t_p0 rfl) ?_
      refine sw_on (sX0_put cs4 t_p0  ) ?_
      intro q6 hqq6
      obtain ⟨cq6, gq6, xq6⟩ := hqq6
      have fq6 := fr_trans fs4 gq6 rfl
      exact sw_some ⟨cq6, fq6, trivial⟩
  · refine sw_sh (ci_sh c0 t_p0 rfl) ?_
    refine sw_on (sX0_put c0 t_p0  ) ?_
    intro q8 hqq8
    obtain ⟨cq8, gq8, xq8⟩ := hqq8
    have fq8 := fr_trans f0 gq8 rfl
    exact sw_some ⟨cq8, fq8, trivial⟩
abbrev KX0_eraseBack : List Nat := [0, 20, 21]
set_option maxHeartbeats 4000000 in
set_option maxRecDepth 10000 in
theorem sX0_eraseBack {T : Nat → Option Nat} {σ0 : mm_M} {p0 : Nat} (c0 : sCI T σ0) (t_p0 : T p0 = some 0) : sw (fX0_eraseBack p0 σ0) (fun R => sCI T R ∧ sFR T KX0_eraseBack σ0 R ∧ (True)) := by
  have f0 : sFR T KX0_eraseBack σ0 σ0 := fr_refl
  unfold fX0_eraseBack
  refine sw_sh (ci_sh c0 t_p0 rfl) ?_
  refine sw_on (sX0_putScreen c0 t_p0  ) ?_
  intro q2 hqq2
  obtain ⟨eq2, xq2⟩ := hqq2
  (try rw [eq2])
  refine sw_nu (fun eq3 => ?_) (fun q3 eq3 => ?_)
  · exact sw_some ⟨c0, f0, trivial⟩
  · have tq3 := xq2 q3 eq3
    refine sw_sh (ci_sh c0 t_p0 rfl) ?_
    refine sw_ite (fun h84 => ?_) (fun h84 => ?_)
    · exact sw_some ⟨c0, f0, trivial⟩
    · have cs6 := ci_wI c0 t_p0 (j := 4) (v := (mm_I σ0 p0 4) - 1) (kr_n rfl)
      have fs6 := fr_wI f0 t_p0 (j := 4) (v := (mm_I σ0 p0 4) - 1) rfl
      refine sw_let (fun s6 es6 => ?_)
      rw [es6] at cs6 fs6
      refine sw_sh (ci_sh cs6 tq3 rfl) ?_
      have w85 : mm_I s6 p0 3 = mm_I σ0 p0 3 := by rw [← es6]; exact rd_j (by decide)
      have r86 := ci_rg c0 t_p0 3 (lo := 1) (hi := 15) rfl
      have r87 := ci_rg cs6 t_p0 3 (lo := 1) (hi := 15) rfl
      refine sw_on (sX5_write cs6 tq3  ) ?_
      intro q8 hqq8
      obtain ⟨cq8, gq8, xq8⟩ := hqq8
      have fq8 := fr_trans fs6 gq8 rfl
      exact sw_some ⟨cq8, fq8, trivial⟩
abbrev KX0_eraseOn : List Nat := [20, 21]
set_option maxHeartbeats 4000000 in
set_option maxRecDepth 10000 in
theorem sX0_eraseOn {T : Nat → Option Nat} {σ0 : mm_M} {p0 : Nat} (c0 : sCI T σ0) (t_p0 : T p0 = some 0) : sw (fX0_eraseOn p0 σ0) (fun R => sCI T R ∧ sFR T KX0_eraseOn σ0 R ∧ (True)) := by
  have f0 : sFR T KX0_eraseOn σ0 σ0 := fr_refl
  unfold fX0_eraseOn
  refine sw_sh (ci_sh c0 t_p0 rfl) ?_
  refine sw_on (sX0_putScreen c0 t_p0  ) ?_
  intro q2 hqq2
  obtain ⟨eq2, xq2⟩ := hqq2
  (try rw [eq2])
  refine sw_nu (fun eq3 => ?_) (fun q3 eq3 => ?_)
  · exact sw_some ⟨c0, f0, trivial⟩
  · have tq3 := xq2 q3 eq3
    refine sw_sh (ci_sh c0 t_p0 rfl) ?_
    refine sw_ite (fun h88 => ?_) (fun h88 => ?_)
    · exact sw_some ⟨c0, f0, trivial⟩
    · refine sw_sh (ci_sh c0 tq3 rfl) ?_
      have r89 := ci_rg c0 t_p0 3 (lo := 1) (hi := 15) rfl
      refine sw_on (sX5_eraseFrom c0 tq3  ) ?_
      intro q7 hqq7
      obtain ⟨cq7, gq7, xq7⟩ := hqq7
      have fq7 := fr_trans f0 gq7 rfl
      exact sw_some ⟨cq7, fq7, trivial⟩
abbrev KX0_beginRoll : List Nat := [0, 20, 21]
set_option maxHeartbeats 4000000 in
set_option maxRecDepth 10000 in
theorem sX0_beginRoll {T : Nat → Option Nat} {σ0 : mm_M} {p0 : Nat} {p1 : Int32} (c0 : sCI T σ0) (t_p0 : T p0 = some 0) (p_0 : 2 ≤ p1.toInt ∧ p1.toInt ≤ 4) : sw (fX0_beginRoll p0 p1 σ0) (fun R => sCI T R ∧ sFR T KX0_beginRoll σ0 R ∧ (True)) := by
  have f0 : sFR T KX0_beginRoll σ0 σ0 := fr_refl
  unfold fX0_beginRoll
  refine sw_sh (ci_sh c0 t_p0 rfl) ?_
  have cs2 := ci_wI c0 t_p0 (j := 6) (v := p1) (kr_s (lo := 2) (hi := 4) rfl (by (try simp only [zp] at p_0 ⊢) <;> (try simp only [zz, Int32.reduceToInt, ne_eq] at p_0 ⊢) <;> (try simp (disch := omega) only [zb] at p_0 ⊢) <;> first | omega | ((try simp (disch := omega) only [zb] at p_0 ⊢) <;> omega)))
  have fs2 := fr_wI f0 t_p0 (j := 6) (v := p1) rfl
  refine sw_let (fun s2 es2 => ?_)
  rw [es2] at cs2 fs2
  refine sw_ite (fun h90 => ?_) (fun h90 => ?_)
  · obtain ⟨q17, eq17, tq17⟩ := ci_ref cs2 t_p0 0 (κ' := 5) rfl
    refine sw_onS eq17 ?_
    refine sw_sh (ci_sh cs2 tq17 rfl) ?_
    have w91 : mm_I s2 p0 3 = mm_I σ0 p0 3 := by rw [← es2]; exact rd_j (by decide)
    have r92 := ci_rg c0 t_p0 3 (lo := 1) (hi := 15) rfl
    have r93 := ci_rg cs2 t_p0 3 (lo := 1) (hi := 15) rfl
    have w94 : mm_I s2 p0 6 = p1 := by rw [← es2]; exact rd_self
    have r95 := ci_rg cs2 t_p0 6 (lo := 2) (hi := 4) rfl
    refine sw_on (sX5_eraseRowsAbove cs2 tq17  ) ?_
    intro q19 hqq19
    obtain ⟨cq19, gq19, xq19⟩ := hqq19
    have fq19 := fr_trans fs2 gq19 rfl
    refine sw_sh (ci_sh cq19 t_p0 rfl) ?_
    have w96 := (gq19.2.2 _ _ t_p0 3 rfl).1
    have r97 := ci_rg cq19 t_p0 3 (lo := 1) (hi := 15) rfl
    have w98 := (gq19.2.2 _ _ t_p0 6 rfl).1
    have r99 := ci_rg cq19 t_p0 6 (lo := 2) (hi := 4) rfl
    have cs21 := ci_wI cq19 t_p0 (j := 3) (v := if (mm_I q19 p0 3) < (mm_I q19 p0 6) then (mm_I q19 p0 6) else (mm_I q19 p0 3)) (kr_s (lo := 1) (hi := 15) rfl (by (try simp only [zp] at p_0 h90 w91 r92 r93 w94 r95 w96 r97 w98 r99 ⊢) <;> (try simp only [zz, Int32.reduceToInt, ne_eq] at p_0 h90 w91 r92 r93 w94 r95 w96 r97 w98 r99 ⊢) <;> (try simp (disch := omega) only [zb] at p_0 h90 w91 r92 r93 w94 r95 w96 r97 w98 r99 ⊢) <;> first | omega | ((try simp (disch := omega) only [zb] at p_0 h90 w91 r92 r93 w94 r95 w96 r97 w98 r99 ⊢) <;> omega)))
    have fs21 := fr_wI fq19 t_p0 (j := 3) (v := if (mm_I q19 p0 3) < (mm_I q19 p0 6) then (mm_I q19 p0 6) else (mm_I q19 p0 3)) rfl
    refine sw_let (fun s21 es21 => ?_)
    rw [es21] at cs21 fs21
    unfold fX0_beginRoll_69
    refine sw_sh (ci_sh cs21 t_p0 rfl) ?_
    have cs14 := ci_wI cs21 t_p0 (j := 2) (v := 2) (kr_n rfl)
    have fs14 := fr_wI fs21 t_p0 (j := 2) (v := 2) rfl
    refine sw_let (fun s14 es14 => ?_)
    rw [es14] at cs14 fs14
    have cs15 := ci_wI cs14 t_p0 (j := 4) (v := 0) (kr_n rfl)
    have fs15 := fr_wI fs14 t_p0 (j := 4) (v := 0) rfl
    refine sw_let (fun s15 es15 => ?_)
    rw [es15] at cs15 fs15
    have cs16 := ci_wI cs15 t_p0 (j := 5) (v := 0) (kr_n rfl)
    have fs16 := fr_wI fs15 t_p0 (j := 5) (v := 0) rfl
    refine sw_let (fun s16 es16 => ?_)
    rw [es16] at cs16 fs16
    exact sw_some ⟨cs16, fs16, trivial⟩
  · obtain ⟨q4, eq4, tq4⟩ := ci_ref cs2 t_p0 0 (κ' := 5) rfl
    refine sw_onS eq4 ?_
    refine sw_sh (ci_sh cs2 tq4 rfl) ?_
    refine sw_on (sX5_eraseAll cs2 tq4  ) ?_
    intro q6 hqq6
    obtain ⟨cq6, gq6, xq6⟩ := hqq6
    have fq6 := fr_trans fs2 gq6 rfl
    refine sw_sh (ci_sh cq6 t_p0 rfl) ?_
    obtain ⟨q8, eq8, tq8⟩ := ci_ref cq6 t_p0 1 (κ' := 5) rfl
    refine sw_onS eq8 ?_
    refine sw_sh (ci_sh cq6 tq8 rfl) ?_
    refine sw_on (sX5_eraseAll cq6 tq8  ) ?_
    intro q10 hqq10
    obtain ⟨cq10, gq10, xq10⟩ := hqq10
    have fq10 := fr_trans fq6 gq10 rfl
    refine sw_sh (ci_sh cq10 t_p0 rfl) ?_
    have cs12 := ci_wI cq10 t_p0 (j := 3) (v := 15) (kr_s (lo := 1) (hi := 15) rfl (by (try simp only [zp] at p_0 h90 ⊢) <;> (try simp only [zz, Int32.reduceToInt, ne_eq] at p_0 h90 ⊢) <;> (try simp (disch := omega) only [zb] at p_0 h90 ⊢) <;> first | omega | ((try simp (disch := omega) only [zb] at p_0 h90 ⊢) <;> omega)))
    have fs12 := fr_wI fq10 t_p0 (j := 3) (v := 15) rfl
    refine sw_let (fun s12 es12 => ?_)
    rw [es12] at cs12 fs12
    unfold fX0_beginRoll_69
    refine sw_sh (ci_sh cs12 t_p0 rfl) ?_
    have cs14 := ci_wI cs12 t_p0 (j := 2) (v := 2) (kr_n rfl)
    have fs14 := fr_wI fs12 t_p0 (j := 2) (v := 2) rfl
    refine sw_let (fun s14 es14 => ?_)
    rw [es14] at cs14 fs14
    have cs15 := ci_wI cs14 t_p0 (j := 4) (v := 0) (kr_n rfl)
    have fs15 := fr_wI fs14 t_p0 (j := 4) (v := 0) rfl
    refine sw_let (fun s15 es15 => ?_)
    rw [es15] at cs15 fs15
    have cs16 := ci_wI cs15 t_p0 (j := 5) (v := 0) (kr_n rfl)
    have fs16 := fr_wI fs15 t_p0 (j := 5) (v := 0) rfl
    refine sw_let (fun s16 es16 => ?_)
    rw [es16] at cs16 fs16
    exact sw_some ⟨cs16, fs16, trivial⟩
abbrev KX0_rollUp : List Nat := [0, 20, 21]
set_option maxHeartbeats 4000000 in
set_option maxRecDepth 10000 in
theorem sX0_rollUp_21 {T : Nat → Option Nat} {σ0 : mm_M} : ∀ (n : Nat) (a0 : Nat) (x1 : Int32) (σ : mm_M), sCI T σ → sFR T KX0_rollUp σ0 σ → (T a0 = some 0) → (-3 ≤ x1.toInt ∧ x1.toInt ≤ 15) → 15 - x1.toInt < (n : Int) → sw (fX0_rollUp_21 n a0 x1 σ) (fun R => sCI T R ∧ sFR T KX0_rollUp σ0 R ∧ (True)) := by
  intro n
  induction n with
  | zero => intro a0 x1 σ c0 f0 t_a0 p_0 hn; exfalso; exact (by (try simp only [zp] at p_0 hn ⊢) <;> (try simp only [zz, Int32.reduceToInt, ne_eq] at p_0 hn ⊢) <;> (try simp (disch := omega) only [zb] at p_0 hn ⊢) <;> first | omega | ((try simp (disch := omega) only [zb] at p_0 hn ⊢) <;> omega))
  | succ n ih =>
    intro a0 x1 σ c0 f0 t_a0 p_0 hn
    unfold fX0_rollUp_21
    refine sw_sh (ci_sh c0 t_a0 rfl) ?_
    have r100 := ci_rg c0 t_a0 3 (lo := 1) (hi := 15) rfl
    refine sw_ite (fun h101 => ?_) (fun h101 => ?_)
    · have cs5 := ci_wI c0 t_a0 (j := 4) (v := 0) (kr_n rfl)
      have fs5 := fr_wI f0 t_a0 (j := 4) (v := 0) rfl
      refine sw_let (fun s5 es5 => ?_)
      rw [es5] at cs5 fs5
      have cs6 := ci_wI cs5 t_a0 (j := 5) (v := 0) (kr_n rfl)
      have fs6 := fr_wI fs5 t_a0 (j := 5) (v := 0) rfl
      refine sw_let (fun s6 es6 => ?_)
      rw [es6] at cs6 fs6
      exact sw_some ⟨cs6, fs6, trivial⟩
    · obtain ⟨q7, eq7, tq7⟩ := ci_ref c0 t_a0 0 (κ' := 5) rfl
      refine sw_onS eq7 ?_
      refine sw_sh (ci_sh c0 tq7 rfl) ?_
      refine sw_on (sX5_moveRow c0 tq7  ) ?_
      intro q9 hqq9
      obtain ⟨cq9, gq9, xq9⟩ := hqq9
      have fq9 := fr_trans f0 gq9 rfl
      exact ih a0 (x1 + 1) q9 cq9 fq9 t_a0 (by (try simp only [zp] at p_0 hn r100 h101 ⊢) <;> (try simp only [zz, Int32.reduceToInt, ne_eq] at p_0 hn r100 h101 ⊢) <;> (try simp (disch := omega) only [zb] at p_0 hn r100 h101 ⊢) <;> first | omega | ((try simp (disch := omega) only [zb] at p_0 hn r100 h101 ⊢) <;> omega)) (by (try simp only [zp] at p_0 hn r100 h101 ⊢) <;> (try simp only [zz, Int32.reduceToInt, ne_eq] at p_0 hn r100 h101 ⊢) <;> (try simp (disch := omega) only [zb] at p_0 hn r100 h101 ⊢) <;> first | omega | ((try simp (disch := omega) only [zb] at p_0 hn r100 h101 ⊢) <;> omega))
set_option maxHeartbeats 4000000 in
set_option maxRecDepth 10000 in
theorem sX0_rollUp {T : Nat → Option Nat} {σ0 : mm_M} {p0 : Nat} (c0 : sCI T σ0) (t_p0 : T p0 = some 0) : sw (fX0_rollUp p0 σ0) (fun R => sCI T R ∧ sFR T KX0_rollUp σ0 R ∧ (True)) := by
  have f0 : sFR T KX0_rollUp σ0 σ0 := fr_refl
  unfold fX0_rollUp
  refine sw_sh (ci_sh c0 t_p0 rfl) ?_
  refine sw_ite (fun h102 => ?_) (fun h102 => ?_)
  · have r103 := ci_rg c0 t_p0 3 (lo := 1) (hi := 15) rfl
    have r104 := ci_rg c0 t_p0 6 (lo := 2) (hi := 4) rfl
    exact sX0_rollUp_21 mm_fuel p0 (((mm_I σ0 p0 3) - (mm_I σ0 p0 6)) + 1) σ0 c0 f0 t_p0 (by (try simp only [zp] at h102 r103 r104 ⊢) <;> (try simp only [zz, Int32.reduceToInt, ne_eq] at h102 r103 r104 ⊢) <;> (try simp (disch := omega) only [zb] at h102 r103 r104 ⊢) <;> first | omega | ((try simp (disch := omega) only [zb] at h102 r103 r104 ⊢) <;> omega)) (by have hz : (mm_fuel : Int) = 2000 := rfl; rw [hz]; exact (by (try simp only [zp] at h102 r103 r104 ⊢) <;> (try simp only [zz, Int32.reduceToInt, ne_eq] at h102 r103 r104 ⊢) <;> (try simp (disch := omega) only [zb] at h102 r103 r104 ⊢) <;> first | omega | ((try simp (disch := omega) only [zb] at h102 r103 r104 ⊢) <;> omega)))
  · exact sw_some ⟨c0, f0, trivial⟩
abbrev KX0_goToRow : List Nat := [0, 20, 21]
set_option maxHeartbeats 4000000 in
set_option maxRecDepth 10000 in
theorem sX0_goToRow {T : Nat → Option Nat} {σ0 : mm_M} {p0 : Nat} {p1 : Int32} {p2 : Int32} (c0 : sCI T σ0) (t_p0 : T p0 = some 0) : sw (fX0_goToRow p0 p1 p2 σ0) (fun R => sCI T R ∧ sFR T KX0_goToRow σ0 R ∧ (True)) := by
  have f0 : sFR T KX0_goToRow σ0 σ0 := fr_refl
  unfold fX0_goToRow
  refine sw_sh (ci_sh c0 t_p0 rfl) ?_
  refine sw_ite (fun h105 => ?_) (fun h105 => ?_)
  · exact sw_some ⟨c0, f0, trivial⟩
  · refine sw_ite (fun h106 => ?_) (fun h106 => ?_)
    · exact sw_some ⟨c0, f0, trivial⟩
    · refine sw_ite (fun h107 => ?_) (fun h107 => ?_)
      · refine sw_ib (by (try simp only [zp] at h105 h106 h107 ⊢) <;> (try simp only [zz, Int32.reduceToInt, ne_eq] at h105 h106 h107 ⊢) <;> (try simp (disch := omega) only [zb] at h105 h106 h107 ⊢) <;> first | omega | ((try simp (disch := omega) only [zb] at h105 h106 h107 ⊢) <;> omega)) ?_
        have a108 := zi_and p2 32 (by decide)
        have z1 := su_rows (p1 - 16).toNatClampNeg (by (try simp only [zp] at h105 h106 h107 a108 ⊢) <;> (try simp only [zz, Int32.reduceToInt, ne_eq] at h105 h106 h107 a108 ⊢) <;> (try simp (disch := omega) only [zb] at h105 h106 h107 a108 ⊢) <;> first | omega | ((try simp (disch := omega) only [zb] at h105 h106 h107 a108 ⊢) <;> omega))
        refine sw_ite (fun h109 => ?_) (fun h109 => ?_)
        · unfold fX0_goToRow_50
          refine sw_sh (ci_sh c0 t_p0 rfl) ?_
          refine sw_ite (fun h110 => ?_) (fun h110 => ?_)
          · have r111 := ci_rg c0 t_p0 6 (lo := 2) (hi := 4) rfl
            refine sw_on (sX0_moveRolledRows c0 t_p0  ) ?_
            intro q20 hqq20
            obtain ⟨cq20, gq20, xq20⟩ := hqq20
            have fq20 := fr_trans f0 gq20 rfl
            unfold fX0_goToRow_74
            refine sw_sh (ci_sh cq20 t_p0 rfl) ?_
            have cs10 := ci_wI cq20 t_p0 (j := 3) (v := if ((([11, 1, 3, 12, 14, 5, 7, 9] : List Int32).getD (p1 - 16).toNatClampNeg 0) + (0 : Int32)) < (mm_I σ0 p0 6) then (mm_I σ0 p0 6) else ((([11, 1, 3, 12, 14, 5, 7, 9] : List Int32).getD (p1 - 16).toNatClampNeg 0) + (0 : Int32))) (kr_s (lo := 1) (hi := 15) rfl (by (try simp only [zp] at h105 h106 h107 a108 z1 h109 h110 r111 ⊢) <;> (try simp only [zz, Int32.reduceToInt, ne_eq] at h105 h106 h107 a108 z1 h109 h110 r111 ⊢) <;> (try simp (disch := omega) only [zb] at h105 h106 h107 a108 z1 h109 h110 r111 ⊢) <;> first | omega | ((try simp (disch := omega) only [zb] at h105 h106 h107 a108 z1 h109 h110 r111 ⊢) <;> omega)))
            have fs10 := fr_wI fq20 t_p0 (j := 3) (v := if ((([11, 1, 3, 12, 14, 5, 7, 9] : List Int32).getD (p1 - 16).toNatClampNeg 0) + (0 : Int32)) < (mm_I σ0 p0 6) then (mm_I σ0 p0 6) else ((([11, 1, 3, 12, 14, 5, 7, 9] : List Int32).getD (p1 - 16).toNatClampNeg 0) + (0 : Int32))) rfl
            refine sw_let (fun s10 es10 => ?_)
            rw [es10] at cs10 fs10
            refine sw_ite (fun h112 => ?_) (fun h112 => ?_)
            · unfold fX0_goToRow_101
              have a113 := zi_and p2 1 (by decide)
              refine sw_ite (fun h114 => ?_) (fun h114 => ?_)
              · unfold fX0_goToRow_113
                refine sw_sh (ci_sh cs10 t_p0 rfl) ?_
                have cs14 := ci_wI cs10 t_p0 (j := 5) (v := ((0 : Int32)) + (0 : Int32)) (kr_n rfl)
                have fs14 := fr_wI fs10 t_p0 (j := 5) (v := ((0 : Int32)) + (0 : Int32)) rfl
                refine sw_let (fun s14 es14 => ?_)
                rw [es14] at cs14 fs14
                refine sw_ite (fun h115 => ?_) (fun h115 => ?_)
                · refine sw_sh (ci_sh cs14 t_p0 rfl) ?_
                  have cs17 := ci_wI cs14 t_p0 (j := 4) (v := 4 * (((p2 / 2) - (p2 / 2) / 16 * 16) - 8)) (kr_n rfl)
                  have fs17 := fr_wI fs14 t_p0 (j := 4) (v := 4 * (((p2 / 2) - (p2 / 2) / 16 * 16) - 8)) rfl
                  refine sw_let (fun s17 es17 => ?_)
                  rw [es17] at cs17 fs17
                  exact sw_some ⟨cs17, fs17, trivial⟩
                · refine sw_sh (ci_sh cs14 t_p0 rfl) ?_
                  have cs19 := ci_wI cs14 t_p0 (j := 4) (v := 0) (kr_n rfl)
                  have fs19 := fr_wI fs14 t_p0 (j := 4) (v := 0) rfl
                  refine sw_let (fun s19 es19 => ?_)
                  rw [es19] at cs19 fs19
                  exact sw_some ⟨cs19, fs19, trivial⟩
              · unfold fX0_goToRow_113
                refine sw_sh (ci_sh cs10 t_p0 rfl) ?_
                have cs14 := ci_wI cs10 t_p0 (j := 5) (v := ((0 : Int32)) + (8 : Int32)) (kr_n rfl)
                have fs14 := fr_wI fs10 t_p0 (j := 5) (v := ((0 : Int32)) + (8 : Int32)) rfl
                refine sw_let (fun s14 es14 => ?_)
                rw [es14] at cs14 fs14
                refine sw_ite (fun h116 => ?_) (fun h116 => ?_)
                · refine sw_sh (ci_sh cs14 t_p0 rfl) ?_
                  have cs17 := ci_wI cs14 t_p0 (j := 4) (v := 4 * (((p2 / 2) - (p2 / 2) / 16 * 16) - 8)) (kr_n rfl)
                  have fs17 := fr_wI fs14 t_p0 (j := 4) (v := 4 * (((p2 / 2) - (p2 / 2) / 16 * 16) - 8)) rfl
                  refine sw_let (fun s17 es17 => ?_)
                  rw [es17] at cs17 fs17
                  exact sw_some ⟨cs17, fs17, trivial⟩
                · refine sw_sh (ci_sh cs14 t_p0 rfl) ?_
                  have cs19 := ci_wI cs14 t_p0 (j := 4) (v := 0) (kr_n rfl)
                  have fs19 := fr_wI fs14 t_p0 (j := 4) (v := 0) rfl
                  refine sw_let (fun s19 es19 => ?_)
                  rw [es19] at cs19 fs19
                  exact sw_some ⟨cs19, fs19, trivial⟩
            · unfold fX0_goToRow_101
              have a117 := zi_and p2 1 (by decide)
              refine sw_ite (fun h118 => ?_) (fun h118 => ?_)
              · unfold fX0_goToRow_113
                refine sw_sh (ci_sh cs10 t_p0 rfl) ?_
                have cs14 := ci_wI cs10 t_p0 (j := 5) (v := ((p2 / 2) - (p2 / 2) / 16 * 16) + (0 : Int32)) (kr_n rfl)
                have fs14 := fr_wI fs10 t_p0 (j := 5) (v := ((p2 / 2) - (p2 / 2) / 16 * 16) + (0 : Int32)) rfl
                refine sw_let (fun s14 es14 => ?_)
                rw [es14] at cs14 fs14
                refine sw_ite (fun h119 => ?_) (fun h119 => ?_)
                · refine sw_sh (ci_sh cs14 t_p0 rfl) ?_
                  have cs17 := ci_wI cs14 t_p0 (j := 4) (v := 4 * (((p2 / 2) - (p2 / 2) / 16 * 16) - 8)) (kr_n rfl)
                  have fs17 := fr_wI fs14 t_p0 (j := 4) (v := 4 * (((p2 / 2) - (p2 / 2) / 16 * 16) - 8)) rfl
                  refine sw_let (fun s17 es17 => ?_)
                  rw [es17] at cs17 fs17
                  exact sw_some ⟨cs17, fs17, trivial⟩
                · refine sw_sh (ci_sh cs14 t_p0 rfl) ?_
                  have cs19 := ci_wI cs14 t_p0 (j := 4) (v := 0) (kr_n rfl)
                  have fs19 := fr_wI fs14 t_p0 (j := 4) (v := 0) rfl
                  refine sw_let (fun s19 es19 => ?_)
                  rw [es19] at cs19 fs19
                  exact sw_some ⟨cs19, fs19, trivial⟩
              · unfold fX0_goToRow_113
                refine sw_sh (ci_sh cs10 t_p0 rfl) ?_
                have cs14 := ci_wI cs10 t_p0 (j := 5) (v := ((p2 / 2) - (p2 / 2) / 16 * 16) + (8 : Int32)) (kr_n rfl)
                have fs14 := fr_wI fs10 t_p0 (j := 5) (v := ((p2 / 2) - (p2 / 2) / 16 * 16) + (8 : Int32)) rfl
                refine sw_let (fun s14 es14 => ?_)
                rw [es14] at cs14 fs14
                refine sw_ite (fun h120 => ?_) (fun h120 => ?_)
                · refine sw_sh (ci_sh cs14 t_p0 rfl) ?_
                  have cs17 := ci_wI cs14 t_p0 (j := 4) (v := 4 * (((p2 / 2) - (p2 / 2) / 16 * 16) - 8)) (kr_n rfl)
                  have fs17 := fr_wI fs14 t_p0 (j := 4) (v := 4 * (((p2 / 2) - (p2 / 2) / 16 * 16) - 8)) rfl
                  refine sw_let (fun s17 es17 => ?_)
                  rw [es17] at cs17 fs17
                  exact sw_some ⟨cs17, fs17, trivial⟩
                · refine sw_sh (ci_sh cs14 t_p0 rfl) ?_
                  have cs19 := ci_wI cs14 t_p0 (j := 4) (v := 0) (kr_n rfl)
                  have fs19 := fr_wI fs14 t_p0 (j := 4) (v := 0) rfl
                  refine sw_let (fun s19 es19 => ?_)
                  rw [es19] at cs19 fs19
                  exact sw_some ⟨cs19, fs19, trivial⟩
          · unfold fX0_goToRow_74
            refine sw_sh (ci_sh c0 t_p0 rfl) ?_
            have cs10 := ci_wI c0 t_p0 (j := 3) (v := (([11, 1, 3, 12, 14, 5, 7, 9] : List Int32).getD (p1 - 16).toNatClampNeg 0) + (0 : Int32)) (kr_s (lo := 1) (hi := 15) rfl (by (try simp only [zp] at h105 h106 h107 a108 z1 h109 h110 ⊢) <;> (try simp only [zz, Int32.reduceToInt, ne_eq] at h105 h106 h107 a108 z1 h109 h110 ⊢) <;> (try simp (disch := omega) only [zb] at h105 h106 h107 a108 z1 h109 h110 ⊢) <;> first | omega | ((try simp (disch := omega) only [zb] at h105 h106 h107 a108 z1 h109 h110 ⊢) <;> omega)))
            have fs10 := fr_wI f0 t_p0 (j := 3) (v := (([11, 1, 3, 12, 14, 5, 7, 9] : List Int32).getD (p1 - 16).toNatClampNeg 0) + (0 : Int32)) rfl
            refine sw_let (fun s10 es10 => ?_)
            rw [es10] at cs10 fs10
            refine sw_ite (fun h121 => ?_) (fun h121 => ?_)
            · unfold fX0_goToRow_101
              have a122 := zi_and p2 1 (by decide)
              refine sw_ite (fun h123 => ?_) (fun h123 => ?_)
              · unfold fX0_goToRow_113
                refine sw_sh (ci_sh cs10 t_p0 rfl) ?_
                have cs14 := ci_wI cs10 t_p0 (j := 5) (v := ((0 : Int32)) + (0 : Int32)) (kr_n rfl)
                have fs14 := fr_wI fs10 t_p0 (j := 5) (v := ((0 : Int32)) + (0 : Int32)) rfl
                refine sw_let (fun s14 es14 => ?_)
                rw [es14] at cs14 fs14
                refine sw_ite (fun h124 => ?_) (fun h124 => ?_)
                · refine sw_sh (ci_sh cs14 t_p0 rfl) ?_
                  have cs17 := ci_wI cs14 t_p0 (j := 4) (v := 4 * (((p2 / 2) - (p2 / 2) / 16 * 16) - 8)) (kr_n rfl)
                  have fs17 := fr_wI fs14 t_p0 (j := 4) (v := 4 * (((p2 / 2) - (p2 / 2) / 16 * 16) - 8)) rfl
                  refine sw_let (fun s17 es17 => ?_)
                  rw [es17] at cs17 fs17
                  exact sw_some ⟨cs17, fs17, trivial⟩
                · refine sw_sh (ci_sh cs14 t_p0 rfl) ?_
                  have cs19 := ci_wI cs14 t_p0 (j := 4) (v := 0) (kr_n rfl)
                  have fs19 := fr_wI fs14 t_p0 (j := 4) (v := 0) rfl
                  refine sw_let (fun s19 es19 => ?_)
                  rw [es19] at cs19 fs19
                  exact sw_some ⟨cs19, fs19, trivial⟩
              · unfold fX0_goToRow_113
                refine sw_sh (ci_sh cs10 t_p0 rfl) ?_
                have cs14 := ci_wI cs10 t_p0 (j := 5) (v := ((0 : Int32)) + (8 : Int32)) (kr_n rfl)
                have fs14 := fr_wI fs10 t_p0 (j := 5) (v := ((0 : Int32)) + (8 : Int32)) rfl
                refine sw_let (fun s14 es14 => ?_)
                rw [es14] at cs14 fs14
                refine sw_ite (fun h125 => ?_) (fun h125 => ?_)
                · refine sw_sh (ci_sh cs14 t_p0 rfl) ?_
                  have cs17 := ci_wI cs14 t_p0 (j := 4) (v := 4 * (((p2 / 2) - (p2 / 2) / 16 * 16) - 8)) (kr_n rfl)
                  have fs17 := fr_wI fs14 t_p0 (j := 4) (v := 4 * (((p2 / 2) - (p2 / 2) / 16 * 16) - 8)) rfl
                  refine sw_let (fun s17 es17 => ?_)
                  rw [es17] at cs17 fs17
                  exact sw_some ⟨cs17, fs17, trivial⟩
                · refine sw_sh (ci_sh cs14 t_p0 rfl) ?_
                  have cs19 := ci_wI cs14 t_p0 (j := 4) (v := 0) (kr_n rfl)
                  have fs19 := fr_wI fs14 t_p0 (j := 4) (v := 0) rfl
                  refine sw_let (fun s19 es19 => ?_)
                  rw [es19] at cs19 fs19
                  exact sw_some ⟨cs19, fs19, trivial⟩
            · unfold fX0_goToRow_101
              have a126 := zi_and p2 1 (by decide)
              refine sw_ite (fun h127 => ?_) (fun h127 => ?_)
              · unfold fX0_goToRow_113
                refine sw_sh (ci_sh cs10 t_p0 rfl) ?_
                have cs14 := ci_wI cs10 t_p0 (j := 5) (v := ((p2 / 2) - (p2 / 2) / 16 * 16) + (0 : Int32)) (kr_n rfl)
                have fs14 := fr_wI fs10 t_p0 (j := 5) (v := ((p2 / 2) - (p2 / 2) / 16 * 16) + (0 : Int32)) rfl
                refine sw_let (fun s14 es14 => ?_)
                rw [es14] at cs14 fs14
                refine sw_ite (fun h128 => ?_) (fun h128 => ?_)
                · refine sw_sh (ci_sh cs14 t_p0 rfl) ?_
                  have cs17 := ci_wI cs14 t_p0 (j := 4) (v := 4 * (((p2 / 2) - (p2 / 2) / 16 * 16) - 8)) (kr_n rfl)
                  have fs17 := fr_wI fs14 t_p0 (j := 4) (v := 4 * (((p2 / 2) - (p2 / 2) / 16 * 16) - 8)) rfl
                  refine sw_let (fun s17 es17 => ?_)
                  rw [es17] at cs17 fs17
                  exact sw_some ⟨cs17, fs17, trivial⟩
                · refine sw_sh (ci_sh cs14 t_p0 rfl) ?_
                  have cs19 := ci_wI cs14 t_p0 (j := 4) (v := 0) (kr_n rfl)
                  have fs19 := fr_wI fs14 t_p0 (j := 4) (v := 0) rfl
                  refine sw_let (fun s19 es19 => ?_)
                  rw [es19] at cs19 fs19
                  exact sw_some ⟨cs19, fs19, trivial⟩
              · unfold fX0_goToRow_113
                refine sw_sh (ci_sh cs10 t_p0 rfl) ?_
                have cs14 := ci_wI cs10 t_p0 (j := 5) (v := ((p2 / 2) - (p2 / 2) / 16 * 16) + (8 : Int32)) (kr_n rfl)
                have fs14 := fr_wI fs10 t_p0 (j := 5) (v := ((p2 / 2) - (p2 / 2) / 16 * 16) + (8 : Int32)) rfl
                refine sw_let (fun s14 es14 => ?_)
                rw [es14] at cs14 fs14
                refine sw_ite (fun h129 => ?_) (fun h129 => ?_)
                · refine sw_sh (ci_sh cs14 t_p0 rfl) ?_
                  have cs17 := ci_wI cs14 t_p0 (j := 4) (v := 4 * (((p2 / 2) - (p2 / 2) / 16 * 16) - 8)) (kr_n rfl)
                  have fs17 := fr_wI fs14 t_p0 (j := 4) (v := 4 * (((p2 / 2) - (p2 / 2) / 16 * 16) - 8)) rfl
                  refine sw_let (fun s17 es17 => ?_)
                  rw [es17] at cs17 fs17
                  exact sw_some ⟨cs17, fs17, trivial⟩
                · refine sw_sh (ci_sh cs14 t_p0 rfl) ?_
                  have cs19 := ci_wI cs14 t_p0 (j := 4) (v := 0) (kr_n rfl)
                  have fs19 := fr_wI fs14 t_p0 (j := 4) (v := 0) rfl
                  refine sw_let (fun s19 es19 => ?_)
                  rw [es19] at cs19 fs19
                  exact sw_some ⟨cs19, fs19, trivial⟩
        · unfold fX0_goToRow_50
          refine sw_sh (ci_sh c0 t_p0 rfl) ?_
          refine sw_ite (fun h130 => ?_) (fun h130 => ?_)
          · have r131 := ci_rg c0 t_p0 6 (lo := 2) (hi := 4) rfl
            refine sw_on (sX0_moveRolledRows c0 t_p0  ) ?_
            intro q20 hqq20
            obtain ⟨cq20, gq20, xq20⟩ := hqq20
            have fq20 := fr_trans f0 gq20 rfl
            unfold fX0_goToRow_74
            refine sw_sh (ci_sh cq20 t_p0 rfl) ?_
            have cs10 := ci_wI cq20 t_p0 (j := 3) (v := if ((([11, 1, 3, 12, 14, 5, 7, 9] : List Int32).getD (p1 - 16).toNatClampNeg 0) + (1 : Int32)) < (mm_I σ0 p0 6) then (mm_I σ0 p0 6) else ((([11, 1, 3, 12, 14, 5, 7, 9] : List Int32).getD (p1 - 16).toNatClampNeg 0) + (1 : Int32))) (kr_s (lo := 1) (hi := 15) rfl (by (try simp only [zp] at h105 h106 h107 a108 z1 h109 h130 r131 ⊢) <;> (try simp only [zz, Int32.reduceToInt, ne_eq] at h105 h106 h107 a108 z1 h109 h130 r131 ⊢) <;> (try simp (disch := omega) only [zb] at h105 h106 h107 a108 z1 h109 h130 r131 ⊢) <;> first | omega | ((try simp (disch := omega) only [zb] at h105 h106 h107 a108 z1 h109 h130 r131 ⊢) <;> omega)))
            have fs10 := fr_wI fq20 t_p0 (j := 3) (v := if ((([11, 1, 3, 12, 14, 5, 7, 9] : List Int32).getD (p1 - 16).toNatClampNeg 0) + (1 : Int32)) < (mm_I σ0 p0 6) then (mm_I σ0 p0 6) else ((([11, 1, 3, 12, 14, 5, 7, 9] : List Int32).getD (p1 - 16).toNatClampNeg 0) + (1 : Int32))) rfl
            refine sw_let (fun s10 es10 => ?_)
            rw [es10] at cs10 fs10
            refine sw_ite (fun h132 => ?_) (fun h132 => ?_)
            · unfold fX0_goToRow_101
              have a133 := zi_and p2 1 (by decide)
              refine sw_ite (fun h134 => ?_) (fun h134 => ?_)
              · unfold fX0_goToRow_113
                refine sw_sh (ci_sh cs10 t_p0 rfl) ?_
                have cs14 := ci_wI cs10 t_p0 (j := 5) (v := ((0 : Int32)) + (0 : Int32)) (kr_n rfl)
                have fs14 := fr_wI fs10 t_p0 (j := 5) (v := ((0 : Int32)) + (0 : Int32)) rfl
                refine sw_let (fun s14 es14 => ?_)
                rw [es14] at cs14 fs14
                refine sw_ite (fun h135 => ?_) (fun h135 => ?_)
                · refine sw_sh (ci_sh cs14 t_p0 rfl) ?_
                  have cs17 := ci_wI cs14 t_p0 (j := 4) (v := 4 * (((p2 / 2) - (p2 / 2) / 16 * 16) - 8)) (kr_n rfl)
                  have fs17 := fr_wI fs14 t_p0 (j := 4) (v := 4 * (((p2 / 2) - (p2 / 2) / 16 * 16) - 8)) rfl
                  refine sw_let (fun s17 es17 => ?_)
                  rw [es17] at cs17 fs17
                  exact sw_some ⟨cs17, fs17, trivial⟩
                · refine sw_sh (ci_sh cs14 t_p0 rfl) ?_
                  have cs19 := ci_wI cs14 t_p0 (j := 4) (v := 0) (kr_n rfl)
                  have fs19 := fr_wI fs14 t_p0 (j := 4) (v := 0) rfl
                  refine sw_let (fun s19 es19 => ?_)
                  rw [es19] at cs19 fs19
                  exact sw_some ⟨cs19, fs19, trivial⟩
              · unfold fX0_goToRow_113
                refine sw_sh (ci_sh cs10 t_p0 rfl) ?_
                have cs14 := ci_wI cs10 t_p0 (j := 5) (v := ((0 : Int32)) + (8 : Int32)) (kr_n rfl)
                have fs14 := fr_wI fs10 t_p0 (j := 5) (v := ((0 : Int32)) + (8 : Int32)) rfl
                refine sw_let (fun s14 es14 => ?_)
                rw [es14] at cs14 fs14
                refine sw_ite (fun h136 => ?_) (fun h136 => ?_)
                · refine sw_sh (ci_sh cs14 t_p0 rfl) ?_
                  have cs17 := ci_wI cs14 t_p0 (j := 4) (v := 4 * (((p2 / 2) - (p2 / 2) / 16 * 16) - 8)) (kr_n rfl)
                  have fs17 := fr_wI fs14 t_p0 (j := 4) (v := 4 * (((p2 / 2) - (p2 / 2) / 16 * 16) - 8)) rfl
                  refine sw_let (fun s17 es17 => ?_)
                  rw [es17] at cs17 fs17
                  exact sw_some ⟨cs17, fs17, trivial⟩
                · refine sw_sh (ci_sh cs14 t_p0 rfl) ?_
                  have cs19 := ci_wI cs14 t_p0 (j := 4) (v := 0) (kr_n rfl)
                  have fs19 := fr_wI fs14 t_p0 (j := 4) (v := 0) rfl
                  refine sw_let (fun s19 es19 => ?_)
                  rw [es19] at cs19 fs19
                  exact sw_some ⟨cs19, fs19, trivial⟩
            · unfold fX0_goToRow_101
              have a137 := zi_and p2 1 (by decide)
              refine sw_ite (fun h138 => ?_) (fun h138 => ?_)
              · unfold fX0_goToRow_113
                refine sw_sh (ci_sh cs10 t_p0 rfl) ?_
                have cs14 := ci_wI cs10 t_p0 (j := 5) (v := ((p2 / 2) - (p2 / 2) / 16 * 16) + (0 : Int32)) (kr_n rfl)
                have fs14 := fr_wI fs10 t_p0 (j := 5) (v := ((p2 / 2) - (p2 / 2) / 16 * 16) + (0 : Int32)) rfl
                refine sw_let (fun s14 es14 => ?_)
                rw [es14] at cs14 fs14
                refine sw_ite (fun h139 => ?_) (fun h139 => ?_)
                · refine sw_sh (ci_sh cs14 t_p0 rfl) ?_
                  have cs17 := ci_wI cs14 t_p0 (j := 4) (v := 4 * (((p2 / 2) - (p2 / 2) / 16 * 16) - 8)) (kr_n rfl)
                  have fs17 := fr_wI fs14 t_p0 (j := 4) (v := 4 * (((p2 / 2) - (p2 / 2) / 16 * 16) - 8)) rfl
                  refine sw_let (fun s17 es17 => ?_)
                  rw [es17] at cs17 fs17
                  exact sw_some ⟨cs17, fs17, trivial⟩
                · refine sw_sh (ci_sh cs14 t_p0 rfl) ?_
                  have cs19 := ci_wI cs14 t_p0 (j := 4) (v := 0) (kr_n rfl)
                  have fs19 := fr_wI fs14 t_p0 (j := 4) (v := 0) rfl
                  refine sw_let (fun s19 es19 => ?_)
                  rw [es19] at cs19 fs19
                  exact sw_some ⟨cs19, fs19, trivial⟩
              · unfold fX0_goToRow_113
                refine sw_sh (ci_sh cs10 t_p0 rfl) ?_
                have cs14 := ci_wI cs10 t_p0 (j := 5) (v := ((p2 / 2) - (p2 / 2) / 16 * 16) + (8 : Int32)) (kr_n rfl)
                have fs14 := fr_wI fs10 t_p0 (j := 5) (v := ((p2 / 2) - (p2 / 2) / 16 * 16) + (8 : Int32)) rfl
                refine sw_let (fun s14 es14 => ?_)
                rw [es14] at cs14 fs14
                refine sw_ite (fun h140 => ?_) (fun h140 => ?_)
                · refine sw_sh (ci_sh cs14 t_p0 rfl) ?_
                  have cs17 := ci_wI cs14 t_p0 (j := 4) (v := 4 * (((p2 / 2) - (p2 / 2) / 16 * 16) - 8)) (kr_n rfl)
                  have fs17 := fr_wI fs14 t_p0 (j := 4) (v := 4 * (((p2 / 2) - (p2 / 2) / 16 * 16) - 8)) rfl
                  refine sw_let (fun s17 es17 => ?_)
                  rw [es17] at cs17 fs17
                  exact sw_some ⟨cs17, fs17, trivial⟩
                · refine sw_sh (ci_sh cs14 t_p0 rfl) ?_
                  have cs19 := ci_wI cs14 t_p0 (j := 4) (v := 0) (kr_n rfl)
                  have fs19 := fr_wI fs14 t_p0 (j := 4) (v := 0) rfl
                  refine sw_let (fun s19 es19 => ?_)
                  rw [es19] at cs19 fs19
                  exact sw_some ⟨cs19, fs19, trivial⟩
          · unfold fX0_goToRow_74
            refine sw_sh (ci_sh c0 t_p0 rfl) ?_
            have cs10 := ci_wI c0 t_p0 (j := 3) (v := (([11, 1, 3, 12, 14, 5, 7, 9] : List Int32).getD (p1 - 16).toNatClampNeg 0) + (1 : Int32)) (kr_s (lo := 1) (hi := 15) rfl (by (try simp only [zp] at h105 h106 h107 a108 z1 h109 h130 ⊢) <;> (try simp only [zz, Int32.reduceToInt, ne_eq] at h105 h106 h107 a108 z1 h109 h130 ⊢) <;> (try simp (disch := omega) only [zb] at h105 h106 h107 a108 z1 h109 h130 ⊢) <;> first | omega | ((try simp (disch := omega) only [zb] at h105 h106 h107 a108 z1 h109 h130 ⊢) <;> omega)))
            have fs10 := fr_wI f0 t_p0 (j := 3) (v := (([11, 1, 3, 12, 14, 5, 7, 9] : List Int32).getD (p1 - 16).toNatClampNeg 0) + (1 : Int32)) rfl
            refine sw_let (fun s10 es10 => ?_)
            rw [es10] at cs10 fs10
            refine sw_ite (fun h141 => ?_) (fun h141 => ?_)
            · unfold fX0_goToRow_101
              have a142 := zi_and p2 1 (by decide)
              refine sw_ite (fun h143 => ?_) (fun h143 => ?_)
              · unfold fX0_goToRow_113
                refine sw_sh (ci_sh cs10 t_p0 rfl) ?_
                have cs14 := ci_wI cs10 t_p0 (j := 5) (v := ((0 : Int32)) + (0 : Int32)) (kr_n rfl)
                have fs14 := fr_wI fs10 t_p0 (j := 5) (v := ((0 : Int32)) + (0 : Int32)) rfl
                refine sw_let (fun s14 es14 => ?_)
                rw [es14] at cs14 fs14
                refine sw_ite (fun h144 => ?_) (fun h144 => ?_)
                · refine sw_sh (ci_sh cs14 t_p0 rfl) ?_
                  have cs17 := ci_wI cs14 t_p0 (j := 4) (v := 4 * (((p2 / 2) - (p2 / 2) / 16 * 16) - 8)) (kr_n rfl)
                  have fs17 := fr_wI fs14 t_p0 (j := 4) (v := 4 * (((p2 / 2) - (p2 / 2) / 16 * 16) - 8)) rfl
                  refine sw_let (fun s17 es17 => ?_)
                  rw [es17] at cs17 fs17
                  exact sw_some ⟨cs17, fs17, trivial⟩
                · refine sw_sh (ci_sh cs14 t_p0 rfl) ?_
                  have cs19 := ci_wI cs14 t_p0 (j := 4) (v := 0) (kr_n rfl)
                  have fs19 := fr_wI fs14 t_p0 (j := 4) (v := 0) rfl
                  refine sw_let (fun s19 es19 => ?_)
                  rw [es19] at cs19 fs19
                  exact sw_some ⟨cs19, fs19, trivial⟩
              · unfold fX0_goToRow_113
                refine sw_sh (ci_sh cs10 t_p0 rfl) ?_
                have cs14 := ci_wI cs10 t_p0 (j := 5) (v := ((0 : Int32)) + (8 : Int32)) (kr_n rfl)
                have fs14 := fr_wI fs10 t_p0 (j := 5) (v := ((0 : Int32)) + (8 : Int32)) rfl
                refine sw_let (fun s14 es14 => ?_)
                rw [es14] at cs14 fs14
                refine sw_ite (fun h145 => ?_) (fun h145 => ?_)
                · refine sw_sh (ci_sh cs14 t_p0 rfl) ?_
                  have cs17 := ci_wI cs14 t_p0 (j := 4) (v := 4 * (((p2 / 2) - (p2 / 2) / 16 * 16) - 8)) (kr_n rfl)
                  have fs17 := fr_wI fs14 t_p0 (j := 4) (v := 4 * (((p2 / 2) - (p2 / 2) / 16 * 16) - 8)) rfl
                  refine sw_let (fun s17 es17 => ?_)
                  rw [es17] at cs17 fs17
                  exact sw_some ⟨cs17, fs17, trivial⟩
                · refine sw_sh (ci_sh cs14 t_p0 rfl) ?_
                  have cs19 := ci_wI cs14 t_p0 (j := 4) (v := 0) (kr_n rfl)
                  have fs19 := fr_wI fs14 t_p0 (j := 4) (v := 0) rfl
                  refine sw_let (fun s19 es19 => ?_)
                  rw [es19] at cs19 fs19
                  exact sw_some ⟨cs19, fs19, trivial⟩
            · unfold fX0_goToRow_101
              have a146 := zi_and p2 1 (by decide)
              refine sw_ite (fun h147 => ?_) (fun h147 => ?_)
              · unfold fX0_goToRow_113
                refine sw_sh (ci_sh cs10 t_p0 rfl) ?_
                have cs14 := ci_wI cs10 t_p0 (j := 5) (v := ((p2 / 2) - (p2 / 2) / 16 * 16) + (0 : Int32)) (kr_n rfl)
                have fs14 := fr_wI fs10 t_p0 (j := 5) (v := ((p2 / 2) - (p2 / 2) / 16 * 16) + (0 : Int32)) rfl
                refine sw_let (fun s14 es14 => ?_)
                rw [es14] at cs14 fs14
                refine sw_ite (fun h148 => ?_) (fun h148 => ?_)
                · refine sw_sh (ci_sh cs14 t_p0 rfl) ?_
                  have cs17 := ci_wI cs14 t_p0 (j := 4) (v := 4 * (((p2 / 2) - (p2 / 2) / 16 * 16) - 8)) (kr_n rfl)
                  have fs17 := fr_wI fs14 t_p0 (j := 4) (v := 4 * (((p2 / 2) - (p2 / 2) / 16 * 16) - 8)) rfl
                  refine sw_let (fun s17 es17 => ?_)
                  rw [es17] at cs17 fs17
                  exact sw_some ⟨cs17, fs17, trivial⟩
                · refine sw_sh (ci_sh cs14 t_p0 rfl) ?_
                  have cs19 := ci_wI cs14 t_p0 (j := 4) (v := 0) (kr_n rfl)
                  have fs19 := fr_wI fs14 t_p0 (j := 4) (v := 0) rfl
                  refine sw_let (fun s19 es19 => ?_)
                  rw [es19] at cs19 fs19
                  exact sw_some ⟨cs19, fs19, trivial⟩
              · unfold fX0_goToRow_113
                refine sw_sh (ci_sh cs10 t_p0 rfl) ?_
                have cs14 := ci_wI cs10 t_p0 (j := 5) (v := ((p2 / 2) - (p2 / 2) / 16 * 16) + (8 : Int32)) (kr_n rfl)
                have fs14 := fr_wI fs10 t_p0 (j := 5) (v := ((p2 / 2) - (p2 / 2) / 16 * 16) + (8 : Int32)) rfl
                refine sw_let (fun s14 es14 => ?_)
                rw [es14] at cs14 fs14
                refine sw_ite (fun h149 => ?_) (fun h149 => ?_)
                · refine sw_sh (ci_sh cs14 t_p0 rfl) ?_
                  have cs17 := ci_wI cs14 t_p0 (j := 4) (v := 4 * (((p2 / 2) - (p2 / 2) / 16 * 16) - 8)) (kr_n rfl)
                  have fs17 := fr_wI fs14 t_p0 (j := 4) (v := 4 * (((p2 / 2) - (p2 / 2) / 16 * 16) - 8)) rfl
                  refine sw_let (fun s17 es17 => ?_)
                  rw [es17] at cs17 fs17
                  exact sw_some ⟨cs17, fs17, trivial⟩
                · refine sw_sh (ci_sh cs14 t_p0 rfl) ?_
                  have cs19 := ci_wI cs14 t_p0 (j := 4) (v := 0) (kr_n rfl)
                  have fs19 := fr_wI fs14 t_p0 (j := 4) (v := 0) rfl
                  refine sw_let (fun s19 es19 => ?_)
                  rw [es19] at cs19 fs19
                  exact sw_some ⟨cs19, fs19, trivial⟩
      · exact sw_some ⟨c0, f0, trivial⟩
abbrev KX0_obeyControl : List Nat := [0, 20, 21]
set_option maxHeartbeats 4000000 in
set_option maxRecDepth 10000 in
theorem sX0_obeyControl {T : Nat → Option Nat} {σ0 : mm_M} {p0 : Nat} {p1 : Int32} (c0 : sCI T σ0) (t_p0 : T p0 = some 0) : sw (fX0_obeyControl p0 p1 σ0) (fun R => sCI T R ∧ sFR T KX0_obeyControl σ0 R ∧ (True)) := by
  have f0 : sFR T KX0_obeyControl σ0 σ0 := fr_refl
  unfold fX0_obeyControl
  refine sw_ite (fun h150 => ?_) (fun h150 => ?_)
  · refine sw_sh (ci_sh c0 t_p0 rfl) ?_
    have cs3 := ci_wI c0 t_p0 (j := 2) (v := 1) (kr_n rfl)
    have fs3 := fr_wI f0 t_p0 (j := 2) (v := 1) rfl
    refine sw_let (fun s3 es3 => ?_)
    rw [es3] at cs3 fs3
    exact sw_some ⟨cs3, fs3, trivial⟩
  · refine sw_ite (fun h151 => ?_) (fun h151 => ?_)
    · refine sw_sh (ci_sh c0 t_p0 rfl) ?_
      refine sw_on (sX0_eraseBack c0 t_p0  ) ?_
      intro q6 hqq6
      obtain ⟨cq6, gq6, xq6⟩ := hqq6
      have fq6 := fr_trans f0 gq6 rfl
      exact sw_some ⟨cq6, fq6, trivial⟩
    · refine sw_ite (fun h152 => ?_) (fun h152 => ?_)
      · refine sw_sh (ci_sh c0 t_p0 rfl) ?_
        refine sw_on (sX0_eraseOn c0 t_p0  ) ?_
        intro q9 hqq9
        obtain ⟨cq9, gq9, xq9⟩ := hqq9
        have fq9 := fr_trans f0 gq9 rfl
        exact sw_some ⟨cq9, fq9, trivial⟩
      · refine sw_ite (fun h153 => ?_) (fun h153 => ?_)
        · refine sw_sh (ci_sh c0 t_p0 rfl) ?_
          refine sw_on (sX0_beginRoll c0 t_p0 (by (try simp only [zp] at h150 h151 h152 h153 ⊢) <;> (try simp only [zz, Int32.reduceToInt, ne_eq] at h150 h151 h152 h153 ⊢) <;> (try simp (disch := omega) only [zb] at h150 h151 h152 h153 ⊢) <;> first | omega | ((try simp (disch := omega) only [zb] at h150 h151 h152 h153 ⊢) <;> omega)) ) ?_
          intro q12 hqq12
          obtain ⟨cq12, gq12, xq12⟩ := hqq12
          have fq12 := fr_trans f0 gq12 rfl
          exact sw_some ⟨cq12, fq12, trivial⟩
        · refine sw_ite (fun h154 => ?_) (fun h154 => ?_)
          · refine sw_sh (ci_sh c0 t_p0 rfl) ?_
            refine sw_on (sX0_beginRoll c0 t_p0 (by (try simp only [zp] at h150 h151 h152 h153 h154 ⊢) <;> (try simp only [zz, Int32.reduceToInt, ne_eq] at h150 h151 h152 h153 h154 ⊢) <;> (try simp (disch := omega) only [zb] at h150 h151 h152 h153 h154 ⊢) <;> first | omega | ((try simp (disch := omega) only [zb] at h150 h151 h152 h153 h154 ⊢) <;> omega)) ) ?_
            intro q15 hqq15
            obtain ⟨cq15, gq15, xq15⟩ := hqq15
            have fq15 := fr_trans f0 gq15 rfl
            exact sw_some ⟨cq15, fq15, trivial⟩
          · refine sw_ite (fun h155 => ?_) (fun h155 => ?_)
            · refine sw_sh (ci_sh c0 t_p0 rfl) ?_
              refine sw_on (sX0_beginRoll c0 t_p0 (by (try simp only [zp] at h150 h151 h152 h153 h154 h155 ⊢) <;> (try simp only [zz, Int32.reduceToInt, ne_eq] at h150 h151 h152 h153 h154 h155 ⊢) <;> (try simp (disch := omega) only [zb] at h150 h151 h152 h153 h154 h155 ⊢) <;> first | omega | ((try simp (disch := omega) only [zb] at h150 h151 h152 h153 h154 h155 ⊢) <;> omega)) ) ?_
              intro q18 hqq18
              obtain ⟨cq18, gq18, xq18⟩ := hqq18
              have fq18 := fr_trans f0 gq18 rfl
              exact sw_some ⟨cq18, fq18, trivial⟩
            · refine sw_ite (fun h156 => ?_) (fun h156 => ?_)
              · refine sw_sh (ci_sh c0 t_p0 rfl) ?_
                have cs21 := ci_wI c0 t_p0 (j := 2) (v := 3) (kr_n rfl)
                have fs21 := fr_wI f0 t_p0 (j := 2) (v := 3) rfl
                refine sw_let (fun s21 es21 => ?_)
                rw [es21] at cs21 fs21
                exact sw_some ⟨cs21, fs21, trivial⟩
              · refine sw_ite (fun h157 => ?_) (fun h157 => ?_)
                · refine sw_sh (ci_sh c0 t_p0 rfl) ?_
                  have cs24 := ci_wI c0 t_p0 (j := 2) (v := 4) (kr_n rfl)
                  have fs24 := fr_wI f0 t_p0 (j := 2) (v := 4) rfl
                  refine sw_let (fun s24 es24 => ?_)
                  rw [es24] at cs24 fs24
                  exact sw_some ⟨cs24, fs24, trivial⟩
                · refine sw_ite (fun h158 => ?_) (fun h158 => ?_)
                  · refine sw_sh (ci_sh c0 t_p0 rfl) ?_
                    have cs27 := ci_wI c0 t_p0 (j := 2) (v := 4) (kr_n rfl)
                    have fs27 := fr_wI f0 t_p0 (j := 2) (v := 4) rfl
                    refine sw_let (fun s27 es27 => ?_)
                    rw [es27] at cs27 fs27
                    exact sw_some ⟨cs27, fs27, trivial⟩
                  · refine sw_ite (fun h159 => ?_) (fun h159 => ?_)
                    · refine sw_sh (ci_sh c0 t_p0 rfl) ?_
                      obtain ⟨q30, eq30, tq30⟩ := ci_ref c0 t_p0 0 (κ' := 5) rfl
                      refine sw_onS eq30 ?_
                      refine sw_sh (ci_sh c0 tq30 rfl) ?_
                      refine sw_on (sX5_eraseAll c0 tq30  ) ?_
                      intro q32 hqq32
                      obtain ⟨cq32, gq32, xq32⟩ := hqq32
                      have fq32 := fr_trans f0 gq32 rfl
                      exact sw_some ⟨cq32, fq32, trivial⟩
                    · refine sw_ite (fun h160 => ?_) (fun h160 => ?_)
                      · refine sw_sh (ci_sh c0 t_p0 rfl) ?_
                        refine sw_on (sX0_rollUp c0 t_p0  ) ?_
                        intro q35 hqq35
                        obtain ⟨cq35, gq35, xq35⟩ := hqq35
                        have fq35 := fr_trans f0 gq35 rfl
                        exact sw_some ⟨cq35, fq35, trivial⟩
                      · refine sw_ite (fun h161 => ?_) (fun h161 => ?_)
                        · refine sw_sh (ci_sh c0 t_p0 rfl) ?_
                          obtain ⟨q38, eq38, tq38⟩ := ci_ref c0 t_p0 1 (κ' := 5) rfl
                          refine sw_onS eq38 ?_
                          refine sw_sh (ci_sh c0 tq38 rfl) ?_
                          refine sw_on (sX5_eraseAll c0 tq38  ) ?_
                          intro q40 hqq40
                          obtain ⟨cq40, gq40, xq40⟩ := hqq40
                          have fq40 := fr_trans f0 gq40 rfl
                          exact sw_some ⟨cq40, fq40, trivial⟩
                        · refine sw_ite (fun h162 => ?_) (fun h162 => ?_)
                          · refine sw_sh (ci_sh c0 t_p0 rfl) ?_
                            refine sw_on (sX0_changeScreens c0 t_p0  ) ?_
                            intro q43 hqq43
                            obtain ⟨cq43, gq43, xq43⟩ := hqq43
                            have fq43 := fr_trans f0 gq43 rfl
                            exact sw_some ⟨cq43, fq43, trivial⟩
                          · exact sw_some ⟨c0, f0, trivial⟩
abbrev KX0_obey : List Nat := [0, 20, 21]
set_option maxHeartbeats 4000000 in
set_option maxRecDepth 10000 in
theorem sX0_obey {T : Nat → Option Nat} {σ0 : mm_M} {p0 : Nat} {p1 : Int32} {p2 : Int32} (c0 : sCI T σ0) (t_p0 : T p0 = some 0) : sw (fX0_obey p0 p1 p2 σ0) (fun R => sCI T R ∧ sFR T KX0_obey σ0 R ∧ (True)) := by
  have f0 : sFR T KX0_obey σ0 σ0 := fr_refl
  unfold fX0_obey
  refine sw_ite (fun h163 => ?_) (fun h163 => ?_)
  · refine sw_ite (fun h164 => ?_) (fun h164 => ?_)
    · refine sw_sh (ci_sh c0 t_p0 rfl) ?_
      refine sw_on (sX0_obeyLookOrSpecial c0 t_p0  ) ?_
      intro q18 hqq18
      obtain ⟨cq18, gq18, xq18⟩ := hqq18
      have fq18 := fr_trans f0 gq18 rfl
      exact sw_some ⟨cq18, fq18, trivial⟩
    · refine sw_ite (fun h165 => ?_) (fun h165 => ?_)
      · unfold fX0_obey_54
        refine sw_sh (ci_sh c0 t_p0 rfl) ?_
        have cs5 := ci_wI c0 t_p0 (j := 4) (v := if ((mm_I σ0 p0 4) - 1) < 0 then 0 else ((mm_I σ0 p0 4) - 1)) (kr_n rfl)
        have fs5 := fr_wI f0 t_p0 (j := 4) (v := if ((mm_I σ0 p0 4) - 1) < 0 then 0 else ((mm_I σ0 p0 4) - 1)) rfl
        refine sw_let (fun s5 es5 => ?_)
        rw [es5] at cs5 fs5
        refine sw_on (sX0_put cs5 t_p0  ) ?_
        intro q6 hqq6
        obtain ⟨cq6, gq6, xq6⟩ := hqq6
        have fq6 := fr_trans fs5 gq6 rfl
        exact sw_some ⟨cq6, fq6, trivial⟩
      · refine sw_ite (fun h166 => ?_) (fun h166 => ?_)
        · unfold fX0_obey_54
          refine sw_sh (ci_sh c0 t_p0 rfl) ?_
          have cs5 := ci_wI c0 t_p0 (j := 4) (v := if ((mm_I σ0 p0 4) - 1) < 0 then 0 else ((mm_I σ0 p0 4) - 1)) (kr_n rfl)
          have fs5 := fr_wI f0 t_p0 (j := 4) (v := if ((mm_I σ0 p0 4) - 1) < 0 then 0 else ((mm_I σ0 p0 4) - 1)) rfl
          refine sw_let (fun s5 es5 => ?_)
          rw [es5] at cs5 fs5
          refine sw_on (sX0_put cs5 t_p0  ) ?_
          intro q6 hqq6
          obtain ⟨cq6, gq6, xq6⟩ := hqq6
          have fq6 := fr_trans fs5 gq6 rfl
          exact sw_some ⟨cq6, fq6, trivial⟩
        · refine sw_ite (fun h167 => ?_) (fun h167 => ?_)
          · unfold fX0_obey_103
            refine sw_sh (ci_sh c0 t_p0 rfl) ?_
            refine sw_on (sX0_obeyControl c0 t_p0  ) ?_
            intro q10 hqq10
            obtain ⟨cq10, gq10, xq10⟩ := hqq10
            have fq10 := fr_trans f0 gq10 rfl
            exact sw_some ⟨cq10, fq10, trivial⟩
          · refine sw_ite (fun h168 => ?_) (fun h168 => ?_)
            · unfold fX0_obey_103
              refine sw_sh (ci_sh c0 t_p0 rfl) ?_
              refine sw_on (sX0_obeyControl c0 t_p0  ) ?_
              intro q10 hqq10
              obtain ⟨cq10, gq10, xq10⟩ := hqq10
              have fq10 := fr_trans f0 gq10 rfl
              exact sw_some ⟨cq10, fq10, trivial⟩
            · refine sw_ite (fun h169 => ?_) (fun h169 => ?_)
              · refine sw_ite (fun h170 => ?_) (fun h170 => ?_)
                · exact sw_some ⟨c0, f0, trivial⟩
                · refine sw_ite (fun h171 => ?_) (fun h171 => ?_)
                  · exact sw_some ⟨c0, f0, trivial⟩
                  · refine sw_sh (ci_sh c0 t_p0 rfl) ?_
                    refine sw_on (sX0_skipColumns c0 t_p0  ) ?_
                    intro q16 hqq16
                    obtain ⟨cq16, gq16, xq16⟩ := hqq16
                    have fq16 := fr_trans f0 gq16 rfl
                    exact sw_some ⟨cq16, fq16, trivial⟩
              · exact sw_some ⟨c0, f0, trivial⟩
  · refine sw_ite (fun h172 => ?_) (fun h172 => ?_)
    · have a173 := zi_and p2 32 (by decide)
      refine sw_ite (fun h174 => ?_) (fun h174 => ?_)
      · unfold fX0_obey_19
        refine sw_sh (ci_sh c0 t_p0 rfl) ?_
        refine sw_on (sX0_goToRow c0 t_p0  ) ?_
        intro q21 hqq21
        obtain ⟨cq21, gq21, xq21⟩ := hqq21
        have fq21 := fr_trans f0 gq21 rfl
        exact sw_some ⟨cq21, fq21, trivial⟩
      · exact sw_some ⟨c0, f0, trivial⟩
    · unfold fX0_obey_19
      refine sw_sh (ci_sh c0 t_p0 rfl) ?_
      refine sw_on (sX0_goToRow c0 t_p0  ) ?_
      intro q21 hqq21
      obtain ⟨cq21, gq21, xq21⟩ := hqq21
      have fq21 := fr_trans f0 gq21 rfl
      exact sw_some ⟨cq21, fq21, trivial⟩
abbrev KX3_become : List Nat := [3, 22, 23, 24]
set_option maxHeartbeats 4000000 in
set_option maxRecDepth 10000 in
theorem sX3_become {T : Nat → Option Nat} {σ0 : mm_M} {p0 : Nat} {p1 : Int32} {p2 : Int32} {p3 : Int32} (c0 : sCI T σ0) (t_p0 : T p0 = some 3) : sw (fX3_become p0 p1 p2 p3 σ0) (fun R => sCI T R ∧ sFR T KX3_become σ0 R ∧ (True)) := by
  have f0 : sFR T KX3_become σ0 σ0 := fr_refl
  unfold fX3_become
  refine sw_sh (ci_sh c0 t_p0 rfl) ?_
  have cs2 := ci_wI c0 t_p0 (j := 2) (v := p1) (kr_n rfl)
  have fs2 := fr_wI f0 t_p0 (j := 2) (v := p1) rfl
  refine sw_let (fun s2 es2 => ?_)
  rw [es2] at cs2 fs2
  have cs3 := ci_wI cs2 t_p0 (j := 3) (v := p2) (kr_n rfl)
  have fs3 := fr_wI fs2 t_p0 (j := 3) (v := p2) rfl
  refine sw_let (fun s3 es3 => ?_)
  rw [es3] at cs3 fs3
  have cs4 := ci_wI cs3 t_p0 (j := 4) (v := p3) (kr_n rfl)
  have fs4 := fr_wI fs3 t_p0 (j := 4) (v := p3) rfl
  refine sw_let (fun s4 es4 => ?_)
  rw [es4] at cs4 fs4
  have cs5 := ci_wI cs4 t_p0 (j := 5) (v := 0) (kr_n rfl)
  have fs5 := fr_wI fs4 t_p0 (j := 5) (v := 0) rfl
  refine sw_let (fun s5 es5 => ?_)
  rw [es5] at cs5 fs5
  have cs6 := ci_wI cs5 t_p0 (j := 6) (v := 0) (kr_n rfl)
  have fs6 := fr_wI fs5 t_p0 (j := 6) (v := 0) rfl
  refine sw_let (fun s6 es6 => ?_)
  rw [es6] at cs6 fs6
  have cs7 := ci_wI cs6 t_p0 (j := 7) (v := 0) (kr_n rfl)
  have fs7 := fr_wI fs6 t_p0 (j := 7) (v := 0) rfl
  refine sw_let (fun s7 es7 => ?_)
  rw [es7] at cs7 fs7
  have cs8 := ci_wI cs7 t_p0 (j := 8) (v := 0) (kr_n rfl)
  have fs8 := fr_wI fs7 t_p0 (j := 8) (v := 0) rfl
  refine sw_let (fun s8 es8 => ?_)
  rw [es8] at cs8 fs8
  obtain ⟨q9, eq9, tq9⟩ := ci_ref cs8 t_p0 0 (κ' := 4) rfl
  refine sw_onS eq9 ?_
  refine sw_sh (ci_sh cs8 tq9 rfl) ?_
  refine sw_on (sX4_eraseRows cs8 tq9 (by (try simp only [zp] at ⊢) <;> (try simp only [zz, Int32.reduceToInt, ne_eq] at ⊢) <;> (try simp (disch := omega) only [zb] at ⊢) <;> first | omega | ((try simp (disch := omega) only [zb] at ⊢) <;> omega)) ) ?_
  intro q11 hqq11
  obtain ⟨cq11, gq11, xq11⟩ := hqq11
  have fq11 := fr_trans fs8 gq11 rfl
  refine sw_sh (ci_sh cq11 t_p0 rfl) ?_
  refine sw_on (sX3_eraseLinks cq11 t_p0  ) ?_
  intro q13 hqq13
  obtain ⟨cq13, gq13, xq13⟩ := hqq13
  have fq13 := fr_trans fq11 gq13 rfl
  exact sw_some ⟨cq13, fq13, trivial⟩
abbrev KX4_fill : List Nat := [22, 23]
set_option maxHeartbeats 4000000 in
set_option maxRecDepth 10000 in
theorem sX4_fill_46 {T : Nat → Option Nat} {σ0 : mm_M} : ∀ (n : Nat) (a0 : Nat) (x1 : Int32) (x2 : Int32) (a3 : Nat) (x4 : Int32) (x5 : Int32) (σ : mm_M), sCI T σ → sFR T KX4_fill σ0 σ → (T a0 = some 4) → (T a3 = some 13) → (0 ≤ x1.toInt ∧ x1.toInt ≤ 24) → (0 ≤ x2.toInt ∧ x2.toInt ≤ 8) → (0 ≤ x4.toInt ∧ x4.toInt ≤ 10) → (0 ≤ x5.toInt ∧ x5.toInt ≤ 40) → 40 - x5.toInt < (n : Int) → sw (fX4_fill_46 n a0 x1 x2 a3 x4 x5 σ) (fun R => sCI T R ∧ sFR T KX4_fill σ0 R ∧ (True)) := by
  intro n
  induction n with
  | zero => intro a0 x1 x2 a3 x4 x5 σ c0 f0 t_a0 t_a3 p_0 p_1 p_2 p_3 hn; exfalso; exact (by (try simp only [zp] at p_0 p_1 p_2 p_3 hn ⊢) <;> (try simp only [zz, Int32.reduceToInt, ne_eq] at p_0 p_1 p_2 p_3 hn ⊢) <;> (try simp (disch := omega) only [zb] at p_0 p_1 p_2 p_3 hn ⊢) <;> first | omega | ((try simp (disch := omega) only [zb] at p_0 p_1 p_2 p_3 hn ⊢) <;> omega))
  | succ n ih =>
    intro a0 x1 x2 a3 x4 x5 σ c0 f0 t_a0 t_a3 p_0 p_1 p_2 p_3 hn
    unfold fX4_fill_46
    refine sw_ite (fun h175 => ?_) (fun h175 => ?_)
    · exact sw_some ⟨c0, f0, trivial⟩
    · refine sw_ar (ci_sh c0 t_a3 rfl) ?_
      refine sw_ite (fun h176 => ?_) (fun h176 => ?_)
      · refine sw_ib (by (try simp only [zp] at p_0 p_1 p_2 p_3 hn h175 h176 ⊢) <;> (try simp only [zz, Int32.reduceToInt, ne_eq] at p_0 p_1 p_2 p_3 hn h175 h176 ⊢) <;> (try simp (disch := omega) only [zb] at p_0 p_1 p_2 p_3 hn h175 h176 ⊢) <;> first | omega | ((try simp (disch := omega) only [zb] at p_0 p_1 p_2 p_3 hn h175 h176 ⊢) <;> omega)) ?_
        refine sw_ite (fun h177 => ?_) (fun h177 => ?_)
        · exact ih a0 x1 x2 a3 x4 (x5 + 1) σ c0 f0 t_a0 t_a3 (by (try simp only [zp] at p_0 p_1 p_2 p_3 hn h175 h176 h177 ⊢) <;> (try simp only [zz, Int32.reduceToInt, ne_eq] at p_0 p_1 p_2 p_3 hn h175 h176 h177 ⊢) <;> (try simp (disch := omega) only [zb] at p_0 p_1 p_2 p_3 hn h175 h176 h177 ⊢) <;> first | omega | ((try simp (disch := omega) only [zb] at p_0 p_1 p_2 p_3 hn h175 h176 h177 ⊢) <;> omega)) (by (try simp only [zp] at p_0 p_1 p_2 p_3 hn h175 h176 h177 ⊢) <;> (try simp only [zz, Int32.reduceToInt, ne_eq] at p_0 p_1 p_2 p_3 hn h175 h176 h177 ⊢) <;> (try simp (disch := omega) only [zb] at p_0 p_1 p_2 p_3 hn h175 h176 h177 ⊢) <;> first | omega | ((try simp (disch := omega) only [zb] at p_0 p_1 p_2 p_3 hn h175 h176 h177 ⊢) <;> omega)) (by (try simp only [zp] at p_0 p_1 p_2 p_3 hn h175 h176 h177 ⊢) <;> (try simp only [zz, Int32.reduceToInt, ne_eq] at p_0 p_1 p_2 p_3 hn h175 h176 h177 ⊢) <;> (try simp (disch := omega) only [zb] at p_0 p_1 p_2 p_3 hn h175 h176 h177 ⊢) <;> first | omega | ((try simp (disch := omega) only [zb] at p_0 p_1 p_2 p_3 hn h175 h176 h177 ⊢) <;> omega)) (by (try simp only [zp] at p_0 p_1 p_2 p_3 hn h175 h176 h177 ⊢) <;> (try simp only [zz, Int32.reduceToInt, ne_eq] at p_0 p_1 p_2 p_3 hn h175 h176 h177 ⊢) <;> (try simp (disch := omega) only [zb] at p_0 p_1 p_2 p_3 hn h175 h176 h177 ⊢) <;> first | omega | ((try simp (disch := omega) only [zb] at p_0 p_1 p_2 p_3 hn h175 h176 h177 ⊢) <;> omega)) (by (try simp only [zp] at p_0 p_1 p_2 p_3 hn h175 h176 h177 ⊢) <;> (try simp only [zz, Int32.reduceToInt, ne_eq] at p_0 p_1 p_2 p_3 hn h175 h176 h177 ⊢) <;> (try simp (disch := omega) only [zb] at p_0 p_1 p_2 p_3 hn h175 h176 h177 ⊢) <;> first | omega | ((try simp (disch := omega) only [zb] at p_0 p_1 p_2 p_3 hn h175 h176 h177 ⊢) <;> omega))
        · refine sw_sh (ci_sh c0 t_a0 rfl) ?_
          refine sw_ib (by (try simp only [zp] at p_0 p_1 p_2 p_3 hn h175 h176 h177 ⊢) <;> (try simp only [zz, Int32.reduceToInt, ne_eq] at p_0 p_1 p_2 p_3 hn h175 h176 h177 ⊢) <;> (try simp (disch := omega) only [zb] at p_0 p_1 p_2 p_3 hn h175 h176 h177 ⊢) <;> first | omega | ((try simp (disch := omega) only [zb] at p_0 p_1 p_2 p_3 hn h175 h176 h177 ⊢) <;> omega)) ?_
          obtain ⟨q21, eq21, tq21⟩ := ci_ref c0 t_a0 0 (κ' := 22) rfl
          refine sw_onS eq21 ?_
          refine sw_ar (ci_sh c0 tq21 rfl) ?_
          refine sw_ib (by (try simp only [zp] at p_0 p_1 p_2 p_3 hn h175 h176 h177 ⊢) <;> (try simp only [zz, Int32.reduceToInt, ne_eq] at p_0 p_1 p_2 p_3 hn h175 h176 h177 ⊢) <;> (try simp (disch := omega) only [zb] at p_0 p_1 p_2 p_3 hn h175 h176 h177 ⊢) <;> first | omega | ((try simp (disch := omega) only [zb] at p_0 p_1 p_2 p_3 hn h175 h176 h177 ⊢) <;> omega)) ?_
          have cs24 := ci_wI c0 tq21 (j := ((x1 * 40) + x5).toNatClampNeg) (v := (mm_I σ a3 ((x4 + x5) - x2).toNatClampNeg) &&& 127) (kr_n rfl)
          have fs24 := fr_wI f0 tq21 (j := ((x1 * 40) + x5).toNatClampNeg) (v := (mm_I σ a3 ((x4 + x5) - x2).toNatClampNeg) &&& 127) rfl
          refine sw_let (fun s24 es24 => ?_)
          rw [es24] at cs24 fs24
          exact ih a0 x1 x2 a3 x4 (x5 + 1) s24 cs24 fs24 t_a0 t_a3 (by (try simp only [zp] at p_0 p_1 p_2 p_3 hn h175 h176 h177 ⊢) <;> (try simp only [zz, Int32.reduceToInt, ne_eq] at p_0 p_1 p_2 p_3 hn h175 h176 h177 ⊢) <;> (try simp (disch := omega) only [zb] at p_0 p_1 p_2 p_3 hn h175 h176 h177 ⊢) <;> first | omega | ((try simp (disch := omega) only [zb] at p_0 p_1 p_2 p_3 hn h175 h176 h177 ⊢) <;> omega)) (by (try simp only [zp] at p_0 p_1 p_2 p_3 hn h175 h176 h177 ⊢) <;> (try simp only [zz, Int32.reduceToInt, ne_eq] at p_0 p_1 p_2 p_3 hn h175 h176 h177 ⊢) <;> (try simp (disch := omega) only [zb] at p_0 p_1 p_2 p_3 hn h175 h176 h177 ⊢) <;> first | omega | ((try simp (disch := omega) only [zb] at p_0 p_1 p_2 p_3 hn h175 h176 h177 ⊢) <;> omega)) (by (try simp only [zp] at p_0 p_1 p_2 p_3 hn h175 h176 h177 ⊢) <;> (try simp only [zz, Int32.reduceToInt, ne_eq] at p_0 p_1 p_2 p_3 hn h175 h176 h177 ⊢) <;> (try simp (disch := omega) only [zb] at p_0 p_1 p_2 p_3 hn h175 h176 h177 ⊢) <;> first | omega | ((try simp (disch := omega) only [zb] at p_0 p_1 p_2 p_3 hn h175 h176 h177 ⊢) <;> omega)) (by (try simp only [zp] at p_0 p_1 p_2 p_3 hn h175 h176 h177 ⊢) <;> (try simp only [zz, Int32.reduceToInt, ne_eq] at p_0 p_1 p_2 p_3 hn h175 h176 h177 ⊢) <;> (try simp (disch := omega) only [zb] at p_0 p_1 p_2 p_3 hn h175 h176 h177 ⊢) <;> first | omega | ((try simp (disch := omega) only [zb] at p_0 p_1 p_2 p_3 hn h175 h176 h177 ⊢) <;> omega)) (by (try simp only [zp] at p_0 p_1 p_2 p_3 hn h175 h176 h177 ⊢) <;> (try simp only [zz, Int32.reduceToInt, ne_eq] at p_0 p_1 p_2 p_3 hn h175 h176 h177 ⊢) <;> (try simp (disch := omega) only [zb] at p_0 p_1 p_2 p_3 hn h175 h176 h177 ⊢) <;> first | omega | ((try simp (disch := omega) only [zb] at p_0 p_1 p_2 p_3 hn h175 h176 h177 ⊢) <;> omega))
      · exact ih a0 x1 x2 a3 x4 (x5 + 1) σ c0 f0 t_a0 t_a3 (by (try simp only [zp] at p_0 p_1 p_2 p_3 hn h175 h176 ⊢) <;> (try simp only [zz, Int32.reduceToInt, ne_eq] at p_0 p_1 p_2 p_3 hn h175 h176 ⊢) <;> (try simp (disch := omega) only [zb] at p_0 p_1 p_2 p_3 hn h175 h176 ⊢) <;> first | omega | ((try simp (disch := omega) only [zb] at p_0 p_1 p_2 p_3 hn h175 h176 ⊢) <;> omega)) (by (try simp only [zp] at p_0 p_1 p_2 p_3 hn h175 h176 ⊢) <;> (try simp only [zz, Int32.reduceToInt, ne_eq] at p_0 p_1 p_2 p_3 hn h175 h176 ⊢) <;> (try simp (disch := omega) only [zb] at p_0 p_1 p_2 p_3 hn h175 h176 ⊢) <;> first | omega | ((try simp (disch := omega) only [zb] at p_0 p_1 p_2 p_3 hn h175 h176 ⊢) <;> omega)) (by (try simp only [zp] at p_0 p_1 p_2 p_3 hn h175 h176 ⊢) <;> (try simp only [zz, Int32.reduceToInt, ne_eq] at p_0 p_1 p_2 p_3 hn h175 h176 ⊢) <;> (try simp (disch := omega) only [zb] at p_0 p_1 p_2 p_3 hn h175 h176 ⊢) <;> first | omega | ((try simp (disch := omega) only [zb] at p_0 p_1 p_2 p_3 hn h175 h176 ⊢) <;> omega)) (by (try simp only [zp] at p_0 p_1 p_2 p_3 hn h175 h176 ⊢) <;> (try simp only [zz, Int32.reduceToInt, ne_eq] at p_0 p_1 p_2 p_3 hn h175 h176 ⊢) <;> (try simp (disch := omega) only [zb] at p_0 p_1 p_2 p_3 hn h175 h176 ⊢) <;> first | omega | ((try simp (disch := omega) only [zb] at p_0 p_1 p_2 p_3 hn h175 h176 ⊢) <;> omega)) (by (try simp only [zp] at p_0 p_1 p_2 p_3 hn h175 h176 ⊢) <;> (try simp only [zz, Int32.reduceToInt, ne_eq] at p_0 p_1 p_2 p_3 hn h175 h176 ⊢) <;> (try simp (disch := omega) only [zb] at p_0 p_1 p_2 p_3 hn h175 h176 ⊢) <;> first | omega | ((try simp (disch := omega) only [zb] at p_0 p_1 p_2 p_3 hn h175 h176 ⊢) <;> omega))
set_option maxHeartbeats 4000000 in
set_option maxRecDepth 10000 in
theorem sX4_fill {T : Nat → Option Nat} {σ0 : mm_M} {p0 : Nat} {p1 : Int32} {p2 : Int32} {p3 : Nat} {p4 : Int32} (c0 : sCI T σ0) (t_p0 : T p0 = some 4) (t_p3 : T p3 = some 13) (p_0 : 0 ≤ p2.toInt ∧ p2.toInt ≤ 8) (p_1 : 0 ≤ p4.toInt ∧ p4.toInt ≤ 10) : sw (fX4_fill p0 p1 p2 p3 p4 σ0) (fun R => sCI T R ∧ sFR T KX4_fill σ0 R ∧ (True)) := by
  have f0 : sFR T KX4_fill σ0 σ0 := fr_refl
  unfold fX4_fill
  refine sw_ite (fun h178 => ?_) (fun h178 => ?_)
  · refine sw_sh (ci_sh c0 t_p0 rfl) ?_
    obtain ⟨q3, eq3, tq3⟩ := ci_ref c0 t_p0 1 (κ' := 23) rfl
    refine sw_onS eq3 ?_
    refine sw_ar (ci_sh c0 tq3 rfl) ?_
    refine sw_ib (by (try simp only [zp] at p_0 p_1 h178 ⊢) <;> (try simp only [zz, Int32.reduceToInt, ne_eq] at p_0 p_1 h178 ⊢) <;> (try simp (disch := omega) only [zb] at p_0 p_1 h178 ⊢) <;> first | omega | ((try simp (disch := omega) only [zb] at p_0 p_1 h178 ⊢) <;> omega)) ?_
    have r179 := ci_rg c0 tq3 p1.toNatClampNeg (lo := 0) (hi := 1) rfl
    refine sw_ite (fun h180 => ?_) (fun h180 => ?_)
    · unfold fX4_fill_27
      refine sw_sh (ci_sh c0 t_p0 rfl) ?_
      refine sw_on (sX4_setSigns c0 t_p0 (by (try simp only [zp] at p_0 p_1 h178 r179 h180 ⊢) <;> (try simp only [zz, Int32.reduceToInt, ne_eq] at p_0 p_1 h178 r179 h180 ⊢) <;> (try simp (disch := omega) only [zb] at p_0 p_1 h178 r179 h180 ⊢) <;> first | omega | ((try simp (disch := omega) only [zb] at p_0 p_1 h178 r179 h180 ⊢) <;> omega)) ) ?_
      intro q8 hqq8
      obtain ⟨cq8, gq8, xq8⟩ := hqq8
      have fq8 := fr_trans f0 gq8 rfl
      refine sw_sh (ci_sh cq8 t_p0 rfl) ?_
      have v181 : mm_R q8 p0 1 = some q3 := ((gq8.2.2 _ _ t_p0 1 rfl).2.trans eq3)
      refine sw_onS v181 ?_
      refine sw_ar (ci_sh cq8 tq3 rfl) ?_
      refine sw_ib (by (try simp only [zp] at p_0 p_1 h178 r179 h180 ⊢) <;> (try simp only [zz, Int32.reduceToInt, ne_eq] at p_0 p_1 h178 r179 h180 ⊢) <;> (try simp (disch := omega) only [zb] at p_0 p_1 h178 r179 h180 ⊢) <;> first | omega | ((try simp (disch := omega) only [zb] at p_0 p_1 h178 r179 h180 ⊢) <;> omega)) ?_
      have cs13 := ci_wI cq8 tq3 (j := p1.toNatClampNeg) (v := vp_nar .boolean 1) (kr_s (lo := 0) (hi := 1) rfl (by (try simp only [zp] at p_0 p_1 h178 r179 h180 ⊢) <;> (try simp only [zz, Int32.reduceToInt, ne_eq] at p_0 p_1 h178 r179 h180 ⊢) <;> (try simp (disch := omega) only [zb] at p_0 p_1 h178 r179 h180 ⊢) <;> first | omega | ((try simp (disch := omega) only [zb] at p_0 p_1 h178 r179 h180 ⊢) <;> omega)))
      have fs13 := fr_wI fq8 tq3 (j := p1.toNatClampNeg) (v := vp_nar .boolean 1) rfl
      refine sw_let (fun s13 es13 => ?_)
      rw [es13] at cs13 fs13
      exact sX4_fill_46 mm_fuel p0 p1 p2 p3 p4 (if p2 < 0 then 0 else p2) s13 cs13 fs13 t_p0 t_p3 (by (try simp only [zp] at p_0 p_1 h178 r179 h180 ⊢) <;> (try simp only [zz, Int32.reduceToInt, ne_eq] at p_0 p_1 h178 r179 h180 ⊢) <;> (try simp (disch := omega) only [zb] at p_0 p_1 h178 r179 h180 ⊢) <;> first | omega | ((try simp (disch := omega) only [zb] at p_0 p_1 h178 r179 h180 ⊢) <;> omega)) (by (try simp only [zp] at p_0 p_1 h178 r179 h180 ⊢) <;> (try simp only [zz, Int32.reduceToInt, ne_eq] at p_0 p_1 h178 r179 h180 ⊢) <;> (try simp (disch := omega) only [zb] at p_0 p_1 h178 r179 h180 ⊢) <;> first | omega | ((try simp (disch := omega) only [zb] at p_0 p_1 h178 r179 h180 ⊢) <;> omega)) (by (try simp only [zp] at p_0 p_1 h178 r179 h180 ⊢) <;> (try simp only [zz, Int32.reduceToInt, ne_eq] at p_0 p_1 h178 r179 h180 ⊢) <;> (try simp (disch := omega) only [zb] at p_0 p_1 h178 r179 h180 ⊢) <;> first | omega | ((try simp (disch := omega) only [zb] at p_0 p_1 h178 r179 h180 ⊢) <;> omega)) (by (try simp only [zp] at p_0 p_1 h178 r179 h180 ⊢) <;> (try simp only [zz, Int32.reduceToInt, ne_eq] at p_0 p_1 h178 r179 h180 ⊢) <;> (try simp (disch := omega) only [zb] at p_0 p_1 h178 r179 h180 ⊢) <;> first | omega | ((try simp (disch := omega) only [zb] at p_0 p_1 h178 r179 h180 ⊢) <;> omega)) (by have hz : (mm_fuel : Int) = 2000 := rfl; rw [hz]; exact (by (try simp only [zp] at p_0 p_1 h178 r179 h180 ⊢) <;> (try simp only [zz, Int32.reduceToInt, ne_eq] at p_0 p_1 h178 r179 h180 ⊢) <;> (try simp (disch := omega) only [zb] at p_0 p_1 h178 r179 h180 ⊢) <;> first | omega | ((try simp (disch := omega) only [zb] at p_0 p_1 h178 r179 h180 ⊢) <;> omega)))
    · unfold fX4_fill_27
      refine sw_sh (ci_sh c0 t_p0 rfl) ?_
      refine sw_on (sX4_setSigns c0 t_p0 (by (try simp only [zp] at p_0 p_1 h178 r179 h180 ⊢) <;> (try simp only [zz, Int32.reduceToInt, ne_eq] at p_0 p_1 h178 r179 h180 ⊢) <;> (try simp (disch := omega) only [zb] at p_0 p_1 h178 r179 h180 ⊢) <;> first | omega | ((try simp (disch := omega) only [zb] at p_0 p_1 h178 r179 h180 ⊢) <;> omega)) ) ?_
      intro q8 hqq8
      obtain ⟨cq8, gq8, xq8⟩ := hqq8
      have fq8 := fr_trans f0 gq8 rfl
      refine sw_sh (ci_sh cq8 t_p0 rfl) ?_
      have v182 : mm_R q8 p0 1 = some q3 := ((gq8.2.2 _ _ t_p0 1 rfl).2.trans eq3)
      refine sw_onS v182 ?_
      refine sw_ar (ci_sh cq8 tq3 rfl) ?_
      refine sw_ib (by (try simp only [zp] at p_0 p_1 h178 r179 h180 ⊢) <;> (try simp only [zz, Int32.reduceToInt, ne_eq] at p_0 p_1 h178 r179 h180 ⊢) <;> (try simp (disch := omega) only [zb] at p_0 p_1 h178 r179 h180 ⊢) <;> first | omega | ((try simp (disch := omega) only [zb] at p_0 p_1 h178 r179 h180 ⊢) <;> omega)) ?_
      have cs13 := ci_wI cq8 tq3 (j := p1.toNatClampNeg) (v := vp_nar .boolean 1) (kr_s (lo := 0) (hi := 1) rfl (by (try simp only [zp] at p_0 p_1 h178 r179 h180 ⊢) <;> (try simp only [zz, Int32.reduceToInt, ne_eq] at p_0 p_1 h178 r179 h180 ⊢) <;> (try simp (disch := omega) only [zb] at p_0 p_1 h178 r179 h180 ⊢) <;> first | omega | ((try simp (disch := omega) only [zb] at p_0 p_1 h178 r179 h180 ⊢) <;> omega)))
      have fs13 := fr_wI fq8 tq3 (j := p1.toNatClampNeg) (v := vp_nar .boolean 1) rfl
      refine sw_let (fun s13 es13 => ?_)
      rw [es13] at cs13 fs13
      exact sX4_fill_46 mm_fuel p0 p1 p2 p3 p4 (if p2 < 0 then 0 else p2) s13 cs13 fs13 t_p0 t_p3 (by (try simp only [zp] at p_0 p_1 h178 r179 h180 ⊢) <;> (try simp only [zz, Int32.reduceToInt, ne_eq] at p_0 p_1 h178 r179 h180 ⊢) <;> (try simp (disch := omega) only [zb] at p_0 p_1 h178 r179 h180 ⊢) <;> first | omega | ((try simp (disch := omega) only [zb] at p_0 p_1 h178 r179 h180 ⊢) <;> omega)) (by (try simp only [zp] at p_0 p_1 h178 r179 h180 ⊢) <;> (try simp only [zz, Int32.reduceToInt, ne_eq] at p_0 p_1 h178 r179 h180 ⊢) <;> (try simp (disch := omega) only [zb] at p_0 p_1 h178 r179 h180 ⊢) <;> first | omega | ((try simp (disch := omega) only [zb] at p_0 p_1 h178 r179 h180 ⊢) <;> omega)) (by (try simp only [zp] at p_0 p_1 h178 r179 h180 ⊢) <;> (try simp only [zz, Int32.reduceToInt, ne_eq] at p_0 p_1 h178 r179 h180 ⊢) <;> (try simp (disch := omega) only [zb] at p_0 p_1 h178 r179 h180 ⊢) <;> first | omega | ((try simp (disch := omega) only [zb] at p_0 p_1 h178 r179 h180 ⊢) <;> omega)) (by (try simp only [zp] at p_0 p_1 h178 r179 h180 ⊢) <;> (try simp only [zz, Int32.reduceToInt, ne_eq] at p_0 p_1 h178 r179 h180 ⊢) <;> (try simp (disch := omega) only [zb] at p_0 p_1 h178 r179 h180 ⊢) <;> first | omega | ((try simp (disch := omega) only [zb] at p_0 p_1 h178 r179 h180 ⊢) <;> omega)) (by have hz : (mm_fuel : Int) = 2000 := rfl; rw [hz]; exact (by (try simp only [zp] at p_0 p_1 h178 r179 h180 ⊢) <;> (try simp only [zz, Int32.reduceToInt, ne_eq] at p_0 p_1 h178 r179 h180 ⊢) <;> (try simp (disch := omega) only [zb] at p_0 p_1 h178 r179 h180 ⊢) <;> first | omega | ((try simp (disch := omega) only [zb] at p_0 p_1 h178 r179 h180 ⊢) <;> omega)))
  · exact sw_some ⟨c0, f0, trivial⟩
abbrev KX8_nothing : List Nat := []
set_option maxHeartbeats 4000000 in
set_option maxRecDepth 10000 in
theorem sX8_nothing {T : Nat → Option Nat} {σ0 : mm_M} {p0 : Nat} {p1 : Int32} (c0 : sCI T σ0) (t_p0 : T p0 = some 8) : sw (fX8_nothing p0 p1 σ0) (fun R => sCI T R.2 ∧ sFR T KX8_nothing σ0 R.2 ∧ (True)) := by
  have f0 : sFR T KX8_nothing σ0 σ0 := fr_refl
  unfold fX8_nothing
  refine sw_ite (fun h183 => ?_) (fun h183 => ?_)
  · refine sw_sh (ci_sh c0 t_p0 rfl) ?_
    obtain ⟨q3, eq3, tq3⟩ := ci_ref c0 t_p0 6 (κ' := 16) rfl
    refine sw_onS eq3 ?_
    refine sw_ar (ci_sh c0 tq3 rfl) ?_
    refine sw_ib (by (try simp only [zp] at h183 ⊢) <;> (try simp only [zz, Int32.reduceToInt, ne_eq] at h183 ⊢) <;> (try simp (disch := omega) only [zb] at h183 ⊢) <;> first | omega | ((try simp (disch := omega) only [zb] at h183 ⊢) <;> omega)) ?_
    exact sw_some ⟨c0, f0, trivial⟩
  · exact sw_some ⟨c0, f0, trivial⟩
set_option maxHeartbeats 4000000 in
set_option maxRecDepth 10000 in
theorem sX8_pages {T : Nat → Option Nat} {σ0 : mm_M} {p0 : Nat} (c0 : sCI T σ0) (t_p0 : T p0 = some 8) : sw (fX8_pages p0 σ0) (fun R => R.2 = σ0 ∧ (True)) := by
  unfold fX8_pages
  refine sw_sh (ci_sh c0 t_p0 rfl) ?_
  obtain ⟨q2, eq2, tq2⟩ := ci_ref c0 t_p0 7 (κ' := 6) rfl
  refine sw_onS eq2 ?_
  refine sw_sh (ci_sh c0 tq2 rfl) ?_
  have r184 := ci_rg c0 tq2 1 (lo := 0) (hi := 20) rfl
  exact sw_some ⟨rfl, trivial⟩
abbrev KX8_addToTape : List Nat := [13, 804]
set_option maxHeartbeats 4000000 in
set_option maxRecDepth 10000 in
theorem sX8_addToTape_3 {T : Nat → Option Nat} {σ0 : mm_M} : ∀ (n : Nat) (a0 : Nat) (x1 : Int32) (x2 : Int32) (σ : mm_M), sCI T σ → sFR T KX8_addToTape σ0 σ → (T a0 = some 8) → (-8 ≤ x2.toInt ∧ x2.toInt ≤ 24) → x2.toInt + 8 < (n : Int) → sw (fX8_addToTape_3 n a0 x1 x2 σ) (fun R => sCI T R ∧ sFR T KX8_addToTape σ0 R ∧ (True)) := by
  intro n
  induction n with
  | zero => intro a0 x1 x2 σ c0 f0 t_a0 p_0 hn; exfalso; exact (by (try simp only [zp] at p_0 hn ⊢) <;> (try simp only [zz, Int32.reduceToInt, ne_eq] at p_0 hn ⊢) <;> (try simp (disch := omega) only [zb] at p_0 hn ⊢) <;> first | omega | ((try simp (disch := omega) only [zb] at p_0 hn ⊢) <;> omega))
  | succ n ih =>
    intro a0 x1 x2 σ c0 f0 t_a0 p_0 hn
    unfold fX8_addToTape_3
    refine sw_ite (fun h185 => ?_) (fun h185 => ?_)
    · exact sw_some ⟨c0, f0, trivial⟩
    · refine sw_sh (ci_sh c0 t_a0 rfl) ?_
      have r186 := ci_rg c0 t_a0 4 (lo := 0) (hi := 60) rfl
      refine sw_ite (fun h187 => ?_) (fun h187 => ?_)
      · exact sw_some ⟨c0, f0, trivial⟩
      · obtain ⟨q4, eq4, tq4⟩ := ci_ref c0 t_a0 3 (κ' := 13) rfl
        refine sw_onS eq4 ?_
        refine sw_ar (ci_sh c0 tq4 rfl) ?_
        refine sw_ib (by (try simp only [zp] at p_0 hn h185 r186 h187 ⊢) <;> (try simp only [zz, Int32.reduceToInt, ne_eq] at p_0 hn h185 r186 h187 ⊢) <;> (try simp (disch := omega) only [zb] at p_0 hn h185 r186 h187 ⊢) <;> first | omega | ((try simp (disch := omega) only [zb] at p_0 hn h185 r186 h187 ⊢) <;> omega)) ?_
        have cs7 := ci_wI c0 tq4 (j := (mm_I σ a0 4).toNatClampNeg) (v := (x1 >>> ((x2 : Int32) &&& 31)) &&& 255) (kr_n rfl)
        have fs7 := fr_wI f0 tq4 (j := (mm_I σ a0 4).toNatClampNeg) (v := (x1 >>> ((x2 : Int32) &&& 31)) &&& 255) rfl
        refine sw_let (fun s7 es7 => ?_)
        rw [es7] at cs7 fs7
        have w188 : mm_I s7 a0 4 = mm_I σ a0 4 := by rw [← es7]; exact rd_k t_a0 tq4 (by decide)
        have r189 := ci_rg cs7 t_a0 4 (lo := 0) (hi := 60) rfl
        have cs8 := ci_wI cs7 t_a0 (j := 4) (v := (mm_I s7 a0 4) + 1) (kr_s (lo := 0) (hi := 60) rfl (by (try simp only [zp] at p_0 hn h185 r186 h187 w188 r189 ⊢) <;> (try simp only [zz, Int32.reduceToInt, ne_eq] at p_0 hn h185 r186 h187 w188 r189 ⊢) <;> (try simp (disch := omega) only [zb] at p_0 hn h185 r186 h187 w188 r189 ⊢) <;> first | omega | ((try simp (disch := omega) only [zb] at p_0 hn h185 r186 h187 w188 r189 ⊢) <;> omega)))
        have fs8 := fr_wI fs7 t_a0 (j := 4) (v := (mm_I s7 a0 4) + 1) rfl
        refine sw_let (fun s8 es8 => ?_)
        rw [es8] at cs8 fs8
        exact ih a0 x1 (x2 + (-8)) s8 cs8 fs8 t_a0 (by (try simp only [zp] at p_0 hn h185 r186 h187 w188 r189 ⊢) <;> (try simp only [zz, Int32.reduceToInt, ne_eq] at p_0 hn h185 r186 h187 w188 r189 ⊢) <;> (try simp (disch := omega) only [zb] at p_0 hn h185 r186 h187 w188 r189 ⊢) <;> first | omega | ((try simp (disch := omega) only [zb] at p_0 hn h185 r186 h187 w188 r189 ⊢) <;> omega)) (by (try simp only [zp] at p_0 hn h185 r186 h187 w188 r189 ⊢) <;> (try simp only [zz, Int32.reduceToInt, ne_eq] at p_0 hn h185 r186 h187 w188 r189 ⊢) <;> (try simp (disch := omega) only [zb] at p_0 hn h185 r186 h187 w188 r189 ⊢) <;> first | omega | ((try simp (disch := omega) only [zb] at p_0 hn h185 r186 h187 w188 r189 ⊢) <;> omega))
set_option maxHeartbeats 4000000 in
set_option maxRecDepth 10000 in
theorem sX8_addToTape {T : Nat → Option Nat} {σ0 : mm_M} {p0 : Nat} {p1 : Int32} (c0 : sCI T σ0) (t_p0 : T p0 = some 8) : sw (fX8_addToTape p0 p1 σ0) (fun R => sCI T R ∧ sFR T KX8_addToTape σ0 R ∧ (True)) := by
  have f0 : sFR T KX8_addToTape σ0 σ0 := fr_refl
  unfold fX8_addToTape
  exact sX8_addToTape_3 mm_fuel p0 p1 24 σ0 c0 f0 t_p0 (by (try simp only [zp] at ⊢) <;> (try simp only [zz, Int32.reduceToInt, ne_eq] at ⊢) <;> (try simp (disch := omega) only [zb] at ⊢) <;> first | omega | ((try simp (disch := omega) only [zb] at ⊢) <;> omega)) (by have hz : (mm_fuel : Int) = 2000 := rfl; rw [hz]; exact (by (try simp only [zp] at ⊢) <;> (try simp only [zz, Int32.reduceToInt, ne_eq] at ⊢) <;> (try simp (disch := omega) only [zb] at ⊢) <;> first | omega | ((try simp (disch := omega) only [zb] at ⊢) <;> omega)))
set_option maxHeartbeats 4000000 in
set_option maxRecDepth 10000 in
theorem sX8_cues {T : Nat → Option Nat} {σ0 : mm_M} {p0 : Nat} (c0 : sCI T σ0) (t_p0 : T p0 = some 8) : sw (fX8_cues p0 σ0) (fun R => R.2 = σ0 ∧ (True)) := by
  unfold fX8_cues
  refine sw_sh (ci_sh c0 t_p0 rfl) ?_
  have r190 := ci_rg c0 t_p0 11 (lo := 0) (hi := 60) rfl
  exact sw_some ⟨rfl, trivial⟩
set_option maxHeartbeats 4000000 in
set_option maxRecDepth 10000 in
theorem sX8_cueAt {T : Nat → Option Nat} {σ0 : mm_M} {p0 : Nat} {p1 : Int32} (c0 : sCI T σ0) (t_p0 : T p0 = some 8) : sw (fX8_cueAt p0 p1 σ0) (fun R => R.2 = σ0 ∧ (∀ q, R.1 = some q → T q = some 1)) := by
  unfold fX8_cueAt
  refine sw_sh (ci_sh c0 t_p0 rfl) ?_
  have r191 := ci_rg c0 t_p0 11 (lo := 0) (hi := 60) rfl
  refine sw_ite (fun h192 => ?_) (fun h192 => ?_)
  · refine sw_ite (fun h193 => ?_) (fun h193 => ?_)
    · obtain ⟨q4, eq4, tq4⟩ := ci_ref c0 t_p0 10 (κ' := 17) rfl
      refine sw_onS eq4 ?_
      refine sw_ar (ci_sh c0 tq4 rfl) ?_
      refine sw_ib (by (try simp only [zp] at r191 h192 h193 ⊢) <;> (try simp only [zz, Int32.reduceToInt, ne_eq] at r191 h192 h193 ⊢) <;> (try simp (disch := omega) only [zb] at r191 h192 h193 ⊢) <;> first | omega | ((try simp (disch := omega) only [zb] at r191 h192 h193 ⊢) <;> omega)) ?_
      exact sw_some ⟨rfl, (fun q e => ci_nul c0 tq4 rfl e)⟩
    · exact sw_some ⟨rfl, (fun q e => by cases e)⟩
  · exact sw_some ⟨rfl, (fun q e => by cases e)⟩
abbrev KX8_endCue : List Nat := [1, 18]
set_option maxHeartbeats 4000000 in
set_option maxRecDepth 10000 in
theorem sX8_endCue {T : Nat → Option Nat} {σ0 : mm_M} {p0 : Nat} {p1 : Int32} (c0 : sCI T σ0) (t_p0 : T p0 = some 8) (p_0 : 0 ≤ p1.toInt ∧ p1.toInt ≤ 4) : sw (fX8_endCue p0 p1 σ0) (fun R => sCI T R ∧ sFR T KX8_endCue σ0 R ∧ (True)) := by
  have f0 : sFR T KX8_endCue σ0 σ0 := fr_refl
  unfold fX8_endCue
  refine sw_sh (ci_sh c0 t_p0 rfl) ?_
  obtain ⟨q2, eq2, tq2⟩ := ci_ref c0 t_p0 12 (κ' := 18) rfl
  refine sw_onS eq2 ?_
  refine sw_ar (ci_sh c0 tq2 rfl) ?_
  refine sw_ib (by (try simp only [zp] at p_0 ⊢) <;> (try simp only [zz, Int32.reduceToInt, ne_eq] at p_0 ⊢) <;> (try simp (disch := omega) only [zb] at p_0 ⊢) <;> first | omega | ((try simp (disch := omega) only [zb] at p_0 ⊢) <;> omega)) ?_
  refine sw_on (sX8_cueAt c0 t_p0  ) ?_
  intro q5 hqq5
  obtain ⟨eq5, xq5⟩ := hqq5
  (try rw [eq5])
  refine sw_nu (fun eq6 => ?_) (fun q6 eq6 => ?_)
  · exact sw_some ⟨c0, f0, trivial⟩
  · have tq6 := xq5 q6 eq6
    refine sw_sh (ci_sh c0 t_p0 rfl) ?_
    refine sw_sh (ci_sh c0 tq6 rfl) ?_
    obtain ⟨q9, eq9, tq9⟩ := ci_ref c0 tq6 2 (κ' := 27) rfl
    refine sw_onS eq9 ?_
    obtain ⟨q10, eq10, tq10⟩ := ci_ref c0 t_p0 9 (κ' := 2) rfl
    refine sw_onS eq10 ?_
    refine sw_sh (ci_sh c0 tq10 rfl) ?_
    refine sw_on (sX2_areThose c0 tq10 tq9  ) ?_
    intro q12 hqq12
    obtain ⟨eq12, xq12⟩ := hqq12
    (try rw [eq12])
    refine sw_ite (fun h194 => ?_) (fun h194 => ?_)
    · refine sw_sh (ci_sh c0 t_p0 rfl) ?_
      refine sw_sh (ci_sh c0 tq6 rfl) ?_
      have cs16 := ci_wI c0 tq6 (j := 3) (v := mm_I σ0 p0 13) (kr_n rfl)
      have fs16 := fr_wI f0 tq6 (j := 3) (v := mm_I σ0 p0 13) rfl
      refine sw_let (fun s16 es16 => ?_)
      rw [es16] at cs16 fs16
      have v195 : mm_R s16 p0 12 = some q2 := (by rw [← es16]; exact eq2)
      refine sw_onS v195 ?_
      refine sw_ar (ci_sh cs16 tq2 rfl) ?_
      refine sw_ib (by (try simp only [zp] at p_0 h194 ⊢) <;> (try simp only [zz, Int32.reduceToInt, ne_eq] at p_0 h194 ⊢) <;> (try simp (disch := omega) only [zb] at p_0 h194 ⊢) <;> first | omega | ((try simp (disch := omega) only [zb] at p_0 h194 ⊢) <;> omega)) ?_
      have cs20 := ci_wI cs16 tq2 (j := p1.toNatClampNeg) (v := -1) (kr_n rfl)
      have fs20 := fr_wI fs16 tq2 (j := p1.toNatClampNeg) (v := -1) rfl
      refine sw_let (fun s20 es20 => ?_)
      rw [es20] at cs20 fs20
      exact sw_some ⟨cs20, fs20, trivial⟩
    · exact sw_some ⟨c0, f0, trivial⟩
abbrev KX8_cell : List Nat := []
set_option maxHeartbeats 4000000 in
set_option maxRecDepth 10000 in
theorem sX8_cell {T : Nat → Option Nat} {σ0 : mm_M} {p0 : Nat} {p1 : Int32} {p2 : Int32} {p3 : Int32} {p4 : Int32} {p5 : Int32} (c0 : sCI T σ0) (t_p0 : T p0 = some 8) : sw (fX8_cell p0 p1 p2 p3 p4 p5 σ0) (fun R => sCI T R.2 ∧ sFR T KX8_cell σ0 R.2 ∧ (True)) := by
  have f0 : sFR T KX8_cell σ0 σ0 := fr_refl
  unfold fX8_cell
  refine sw_ite (fun h196 => ?_) (fun h196 => ?_)
  · refine sw_ite (fun h197 => ?_) (fun h197 => ?_)
    · refine sw_ite (fun h198 => ?_) (fun h198 => ?_)
      · refine sw_ite (fun h199 => ?_) (fun h199 => ?_)
        · refine sw_ite (fun h200 => ?_) (fun h200 => ?_)
          · refine sw_sh (ci_sh c0 t_p0 rfl) ?_
            obtain ⟨q7, eq7, tq7⟩ := ci_ref c0 t_p0 0 (κ' := 10) rfl
            refine sw_onS eq7 ?_
            refine sw_ar (ci_sh c0 tq7 rfl) ?_
            refine sw_ib (by (try simp only [zp] at h196 h197 h198 h199 h200 ⊢) <;> (try simp only [zz, Int32.reduceToInt, ne_eq] at h196 h197 h198 h199 h200 ⊢) <;> (try simp (disch := omega) only [zb] at h196 h197 h198 h199 h200 ⊢) <;> first | omega | ((try simp (disch := omega) only [zb] at h196 h197 h198 h199 h200 ⊢) <;> omega)) ?_
            refine sw_ite (fun h201 => ?_) (fun h201 => ?_)
            · obtain ⟨q20, eq20, tq20⟩ := ci_chan c0 tq7 (k := p1.toNatClampNeg) (by (try simp only [zp] at h196 h197 h198 h199 h200 h201 ⊢) <;> (try simp only [zz, Int32.reduceToInt, ne_eq] at h196 h197 h198 h199 h200 h201 ⊢) <;> (try simp (disch := omega) only [zb] at h196 h197 h198 h199 h200 h201 ⊢) <;> first | omega | ((try simp (disch := omega) only [zb] at h196 h197 h198 h199 h200 h201 ⊢) <;> omega))
              refine sw_onS eq20 ?_
              refine sw_sh (ci_sh c0 tq20 rfl) ?_
              unfold fX8_cell_91
              refine sw_ite (fun h202 => ?_) (fun h202 => ?_)
              · obtain ⟨q17, eq17, tq17⟩ := ci_ref c0 tq20 0 (κ' := 5) rfl
                refine sw_onS eq17 ?_
                refine sw_sh (ci_sh c0 tq17 rfl) ?_
                refine sw_on (sX5_letterAt c0 tq17  ) ?_
                intro q19 hqq19
                obtain ⟨eq19, xq19⟩ := hqq19
                (try rw [eq19])
                exact sw_some ⟨c0, f0, trivial⟩
              · obtain ⟨q14, eq14, tq14⟩ := ci_ref c0 tq20 0 (κ' := 5) rfl
                refine sw_onS eq14 ?_
                refine sw_sh (ci_sh c0 tq14 rfl) ?_
                refine sw_on (sX5_lookAt c0 tq14  ) ?_
                intro q16 hqq16
                obtain ⟨eq16, xq16⟩ := hqq16
                (try rw [eq16])
                exact sw_some ⟨c0, f0, trivial⟩
            · obtain ⟨q11, eq11, tq11⟩ := ci_chan c0 tq7 (k := p1.toNatClampNeg) (by (try simp only [zp] at h196 h197 h198 h199 h200 h201 ⊢) <;> (try simp only [zz, Int32.reduceToInt, ne_eq] at h196 h197 h198 h199 h200 h201 ⊢) <;> (try simp (disch := omega) only [zb] at h196 h197 h198 h199 h200 h201 ⊢) <;> first | omega | ((try simp (disch := omega) only [zb] at h196 h197 h198 h199 h200 h201 ⊢) <;> omega))
              refine sw_onS eq11 ?_
              refine sw_sh (ci_sh c0 tq11 rfl) ?_
              unfold fX8_cell_91
              refine sw_ite (fun h203 => ?_) (fun h203 => ?_)
              · obtain ⟨q17, eq17, tq17⟩ := ci_ref c0 tq11 1 (κ' := 5) rfl
                refine sw_onS eq17 ?_
                refine sw_sh (ci_sh c0 tq17 rfl) ?_
                refine sw_on (sX5_letterAt c0 tq17  ) ?_
                intro q19 hqq19
                obtain ⟨eq19, xq19⟩ := hqq19
                (try rw [eq19])
                exact sw_some ⟨c0, f0, trivial⟩
              · obtain ⟨q14, eq14, tq14⟩ := ci_ref c0 tq11 1 (κ' := 5) rfl
                refine sw_onS eq14 ?_
                refine sw_sh (ci_sh c0 tq14 rfl) ?_
                refine sw_on (sX5_lookAt c0 tq14  ) ?_
                intro q16 hqq16
                obtain ⟨eq16, xq16⟩ := hqq16
                (try rw [eq16])
                exact sw_some ⟨c0, f0, trivial⟩
          · exact sw_some ⟨c0, f0, trivial⟩
        · exact sw_some ⟨c0, f0, trivial⟩
      · exact sw_some ⟨c0, f0, trivial⟩
    · exact sw_some ⟨c0, f0, trivial⟩
  · exact sw_some ⟨c0, f0, trivial⟩
abbrev KX8_state : List Nat := []
set_option maxHeartbeats 4000000 in
set_option maxRecDepth 10000 in
theorem sX8_state {T : Nat → Option Nat} {σ0 : mm_M} {p0 : Nat} {p1 : Int32} {p2 : Int32} (c0 : sCI T σ0) (t_p0 : T p0 = some 8) : sw (fX8_state p0 p1 p2 σ0) (fun R => sCI T R.2 ∧ sFR T KX8_state σ0 R.2 ∧ (True)) := by
  have f0 : sFR T KX8_state σ0 σ0 := fr_refl
  unfold fX8_state
  refine sw_ite (fun h204 => ?_) (fun h204 => ?_)
  · refine sw_ite (fun h205 => ?_) (fun h205 => ?_)
    · refine sw_sh (ci_sh c0 t_p0 rfl) ?_
      obtain ⟨q4, eq4, tq4⟩ := ci_ref c0 t_p0 0 (κ' := 10) rfl
      refine sw_onS eq4 ?_
      refine sw_ar (ci_sh c0 tq4 rfl) ?_
      refine sw_ib (by (try simp only [zp] at h204 h205 ⊢) <;> (try simp only [zz, Int32.reduceToInt, ne_eq] at h204 h205 ⊢) <;> (try simp (disch := omega) only [zb] at h204 h205 ⊢) <;> first | omega | ((try simp (disch := omega) only [zb] at h204 h205 ⊢) <;> omega)) ?_
      refine sw_ite (fun h206 => ?_) (fun h206 => ?_)
      · obtain ⟨q8, eq8, tq8⟩ := ci_chan c0 tq4 (k := p1.toNatClampNeg) (by (try simp only [zp] at h204 h205 h206 ⊢) <;> (try simp only [zz, Int32.reduceToInt, ne_eq] at h204 h205 h206 ⊢) <;> (try simp (disch := omega) only [zb] at h204 h205 h206 ⊢) <;> first | omega | ((try simp (disch := omega) only [zb] at h204 h205 h206 ⊢) <;> omega))
        refine sw_onS eq8 ?_
        refine sw_sh (ci_sh c0 tq8 rfl) ?_
        exact sw_some ⟨c0, f0, trivial⟩
      · refine sw_ite (fun h207 => ?_) (fun h207 => ?_)
        · obtain ⟨q11, eq11, tq11⟩ := ci_chan c0 tq4 (k := p1.toNatClampNeg) (by (try simp only [zp] at h204 h205 h206 h207 ⊢) <;> (try simp only [zz, Int32.reduceToInt, ne_eq] at h204 h205 h206 h207 ⊢) <;> (try simp (disch := omega) only [zb] at h204 h205 h206 h207 ⊢) <;> first | omega | ((try simp (disch := omega) only [zb] at h204 h205 h206 h207 ⊢) <;> omega))
          refine sw_onS eq11 ?_
          refine sw_sh (ci_sh c0 tq11 rfl) ?_
          have r208 := ci_rg c0 tq11 3 (lo := 1) (hi := 15) rfl
          exact sw_some ⟨c0, f0, trivial⟩
        · refine sw_ite (fun h209 => ?_) (fun h209 => ?_)
          · obtain ⟨q14, eq14, tq14⟩ := ci_chan c0 tq4 (k := p1.toNatClampNeg) (by (try simp only [zp] at h204 h205 h206 h207 h209 ⊢) <;> (try simp only [zz, Int32.reduceToInt, ne_eq] at h204 h205 h206 h207 h209 ⊢) <;> (try simp (disch := omega) only [zb] at h204 h205 h206 h207 h209 ⊢) <;> first | omega | ((try simp (disch := omega) only [zb] at h204 h205 h206 h207 h209 ⊢) <;> omega))
            refine sw_onS eq14 ?_
            refine sw_sh (ci_sh c0 tq14 rfl) ?_
            exact sw_some ⟨c0, f0, trivial⟩
          · refine sw_ite (fun h210 => ?_) (fun h210 => ?_)
            · obtain ⟨q17, eq17, tq17⟩ := ci_chan c0 tq4 (k := p1.toNatClampNeg) (by (try simp only [zp] at h204 h205 h206 h207 h209 h210 ⊢) <;> (try simp only [zz, Int32.reduceToInt, ne_eq] at h204 h205 h206 h207 h209 h210 ⊢) <;> (try simp (disch := omega) only [zb] at h204 h205 h206 h207 h209 h210 ⊢) <;> first | omega | ((try simp (disch := omega) only [zb] at h204 h205 h206 h207 h209 h210 ⊢) <;> omega))
              refine sw_onS eq17 ?_
              refine sw_sh (ci_sh c0 tq17 rfl) ?_
              exact sw_some ⟨c0, f0, trivial⟩
            · obtain ⟨q19, eq19, tq19⟩ := ci_chan c0 tq4 (k := p1.toNatClampNeg) (by (try simp only [zp] at h204 h205 h206 h207 h209 h210 ⊢) <;> (try simp only [zz, Int32.reduceToInt, ne_eq] at h204 h205 h206 h207 h209 h210 ⊢) <;> (try simp (disch := omega) only [zb] at h204 h205 h206 h207 h209 h210 ⊢) <;> first | omega | ((try simp (disch := omega) only [zb] at h204 h205 h206 h207 h209 h210 ⊢) <;> omega))
              refine sw_onS eq19 ?_
              refine sw_sh (ci_sh c0 tq19 rfl) ?_
              have r211 := ci_rg c0 tq19 6 (lo := 2) (hi := 4) rfl
              exact sw_some ⟨c0, f0, trivial⟩
    · exact sw_some ⟨c0, f0, trivial⟩
  · exact sw_some ⟨c0, f0, trivial⟩
abbrev KX8_channel : List Nat := []
set_option maxHeartbeats 4000000 in
set_option maxRecDepth 10000 in
theorem sX8_channel {T : Nat → Option Nat} {σ0 : mm_M} {p0 : Nat} {p1 : Int32} (c0 : sCI T σ0) (t_p0 : T p0 = some 8) : sw (fX8_channel p0 p1 σ0) (fun R => sCI T R.2 ∧ sFR T KX8_channel σ0 R.2 ∧ (True)) := by
  have f0 : sFR T KX8_channel σ0 σ0 := fr_refl
  unfold fX8_channel
  refine sw_ite (fun h212 => ?_) (fun h212 => ?_)
  · refine sw_sh (ci_sh c0 t_p0 rfl) ?_
    obtain ⟨q3, eq3, tq3⟩ := ci_ref c0 t_p0 1 (κ' := 11) rfl
    refine sw_onS eq3 ?_
    refine sw_ar (ci_sh c0 tq3 rfl) ?_
    refine sw_ib (by (try simp only [zp] at h212 ⊢) <;> (try simp only [zz, Int32.reduceToInt, ne_eq] at h212 ⊢) <;> (try simp (disch := omega) only [zb] at h212 ⊢) <;> first | omega | ((try simp (disch := omega) only [zb] at h212 ⊢) <;> omega)) ?_
    exact sw_some ⟨c0, f0, trivial⟩
  · exact sw_some ⟨c0, f0, trivial⟩
abbrev KX8_feed : List Nat := [13, 804]
set_option maxHeartbeats 4000000 in
set_option maxRecDepth 10000 in
theorem sX8_feed {T : Nat → Option Nat} {σ0 : mm_M} {p0 : Nat} {p1 : Int32} {p2 : Int32} {p3 : Int32} {p4 : Int32} {p5 : Int32} (c0 : sCI T σ0) (t_p0 : T p0 = some 8) : sw (fX8_feed p0 p1 p2 p3 p4 p5 σ0) (fun R => sCI T R.2 ∧ sFR T KX8_feed σ0 R.2 ∧ (True)) := by
  have f0 : sFR T KX8_feed σ0 σ0 := fr_refl
  unfold fX8_feed
  refine sw_sh (ci_sh c0 t_p0 rfl) ?_
  have r213 := ci_rg c0 t_p0 4 (lo := 0) (hi := 60) rfl
  refine sw_ite (fun h214 => ?_) (fun h214 => ?_)
  · refine sw_on (sX8_addToTape c0 t_p0  ) ?_
    intro q3 hqq3
    obtain ⟨cq3, gq3, xq3⟩ := hqq3
    have fq3 := fr_trans f0 gq3 rfl
    refine sw_sh (ci_sh cq3 t_p0 rfl) ?_
    refine sw_on (sX8_addToTape cq3 t_p0  ) ?_
    intro q5 hqq5
    obtain ⟨cq5, gq5, xq5⟩ := hqq5
    have fq5 := fr_trans fq3 gq5 rfl
    refine sw_sh (ci_sh cq5 t_p0 rfl) ?_
    refine sw_on (sX8_addToTape cq5 t_p0  ) ?_
    intro q7 hqq7
    obtain ⟨cq7, gq7, xq7⟩ := hqq7
    have fq7 := fr_trans fq5 gq7 rfl
    refine sw_sh (ci_sh cq7 t_p0 rfl) ?_
    refine sw_on (sX8_addToTape cq7 t_p0  ) ?_
    intro q9 hqq9
    obtain ⟨cq9, gq9, xq9⟩ := hqq9
    have fq9 := fr_trans fq7 gq9 rfl
    refine sw_sh (ci_sh cq9 t_p0 rfl) ?_
    refine sw_on (sX8_addToTape cq9 t_p0  ) ?_
    intro q11 hqq11
    obtain ⟨cq11, gq11, xq11⟩ := hqq11
    have fq11 := fr_trans fq9 gq11 rfl
    refine sw_sh (ci_sh cq11 t_p0 rfl) ?_
    have r216 := ci_rg cq11 t_p0 4 (lo := 0) (hi := 60) rfl
    exact sw_some ⟨cq11, fq11, trivial⟩
  · exact sw_some ⟨c0, f0, trivial⟩
abbrev KX8_find : List Nat := []
set_option maxHeartbeats 4000000 in
set_option maxRecDepth 10000 in
theorem sX8_find {T : Nat → Option Nat} {σ0 : mm_M} {p0 : Nat} {p1 : Int32} {p2 : Int32} {p3 : Int32} (c0 : sCI T σ0) (t_p0 : T p0 = some 8) : sw (fX8_find p0 p1 p2 p3 σ0) (fun R => sCI T R.2 ∧ sFR T KX8_find σ0 R.2 ∧ (True)) := by
  have f0 : sFR T KX8_find σ0 σ0 := fr_refl
  unfold fX8_find
  refine sw_sh (ci_sh c0 t_p0 rfl) ?_
  obtain ⟨q2, eq2, tq2⟩ := ci_ref c0 t_p0 7 (κ' := 6) rfl
  refine sw_onS eq2 ?_
  refine sw_sh (ci_sh c0 tq2 rfl) ?_
  refine sw_on (sX6_placeOf c0 tq2  ) ?_
  intro q4 hqq4
  obtain ⟨eq4, xq4⟩ := hqq4
  (try rw [eq4])
  exact sw_some ⟨c0, f0, trivial⟩
abbrev KX8_page : List Nat := []
set_option maxHeartbeats 4000000 in
set_option maxRecDepth 10000 in
theorem sX8_page {T : Nat → Option Nat} {σ0 : mm_M} {p0 : Nat} {p1 : Int32} {p2 : Int32} (c0 : sCI T σ0) (t_p0 : T p0 = some 8) : sw (fX8_page p0 p1 p2 σ0) (fun R => sCI T R.2 ∧ sFR T KX8_page σ0 R.2 ∧ (True)) := by
  have f0 : sFR T KX8_page σ0 σ0 := fr_refl
  unfold fX8_page
  refine sw_sh (ci_sh c0 t_p0 rfl) ?_
  obtain ⟨q2, eq2, tq2⟩ := ci_ref c0 t_p0 7 (κ' := 6) rfl
  refine sw_onS eq2 ?_
  refine sw_sh (ci_sh c0 tq2 rfl) ?_
  refine sw_on (sX6_pageAt c0 tq2  ) ?_
  intro q4 hqq4
  obtain ⟨eq4, xq4⟩ := hqq4
  (try rw [eq4])
  refine sw_nu (fun eq5 => ?_) (fun q5 eq5 => ?_)
  · exact sw_some ⟨c0, f0, trivial⟩
  · have tq5 := xq4 q5 eq5
    refine sw_ite (fun h217 => ?_) (fun h217 => ?_)
    · refine sw_ite (fun h218 => ?_) (fun h218 => ?_)
      · refine sw_sh (ci_sh c0 tq5 rfl) ?_
        exact sw_some ⟨c0, f0, trivial⟩
      · refine sw_ite (fun h219 => ?_) (fun h219 => ?_)
        · refine sw_sh (ci_sh c0 tq5 rfl) ?_
          exact sw_some ⟨c0, f0, trivial⟩
        · refine sw_ite (fun h220 => ?_) (fun h220 => ?_)
          · refine sw_sh (ci_sh c0 tq5 rfl) ?_
            exact sw_some ⟨c0, f0, trivial⟩
          · refine sw_ite (fun h221 => ?_) (fun h221 => ?_)
            · refine sw_sh (ci_sh c0 tq5 rfl) ?_
              exact sw_some ⟨c0, f0, trivial⟩
            · refine sw_ite (fun h222 => ?_) (fun h222 => ?_)
              · refine sw_sh (ci_sh c0 tq5 rfl) ?_
                refine sw_ite (fun h223 => ?_) (fun h223 => ?_)
                · exact sw_some ⟨c0, f0, trivial⟩
                · exact sw_some ⟨c0, f0, trivial⟩
              · refine sw_ite (fun h224 => ?_) (fun h224 => ?_)
                · refine sw_sh (ci_sh c0 tq5 rfl) ?_
                  exact sw_some ⟨c0, f0, trivial⟩
                · refine sw_sh (ci_sh c0 tq5 rfl) ?_
                  exact sw_some ⟨c0, f0, trivial⟩
    · exact sw_some ⟨c0, f0, trivial⟩
abbrev KX8_sign : List Nat := []
set_option maxHeartbeats 4000000 in
set_option maxRecDepth 10000 in
theorem sX8_sign {T : Nat → Option Nat} {σ0 : mm_M} {p0 : Nat} {p1 : Int32} {p2 : Int32} {p3 : Int32} (c0 : sCI T σ0) (t_p0 : T p0 = some 8) : sw (fX8_sign p0 p1 p2 p3 σ0) (fun R => sCI T R.2 ∧ sFR T KX8_sign σ0 R.2 ∧ (True)) := by
  have f0 : sFR T KX8_sign σ0 σ0 := fr_refl
  unfold fX8_sign
  refine sw_sh (ci_sh c0 t_p0 rfl) ?_
  obtain ⟨q2, eq2, tq2⟩ := ci_ref c0 t_p0 7 (κ' := 6) rfl
  refine sw_onS eq2 ?_
  refine sw_sh (ci_sh c0 tq2 rfl) ?_
  refine sw_on (sX6_pageAt c0 tq2  ) ?_
  intro q4 hqq4
  obtain ⟨eq4, xq4⟩ := hqq4
  (try rw [eq4])
  refine sw_nu (fun eq5 => ?_) (fun q5 eq5 => ?_)
  · exact sw_some ⟨c0, f0, trivial⟩
  · have tq5 := xq4 q5 eq5
    refine sw_ite (fun h225 => ?_) (fun h225 => ?_)
    · refine sw_ite (fun h226 => ?_) (fun h226 => ?_)
      · refine sw_sh (ci_sh c0 tq5 rfl) ?_
        obtain ⟨q9, eq9, tq9⟩ := ci_ref c0 tq5 0 (κ' := 4) rfl
        refine sw_onS eq9 ?_
        refine sw_sh (ci_sh c0 tq9 rfl) ?_
        refine sw_on (sX4_signAt c0 tq9  ) ?_
        intro q11 hqq11
        obtain ⟨cq11, gq11, xq11⟩ := hqq11
        have fq11 := fr_trans f0 gq11 rfl
        exact sw_some ⟨cq11, fq11, trivial⟩
      · exact sw_some ⟨c0, f0, trivial⟩
    · exact sw_some ⟨c0, f0, trivial⟩
abbrev KX8_link : List Nat := []
set_option maxHeartbeats 4000000 in
set_option maxRecDepth 10000 in
theorem sX8_link {T : Nat → Option Nat} {σ0 : mm_M} {p0 : Nat} {p1 : Int32} {p2 : Int32} {p3 : Int32} (c0 : sCI T σ0) (t_p0 : T p0 = some 8) : sw (fX8_link p0 p1 p2 p3 σ0) (fun R => sCI T R.2 ∧ sFR T KX8_link σ0 R.2 ∧ (True)) := by
  have f0 : sFR T KX8_link σ0 σ0 := fr_refl
  unfold fX8_link
  refine sw_sh (ci_sh c0 t_p0 rfl) ?_
  obtain ⟨q2, eq2, tq2⟩ := ci_ref c0 t_p0 7 (κ' := 6) rfl
  refine sw_onS eq2 ?_
  refine sw_sh (ci_sh c0 tq2 rfl) ?_
  refine sw_on (sX6_pageAt c0 tq2  ) ?_
  intro q4 hqq4
  obtain ⟨eq4, xq4⟩ := hqq4
  (try rw [eq4])
  refine sw_nu (fun eq5 => ?_) (fun q5 eq5 => ?_)
  · exact sw_some ⟨c0, f0, trivial⟩
  · have tq5 := xq4 q5 eq5
    refine sw_ite (fun h227 => ?_) (fun h227 => ?_)
    · refine sw_ite (fun h228 => ?_) (fun h228 => ?_)
      · refine sw_sh (ci_sh c0 tq5 rfl) ?_
        obtain ⟨q9, eq9, tq9⟩ := ci_ref c0 tq5 1 (κ' := 24) rfl
        refine sw_onS eq9 ?_
        refine sw_ar (ci_sh c0 tq9 rfl) ?_
        refine sw_ib (by (try simp only [zp] at h227 h228 ⊢) <;> (try simp only [zz, Int32.reduceToInt, ne_eq] at h227 h228 ⊢) <;> (try simp (disch := omega) only [zb] at h227 h228 ⊢) <;> first | omega | ((try simp (disch := omega) only [zb] at h227 h228 ⊢) <;> omega)) ?_
        exact sw_some ⟨c0, f0, trivial⟩
      · exact sw_some ⟨c0, f0, trivial⟩
    · exact sw_some ⟨c0, f0, trivial⟩
abbrev KX8_open : List Nat := []
set_option maxHeartbeats 4000000 in
set_option maxRecDepth 10000 in
theorem sX8_open {T : Nat → Option Nat} {σ0 : mm_M} {p0 : Nat} {p1 : Int32} (c0 : sCI T σ0) (t_p0 : T p0 = some 8) : sw (fX8_open p0 p1 σ0) (fun R => sCI T R.2 ∧ sFR T KX8_open σ0 R.2 ∧ (True)) := by
  have f0 : sFR T KX8_open σ0 σ0 := fr_refl
  unfold fX8_open
  refine sw_ite (fun h229 => ?_) (fun h229 => ?_)
  · refine sw_sh (ci_sh c0 t_p0 rfl) ?_
    obtain ⟨q3, eq3, tq3⟩ := ci_ref c0 t_p0 7 (κ' := 6) rfl
    refine sw_onS eq3 ?_
    refine sw_sh (ci_sh c0 tq3 rfl) ?_
    refine sw_on (sX6_placeOfOpen c0 tq3  ) ?_
    intro q5 hqq5
    obtain ⟨eq5, xq5⟩ := hqq5
    (try rw [eq5])
    exact sw_some ⟨c0, f0, trivial⟩
  · exact sw_some ⟨c0, f0, trivial⟩
set_option maxHeartbeats 4000000 in
set_option maxRecDepth 10000 in
theorem sX8_mend {T : Nat → Option Nat} {σ0 : mm_M} {p0 : Int32} (c0 : sCI T σ0)  : sw (fX8_mend p0 σ0) (fun R => R.2 = σ0 ∧ (-1 ≤ R.1.toInt ∧ R.1.toInt ≤ 31)) := by
  unfold fX8_mend
  refine sw_ite (fun h230 => ?_) (fun h230 => ?_)
  · unfold fX8_mend_15
    refine sw_ite (fun h231 => ?_) (fun h231 => ?_)
    · unfold fX8_mend_30
      refine sw_ite (fun h232 => ?_) (fun h232 => ?_)
      · unfold fX8_mend_45
        refine sw_ite (fun h233 => ?_) (fun h233 => ?_)
        · refine sw_ib (by (try simp only [zp] at ⊢) <;> (try simp only [zz, Int32.reduceToInt, ne_eq] at ⊢) <;> (try simp (disch := omega) only [zb] at ⊢) <;> first | omega | ((try simp (disch := omega) only [zb] at ⊢) <;> omega)) ?_
          have u234 := su_gv (p0 ^^^ (([64, 1, 4, 128, 16, 32, 8, 2] : List Int32).getD ((((1 : Int32)) + (2 : Int32)) + (4 : Int32)).toNatClampNeg 0))
          exact sw_some ⟨rfl, (by (try simp only [zp] at u234 ⊢) <;> (try simp only [zz, Int32.reduceToInt, ne_eq] at u234 ⊢) <;> (try simp (disch := omega) only [zb] at u234 ⊢) <;> first | omega | ((try simp (disch := omega) only [zb] at u234 ⊢) <;> omega))⟩
        · refine sw_ite (fun h235 => ?_) (fun h235 => ?_)
          · have u236 := su_gv p0
            exact sw_some ⟨rfl, (by (try simp only [zp] at u236 ⊢) <;> (try simp only [zz, Int32.reduceToInt, ne_eq] at u236 ⊢) <;> (try simp (disch := omega) only [zb] at u236 ⊢) <;> first | omega | ((try simp (disch := omega) only [zb] at u236 ⊢) <;> omega))⟩
          · exact sw_some ⟨rfl, (by (try simp only [zp] at ⊢) <;> (try simp only [zz, Int32.reduceToInt, ne_eq] at ⊢) <;> (try simp (disch := omega) only [zb] at ⊢) <;> first | omega | ((try simp (disch := omega) only [zb] at ⊢) <;> omega))⟩
      · unfold fX8_mend_45
        refine sw_ite (fun h237 => ?_) (fun h237 => ?_)
        · refine sw_ib (by (try simp only [zp] at ⊢) <;> (try simp only [zz, Int32.reduceToInt, ne_eq] at ⊢) <;> (try simp (disch := omega) only [zb] at ⊢) <;> first | omega | ((try simp (disch := omega) only [zb] at ⊢) <;> omega)) ?_
          have u238 := su_gv (p0 ^^^ (([64, 1, 4, 128, 16, 32, 8, 2] : List Int32).getD ((((1 : Int32)) + (2 : Int32)) + (0 : Int32)).toNatClampNeg 0))
          exact sw_some ⟨rfl, (by (try simp only [zp] at u238 ⊢) <;> (try simp only [zz, Int32.reduceToInt, ne_eq] at u238 ⊢) <;> (try simp (disch := omega) only [zb] at u238 ⊢) <;> first | omega | ((try simp (disch := omega) only [zb] at u238 ⊢) <;> omega))⟩
        · refine sw_ite (fun h239 => ?_) (fun h239 => ?_)
          · have u240 := su_gv p0
            exact sw_some ⟨rfl, (by (try simp only [zp] at u240 ⊢) <;> (try simp only [zz, Int32.reduceToInt, ne_eq] at u240 ⊢) <;> (try simp (disch := omega) only [zb] at u240 ⊢) <;> first | omega | ((try simp (disch := omega) only [zb] at u240 ⊢) <;> omega))⟩
          · exact sw_some ⟨rfl, (by (try simp only [zp] at ⊢) <;> (try simp only [zz, Int32.reduceToInt, ne_eq] at ⊢) <;> (try simp (disch := omega) only [zb] at ⊢) <;> first | omega | ((try simp (disch := omega) only [zb] at ⊢) <;> omega))⟩
    · unfold fX8_mend_30
      refine sw_ite (fun h241 => ?_) (fun h241 => ?_)
      · unfold fX8_mend_45
        refine sw_ite (fun h242 => ?_) (fun h242 => ?_)
        · refine sw_ib (by (try simp only [zp] at ⊢) <;> (try simp only [zz, Int32.reduceToInt, ne_eq] at ⊢) <;> (try simp (disch := omega) only [zb] at ⊢) <;> first | omega | ((try simp (disch := omega) only [zb] at ⊢) <;> omega)) ?_
          have u243 := su_gv (p0 ^^^ (([64, 1, 4, 128, 16, 32, 8, 2] : List Int32).getD ((((1 : Int32)) + (0 : Int32)) + (4 : Int32)).toNatClampNeg 0))
          exact sw_some ⟨rfl, (by (try simp only [zp] at u243 ⊢) <;> (try simp only [zz, Int32.reduceToInt, ne_eq] at u243 ⊢) <;> (try simp (disch := omega) only [zb] at u243 ⊢) <;> first | omega | ((try simp (disch := omega) only [zb] at u243 ⊢) <;> omega))⟩
        · refine sw_ite (fun h244 => ?_) (fun h244 => ?_)
          · have u245 := su_gv p0
            exact sw_some ⟨rfl, (by (try simp only [zp] at u245 ⊢) <;> (try simp only [zz, Int32.reduceToInt, ne_eq] at u245 ⊢) <;> (try simp (disch := omega) only [zb] at u245 ⊢) <;> first | omega | ((try simp (disch := omega) only [zb] at u245 ⊢) <;> omega))⟩
          · exact sw_some ⟨rfl, (by (try simp only [zp] at ⊢) <;> (try simp only [zz, Int32.reduceToInt, ne_eq] at ⊢) <;> (try simp (disch := omega) only [zb] at ⊢) <;> first | omega | ((try simp (disch := omega) only [zb] at ⊢) <;> omega))⟩
      · unfold fX8_mend_45
        refine sw_ite (fun h246 => ?_) (fun h246 => ?_)
        · refine sw_ib (by (try simp only [zp] at ⊢) <;> (try simp only [zz, Int32.reduceToInt, ne_eq] at ⊢) <;> (try simp (disch := omega) only [zb] at ⊢) <;> first | omega | ((try simp (disch := omega) only [zb] at ⊢) <;> omega)) ?_
          have u247 := su_gv (p0 ^^^ (([64, 1, 4, 128, 16, 32, 8, 2] : List Int32).getD ((((1 : Int32)) + (0 : Int32)) + (0 : Int32)).toNatClampNeg 0))
          exact sw_some ⟨rfl, (by (try simp only [zp] at u247 ⊢) <;> (try simp only [zz, Int32.reduceToInt, ne_eq] at u247 ⊢) <;> (try simp (disch := omega) only [zb] at u247 ⊢) <;> first | omega | ((try simp (disch := omega) only [zb] at u247 ⊢) <;> omega))⟩
        · refine sw_ite (fun h248 => ?_) (fun h248 => ?_)
          · have u249 := su_gv p0
            exact sw_some ⟨rfl, (by (try simp only [zp] at u249 ⊢) <;> (try simp only [zz, Int32.reduceToInt, ne_eq] at u249 ⊢) <;> (try simp (disch := omega) only [zb] at u249 ⊢) <;> first | omega | ((try simp (disch := omega) only [zb] at u249 ⊢) <;> omega))⟩
          · exact sw_some ⟨rfl, (by (try simp only [zp] at ⊢) <;> (try simp only [zz, Int32.reduceToInt, ne_eq] at ⊢) <;> (try simp (disch := omega) only [zb] at ⊢) <;> first | omega | ((try simp (disch := omega) only [zb] at ⊢) <;> omega))⟩
  · unfold fX8_mend_15
    refine sw_ite (fun h250 => ?_) (fun h250 => ?_)
    · unfold fX8_mend_30
      refine sw_ite (fun h251 => ?_) (fun h251 => ?_)
      · unfold fX8_mend_45
        refine sw_ite (fun h252 => ?_) (fun h252 => ?_)
        · refine sw_ib (by (try simp only [zp] at ⊢) <;> (try simp only [zz, Int32.reduceToInt, ne_eq] at ⊢) <;> (try simp (disch := omega) only [zb] at ⊢) <;> first | omega | ((try simp (disch := omega) only [zb] at ⊢) <;> omega)) ?_
          have u253 := su_gv (p0 ^^^ (([64, 1, 4, 128, 16, 32, 8, 2] : List Int32).getD ((((0 : Int32)) + (2 : Int32)) + (4 : Int32)).toNatClampNeg 0))
          exact sw_some ⟨rfl, (by (try simp only [zp] at u253 ⊢) <;> (try simp only [zz, Int32.reduceToInt, ne_eq] at u253 ⊢) <;> (try simp (disch := omega) only [zb] at u253 ⊢) <;> first | omega | ((try simp (disch := omega) only [zb] at u253 ⊢) <;> omega))⟩
        · refine sw_ite (fun h254 => ?_) (fun h254 => ?_)
          · have u255 := su_gv p0
            exact sw_some ⟨rfl, (by (try simp only [zp] at u255 ⊢) <;> (try simp only [zz, Int32.reduceToInt, ne_eq] at u255 ⊢) <;> (try simp (disch := omega) only [zb] at u255 ⊢) <;> first | omega | ((try simp (disch := omega) only [zb] at u255 ⊢) <;> omega))⟩
          · exact sw_some ⟨rfl, (by (try simp only [zp] at ⊢) <;> (try simp only [zz, Int32.reduceToInt, ne_eq] at ⊢) <;> (try simp (disch := omega) only [zb] at ⊢) <;> first | omega | ((try simp (disch := omega) only [zb] at ⊢) <;> omega))⟩
      · unfold fX8_mend_45
        refine sw_ite (fun h256 => ?_) (fun h256 => ?_)
        · refine sw_ib (by (try simp only [zp] at ⊢) <;> (try simp only [zz, Int32.reduceToInt, ne_eq] at ⊢) <;> (try simp (disch := omega) only [zb] at ⊢) <;> first | omega | ((try simp (disch := omega) only [zb] at ⊢) <;> omega)) ?_
          have u257 := su_gv (p0 ^^^ (([64, 1, 4, 128, 16, 32, 8, 2] : List Int32).getD ((((0 : Int32)) + (2 : Int32)) + (0 : Int32)).toNatClampNeg 0))
          exact sw_some ⟨rfl, (by (try simp only [zp] at u257 ⊢) <;> (try simp only [zz, Int32.reduceToInt, ne_eq] at u257 ⊢) <;> (try simp (disch := omega) only [zb] at u257 ⊢) <;> first | omega | ((try simp (disch := omega) only [zb] at u257 ⊢) <;> omega))⟩
        · refine sw_ite (fun h258 => ?_) (fun h258 => ?_)
          · have u259 := su_gv p0
            exact sw_some ⟨rfl, (by (try simp only [zp] at u259 ⊢) <;> (try simp only [zz, Int32.reduceToInt, ne_eq] at u259 ⊢) <;> (try simp (disch := omega) only [zb] at u259 ⊢) <;> first | omega | ((try simp (disch := omega) only [zb] at u259 ⊢) <;> omega))⟩
          · exact sw_some ⟨rfl, (by (try simp only [zp] at ⊢) <;> (try simp only [zz, Int32.reduceToInt, ne_eq] at ⊢) <;> (try simp (disch := omega) only [zb] at ⊢) <;> first | omega | ((try simp (disch := omega) only [zb] at ⊢) <;> omega))⟩
    · unfold fX8_mend_30
      refine sw_ite (fun h260 => ?_) (fun h260 => ?_)
      · unfold fX8_mend_45
        refine sw_ite (fun h261 => ?_) (fun h261 => ?_)
        · refine sw_ib (by (try simp only [zp] at ⊢) <;> (try simp only [zz, Int32.reduceToInt, ne_eq] at ⊢) <;> (try simp (disch := omega) only [zb] at ⊢) <;> first | omega | ((try simp (disch := omega) only [zb] at ⊢) <;> omega)) ?_
          have u262 := su_gv (p0 ^^^ (([64, 1, 4, 128, 16, 32, 8, 2] : List Int32).getD ((((0 : Int32)) + (0 : Int32)) + (4 : Int32)).toNatClampNeg 0))
          exact sw_some ⟨rfl, (by (try simp only [zp] at u262 ⊢) <;> (try simp only [zz, Int32.reduceToInt, ne_eq] at u262 ⊢) <;> (try simp (disch := omega) only [zb] at u262 ⊢) <;> first | omega | ((try simp (disch := omega) only [zb] at u262 ⊢) <;> omega))⟩
        · refine sw_ite (fun h263 => ?_) (fun h263 => ?_)
          · have u264 := su_gv p0
            exact sw_some ⟨rfl, (by (try simp only [zp] at u264 ⊢) <;> (try simp only [zz, Int32.reduceToInt, ne_eq] at u264 ⊢) <;> (try simp (disch := omega) only [zb] at u264 ⊢) <;> first | omega | ((try simp (disch := omega) only [zb] at u264 ⊢) <;> omega))⟩
          · exact sw_some ⟨rfl, (by (try simp only [zp] at ⊢) <;> (try simp only [zz, Int32.reduceToInt, ne_eq] at ⊢) <;> (try simp (disch := omega) only [zb] at ⊢) <;> first | omega | ((try simp (disch := omega) only [zb] at ⊢) <;> omega))⟩
      · unfold fX8_mend_45
        refine sw_ite (fun h265 => ?_) (fun h265 => ?_)
        · refine sw_ib (by (try simp only [zp] at ⊢) <;> (try simp only [zz, Int32.reduceToInt, ne_eq] at ⊢) <;> (try simp (disch := omega) only [zb] at ⊢) <;> first | omega | ((try simp (disch := omega) only [zb] at ⊢) <;> omega)) ?_
          have u266 := su_gv (p0 ^^^ (([64, 1, 4, 128, 16, 32, 8, 2] : List Int32).getD ((((0 : Int32)) + (0 : Int32)) + (0 : Int32)).toNatClampNeg 0))
          exact sw_some ⟨rfl, (by (try simp only [zp] at u266 ⊢) <;> (try simp only [zz, Int32.reduceToInt, ne_eq] at u266 ⊢) <;> (try simp (disch := omega) only [zb] at u266 ⊢) <;> first | omega | ((try simp (disch := omega) only [zb] at u266 ⊢) <;> omega))⟩
        · refine sw_ite (fun h267 => ?_) (fun h267 => ?_)
          · have u268 := su_gv p0
            exact sw_some ⟨rfl, (by (try simp only [zp] at u268 ⊢) <;> (try simp only [zz, Int32.reduceToInt, ne_eq] at u268 ⊢) <;> (try simp (disch := omega) only [zb] at u268 ⊢) <;> first | omega | ((try simp (disch := omega) only [zb] at u268 ⊢) <;> omega))⟩
          · exact sw_some ⟨rfl, (by (try simp only [zp] at ⊢) <;> (try simp only [zz, Int32.reduceToInt, ne_eq] at ⊢) <;> (try simp (disch := omega) only [zb] at ⊢) <;> first | omega | ((try simp (disch := omega) only [zb] at ⊢) <;> omega))⟩
set_option maxHeartbeats 4000000 in
set_option maxRecDepth 10000 in
theorem sX8_valueAt {T : Nat → Option Nat} {σ0 : mm_M} {p0 : Nat} {p1 : Int32} (c0 : sCI T σ0) (t_p0 : T p0 = some 8) : sw (fX8_valueAt p0 p1 σ0) (fun R => R.2 = σ0 ∧ (-1 ≤ R.1.toInt ∧ R.1.toInt ≤ 15)) := by
  unfold fX8_valueAt
  refine sw_ite (fun h269 => ?_) (fun h269 => ?_)
  · refine sw_sh (ci_sh c0 t_p0 rfl) ?_
    obtain ⟨q3, eq3, tq3⟩ := ci_ref c0 t_p0 3 (κ' := 13) rfl
    refine sw_onS eq3 ?_
    refine sw_ar (ci_sh c0 tq3 rfl) ?_
    refine sw_ib (by (try simp only [zp] at h269 ⊢) <;> (try simp only [zz, Int32.reduceToInt, ne_eq] at h269 ⊢) <;> (try simp (disch := omega) only [zb] at h269 ⊢) <;> first | omega | ((try simp (disch := omega) only [zb] at h269 ⊢) <;> omega)) ?_
    refine sw_on (sX8_mend c0   ) ?_
    intro q6 hqq6
    obtain ⟨eq6, xq6⟩ := hqq6
    (try rw [eq6])
    refine sw_ite (fun h270 => ?_) (fun h270 => ?_)
    · exact sw_some ⟨rfl, (by (try simp only [zp] at h269 xq6 h270 ⊢) <;> (try simp only [zz, Int32.reduceToInt, ne_eq] at h269 xq6 h270 ⊢) <;> (try simp (disch := omega) only [zb] at h269 xq6 h270 ⊢) <;> first | omega | ((try simp (disch := omega) only [zb] at h269 xq6 h270 ⊢) <;> omega))⟩
    · have a271 := zi_and q6.1 15 (by decide)
      exact sw_some ⟨rfl, (by (try simp only [zp] at h269 xq6 h270 a271 ⊢) <;> (try simp only [zz, Int32.reduceToInt, ne_eq] at h269 xq6 h270 a271 ⊢) <;> (try simp (disch := omega) only [zb] at h269 xq6 h270 a271 ⊢) <;> first | omega | ((try simp (disch := omega) only [zb] at h269 xq6 h270 a271 ⊢) <;> omega))⟩
  · exact sw_some ⟨rfl, (by (try simp only [zp] at h269 ⊢) <;> (try simp only [zz, Int32.reduceToInt, ne_eq] at h269 ⊢) <;> (try simp (disch := omega) only [zb] at h269 ⊢) <;> first | omega | ((try simp (disch := omega) only [zb] at h269 ⊢) <;> omega))⟩
set_option maxHeartbeats 4000000 in
set_option maxRecDepth 10000 in
theorem sX8_guarded {T : Nat → Option Nat} {σ0 : mm_M} {p0 : Nat} {p1 : Int32} (c0 : sCI T σ0) (t_p0 : T p0 = some 8) : sw (fX8_guarded p0 p1 σ0) (fun R => R.2 = σ0 ∧ (True)) := by
  unfold fX8_guarded
  have a272 := zi_and p1 255 (by decide)
  refine sw_on (sX8_mend c0   ) ?_
  intro q1 hqq1
  obtain ⟨eq1, xq1⟩ := hqq1
  (try rw [eq1])
  exact sw_some ⟨rfl, trivial⟩
abbrev KX8_closePage : List Nat := [3, 22, 23]
set_option maxHeartbeats 4000000 in
set_option maxRecDepth 10000 in
theorem sX8_closePage {T : Nat → Option Nat} {σ0 : mm_M} {p0 : Nat} {p1 : Int32} (c0 : sCI T σ0) (t_p0 : T p0 = some 8) : sw (fX8_closePage p0 p1 σ0) (fun R => sCI T R ∧ sFR T KX8_closePage σ0 R ∧ (True)) := by
  have f0 : sFR T KX8_closePage σ0 σ0 := fr_refl
  unfold fX8_closePage
  refine sw_sh (ci_sh c0 t_p0 rfl) ?_
  obtain ⟨q2, eq2, tq2⟩ := ci_ref c0 t_p0 7 (κ' := 6) rfl
  refine sw_onS eq2 ?_
  refine sw_sh (ci_sh c0 tq2 rfl) ?_
  refine sw_on (sX6_placeOfOpen c0 tq2  ) ?_
  intro q4 hqq4
  obtain ⟨eq4, xq4⟩ := hqq4
  (try rw [eq4])
  refine sw_sh (ci_sh c0 tq2 rfl) ?_
  refine sw_on (sX6_pageAt c0 tq2  ) ?_
  intro q6 hqq6
  obtain ⟨eq6, xq6⟩ := hqq6
  (try rw [eq6])
  refine sw_nu (fun eq7 => ?_) (fun q7 eq7 => ?_)
  · exact sw_some ⟨c0, f0, trivial⟩
  · have tq7 := xq6 q7 eq7
    refine sw_sh (ci_sh c0 tq7 rfl) ?_
    have cs9 := ci_wI c0 tq7 (j := 6) (v := 0) (kr_n rfl)
    have fs9 := fr_wI f0 tq7 (j := 6) (v := 0) rfl
    refine sw_let (fun s9 es9 => ?_)
    rw [es9] at cs9 fs9
    have cs10 := ci_wI cs9 tq7 (j := 7) (v := (mm_I s9 q7 7) + 1) (kr_n rfl)
    have fs10 := fr_wI fs9 tq7 (j := 7) (v := (mm_I s9 q7 7) + 1) rfl
    refine sw_let (fun s10 es10 => ?_)
    rw [es10] at cs10 fs10
    refine sw_sh (ci_sh cs10 t_p0 rfl) ?_
    obtain ⟨q12, eq12, tq12⟩ := ci_ref cs10 t_p0 8 (κ' := 7) rfl
    refine sw_onS eq12 ?_
    refine sw_sh (ci_sh cs10 tq12 rfl) ?_
    refine sw_on (sX7_see cs10 tq12 tq7  ) ?_
    intro q14 hqq14
    obtain ⟨cq14, gq14, xq14⟩ := hqq14
    have fq14 := fr_trans fs10 gq14 rfl
    exact sw_some ⟨cq14, fq14, trivial⟩
abbrev KX8_readValues : List Nat := [15]
set_option maxHeartbeats 4000000 in
set_option maxRecDepth 10000 in
theorem sX8_readValues_2 {T : Nat → Option Nat} {σ0 : mm_M} : ∀ (n : Nat) (a0 : Nat) (x1 : Int32) (x2 : Int32) (x3 : Int32) (σ : mm_M), sCI T σ → sFR T KX8_readValues σ0 σ → (T a0 = some 8) → (0 ≤ x3.toInt ∧ x3.toInt ≤ 8) → 8 - x3.toInt < (n : Int) → sw (fX8_readValues_2 n a0 x1 x2 x3 σ) (fun R => sCI T R.2 ∧ sFR T KX8_readValues σ0 R.2 ∧ (0 ≤ R.1.toInt ∧ R.1.toInt ≤ 1)) := by
  intro n
  induction n with
  | zero => intro a0 x1 x2 x3 σ c0 f0 t_a0 p_0 hn; exfalso; exact (by (try simp only [zp] at p_0 hn ⊢) <;> (try simp only [zz, Int32.reduceToInt, ne_eq] at p_0 hn ⊢) <;> (try simp (disch := omega) only [zb] at p_0 hn ⊢) <;> first | omega | ((try simp (disch := omega) only [zb] at p_0 hn ⊢) <;> omega))
  | succ n ih =>
    intro a0 x1 x2 x3 σ c0 f0 t_a0 p_0 hn
    unfold fX8_readValues_2
    refine sw_ite (fun h273 => ?_) (fun h273 => ?_)
    · exact sw_some ⟨c0, f0, (by (try simp only [zp] at p_0 hn h273 ⊢) <;> (try simp only [zz, Int32.reduceToInt, ne_eq] at p_0 hn h273 ⊢) <;> (try simp (disch := omega) only [zb] at p_0 hn h273 ⊢) <;> first | omega | ((try simp (disch := omega) only [zb] at p_0 hn h273 ⊢) <;> omega))⟩
    · refine sw_sh (ci_sh c0 t_a0 rfl) ?_
      obtain ⟨q3, eq3, tq3⟩ := ci_ref c0 t_a0 5 (κ' := 15) rfl
      refine sw_onS eq3 ?_
      refine sw_ar (ci_sh c0 tq3 rfl) ?_
      refine sw_ite (fun h274 => ?_) (fun h274 => ?_)
      · exact sw_some ⟨c0, f0, (by (try simp only [zp] at p_0 hn h273 h274 ⊢) <;> (try simp only [zz, Int32.reduceToInt, ne_eq] at p_0 hn h273 h274 ⊢) <;> (try simp (disch := omega) only [zb] at p_0 hn h273 h274 ⊢) <;> first | omega | ((try simp (disch := omega) only [zb] at p_0 hn h273 h274 ⊢) <;> omega))⟩
      · refine sw_on (sX8_valueAt c0 t_a0  ) ?_
        intro q6 hqq6
        obtain ⟨eq6, xq6⟩ := hqq6
        (try rw [eq6])
        refine sw_ite (fun h275 => ?_) (fun h275 => ?_)
        · exact sw_some ⟨c0, f0, (by (try simp only [zp] at p_0 hn h273 h274 xq6 h275 ⊢) <;> (try simp only [zz, Int32.reduceToInt, ne_eq] at p_0 hn h273 h274 xq6 h275 ⊢) <;> (try simp (disch := omega) only [zb] at p_0 hn h273 h274 xq6 h275 ⊢) <;> first | omega | ((try simp (disch := omega) only [zb] at p_0 hn h273 h274 xq6 h275 ⊢) <;> omega))⟩
        · refine sw_sh (ci_sh c0 t_a0 rfl) ?_
          refine sw_onS eq3 ?_
          refine sw_ar (ci_sh c0 tq3 rfl) ?_
          refine sw_ib (by (try simp only [zp] at p_0 hn h273 h274 xq6 h275 ⊢) <;> (try simp only [zz, Int32.reduceToInt, ne_eq] at p_0 hn h273 h274 xq6 h275 ⊢) <;> (try simp (disch := omega) only [zb] at p_0 hn h273 h274 xq6 h275 ⊢) <;> first | omega | ((try simp (disch := omega) only [zb] at p_0 hn h273 h274 xq6 h275 ⊢) <;> omega)) ?_
          have cs12 := ci_wI c0 tq3 (j := x3.toNatClampNeg) (v := q6.1) (kr_n rfl)
          have fs12 := fr_wI f0 tq3 (j := x3.toNatClampNeg) (v := q6.1) rfl
          refine sw_let (fun s12 es12 => ?_)
          rw [es12] at cs12 fs12
          exact ih a0 x1 x2 (x3 + 1) s12 cs12 fs12 t_a0 (by (try simp only [zp] at p_0 hn h273 h274 xq6 h275 ⊢) <;> (try simp only [zz, Int32.reduceToInt, ne_eq] at p_0 hn h273 h274 xq6 h275 ⊢) <;> (try simp (disch := omega) only [zb] at p_0 hn h273 h274 xq6 h275 ⊢) <;> first | omega | ((try simp (disch := omega) only [zb] at p_0 hn h273 h274 xq6 h275 ⊢) <;> omega)) (by (try simp only [zp] at p_0 hn h273 h274 xq6 h275 ⊢) <;> (try simp only [zz, Int32.reduceToInt, ne_eq] at p_0 hn h273 h274 xq6 h275 ⊢) <;> (try simp (disch := omega) only [zb] at p_0 hn h273 h274 xq6 h275 ⊢) <;> first | omega | ((try simp (disch := omega) only [zb] at p_0 hn h273 h274 xq6 h275 ⊢) <;> omega))
set_option maxHeartbeats 4000000 in
set_option maxRecDepth 10000 in
theorem sX8_readValues {T : Nat → Option Nat} {σ0 : mm_M} {p0 : Nat} {p1 : Int32} {p2 : Int32} (c0 : sCI T σ0) (t_p0 : T p0 = some 8) : sw (fX8_readValues p0 p1 p2 σ0) (fun R => sCI T R.2 ∧ sFR T KX8_readValues σ0 R.2 ∧ (0 ≤ R.1.toInt ∧ R.1.toInt ≤ 1)) := by
  have f0 : sFR T KX8_readValues σ0 σ0 := fr_refl
  unfold fX8_readValues
  exact sX8_readValues_2 mm_fuel p0 p1 p2 0 σ0 c0 f0 t_p0 (by (try simp only [zp] at ⊢) <;> (try simp only [zz, Int32.reduceToInt, ne_eq] at ⊢) <;> (try simp (disch := omega) only [zb] at ⊢) <;> first | omega | ((try simp (disch := omega) only [zb] at ⊢) <;> omega)) (by have hz : (mm_fuel : Int) = 2000 := rfl; rw [hz]; exact (by (try simp only [zp] at ⊢) <;> (try simp only [zz, Int32.reduceToInt, ne_eq] at ⊢) <;> (try simp (disch := omega) only [zb] at ⊢) <;> first | omega | ((try simp (disch := omega) only [zb] at ⊢) <;> omega)))
abbrev KX8_watch : List Nat := [7, 22, 23]
set_option maxHeartbeats 4000000 in
set_option maxRecDepth 10000 in
theorem sX8_watch {T : Nat → Option Nat} {σ0 : mm_M} {p0 : Nat} {p1 : Int32} {p2 : Int32} (c0 : sCI T σ0) (t_p0 : T p0 = some 8) : sw (fX8_watch p0 p1 p2 σ0) (fun R => sCI T R.2 ∧ sFR T KX8_watch σ0 R.2 ∧ (True)) := by
  have f0 : sFR T KX8_watch σ0 σ0 := fr_refl
  unfold fX8_watch
  refine sw_ite (fun h276 => ?_) (fun h276 => ?_)
  · refine sw_ite (fun h277 => ?_) (fun h277 => ?_)
    · refine sw_sh (ci_sh c0 t_p0 rfl) ?_
      obtain ⟨q4, eq4, tq4⟩ := ci_ref c0 t_p0 8 (κ' := 7) rfl
      refine sw_onS eq4 ?_
      refine sw_sh (ci_sh c0 tq4 rfl) ?_
      refine sw_on (sX7_begin c0 tq4  ) ?_
      intro q6 hqq6
      obtain ⟨cq6, gq6, xq6⟩ := hqq6
      have fq6 := fr_trans f0 gq6 rfl
      exact sw_some ⟨cq6, fq6, trivial⟩
    · exact sw_some ⟨c0, f0, trivial⟩
  · exact sw_some ⟨c0, f0, trivial⟩
abbrev KX8_cue : List Nat := []
set_option maxHeartbeats 4000000 in
set_option maxRecDepth 10000 in
theorem sX8_cue {T : Nat → Option Nat} {σ0 : mm_M} {p0 : Nat} {p1 : Int32} {p2 : Int32} (c0 : sCI T σ0) (t_p0 : T p0 = some 8) : sw (fX8_cue p0 p1 p2 σ0) (fun R => sCI T R.2 ∧ sFR T KX8_cue σ0 R.2 ∧ (True)) := by
  have f0 : sFR T KX8_cue σ0 σ0 := fr_refl
  unfold fX8_cue
  refine sw_sh (ci_sh c0 t_p0 rfl) ?_
  refine sw_on (sX8_cueAt c0 t_p0  ) ?_
  intro q2 hqq2
  obtain ⟨eq2, xq2⟩ := hqq2
  (try rw [eq2])
  refine sw_nu (fun eq3 => ?_) (fun q3 eq3 => ?_)
  · exact sw_some ⟨c0, f0, trivial⟩
  · have tq3 := xq2 q3 eq3
    refine sw_ite (fun h278 => ?_) (fun h278 => ?_)
    · refine sw_ite (fun h279 => ?_) (fun h279 => ?_)
      · refine sw_sh (ci_sh c0 tq3 rfl) ?_
        exact sw_some ⟨c0, f0, trivial⟩
      · refine sw_ite (fun h280 => ?_) (fun h280 => ?_)
        · refine sw_sh (ci_sh c0 tq3 rfl) ?_
          exact sw_some ⟨c0, f0, trivial⟩
        · refine sw_ite (fun h281 => ?_) (fun h281 => ?_)
          · refine sw_sh (ci_sh c0 tq3 rfl) ?_
            exact sw_some ⟨c0, f0, trivial⟩
          · refine sw_sh (ci_sh c0 tq3 rfl) ?_
            obtain ⟨q12, eq12, tq12⟩ := ci_ref c0 tq3 2 (κ' := 27) rfl
            refine sw_onS eq12 ?_
            obtain ⟨n13, hn282, ehn282⟩ := ci_sh27 c0 tq12
            refine sw_ar ehn282 ?_
            exact sw_some ⟨c0, f0, trivial⟩
    · exact sw_some ⟨c0, f0, trivial⟩
abbrev KX8_line : List Nat := []
set_option maxHeartbeats 4000000 in
set_option maxRecDepth 10000 in
theorem sX8_line {T : Nat → Option Nat} {σ0 : mm_M} {p0 : Nat} {p1 : Int32} {p2 : Int32} (c0 : sCI T σ0) (t_p0 : T p0 = some 8) : sw (fX8_line p0 p1 p2 σ0) (fun R => sCI T R.2 ∧ sFR T KX8_line σ0 R.2 ∧ (True)) := by
  have f0 : sFR T KX8_line σ0 σ0 := fr_refl
  unfold fX8_line
  refine sw_sh (ci_sh c0 t_p0 rfl) ?_
  refine sw_on (sX8_cueAt c0 t_p0  ) ?_
  intro q2 hqq2
  obtain ⟨eq2, xq2⟩ := hqq2
  (try rw [eq2])
  refine sw_nu (fun eq3 => ?_) (fun q3 eq3 => ?_)
  · exact sw_some ⟨c0, f0, trivial⟩
  · have tq3 := xq2 q3 eq3
    refine sw_sh (ci_sh c0 tq3 rfl) ?_
    obtain ⟨q5, eq5, tq5⟩ := ci_ref c0 tq3 2 (κ' := 27) rfl
    refine sw_onS eq5 ?_
    obtain ⟨n6, hn283, ehn283⟩ := ci_sh27 c0 tq5
    refine sw_ar ehn283 ?_
    refine sw_ite (fun h284 => ?_) (fun h284 => ?_)
    · refine sw_onS eq5 ?_
      refine sw_ar ehn283 ?_
      refine sw_ib (by (try simp only [zp] at hn283 h284 ⊢) <;> (try simp only [zz, Int32.reduceToInt, ne_eq] at hn283 h284 ⊢) <;> (try simp (disch := omega) only [zb] at hn283 h284 ⊢) <;> first | omega | ((try simp (disch := omega) only [zb] at hn283 h284 ⊢) <;> omega)) ?_
      exact sw_some ⟨c0, f0, trivial⟩
    · exact sw_some ⟨c0, f0, trivial⟩
abbrev KX8_readLines : List Nat := [2, 26]
set_option maxHeartbeats 4000000 in
set_option maxRecDepth 10000 in
theorem sX8_readLines {T : Nat → Option Nat} {σ0 : mm_M} {p0 : Nat} {p1 : Int32} (c0 : sCI T σ0) (t_p0 : T p0 = some 8) (p_0 : 0 ≤ p1.toInt ∧ p1.toInt ≤ 4) : sw (fX8_readLines p0 p1 σ0) (fun R => sCI T R ∧ sFR T KX8_readLines σ0 R ∧ (True)) := by
  have f0 : sFR T KX8_readLines σ0 σ0 := fr_refl
  unfold fX8_readLines
  refine sw_sh (ci_sh c0 t_p0 rfl) ?_
  obtain ⟨q2, eq2, tq2⟩ := ci_ref c0 t_p0 9 (κ' := 2) rfl
  refine sw_onS eq2 ?_
  refine sw_sh (ci_sh c0 tq2 rfl) ?_
  have cs4 := ci_wI c0 tq2 (j := 1) (v := 0) (kr_s (lo := 0) (hi := 400) rfl (by (try simp only [zp] at p_0 ⊢) <;> (try simp only [zz, Int32.reduceToInt, ne_eq] at p_0 ⊢) <;> (try simp (disch := omega) only [zb] at p_0 ⊢) <;> first | omega | ((try simp (disch := omega) only [zb] at p_0 ⊢) <;> omega)))
  have fs4 := fr_wI f0 tq2 (j := 1) (v := 0) rfl
  refine sw_let (fun s4 es4 => ?_)
  rw [es4] at cs4 fs4
  refine sw_ite (fun h285 => ?_) (fun h285 => ?_)
  · have v286 : mm_R s4 p0 9 = some q2 := (by rw [← es4]; exact eq2)
    refine sw_onS v286 ?_
    obtain ⟨q16, eq16, tq16⟩ := ci_ref cs4 t_p0 8 (κ' := 7) rfl
    refine sw_onS eq16 ?_
    refine sw_sh (ci_sh cs4 tq16 rfl) ?_
    refine sw_on (sX7_addTo cs4 tq16 tq2  ) ?_
    intro q18 hqq18
    obtain ⟨cq18, gq18, xq18⟩ := hqq18
    have fq18 := fr_trans fs4 gq18 rfl
    exact sw_some ⟨cq18, fq18, trivial⟩
  · obtain ⟨q6, eq6, tq6⟩ := ci_ref cs4 t_p0 0 (κ' := 10) rfl
    refine sw_onS eq6 ?_
    refine sw_ar (ci_sh cs4 tq6 rfl) ?_
    refine sw_ib (by (try simp only [zp] at p_0 h285 ⊢) <;> (try simp only [zz, Int32.reduceToInt, ne_eq] at p_0 h285 ⊢) <;> (try simp (disch := omega) only [zb] at p_0 h285 ⊢) <;> first | omega | ((try simp (disch := omega) only [zb] at p_0 h285 ⊢) <;> omega)) ?_
    obtain ⟨q9, eq9, tq9⟩ := ci_chan cs4 tq6 (k := p1.toNatClampNeg) (by (try simp only [zp] at p_0 h285 ⊢) <;> (try simp only [zz, Int32.reduceToInt, ne_eq] at p_0 h285 ⊢) <;> (try simp (disch := omega) only [zb] at p_0 h285 ⊢) <;> first | omega | ((try simp (disch := omega) only [zb] at p_0 h285 ⊢) <;> omega))
    refine sw_onS eq9 ?_
    refine sw_sh (ci_sh cs4 tq9 rfl) ?_
    have v287 : mm_R s4 p0 9 = some q2 := (by rw [← es4]; exact eq2)
    refine sw_onS v287 ?_
    obtain ⟨q12, eq12, tq12⟩ := ci_ref cs4 tq9 0 (κ' := 5) rfl
    refine sw_onS eq12 ?_
    refine sw_sh (ci_sh cs4 tq12 rfl) ?_
    refine sw_on (sX5_addTo cs4 tq12 tq2  ) ?_
    intro q14 hqq14
    obtain ⟨cq14, gq14, xq14⟩ := hqq14
    have fq14 := fr_trans fs4 gq14 rfl
    exact sw_some ⟨cq14, fq14, trivial⟩
abbrev KX8_takeSecondLetter : List Nat := [0, 20, 21]
set_option maxHeartbeats 4000000 in
set_option maxRecDepth 10000 in
theorem sX8_takeSecondLetter {T : Nat → Option Nat} {σ0 : mm_M} {p0 : Nat} {p1 : Int32} (c0 : sCI T σ0) (t_p0 : T p0 = some 0) : sw (fX8_takeSecondLetter p0 p1 σ0) (fun R => sCI T R ∧ sFR T KX8_takeSecondLetter σ0 R ∧ (True)) := by
  have f0 : sFR T KX8_takeSecondLetter σ0 σ0 := fr_refl
  unfold fX8_takeSecondLetter
  refine sw_ite (fun h288 => ?_) (fun h288 => ?_)
  · refine sw_sh (ci_sh c0 t_p0 rfl) ?_
    refine sw_on (sX0_put c0 t_p0  ) ?_
    intro q6 hqq6
    obtain ⟨cq6, gq6, xq6⟩ := hqq6
    have fq6 := fr_trans f0 gq6 rfl
    exact sw_some ⟨cq6, fq6, trivial⟩
  · have a289 := zi_and p1 127 (by decide)
    refine sw_ite (fun h290 => ?_) (fun h290 => ?_)
    · exact sw_some ⟨c0, f0, trivial⟩
    · refine sw_sh (ci_sh c0 t_p0 rfl) ?_
      refine sw_on (sX0_put c0 t_p0  ) ?_
      intro q4 hqq4
      obtain ⟨cq4, gq4, xq4⟩ := hqq4
      have fq4 := fr_trans f0 gq4 rfl
      exact sw_some ⟨cq4, fq4, trivial⟩
abbrev KX8_openPage : List Nat := [3, 22, 23, 24]
set_option maxHeartbeats 4000000 in
set_option maxRecDepth 10000 in
theorem sX8_openPage {T : Nat → Option Nat} {σ0 : mm_M} {p0 : Nat} {p1 : Nat} (c0 : sCI T σ0) (t_p0 : T p0 = some 8) (t_p1 : T p1 = some 3) : sw (fX8_openPage p0 p1 σ0) (fun R => sCI T R ∧ sFR T KX8_openPage σ0 R ∧ (True)) := by
  have f0 : sFR T KX8_openPage σ0 σ0 := fr_refl
  unfold fX8_openPage
  refine sw_sh (ci_sh c0 t_p1 rfl) ?_
  have cs2 := ci_wI c0 t_p1 (j := 6) (v := 1) (kr_n rfl)
  have fs2 := fr_wI f0 t_p1 (j := 6) (v := 1) rfl
  refine sw_let (fun s2 es2 => ?_)
  rw [es2] at cs2 fs2
  have cs3 := ci_wI cs2 t_p1 (j := 8) (v := (mm_I s2 p1 8) + 1) (kr_n rfl)
  have fs3 := fr_wI fs2 t_p1 (j := 8) (v := (mm_I s2 p1 8) + 1) rfl
  refine sw_let (fun s3 es3 => ?_)
  rw [es3] at cs3 fs3
  refine sw_sh (ci_sh cs3 t_p0 rfl) ?_
  obtain ⟨q5, eq5, tq5⟩ := ci_ref cs3 t_p0 5 (κ' := 15) rfl
  refine sw_onS eq5 ?_
  refine sw_ar (ci_sh cs3 tq5 rfl) ?_
  refine sw_ib (by (try simp only [zp] at ⊢) <;> (try simp only [zz, Int32.reduceToInt, ne_eq] at ⊢) <;> (try simp (disch := omega) only [zb] at ⊢) <;> first | omega | ((try simp (disch := omega) only [zb] at ⊢) <;> omega)) ?_
  have a291 := zi_and (mm_I s3 q5 (3 : Int32).toNatClampNeg) 8 (by decide)
  refine sw_ite (fun h292 => ?_) (fun h292 => ?_)
  · unfold fX8_openPage_33
    refine sw_sh (ci_sh cs3 t_p0 rfl) ?_
    refine sw_onS eq5 ?_
    refine sw_ar (ci_sh cs3 tq5 rfl) ?_
    refine sw_ib (by (try simp only [zp] at a291 h292 ⊢) <;> (try simp only [zz, Int32.reduceToInt, ne_eq] at a291 h292 ⊢) <;> (try simp (disch := omega) only [zb] at a291 h292 ⊢) <;> first | omega | ((try simp (disch := omega) only [zb] at a291 h292 ⊢) <;> omega)) ?_
    have a293 := zi_and (mm_I s3 q5 (5 : Int32).toNatClampNeg) 4 (by decide)
    refine sw_ite (fun h294 => ?_) (fun h294 => ?_)
    · unfold fX8_openPage_49
      refine sw_sh (ci_sh cs3 t_p0 rfl) ?_
      refine sw_onS eq5 ?_
      refine sw_ar (ci_sh cs3 tq5 rfl) ?_
      refine sw_ib (by (try simp only [zp] at a291 h292 a293 h294 ⊢) <;> (try simp only [zz, Int32.reduceToInt, ne_eq] at a291 h292 a293 h294 ⊢) <;> (try simp (disch := omega) only [zb] at a291 h292 a293 h294 ⊢) <;> first | omega | ((try simp (disch := omega) only [zb] at a291 h292 a293 h294 ⊢) <;> omega)) ?_
      have a295 := zi_and (mm_I s3 q5 (5 : Int32).toNatClampNeg) 8 (by decide)
      refine sw_ite (fun h296 => ?_) (fun h296 => ?_)
      · unfold fX8_openPage_67
        refine sw_sh (ci_sh cs3 t_p0 rfl) ?_
        refine sw_onS eq5 ?_
        refine sw_ar (ci_sh cs3 tq5 rfl) ?_
        refine sw_ib (by (try simp only [zp] at a291 h292 a293 h294 a295 h296 ⊢) <;> (try simp only [zz, Int32.reduceToInt, ne_eq] at a291 h292 a293 h294 a295 h296 ⊢) <;> (try simp (disch := omega) only [zb] at a291 h292 a293 h294 a295 h296 ⊢) <;> first | omega | ((try simp (disch := omega) only [zb] at a291 h292 a293 h294 a295 h296 ⊢) <;> omega)) ?_
        have a297 := zi_and (mm_I s3 q5 (7 : Int32).toNatClampNeg) 1 (by decide)
        refine sw_ite (fun h298 => ?_) (fun h298 => ?_)
        · unfold fX8_openPage_86
          refine sw_sh (ci_sh cs3 t_p1 rfl) ?_
          have cs25 := ci_wI cs3 t_p1 (j := 5) (v := ((((0 : Int32)) + (0 : Int32)) + (0 : Int32)) + (0 : Int32)) (kr_n rfl)
          have fs25 := fr_wI fs3 t_p1 (j := 5) (v := ((((0 : Int32)) + (0 : Int32)) + (0 : Int32)) + (0 : Int32)) rfl
          refine sw_let (fun s25 es25 => ?_)
          rw [es25] at cs25 fs25
          refine sw_sh (ci_sh cs25 t_p1 rfl) ?_
          have a299 := zi_and (mm_I s25 p1 5) 1 (by decide)
          refine sw_ite (fun h300 => ?_) (fun h300 => ?_)
          · unfold fX8_openPage_111
            refine sw_sh (ci_sh cs25 t_p1 rfl) ?_
            refine sw_sh (ci_sh cs25 t_p0 rfl) ?_
            obtain ⟨q30, eq30, tq30⟩ := ci_ref cs25 t_p0 3 (κ' := 13) rfl
            refine sw_onS eq30 ?_
            obtain ⟨q31, eq31, tq31⟩ := ci_ref cs25 t_p1 0 (κ' := 4) rfl
            refine sw_onS eq31 ?_
            refine sw_sh (ci_sh cs25 tq31 rfl) ?_
            refine sw_on (sX4_fill cs25 tq31 tq30 (by (try simp only [zp] at a291 h292 a293 h294 a295 h296 a297 h298 a299 h300 ⊢) <;> (try simp only [zz, Int32.reduceToInt, ne_eq] at a291 h292 a293 h294 a295 h296 a297 h298 a299 h300 ⊢) <;> (try simp (disch := omega) only [zb] at a291 h292 a293 h294 a295 h296 a297 h298 a299 h300 ⊢) <;> first | omega | ((try simp (disch := omega) only [zb] at a291 h292 a293 h294 a295 h296 a297 h298 a299 h300 ⊢) <;> omega)) (by (try simp only [zp] at a291 h292 a293 h294 a295 h296 a297 h298 a299 h300 ⊢) <;> (try simp only [zz, Int32.reduceToInt, ne_eq] at a291 h292 a293 h294 a295 h296 a297 h298 a299 h300 ⊢) <;> (try simp (disch := omega) only [zb] at a291 h292 a293 h294 a295 h296 a297 h298 a299 h300 ⊢) <;> first | omega | ((try simp (disch := omega) only [zb] at a291 h292 a293 h294 a295 h296 a297 h298 a299 h300 ⊢) <;> omega)) ) ?_
            intro q33 hqq33
            obtain ⟨cq33, gq33, xq33⟩ := hqq33
            have fq33 := fr_trans fs25 gq33 rfl
            exact sw_some ⟨cq33, fq33, trivial⟩
          · obtain ⟨q34, eq34, tq34⟩ := ci_ref cs25 t_p1 0 (κ' := 4) rfl
            refine sw_onS eq34 ?_
            refine sw_sh (ci_sh cs25 tq34 rfl) ?_
            refine sw_on (sX4_eraseRows cs25 tq34 (by (try simp only [zp] at a291 h292 a293 h294 a295 h296 a297 h298 a299 h300 ⊢) <;> (try simp only [zz, Int32.reduceToInt, ne_eq] at a291 h292 a293 h294 a295 h296 a297 h298 a299 h300 ⊢) <;> (try simp (disch := omega) only [zb] at a291 h292 a293 h294 a295 h296 a297 h298 a299 h300 ⊢) <;> first | omega | ((try simp (disch := omega) only [zb] at a291 h292 a293 h294 a295 h296 a297 h298 a299 h300 ⊢) <;> omega)) ) ?_
            intro q36 hqq36
            obtain ⟨cq36, gq36, xq36⟩ := hqq36
            have fq36 := fr_trans fs25 gq36 rfl
            refine sw_sh (ci_sh cq36 t_p1 rfl) ?_
            refine sw_on (sX3_eraseLinks cq36 t_p1  ) ?_
            intro q38 hqq38
            obtain ⟨cq38, gq38, xq38⟩ := hqq38
            have fq38 := fr_trans fq36 gq38 rfl
            unfold fX8_openPage_111
            refine sw_sh (ci_sh cq38 t_p1 rfl) ?_
            refine sw_sh (ci_sh cq38 t_p0 rfl) ?_
            obtain ⟨q30, eq30, tq30⟩ := ci_ref cq38 t_p0 3 (κ' := 13) rfl
            refine sw_onS eq30 ?_
            have v301 : mm_R q38 p1 0 = some q34 := ((gq38.2.2 _ _ t_p1 0 rfl).2.trans ((gq36.2.2 _ _ t_p1 0 rfl).2.trans eq34))
            refine sw_onS v301 ?_
            refine sw_sh (ci_sh cq38 tq34 rfl) ?_
            refine sw_on (sX4_fill cq38 tq34 tq30 (by (try simp only [zp] at a291 h292 a293 h294 a295 h296 a297 h298 a299 h300 ⊢) <;> (try simp only [zz, Int32.reduceToInt, ne_eq] at a291 h292 a293 h294 a295 h296 a297 h298 a299 h300 ⊢) <;> (try simp (disch := omega) only [zb] at a291 h292 a293 h294 a295 h296 a297 h298 a299 h300 ⊢) <;> first | omega | ((try simp (disch := omega) only [zb] at a291 h292 a293 h294 a295 h296 a297 h298 a299 h300 ⊢) <;> omega)) (by (try simp only [zp] at a291 h292 a293 h294 a295 h296 a297 h298 a299 h300 ⊢) <;> (try simp only [zz, Int32.reduceToInt, ne_eq] at a291 h292 a293 h294 a295 h296 a297 h298 a299 h300 ⊢) <;> (try simp (disch := omega) only [zb] at a291 h292 a293 h294 a295 h296 a297 h298 a299 h300 ⊢) <;> first | omega | ((try simp (disch := omega) only [zb] at a291 h292 a293 h294 a295 h296 a297 h298 a299 h300 ⊢) <;> omega)) ) ?_
            intro q33 hqq33
            obtain ⟨cq33, gq33, xq33⟩ := hqq33
            have fq33 := fr_trans fq38 gq33 rfl
            exact sw_some ⟨cq33, fq33, trivial⟩
        · unfold fX8_openPage_86
          refine sw_sh (ci_sh cs3 t_p1 rfl) ?_
          have cs25 := ci_wI cs3 t_p1 (j := 5) (v := ((((0 : Int32)) + (0 : Int32)) + (0 : Int32)) + (8 : Int32)) (kr_n rfl)
          have fs25 := fr_wI fs3 t_p1 (j := 5) (v := ((((0 : Int32)) + (0 : Int32)) + (0 : Int32)) + (8 : Int32)) rfl
          refine sw_let (fun s25 es25 => ?_)
          rw [es25] at cs25 fs25
          refine sw_sh (ci_sh cs25 t_p1 rfl) ?_
          have a302 := zi_and (mm_I s25 p1 5) 1 (by decide)
          refine sw_ite (fun h303 => ?_) (fun h303 => ?_)
          · unfold fX8_openPage_111
            refine sw_sh (ci_sh cs25 t_p1 rfl) ?_
            refine sw_sh (ci_sh cs25 t_p0 rfl) ?_
            obtain ⟨q30, eq30, tq30⟩ := ci_ref cs25 t_p0 3 (κ' := 13) rfl
            refine sw_onS eq30 ?_
            obtain ⟨q31, eq31, tq31⟩ := ci_ref cs25 t_p1 0 (κ' := 4) rfl
            refine sw_onS eq31 ?_
            refine sw_sh (ci_sh cs25 tq31 rfl) ?_
            refine sw_on (sX4_fill cs25 tq31 tq30 (by (try simp only [zp] at a291 h292 a293 h294 a295 h296 a297 h298 a302 h303 ⊢) <;> (try simp only [zz, Int32.reduceToInt, ne_eq] at a291 h292 a293 h294 a295 h296 a297 h298 a302 h303 ⊢) <;> (try simp (disch := omega) only [zb] at a291 h292 a293 h294 a295 h296 a297 h298 a302 h303 ⊢) <;> first | omega | ((try simp (disch := omega) only [zb] at a291 h292 a293 h294 a295 h296 a297 h298 a302 h303 ⊢) <;> omega)) (by (try simp only [zp] at a291 h292 a293 h294 a295 h296 a297 h298 a302 h303 ⊢) <;> (try simp only [zz, Int32.reduceToInt, ne_eq] at a291 h292 a293 h294 a295 h296 a297 h298 a302 h303 ⊢) <;> (try simp (disch := omega) only [zb] at a291 h292 a293 h294 a295 h296 a297 h298 a302 h303 ⊢) <;> first | omega | ((try simp (disch := omega) only [zb] at a291 h292 a293 h294 a295 h296 a297 h298 a302 h303 ⊢) <;> omega)) ) ?_
            intro q33 hqq33
            obtain ⟨cq33, gq33, xq33⟩ := hqq33
            have fq33 := fr_trans fs25 gq33 rfl
            exact sw_some ⟨cq33, fq33, trivial⟩
          · obtain ⟨q34, eq34, tq34⟩ := ci_ref cs25 t_p1 0 (κ' := 4) rfl
            refine sw_onS eq34 ?_
            refine sw_sh (ci_sh cs25 tq34 rfl) ?_
            refine sw_on (sX4_eraseRows cs25 tq34 (by (try simp only [zp] at a291 h292 a293 h294 a295 h296 a297 h298 a302 h303 ⊢) <;> (try simp only [zz, Int32.reduceToInt, ne_eq] at a291 h292 a293 h294 a295 h296 a297 h298 a302 h303 ⊢) <;> (try simp (disch := omega) only [zb] at a291 h292 a293 h294 a295 h296 a297 h298 a302 h303 ⊢) <;> first | omega | ((try simp (disch := omega) only [zb] at a291 h292 a293 h294 a295 h296 a297 h298 a302 h303 ⊢) <;> omega)) ) ?_
            intro q36 hqq36
            obtain ⟨cq36, gq36, xq36⟩ := hqq36
            have fq36 := fr_trans fs25 gq36 rfl
            refine sw_sh (ci_sh cq36 t_p1 rfl) ?_
            refine sw_on (sX3_eraseLinks cq36 t_p1  ) ?_
            intro q38 hqq38
            obtain ⟨cq38, gq38, xq38⟩ := hqq38
            have fq38 := fr_trans fq36 gq38 rfl
            unfold fX8_openPage_111
            refine sw_sh (ci_sh cq38 t_p1 rfl) ?_
            refine sw_sh (ci_sh cq38 t_p0 rfl) ?_
            obtain ⟨q30, eq30, tq30⟩ := ci_ref cq38 t_p0 3 (κ' := 13) rfl
            refine sw_onS eq30 ?_
            have v304 : mm_R q38 p1 0 = some q34 := ((gq38.2.2 _ _ t_p1 0 rfl).2.trans ((gq36.2.2 _ _ t_p1 0 rfl).2.trans eq34))
            refine sw_onS v304 ?_
            refine sw_sh (ci_sh cq38 tq34 rfl) ?_
            refine sw_on (sX4_fill cq38 tq34 tq30 (by (try simp only [zp] at a291 h292 a293 h294 a295 h296 a297 h298 a302 h303 ⊢) <;> (try simp only [zz, Int32.reduceToInt, ne_eq] at a291 h292 a293 h294 a295 h296 a297 h298 a302 h303 ⊢) <;> (try simp (disch := omega) only [zb] at a291 h292 a293 h294 a295 h296 a297 h298 a302 h303 ⊢) <;> first | omega | ((try simp (disch := omega) only [zb] at a291 h292 a293 h294 a295 h296 a297 h298 a302 h303 ⊢) <;> omega)) (by (try simp only [zp] at a291 h292 a293 h294 a295 h296 a297 h298 a302 h303 ⊢) <;> (try simp only [zz, Int32.reduceToInt, ne_eq] at a291 h292 a293 h294 a295 h296 a297 h298 a302 h303 ⊢) <;> (try simp (disch := omega) only [zb] at a291 h292 a293 h294 a295 h296 a297 h298 a302 h303 ⊢) <;> first | omega | ((try simp (disch := omega) only [zb] at a291 h292 a293 h294 a295 h296 a297 h298 a302 h303 ⊢) <;> omega)) ) ?_
            intro q33 hqq33
            obtain ⟨cq33, gq33, xq33⟩ := hqq33
            have fq33 := fr_trans fq38 gq33 rfl
            exact sw_some ⟨cq33, fq33, trivial⟩
      · unfold fX8_openPage_67
        refine sw_sh (ci_sh cs3 t_p0 rfl) ?_
        refine sw_onS eq5 ?_
        refine sw_ar (ci_sh cs3 tq5 rfl) ?_
        refine sw_ib (by (try simp only [zp] at a291 h292 a293 h294 a295 h296 ⊢) <;> (try simp only [zz, Int32.reduceToInt, ne_eq] at a291 h292 a293 h294 a295 h296 ⊢) <;> (try simp (disch := omega) only [zb] at a291 h292 a293 h294 a295 h296 ⊢) <;> first | omega | ((try simp (disch := omega) only [zb] at a291 h292 a293 h294 a295 h296 ⊢) <;> omega)) ?_
        have a305 := zi_and (mm_I s3 q5 (7 : Int32).toNatClampNeg) 1 (by decide)
        refine sw_ite (fun h306 => ?_) (fun h306 => ?_)
        · unfold fX8_openPage_86
          refine sw_sh (ci_sh cs3 t_p1 rfl) ?_
          have cs25 := ci_wI cs3 t_p1 (j := 5) (v := ((((0 : Int32)) + (0 : Int32)) + (4 : Int32)) + (0 : Int32)) (kr_n rfl)
          have fs25 := fr_wI fs3 t_p1 (j := 5) (v := ((((0 : Int32)) + (0 : Int32)) + (4 : Int32)) + (0 : Int32)) rfl
          refine sw_let (fun s25 es25 => ?_)
          rw [es25] at cs25 fs25
          refine sw_sh (ci_sh cs25 t_p1 rfl) ?_
          have a307 := zi_and (mm_I s25 p1 5) 1 (by decide)
          refine sw_ite (fun h308 => ?_) (fun h308 => ?_)
          · unfold fX8_openPage_111
            refine sw_sh (ci_sh cs25 t_p1 rfl) ?_
            refine sw_sh (ci_sh cs25 t_p0 rfl) ?_
            obtain ⟨q30, eq30, tq30⟩ := ci_ref cs25 t_p0 3 (κ' := 13) rfl
            refine sw_onS eq30 ?_
            obtain ⟨q31, eq31, tq31⟩ := ci_ref cs25 t_p1 0 (κ' := 4) rfl
            refine sw_onS eq31 ?_
            refine sw_sh (ci_sh cs25 tq31 rfl) ?_
            refine sw_on (sX4_fill cs25 tq31 tq30 (by (try simp only [zp] at a291 h292 a293 h294 a295 h296 a305 h306 a307 h308 ⊢) <;> (try simp only [zz, Int32.reduceToInt, ne_eq] at a291 h292 a293 h294 a295 h296 a305 h306 a307 h308 ⊢) <;> (try simp (disch := omega) only [zb] at a291 h292 a293 h294 a295 h296 a305 h306 a307 h308 ⊢) <;> first | omega | ((try simp (disch := omega) only [zb] at a291 h292 a293 h294 a295 h296 a305 h306 a307 h308 ⊢) <;> omega)) (by (try simp only [zp] at a291 h292 a293 h294 a295 h296 a305 h306 a307 h308 ⊢) <;> (try simp only [zz, Int32.reduceToInt, ne_eq] at a291 h292 a293 h294 a295 h296 a305 h306 a307 h308 ⊢) <;> (try simp (disch := omega) only [zb] at a291 h292 a293 h294 a295 h296 a305 h306 a307 h308 ⊢) <;> first | omega | ((try simp (disch := omega) only [zb] at a291 h292 a293 h294 a295 h296 a305 h306 a307 h308 ⊢) <;> omega)) ) ?_
            intro q33 hqq33
            obtain ⟨cq33, gq33, xq33⟩ := hqq33
            have fq33 := fr_trans fs25 gq33 rfl
            exact sw_some ⟨cq33, fq33, trivial⟩
          · obtain ⟨q34, eq34, tq34⟩ := ci_ref cs25 t_p1 0 (κ' := 4) rfl
            refine sw_onS eq34 ?_
            refine sw_sh (ci_sh cs25 tq34 rfl) ?_
            refine sw_on (sX4_eraseRows cs25 tq34 (by (try simp only [zp] at a291 h292 a293 h294 a295 h296 a305 h306 a307 h308 ⊢) <;> (try simp only [zz, Int32.reduceToInt, ne_eq] at a291 h292 a293 h294 a295 h296 a305 h306 a307 h308 ⊢) <;> (try simp (disch := omega) only [zb] at a291 h292 a293 h294 a295 h296 a305 h306 a307 h308 ⊢) <;> first | omega | ((try simp (disch := omega) only [zb] at a291 h292 a293 h294 a295 h296 a305 h306 a307 h308 ⊢) <;> omega)) ) ?_
            intro q36 hqq36
            obtain ⟨cq36, gq36, xq36⟩ := hqq36
            have fq36 := fr_trans fs25 gq36 rfl
            refine sw_sh (ci_sh cq36 t_p1 rfl) ?_
            refine sw_on (sX3_eraseLinks cq36 t_p1  ) ?_
            intro q38 hqq38
            obtain ⟨cq38, gq38, xq38⟩ := hqq38
            have fq38 := fr_trans fq36 gq38 rfl
            unfold fX8_openPage_111
            refine sw_sh (ci_sh cq38 t_p1 rfl) ?_
            refine sw_sh (ci_sh cq38 t_p0 rfl) ?_
            obtain ⟨q30, eq30, tq30⟩ := ci_ref cq38 t_p0 3 (κ' := 13) rfl
            refine sw_onS eq30 ?_
            have v309 : mm_R q38 p1 0 = some q34 := ((gq38.2.2 _ _ t_p1 0 rfl).2.trans ((gq36.2.2 _ _ t_p1 0 rfl).2.trans eq34))
            refine sw_onS v309 ?_
            refine sw_sh (ci_sh cq38 tq34 rfl) ?_
            refine sw_on (sX4_fill cq38 tq34 tq30 (by (try simp only [zp] at a291 h292 a293 h294 a295 h296 a305 h306 a307 h308 ⊢) <;> (try simp only [zz, Int32.reduceToInt, ne_eq] at a291 h292 a293 h294 a295 h296 a305 h306 a307 h308 ⊢) <;> (try simp (disch := omega) only [zb] at a291 h292 a293 h294 a295 h296 a305 h306 a307 h308 ⊢) <;> first | omega | ((try simp (disch := omega) only [zb] at a291 h292 a293 h294 a295 h296 a305 h306 a307 h308 ⊢) <;> omega)) (by (try simp only [zp] at a291 h292 a293 h294 a295 h296 a305 h306 a307 h308 ⊢) <;> (try simp only [zz, Int32.reduceToInt, ne_eq] at a291 h292 a293 h294 a295 h296 a305 h306 a307 h308 ⊢) <;> (try simp (disch := omega) only [zb] at a291 h292 a293 h294 a295 h296 a305 h306 a307 h308 ⊢) <;> first | omega | ((try simp (disch := omega) only [zb] at a291 h292 a293 h294 a295 h296 a305 h306 a307 h308 ⊢) <;> omega)) ) ?_
            intro q33 hqq33
            obtain ⟨cq33, gq33, xq33⟩ := hqq33
            have fq33 := fr_trans fq38 gq33 rfl
            exact sw_some ⟨cq33, fq33, trivial⟩
        · unfold fX8_openPage_86
          refine sw_sh (ci_sh cs3 t_p1 rfl) ?_
          have cs25 := ci_wI cs3 t_p1 (j := 5) (v := ((((0 : Int32)) + (0 : Int32)) + (4 : Int32)) + (8 : Int32)) (kr_n rfl)
          have fs25 := fr_wI fs3 t_p1 (j := 5) (v := ((((0 : Int32)) + (0 : Int32)) + (4 : Int32)) + (8 : Int32)) rfl
          refine sw_let (fun s25 es25 => ?_)
          rw [es25] at cs25 fs25
          refine sw_sh (ci_sh cs25 t_p1 rfl) ?_
          have a310 := zi_and (mm_I s25 p1 5) 1 (by decide)
          refine sw_ite (fun h311 => ?_) (fun h311 => ?_)
          · unfold fX8_openPage_111
            refine sw_sh (ci_sh cs25 t_p1 rfl) ?_
            refine sw_sh (ci_sh cs25 t_p0 rfl) ?_
            obtain ⟨q30, eq30, tq30⟩ := ci_ref cs25 t_p0 3 (κ' := 13) rfl
            refine sw_onS eq30 ?_
            obtain ⟨q31, eq31, tq31⟩ := ci_ref cs25 t_p1 0 (κ' := 4) rfl
            refine sw_onS eq31 ?_
            refine sw_sh (ci_sh cs25 tq31 rfl) ?_
            refine sw_on (sX4_fill cs25 tq31 tq30 (by (try simp only [zp] at a291 h292 a293 h294 a295 h296 a305 h306 a310 h311 ⊢) <;> (try simp only [zz, Int32.reduceToInt, ne_eq] at a291 h292 a293 h294 a295 h296 a305 h306 a310 h311 ⊢) <;> (try simp (disch := omega) only [zb] at a291 h292 a293 h294 a295 h296 a305 h306 a310 h311 ⊢) <;> first | omega | ((try simp (disch := omega) only [zb] at a291 h292 a293 h294 a295 h296 a305 h306 a310 h311 ⊢) <;> omega)) (by (try simp only [zp] at a291 h292 a293 h294 a295 h296 a305 h306 a310 h311 ⊢) <;> (try simp only [zz, Int32.reduceToInt, ne_eq] at a291 h292 a293 h294 a295 h296 a305 h306 a310 h311 ⊢) <;> (try simp (disch := omega) only [zb] at a291 h292 a293 h294 a295 h296 a305 h306 a310 h311 ⊢) <;> first | omega | ((try simp (disch := omega) only [zb] at a291 h292 a293 h294 a295 h296 a305 h306 a310 h311 ⊢) <;> omega)) ) ?_
            intro q33 hqq33
            obtain ⟨cq33, gq33, xq33⟩ := hqq33
            have fq33 := fr_trans fs25 gq33 rfl
            exact sw_some ⟨cq33, fq33, trivial⟩
          · obtain ⟨q34, eq34, tq34⟩ := ci_ref cs25 t_p1 0 (κ' := 4) rfl
            refine sw_onS eq34 ?_
            refine sw_sh (ci_sh cs25 tq34 rfl) ?_
            refine sw_on (sX4_eraseRows cs25 tq34 (by (try simp only [zp] at a291 h292 a293 h294 a295 h296 a305 h306 a310 h311 ⊢) <;> (try simp only [zz, Int32.reduceToInt, ne_eq] at a291 h292 a293 h294 a295 h296 a305 h306 a310 h311 ⊢) <;> (try simp (disch := omega) only [zb] at a291 h292 a293 h294 a295 h296 a305 h306 a310 h311 ⊢) <;> first | omega | ((try simp (disch := omega) only [zb] at a291 h292 a293 h294 a295 h296 a305 h306 a310 h311 ⊢) <;> omega)) ) ?_
            intro q36 hqq36
            obtain ⟨cq36, gq36, xq36⟩ := hqq36
            have fq36 := fr_trans fs25 gq36 rfl
            refine sw_sh (ci_sh cq36 t_p1 rfl) ?_
            refine sw_on (sX3_eraseLinks cq36 t_p1  ) ?_
            intro q38 hqq38
            obtain ⟨cq38, gq38, xq38⟩ := hqq38
            have fq38 := fr_trans fq36 gq38 rfl
            unfold fX8_openPage_111
            refine sw_sh (ci_sh cq38 t_p1 rfl) ?_
            refine sw_sh (ci_sh cq38 t_p0 rfl) ?_
            obtain ⟨q30, eq30, tq30⟩ := ci_ref cq38 t_p0 3 (κ' := 13) rfl
            refine sw_onS eq30 ?_
            have v312 : mm_R q38 p1 0 = some q34 := ((gq38.2.2 _ _ t_p1 0 rfl).2.trans ((gq36.2.2 _ _ t_p1 0 rfl).2.trans eq34))
            refine sw_onS v312 ?_
            refine sw_sh (ci_sh cq38 tq34 rfl) ?_
            refine sw_on (sX4_fill cq38 tq34 tq30 (by (try simp only [zp] at a291 h292 a293 h294 a295 h296 a305 h306 a310 h311 ⊢) <;> (try simp only [zz, Int32.reduceToInt, ne_eq] at a291 h292 a293 h294 a295 h296 a305 h306 a310 h311 ⊢) <;> (try simp (disch := omega) only [zb] at a291 h292 a293 h294 a295 h296 a305 h306 a310 h311 ⊢) <;> first | omega | ((try simp (disch := omega) only [zb] at a291 h292 a293 h294 a295 h296 a305 h306 a310 h311 ⊢) <;> omega)) (by (try simp only [zp] at a291 h292 a293 h294 a295 h296 a305 h306 a310 h311 ⊢) <;> (try simp only [zz, Int32.reduceToInt, ne_eq] at a291 h292 a293 h294 a295 h296 a305 h306 a310 h311 ⊢) <;> (try simp (disch := omega) only [zb] at a291 h292 a293 h294 a295 h296 a305 h306 a310 h311 ⊢) <;> first | omega | ((try simp (disch := omega) only [zb] at a291 h292 a293 h294 a295 h296 a305 h306 a310 h311 ⊢) <;> omega)) ) ?_
            intro q33 hqq33
            obtain ⟨cq33, gq33, xq33⟩ := hqq33
            have fq33 := fr_trans fq38 gq33 rfl
            exact sw_some ⟨cq33, fq33, trivial⟩
    · unfold fX8_openPage_49
      refine sw_sh (ci_sh cs3 t_p0 rfl) ?_
      refine sw_onS eq5 ?_
      refine sw_ar (ci_sh cs3 tq5 rfl) ?_
      refine sw_ib (by (try simp only [zp] at a291 h292 a293 h294 ⊢) <;> (try simp only [zz, Int32.reduceToInt, ne_eq] at a291 h292 a293 h294 ⊢) <;> (try simp (disch := omega) only [zb] at a291 h292 a293 h294 ⊢) <;> first | omega | ((try simp (disch := omega) only [zb] at a291 h292 a293 h294 ⊢) <;> omega)) ?_
      have a313 := zi_and (mm_I s3 q5 (5 : Int32).toNatClampNeg) 8 (by decide)
      refine sw_ite (fun h314 => ?_) (fun h314 => ?_)
      · unfold fX8_openPage_67
        refine sw_sh (ci_sh cs3 t_p0 rfl) ?_
        refine sw_onS eq5 ?_
        refine sw_ar (ci_sh cs3 tq5 rfl) ?_
        refine sw_ib (by (try simp only [zp] at a291 h292 a293 h294 a313 h314 ⊢) <;> (try simp only [zz, Int32.reduceToInt, ne_eq] at a291 h292 a293 h294 a313 h314 ⊢) <;> (try simp (disch := omega) only [zb] at a291 h292 a293 h294 a313 h314 ⊢) <;> first | omega | ((try simp (disch := omega) only [zb] at a291 h292 a293 h294 a313 h314 ⊢) <;> omega)) ?_
        have a315 := zi_and (mm_I s3 q5 (7 : Int32).toNatClampNeg) 1 (by decide)
        refine sw_ite (fun h316 => ?_) (fun h316 => ?_)
        · unfold fX8_openPage_86
          refine sw_sh (ci_sh cs3 t_p1 rfl) ?_
          have cs25 := ci_wI cs3 t_p1 (j := 5) (v := ((((0 : Int32)) + (2 : Int32)) + (0 : Int32)) + (0 : Int32)) (kr_n rfl)
          have fs25 := fr_wI fs3 t_p1 (j := 5) (v := ((((0 : Int32)) + (2 : Int32)) + (0 : Int32)) + (0 : Int32)) rfl
          refine sw_let (fun s25 es25 => ?_)
          rw [es25] at cs25 fs25
          refine sw_sh (ci_sh cs25 t_p1 rfl) ?_
          have a317 := zi_and (mm_I s25 p1 5) 1 (by decide)
          refine sw_ite (fun h318 => ?_) (fun h318 => ?_)
          · unfold fX8_openPage_111
            refine sw_sh (ci_sh cs25 t_p1 rfl) ?_
            refine sw_sh (ci_sh cs25 t_p0 rfl) ?_
            obtain ⟨q30, eq30, tq30⟩ := ci_ref cs25 t_p0 3 (κ' := 13) rfl
            refine sw_onS eq30 ?_
            obtain ⟨q31, eq31, tq31⟩ := ci_ref cs25 t_p1 0 (κ' := 4) rfl
            refine sw_onS eq31 ?_
            refine sw_sh (ci_sh cs25 tq31 rfl) ?_
            refine sw_on (sX4_fill cs25 tq31 tq30 (by (try simp only [zp] at a291 h292 a293 h294 a313 h314 a315 h316 a317 h318 ⊢) <;> (try simp only [zz, Int32.reduceToInt, ne_eq] at a291 h292 a293 h294 a313 h314 a315 h316 a317 h318 ⊢) <;> (try simp (disch := omega) only [zb] at a291 h292 a293 h294 a313 h314 a315 h316 a317 h318 ⊢) <;> first | omega | ((try simp (disch := omega) only [zb] at a291 h292 a293 h294 a313 h314 a315 h316 a317 h318 ⊢) <;> omega)) (by (try simp only [zp] at a291 h292 a293 h294 a313 h314 a315 h316 a317 h318 ⊢) <;> (try simp only [zz, Int32.reduceToInt, ne_eq] at a291 h292 a293 h294 a313 h314 a315 h316 a317 h318 ⊢) <;> (try simp (disch := omega) only [zb] at a291 h292 a293 h294 a313 h314 a315 h316 a317 h318 ⊢) <;> first | omega | ((try simp (disch := omega) only [zb] at a291 h292 a293 h294 a313 h314 a315 h316 a317 h318 ⊢) <;> omega)) ) ?_
            intro q33 hqq33
            obtain ⟨cq33, gq33, xq33⟩ := hqq33
            have fq33 := fr_trans fs25 gq33 rfl
            exact sw_some ⟨cq33, fq33, trivial⟩
          · obtain ⟨q34, eq34, tq34⟩ := ci_ref cs25 t_p1 0 (κ' := 4) rfl
            refine sw_onS eq34 ?_
            refine sw_sh (ci_sh cs25 tq34 rfl) ?_
            refine sw_on (sX4_eraseRows cs25 tq34 (by (try simp only [zp] at a291 h292 a293 h294 a313 h314 a315 h316 a317 h318 ⊢) <;> (try simp only [zz, Int32.reduceToInt, ne_eq] at a291 h292 a293 h294 a313 h314 a315 h316 a317 h318 ⊢) <;> (try simp (disch := omega) only [zb] at a291 h292 a293 h294 a313 h314 a315 h316 a317 h318 ⊢) <;> first | omega | ((try simp (disch := omega) only [zb] at a291 h292 a293 h294 a313 h314 a315 h316 a317 h318 ⊢) <;> omega)) ) ?_
            intro q36 hqq36
            obtain ⟨cq36, gq36, xq36⟩ := hqq36
            have fq36 := fr_trans fs25 gq36 rfl
            refine sw_sh (ci_sh cq36 t_p1 rfl) ?_
            refine sw_on (sX3_eraseLinks cq36 t_p1  ) ?_
            intro q38 hqq38
            obtain ⟨cq38, gq38, xq38⟩ := hqq38
            have fq38 := fr_trans fq36 gq38 rfl
            unfold fX8_openPage_111
            refine sw_sh (ci_sh cq38 t_p1 rfl) ?_
            refine sw_sh (ci_sh cq38 t_p0 rfl) ?_
            obtain ⟨q30, eq30, tq30⟩ := ci_ref cq38 t_p0 3 (κ' := 13) rfl
            refine sw_onS eq30 ?_
            have v319 : mm_R q38 p1 0 = some q34 := ((gq38.2.2 _ _ t_p1 0 rfl).2.trans ((gq36.2.2 _ _ t_p1 0 rfl).2.trans eq34))
            refine sw_onS v319 ?_
            refine sw_sh (ci_sh cq38 tq34 rfl) ?_
            refine sw_on (sX4_fill cq38 tq34 tq30 (by (try simp only [zp] at a291 h292 a293 h294 a313 h314 a315 h316 a317 h318 ⊢) <;> (try simp only [zz, Int32.reduceToInt, ne_eq] at a291 h292 a293 h294 a313 h314 a315 h316 a317 h318 ⊢) <;> (try simp (disch := omega) only [zb] at a291 h292 a293 h294 a313 h314 a315 h316 a317 h318 ⊢) <;> first | omega | ((try simp (disch := omega) only [zb] at a291 h292 a293 h294 a313 h314 a315 h316 a317 h318 ⊢) <;> omega)) (by (try simp only [zp] at a291 h292 a293 h294 a313 h314 a315 h316 a317 h318 ⊢) <;> (try simp only [zz, Int32.reduceToInt, ne_eq] at a291 h292 a293 h294 a313 h314 a315 h316 a317 h318 ⊢) <;> (try simp (disch := omega) only [zb] at a291 h292 a293 h294 a313 h314 a315 h316 a317 h318 ⊢) <;> first | omega | ((try simp (disch := omega) only [zb] at a291 h292 a293 h294 a313 h314 a315 h316 a317 h318 ⊢) <;> omega)) ) ?_
            intro q33 hqq33
            obtain ⟨cq33, gq33, xq33⟩ := hqq33
            have fq33 := fr_trans fq38 gq33 rfl
            exact sw_some ⟨cq33, fq33, trivial⟩
        · unfold fX8_openPage_86
          refine sw_sh (ci_sh cs3 t_p1 rfl) ?_
          have cs25 := ci_wI cs3 t_p1 (j := 5) (v := ((((0 : Int32)) + (2 : Int32)) + (0 : Int32)) + (8 : Int32)) (kr_n rfl)
          have fs25 := fr_wI fs3 t_p1 (j := 5) (v := ((((0 : Int32)) + (2 : Int32)) + (0 : Int32)) + (8 : Int32)) rfl
          refine sw_let (fun s25 es25 => ?_)
          rw [es25] at cs25 fs25
          refine sw_sh (ci_sh cs25 t_p1 rfl) ?_
          have a320 := zi_and (mm_I s25 p1 5) 1 (by decide)
          refine sw_ite (fun h321 => ?_) (fun h321 => ?_)
          · unfold fX8_openPage_111
            refine sw_sh (ci_sh cs25 t_p1 rfl) ?_
            refine sw_sh (ci_sh cs25 t_p0 rfl) ?_
            obtain ⟨q30, eq30, tq30⟩ := ci_ref cs25 t_p0 3 (κ' := 13) rfl
            refine sw_onS eq30 ?_
            obtain ⟨q31, eq31, tq31⟩ := ci_ref cs25 t_p1 0 (κ' := 4) rfl
            refine sw_onS eq31 ?_
            refine sw_sh (ci_sh cs25 tq31 rfl) ?_
            refine sw_on (sX4_fill cs25 tq31 tq30 (by (try simp only [zp] at a291 h292 a293 h294 a313 h314 a315 h316 a320 h321 ⊢) <;> (try simp only [zz, Int32.reduceToInt, ne_eq] at a291 h292 a293 h294 a313 h314 a315 h316 a320 h321 ⊢) <;> (try simp (disch := omega) only [zb] at a291 h292 a293 h294 a313 h314 a315 h316 a320 h321 ⊢) <;> first | omega | ((try simp (disch := omega) only [zb] at a291 h292 a293 h294 a313 h314 a315 h316 a320 h321 ⊢) <;> omega)) (by (try simp only [zp] at a291 h292 a293 h294 a313 h314 a315 h316 a320 h321 ⊢) <;> (try simp only [zz, Int32.reduceToInt, ne_eq] at a291 h292 a293 h294 a313 h314 a315 h316 a320 h321 ⊢) <;> (try simp (disch := omega) only [zb] at a291 h292 a293 h294 a313 h314 a315 h316 a320 h321 ⊢) <;> first | omega | ((try simp (disch := omega) only [zb] at a291 h292 a293 h294 a313 h314 a315 h316 a320 h321 ⊢) <;> omega)) ) ?_
            intro q33 hqq33
            obtain ⟨cq33, gq33, xq33⟩ := hqq33
            have fq33 := fr_trans fs25 gq33 rfl
            exact sw_some ⟨cq33, fq33, trivial⟩
          · obtain ⟨q34, eq34, tq34⟩ := ci_ref cs25 t_p1 0 (κ' := 4) rfl
            refine sw_onS eq34 ?_
            refine sw_sh (ci_sh cs25 tq34 rfl) ?_
            refine sw_on (sX4_eraseRows cs25 tq34 (by (try simp only [zp] at a291 h292 a293 h294 a313 h314 a315 h316 a320 h321 ⊢) <;> (try simp only [zz, Int32.reduceToInt, ne_eq] at a291 h292 a293 h294 a313 h314 a315 h316 a320 h321 ⊢) <;> (try simp (disch := omega) only [zb] at a291 h292 a293 h294 a313 h314 a315 h316 a320 h321 ⊢) <;> first | omega | ((try simp (disch := omega) only [zb] at a291 h292 a293 h294 a313 h314 a315 h316 a320 h321 ⊢) <;> omega)) ) ?_
            intro q36 hqq36
            obtain ⟨cq36, gq36, xq36⟩ := hqq36
            have fq36 := fr_trans fs25 gq36 rfl
            refine sw_sh (ci_sh cq36 t_p1 rfl) ?_
            refine sw_on (sX3_eraseLinks cq36 t_p1  ) ?_
            intro q38 hqq38
            obtain ⟨cq38, gq38, xq38⟩ := hqq38
            have fq38 := fr_trans fq36 gq38 rfl
            unfold fX8_openPage_111
            refine sw_sh (ci_sh cq38 t_p1 rfl) ?_
            refine sw_sh (ci_sh cq38 t_p0 rfl) ?_
            obtain ⟨q30, eq30, tq30⟩ := ci_ref cq38 t_p0 3 (κ' := 13) rfl
            refine sw_onS eq30 ?_
            have v322 : mm_R q38 p1 0 = some q34 := ((gq38.2.2 _ _ t_p1 0 rfl).2.trans ((gq36.2.2 _ _ t_p1 0 rfl).2.trans eq34))
            refine sw_onS v322 ?_
            refine sw_sh (ci_sh cq38 tq34 rfl) ?_
            refine sw_on (sX4_fill cq38 tq34 tq30 (by (try simp only [zp] at a291 h292 a293 h294 a313 h314 a315 h316 a320 h321 ⊢) <;> (try simp only [zz, Int32.reduceToInt, ne_eq] at a291 h292 a293 h294 a313 h314 a315 h316 a320 h321 ⊢) <;> (try simp (disch := omega) only [zb] at a291 h292 a293 h294 a313 h314 a315 h316 a320 h321 ⊢) <;> first | omega | ((try simp (disch := omega) only [zb] at a291 h292 a293 h294 a313 h314 a315 h316 a320 h321 ⊢) <;> omega)) (by (try simp only [zp] at a291 h292 a293 h294 a313 h314 a315 h316 a320 h321 ⊢) <;> (try simp only [zz, Int32.reduceToInt, ne_eq] at a291 h292 a293 h294 a313 h314 a315 h316 a320 h321 ⊢) <;> (try simp (disch := omega) only [zb] at a291 h292 a293 h294 a313 h314 a315 h316 a320 h321 ⊢) <;> first | omega | ((try simp (disch := omega) only [zb] at a291 h292 a293 h294 a313 h314 a315 h316 a320 h321 ⊢) <;> omega)) ) ?_
            intro q33 hqq33
            obtain ⟨cq33, gq33, xq33⟩ := hqq33
            have fq33 := fr_trans fq38 gq33 rfl
            exact sw_some ⟨cq33, fq33, trivial⟩
      · unfold fX8_openPage_67
        refine sw_sh (ci_sh cs3 t_p0 rfl) ?_
        refine sw_onS eq5 ?_
        refine sw_ar (ci_sh cs3 tq5 rfl) ?_
        refine sw_ib (by (try simp only [zp] at a291 h292 a293 h294 a313 h314 ⊢) <;> (try simp only [zz, Int32.reduceToInt, ne_eq] at a291 h292 a293 h294 a313 h314 ⊢) <;> (try simp (disch := omega) only [zb] at a291 h292 a293 h294 a313 h314 ⊢) <;> first | omega | ((try simp (disch := omega) only [zb] at a291 h292 a293 h294 a313 h314 ⊢) <;> omega)) ?_
        have a323 := zi_and (mm_I s3 q5 (7 : Int32).toNatClampNeg) 1 (by decide)
        refine sw_ite (fun h324 => ?_) (fun h324 => ?_)
        · unfold fX8_openPage_86
          refine sw_sh (ci_sh cs3 t_p1 rfl) ?_
          have cs25 := ci_wI cs3 t_p1 (j := 5) (v := ((((0 : Int32)) + (2 : Int32)) + (4 : Int32)) + (0 : Int32)) (kr_n rfl)
          have fs25 := fr_wI fs3 t_p1 (j := 5) (v := ((((0 : Int32)) + (2 : Int32)) + (4 : Int32)) + (0 : Int32)) rfl
          refine sw_let (fun s25 es25 => ?_)
          rw [es25] at cs25 fs25
          refine sw_sh (ci_sh cs25 t_p1 rfl) ?_
          have a325 := zi_and (mm_I s25 p1 5) 1 (by decide)
          refine sw_ite (fun h326 => ?_) (fun h326 => ?_)
          · unfold fX8_openPage_111
            refine sw_sh (ci_sh cs25 t_p1 rfl) ?_
            refine sw_sh (ci_sh cs25 t_p0 rfl) ?_
            obtain ⟨q30, eq30, tq30⟩ := ci_ref cs25 t_p0 3 (κ' := 13) rfl
            refine sw_onS eq30 ?_
            obtain ⟨q31, eq31, tq31⟩ := ci_ref cs25 t_p1 0 (κ' := 4) rfl
            refine sw_onS eq31 ?_
            refine sw_sh (ci_sh cs25 tq31 rfl) ?_
            refine sw_on (sX4_fill cs25 tq31 tq30 (by (try simp only [zp] at a291 h292 a293 h294 a313 h314 a323 h324 a325 h326 ⊢) <;> (try simp only [zz, Int32.reduceToInt, ne_eq] at a291 h292 a293 h294 a313 h314 a323 h324 a325 h326 ⊢) <;> (try simp (disch := omega) only [zb] at a291 h292 a293 h294 a313 h314 a323 h324 a325 h326 ⊢) <;> first | omega | ((try simp (disch := omega) only [zb] at a291 h292 a293 h294 a313 h314 a323 h324 a325 h326 ⊢) <;> omega)) (by (try simp only [zp] at a291 h292 a293 h294 a313 h314 a323 h324 a325 h326 ⊢) <;> (try simp only [zz, Int32.reduceToInt, ne_eq] at a291 h292 a293 h294 a313 h314 a323 h324 a325 h326 ⊢) <;> (try simp (disch := omega) only [zb] at a291 h292 a293 h294 a313 h314 a323 h324 a325 h326 ⊢) <;> first | omega | ((try simp (disch := omega) only [zb] at a291 h292 a293 h294 a313 h314 a323 h324 a325 h326 ⊢) <;> omega)) ) ?_
            intro q33 hqq33
            obtain ⟨cq33, gq33, xq33⟩ := hqq33
            have fq33 := fr_trans fs25 gq33 rfl
            exact sw_some ⟨cq33, fq33, trivial⟩
          · obtain ⟨q34, eq34, tq34⟩ := ci_ref cs25 t_p1 0 (κ' := 4) rfl
            refine sw_onS eq34 ?_
            refine sw_sh (ci_sh cs25 tq34 rfl) ?_
            refine sw_on (sX4_eraseRows cs25 tq34 (by (try simp only [zp] at a291 h292 a293 h294 a313 h314 a323 h324 a325 h326 ⊢) <;> (try simp only [zz, Int32.reduceToInt, ne_eq] at a291 h292 a293 h294 a313 h314 a323 h324 a325 h326 ⊢) <;> (try simp (disch := omega) only [zb] at a291 h292 a293 h294 a313 h314 a323 h324 a325 h326 ⊢) <;> first | omega | ((try simp (disch := omega) only [zb] at a291 h292 a293 h294 a313 h314 a323 h324 a325 h326 ⊢) <;> omega)) ) ?_
            intro q36 hqq36
            obtain ⟨cq36, gq36, xq36⟩ := hqq36
            have fq36 := fr_trans fs25 gq36 rfl
            refine sw_sh (ci_sh cq36 t_p1 rfl) ?_
            refine sw_on (sX3_eraseLinks cq36 t_p1  ) ?_
            intro q38 hqq38
            obtain ⟨cq38, gq38, xq38⟩ := hqq38
            have fq38 := fr_trans fq36 gq38 rfl
            unfold fX8_openPage_111
            refine sw_sh (ci_sh cq38 t_p1 rfl) ?_
            refine sw_sh (ci_sh cq38 t_p0 rfl) ?_
            obtain ⟨q30, eq30, tq30⟩ := ci_ref cq38 t_p0 3 (κ' := 13) rfl
            refine sw_onS eq30 ?_
            have v327 : mm_R q38 p1 0 = some q34 := ((gq38.2.2 _ _ t_p1 0 rfl).2.trans ((gq36.2.2 _ _ t_p1 0 rfl).2.trans eq34))
            refine sw_onS v327 ?_
            refine sw_sh (ci_sh cq38 tq34 rfl) ?_
            refine sw_on (sX4_fill cq38 tq34 tq30 (by (try simp only [zp] at a291 h292 a293 h294 a313 h314 a323 h324 a325 h326 ⊢) <;> (try simp only [zz, Int32.reduceToInt, ne_eq] at a291 h292 a293 h294 a313 h314 a323 h324 a325 h326 ⊢) <;> (try simp (disch := omega) only [zb] at a291 h292 a293 h294 a313 h314 a323 h324 a325 h326 ⊢) <;> first | omega | ((try simp (disch := omega) only [zb] at a291 h292 a293 h294 a313 h314 a323 h324 a325 h326 ⊢) <;> omega)) (by (try simp only [zp] at a291 h292 a293 h294 a313 h314 a323 h324 a325 h326 ⊢) <;> (try simp only [zz, Int32.reduceToInt, ne_eq] at a291 h292 a293 h294 a313 h314 a323 h324 a325 h326 ⊢) <;> (try simp (disch := omega) only [zb] at a291 h292 a293 h294 a313 h314 a323 h324 a325 h326 ⊢) <;> first | omega | ((try simp (disch := omega) only [zb] at a291 h292 a293 h294 a313 h314 a323 h324 a325 h326 ⊢) <;> omega)) ) ?_
            intro q33 hqq33
            obtain ⟨cq33, gq33, xq33⟩ := hqq33
            have fq33 := fr_trans fq38 gq33 rfl
            exact sw_some ⟨cq33, fq33, trivial⟩
        · unfold fX8_openPage_86
          refine sw_sh (ci_sh cs3 t_p1 rfl) ?_
          have cs25 := ci_wI cs3 t_p1 (j := 5) (v := ((((0 : Int32)) + (2 : Int32)) + (4 : Int32)) + (8 : Int32)) (kr_n rfl)
          have fs25 := fr_wI fs3 t_p1 (j := 5) (v := ((((0 : Int32)) + (2 : Int32)) + (4 : Int32)) + (8 : Int32)) rfl
          refine sw_let (fun s25 es25 => ?_)
          rw [es25] at cs25 fs25
          refine sw_sh (ci_sh cs25 t_p1 rfl) ?_
          have a328 := zi_and (mm_I s25 p1 5) 1 (by decide)
          refine sw_ite (fun h329 => ?_) (fun h329 => ?_)
          · unfold fX8_openPage_111
            refine sw_sh (ci_sh cs25 t_p1 rfl) ?_
            refine sw_sh (ci_sh cs25 t_p0 rfl) ?_
            obtain ⟨q30, eq30, tq30⟩ := ci_ref cs25 t_p0 3 (κ' := 13) rfl
            refine sw_onS eq30 ?_
            obtain ⟨q31, eq31, tq31⟩ := ci_ref cs25 t_p1 0 (κ' := 4) rfl
            refine sw_onS eq31 ?_
            refine sw_sh (ci_sh cs25 tq31 rfl) ?_
            refine sw_on (sX4_fill cs25 tq31 tq30 (by (try simp only [zp] at a291 h292 a293 h294 a313 h314 a323 h324 a328 h329 ⊢) <;> (try simp only [zz, Int32.reduceToInt, ne_eq] at a291 h292 a293 h294 a313 h314 a323 h324 a328 h329 ⊢) <;> (try simp (disch := omega) only [zb] at a291 h292 a293 h294 a313 h314 a323 h324 a328 h329 ⊢) <;> first | omega | ((try simp (disch := omega) only [zb] at a291 h292 a293 h294 a313 h314 a323 h324 a328 h329 ⊢) <;> omega)) (by (try simp only [zp] at a291 h292 a293 h294 a313 h314 a323 h324 a328 h329 ⊢) <;> (try simp only [zz, Int32.reduceToInt, ne_eq] at a291 h292 a293 h294 a313 h314 a323 h324 a328 h329 ⊢) <;> (try simp (disch := omega) only [zb] at a291 h292 a293 h294 a313 h314 a323 h324 a328 h329 ⊢) <;> first | omega | ((try simp (disch := omega) only [zb] at a291 h292 a293 h294 a313 h314 a323 h324 a328 h329 ⊢) <;> omega)) ) ?_
            intro q33 hqq33
            obtain ⟨cq33, gq33, xq33⟩ := hqq33
            have fq33 := fr_trans fs25 gq33 rfl
            exact sw_some ⟨cq33, fq33, trivial⟩
          · obtain ⟨q34, eq34, tq34⟩ := ci_ref cs25 t_p1 0 (κ' := 4) rfl
            refine sw_onS eq34 ?_
            refine sw_sh (ci_sh cs25 tq34 rfl) ?_
            refine sw_on (sX4_eraseRows cs25 tq34 (by (try simp only [zp] at a291 h292 a293 h294 a313 h314 a323 h324 a328 h329 ⊢) <;> (try simp only [zz, Int32.reduceToInt, ne_eq] at a291 h292 a293 h294 a313 h314 a323 h324 a328 h329 ⊢) <;> (try simp (disch := omega) only [zb] at a291 h292 a293 h294 a313 h314 a323 h324 a328 h329 ⊢) <;> first | omega | ((try simp (disch := omega) only [zb] at a291 h292 a293 h294 a313 h314 a323 h324 a328 h329 ⊢) <;> omega)) ) ?_
            intro q36 hqq36
            obtain ⟨cq36, gq36, xq36⟩ := hqq36
            have fq36 := fr_trans fs25 gq36 rfl
            refine sw_sh (ci_sh cq36 t_p1 rfl) ?_
            refine sw_on (sX3_eraseLinks cq36 t_p1  ) ?_
            intro q38 hqq38
            obtain ⟨cq38, gq38, xq38⟩ := hqq38
            have fq38 := fr_trans fq36 gq38 rfl
            unfold fX8_openPage_111
            refine sw_sh (ci_sh cq38 t_p1 rfl) ?_
            refine sw_sh (ci_sh cq38 t_p0 rfl) ?_
            obtain ⟨q30, eq30, tq30⟩ := ci_ref cq38 t_p0 3 (κ' := 13) rfl
            refine sw_onS eq30 ?_
            have v330 : mm_R q38 p1 0 = some q34 := ((gq38.2.2 _ _ t_p1 0 rfl).2.trans ((gq36.2.2 _ _ t_p1 0 rfl).2.trans eq34))
            refine sw_onS v330 ?_
            refine sw_sh (ci_sh cq38 tq34 rfl) ?_
            refine sw_on (sX4_fill cq38 tq34 tq30 (by (try simp only [zp] at a291 h292 a293 h294 a313 h314 a323 h324 a328 h329 ⊢) <;> (try simp only [zz, Int32.reduceToInt, ne_eq] at a291 h292 a293 h294 a313 h314 a323 h324 a328 h329 ⊢) <;> (try simp (disch := omega) only [zb] at a291 h292 a293 h294 a313 h314 a323 h324 a328 h329 ⊢) <;> first | omega | ((try simp (disch := omega) only [zb] at a291 h292 a293 h294 a313 h314 a323 h324 a328 h329 ⊢) <;> omega)) (by (try simp only [zp] at a291 h292 a293 h294 a313 h314 a323 h324 a328 h329 ⊢) <;> (try simp only [zz, Int32.reduceToInt, ne_eq] at a291 h292 a293 h294 a313 h314 a323 h324 a328 h329 ⊢) <;> (try simp (disch := omega) only [zb] at a291 h292 a293 h294 a313 h314 a323 h324 a328 h329 ⊢) <;> first | omega | ((try simp (disch := omega) only [zb] at a291 h292 a293 h294 a313 h314 a323 h324 a328 h329 ⊢) <;> omega)) ) ?_
            intro q33 hqq33
            obtain ⟨cq33, gq33, xq33⟩ := hqq33
            have fq33 := fr_trans fq38 gq33 rfl
            exact sw_some ⟨cq33, fq33, trivial⟩
  · unfold fX8_openPage_33
    refine sw_sh (ci_sh cs3 t_p0 rfl) ?_
    refine sw_onS eq5 ?_
    refine sw_ar (ci_sh cs3 tq5 rfl) ?_
    refine sw_ib (by (try simp only [zp] at a291 h292 ⊢) <;> (try simp only [zz, Int32.reduceToInt, ne_eq] at a291 h292 ⊢) <;> (try simp (disch := omega) only [zb] at a291 h292 ⊢) <;> first | omega | ((try simp (disch := omega) only [zb] at a291 h292 ⊢) <;> omega)) ?_
    have a331 := zi_and (mm_I s3 q5 (5 : Int32).toNatClampNeg) 4 (by decide)
    refine sw_ite (fun h332 => ?_) (fun h332 => ?_)
    · unfold fX8_openPage_49
      refine sw_sh (ci_sh cs3 t_p0 rfl) ?_
      refine sw_onS eq5 ?_
      refine sw_ar (ci_sh cs3 tq5 rfl) ?_
      refine sw_ib (by (try simp only [zp] at a291 h292 a331 h332 ⊢) <;> (try simp only [zz, Int32.reduceToInt, ne_eq] at a291 h292 a331 h332 ⊢) <;> (try simp (disch := omega) only [zb] at a291 h292 a331 h332 ⊢) <;> first | omega | ((try simp (disch := omega) only [zb] at a291 h292 a331 h332 ⊢) <;> omega)) ?_
      have a333 := zi_and (mm_I s3 q5 (5 : Int32).toNatClampNeg) 8 (by decide)
      refine sw_ite (fun h334 => ?_) (fun h334 => ?_)
      · unfold fX8_openPage_67
        refine sw_sh (ci_sh cs3 t_p0 rfl) ?_
        refine sw_onS eq5 ?_
        refine sw_ar (ci_sh cs3 tq5 rfl) ?_
        refine sw_ib (by (try simp only [zp] at a291 h292 a331 h332 a333 h334 ⊢) <;> (try simp only [zz, Int32.reduceToInt, ne_eq] at a291 h292 a331 h332 a333 h334 ⊢) <;> (try simp (disch := omega) only [zb] at a291 h292 a331 h332 a333 h334 ⊢) <;> first | omega | ((try simp (disch := omega) only [zb] at a291 h292 a331 h332 a333 h334 ⊢) <;> omega)) ?_
        have a335 := zi_and (mm_I s3 q5 (7 : Int32).toNatClampNeg) 1 (by decide)
        refine sw_ite (fun h336 => ?_) (fun h336 => ?_)
        · unfold fX8_openPage_86
          refine sw_sh (ci_sh cs3 t_p1 rfl) ?_
          have cs25 := ci_wI cs3 t_p1 (j := 5) (v := ((((1 : Int32)) + (0 : Int32)) + (0 : Int32)) + (0 : Int32)) (kr_n rfl)
          have fs25 := fr_wI fs3 t_p1 (j := 5) (v := ((((1 : Int32)) + (0 : Int32)) + (0 : Int32)) + (0 : Int32)) rfl
          refine sw_let (fun s25 es25 => ?_)
          rw [es25] at cs25 fs25
          refine sw_sh (ci_sh cs25 t_p1 rfl) ?_
          have a337 := zi_and (mm_I s25 p1 5) 1 (by decide)
          refine sw_ite (fun h338 => ?_) (fun h338 => ?_)
          · unfold fX8_openPage_111
            refine sw_sh (ci_sh cs25 t_p1 rfl) ?_
            refine sw_sh (ci_sh cs25 t_p0 rfl) ?_
            obtain ⟨q30, eq30, tq30⟩ := ci_ref cs25 t_p0 3 (κ' := 13) rfl
            refine sw_onS eq30 ?_
            obtain ⟨q31, eq31, tq31⟩ := ci_ref cs25 t_p1 0 (κ' := 4) rfl
            refine sw_onS eq31 ?_
            refine sw_sh (ci_sh cs25 tq31 rfl) ?_
            refine sw_on (sX4_fill cs25 tq31 tq30 (by (try simp only [zp] at a291 h292 a331 h332 a333 h334 a335 h336 a337 h338 ⊢) <;> (try simp only [zz, Int32.reduceToInt, ne_eq] at a291 h292 a331 h332 a333 h334 a335 h336 a337 h338 ⊢) <;> (try simp (disch := omega) only [zb] at a291 h292 a331 h332 a333 h334 a335 h336 a337 h338 ⊢) <;> first | omega | ((try simp (disch := omega) only [zb] at a291 h292 a331 h332 a333 h334 a335 h336 a337 h338 ⊢) <;> omega)) (by (try simp only [zp] at a291 h292 a331 h332 a333 h334 a335 h336 a337 h338 ⊢) <;> (try simp only [zz, Int32.reduceToInt, ne_eq] at a291 h292 a331 h332 a333 h334 a335 h336 a337 h338 ⊢) <;> (try simp (disch := omega) only [zb] at a291 h292 a331 h332 a333 h334 a335 h336 a337 h338 ⊢) <;> first | omega | ((try simp (disch := omega) only [zb] at a291 h292 a331 h332 a333 h334 a335 h336 a337 h338 ⊢) <;> omega)) ) ?_
            intro q33 hqq33
            obtain ⟨cq33, gq33, xq33⟩ := hqq33
            have fq33 := fr_trans fs25 gq33 rfl
            exact sw_some ⟨cq33, fq33, trivial⟩
          · obtain ⟨q34, eq34, tq34⟩ := ci_ref cs25 t_p1 0 (κ' := 4) rfl
            refine sw_onS eq34 ?_
            refine sw_sh (ci_sh cs25 tq34 rfl) ?_
            refine sw_on (sX4_eraseRows cs25 tq34 (by (try simp only [zp] at a291 h292 a331 h332 a333 h334 a335 h336 a337 h338 ⊢) <;> (try simp only [zz, Int32.reduceToInt, ne_eq] at a291 h292 a331 h332 a333 h334 a335 h336 a337 h338 ⊢) <;> (try simp (disch := omega) only [zb] at a291 h292 a331 h332 a333 h334 a335 h336 a337 h338 ⊢) <;> first | omega | ((try simp (disch := omega) only [zb] at a291 h292 a331 h332 a333 h334 a335 h336 a337 h338 ⊢) <;> omega)) ) ?_
            intro q36 hqq36
            obtain ⟨cq36, gq36, xq36⟩ := hqq36
            have fq36 := fr_trans fs25 gq36 rfl
            refine sw_sh (ci_sh cq36 t_p1 rfl) ?_
            refine sw_on (sX3_eraseLinks cq36 t_p1  ) ?_
            intro q38 hqq38
            obtain ⟨cq38, gq38, xq38⟩ := hqq38
            have fq38 := fr_trans fq36 gq38 rfl
            unfold fX8_openPage_111
            refine sw_sh (ci_sh cq38 t_p1 rfl) ?_
            refine sw_sh (ci_sh cq38 t_p0 rfl) ?_
            obtain ⟨q30, eq30, tq30⟩ := ci_ref cq38 t_p0 3 (κ' := 13) rfl
            refine sw_onS eq30 ?_
            have v339 : mm_R q38 p1 0 = some q34 := ((gq38.2.2 _ _ t_p1 0 rfl).2.trans ((gq36.2.2 _ _ t_p1 0 rfl).2.trans eq34))
            refine sw_onS v339 ?_
            refine sw_sh (ci_sh cq38 tq34 rfl) ?_
            refine sw_on (sX4_fill cq38 tq34 tq30 (by (try simp only [zp] at a291 h292 a331 h332 a333 h334 a335 h336 a337 h338 ⊢) <;> (try simp only [zz, Int32.reduceToInt, ne_eq] at a291 h292 a331 h332 a333 h334 a335 h336 a337 h338 ⊢) <;> (try simp (disch := omega) only [zb] at a291 h292 a331 h332 a333 h334 a335 h336 a337 h338 ⊢) <;> first | omega | ((try simp (disch := omega) only [zb] at a291 h292 a331 h332 a333 h334 a335 h336 a337 h338 ⊢) <;> omega)) (by (try simp only [zp] at a291 h292 a331 h332 a333 h334 a335 h336 a337 h338 ⊢) <;> (try simp only [zz, Int32.reduceToInt, ne_eq] at a291 h292 a331 h332 a333 h334 a335 h336 a337 h338 ⊢) <;> (try simp (disch := omega) only [zb] at a291 h292 a331 h332 a333 h334 a335 h336 a337 h338 ⊢) <;> first | omega | ((try simp (disch := omega) only [zb] at a291 h292 a331 h332 a333 h334 a335 h336 a337 h338 ⊢) <;> omega)) ) ?_
            intro q33 hqq33
            obtain ⟨cq33, gq33, xq33⟩ := hqq33
            have fq33 := fr_trans fq38 gq33 rfl
            exact sw_some ⟨cq33, fq33, trivial⟩
        · unfold fX8_openPage_86
          refine sw_sh (ci_sh cs3 t_p1 rfl) ?_
          have cs25 := ci_wI cs3 t_p1 (j := 5) (v := ((((1 : Int32)) + (0 : Int32)) + (0 : Int32)) + (8 : Int32)) (kr_n rfl)
          have fs25 := fr_wI fs3 t_p1 (j := 5) (v := ((((1 : Int32)) + (0 : Int32)) + (0 : Int32)) + (8 : Int32)) rfl
          refine sw_let (fun s25 es25 => ?_)
          rw [es25] at cs25 fs25
          refine sw_sh (ci_sh cs25 t_p1 rfl) ?_
          have a340 := zi_and (mm_I s25 p1 5) 1 (by decide)
          refine sw_ite (fun h341 => ?_) (fun h341 => ?_)
          · unfold fX8_openPage_111
            refine sw_sh (ci_sh cs25 t_p1 rfl) ?_
            refine sw_sh (ci_sh cs25 t_p0 rfl) ?_
            obtain ⟨q30, eq30, tq30⟩ := ci_ref cs25 t_p0 3 (κ' := 13) rfl
            refine sw_onS eq30 ?_
            obtain ⟨q31, eq31, tq31⟩ := ci_ref cs25 t_p1 0 (κ' := 4) rfl
            refine sw_onS eq31 ?_
            refine sw_sh (ci_sh cs25 tq31 rfl) ?_
            refine sw_on (sX4_fill cs25 tq31 tq30 (by (try simp only [zp] at a291 h292 a331 h332 a333 h334 a335 h336 a340 h341 ⊢) <;> (try simp only [zz, Int32.reduceToInt, ne_eq] at a291 h292 a331 h332 a333 h334 a335 h336 a340 h341 ⊢) <;> (try simp (disch := omega) only [zb] at a291 h292 a331 h332 a333 h334 a335 h336 a340 h341 ⊢) <;> first | omega | ((try simp (disch := omega) only [zb] at a291 h292 a331 h332 a333 h334 a335 h336 a340 h341 ⊢) <;> omega)) (by (try simp only [zp] at a291 h292 a331 h332 a333 h334 a335 h336 a340 h341 ⊢) <;> (try simp only [zz, Int32.reduceToInt, ne_eq] at a291 h292 a331 h332 a333 h334 a335 h336 a340 h341 ⊢) <;> (try simp (disch := omega) only [zb] at a291 h292 a331 h332 a333 h334 a335 h336 a340 h341 ⊢) <;> first | omega | ((try simp (disch := omega) only [zb] at a291 h292 a331 h332 a333 h334 a335 h336 a340 h341 ⊢) <;> omega)) ) ?_
            intro q33 hqq33
            obtain ⟨cq33, gq33, xq33⟩ := hqq33
            have fq33 := fr_trans fs25 gq33 rfl
            exact sw_some ⟨cq33, fq33, trivial⟩
          · obtain ⟨q34, eq34, tq34⟩ := ci_ref cs25 t_p1 0 (κ' := 4) rfl
            refine sw_onS eq34 ?_
            refine sw_sh (ci_sh cs25 tq34 rfl) ?_
            refine sw_on (sX4_eraseRows cs25 tq34 (by (try simp only [zp] at a291 h292 a331 h332 a333 h334 a335 h336 a340 h341 ⊢) <;> (try simp only [zz, Int32.reduceToInt, ne_eq] at a291 h292 a331 h332 a333 h334 a335 h336 a340 h341 ⊢) <;> (try simp (disch := omega) only [zb] at a291 h292 a331 h332 a333 h334 a335 h336 a340 h341 ⊢) <;> first | omega | ((try simp (disch := omega) only [zb] at a291 h292 a331 h332 a333 h334 a335 h336 a340 h341 ⊢) <;> omega)) ) ?_
            intro q36 hqq36
            obtain ⟨cq36, gq36, xq36⟩ := hqq36
            have fq36 := fr_trans fs25 gq36 rfl
            refine sw_sh (ci_sh cq36 t_p1 rfl) ?_
            refine sw_on (sX3_eraseLinks cq36 t_p1  ) ?_
            intro q38 hqq38
            obtain ⟨cq38, gq38, xq38⟩ := hqq38
            have fq38 := fr_trans fq36 gq38 rfl
            unfold fX8_openPage_111
            refine sw_sh (ci_sh cq38 t_p1 rfl) ?_
            refine sw_sh (ci_sh cq38 t_p0 rfl) ?_
            obtain ⟨q30, eq30, tq30⟩ := ci_ref cq38 t_p0 3 (κ' := 13) rfl
            refine sw_onS eq30 ?_
            have v342 : mm_R q38 p1 0 = some q34 := ((gq38.2.2 _ _ t_p1 0 rfl).2.trans ((gq36.2.2 _ _ t_p1 0 rfl).2.trans eq34))
            refine sw_onS v342 ?_
            refine sw_sh (ci_sh cq38 tq34 rfl) ?_
            refine sw_on (sX4_fill cq38 tq34 tq30 (by (try simp only [zp] at a291 h292 a331 h332 a333 h334 a335 h336 a340 h341 ⊢) <;> (try simp only [zz, Int32.reduceToInt, ne_eq] at a291 h292 a331 h332 a333 h334 a335 h336 a340 h341 ⊢) <;> (try simp (disch := omega) only [zb] at a291 h292 a331 h332 a333 h334 a335 h336 a340 h341 ⊢) <;> first | omega | ((try simp (disch := omega) only [zb] at a291 h292 a331 h332 a333 h334 a335 h336 a340 h341 ⊢) <;> omega)) (by (try simp only [zp] at a291 h292 a331 h332 a333 h334 a335 h336 a340 h341 ⊢) <;> (try simp only [zz, Int32.reduceToInt, ne_eq] at a291 h292 a331 h332 a333 h334 a335 h336 a340 h341 ⊢) <;> (try simp (disch := omega) only [zb] at a291 h292 a331 h332 a333 h334 a335 h336 a340 h341 ⊢) <;> first | omega | ((try simp (disch := omega) only [zb] at a291 h292 a331 h332 a333 h334 a335 h336 a340 h341 ⊢) <;> omega)) ) ?_
            intro q33 hqq33
            obtain ⟨cq33, gq33, xq33⟩ := hqq33
            have fq33 := fr_trans fq38 gq33 rfl
            exact sw_some ⟨cq33, fq33, trivial⟩
      · unfold fX8_openPage_67
        refine sw_sh (ci_sh cs3 t_p0 rfl) ?_
        refine sw_onS eq5 ?_
        refine sw_ar (ci_sh cs3 tq5 rfl) ?_
        refine sw_ib (by (try simp only [zp] at a291 h292 a331 h332 a333 h334 ⊢) <;> (try simp only [zz, Int32.reduceToInt, ne_eq] at a291 h292 a331 h332 a333 h334 ⊢) <;> (try simp (disch := omega) only [zb] at a291 h292 a331 h332 a333 h334 ⊢) <;> first | omega | ((try simp (disch := omega) only [zb] at a291 h292 a331 h332 a333 h334 ⊢) <;> omega)) ?_
        have a343 := zi_and (mm_I s3 q5 (7 : Int32).toNatClampNeg) 1 (by decide)
        refine sw_ite (fun h344 => ?_) (fun h344 => ?_)
        · unfold fX8_openPage_86
          refine sw_sh (ci_sh cs3 t_p1 rfl) ?_
          have cs25 := ci_wI cs3 t_p1 (j := 5) (v := ((((1 : Int32)) + (0 : Int32)) + (4 : Int32)) + (0 : Int32)) (kr_n rfl)
          have fs25 := fr_wI fs3 t_p1 (j := 5) (v := ((((1 : Int32)) + (0 : Int32)) + (4 : Int32)) + (0 : Int32)) rfl
          refine sw_let (fun s25 es25 => ?_)
          rw [es25] at cs25 fs25
          refine sw_sh (ci_sh cs25 t_p1 rfl) ?_
          have a345 := zi_and (mm_I s25 p1 5) 1 (by decide)
          refine sw_ite (fun h346 => ?_) (fun h346 => ?_)
          · unfold fX8_openPage_111
            refine sw_sh (ci_sh cs25 t_p1 rfl) ?_
            refine sw_sh (ci_sh cs25 t_p0 rfl) ?_
            obtain ⟨q30, eq30, tq30⟩ := ci_ref cs25 t_p0 3 (κ' := 13) rfl
            refine sw_onS eq30 ?_
            obtain ⟨q31, eq31, tq31⟩ := ci_ref cs25 t_p1 0 (κ' := 4) rfl
            refine sw_onS eq31 ?_
            refine sw_sh (ci_sh cs25 tq31 rfl) ?_
            refine sw_on (sX4_fill cs25 tq31 tq30 (by (try simp only [zp] at a291 h292 a331 h332 a333 h334 a343 h344 a345 h346 ⊢) <;> (try simp only [zz, Int32.reduceToInt, ne_eq] at a291 h292 a331 h332 a333 h334 a343 h344 a345 h346 ⊢) <;> (try simp (disch := omega) only [zb] at a291 h292 a331 h332 a333 h334 a343 h344 a345 h346 ⊢) <;> first | omega | ((try simp (disch := omega) only [zb] at a291 h292 a331 h332 a333 h334 a343 h344 a345 h346 ⊢) <;> omega)) (by (try simp only [zp] at a291 h292 a331 h332 a333 h334 a343 h344 a345 h346 ⊢) <;> (try simp only [zz, Int32.reduceToInt, ne_eq] at a291 h292 a331 h332 a333 h334 a343 h344 a345 h346 ⊢) <;> (try simp (disch := omega) only [zb] at a291 h292 a331 h332 a333 h334 a343 h344 a345 h346 ⊢) <;> first | omega | ((try simp (disch := omega) only [zb] at a291 h292 a331 h332 a333 h334 a343 h344 a345 h346 ⊢) <;> omega)) ) ?_
            intro q33 hqq33
            obtain ⟨cq33, gq33, xq33⟩ := hqq33
            have fq33 := fr_trans fs25 gq33 rfl
            exact sw_some ⟨cq33, fq33, trivial⟩
          · obtain ⟨q34, eq34, tq34⟩ := ci_ref cs25 t_p1 0 (κ' := 4) rfl
            refine sw_onS eq34 ?_
            refine sw_sh (ci_sh cs25 tq34 rfl) ?_
            refine sw_on (sX4_eraseRows cs25 tq34 (by (try simp only [zp] at a291 h292 a331 h332 a333 h334 a343 h344 a345 h346 ⊢) <;> (try simp only [zz, Int32.reduceToInt, ne_eq] at a291 h292 a331 h332 a333 h334 a343 h344 a345 h346 ⊢) <;> (try simp (disch := omega) only [zb] at a291 h292 a331 h332 a333 h334 a343 h344 a345 h346 ⊢) <;> first | omega | ((try simp (disch := omega) only [zb] at a291 h292 a331 h332 a333 h334 a343 h344 a345 h346 ⊢) <;> omega)) ) ?_
            intro q36 hqq36
            obtain ⟨cq36, gq36, xq36⟩ := hqq36
            have fq36 := fr_trans fs25 gq36 rfl
            refine sw_sh (ci_sh cq36 t_p1 rfl) ?_
            refine sw_on (sX3_eraseLinks cq36 t_p1  ) ?_
            intro q38 hqq38
            obtain ⟨cq38, gq38, xq38⟩ := hqq38
            have fq38 := fr_trans fq36 gq38 rfl
            unfold fX8_openPage_111
            refine sw_sh (ci_sh cq38 t_p1 rfl) ?_
            refine sw_sh (ci_sh cq38 t_p0 rfl) ?_
            obtain ⟨q30, eq30, tq30⟩ := ci_ref cq38 t_p0 3 (κ' := 13) rfl
            refine sw_onS eq30 ?_
            have v347 : mm_R q38 p1 0 = some q34 := ((gq38.2.2 _ _ t_p1 0 rfl).2.trans ((gq36.2.2 _ _ t_p1 0 rfl).2.trans eq34))
            refine sw_onS v347 ?_
            refine sw_sh (ci_sh cq38 tq34 rfl) ?_
            refine sw_on (sX4_fill cq38 tq34 tq30 (by (try simp only [zp] at a291 h292 a331 h332 a333 h334 a343 h344 a345 h346 ⊢) <;> (try simp only [zz, Int32.reduceToInt, ne_eq] at a291 h292 a331 h332 a333 h334 a343 h344 a345 h346 ⊢) <;> (try simp (disch := omega) only [zb] at a291 h292 a331 h332 a333 h334 a343 h344 a345 h346 ⊢) <;> first | omega | ((try simp (disch := omega) only [zb] at a291 h292 a331 h332 a333 h334 a343 h344 a345 h346 ⊢) <;> omega)) (by (try simp only [zp] at a291 h292 a331 h332 a333 h334 a343 h344 a345 h346 ⊢) <;> (try simp only [zz, Int32.reduceToInt, ne_eq] at a291 h292 a331 h332 a333 h334 a343 h344 a345 h346 ⊢) <;> (try simp (disch := omega) only [zb] at a291 h292 a331 h332 a333 h334 a343 h344 a345 h346 ⊢) <;> first | omega | ((try simp (disch := omega) only [zb] at a291 h292 a331 h332 a333 h334 a343 h344 a345 h346 ⊢) <;> omega)) ) ?_
            intro q33 hqq33
            obtain ⟨cq33, gq33, xq33⟩ := hqq33
            have fq33 := fr_trans fq38 gq33 rfl
            exact sw_some ⟨cq33, fq33, trivial⟩
        · unfold fX8_openPage_86
          refine sw_sh (ci_sh cs3 t_p1 rfl) ?_
          have cs25 := ci_wI cs3 t_p1 (j := 5) (v := ((((1 : Int32)) + (0 : Int32)) + (4 : Int32)) + (8 : Int32)) (kr_n rfl)
          have fs25 := fr_wI fs3 t_p1 (j := 5) (v := ((((1 : Int32)) + (0 : Int32)) + (4 : Int32)) + (8 : Int32)) rfl
          refine sw_let (fun s25 es25 => ?_)
          rw [es25] at cs25 fs25
          refine sw_sh (ci_sh cs25 t_p1 rfl) ?_
          have a348 := zi_and (mm_I s25 p1 5) 1 (by decide)
          refine sw_ite (fun h349 => ?_) (fun h349 => ?_)
          · unfold fX8_openPage_111
            refine sw_sh (ci_sh cs25 t_p1 rfl) ?_
            refine sw_sh (ci_sh cs25 t_p0 rfl) ?_
            obtain ⟨q30, eq30, tq30⟩ := ci_ref cs25 t_p0 3 (κ' := 13) rfl
            refine sw_onS eq30 ?_
            obtain ⟨q31, eq31, tq31⟩ := ci_ref cs25 t_p1 0 (κ' := 4) rfl
            refine sw_onS eq31 ?_
            refine sw_sh (ci_sh cs25 tq31 rfl) ?_
            refine sw_on (sX4_fill cs25 tq31 tq30 (by (try simp only [zp] at a291 h292 a331 h332 a333 h334 a343 h344 a348 h349 ⊢) <;> (try simp only [zz, Int32.reduceToInt, ne_eq] at a291 h292 a331 h332 a333 h334 a343 h344 a348 h349 ⊢) <;> (try simp (disch := omega) only [zb] at a291 h292 a331 h332 a333 h334 a343 h344 a348 h349 ⊢) <;> first | omega | ((try simp (disch := omega) only [zb] at a291 h292 a331 h332 a333 h334 a343 h344 a348 h349 ⊢) <;> omega)) (by (try simp only [zp] at a291 h292 a331 h332 a333 h334 a343 h344 a348 h349 ⊢) <;> (try simp only [zz, Int32.reduceToInt, ne_eq] at a291 h292 a331 h332 a333 h334 a343 h344 a348 h349 ⊢) <;> (try simp (disch := omega) only [zb] at a291 h292 a331 h332 a333 h334 a343 h344 a348 h349 ⊢) <;> first | omega | ((try simp (disch := omega) only [zb] at a291 h292 a331 h332 a333 h334 a343 h344 a348 h349 ⊢) <;> omega)) ) ?_
            intro q33 hqq33
            obtain ⟨cq33, gq33, xq33⟩ := hqq33
            have fq33 := fr_trans fs25 gq33 rfl
            exact sw_some ⟨cq33, fq33, trivial⟩
          · obtain ⟨q34, eq34, tq34⟩ := ci_ref cs25 t_p1 0 (κ' := 4) rfl
            refine sw_onS eq34 ?_
            refine sw_sh (ci_sh cs25 tq34 rfl) ?_
            refine sw_on (sX4_eraseRows cs25 tq34 (by (try simp only [zp] at a291 h292 a331 h332 a333 h334 a343 h344 a348 h349 ⊢) <;> (try simp only [zz, Int32.reduceToInt, ne_eq] at a291 h292 a331 h332 a333 h334 a343 h344 a348 h349 ⊢) <;> (try simp (disch := omega) only [zb] at a291 h292 a331 h332 a333 h334 a343 h344 a348 h349 ⊢) <;> first | omega | ((try simp (disch := omega) only [zb] at a291 h292 a331 h332 a333 h334 a343 h344 a348 h349 ⊢) <;> omega)) ) ?_
            intro q36 hqq36
            obtain ⟨cq36, gq36, xq36⟩ := hqq36
            have fq36 := fr_trans fs25 gq36 rfl
            refine sw_sh (ci_sh cq36 t_p1 rfl) ?_
            refine sw_on (sX3_eraseLinks cq36 t_p1  ) ?_
            intro q38 hqq38
            obtain ⟨cq38, gq38, xq38⟩ := hqq38
            have fq38 := fr_trans fq36 gq38 rfl
            unfold fX8_openPage_111
            refine sw_sh (ci_sh cq38 t_p1 rfl) ?_
            refine sw_sh (ci_sh cq38 t_p0 rfl) ?_
            obtain ⟨q30, eq30, tq30⟩ := ci_ref cq38 t_p0 3 (κ' := 13) rfl
            refine sw_onS eq30 ?_
            have v350 : mm_R q38 p1 0 = some q34 := ((gq38.2.2 _ _ t_p1 0 rfl).2.trans ((gq36.2.2 _ _ t_p1 0 rfl).2.trans eq34))
            refine sw_onS v350 ?_
            refine sw_sh (ci_sh cq38 tq34 rfl) ?_
            refine sw_on (sX4_fill cq38 tq34 tq30 (by (try simp only [zp] at a291 h292 a331 h332 a333 h334 a343 h344 a348 h349 ⊢) <;> (try simp only [zz, Int32.reduceToInt, ne_eq] at a291 h292 a331 h332 a333 h334 a343 h344 a348 h349 ⊢) <;> (try simp (disch := omega) only [zb] at a291 h292 a331 h332 a333 h334 a343 h344 a348 h349 ⊢) <;> first | omega | ((try simp (disch := omega) only [zb] at a291 h292 a331 h332 a333 h334 a343 h344 a348 h349 ⊢) <;> omega)) (by (try simp only [zp] at a291 h292 a331 h332 a333 h334 a343 h344 a348 h349 ⊢) <;> (try simp only [zz, Int32.reduceToInt, ne_eq] at a291 h292 a331 h332 a333 h334 a343 h344 a348 h349 ⊢) <;> (try simp (disch := omega) only [zb] at a291 h292 a331 h332 a333 h334 a343 h344 a348 h349 ⊢) <;> first | omega | ((try simp (disch := omega) only [zb] at a291 h292 a331 h332 a333 h334 a343 h344 a348 h349 ⊢) <;> omega)) ) ?_
            intro q33 hqq33
            obtain ⟨cq33, gq33, xq33⟩ := hqq33
            have fq33 := fr_trans fq38 gq33 rfl
            exact sw_some ⟨cq33, fq33, trivial⟩
    · unfold fX8_openPage_49
      refine sw_sh (ci_sh cs3 t_p0 rfl) ?_
      refine sw_onS eq5 ?_
      refine sw_ar (ci_sh cs3 tq5 rfl) ?_
      refine sw_ib (by (try simp only [zp] at a291 h292 a331 h332 ⊢) <;> (try simp only [zz, Int32.reduceToInt, ne_eq] at a291 h292 a331 h332 ⊢) <;> (try simp (disch := omega) only [zb] at a291 h292 a331 h332 ⊢) <;> first | omega | ((try simp (disch := omega) only [zb] at a291 h292 a331 h332 ⊢) <;> omega)) ?_
      have a351 := zi_and (mm_I s3 q5 (5 : Int32).toNatClampNeg) 8 (by decide)
      refine sw_ite (fun h352 => ?_) (fun h352 => ?_)
      · unfold fX8_openPage_67
        refine sw_sh (ci_sh cs3 t_p0 rfl) ?_
        refine sw_onS eq5 ?_
        refine sw_ar (ci_sh cs3 tq5 rfl) ?_
        refine sw_ib (by (try simp only [zp] at a291 h292 a331 h332 a351 h352 ⊢) <;> (try simp only [zz, Int32.reduceToInt, ne_eq] at a291 h292 a331 h332 a351 h352 ⊢) <;> (try simp (disch := omega) only [zb] at a291 h292 a331 h332 a351 h352 ⊢) <;> first | omega | ((try simp (disch := omega) only [zb] at a291 h292 a331 h332 a351 h352 ⊢) <;> omega)) ?_
        have a353 := zi_and (mm_I s3 q5 (7 : Int32).toNatClampNeg) 1 (by decide)
        refine sw_ite (fun h354 => ?_) (fun h354 => ?_)
        · unfold fX8_openPage_86
          refine sw_sh (ci_sh cs3 t_p1 rfl) ?_
          have cs25 := ci_wI cs3 t_p1 (j := 5) (v := ((((1 : Int32)) + (2 : Int32)) + (0 : Int32)) + (0 : Int32)) (kr_n rfl)
          have fs25 := fr_wI fs3 t_p1 (j := 5) (v := ((((1 : Int32)) + (2 : Int32)) + (0 : Int32)) + (0 : Int32)) rfl
          refine sw_let (fun s25 es25 => ?_)
          rw [es25] at cs25 fs25
          refine sw_sh (ci_sh cs25 t_p1 rfl) ?_
          have a355 := zi_and (mm_I s25 p1 5) 1 (by decide)
          refine sw_ite (fun h356 => ?_) (fun h356 => ?_)
          · unfold fX8_openPage_111
            refine sw_sh (ci_sh cs25 t_p1 rfl) ?_
            refine sw_sh (ci_sh cs25 t_p0 rfl) ?_
            obtain ⟨q30, eq30, tq30⟩ := ci_ref cs25 t_p0 3 (κ' := 13) rfl
            refine sw_onS eq30 ?_
            obtain ⟨q31, eq31, tq31⟩ := ci_ref cs25 t_p1 0 (κ' := 4) rfl
            refine sw_onS eq31 ?_
            refine sw_sh (ci_sh cs25 tq31 rfl) ?_
            refine sw_on (sX4_fill cs25 tq31 tq30 (by (try simp only [zp] at a291 h292 a331 h332 a351 h352 a353 h354 a355 h356 ⊢) <;> (try simp only [zz, Int32.reduceToInt, ne_eq] at a291 h292 a331 h332 a351 h352 a353 h354 a355 h356 ⊢) <;> (try simp (disch := omega) only [zb] at a291 h292 a331 h332 a351 h352 a353 h354 a355 h356 ⊢) <;> first | omega | ((try simp (disch := omega) only [zb] at a291 h292 a331 h332 a351 h352 a353 h354 a355 h356 ⊢) <;> omega)) (by (try simp only [zp] at a291 h292 a331 h332 a351 h352 a353 h354 a355 h356 ⊢) <;> (try simp only [zz, Int32.reduceToInt, ne_eq] at a291 h292 a331 h332 a351 h352 a353 h354 a355 h356 ⊢) <;> (try simp (disch := omega) only [zb] at a291 h292 a331 h332 a351 h352 a353 h354 a355 h356 ⊢) <;> first | omega | ((try simp (disch := omega) only [zb] at a291 h292 a331 h332 a351 h352 a353 h354 a355 h356 ⊢) <;> omega)) ) ?_
            intro q33 hqq33
            obtain ⟨cq33, gq33, xq33⟩ := hqq33
            have fq33 := fr_trans fs25 gq33 rfl
            exact sw_some ⟨cq33, fq33, trivial⟩
          · obtain ⟨q34, eq34, tq34⟩ := ci_ref cs25 t_p1 0 (κ' := 4) rfl
            refine sw_onS eq34 ?_
            refine sw_sh (ci_sh cs25 tq34 rfl) ?_
            refine sw_on (sX4_eraseRows cs25 tq34 (by (try simp only [zp] at a291 h292 a331 h332 a351 h352 a353 h354 a355 h356 ⊢) <;> (try simp only [zz, Int32.reduceToInt, ne_eq] at a291 h292 a331 h332 a351 h352 a353 h354 a355 h356 ⊢) <;> (try simp (disch := omega) only [zb] at a291 h292 a331 h332 a351 h352 a353 h354 a355 h356 ⊢) <;> first | omega | ((try simp (disch := omega) only [zb] at a291 h292 a331 h332 a351 h352 a353 h354 a355 h356 ⊢) <;> omega)) ) ?_
            intro q36 hqq36
            obtain ⟨cq36, gq36, xq36⟩ := hqq36
            have fq36 := fr_trans fs25 gq36 rfl
            refine sw_sh (ci_sh cq36 t_p1 rfl) ?_
            refine sw_on (sX3_eraseLinks cq36 t_p1  ) ?_
            intro q38 hqq38
            obtain ⟨cq38, gq38, xq38⟩ := hqq38
            have fq38 := fr_trans fq36 gq38 rfl
            unfold fX8_openPage_111
            refine sw_sh (ci_sh cq38 t_p1 rfl) ?_
            refine sw_sh (ci_sh cq38 t_p0 rfl) ?_
            obtain ⟨q30, eq30, tq30⟩ := ci_ref cq38 t_p0 3 (κ' := 13) rfl
            refine sw_onS eq30 ?_
            have v357 : mm_R q38 p1 0 = some q34 := ((gq38.2.2 _ _ t_p1 0 rfl).2.trans ((gq36.2.2 _ _ t_p1 0 rfl).2.trans eq34))
            refine sw_onS v357 ?_
            refine sw_sh (ci_sh cq38 tq34 rfl) ?_
            refine sw_on (sX4_fill cq38 tq34 tq30 (by (try simp only [zp] at a291 h292 a331 h332 a351 h352 a353 h354 a355 h356 ⊢) <;> (try simp only [zz, Int32.reduceToInt, ne_eq] at a291 h292 a331 h332 a351 h352 a353 h354 a355 h356 ⊢) <;> (try simp (disch := omega) only [zb] at a291 h292 a331 h332 a351 h352 a353 h354 a355 h356 ⊢) <;> first | omega | ((try simp (disch := omega) only [zb] at a291 h292 a331 h332 a351 h352 a353 h354 a355 h356 ⊢) <;> omega)) (by (try simp only [zp] at a291 h292 a331 h332 a351 h352 a353 h354 a355 h356 ⊢) <;> (try simp only [zz, Int32.reduceToInt, ne_eq] at a291 h292 a331 h332 a351 h352 a353 h354 a355 h356 ⊢) <;> (try simp (disch := omega) only [zb] at a291 h292 a331 h332 a351 h352 a353 h354 a355 h356 ⊢) <;> first | omega | ((try simp (disch := omega) only [zb] at a291 h292 a331 h332 a351 h352 a353 h354 a355 h356 ⊢) <;> omega)) ) ?_
            intro q33 hqq33
            obtain ⟨cq33, gq33, xq33⟩ := hqq33
            have fq33 := fr_trans fq38 gq33 rfl
            exact sw_some ⟨cq33, fq33, trivial⟩
        · unfold fX8_openPage_86
          refine sw_sh (ci_sh cs3 t_p1 rfl) ?_
          have cs25 := ci_wI cs3 t_p1 (j := 5) (v := ((((1 : Int32)) + (2 : Int32)) + (0 : Int32)) + (8 : Int32)) (kr_n rfl)
          have fs25 := fr_wI fs3 t_p1 (j := 5) (v := ((((1 : Int32)) + (2 : Int32)) + (0 : Int32)) + (8 : Int32)) rfl
          refine sw_let (fun s25 es25 => ?_)
          rw [es25] at cs25 fs25
          refine sw_sh (ci_sh cs25 t_p1 rfl) ?_
          have a358 := zi_and (mm_I s25 p1 5) 1 (by decide)
          refine sw_ite (fun h359 => ?_) (fun h359 => ?_)
          · unfold fX8_openPage_111
            refine sw_sh (ci_sh cs25 t_p1 rfl) ?_
            refine sw_sh (ci_sh cs25 t_p0 rfl) ?_
            obtain ⟨q30, eq30, tq30⟩ := ci_ref cs25 t_p0 3 (κ' := 13) rfl
            refine sw_onS eq30 ?_
            obtain ⟨q31, eq31, tq31⟩ := ci_ref cs25 t_p1 0 (κ' := 4) rfl
            refine sw_onS eq31 ?_
            refine sw_sh (ci_sh cs25 tq31 rfl) ?_
            refine sw_on (sX4_fill cs25 tq31 tq30 (by (try simp only [zp] at a291 h292 a331 h332 a351 h352 a353 h354 a358 h359 ⊢) <;> (try simp only [zz, Int32.reduceToInt, ne_eq] at a291 h292 a331 h332 a351 h352 a353 h354 a358 h359 ⊢) <;> (try simp (disch := omega) only [zb] at a291 h292 a331 h332 a351 h352 a353 h354 a358 h359 ⊢) <;> first | omega | ((try simp (disch := omega) only [zb] at a291 h292 a331 h332 a351 h352 a353 h354 a358 h359 ⊢) <;> omega)) (by (try simp only [zp] at a291 h292 a331 h332 a351 h352 a353 h354 a358 h359 ⊢) <;> (try simp only [zz, Int32.reduceToInt, ne_eq] at a291 h292 a331 h332 a351 h352 a353 h354 a358 h359 ⊢) <;> (try simp (disch := omega) only [zb] at a291 h292 a331 h332 a351 h352 a353 h354 a358 h359 ⊢) <;> first | omega | ((try simp (disch := omega) only [zb] at a291 h292 a331 h332 a351 h352 a353 h354 a358 h359 ⊢) <;> omega)) ) ?_
            intro q33 hqq33
            obtain ⟨cq33, gq33, xq33⟩ := hqq33
            have fq33 := fr_trans fs25 gq33 rfl
            exact sw_some ⟨cq33, fq33, trivial⟩
          · obtain ⟨q34, eq34, tq34⟩ := ci_ref cs25 t_p1 0 (κ' := 4) rfl
            refine sw_onS eq34 ?_
            refine sw_sh (ci_sh cs25 tq34 rfl) ?_
            refine sw_on (sX4_eraseRows cs25 tq34 (by (try simp only [zp] at a291 h292 a331 h332 a351 h352 a353 h354 a358 h359 ⊢) <;> (try simp only [zz, Int32.reduceToInt, ne_eq] at a291 h292 a331 h332 a351 h352 a353 h354 a358 h359 ⊢) <;> (try simp (disch := omega) only [zb] at a291 h292 a331 h332 a351 h352 a353 h354 a358 h359 ⊢) <;> first | omega | ((try simp (disch := omega) only [zb] at a291 h292 a331 h332 a351 h352 a353 h354 a358 h359 ⊢) <;> omega)) ) ?_
            intro q36 hqq36
            obtain ⟨cq36, gq36, xq36⟩ := hqq36
            have fq36 := fr_trans fs25 gq36 rfl
            refine sw_sh (ci_sh cq36 t_p1 rfl) ?_
            refine sw_on (sX3_eraseLinks cq36 t_p1  ) ?_
            intro q38 hqq38
            obtain ⟨cq38, gq38, xq38⟩ := hqq38
            have fq38 := fr_trans fq36 gq38 rfl
            unfold fX8_openPage_111
            refine sw_sh (ci_sh cq38 t_p1 rfl) ?_
            refine sw_sh (ci_sh cq38 t_p0 rfl) ?_
            obtain ⟨q30, eq30, tq30⟩ := ci_ref cq38 t_p0 3 (κ' := 13) rfl
            refine sw_onS eq30 ?_
            have v360 : mm_R q38 p1 0 = some q34 := ((gq38.2.2 _ _ t_p1 0 rfl).2.trans ((gq36.2.2 _ _ t_p1 0 rfl).2.trans eq34))
            refine sw_onS v360 ?_
            refine sw_sh (ci_sh cq38 tq34 rfl) ?_
            refine sw_on (sX4_fill cq38 tq34 tq30 (by (try simp only [zp] at a291 h292 a331 h332 a351 h352 a353 h354 a358 h359 ⊢) <;> (try simp only [zz, Int32.reduceToInt, ne_eq] at a291 h292 a331 h332 a351 h352 a353 h354 a358 h359 ⊢) <;> (try simp (disch := omega) only [zb] at a291 h292 a331 h332 a351 h352 a353 h354 a358 h359 ⊢) <;> first | omega | ((try simp (disch := omega) only [zb] at a291 h292 a331 h332 a351 h352 a353 h354 a358 h359 ⊢) <;> omega)) (by (try simp only [zp] at a291 h292 a331 h332 a351 h352 a353 h354 a358 h359 ⊢) <;> (try simp only [zz, Int32.reduceToInt, ne_eq] at a291 h292 a331 h332 a351 h352 a353 h354 a358 h359 ⊢) <;> (try simp (disch := omega) only [zb] at a291 h292 a331 h332 a351 h352 a353 h354 a358 h359 ⊢) <;> first | omega | ((try simp (disch := omega) only [zb] at a291 h292 a331 h332 a351 h352 a353 h354 a358 h359 ⊢) <;> omega)) ) ?_
            intro q33 hqq33
            obtain ⟨cq33, gq33, xq33⟩ := hqq33
            have fq33 := fr_trans fq38 gq33 rfl
            exact sw_some ⟨cq33, fq33, trivial⟩
      · unfold fX8_openPage_67
        refine sw_sh (ci_sh cs3 t_p0 rfl) ?_
        refine sw_onS eq5 ?_
        refine sw_ar (ci_sh cs3 tq5 rfl) ?_
        refine sw_ib (by (try simp only [zp] at a291 h292 a331 h332 a351 h352 ⊢) <;> (try simp only [zz, Int32.reduceToInt, ne_eq] at a291 h292 a331 h332 a351 h352 ⊢) <;> (try simp (disch := omega) only [zb] at a291 h292 a331 h332 a351 h352 ⊢) <;> first | omega | ((try simp (disch := omega) only [zb] at a291 h292 a331 h332 a351 h352 ⊢) <;> omega)) ?_
        have a361 := zi_and (mm_I s3 q5 (7 : Int32).toNatClampNeg) 1 (by decide)
        refine sw_ite (fun h362 => ?_) (fun h362 => ?_)
        · unfold fX8_openPage_86
          refine sw_sh (ci_sh cs3 t_p1 rfl) ?_
          have cs25 := ci_wI cs3 t_p1 (j := 5) (v := ((((1 : Int32)) + (2 : Int32)) + (4 : Int32)) + (0 : Int32)) (kr_n rfl)
          have fs25 := fr_wI fs3 t_p1 (j := 5) (v := ((((1 : Int32)) + (2 : Int32)) + (4 : Int32)) + (0 : Int32)) rfl
          refine sw_let (fun s25 es25 => ?_)
          rw [es25] at cs25 fs25
          refine sw_sh (ci_sh cs25 t_p1 rfl) ?_
          have a363 := zi_and (mm_I s25 p1 5) 1 (by decide)
          refine sw_ite (fun h364 => ?_) (fun h364 => ?_)
          · unfold fX8_openPage_111
            refine sw_sh (ci_sh cs25 t_p1 rfl) ?_
            refine sw_sh (ci_sh cs25 t_p0 rfl) ?_
            obtain ⟨q30, eq30, tq30⟩ := ci_ref cs25 t_p0 3 (κ' := 13) rfl
            refine sw_onS eq30 ?_
            obtain ⟨q31, eq31, tq31⟩ := ci_ref cs25 t_p1 0 (κ' := 4) rfl
            refine sw_onS eq31 ?_
            refine sw_sh (ci_sh cs25 tq31 rfl) ?_
            refine sw_on (sX4_fill cs25 tq31 tq30 (by (try simp only [zp] at a291 h292 a331 h332 a351 h352 a361 h362 a363 h364 ⊢) <;> (try simp only [zz, Int32.reduceToInt, ne_eq] at a291 h292 a331 h332 a351 h352 a361 h362 a363 h364 ⊢) <;> (try simp (disch := omega) only [zb] at a291 h292 a331 h332 a351 h352 a361 h362 a363 h364 ⊢) <;> first | omega | ((try simp (disch := omega) only [zb] at a291 h292 a331 h332 a351 h352 a361 h362 a363 h364 ⊢) <;> omega)) (by (try simp only [zp] at a291 h292 a331 h332 a351 h352 a361 h362 a363 h364 ⊢) <;> (try simp only [zz, Int32.reduceToInt, ne_eq] at a291 h292 a331 h332 a351 h352 a361 h362 a363 h364 ⊢) <;> (try simp (disch := omega) only [zb] at a291 h292 a331 h332 a351 h352 a361 h362 a363 h364 ⊢) <;> first | omega | ((try simp (disch := omega) only [zb] at a291 h292 a331 h332 a351 h352 a361 h362 a363 h364 ⊢) <;> omega)) ) ?_
            intro q33 hqq33
            obtain ⟨cq33, gq33, xq33⟩ := hqq33
            have fq33 := fr_trans fs25 gq33 rfl
            exact sw_some ⟨cq33, fq33, trivial⟩
          · obtain ⟨q34, eq34, tq34⟩ := ci_ref cs25 t_p1 0 (κ' := 4) rfl
            refine sw_onS eq34 ?_
            refine sw_sh (ci_sh cs25 tq34 rfl) ?_
            refine sw_on (sX4_eraseRows cs25 tq34 (by (try simp only [zp] at a291 h292 a331 h332 a351 h352 a361 h362 a363 h364 ⊢) <;> (try simp only [zz, Int32.reduceToInt, ne_eq] at a291 h292 a331 h332 a351 h352 a361 h362 a363 h364 ⊢) <;> (try simp (disch := omega) only [zb] at a291 h292 a331 h332 a351 h352 a361 h362 a363 h364 ⊢) <;> first | omega | ((try simp (disch := omega) only [zb] at a291 h292 a331 h332 a351 h352 a361 h362 a363 h364 ⊢) <;> omega)) ) ?_
            intro q36 hqq36
            obtain ⟨cq36, gq36, xq36⟩ := hqq36
            have fq36 := fr_trans fs25 gq36 rfl
            refine sw_sh (ci_sh cq36 t_p1 rfl) ?_
            refine sw_on (sX3_eraseLinks cq36 t_p1  ) ?_
            intro q38 hqq38
            obtain ⟨cq38, gq38, xq38⟩ := hqq38
            have fq38 := fr_trans fq36 gq38 rfl
            unfold fX8_openPage_111
            refine sw_sh (ci_sh cq38 t_p1 rfl) ?_
            refine sw_sh (ci_sh cq38 t_p0 rfl) ?_
            obtain ⟨q30, eq30, tq30⟩ := ci_ref cq38 t_p0 3 (κ' := 13) rfl
            refine sw_onS eq30 ?_
            have v365 : mm_R q38 p1 0 = some q34 := ((gq38.2.2 _ _ t_p1 0 rfl).2.trans ((gq36.2.2 _ _ t_p1 0 rfl).2.trans eq34))
            refine sw_onS v365 ?_
            refine sw_sh (ci_sh cq38 tq34 rfl) ?_
            refine sw_on (sX4_fill cq38 tq34 tq30 (by (try simp only [zp] at a291 h292 a331 h332 a351 h352 a361 h362 a363 h364 ⊢) <;> (try simp only [zz, Int32.reduceToInt, ne_eq] at a291 h292 a331 h332 a351 h352 a361 h362 a363 h364 ⊢) <;> (try simp (disch := omega) only [zb] at a291 h292 a331 h332 a351 h352 a361 h362 a363 h364 ⊢) <;> first | omega | ((try simp (disch := omega) only [zb] at a291 h292 a331 h332 a351 h352 a361 h362 a363 h364 ⊢) <;> omega)) (by (try simp only [zp] at a291 h292 a331 h332 a351 h352 a361 h362 a363 h364 ⊢) <;> (try simp only [zz, Int32.reduceToInt, ne_eq] at a291 h292 a331 h332 a351 h352 a361 h362 a363 h364 ⊢) <;> (try simp (disch := omega) only [zb] at a291 h292 a331 h332 a351 h352 a361 h362 a363 h364 ⊢) <;> first | omega | ((try simp (disch := omega) only [zb] at a291 h292 a331 h332 a351 h352 a361 h362 a363 h364 ⊢) <;> omega)) ) ?_
            intro q33 hqq33
            obtain ⟨cq33, gq33, xq33⟩ := hqq33
            have fq33 := fr_trans fq38 gq33 rfl
            exact sw_some ⟨cq33, fq33, trivial⟩
        · unfold fX8_openPage_86
          refine sw_sh (ci_sh cs3 t_p1 rfl) ?_
          have cs25 := ci_wI cs3 t_p1 (j := 5) (v := ((((1 : Int32)) + (2 : Int32)) + (4 : Int32)) + (8 : Int32)) (kr_n rfl)
          have fs25 := fr_wI fs3 t_p1 (j := 5) (v := ((((1 : Int32)) + (2 : Int32)) + (4 : Int32)) + (8 : Int32)) rfl
          refine sw_let (fun s25 es25 => ?_)
          rw [es25] at cs25 fs25
          refine sw_sh (ci_sh cs25 t_p1 rfl) ?_
          have a366 := zi_and (mm_I s25 p1 5) 1 (by decide)
          refine sw_ite (fun h367 => ?_) (fun h367 => ?_)
          · unfold fX8_openPage_111
            refine sw_sh (ci_sh cs25 t_p1 rfl) ?_
            refine sw_sh (ci_sh cs25 t_p0 rfl) ?_
            obtain ⟨q30, eq30, tq30⟩ := ci_ref cs25 t_p0 3 (κ' := 13) rfl
            refine sw_onS eq30 ?_
            obtain ⟨q31, eq31, tq31⟩ := ci_ref cs25 t_p1 0 (κ' := 4) rfl
            refine sw_onS eq31 ?_
            refine sw_sh (ci_sh cs25 tq31 rfl) ?_
            refine sw_on (sX4_fill cs25 tq31 tq30 (by (try simp only [zp] at a291 h292 a331 h332 a351 h352 a361 h362 a366 h367 ⊢) <;> (try simp only [zz, Int32.reduceToInt, ne_eq] at a291 h292 a331 h332 a351 h352 a361 h362 a366 h367 ⊢) <;> (try simp (disch := omega) only [zb] at a291 h292 a331 h332 a351 h352 a361 h362 a366 h367 ⊢) <;> first | omega | ((try simp (disch := omega) only [zb] at a291 h292 a331 h332 a351 h352 a361 h362 a366 h367 ⊢) <;> omega)) (by (try simp only [zp] at a291 h292 a331 h332 a351 h352 a361 h362 a366 h367 ⊢) <;> (try simp only [zz, Int32.reduceToInt, ne_eq] at a291 h292 a331 h332 a351 h352 a361 h362 a366 h367 ⊢) <;> (try simp (disch := omega) only [zb] at a291 h292 a331 h332 a351 h352 a361 h362 a366 h367 ⊢) <;> first | omega | ((try simp (disch := omega) only [zb] at a291 h292 a331 h332 a351 h352 a361 h362 a366 h367 ⊢) <;> omega)) ) ?_
            intro q33 hqq33
            obtain ⟨cq33, gq33, xq33⟩ := hqq33
            have fq33 := fr_trans fs25 gq33 rfl
            exact sw_some ⟨cq33, fq33, trivial⟩
          · obtain ⟨q34, eq34, tq34⟩ := ci_ref cs25 t_p1 0 (κ' := 4) rfl
            refine sw_onS eq34 ?_
            refine sw_sh (ci_sh cs25 tq34 rfl) ?_
            refine sw_on (sX4_eraseRows cs25 tq34 (by (try simp only [zp] at a291 h292 a331 h332 a351 h352 a361 h362 a366 h367 ⊢) <;> (try simp only [zz, Int32.reduceToInt, ne_eq] at a291 h292 a331 h332 a351 h352 a361 h362 a366 h367 ⊢) <;> (try simp (disch := omega) only [zb] at a291 h292 a331 h332 a351 h352 a361 h362 a366 h367 ⊢) <;> first | omega | ((try simp (disch := omega) only [zb] at a291 h292 a331 h332 a351 h352 a361 h362 a366 h367 ⊢) <;> omega)) ) ?_
            intro q36 hqq36
            obtain ⟨cq36, gq36, xq36⟩ := hqq36
            have fq36 := fr_trans fs25 gq36 rfl
            refine sw_sh (ci_sh cq36 t_p1 rfl) ?_
            refine sw_on (sX3_eraseLinks cq36 t_p1  ) ?_
            intro q38 hqq38
            obtain ⟨cq38, gq38, xq38⟩ := hqq38
            have fq38 := fr_trans fq36 gq38 rfl
            unfold fX8_openPage_111
            refine sw_sh (ci_sh cq38 t_p1 rfl) ?_
            refine sw_sh (ci_sh cq38 t_p0 rfl) ?_
            obtain ⟨q30, eq30, tq30⟩ := ci_ref cq38 t_p0 3 (κ' := 13) rfl
            refine sw_onS eq30 ?_
            have v368 : mm_R q38 p1 0 = some q34 := ((gq38.2.2 _ _ t_p1 0 rfl).2.trans ((gq36.2.2 _ _ t_p1 0 rfl).2.trans eq34))
            refine sw_onS v368 ?_
            refine sw_sh (ci_sh cq38 tq34 rfl) ?_
            refine sw_on (sX4_fill cq38 tq34 tq30 (by (try simp only [zp] at a291 h292 a331 h332 a351 h352 a361 h362 a366 h367 ⊢) <;> (try simp only [zz, Int32.reduceToInt, ne_eq] at a291 h292 a331 h332 a351 h352 a361 h362 a366 h367 ⊢) <;> (try simp (disch := omega) only [zb] at a291 h292 a331 h332 a351 h352 a361 h362 a366 h367 ⊢) <;> first | omega | ((try simp (disch := omega) only [zb] at a291 h292 a331 h332 a351 h352 a361 h362 a366 h367 ⊢) <;> omega)) (by (try simp only [zp] at a291 h292 a331 h332 a351 h352 a361 h362 a366 h367 ⊢) <;> (try simp only [zz, Int32.reduceToInt, ne_eq] at a291 h292 a331 h332 a351 h352 a361 h362 a366 h367 ⊢) <;> (try simp (disch := omega) only [zb] at a291 h292 a331 h332 a351 h352 a361 h362 a366 h367 ⊢) <;> first | omega | ((try simp (disch := omega) only [zb] at a291 h292 a331 h332 a351 h352 a361 h362 a366 h367 ⊢) <;> omega)) ) ?_
            intro q33 hqq33
            obtain ⟨cq33, gq33, xq33⟩ := hqq33
            have fq33 := fr_trans fq38 gq33 rfl
            exact sw_some ⟨cq33, fq33, trivial⟩
abbrev KX8_takeLinks : List Nat := [15, 24]
set_option maxHeartbeats 4000000 in
set_option maxRecDepth 10000 in
theorem sX8_takeLinks_11 {T : Nat → Option Nat} {σ0 : mm_M} : ∀ (n : Nat) (a0 : Nat) (a1 : Nat) (x2 : Int32) (x3 : Int32) (σ : mm_M), sCI T σ → sFR T KX8_takeLinks σ0 σ → (T a0 = some 8) → (T a1 = some 3) → (0 ≤ x3.toInt ∧ x3.toInt ≤ 6) → 6 - x3.toInt < (n : Int) → sw (fX8_takeLinks_11 n a0 a1 x2 x3 σ) (fun R => sCI T R ∧ sFR T KX8_takeLinks σ0 R ∧ (True)) := by
  intro n
  induction n with
  | zero => intro a0 a1 x2 x3 σ c0 f0 t_a0 t_a1 p_0 hn; exfalso; exact (by (try simp only [zp] at p_0 hn ⊢) <;> (try simp only [zz, Int32.reduceToInt, ne_eq] at p_0 hn ⊢) <;> (try simp (disch := omega) only [zb] at p_0 hn ⊢) <;> first | omega | ((try simp (disch := omega) only [zb] at p_0 hn ⊢) <;> omega))
  | succ n ih =>
    intro a0 a1 x2 x3 σ c0 f0 t_a0 t_a1 p_0 hn
    unfold fX8_takeLinks_11
    refine sw_ite (fun h369 => ?_) (fun h369 => ?_)
    · exact sw_some ⟨c0, f0, trivial⟩
    · refine sw_sh (ci_sh c0 t_a0 rfl) ?_
      refine sw_on (sX8_readValues c0 t_a0  ) ?_
      intro q6 hqq6
      obtain ⟨cq6, gq6, xq6⟩ := hqq6
      have fq6 := fr_trans f0 gq6 rfl
      refine sw_ite (fun h370 => ?_) (fun h370 => ?_)
      · exact ih a0 a1 x2 (x3 + 1) q6.2 cq6 fq6 t_a0 t_a1 (by (try simp only [zp] at p_0 hn h369 xq6 h370 ⊢) <;> (try simp only [zz, Int32.reduceToInt, ne_eq] at p_0 hn h369 xq6 h370 ⊢) <;> (try simp (disch := omega) only [zb] at p_0 hn h369 xq6 h370 ⊢) <;> first | omega | ((try simp (disch := omega) only [zb] at p_0 hn h369 xq6 h370 ⊢) <;> omega)) (by (try simp only [zp] at p_0 hn h369 xq6 h370 ⊢) <;> (try simp only [zz, Int32.reduceToInt, ne_eq] at p_0 hn h369 xq6 h370 ⊢) <;> (try simp (disch := omega) only [zb] at p_0 hn h369 xq6 h370 ⊢) <;> first | omega | ((try simp (disch := omega) only [zb] at p_0 hn h369 xq6 h370 ⊢) <;> omega))
      · refine sw_sh (ci_sh cq6 t_a0 rfl) ?_
        obtain ⟨q9, eq9, tq9⟩ := ci_ref cq6 t_a0 5 (κ' := 15) rfl
        refine sw_onS eq9 ?_
        refine sw_ar (ci_sh cq6 tq9 rfl) ?_
        refine sw_ib (by (try simp only [zp] at p_0 hn h369 xq6 h370 ⊢) <;> (try simp only [zz, Int32.reduceToInt, ne_eq] at p_0 hn h369 xq6 h370 ⊢) <;> (try simp (disch := omega) only [zb] at p_0 hn h369 xq6 h370 ⊢) <;> first | omega | ((try simp (disch := omega) only [zb] at p_0 hn h369 xq6 h370 ⊢) <;> omega)) ?_
        refine sw_onS eq9 ?_
        refine sw_ar (ci_sh cq6 tq9 rfl) ?_
        refine sw_ib (by (try simp only [zp] at p_0 hn h369 xq6 h370 ⊢) <;> (try simp only [zz, Int32.reduceToInt, ne_eq] at p_0 hn h369 xq6 h370 ⊢) <;> (try simp (disch := omega) only [zb] at p_0 hn h369 xq6 h370 ⊢) <;> first | omega | ((try simp (disch := omega) only [zb] at p_0 hn h369 xq6 h370 ⊢) <;> omega)) ?_
        refine sw_sh (ci_sh cq6 t_a1 rfl) ?_
        obtain ⟨q16, eq16, tq16⟩ := ci_ref cq6 t_a1 1 (κ' := 24) rfl
        refine sw_onS eq16 ?_
        refine sw_ar (ci_sh cq6 tq16 rfl) ?_
        refine sw_ib (by (try simp only [zp] at p_0 hn h369 xq6 h370 ⊢) <;> (try simp only [zz, Int32.reduceToInt, ne_eq] at p_0 hn h369 xq6 h370 ⊢) <;> (try simp (disch := omega) only [zb] at p_0 hn h369 xq6 h370 ⊢) <;> first | omega | ((try simp (disch := omega) only [zb] at p_0 hn h369 xq6 h370 ⊢) <;> omega)) ?_
        have cs19 := ci_wI cq6 tq16 (j := (3 * x3).toNatClampNeg) (v := fX8_magazineOf (x2 ^^^ (((mm_I q6.2 q9 (3 : Int32).toNatClampNeg) / 8) + (2 * ((mm_I q6.2 q9 (5 : Int32).toNatClampNeg) / 4))))) (kr_n rfl)
        have fs19 := fr_wI fq6 tq16 (j := (3 * x3).toNatClampNeg) (v := fX8_magazineOf (x2 ^^^ (((mm_I q6.2 q9 (3 : Int32).toNatClampNeg) / 8) + (2 * ((mm_I q6.2 q9 (5 : Int32).toNatClampNeg) / 4))))) rfl
        refine sw_let (fun s19 es19 => ?_)
        rw [es19] at cs19 fs19
        have v371 : mm_R s19 a0 5 = some q9 := (by rw [← es19]; exact eq9)
        refine sw_onS v371 ?_
        refine sw_ar (ci_sh cs19 tq9 rfl) ?_
        refine sw_ib (by (try simp only [zp] at p_0 hn h369 xq6 h370 ⊢) <;> (try simp only [zz, Int32.reduceToInt, ne_eq] at p_0 hn h369 xq6 h370 ⊢) <;> (try simp (disch := omega) only [zb] at p_0 hn h369 xq6 h370 ⊢) <;> first | omega | ((try simp (disch := omega) only [zb] at p_0 hn h369 xq6 h370 ⊢) <;> omega)) ?_
        refine sw_onS v371 ?_
        refine sw_ar (ci_sh cs19 tq9 rfl) ?_
        refine sw_ib (by (try simp only [zp] at p_0 hn h369 xq6 h370 ⊢) <;> (try simp only [zz, Int32.reduceToInt, ne_eq] at p_0 hn h369 xq6 h370 ⊢) <;> (try simp (disch := omega) only [zb] at p_0 hn h369 xq6 h370 ⊢) <;> first | omega | ((try simp (disch := omega) only [zb] at p_0 hn h369 xq6 h370 ⊢) <;> omega)) ?_
        have v372 : mm_R s19 a1 1 = some q16 := (by rw [← es19]; exact eq16)
        refine sw_onS v372 ?_
        refine sw_ar (ci_sh cs19 tq16 rfl) ?_
        refine sw_ib (by (try simp only [zp] at p_0 hn h369 xq6 h370 ⊢) <;> (try simp only [zz, Int32.reduceToInt, ne_eq] at p_0 hn h369 xq6 h370 ⊢) <;> (try simp (disch := omega) only [zb] at p_0 hn h369 xq6 h370 ⊢) <;> first | omega | ((try simp (disch := omega) only [zb] at p_0 hn h369 xq6 h370 ⊢) <;> omega)) ?_
        have cs29 := ci_wI cs19 tq16 (j := ((3 * x3) + 1).toNatClampNeg) (v := (16 * (mm_I s19 q9 (1 : Int32).toNatClampNeg)) + (mm_I s19 q9 (0 : Int32).toNatClampNeg)) (kr_n rfl)
        have fs29 := fr_wI fs19 tq16 (j := ((3 * x3) + 1).toNatClampNeg) (v := (16 * (mm_I s19 q9 (1 : Int32).toNatClampNeg)) + (mm_I s19 q9 (0 : Int32).toNatClampNeg)) rfl
        refine sw_let (fun s29 es29 => ?_)
        rw [es29] at cs29 fs29
        have v373 : mm_R s29 a0 5 = some q9 := (by rw [← es29]; exact v371)
        refine sw_onS v373 ?_
        refine sw_ar (ci_sh cs29 tq9 rfl) ?_
        refine sw_ib (by (try simp only [zp] at p_0 hn h369 xq6 h370 ⊢) <;> (try simp only [zz, Int32.reduceToInt, ne_eq] at p_0 hn h369 xq6 h370 ⊢) <;> (try simp (disch := omega) only [zb] at p_0 hn h369 xq6 h370 ⊢) <;> first | omega | ((try simp (disch := omega) only [zb] at p_0 hn h369 xq6 h370 ⊢) <;> omega)) ?_
        refine sw_onS v373 ?_
        refine sw_ar (ci_sh cs29 tq9 rfl) ?_
        refine sw_ib (by (try simp only [zp] at p_0 hn h369 xq6 h370 ⊢) <;> (try simp only [zz, Int32.reduceToInt, ne_eq] at p_0 hn h369 xq6 h370 ⊢) <;> (try simp (disch := omega) only [zb] at p_0 hn h369 xq6 h370 ⊢) <;> first | omega | ((try simp (disch := omega) only [zb] at p_0 hn h369 xq6 h370 ⊢) <;> omega)) ?_
        refine sw_onS v373 ?_
        refine sw_ar (ci_sh cs29 tq9 rfl) ?_
        refine sw_ib (by (try simp only [zp] at p_0 hn h369 xq6 h370 ⊢) <;> (try simp only [zz, Int32.reduceToInt, ne_eq] at p_0 hn h369 xq6 h370 ⊢) <;> (try simp (disch := omega) only [zb] at p_0 hn h369 xq6 h370 ⊢) <;> first | omega | ((try simp (disch := omega) only [zb] at p_0 hn h369 xq6 h370 ⊢) <;> omega)) ?_
        refine sw_onS v373 ?_
        refine sw_ar (ci_sh cs29 tq9 rfl) ?_
        refine sw_ib (by (try simp only [zp] at p_0 hn h369 xq6 h370 ⊢) <;> (try simp only [zz, Int32.reduceToInt, ne_eq] at p_0 hn h369 xq6 h370 ⊢) <;> (try simp (disch := omega) only [zb] at p_0 hn h369 xq6 h370 ⊢) <;> first | omega | ((try simp (disch := omega) only [zb] at p_0 hn h369 xq6 h370 ⊢) <;> omega)) ?_
        have v374 : mm_R s29 a1 1 = some q16 := (by rw [← es29]; exact v372)
        refine sw_onS v374 ?_
        refine sw_ar (ci_sh cs29 tq16 rfl) ?_
        refine sw_ib (by (try simp only [zp] at p_0 hn h369 xq6 h370 ⊢) <;> (try simp only [zz, Int32.reduceToInt, ne_eq] at p_0 hn h369 xq6 h370 ⊢) <;> (try simp (disch := omega) only [zb] at p_0 hn h369 xq6 h370 ⊢) <;> first | omega | ((try simp (disch := omega) only [zb] at p_0 hn h369 xq6 h370 ⊢) <;> omega)) ?_
        have cs45 := ci_wI cs29 tq16 (j := ((3 * x3) + 2).toNatClampNeg) (v := fX8_subcodeOf (mm_I s29 q9 (2 : Int32).toNatClampNeg) (mm_I s29 q9 (3 : Int32).toNatClampNeg) (mm_I s29 q9 (4 : Int32).toNatClampNeg) (mm_I s29 q9 (5 : Int32).toNatClampNeg)) (kr_n rfl)
        have fs45 := fr_wI fs29 tq16 (j := ((3 * x3) + 2).toNatClampNeg) (v := fX8_subcodeOf (mm_I s29 q9 (2 : Int32).toNatClampNeg) (mm_I s29 q9 (3 : Int32).toNatClampNeg) (mm_I s29 q9 (4 : Int32).toNatClampNeg) (mm_I s29 q9 (5 : Int32).toNatClampNeg)) rfl
        refine sw_let (fun s45 es45 => ?_)
        rw [es45] at cs45 fs45
        exact ih a0 a1 x2 (x3 + 1) s45 cs45 fs45 t_a0 t_a1 (by (try simp only [zp] at p_0 hn h369 xq6 h370 ⊢) <;> (try simp only [zz, Int32.reduceToInt, ne_eq] at p_0 hn h369 xq6 h370 ⊢) <;> (try simp (disch := omega) only [zb] at p_0 hn h369 xq6 h370 ⊢) <;> first | omega | ((try simp (disch := omega) only [zb] at p_0 hn h369 xq6 h370 ⊢) <;> omega)) (by (try simp only [zp] at p_0 hn h369 xq6 h370 ⊢) <;> (try simp only [zz, Int32.reduceToInt, ne_eq] at p_0 hn h369 xq6 h370 ⊢) <;> (try simp (disch := omega) only [zb] at p_0 hn h369 xq6 h370 ⊢) <;> first | omega | ((try simp (disch := omega) only [zb] at p_0 hn h369 xq6 h370 ⊢) <;> omega))
set_option maxHeartbeats 4000000 in
set_option maxRecDepth 10000 in
theorem sX8_takeLinks {T : Nat → Option Nat} {σ0 : mm_M} {p0 : Nat} {p1 : Nat} {p2 : Int32} (c0 : sCI T σ0) (t_p0 : T p0 = some 8) (t_p1 : T p1 = some 3) : sw (fX8_takeLinks p0 p1 p2 σ0) (fun R => sCI T R ∧ sFR T KX8_takeLinks σ0 R ∧ (True)) := by
  have f0 : sFR T KX8_takeLinks σ0 σ0 := fr_refl
  unfold fX8_takeLinks
  refine sw_sh (ci_sh c0 t_p0 rfl) ?_
  refine sw_on (sX8_valueAt c0 t_p0  ) ?_
  intro q2 hqq2
  obtain ⟨eq2, xq2⟩ := hqq2
  (try rw [eq2])
  refine sw_ite (fun h375 => ?_) (fun h375 => ?_)
  · exact sX8_takeLinks_11 mm_fuel p0 p1 p2 0 σ0 c0 f0 t_p0 t_p1 (by (try simp only [zp] at xq2 h375 ⊢) <;> (try simp only [zz, Int32.reduceToInt, ne_eq] at xq2 h375 ⊢) <;> (try simp (disch := omega) only [zb] at xq2 h375 ⊢) <;> first | omega | ((try simp (disch := omega) only [zb] at xq2 h375 ⊢) <;> omega)) (by have hz : (mm_fuel : Int) = 2000 := rfl; rw [hz]; exact (by (try simp only [zp] at xq2 h375 ⊢) <;> (try simp only [zz, Int32.reduceToInt, ne_eq] at xq2 h375 ⊢) <;> (try simp (disch := omega) only [zb] at xq2 h375 ⊢) <;> first | omega | ((try simp (disch := omega) only [zb] at xq2 h375 ⊢) <;> omega)))
  · exact sw_some ⟨c0, f0, trivial⟩
abbrev KX8_takeLetters : List Nat := [0, 20, 21]
set_option maxHeartbeats 4000000 in
set_option maxRecDepth 10000 in
theorem sX8_takeLetters {T : Nat → Option Nat} {σ0 : mm_M} {p0 : Nat} {p1 : Int32} {p2 : Int32} {p3 : Int32} (c0 : sCI T σ0) (t_p0 : T p0 = some 8) (p_0 : 0 ≤ p1.toInt ∧ p1.toInt ≤ 1) : sw (fX8_takeLetters p0 p1 p2 p3 σ0) (fun R => sCI T R.2 ∧ sFR T KX8_takeLetters σ0 R.2 ∧ (True)) := by
  have f0 : sFR T KX8_takeLetters σ0 σ0 := fr_refl
  unfold fX8_takeLetters
  refine sw_sh (ci_sh c0 t_p0 rfl) ?_
  obtain ⟨q2, eq2, tq2⟩ := ci_ref c0 t_p0 1 (κ' := 11) rfl
  refine sw_onS eq2 ?_
  refine sw_ar (ci_sh c0 tq2 rfl) ?_
  refine sw_ib (by (try simp only [zp] at p_0 ⊢) <;> (try simp only [zz, Int32.reduceToInt, ne_eq] at p_0 ⊢) <;> (try simp (disch := omega) only [zb] at p_0 ⊢) <;> first | omega | ((try simp (disch := omega) only [zb] at p_0 ⊢) <;> omega)) ?_
  refine sw_ite (fun h376 => ?_) (fun h376 => ?_)
  · refine sw_ite (fun h377 => ?_) (fun h377 => ?_)
    · exact sw_some ⟨c0, f0, trivial⟩
    · have a378 := zi_and p2 127 (by decide)
      refine sw_ite (fun h379 => ?_) (fun h379 => ?_)
      · refine sw_ite (fun h380 => ?_) (fun h380 => ?_)
        · refine sw_ite (fun h381 => ?_) (fun h381 => ?_)
          · exact sw_some ⟨c0, f0, trivial⟩
          · have a382 := zi_and p3 127 (by decide)
            refine sw_ite (fun h383 => ?_) (fun h383 => ?_)
            · exact sw_some ⟨c0, f0, trivial⟩
            · obtain ⟨q11, eq11, tq11⟩ := ci_ref c0 t_p0 0 (κ' := 10) rfl
              refine sw_onS eq11 ?_
              refine sw_ar (ci_sh c0 tq11 rfl) ?_
              refine sw_ib (by (try simp only [zp] at p_0 h376 h377 a378 h379 h380 h381 a382 h383 ⊢) <;> (try simp only [zz, Int32.reduceToInt, ne_eq] at p_0 h376 h377 a378 h379 h380 h381 a382 h383 ⊢) <;> (try simp (disch := omega) only [zb] at p_0 h376 h377 a378 h379 h380 h381 a382 h383 ⊢) <;> first | omega | ((try simp (disch := omega) only [zb] at p_0 h376 h377 a378 h379 h380 h381 a382 h383 ⊢) <;> omega)) ?_
              obtain ⟨q14, eq14, tq14⟩ := ci_chan c0 tq11 (k := (mm_I σ0 q2 p1.toNatClampNeg).toNatClampNeg) (by (try simp only [zp] at p_0 h376 h377 a378 h379 h380 h381 a382 h383 ⊢) <;> (try simp only [zz, Int32.reduceToInt, ne_eq] at p_0 h376 h377 a378 h379 h380 h381 a382 h383 ⊢) <;> (try simp (disch := omega) only [zb] at p_0 h376 h377 a378 h379 h380 h381 a382 h383 ⊢) <;> first | omega | ((try simp (disch := omega) only [zb] at p_0 h376 h377 a378 h379 h380 h381 a382 h383 ⊢) <;> omega))
              refine sw_onS eq14 ?_
              refine sw_sh (ci_sh c0 tq14 rfl) ?_
              refine sw_on (sX0_put c0 tq14  ) ?_
              intro q16 hqq16
              obtain ⟨cq16, gq16, xq16⟩ := hqq16
              have fq16 := fr_trans f0 gq16 rfl
              exact sw_some ⟨cq16, fq16, trivial⟩
        · exact sw_some ⟨c0, f0, trivial⟩
      · obtain ⟨q17, eq17, tq17⟩ := ci_ref c0 t_p0 0 (κ' := 10) rfl
        refine sw_onS eq17 ?_
        refine sw_ar (ci_sh c0 tq17 rfl) ?_
        refine sw_ib (by (try simp only [zp] at p_0 h376 h377 a378 h379 ⊢) <;> (try simp only [zz, Int32.reduceToInt, ne_eq] at p_0 h376 h377 a378 h379 ⊢) <;> (try simp (disch := omega) only [zb] at p_0 h376 h377 a378 h379 ⊢) <;> first | omega | ((try simp (disch := omega) only [zb] at p_0 h376 h377 a378 h379 ⊢) <;> omega)) ?_
        obtain ⟨q20, eq20, tq20⟩ := ci_chan c0 tq17 (k := (mm_I σ0 q2 p1.toNatClampNeg).toNatClampNeg) (by (try simp only [zp] at p_0 h376 h377 a378 h379 ⊢) <;> (try simp only [zz, Int32.reduceToInt, ne_eq] at p_0 h376 h377 a378 h379 ⊢) <;> (try simp (disch := omega) only [zb] at p_0 h376 h377 a378 h379 ⊢) <;> first | omega | ((try simp (disch := omega) only [zb] at p_0 h376 h377 a378 h379 ⊢) <;> omega))
        refine sw_onS eq20 ?_
        refine sw_sh (ci_sh c0 tq20 rfl) ?_
        refine sw_on (sX0_put c0 tq20  ) ?_
        intro q22 hqq22
        obtain ⟨cq22, gq22, xq22⟩ := hqq22
        have fq22 := fr_trans f0 gq22 rfl
        refine sw_sh (ci_sh cq22 t_p0 rfl) ?_
        have v384 : mm_R q22 p0 0 = some q17 := ((gq22.2.2 _ _ t_p0 0 rfl).2.trans eq17)
        refine sw_onS v384 ?_
        refine sw_ar (ci_sh cq22 tq17 rfl) ?_
        refine sw_ib (by (try simp only [zp] at p_0 h376 h377 a378 h379 ⊢) <;> (try simp only [zz, Int32.reduceToInt, ne_eq] at p_0 h376 h377 a378 h379 ⊢) <;> (try simp (disch := omega) only [zb] at p_0 h376 h377 a378 h379 ⊢) <;> first | omega | ((try simp (disch := omega) only [zb] at p_0 h376 h377 a378 h379 ⊢) <;> omega)) ?_
        have v385 : mm_R q22 q17 ((mm_I σ0 q2 p1.toNatClampNeg).toNatClampNeg) = some q20 := ((gq22.2.2 _ _ tq17 ((mm_I σ0 q2 p1.toNatClampNeg).toNatClampNeg) rfl).2.trans eq20)
        refine sw_onS v385 ?_
        refine sw_on (sX8_takeSecondLetter cq22 tq20  ) ?_
        intro q28 hqq28
        obtain ⟨cq28, gq28, xq28⟩ := hqq28
        have fq28 := fr_trans fq22 gq28 rfl
        exact sw_some ⟨cq28, fq28, trivial⟩
  · exact sw_some ⟨c0, f0, trivial⟩
abbrev KX8_takeCode : List Nat := [0, 11, 20, 21]
set_option maxHeartbeats 4000000 in
set_option maxRecDepth 10000 in
theorem sX8_takeCode {T : Nat → Option Nat} {σ0 : mm_M} {p0 : Nat} {p1 : Int32} {p2 : Int32} {p3 : Int32} (c0 : sCI T σ0) (t_p0 : T p0 = some 8) (p_0 : 0 ≤ p1.toInt ∧ p1.toInt ≤ 1) : sw (fX8_takeCode p0 p1 p2 p3 σ0) (fun R => sCI T R.2 ∧ sFR T KX8_takeCode σ0 R.2 ∧ (True)) := by
  have f0 : sFR T KX8_takeCode σ0 σ0 := fr_refl
  unfold fX8_takeCode
  have a386 := zi_and p2 8 (by decide)
  refine sw_ite (fun h387 => ?_) (fun h387 => ?_)
  · unfold fX8_takeCode_15
    refine sw_sh (ci_sh c0 t_p0 rfl) ?_
    obtain ⟨q3, eq3, tq3⟩ := ci_ref c0 t_p0 1 (κ' := 11) rfl
    refine sw_onS eq3 ?_
    refine sw_ar (ci_sh c0 tq3 rfl) ?_
    refine sw_ib (by (try simp only [zp] at p_0 a386 h387 ⊢) <;> (try simp only [zz, Int32.reduceToInt, ne_eq] at p_0 a386 h387 ⊢) <;> (try simp (disch := omega) only [zb] at p_0 a386 h387 ⊢) <;> first | omega | ((try simp (disch := omega) only [zb] at p_0 a386 h387 ⊢) <;> omega)) ?_
    have cs6 := ci_wI c0 tq3 (j := p1.toNatClampNeg) (v := (2 * p1) + (0 : Int32)) (kr_n rfl)
    have fs6 := fr_wI f0 tq3 (j := p1.toNatClampNeg) (v := (2 * p1) + (0 : Int32)) rfl
    refine sw_let (fun s6 es6 => ?_)
    rw [es6] at cs6 fs6
    obtain ⟨q7, eq7, tq7⟩ := ci_ref cs6 t_p0 0 (κ' := 10) rfl
    refine sw_onS eq7 ?_
    refine sw_ar (ci_sh cs6 tq7 rfl) ?_
    refine sw_ib (by (try simp only [zp] at p_0 a386 h387 ⊢) <;> (try simp only [zz, Int32.reduceToInt, ne_eq] at p_0 a386 h387 ⊢) <;> (try simp (disch := omega) only [zb] at p_0 a386 h387 ⊢) <;> first | omega | ((try simp (disch := omega) only [zb] at p_0 a386 h387 ⊢) <;> omega)) ?_
    obtain ⟨q10, eq10, tq10⟩ := ci_chan cs6 tq7 (k := ((2 * p1) + (0 : Int32)).toNatClampNeg) (by (try simp only [zp] at p_0 a386 h387 ⊢) <;> (try simp only [zz, Int32.reduceToInt, ne_eq] at p_0 a386 h387 ⊢) <;> (try simp (disch := omega) only [zb] at p_0 a386 h387 ⊢) <;> first | omega | ((try simp (disch := omega) only [zb] at p_0 a386 h387 ⊢) <;> omega))
    refine sw_onS eq10 ?_
    refine sw_sh (ci_sh cs6 tq10 rfl) ?_
    refine sw_on (sX0_obey cs6 tq10  ) ?_
    intro q12 hqq12
    obtain ⟨cq12, gq12, xq12⟩ := hqq12
    have fq12 := fr_trans fs6 gq12 rfl
    exact sw_some ⟨cq12, fq12, trivial⟩
  · unfold fX8_takeCode_15
    refine sw_sh (ci_sh c0 t_p0 rfl) ?_
    obtain ⟨q3, eq3, tq3⟩ := ci_ref c0 t_p0 1 (κ' := 11) rfl
    refine sw_onS eq3 ?_
    refine sw_ar (ci_sh c0 tq3 rfl) ?_
    refine sw_ib (by (try simp only [zp] at p_0 a386 h387 ⊢) <;> (try simp only [zz, Int32.reduceToInt, ne_eq] at p_0 a386 h387 ⊢) <;> (try simp (disch := omega) only [zb] at p_0 a386 h387 ⊢) <;> first | omega | ((try simp (disch := omega) only [zb] at p_0 a386 h387 ⊢) <;> omega)) ?_
    have cs6 := ci_wI c0 tq3 (j := p1.toNatClampNeg) (v := (2 * p1) + (1 : Int32)) (kr_n rfl)
    have fs6 := fr_wI f0 tq3 (j := p1.toNatClampNeg) (v := (2 * p1) + (1 : Int32)) rfl
    refine sw_let (fun s6 es6 => ?_)
    rw [es6] at cs6 fs6
    obtain ⟨q7, eq7, tq7⟩ := ci_ref cs6 t_p0 0 (κ' := 10) rfl
    refine sw_onS eq7 ?_
    refine sw_ar (ci_sh cs6 tq7 rfl) ?_
    refine sw_ib (by (try simp only [zp] at p_0 a386 h387 ⊢) <;> (try simp only [zz, Int32.reduceToInt, ne_eq] at p_0 a386 h387 ⊢) <;> (try simp (disch := omega) only [zb] at p_0 a386 h387 ⊢) <;> first | omega | ((try simp (disch := omega) only [zb] at p_0 a386 h387 ⊢) <;> omega)) ?_
    obtain ⟨q10, eq10, tq10⟩ := ci_chan cs6 tq7 (k := ((2 * p1) + (1 : Int32)).toNatClampNeg) (by (try simp only [zp] at p_0 a386 h387 ⊢) <;> (try simp only [zz, Int32.reduceToInt, ne_eq] at p_0 a386 h387 ⊢) <;> (try simp (disch := omega) only [zb] at p_0 a386 h387 ⊢) <;> first | omega | ((try simp (disch := omega) only [zb] at p_0 a386 h387 ⊢) <;> omega))
    refine sw_onS eq10 ?_
    refine sw_sh (ci_sh cs6 tq10 rfl) ?_
    refine sw_on (sX0_obey cs6 tq10  ) ?_
    intro q12 hqq12
    obtain ⟨cq12, gq12, xq12⟩ := hqq12
    have fq12 := fr_trans fs6 gq12 rfl
    exact sw_some ⟨cq12, fq12, trivial⟩
abbrev KX8_pair : List Nat := [0, 11, 12, 20, 21]
set_option maxHeartbeats 4000000 in
set_option maxRecDepth 10000 in
theorem sX8_pair {T : Nat → Option Nat} {σ0 : mm_M} {p0 : Nat} {p1 : Int32} {p2 : Int32} {p3 : Int32} (c0 : sCI T σ0) (t_p0 : T p0 = some 8) : sw (fX8_pair p0 p1 p2 p3 σ0) (fun R => sCI T R.2 ∧ sFR T KX8_pair σ0 R.2 ∧ (True)) := by
  have f0 : sFR T KX8_pair σ0 σ0 := fr_refl
  unfold fX8_pair
  refine sw_ite (fun h388 => ?_) (fun h388 => ?_)
  · have a389 := zi_and p2 255 (by decide)
    have a390 := zi_and p3 255 (by decide)
    refine sw_ite (fun h391 => ?_) (fun h391 => ?_)
    · refine sw_sh (ci_sh c0 t_p0 rfl) ?_
      obtain ⟨q18, eq18, tq18⟩ := ci_ref c0 t_p0 2 (κ' := 12) rfl
      refine sw_onS eq18 ?_
      refine sw_ar (ci_sh c0 tq18 rfl) ?_
      refine sw_ib (by (try simp only [zp] at h388 a389 a390 h391 ⊢) <;> (try simp only [zz, Int32.reduceToInt, ne_eq] at h388 a389 a390 h391 ⊢) <;> (try simp (disch := omega) only [zb] at h388 a389 a390 h391 ⊢) <;> first | omega | ((try simp (disch := omega) only [zb] at h388 a389 a390 h391 ⊢) <;> omega)) ?_
      have cs21 := ci_wI c0 tq18 (j := p1.toNatClampNeg) (v := -1) (kr_n rfl)
      have fs21 := fr_wI f0 tq18 (j := p1.toNatClampNeg) (v := -1) rfl
      refine sw_let (fun s21 es21 => ?_)
      rw [es21] at cs21 fs21
      refine sw_on (sX8_takeLetters cs21 t_p0 (by (try simp only [zp] at h388 a389 a390 h391 ⊢) <;> (try simp only [zz, Int32.reduceToInt, ne_eq] at h388 a389 a390 h391 ⊢) <;> (try simp (disch := omega) only [zb] at h388 a389 a390 h391 ⊢) <;> first | omega | ((try simp (disch := omega) only [zb] at h388 a389 a390 h391 ⊢) <;> omega)) ) ?_
      intro q22 hqq22
      obtain ⟨cq22, gq22, xq22⟩ := hqq22
      have fq22 := fr_trans fs21 gq22 rfl
      refine sw_ite (fun h392 => ?_) (fun h392 => ?_)
      · exact sw_some ⟨cq22, fq22, trivial⟩
      · exact sw_some ⟨cq22, fq22, trivial⟩
    · refine sw_sh (ci_sh c0 t_p0 rfl) ?_
      obtain ⟨q4, eq4, tq4⟩ := ci_ref c0 t_p0 2 (κ' := 12) rfl
      refine sw_onS eq4 ?_
      refine sw_ar (ci_sh c0 tq4 rfl) ?_
      refine sw_ib (by (try simp only [zp] at h388 a389 a390 h391 ⊢) <;> (try simp only [zz, Int32.reduceToInt, ne_eq] at h388 a389 a390 h391 ⊢) <;> (try simp (disch := omega) only [zb] at h388 a389 a390 h391 ⊢) <;> first | omega | ((try simp (disch := omega) only [zb] at h388 a389 a390 h391 ⊢) <;> omega)) ?_
      have a393 := zi_and (p2 &&& 255) 127 (by decide)
      have a394 := zi_and (p3 &&& 255) 127 (by decide)
      refine sw_ite (fun h395 => ?_) (fun h395 => ?_)
      · refine sw_onS eq4 ?_
        refine sw_ar (ci_sh c0 tq4 rfl) ?_
        refine sw_ib (by (try simp only [zp] at h388 a389 a390 h391 a393 a394 h395 ⊢) <;> (try simp only [zz, Int32.reduceToInt, ne_eq] at h388 a389 a390 h391 a393 a394 h395 ⊢) <;> (try simp (disch := omega) only [zb] at h388 a389 a390 h391 a393 a394 h395 ⊢) <;> first | omega | ((try simp (disch := omega) only [zb] at h388 a389 a390 h391 a393 a394 h395 ⊢) <;> omega)) ?_
        have cs16 := ci_wI c0 tq4 (j := p1.toNatClampNeg) (v := -1) (kr_n rfl)
        have fs16 := fr_wI f0 tq4 (j := p1.toNatClampNeg) (v := -1) rfl
        refine sw_let (fun s16 es16 => ?_)
        rw [es16] at cs16 fs16
        exact sw_some ⟨cs16, fs16, trivial⟩
      · refine sw_onS eq4 ?_
        refine sw_ar (ci_sh c0 tq4 rfl) ?_
        refine sw_ib (by (try simp only [zp] at h388 a389 a390 h391 a393 a394 h395 ⊢) <;> (try simp only [zz, Int32.reduceToInt, ne_eq] at h388 a389 a390 h391 a393 a394 h395 ⊢) <;> (try simp (disch := omega) only [zb] at h388 a389 a390 h391 a393 a394 h395 ⊢) <;> first | omega | ((try simp (disch := omega) only [zb] at h388 a389 a390 h391 a393 a394 h395 ⊢) <;> omega)) ?_
        have cs11 := ci_wI c0 tq4 (j := p1.toNatClampNeg) (v := (((p2 &&& 255) &&& 127) * 128) + ((p3 &&& 255) &&& 127)) (kr_n rfl)
        have fs11 := fr_wI f0 tq4 (j := p1.toNatClampNeg) (v := (((p2 &&& 255) &&& 127) * 128) + ((p3 &&& 255) &&& 127)) rfl
        refine sw_let (fun s11 es11 => ?_)
        rw [es11] at cs11 fs11
        refine sw_on (sX8_takeCode cs11 t_p0 (by (try simp only [zp] at h388 a389 a390 h391 a393 a394 h395 ⊢) <;> (try simp only [zz, Int32.reduceToInt, ne_eq] at h388 a389 a390 h391 a393 a394 h395 ⊢) <;> (try simp (disch := omega) only [zb] at h388 a389 a390 h391 a393 a394 h395 ⊢) <;> first | omega | ((try simp (disch := omega) only [zb] at h388 a389 a390 h391 a393 a394 h395 ⊢) <;> omega)) ) ?_
        intro q12 hqq12
        obtain ⟨cq12, gq12, xq12⟩ := hqq12
        have fq12 := fr_trans fs11 gq12 rfl
        exact sw_some ⟨cq12, fq12, trivial⟩
  · exact sw_some ⟨c0, f0, trivial⟩
