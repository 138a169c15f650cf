/-! Values at the fresh state -/
def oi (o : Option Int32) : Int := match o with
  | some r => r.toInt
  | none => -9999999999
def onI (o : Option Nat) : Int := match o with
  | some _ => 0
  | none => -1
theorem zo : (∀ r, oi (some r) = r.toInt) ∧ oi none = -9999999999 ∧ (∀ q, onI (some q) = 0) ∧ onI none = -1 := ⟨fun _ => rfl, rfl, fun _ => rfl, rfl⟩
def sFV9 (T : Nat → Option Nat) (σ : mm_M) : Prop := ∀ a κ j, T a = some κ → κ = 9 ∨ (50 ≤ κ ∧ κ < 200) → kfv κ j (mm_I σ a j)
theorem sFV.nine {T : Nat → Option Nat} {σ : mm_M} (h : sFV T σ) : sFV9 T σ := fun a κ j t _ => h a κ j t
theorem su_dec (x : Int32) : (x - 1).toInt = x.toInt - 1 ∨ (x.toInt = -2147483648 ∧ (x - 1).toInt = 2147483647) := by
  have h := zi_rg x
  rw [zi_sub]
  have e : (1 : Int32).toInt = 1 := rfl
  rw [e]
  by_cases hx : x.toInt = -2147483648
  · right; refine ⟨hx, ?_⟩; rw [hx]; decide
  · left; exact zi_bm (by omega) (by omega)
/-! Bits: the two ways of counting, the two ways of mending -/
theorem za_255 (x : Int32) : (x &&& 255) &&& 255 = x &&& 255 := by
  apply Int32.toBitVec_inj.mp
  show (x.toBitVec &&& 255#32) &&& 255#32 = x.toBitVec &&& 255#32
  rw [BitVec.and_assoc, BitVec.and_self]
theorem za_127 (x : Int32) : (x &&& 255) &&& 127 = x &&& 127 := by
  apply Int32.toBitVec_inj.mp
  show (x.toBitVec &&& 255#32) &&& 127#32 = x.toBitVec &&& 127#32
  rw [BitVec.and_assoc]
  rfl
theorem za_8 (x : Int32) : (x &&& 127) &&& 8 = x &&& 8 := by
  apply Int32.toBitVec_inj.mp
  show (x.toBitVec &&& 127#32) &&& 8#32 = x.toBitVec &&& 8#32
  rw [BitVec.and_assoc]
  rfl
theorem za_right (x : Int32) : fX8_isRight (x &&& 255) = fX8_isRight x := by
  unfold fX8_isRight; rw [za_255]
theorem zo_code {a b : Int32} : fX8_isCode a b = 0 ↔ ¬ ((fX8_isRight a).toInt ≠ 0 ∧ 16 ≤ (a &&& 127).toInt ∧ (a &&& 127).toInt ≤ 31 ∧ (fX8_isRight b).toInt ≠ 0 ∧ 32 ≤ (b &&& 127).toInt) := by
  have e0 : ∀ x : Int32, x = 0 ↔ x.toInt = 0 := fun x => by rw [zi_eq]; rfl
  unfold fX8_isCode
  simp only [zi_lt, zi_le, Int32.reduceToInt, e0 (fX8_isRight a), e0 (fX8_isRight b)]
  split
  · exact iff_of_true rfl (by omega)
  · split
    · exact iff_of_true rfl (by omega)
    · split
      · exact iff_of_true rfl (by omega)
      · split
        · exact iff_of_true rfl (by omega)
        · split
          · exact iff_of_true rfl (by omega)
          · exact iff_of_false (by decide) (by omega)
theorem zq : (∀ x : Int32, (x &&& 255) &&& 127 = x &&& 127) ∧ (∀ x : Int32, (x &&& 127) &&& 8 = x &&& 8) ∧ (∀ x : Int32, fX8_isRight (x &&& 255) = fX8_isRight x) ∧ (∀ a b : Int32, fX8_isCode a b = 0 ↔ ¬ ((fX8_isRight a).toInt ≠ 0 ∧ 16 ≤ (a &&& 127).toInt ∧ (a &&& 127).toInt ≤ 31 ∧ (fX8_isRight b).toInt ≠ 0 ∧ 32 ≤ (b &&& 127).toInt)) := ⟨za_127, za_8, za_right, fun _ _ => zo_code⟩
def poP : Nat → Int32 → Int32 → Option Int32
  | 0 => fun _ _ => none
  | n + 1 => fun x1 x2 => if x2 = 0 then (if (x1 - x1 / 2 * 2) = 1 then some 1 else some 0) else poP n (x1 + 1) (x2 &&& (x2 - 1))
theorem poP_eq (σ : mm_M) (x0 : Int32) : ∀ (n : Nat) (x1 x2 : Int32), fX9_isOdd_8 n x0 x1 x2 σ = (poP n x1 x2).map (fun v => (v, σ)) := by
  intro n
  induction n with
  | zero => intro x1 x2; rfl
  | succ n ih =>
    intro x1 x2
    unfold fX9_isOdd_8 poP
    split
    · split <;> rfl
    · exact ih _ _
theorem po_all : ∀ k : Fin 256, poP mm_fuel 0 (Int32.ofNat k.val) = some (fX8_isRight (Int32.ofNat k.val)) := by decide +kernel
theorem zn_255 (x : Int32) : ∃ k : Fin 256, x &&& 255 = Int32.ofNat k.val := by
  have h := zi_and x 255 (by decide)
  have e : (255 : Int32).toInt = 255 := rfl
  rw [e] at h
  refine ⟨⟨(x &&& 255).toInt.toNat, by omega⟩, ?_⟩
  have := Int32.ofNat_toNatClampNeg (x := x &&& 255)
  rw [zi_clamp] at this
  exact (this (by rw [zi_le]; exact h.1)).symm
theorem po_isOdd (x : Int32) (σ : mm_M) : fX9_isOdd x σ = some (fX8_isRight x, σ) := by
  unfold fX9_isOdd
  rw [poP_eq]
  obtain ⟨k, hk⟩ := zn_255 x
  rw [hk, po_all k, ← hk, za_right]
  rfl
theorem vX9_isOdd {T : Nat → Option Nat} {σ0 : mm_M} {p0 : Int32} (_ : sCI T σ0) : sw (fX9_isOdd p0 σ0) (fun R => R.2 = σ0 ∧ (R.1 = fX8_isRight p0)) := ⟨_, po_isOdd p0 σ0, rfl, rfl⟩
def mm_e0 : mm_M := (0, fun _ => none, fun _ _ => 0, fun _ _ => none, fun _ _ => 0)
def poM (σ : mm_M) (r : Int32 × mm_M) : Int32 × mm_M := (r.1, σ)
theorem po_mend (x : Int32) (σ : mm_M) : fX8_mend x σ = (fX8_mend x mm_e0).map (poM σ) := by
  unfold fX8_mend fX8_mend_15 fX8_mend_30 fX8_mend_45 mm_ib
  simp only [apply_ite (Option.map (poM σ)), Option.map_none, Option.map_some]
  rfl
theorem po_guard (x : Int32) (σ : mm_M) : fX9_guard x σ = (fX9_guard (x &&& 255) mm_e0).map (poM σ) := by
  unfold fX9_guard fX9_guard_202
  rw [po_isOdd, po_isOdd]
  simp only [za_255]
  simp only [mm_on, apply_ite (Option.map (poM σ)), Option.map_some]
  rfl
theorem po_same : ∀ k : Fin 256, (fX8_mend (Int32.ofNat k.val) mm_e0).map Prod.fst = (fX9_guard (Int32.ofNat k.val) mm_e0).map Prod.fst ∧ (fX8_mend (Int32.ofNat k.val) mm_e0).isSome = true := by decide +kernel
/-- guarded: both answer alike, and change nothing but 'thrown' -/
theorem po_guarded (x : Int32) (σ τ : mm_M) : ∃ v, fX8_mend (x &&& 255) σ = some (v, σ) ∧ fX9_guard x τ = some (v, τ) := by
  obtain ⟨k, hk⟩ := zn_255 x
  have h := po_same k
  rw [po_mend, po_guard, hk]
  cases e1 : fX8_mend (Int32.ofNat k.val) mm_e0 with
  | none => rw [e1] at h; cases h.2
  | some r1 =>
    rw [e1] at h
    cases e2 : fX9_guard (Int32.ofNat k.val) mm_e0 with
    | none => rw [e2] at h; cases h.1
    | some r2 =>
      rw [e2] at h
      have e3 : r1.1 = r2.1 := Option.some.inj h.1
      exact ⟨r1.1, rfl, by rw [e3]; rfl⟩

abbrev VX9_goes : List Nat := [900]
set_option maxHeartbeats 4000000 in
set_option maxRecDepth 10000 in
theorem vX9_goes {T : Nat → Option Nat} {σ0 : mm_M} {p0 : Nat} {p1 : Int32} (c0 : sCI T σ0) (t_p0 : T p0 = some 9) (p_0 : 0 ≤ p1.toInt ∧ p1.toInt ≤ 1) : sw (fX9_goes p0 p1 σ0) (fun R => sCI T R.2 ∧ sFR T VX9_goes σ0 R.2 ∧ (R.1 = p1 ∧ (mm_I R.2 p0 0).toInt = 1 - p1.toInt)) := by
  have f0 : sFR T VX9_goes σ0 σ0 := fr_refl
  unfold fX9_goes
  refine sw_ite (fun h2502 => ?_) (fun h2502 => ?_)
  · refine sw_sh (ci_sh c0 t_p0 rfl) ?_
    have cs3 := ci_wI c0 t_p0 (j := 0) (v := 1) (kr_n rfl)
    have fs3 := fr_wI f0 t_p0 (j := 0) (v := 1) rfl
    refine sw_let (fun s3 es3 => ?_)
    rw [es3] at cs3 fs3
    refine sw_ck (by (try simp only [zp, zo, zq] at p_0 h2502 ⊢) <;> (try simp only [zz, Int32.reduceToInt, ne_eq] at p_0 h2502 ⊢) <;> (try simp (disch := omega) only [zb] at p_0 h2502 ⊢) <;> first | omega | ((try simp (disch := omega) only [zb] at p_0 h2502 ⊢) <;> omega)) ?_
    have w2503 : mm_I s3 p0 0 = 1 := by rw [← es3]; exact rd_self
    exact sw_some ⟨cs3, fs3, (by (try simp only [zp, zo, zq] at p_0 h2502 w2503 ⊢) <;> (try simp only [zz, Int32.reduceToInt, ne_eq] at p_0 h2502 w2503 ⊢) <;> (try simp (disch := omega) only [zb] at p_0 h2502 w2503 ⊢) <;> first | omega | ((try simp (disch := omega) only [zb] at p_0 h2502 w2503 ⊢) <;> omega))⟩
  · refine sw_sh (ci_sh c0 t_p0 rfl) ?_
    have cs6 := ci_wI c0 t_p0 (j := 0) (v := 0) (kr_n rfl)
    have fs6 := fr_wI f0 t_p0 (j := 0) (v := 0) rfl
    refine sw_let (fun s6 es6 => ?_)
    rw [es6] at cs6 fs6
    refine sw_ck (by (try simp only [zp, zo, zq] at p_0 h2502 ⊢) <;> (try simp only [zz, Int32.reduceToInt, ne_eq] at p_0 h2502 ⊢) <;> (try simp (disch := omega) only [zb] at p_0 h2502 ⊢) <;> first | omega | ((try simp (disch := omega) only [zb] at p_0 h2502 ⊢) <;> omega)) ?_
    have w2504 : mm_I s6 p0 0 = 0 := by rw [← es6]; exact rd_self
    exact sw_some ⟨cs6, fs6, (by (try simp only [zp, zo, zq] at p_0 h2502 w2504 ⊢) <;> (try simp only [zz, Int32.reduceToInt, ne_eq] at p_0 h2502 w2504 ⊢) <;> (try simp (disch := omega) only [zb] at p_0 h2502 w2504 ⊢) <;> first | omega | ((try simp (disch := omega) only [zb] at p_0 h2502 w2504 ⊢) <;> omega))⟩
abbrev VX8_channel : List Nat := []
set_option maxHeartbeats 4000000 in
set_option maxRecDepth 10000 in
theorem vX8_channel {T : Nat → Option Nat} {σ0 : mm_M} {p0 : Nat} {p1 : Int32} (c0 : sCI T σ0) (hv : sFV T σ0) (t_p0 : T p0 = some 8) : sw (fX8_channel p0 p1 σ0) (fun R => sCI T R.2 ∧ sFR T VX8_channel σ0 R.2 ∧ (((0 ≤ p1.toInt ∧ p1.toInt ≤ 1) ∧ oi R.1 = -1) ∨ (¬ (0 ≤ p1.toInt ∧ p1.toInt ≤ 1) ∧ oi R.1 = -9999999999))) := by
  have f0 : sFR T VX8_channel σ0 σ0 := fr_refl
  unfold fX8_channel
  refine sw_ite (fun h2505 => ?_) (fun h2505 => ?_)
  · refine sw_sh (ci_sh c0 t_p0 rfl) ?_
    obtain ⟨q3, eq3, tq3⟩ := ci_ref c0 t_p0 1 (κ' := 11) rfl
    refine sw_onS eq3 ?_
    refine sw_ar (ci_sh c0 tq3 rfl) ?_
    refine sw_ib (by (try simp only [zp, zo, zq] at h2505 ⊢) <;> (try simp only [zz, Int32.reduceToInt, ne_eq] at h2505 ⊢) <;> (try simp (disch := omega) only [zb] at h2505 ⊢) <;> first | omega | ((try simp (disch := omega) only [zb] at h2505 ⊢) <;> omega)) ?_
    have f2506 : mm_I σ0 q3 p1.toNatClampNeg = -1 := hv q3 11 p1.toNatClampNeg tq3 (by (try simp only [zp, zo, zq] at h2505 ⊢) <;> (try simp only [zz, Int32.reduceToInt, ne_eq] at h2505 ⊢) <;> (try simp (disch := omega) only [zb] at h2505 ⊢) <;> first | omega | ((try simp (disch := omega) only [zb] at h2505 ⊢) <;> omega))
    exact sw_some ⟨c0, f0, (by (try simp only [zp, zo, zq] at h2505 f2506 ⊢) <;> (try simp only [zz, Int32.reduceToInt, ne_eq] at h2505 f2506 ⊢) <;> (try simp (disch := omega) only [zb] at h2505 f2506 ⊢) <;> first | omega | ((try simp (disch := omega) only [zb] at h2505 f2506 ⊢) <;> omega))⟩
  · exact sw_some ⟨c0, f0, (by (try simp only [zp, zo, zq] at h2505 ⊢) <;> (try simp only [zz, Int32.reduceToInt, ne_eq] at h2505 ⊢) <;> (try simp (disch := omega) only [zb] at h2505 ⊢) <;> first | omega | ((try simp (disch := omega) only [zb] at h2505 ⊢) <;> omega))⟩
abbrev VX9_channel : List Nat := [900]
set_option maxHeartbeats 4000000 in
set_option maxRecDepth 10000 in
theorem vX9_channel {T : Nat → Option Nat} {σ0 : mm_M} {p0 : Nat} {p1 : Int32} (c0 : sCI T σ0) (hv : sFV9 T σ0) (t_p0 : T p0 = some 9) : sw (fX9_channel p0 p1 σ0) (fun R => sCI T R.2 ∧ sFR T VX9_channel σ0 R.2 ∧ (((0 ≤ p1.toInt ∧ p1.toInt ≤ 1) ∧ R.1.toInt = -1 ∧ (mm_I R.2 p0 0).toInt = 0) ∨ (¬ (0 ≤ p1.toInt ∧ p1.toInt ≤ 1) ∧ (mm_I R.2 p0 0).toInt = 1))) := by
  have f0 : sFR T VX9_channel σ0 σ0 := fr_refl
  unfold fX9_channel
  refine sw_sh (ci_sh c0 t_p0 rfl) ?_
  have u2507 := su_in p1 0 1
  refine sw_on (vX9_goes c0 t_p0 (by (try simp only [zp, zo, zq] at u2507 ⊢) <;> (try simp only [zz, Int32.reduceToInt, ne_eq] at u2507 ⊢) <;> (try simp (disch := omega) only [zb] at u2507 ⊢) <;> first | omega | ((try simp (disch := omega) only [zb] at u2507 ⊢) <;> omega)) ) ?_
  intro q2 hqq2
  obtain ⟨cq2, gq2, xq2⟩ := hqq2
  have fq2 := fr_trans f0 gq2 rfl
  refine sw_ite (fun h2508 => ?_) (fun h2508 => ?_)
  · exact sw_some ⟨cq2, fq2, (by (try simp only [zp, zo, zq] at u2507 xq2 h2508 ⊢) <;> (try simp only [zz, Int32.reduceToInt, ne_eq] at u2507 xq2 h2508 ⊢) <;> (try simp (disch := omega) only [zb] at u2507 xq2 h2508 ⊢) <;> first | omega | ((try simp (disch := omega) only [zb] at u2507 xq2 h2508 ⊢) <;> omega))⟩
  · refine sw_sh (ci_sh cq2 t_p0 rfl) ?_
    obtain ⟨q5, eq5, tq5⟩ := ci_ref cq2 t_p0 9 (κ' := 59) rfl
    refine sw_onS eq5 ?_
    refine sw_ar (ci_sh cq2 tq5 rfl) ?_
    refine sw_ib (by (try simp only [zp, zo, zq] at u2507 xq2 h2508 ⊢) <;> (try simp only [zz, Int32.reduceToInt, ne_eq] at u2507 xq2 h2508 ⊢) <;> (try simp (disch := omega) only [zb] at u2507 xq2 h2508 ⊢) <;> first | omega | ((try simp (disch := omega) only [zb] at u2507 xq2 h2508 ⊢) <;> omega)) ?_
    have w2510 := (gq2.2.2 _ _ tq5 p1.toNatClampNeg rfl).1
    have f2511 : mm_I σ0 q5 p1.toNatClampNeg = -1 := hv q5 59 p1.toNatClampNeg tq5 (Or.inr (by decide)) (by (try simp only [zp, zo, zq] at u2507 xq2 h2508 w2510 ⊢) <;> (try simp only [zz, Int32.reduceToInt, ne_eq] at u2507 xq2 h2508 w2510 ⊢) <;> (try simp (disch := omega) only [zb] at u2507 xq2 h2508 w2510 ⊢) <;> first | omega | ((try simp (disch := omega) only [zb] at u2507 xq2 h2508 w2510 ⊢) <;> omega))
    have r2512 := ci_rg c0 tq5 p1.toNatClampNeg (lo := (-1)) (hi := 3) rfl
    have r2513 := ci_rg cq2 tq5 p1.toNatClampNeg (lo := (-1)) (hi := 3) rfl
    exact sw_some ⟨cq2, fq2, (by (try simp only [zp, zo, zq] at u2507 xq2 h2508 w2510 f2511 r2512 r2513 ⊢) <;> (try simp only [zz, Int32.reduceToInt, ne_eq] at u2507 xq2 h2508 w2510 f2511 r2512 r2513 ⊢) <;> (try simp (disch := omega) only [zb] at u2507 xq2 h2508 w2510 f2511 r2512 r2513 ⊢) <;> first | omega | ((try simp (disch := omega) only [zb] at u2507 xq2 h2508 w2510 f2511 r2512 r2513 ⊢) <;> omega))⟩
abbrev VX8_nothing : List Nat := []
set_option maxHeartbeats 4000000 in
set_option maxRecDepth 10000 in
theorem vX8_nothing {T : Nat → Option Nat} {σ0 : mm_M} {p0 : Nat} {p1 : Int32} (c0 : sCI T σ0) (hv : sFV T σ0) (t_p0 : T p0 = some 8) : sw (fX8_nothing p0 p1 σ0) (fun R => sCI T R.2 ∧ sFR T VX8_nothing σ0 R.2 ∧ (((0 ≤ p1.toInt ∧ p1.toInt ≤ 2) ∧ oi R.1 = 0) ∨ (¬ (0 ≤ p1.toInt ∧ p1.toInt ≤ 2) ∧ oi R.1 = -9999999999))) := by
  have f0 : sFR T VX8_nothing σ0 σ0 := fr_refl
  unfold fX8_nothing
  refine sw_ite (fun h2515 => ?_) (fun h2515 => ?_)
  · refine sw_sh (ci_sh c0 t_p0 rfl) ?_
    obtain ⟨q3, eq3, tq3⟩ := ci_ref c0 t_p0 6 (κ' := 16) rfl
    refine sw_onS eq3 ?_
    refine sw_ar (ci_sh c0 tq3 rfl) ?_
    refine sw_ib (by (try simp only [zp, zo, zq] at h2515 ⊢) <;> (try simp only [zz, Int32.reduceToInt, ne_eq] at h2515 ⊢) <;> (try simp (disch := omega) only [zb] at h2515 ⊢) <;> first | omega | ((try simp (disch := omega) only [zb] at h2515 ⊢) <;> omega)) ?_
    have f2516 : mm_I σ0 q3 p1.toNatClampNeg = 0 := hv q3 16 p1.toNatClampNeg tq3
    exact sw_some ⟨c0, f0, (by (try simp only [zp, zo, zq] at h2515 f2516 ⊢) <;> (try simp only [zz, Int32.reduceToInt, ne_eq] at h2515 f2516 ⊢) <;> (try simp (disch := omega) only [zb] at h2515 f2516 ⊢) <;> first | omega | ((try simp (disch := omega) only [zb] at h2515 f2516 ⊢) <;> omega))⟩
  · exact sw_some ⟨c0, f0, (by (try simp only [zp, zo, zq] at h2515 ⊢) <;> (try simp only [zz, Int32.reduceToInt, ne_eq] at h2515 ⊢) <;> (try simp (disch := omega) only [zb] at h2515 ⊢) <;> first | omega | ((try simp (disch := omega) only [zb] at h2515 ⊢) <;> omega))⟩
abbrev VX9_nothing : List Nat := [900]
set_option maxHeartbeats 4000000 in
set_option maxRecDepth 10000 in
theorem vX9_nothing {T : Nat → Option Nat} {σ0 : mm_M} {p0 : Nat} {p1 : Int32} (c0 : sCI T σ0) (hv : sFV9 T σ0) (t_p0 : T p0 = some 9) : sw (fX9_nothing p0 p1 σ0) (fun R => sCI T R.2 ∧ sFR T VX9_nothing σ0 R.2 ∧ (((0 ≤ p1.toInt ∧ p1.toInt ≤ 2) ∧ R.1.toInt = 0 ∧ (mm_I R.2 p0 0).toInt = 0) ∨ (¬ (0 ≤ p1.toInt ∧ p1.toInt ≤ 2) ∧ (mm_I R.2 p0 0).toInt = 1))) := by
  have f0 : sFR T VX9_nothing σ0 σ0 := fr_refl
  unfold fX9_nothing
  refine sw_sh (ci_sh c0 t_p0 rfl) ?_
  have u2517 := su_in p1 0 2
  refine sw_on (vX9_goes c0 t_p0 (by (try simp only [zp, zo, zq] at u2517 ⊢) <;> (try simp only [zz, Int32.reduceToInt, ne_eq] at u2517 ⊢) <;> (try simp (disch := omega) only [zb] at u2517 ⊢) <;> first | omega | ((try simp (disch := omega) only [zb] at u2517 ⊢) <;> omega)) ) ?_
  intro q2 hqq2
  obtain ⟨cq2, gq2, xq2⟩ := hqq2
  have fq2 := fr_trans f0 gq2 rfl
  refine sw_ite (fun h2518 => ?_) (fun h2518 => ?_)
  · exact sw_some ⟨cq2, fq2, (by (try simp only [zp, zo, zq] at u2517 xq2 h2518 ⊢) <;> (try simp only [zz, Int32.reduceToInt, ne_eq] at u2517 xq2 h2518 ⊢) <;> (try simp (disch := omega) only [zb] at u2517 xq2 h2518 ⊢) <;> first | omega | ((try simp (disch := omega) only [zb] at u2517 xq2 h2518 ⊢) <;> omega))⟩
  · refine sw_sh (ci_sh cq2 t_p0 rfl) ?_
    obtain ⟨q5, eq5, tq5⟩ := ci_ref cq2 t_p0 13 (κ' := 63) rfl
    refine sw_onS eq5 ?_
    refine sw_ar (ci_sh cq2 tq5 rfl) ?_
    refine sw_ib (by (try simp only [zp, zo, zq] at u2517 xq2 h2518 ⊢) <;> (try simp only [zz, Int32.reduceToInt, ne_eq] at u2517 xq2 h2518 ⊢) <;> (try simp (disch := omega) only [zb] at u2517 xq2 h2518 ⊢) <;> first | omega | ((try simp (disch := omega) only [zb] at u2517 xq2 h2518 ⊢) <;> omega)) ?_
    have w2520 := (gq2.2.2 _ _ tq5 p1.toNatClampNeg rfl).1
    have f2521 : mm_I σ0 q5 p1.toNatClampNeg = 0 := hv q5 63 p1.toNatClampNeg tq5 (Or.inr (by decide))
    exact sw_some ⟨cq2, fq2, (by (try simp only [zp, zo, zq] at u2517 xq2 h2518 w2520 f2521 ⊢) <;> (try simp only [zz, Int32.reduceToInt, ne_eq] at u2517 xq2 h2518 w2520 f2521 ⊢) <;> (try simp (disch := omega) only [zb] at u2517 xq2 h2518 w2520 f2521 ⊢) <;> first | omega | ((try simp (disch := omega) only [zb] at u2517 xq2 h2518 w2520 f2521 ⊢) <;> omega))⟩
abbrev VX8_state : List Nat := []
set_option maxHeartbeats 4000000 in
set_option maxRecDepth 10000 in
theorem vX8_state {T : Nat → Option Nat} {σ0 : mm_M} {p0 : Nat} {p1 : Int32} {p2 : Int32} (c0 : sCI T σ0) (hv : sFV T σ0) (t_p0 : T p0 = some 8) : sw (fX8_state p0 p1 p2 σ0) (fun R => sCI T R.2 ∧ sFR T VX8_state σ0 R.2 ∧ (((0 ≤ p1.toInt ∧ p1.toInt ≤ 3 ∧ 0 ≤ p2.toInt ∧ p2.toInt ≤ 4) ∧ ((p2.toInt = 1 ∧ oi R.1 = 1) ∨ (p2.toInt = 4 ∧ oi R.1 = 2) ∨ (p2.toInt ≠ 1 ∧ p2.toInt ≠ 4 ∧ oi R.1 = 0))) ∨ (¬ (0 ≤ p1.toInt ∧ p1.toInt ≤ 3 ∧ 0 ≤ p2.toInt ∧ p2.toInt ≤ 4) ∧ oi R.1 = -9999999999))) := by
  have f0 : sFR T VX8_state σ0 σ0 := fr_refl
  unfold fX8_state
  refine sw_ite (fun h2523 => ?_) (fun h2523 => ?_)
  · refine sw_ite (fun h2524 => ?_) (fun h2524 => ?_)
    · refine sw_sh (ci_sh c0 t_p0 rfl) ?_
      obtain ⟨q4, eq4, tq4⟩ := ci_ref c0 t_p0 0 (κ' := 10) rfl
      refine sw_onS eq4 ?_
      refine sw_ar (ci_sh c0 tq4 rfl) ?_
      refine sw_ib (by (try simp only [zp, zo, zq] at h2523 h2524 ⊢) <;> (try simp only [zz, Int32.reduceToInt, ne_eq] at h2523 h2524 ⊢) <;> (try simp (disch := omega) only [zb] at h2523 h2524 ⊢) <;> first | omega | ((try simp (disch := omega) only [zb] at h2523 h2524 ⊢) <;> omega)) ?_
      refine sw_ite (fun h2525 => ?_) (fun h2525 => ?_)
      · obtain ⟨q8, eq8, tq8⟩ := ci_chan c0 tq4 (k := p1.toNatClampNeg) (by (try simp only [zp, zo, zq] at h2523 h2524 h2525 ⊢) <;> (try simp only [zz, Int32.reduceToInt, ne_eq] at h2523 h2524 h2525 ⊢) <;> (try simp (disch := omega) only [zb] at h2523 h2524 h2525 ⊢) <;> first | omega | ((try simp (disch := omega) only [zb] at h2523 h2524 h2525 ⊢) <;> omega))
        refine sw_onS eq8 ?_
        refine sw_sh (ci_sh c0 tq8 rfl) ?_
        have f2526 : mm_I σ0 q8 2 = 0 := hv q8 0 2 tq8
        exact sw_some ⟨c0, f0, (by (try simp only [zp, zo, zq] at h2523 h2524 h2525 f2526 ⊢) <;> (try simp only [zz, Int32.reduceToInt, ne_eq] at h2523 h2524 h2525 f2526 ⊢) <;> (try simp (disch := omega) only [zb] at h2523 h2524 h2525 f2526 ⊢) <;> first | omega | ((try simp (disch := omega) only [zb] at h2523 h2524 h2525 f2526 ⊢) <;> omega))⟩
      · refine sw_ite (fun h2527 => ?_) (fun h2527 => ?_)
        · obtain ⟨q11, eq11, tq11⟩ := ci_chan c0 tq4 (k := p1.toNatClampNeg) (by (try simp only [zp, zo, zq] at h2523 h2524 h2525 h2527 ⊢) <;> (try simp only [zz, Int32.reduceToInt, ne_eq] at h2523 h2524 h2525 h2527 ⊢) <;> (try simp (disch := omega) only [zb] at h2523 h2524 h2525 h2527 ⊢) <;> first | omega | ((try simp (disch := omega) only [zb] at h2523 h2524 h2525 h2527 ⊢) <;> omega))
          refine sw_onS eq11 ?_
          refine sw_sh (ci_sh c0 tq11 rfl) ?_
          have f2528 : mm_I σ0 q11 3 = 1 := hv q11 0 3 tq11
          have r2529 := ci_rg c0 tq11 3 (lo := 1) (hi := 15) rfl
          exact sw_some ⟨c0, f0, (by (try simp only [zp, zo, zq] at h2523 h2524 h2525 h2527 f2528 r2529 ⊢) <;> (try simp only [zz, Int32.reduceToInt, ne_eq] at h2523 h2524 h2525 h2527 f2528 r2529 ⊢) <;> (try simp (disch := omega) only [zb] at h2523 h2524 h2525 h2527 f2528 r2529 ⊢) <;> first | omega | ((try simp (disch := omega) only [zb] at h2523 h2524 h2525 h2527 f2528 r2529 ⊢) <;> omega))⟩
        · refine sw_ite (fun h2530 => ?_) (fun h2530 => ?_)
          · obtain ⟨q14, eq14, tq14⟩ := ci_chan c0 tq4 (k := p1.toNatClampNeg) (by (try simp only [zp, zo, zq] at h2523 h2524 h2525 h2527 h2530 ⊢) <;> (try simp only [zz, Int32.reduceToInt, ne_eq] at h2523 h2524 h2525 h2527 h2530 ⊢) <;> (try simp (disch := omega) only [zb] at h2523 h2524 h2525 h2527 h2530 ⊢) <;> first | omega | ((try simp (disch := omega) only [zb] at h2523 h2524 h2525 h2527 h2530 ⊢) <;> omega))
            refine sw_onS eq14 ?_
            refine sw_sh (ci_sh c0 tq14 rfl) ?_
            have f2531 : mm_I σ0 q14 4 = 0 := hv q14 0 4 tq14
            exact sw_some ⟨c0, f0, (by (try simp only [zp, zo, zq] at h2523 h2524 h2525 h2527 h2530 f2531 ⊢) <;> (try simp only [zz, Int32.reduceToInt, ne_eq] at h2523 h2524 h2525 h2527 h2530 f2531 ⊢) <;> (try simp (disch := omega) only [zb] at h2523 h2524 h2525 h2527 h2530 f2531 ⊢) <;> first | omega | ((try simp (disch := omega) only [zb] at h2523 h2524 h2525 h2527 h2530 f2531 ⊢) <;> omega))⟩
          · refine sw_ite (fun h2532 => ?_) (fun h2532 => ?_)
            · obtain ⟨q17, eq17, tq17⟩ := ci_chan c0 tq4 (k := p1.toNatClampNeg) (by (try simp only [zp, zo, zq] at h2523 h2524 h2525 h2527 h2530 h2532 ⊢) <;> (try simp only [zz, Int32.reduceToInt, ne_eq] at h2523 h2524 h2525 h2527 h2530 h2532 ⊢) <;> (try simp (disch := omega) only [zb] at h2523 h2524 h2525 h2527 h2530 h2532 ⊢) <;> first | omega | ((try simp (disch := omega) only [zb] at h2523 h2524 h2525 h2527 h2530 h2532 ⊢) <;> omega))
              refine sw_onS eq17 ?_
              refine sw_sh (ci_sh c0 tq17 rfl) ?_
              have f2533 : mm_I σ0 q17 5 = 0 := hv q17 0 5 tq17
              exact sw_some ⟨c0, f0, (by (try simp only [zp, zo, zq] at h2523 h2524 h2525 h2527 h2530 h2532 f2533 ⊢) <;> (try simp only [zz, Int32.reduceToInt, ne_eq] at h2523 h2524 h2525 h2527 h2530 h2532 f2533 ⊢) <;> (try simp (disch := omega) only [zb] at h2523 h2524 h2525 h2527 h2530 h2532 f2533 ⊢) <;> first | omega | ((try simp (disch := omega) only [zb] at h2523 h2524 h2525 h2527 h2530 h2532 f2533 ⊢) <;> omega))⟩
            · obtain ⟨q19, eq19, tq19⟩ := ci_chan c0 tq4 (k := p1.toNatClampNeg) (by (try simp only [zp, zo, zq] at h2523 h2524 h2525 h2527 h2530 h2532 ⊢) <;> (try simp only [zz, Int32.reduceToInt, ne_eq] at h2523 h2524 h2525 h2527 h2530 h2532 ⊢) <;> (try simp (disch := omega) only [zb] at h2523 h2524 h2525 h2527 h2530 h2532 ⊢) <;> first | omega | ((try simp (disch := omega) only [zb] at h2523 h2524 h2525 h2527 h2530 h2532 ⊢) <;> omega))
              refine sw_onS eq19 ?_
              refine sw_sh (ci_sh c0 tq19 rfl) ?_
              have f2534 : mm_I σ0 q19 6 = 2 := hv q19 0 6 tq19
              have r2535 := ci_rg c0 tq19 6 (lo := 2) (hi := 4) rfl
              exact sw_some ⟨c0, f0, (by (try simp only [zp, zo, zq] at h2523 h2524 h2525 h2527 h2530 h2532 f2534 r2535 ⊢) <;> (try simp only [zz, Int32.reduceToInt, ne_eq] at h2523 h2524 h2525 h2527 h2530 h2532 f2534 r2535 ⊢) <;> (try simp (disch := omega) only [zb] at h2523 h2524 h2525 h2527 h2530 h2532 f2534 r2535 ⊢) <;> first | omega | ((try simp (disch := omega) only [zb] at h2523 h2524 h2525 h2527 h2530 h2532 f2534 r2535 ⊢) <;> omega))⟩
    · exact sw_some ⟨c0, f0, (by (try simp only [zp, zo, zq] at h2523 h2524 ⊢) <;> (try simp only [zz, Int32.reduceToInt, ne_eq] at h2523 h2524 ⊢) <;> (try simp (disch := omega) only [zb] at h2523 h2524 ⊢) <;> first | omega | ((try simp (disch := omega) only [zb] at h2523 h2524 ⊢) <;> omega))⟩
  · exact sw_some ⟨c0, f0, (by (try simp only [zp, zo, zq] at h2523 ⊢) <;> (try simp only [zz, Int32.reduceToInt, ne_eq] at h2523 ⊢) <;> (try simp (disch := omega) only [zb] at h2523 ⊢) <;> first | omega | ((try simp (disch := omega) only [zb] at h2523 ⊢) <;> omega))⟩
abbrev VX9_state : List Nat := [900]
set_option maxHeartbeats 4000000 in
set_option maxRecDepth 10000 in
theorem vX9_state {T : Nat → Option Nat} {σ0 : mm_M} {p0 : Nat} {p1 : Int32} {p2 : Int32} (c0 : sCI T σ0) (hv : sFV9 T σ0) (t_p0 : T p0 = some 9) : sw (fX9_state p0 p1 p2 σ0) (fun R => sCI T R.2 ∧ sFR T VX9_state σ0 R.2 ∧ (((0 ≤ p1.toInt ∧ p1.toInt ≤ 3 ∧ 0 ≤ p2.toInt ∧ p2.toInt ≤ 4) ∧ ((p2.toInt = 1 ∧ R.1.toInt = 1) ∨ (p2.toInt = 4 ∧ R.1.toInt = 2) ∨ (p2.toInt ≠ 1 ∧ p2.toInt ≠ 4 ∧ R.1.toInt = 0)) ∧ (mm_I R.2 p0 0).toInt = 0) ∨ (¬ (0 ≤ p1.toInt ∧ p1.toInt ≤ 3 ∧ 0 ≤ p2.toInt ∧ p2.toInt ≤ 4) ∧ (mm_I R.2 p0 0).toInt = 1))) := by
  have f0 : sFR T VX9_state σ0 σ0 := fr_refl
  unfold fX9_state
  have u2536 := su_in p1 0 3
  refine sw_ite (fun h2537 => ?_) (fun h2537 => ?_)
  · unfold fX9_state_23
    unfold fX9_state_24
    refine sw_sh (ci_sh c0 t_p0 rfl) ?_
    refine sw_on (vX9_goes c0 t_p0 (by (try simp only [zp, zo, zq] at u2536 h2537 ⊢) <;> (try simp only [zz, Int32.reduceToInt, ne_eq] at u2536 h2537 ⊢) <;> (try simp (disch := omega) only [zb] at u2536 h2537 ⊢) <;> first | omega | ((try simp (disch := omega) only [zb] at u2536 h2537 ⊢) <;> omega)) ) ?_
    intro q3 hqq3
    obtain ⟨cq3, gq3, xq3⟩ := hqq3
    have fq3 := fr_trans f0 gq3 rfl
    refine sw_ite (fun h2538 => ?_) (fun h2538 => ?_)
    · exact sw_some ⟨cq3, fq3, (by (try simp only [zp, zo, zq] at u2536 h2537 xq3 h2538 ⊢) <;> (try simp only [zz, Int32.reduceToInt, ne_eq] at u2536 h2537 xq3 h2538 ⊢) <;> (try simp (disch := omega) only [zb] at u2536 h2537 xq3 h2538 ⊢) <;> first | omega | ((try simp (disch := omega) only [zb] at u2536 h2537 xq3 h2538 ⊢) <;> omega))⟩
    · refine sw_ite (fun h2540 => ?_) (fun h2540 => ?_)
      · refine sw_sh (ci_sh cq3 t_p0 rfl) ?_
        obtain ⟨q26, eq26, tq26⟩ := ci_ref cq3 t_p0 4 (κ' := 54) rfl
        refine sw_onS eq26 ?_
        refine sw_ar (ci_sh cq3 tq26 rfl) ?_
        refine sw_ib (by (try simp only [zp, zo, zq] at u2536 h2537 xq3 h2538 h2540 ⊢) <;> (try simp only [zz, Int32.reduceToInt, ne_eq] at u2536 h2537 xq3 h2538 h2540 ⊢) <;> (try simp (disch := omega) only [zb] at u2536 h2537 xq3 h2538 h2540 ⊢) <;> first | omega | ((try simp (disch := omega) only [zb] at u2536 h2537 xq3 h2538 h2540 ⊢) <;> omega)) ?_
        have w2541 := (gq3.2.2 _ _ tq26 p1.toNatClampNeg rfl).1
        have f2542 : mm_I σ0 q26 p1.toNatClampNeg = 0 := hv q26 54 p1.toNatClampNeg tq26 (Or.inr (by decide))
        exact sw_some ⟨cq3, fq3, (by (try simp only [zp, zo, zq] at u2536 h2537 xq3 h2538 h2540 w2541 f2542 ⊢) <;> (try simp only [zz, Int32.reduceToInt, ne_eq] at u2536 h2537 xq3 h2538 h2540 w2541 f2542 ⊢) <;> (try simp (disch := omega) only [zb] at u2536 h2537 xq3 h2538 h2540 w2541 f2542 ⊢) <;> first | omega | ((try simp (disch := omega) only [zb] at u2536 h2537 xq3 h2538 h2540 w2541 f2542 ⊢) <;> omega))⟩
      · refine sw_ite (fun h2544 => ?_) (fun h2544 => ?_)
        · refine sw_sh (ci_sh cq3 t_p0 rfl) ?_
          obtain ⟨q22, eq22, tq22⟩ := ci_ref cq3 t_p0 5 (κ' := 55) rfl
          refine sw_onS eq22 ?_
          refine sw_ar (ci_sh cq3 tq22 rfl) ?_
          refine sw_ib (by (try simp only [zp, zo, zq] at u2536 h2537 xq3 h2538 h2540 h2544 ⊢) <;> (try simp only [zz, Int32.reduceToInt, ne_eq] at u2536 h2537 xq3 h2538 h2540 h2544 ⊢) <;> (try simp (disch := omega) only [zb] at u2536 h2537 xq3 h2538 h2540 h2544 ⊢) <;> first | omega | ((try simp (disch := omega) only [zb] at u2536 h2537 xq3 h2538 h2540 h2544 ⊢) <;> omega)) ?_
          have w2545 := (gq3.2.2 _ _ tq22 p1.toNatClampNeg rfl).1
          have f2546 : mm_I σ0 q22 p1.toNatClampNeg = 1 := hv q22 55 p1.toNatClampNeg tq22 (Or.inr (by decide)) (by (try simp only [zp, zo, zq] at u2536 h2537 xq3 h2538 h2540 h2544 w2545 ⊢) <;> (try simp only [zz, Int32.reduceToInt, ne_eq] at u2536 h2537 xq3 h2538 h2540 h2544 w2545 ⊢) <;> (try simp (disch := omega) only [zb] at u2536 h2537 xq3 h2538 h2540 h2544 w2545 ⊢) <;> first | omega | ((try simp (disch := omega) only [zb] at u2536 h2537 xq3 h2538 h2540 h2544 w2545 ⊢) <;> omega))
          have r2547 := ci_rg c0 tq22 p1.toNatClampNeg (lo := 1) (hi := 15) (krng_55 (by (try simp only [zp, zo, zq] at u2536 h2537 xq3 h2538 h2540 h2544 w2545 f2546 ⊢) <;> (try simp only [zz, Int32.reduceToInt, ne_eq] at u2536 h2537 xq3 h2538 h2540 h2544 w2545 f2546 ⊢) <;> (try simp (disch := omega) only [zb] at u2536 h2537 xq3 h2538 h2540 h2544 w2545 f2546 ⊢) <;> first | omega | ((try simp (disch := omega) only [zb] at u2536 h2537 xq3 h2538 h2540 h2544 w2545 f2546 ⊢) <;> omega)))
          have r2548 := ci_rg cq3 tq22 p1.toNatClampNeg (lo := 1) (hi := 15) (krng_55 (by (try simp only [zp, zo, zq] at u2536 h2537 xq3 h2538 h2540 h2544 w2545 f2546 r2547 ⊢) <;> (try simp only [zz, Int32.reduceToInt, ne_eq] at u2536 h2537 xq3 h2538 h2540 h2544 w2545 f2546 r2547 ⊢) <;> (try simp (disch := omega) only [zb] at u2536 h2537 xq3 h2538 h2540 h2544 w2545 f2546 r2547 ⊢) <;> first | omega | ((try simp (disch := omega) only [zb] at u2536 h2537 xq3 h2538 h2540 h2544 w2545 f2546 r2547 ⊢) <;> omega)))
          exact sw_some ⟨cq3, fq3, (by (try simp only [zp, zo, zq] at u2536 h2537 xq3 h2538 h2540 h2544 w2545 f2546 r2547 r2548 ⊢) <;> (try simp only [zz, Int32.reduceToInt, ne_eq] at u2536 h2537 xq3 h2538 h2540 h2544 w2545 f2546 r2547 r2548 ⊢) <;> (try simp (disch := omega) only [zb] at u2536 h2537 xq3 h2538 h2540 h2544 w2545 f2546 r2547 r2548 ⊢) <;> first | omega | ((try simp (disch := omega) only [zb] at u2536 h2537 xq3 h2538 h2540 h2544 w2545 f2546 r2547 r2548 ⊢) <;> omega))⟩
        · refine sw_ite (fun h2550 => ?_) (fun h2550 => ?_)
          · refine sw_sh (ci_sh cq3 t_p0 rfl) ?_
            obtain ⟨q18, eq18, tq18⟩ := ci_ref cq3 t_p0 6 (κ' := 56) rfl
            refine sw_onS eq18 ?_
            refine sw_ar (ci_sh cq3 tq18 rfl) ?_
            refine sw_ib (by (try simp only [zp, zo, zq] at u2536 h2537 xq3 h2538 h2540 h2544 h2550 ⊢) <;> (try simp only [zz, Int32.reduceToInt, ne_eq] at u2536 h2537 xq3 h2538 h2540 h2544 h2550 ⊢) <;> (try simp (disch := omega) only [zb] at u2536 h2537 xq3 h2538 h2540 h2544 h2550 ⊢) <;> first | omega | ((try simp (disch := omega) only [zb] at u2536 h2537 xq3 h2538 h2540 h2544 h2550 ⊢) <;> omega)) ?_
            have w2551 := (gq3.2.2 _ _ tq18 p1.toNatClampNeg rfl).1
            have f2552 : mm_I σ0 q18 p1.toNatClampNeg = 0 := hv q18 56 p1.toNatClampNeg tq18 (Or.inr (by decide))
            have r2553 := ci_rg c0 tq18 p1.toNatClampNeg (lo := 0) (hi := 32) rfl
            have r2554 := ci_rg cq3 tq18 p1.toNatClampNeg (lo := 0) (hi := 32) rfl
            exact sw_some ⟨cq3, fq3, (by (try simp only [zp, zo, zq] at u2536 h2537 xq3 h2538 h2540 h2544 h2550 w2551 f2552 r2553 r2554 ⊢) <;> (try simp only [zz, Int32.reduceToInt, ne_eq] at u2536 h2537 xq3 h2538 h2540 h2544 h2550 w2551 f2552 r2553 r2554 ⊢) <;> (try simp (disch := omega) only [zb] at u2536 h2537 xq3 h2538 h2540 h2544 h2550 w2551 f2552 r2553 r2554 ⊢) <;> first | omega | ((try simp (disch := omega) only [zb] at u2536 h2537 xq3 h2538 h2540 h2544 h2550 w2551 f2552 r2553 r2554 ⊢) <;> omega))⟩
          · refine sw_ite (fun h2556 => ?_) (fun h2556 => ?_)
            · refine sw_sh (ci_sh cq3 t_p0 rfl) ?_
              obtain ⟨q14, eq14, tq14⟩ := ci_ref cq3 t_p0 7 (κ' := 57) rfl
              refine sw_onS eq14 ?_
              refine sw_ar (ci_sh cq3 tq14 rfl) ?_
              refine sw_ib (by (try simp only [zp, zo, zq] at u2536 h2537 xq3 h2538 h2540 h2544 h2550 h2556 ⊢) <;> (try simp only [zz, Int32.reduceToInt, ne_eq] at u2536 h2537 xq3 h2538 h2540 h2544 h2550 h2556 ⊢) <;> (try simp (disch := omega) only [zb] at u2536 h2537 xq3 h2538 h2540 h2544 h2550 h2556 ⊢) <;> first | omega | ((try simp (disch := omega) only [zb] at u2536 h2537 xq3 h2538 h2540 h2544 h2550 h2556 ⊢) <;> omega)) ?_
              have w2557 := (gq3.2.2 _ _ tq14 p1.toNatClampNeg rfl).1
              have f2558 : mm_I σ0 q14 p1.toNatClampNeg = 0 := hv q14 57 p1.toNatClampNeg tq14 (Or.inr (by decide))
              exact sw_some ⟨cq3, fq3, (by (try simp only [zp, zo, zq] at u2536 h2537 xq3 h2538 h2540 h2544 h2550 h2556 w2557 f2558 ⊢) <;> (try simp only [zz, Int32.reduceToInt, ne_eq] at u2536 h2537 xq3 h2538 h2540 h2544 h2550 h2556 w2557 f2558 ⊢) <;> (try simp (disch := omega) only [zb] at u2536 h2537 xq3 h2538 h2540 h2544 h2550 h2556 w2557 f2558 ⊢) <;> first | omega | ((try simp (disch := omega) only [zb] at u2536 h2537 xq3 h2538 h2540 h2544 h2550 h2556 w2557 f2558 ⊢) <;> omega))⟩
            · refine sw_sh (ci_sh cq3 t_p0 rfl) ?_
              obtain ⟨q10, eq10, tq10⟩ := ci_ref cq3 t_p0 8 (κ' := 58) rfl
              refine sw_onS eq10 ?_
              refine sw_ar (ci_sh cq3 tq10 rfl) ?_
              refine sw_ib (by (try simp only [zp, zo, zq] at u2536 h2537 xq3 h2538 h2540 h2544 h2550 h2556 ⊢) <;> (try simp only [zz, Int32.reduceToInt, ne_eq] at u2536 h2537 xq3 h2538 h2540 h2544 h2550 h2556 ⊢) <;> (try simp (disch := omega) only [zb] at u2536 h2537 xq3 h2538 h2540 h2544 h2550 h2556 ⊢) <;> first | omega | ((try simp (disch := omega) only [zb] at u2536 h2537 xq3 h2538 h2540 h2544 h2550 h2556 ⊢) <;> omega)) ?_
              have w2560 := (gq3.2.2 _ _ tq10 p1.toNatClampNeg rfl).1
              have f2561 : mm_I σ0 q10 p1.toNatClampNeg = 2 := hv q10 58 p1.toNatClampNeg tq10 (Or.inr (by decide)) (by (try simp only [zp, zo, zq] at u2536 h2537 xq3 h2538 h2540 h2544 h2550 h2556 w2560 ⊢) <;> (try simp only [zz, Int32.reduceToInt, ne_eq] at u2536 h2537 xq3 h2538 h2540 h2544 h2550 h2556 w2560 ⊢) <;> (try simp (disch := omega) only [zb] at u2536 h2537 xq3 h2538 h2540 h2544 h2550 h2556 w2560 ⊢) <;> first | omega | ((try simp (disch := omega) only [zb] at u2536 h2537 xq3 h2538 h2540 h2544 h2550 h2556 w2560 ⊢) <;> omega))
              have r2562 := ci_rg c0 tq10 p1.toNatClampNeg (lo := 2) (hi := 4) (krng_58 (by (try simp only [zp, zo, zq] at u2536 h2537 xq3 h2538 h2540 h2544 h2550 h2556 w2560 f2561 ⊢) <;> (try simp only [zz, Int32.reduceToInt, ne_eq] at u2536 h2537 xq3 h2538 h2540 h2544 h2550 h2556 w2560 f2561 ⊢) <;> (try simp (disch := omega) only [zb] at u2536 h2537 xq3 h2538 h2540 h2544 h2550 h2556 w2560 f2561 ⊢) <;> first | omega | ((try simp (disch := omega) only [zb] at u2536 h2537 xq3 h2538 h2540 h2544 h2550 h2556 w2560 f2561 ⊢) <;> omega)))
              have r2563 := ci_rg cq3 tq10 p1.toNatClampNeg (lo := 2) (hi := 4) (krng_58 (by (try simp only [zp, zo, zq] at u2536 h2537 xq3 h2538 h2540 h2544 h2550 h2556 w2560 f2561 r2562 ⊢) <;> (try simp only [zz, Int32.reduceToInt, ne_eq] at u2536 h2537 xq3 h2538 h2540 h2544 h2550 h2556 w2560 f2561 r2562 ⊢) <;> (try simp (disch := omega) only [zb] at u2536 h2537 xq3 h2538 h2540 h2544 h2550 h2556 w2560 f2561 r2562 ⊢) <;> first | omega | ((try simp (disch := omega) only [zb] at u2536 h2537 xq3 h2538 h2540 h2544 h2550 h2556 w2560 f2561 r2562 ⊢) <;> omega)))
              exact sw_some ⟨cq3, fq3, (by (try simp only [zp, zo, zq] at u2536 h2537 xq3 h2538 h2540 h2544 h2550 h2556 w2560 f2561 r2562 r2563 ⊢) <;> (try simp only [zz, Int32.reduceToInt, ne_eq] at u2536 h2537 xq3 h2538 h2540 h2544 h2550 h2556 w2560 f2561 r2562 r2563 ⊢) <;> (try simp (disch := omega) only [zb] at u2536 h2537 xq3 h2538 h2540 h2544 h2550 h2556 w2560 f2561 r2562 r2563 ⊢) <;> first | omega | ((try simp (disch := omega) only [zb] at u2536 h2537 xq3 h2538 h2540 h2544 h2550 h2556 w2560 f2561 r2562 r2563 ⊢) <;> omega))⟩
  · have u2565 := su_in p2 0 4
    refine sw_ite (fun h2566 => ?_) (fun h2566 => ?_)
    · unfold fX9_state_23
      unfold fX9_state_24
      refine sw_sh (ci_sh c0 t_p0 rfl) ?_
      refine sw_on (vX9_goes c0 t_p0 (by (try simp only [zp, zo, zq] at u2536 h2537 u2565 h2566 ⊢) <;> (try simp only [zz, Int32.reduceToInt, ne_eq] at u2536 h2537 u2565 h2566 ⊢) <;> (try simp (disch := omega) only [zb] at u2536 h2537 u2565 h2566 ⊢) <;> first | omega | ((try simp (disch := omega) only [zb] at u2536 h2537 u2565 h2566 ⊢) <;> omega)) ) ?_
      intro q3 hqq3
      obtain ⟨cq3, gq3, xq3⟩ := hqq3
      have fq3 := fr_trans f0 gq3 rfl
      refine sw_ite (fun h2567 => ?_) (fun h2567 => ?_)
      · exact sw_some ⟨cq3, fq3, (by (try simp only [zp, zo, zq] at u2536 h2537 u2565 h2566 xq3 h2567 ⊢) <;> (try simp only [zz, Int32.reduceToInt, ne_eq] at u2536 h2537 u2565 h2566 xq3 h2567 ⊢) <;> (try simp (disch := omega) only [zb] at u2536 h2537 u2565 h2566 xq3 h2567 ⊢) <;> first | omega | ((try simp (disch := omega) only [zb] at u2536 h2537 u2565 h2566 xq3 h2567 ⊢) <;> omega))⟩
      · refine sw_ite (fun h2569 => ?_) (fun h2569 => ?_)
        · refine sw_sh (ci_sh cq3 t_p0 rfl) ?_
          obtain ⟨q26, eq26, tq26⟩ := ci_ref cq3 t_p0 4 (κ' := 54) rfl
          refine sw_onS eq26 ?_
          refine sw_ar (ci_sh cq3 tq26 rfl) ?_
          refine sw_ib (by (try simp only [zp, zo, zq] at u2536 h2537 u2565 h2566 xq3 h2567 h2569 ⊢) <;> (try simp only [zz, Int32.reduceToInt, ne_eq] at u2536 h2537 u2565 h2566 xq3 h2567 h2569 ⊢) <;> (try simp (disch := omega) only [zb] at u2536 h2537 u2565 h2566 xq3 h2567 h2569 ⊢) <;> first | omega | ((try simp (disch := omega) only [zb] at u2536 h2537 u2565 h2566 xq3 h2567 h2569 ⊢) <;> omega)) ?_
          have w2570 := (gq3.2.2 _ _ tq26 p1.toNatClampNeg rfl).1
          have f2571 : mm_I σ0 q26 p1.toNatClampNeg = 0 := hv q26 54 p1.toNatClampNeg tq26 (Or.inr (by decide))
          exact sw_some ⟨cq3, fq3, (by (try simp only [zp, zo, zq] at u2536 h2537 u2565 h2566 xq3 h2567 h2569 w2570 f2571 ⊢) <;> (try simp only [zz, Int32.reduceToInt, ne_eq] at u2536 h2537 u2565 h2566 xq3 h2567 h2569 w2570 f2571 ⊢) <;> (try simp (disch := omega) only [zb] at u2536 h2537 u2565 h2566 xq3 h2567 h2569 w2570 f2571 ⊢) <;> first | omega | ((try simp (disch := omega) only [zb] at u2536 h2537 u2565 h2566 xq3 h2567 h2569 w2570 f2571 ⊢) <;> omega))⟩
        · refine sw_ite (fun h2573 => ?_) (fun h2573 => ?_)
          · refine sw_sh (ci_sh cq3 t_p0 rfl) ?_
            obtain ⟨q22, eq22, tq22⟩ := ci_ref cq3 t_p0 5 (κ' := 55) rfl
            refine sw_onS eq22 ?_
            refine sw_ar (ci_sh cq3 tq22 rfl) ?_
            refine sw_ib (by (try simp only [zp, zo, zq] at u2536 h2537 u2565 h2566 xq3 h2567 h2569 h2573 ⊢) <;> (try simp only [zz, Int32.reduceToInt, ne_eq] at u2536 h2537 u2565 h2566 xq3 h2567 h2569 h2573 ⊢) <;> (try simp (disch := omega) only [zb] at u2536 h2537 u2565 h2566 xq3 h2567 h2569 h2573 ⊢) <;> first | omega | ((try simp (disch := omega) only [zb] at u2536 h2537 u2565 h2566 xq3 h2567 h2569 h2573 ⊢) <;> omega)) ?_
            have w2574 := (gq3.2.2 _ _ tq22 p1.toNatClampNeg rfl).1
            have f2575 : mm_I σ0 q22 p1.toNatClampNeg = 1 := hv q22 55 p1.toNatClampNeg tq22 (Or.inr (by decide)) (by (try simp only [zp, zo, zq] at u2536 h2537 u2565 h2566 xq3 h2567 h2569 h2573 w2574 ⊢) <;> (try simp only [zz, Int32.reduceToInt, ne_eq] at u2536 h2537 u2565 h2566 xq3 h2567 h2569 h2573 w2574 ⊢) <;> (try simp (disch := omega) only [zb] at u2536 h2537 u2565 h2566 xq3 h2567 h2569 h2573 w2574 ⊢) <;> first | omega | ((try simp (disch := omega) only [zb] at u2536 h2537 u2565 h2566 xq3 h2567 h2569 h2573 w2574 ⊢) <;> omega))
            have r2576 := ci_rg c0 tq22 p1.toNatClampNeg (lo := 1) (hi := 15) (krng_55 (by (try simp only [zp, zo, zq] at u2536 h2537 u2565 h2566 xq3 h2567 h2569 h2573 w2574 f2575 ⊢) <;> (try simp only [zz, Int32.reduceToInt, ne_eq] at u2536 h2537 u2565 h2566 xq3 h2567 h2569 h2573 w2574 f2575 ⊢) <;> (try simp (disch := omega) only [zb] at u2536 h2537 u2565 h2566 xq3 h2567 h2569 h2573 w2574 f2575 ⊢) <;> first | omega | ((try simp (disch := omega) only [zb] at u2536 h2537 u2565 h2566 xq3 h2567 h2569 h2573 w2574 f2575 ⊢) <;> omega)))
            have r2577 := ci_rg cq3 tq22 p1.toNatClampNeg (lo := 1) (hi := 15) (krng_55 (by (try simp only [zp, zo, zq] at u2536 h2537 u2565 h2566 xq3 h2567 h2569 h2573 w2574 f2575 r2576 ⊢) <;> (try simp only [zz, Int32.reduceToInt, ne_eq] at u2536 h2537 u2565 h2566 xq3 h2567 h2569 h2573 w2574 f2575 r2576 ⊢) <;> (try simp (disch := omega) only [zb] at u2536 h2537 u2565 h2566 xq3 h2567 h2569 h2573 w2574 f2575 r2576 ⊢) <;> first | omega | ((try simp (disch := omega) only [zb] at u2536 h2537 u2565 h2566 xq3 h2567 h2569 h2573 w2574 f2575 r2576 ⊢) <;> omega)))
            exact sw_some ⟨cq3, fq3, (by (try simp only [zp, zo, zq] at u2536 h2537 u2565 h2566 xq3 h2567 h2569 h2573 w2574 f2575 r2576 r2577 ⊢) <;> (try simp only [zz, Int32.reduceToInt, ne_eq] at u2536 h2537 u2565 h2566 xq3 h2567 h2569 h2573 w2574 f2575 r2576 r2577 ⊢) <;> (try simp (disch := omega) only [zb] at u2536 h2537 u2565 h2566 xq3 h2567 h2569 h2573 w2574 f2575 r2576 r2577 ⊢) <;> first | omega | ((try simp (disch := omega) only [zb] at u2536 h2537 u2565 h2566 xq3 h2567 h2569 h2573 w2574 f2575 r2576 r2577 ⊢) <;> omega))⟩
          · refine sw_ite (fun h2579 => ?_) (fun h2579 => ?_)
            · refine sw_sh (ci_sh cq3 t_p0 rfl) ?_
              obtain ⟨q18, eq18, tq18⟩ := ci_ref cq3 t_p0 6 (κ' := 56) rfl
              refine sw_onS eq18 ?_
              refine sw_ar (ci_sh cq3 tq18 rfl) ?_
              refine sw_ib (by (try simp only [zp, zo, zq] at u2536 h2537 u2565 h2566 xq3 h2567 h2569 h2573 h2579 ⊢) <;> (try simp only [zz, Int32.reduceToInt, ne_eq] at u2536 h2537 u2565 h2566 xq3 h2567 h2569 h2573 h2579 ⊢) <;> (try simp (disch := omega) only [zb] at u2536 h2537 u2565 h2566 xq3 h2567 h2569 h2573 h2579 ⊢) <;> first | omega | ((try simp (disch := omega) only [zb] at u2536 h2537 u2565 h2566 xq3 h2567 h2569 h2573 h2579 ⊢) <;> omega)) ?_
              have w2580 := (gq3.2.2 _ _ tq18 p1.toNatClampNeg rfl).1
              have f2581 : mm_I σ0 q18 p1.toNatClampNeg = 0 := hv q18 56 p1.toNatClampNeg tq18 (Or.inr (by decide))
              have r2582 := ci_rg c0 tq18 p1.toNatClampNeg (lo := 0) (hi := 32) rfl
              have r2583 := ci_rg cq3 tq18 p1.toNatClampNeg (lo := 0) (hi := 32) rfl
              exact sw_some ⟨cq3, fq3, (by (try simp only [zp, zo, zq] at u2536 h2537 u2565 h2566 xq3 h2567 h2569 h2573 h2579 w2580 f2581 r2582 r2583 ⊢) <;> (try simp only [zz, Int32.reduceToInt, ne_eq] at u2536 h2537 u2565 h2566 xq3 h2567 h2569 h2573 h2579 w2580 f2581 r2582 r2583 ⊢) <;> (try simp (disch := omega) only [zb] at u2536 h2537 u2565 h2566 xq3 h2567 h2569 h2573 h2579 w2580 f2581 r2582 r2583 ⊢) <;> first | omega | ((try simp (disch := omega) only [zb] at u2536 h2537 u2565 h2566 xq3 h2567 h2569 h2573 h2579 w2580 f2581 r2582 r2583 ⊢) <;> omega))⟩
            · refine sw_ite (fun h2585 => ?_) (fun h2585 => ?_)
              · refine sw_sh (ci_sh cq3 t_p0 rfl) ?_
                obtain ⟨q14, eq14, tq14⟩ := ci_ref cq3 t_p0 7 (κ' := 57) rfl
                refine sw_onS eq14 ?_
                refine sw_ar (ci_sh cq3 tq14 rfl) ?_
                refine sw_ib (by (try simp only [zp, zo, zq] at u2536 h2537 u2565 h2566 xq3 h2567 h2569 h2573 h2579 h2585 ⊢) <;> (try simp only [zz, Int32.reduceToInt, ne_eq] at u2536 h2537 u2565 h2566 xq3 h2567 h2569 h2573 h2579 h2585 ⊢) <;> (try simp (disch := omega) only [zb] at u2536 h2537 u2565 h2566 xq3 h2567 h2569 h2573 h2579 h2585 ⊢) <;> first | omega | ((try simp (disch := omega) only [zb] at u2536 h2537 u2565 h2566 xq3 h2567 h2569 h2573 h2579 h2585 ⊢) <;> omega)) ?_
                have w2586 := (gq3.2.2 _ _ tq14 p1.toNatClampNeg rfl).1
                have f2587 : mm_I σ0 q14 p1.toNatClampNeg = 0 := hv q14 57 p1.toNatClampNeg tq14 (Or.inr (by decide))
                exact sw_some ⟨cq3, fq3, (by (try simp only [zp, zo, zq] at u2536 h2537 u2565 h2566 xq3 h2567 h2569 h2573 h2579 h2585 w2586 f2587 ⊢) <;> (try simp only [zz, Int32.reduceToInt, ne_eq] at u2536 h2537 u2565 h2566 xq3 h2567 h2569 h2573 h2579 h2585 w2586 f2587 ⊢) <;> (try simp (disch := omega) only [zb] at u2536 h2537 u2565 h2566 xq3 h2567 h2569 h2573 h2579 h2585 w2586 f2587 ⊢) <;> first | omega | ((try simp (disch := omega) only [zb] at u2536 h2537 u2565 h2566 xq3 h2567 h2569 h2573 h2579 h2585 w2586 f2587 ⊢) <;> omega))⟩
              · refine sw_sh (ci_sh cq3 t_p0 rfl) ?_
                obtain ⟨q10, eq10, tq10⟩ := ci_ref cq3 t_p0 8 (κ' := 58) rfl
                refine sw_onS eq10 ?_
                refine sw_ar (ci_sh cq3 tq10 rfl) ?_
                refine sw_ib (by (try simp only [zp, zo, zq] at u2536 h2537 u2565 h2566 xq3 h2567 h2569 h2573 h2579 h2585 ⊢) <;> (try simp only [zz, Int32.reduceToInt, ne_eq] at u2536 h2537 u2565 h2566 xq3 h2567 h2569 h2573 h2579 h2585 ⊢) <;> (try simp (disch := omega) only [zb] at u2536 h2537 u2565 h2566 xq3 h2567 h2569 h2573 h2579 h2585 ⊢) <;> first | omega | ((try simp (disch := omega) only [zb] at u2536 h2537 u2565 h2566 xq3 h2567 h2569 h2573 h2579 h2585 ⊢) <;> omega)) ?_
                have w2589 := (gq3.2.2 _ _ tq10 p1.toNatClampNeg rfl).1
                have f2590 : mm_I σ0 q10 p1.toNatClampNeg = 2 := hv q10 58 p1.toNatClampNeg tq10 (Or.inr (by decide)) (by (try simp only [zp, zo, zq] at u2536 h2537 u2565 h2566 xq3 h2567 h2569 h2573 h2579 h2585 w2589 ⊢) <;> (try simp only [zz, Int32.reduceToInt, ne_eq] at u2536 h2537 u2565 h2566 xq3 h2567 h2569 h2573 h2579 h2585 w2589 ⊢) <;> (try simp (disch := omega) only [zb] at u2536 h2537 u2565 h2566 xq3 h2567 h2569 h2573 h2579 h2585 w2589 ⊢) <;> first | omega | ((try simp (disch := omega) only [zb] at u2536 h2537 u2565 h2566 xq3 h2567 h2569 h2573 h2579 h2585 w2589 ⊢) <;> omega))
                have r2591 := ci_rg c0 tq10 p1.toNatClampNeg (lo := 2) (hi := 4) (krng_58 (by (try simp only [zp, zo, zq] at u2536 h2537 u2565 h2566 xq3 h2567 h2569 h2573 h2579 h2585 w2589 f2590 ⊢) <;> (try simp only [zz, Int32.reduceToInt, ne_eq] at u2536 h2537 u2565 h2566 xq3 h2567 h2569 h2573 h2579 h2585 w2589 f2590 ⊢) <;> (try simp (disch := omega) only [zb] at u2536 h2537 u2565 h2566 xq3 h2567 h2569 h2573 h2579 h2585 w2589 f2590 ⊢) <;> first | omega | ((try simp (disch := omega) only [zb] at u2536 h2537 u2565 h2566 xq3 h2567 h2569 h2573 h2579 h2585 w2589 f2590 ⊢) <;> omega)))
                have r2592 := ci_rg cq3 tq10 p1.toNatClampNeg (lo := 2) (hi := 4) (krng_58 (by (try simp only [zp, zo, zq] at u2536 h2537 u2565 h2566 xq3 h2567 h2569 h2573 h2579 h2585 w2589 f2590 r2591 ⊢) <;> (try simp only [zz, Int32.reduceToInt, ne_eq] at u2536 h2537 u2565 h2566 xq3 h2567 h2569 h2573 h2579 h2585 w2589 f2590 r2591 ⊢) <;> (try simp (disch := omega) only [zb] at u2536 h2537 u2565 h2566 xq3 h2567 h2569 h2573 h2579 h2585 w2589 f2590 r2591 ⊢) <;> first | omega | ((try simp (disch := omega) only [zb] at u2536 h2537 u2565 h2566 xq3 h2567 h2569 h2573 h2579 h2585 w2589 f2590 r2591 ⊢) <;> omega)))
                exact sw_some ⟨cq3, fq3, (by (try simp only [zp, zo, zq] at u2536 h2537 u2565 h2566 xq3 h2567 h2569 h2573 h2579 h2585 w2589 f2590 r2591 r2592 ⊢) <;> (try simp only [zz, Int32.reduceToInt, ne_eq] at u2536 h2537 u2565 h2566 xq3 h2567 h2569 h2573 h2579 h2585 w2589 f2590 r2591 r2592 ⊢) <;> (try simp (disch := omega) only [zb] at u2536 h2537 u2565 h2566 xq3 h2567 h2569 h2573 h2579 h2585 w2589 f2590 r2591 r2592 ⊢) <;> first | omega | ((try simp (disch := omega) only [zb] at u2536 h2537 u2565 h2566 xq3 h2567 h2569 h2573 h2579 h2585 w2589 f2590 r2591 r2592 ⊢) <;> omega))⟩
    · unfold fX9_state_24
      refine sw_sh (ci_sh c0 t_p0 rfl) ?_
      refine sw_on (vX9_goes c0 t_p0 (by (try simp only [zp, zo, zq] at u2536 h2537 u2565 h2566 ⊢) <;> (try simp only [zz, Int32.reduceToInt, ne_eq] at u2536 h2537 u2565 h2566 ⊢) <;> (try simp (disch := omega) only [zb] at u2536 h2537 u2565 h2566 ⊢) <;> first | omega | ((try simp (disch := omega) only [zb] at u2536 h2537 u2565 h2566 ⊢) <;> omega)) ) ?_
      intro q3 hqq3
      obtain ⟨cq3, gq3, xq3⟩ := hqq3
      have fq3 := fr_trans f0 gq3 rfl
      refine sw_ite (fun h2594 => ?_) (fun h2594 => ?_)
      · exact sw_some ⟨cq3, fq3, (by (try simp only [zp, zo, zq] at u2536 h2537 u2565 h2566 xq3 h2594 ⊢) <;> (try simp only [zz, Int32.reduceToInt, ne_eq] at u2536 h2537 u2565 h2566 xq3 h2594 ⊢) <;> (try simp (disch := omega) only [zb] at u2536 h2537 u2565 h2566 xq3 h2594 ⊢) <;> first | omega | ((try simp (disch := omega) only [zb] at u2536 h2537 u2565 h2566 xq3 h2594 ⊢) <;> omega))⟩
      · refine sw_ite (fun h2596 => ?_) (fun h2596 => ?_)
        · refine sw_sh (ci_sh cq3 t_p0 rfl) ?_
          obtain ⟨q26, eq26, tq26⟩ := ci_ref cq3 t_p0 4 (κ' := 54) rfl
          refine sw_onS eq26 ?_
          refine sw_ar (ci_sh cq3 tq26 rfl) ?_
          refine sw_ib (by (try simp only [zp, zo, zq] at u2536 h2537 u2565 h2566 xq3 h2594 h2596 ⊢) <;> (try simp only [zz, Int32.reduceToInt, ne_eq] at u2536 h2537 u2565 h2566 xq3 h2594 h2596 ⊢) <;> (try simp (disch := omega) only [zb] at u2536 h2537 u2565 h2566 xq3 h2594 h2596 ⊢) <;> first | omega | ((try simp (disch := omega) only [zb] at u2536 h2537 u2565 h2566 xq3 h2594 h2596 ⊢) <;> omega)) ?_
          have w2597 := (gq3.2.2 _ _ tq26 p1.toNatClampNeg rfl).1
          have f2598 : mm_I σ0 q26 p1.toNatClampNeg = 0 := hv q26 54 p1.toNatClampNeg tq26 (Or.inr (by decide))
          exact sw_some ⟨cq3, fq3, (by (try simp only [zp, zo, zq] at u2536 h2537 u2565 h2566 xq3 h2594 h2596 w2597 f2598 ⊢) <;> (try simp only [zz, Int32.reduceToInt, ne_eq] at u2536 h2537 u2565 h2566 xq3 h2594 h2596 w2597 f2598 ⊢) <;> (try simp (disch := omega) only [zb] at u2536 h2537 u2565 h2566 xq3 h2594 h2596 w2597 f2598 ⊢) <;> first | omega | ((try simp (disch := omega) only [zb] at u2536 h2537 u2565 h2566 xq3 h2594 h2596 w2597 f2598 ⊢) <;> omega))⟩
        · refine sw_ite (fun h2600 => ?_) (fun h2600 => ?_)
          · refine sw_sh (ci_sh cq3 t_p0 rfl) ?_
            obtain ⟨q22, eq22, tq22⟩ := ci_ref cq3 t_p0 5 (κ' := 55) rfl
            refine sw_onS eq22 ?_
            refine sw_ar (ci_sh cq3 tq22 rfl) ?_
            refine sw_ib (by (try simp only [zp, zo, zq] at u2536 h2537 u2565 h2566 xq3 h2594 h2596 h2600 ⊢) <;> (try simp only [zz, Int32.reduceToInt, ne_eq] at u2536 h2537 u2565 h2566 xq3 h2594 h2596 h2600 ⊢) <;> (try simp (disch := omega) only [zb] at u2536 h2537 u2565 h2566 xq3 h2594 h2596 h2600 ⊢) <;> first | omega | ((try simp (disch := omega) only [zb] at u2536 h2537 u2565 h2566 xq3 h2594 h2596 h2600 ⊢) <;> omega)) ?_
            have w2601 := (gq3.2.2 _ _ tq22 p1.toNatClampNeg rfl).1
            have f2602 : mm_I σ0 q22 p1.toNatClampNeg = 1 := hv q22 55 p1.toNatClampNeg tq22 (Or.inr (by decide)) (by (try simp only [zp, zo, zq] at u2536 h2537 u2565 h2566 xq3 h2594 h2596 h2600 w2601 ⊢) <;> (try simp only [zz, Int32.reduceToInt, ne_eq] at u2536 h2537 u2565 h2566 xq3 h2594 h2596 h2600 w2601 ⊢) <;> (try simp (disch := omega) only [zb] at u2536 h2537 u2565 h2566 xq3 h2594 h2596 h2600 w2601 ⊢) <;> first | omega | ((try simp (disch := omega) only [zb] at u2536 h2537 u2565 h2566 xq3 h2594 h2596 h2600 w2601 ⊢) <;> omega))
            have r2603 := ci_rg c0 tq22 p1.toNatClampNeg (lo := 1) (hi := 15) (krng_55 (by (try simp only [zp, zo, zq] at u2536 h2537 u2565 h2566 xq3 h2594 h2596 h2600 w2601 f2602 ⊢) <;> (try simp only [zz, Int32.reduceToInt, ne_eq] at u2536 h2537 u2565 h2566 xq3 h2594 h2596 h2600 w2601 f2602 ⊢) <;> (try simp (disch := omega) only [zb] at u2536 h2537 u2565 h2566 xq3 h2594 h2596 h2600 w2601 f2602 ⊢) <;> first | omega | ((try simp (disch := omega) only [zb] at u2536 h2537 u2565 h2566 xq3 h2594 h2596 h2600 w2601 f2602 ⊢) <;> omega)))
            have r2604 := ci_rg cq3 tq22 p1.toNatClampNeg (lo := 1) (hi := 15) (krng_55 (by (try simp only [zp, zo, zq] at u2536 h2537 u2565 h2566 xq3 h2594 h2596 h2600 w2601 f2602 r2603 ⊢) <;> (try simp only [zz, Int32.reduceToInt, ne_eq] at u2536 h2537 u2565 h2566 xq3 h2594 h2596 h2600 w2601 f2602 r2603 ⊢) <;> (try simp (disch := omega) only [zb] at u2536 h2537 u2565 h2566 xq3 h2594 h2596 h2600 w2601 f2602 r2603 ⊢) <;> first | omega | ((try simp (disch := omega) only [zb] at u2536 h2537 u2565 h2566 xq3 h2594 h2596 h2600 w2601 f2602 r2603 ⊢) <;> omega)))
            exact sw_some ⟨cq3, fq3, (by (try simp only [zp, zo, zq] at u2536 h2537 u2565 h2566 xq3 h2594 h2596 h2600 w2601 f2602 r2603 r2604 ⊢) <;> (try simp only [zz, Int32.reduceToInt, ne_eq] at u2536 h2537 u2565 h2566 xq3 h2594 h2596 h2600 w2601 f2602 r2603 r2604 ⊢) <;> (try simp (disch := omega) only [zb] at u2536 h2537 u2565 h2566 xq3 h2594 h2596 h2600 w2601 f2602 r2603 r2604 ⊢) <;> first | omega | ((try simp (disch := omega) only [zb] at u2536 h2537 u2565 h2566 xq3 h2594 h2596 h2600 w2601 f2602 r2603 r2604 ⊢) <;> omega))⟩
          · refine sw_ite (fun h2606 => ?_) (fun h2606 => ?_)
            · refine sw_sh (ci_sh cq3 t_p0 rfl) ?_
              obtain ⟨q18, eq18, tq18⟩ := ci_ref cq3 t_p0 6 (κ' := 56) rfl
              refine sw_onS eq18 ?_
              refine sw_ar (ci_sh cq3 tq18 rfl) ?_
              refine sw_ib (by (try simp only [zp, zo, zq] at u2536 h2537 u2565 h2566 xq3 h2594 h2596 h2600 h2606 ⊢) <;> (try simp only [zz, Int32.reduceToInt, ne_eq] at u2536 h2537 u2565 h2566 xq3 h2594 h2596 h2600 h2606 ⊢) <;> (try simp (disch := omega) only [zb] at u2536 h2537 u2565 h2566 xq3 h2594 h2596 h2600 h2606 ⊢) <;> first | omega | ((try simp (disch := omega) only [zb] at u2536 h2537 u2565 h2566 xq3 h2594 h2596 h2600 h2606 ⊢) <;> omega)) ?_
              have w2607 := (gq3.2.2 _ _ tq18 p1.toNatClampNeg rfl).1
              have f2608 : mm_I σ0 q18 p1.toNatClampNeg = 0 := hv q18 56 p1.toNatClampNeg tq18 (Or.inr (by decide))
              have r2609 := ci_rg c0 tq18 p1.toNatClampNeg (lo := 0) (hi := 32) rfl
              have r2610 := ci_rg cq3 tq18 p1.toNatClampNeg (lo := 0) (hi := 32) rfl
              exact sw_some ⟨cq3, fq3, (by (try simp only [zp, zo, zq] at u2536 h2537 u2565 h2566 xq3 h2594 h2596 h2600 h2606 w2607 f2608 r2609 r2610 ⊢) <;> (try simp only [zz, Int32.reduceToInt, ne_eq] at u2536 h2537 u2565 h2566 xq3 h2594 h2596 h2600 h2606 w2607 f2608 r2609 r2610 ⊢) <;> (try simp (disch := omega) only [zb] at u2536 h2537 u2565 h2566 xq3 h2594 h2596 h2600 h2606 w2607 f2608 r2609 r2610 ⊢) <;> first | omega | ((try simp (disch := omega) only [zb] at u2536 h2537 u2565 h2566 xq3 h2594 h2596 h2600 h2606 w2607 f2608 r2609 r2610 ⊢) <;> omega))⟩
            · refine sw_ite (fun h2612 => ?_) (fun h2612 => ?_)
              · refine sw_sh (ci_sh cq3 t_p0 rfl) ?_
                obtain ⟨q14, eq14, tq14⟩ := ci_ref cq3 t_p0 7 (κ' := 57) rfl
                refine sw_onS eq14 ?_
                refine sw_ar (ci_sh cq3 tq14 rfl) ?_
                refine sw_ib (by (try simp only [zp, zo, zq] at u2536 h2537 u2565 h2566 xq3 h2594 h2596 h2600 h2606 h2612 ⊢) <;> (try simp only [zz, Int32.reduceToInt, ne_eq] at u2536 h2537 u2565 h2566 xq3 h2594 h2596 h2600 h2606 h2612 ⊢) <;> (try simp (disch := omega) only [zb] at u2536 h2537 u2565 h2566 xq3 h2594 h2596 h2600 h2606 h2612 ⊢) <;> first | omega | ((try simp (disch := omega) only [zb] at u2536 h2537 u2565 h2566 xq3 h2594 h2596 h2600 h2606 h2612 ⊢) <;> omega)) ?_
                have w2613 := (gq3.2.2 _ _ tq14 p1.toNatClampNeg rfl).1
                have f2614 : mm_I σ0 q14 p1.toNatClampNeg = 0 := hv q14 57 p1.toNatClampNeg tq14 (Or.inr (by decide))
                exact sw_some ⟨cq3, fq3, (by (try simp only [zp, zo, zq] at u2536 h2537 u2565 h2566 xq3 h2594 h2596 h2600 h2606 h2612 w2613 f2614 ⊢) <;> (try simp only [zz, Int32.reduceToInt, ne_eq] at u2536 h2537 u2565 h2566 xq3 h2594 h2596 h2600 h2606 h2612 w2613 f2614 ⊢) <;> (try simp (disch := omega) only [zb] at u2536 h2537 u2565 h2566 xq3 h2594 h2596 h2600 h2606 h2612 w2613 f2614 ⊢) <;> first | omega | ((try simp (disch := omega) only [zb] at u2536 h2537 u2565 h2566 xq3 h2594 h2596 h2600 h2606 h2612 w2613 f2614 ⊢) <;> omega))⟩
              · refine sw_sh (ci_sh cq3 t_p0 rfl) ?_
                obtain ⟨q10, eq10, tq10⟩ := ci_ref cq3 t_p0 8 (κ' := 58) rfl
                refine sw_onS eq10 ?_
                refine sw_ar (ci_sh cq3 tq10 rfl) ?_
                refine sw_ib (by (try simp only [zp, zo, zq] at u2536 h2537 u2565 h2566 xq3 h2594 h2596 h2600 h2606 h2612 ⊢) <;> (try simp only [zz, Int32.reduceToInt, ne_eq] at u2536 h2537 u2565 h2566 xq3 h2594 h2596 h2600 h2606 h2612 ⊢) <;> (try simp (disch := omega) only [zb] at u2536 h2537 u2565 h2566 xq3 h2594 h2596 h2600 h2606 h2612 ⊢) <;> first | omega | ((try simp (disch := omega) only [zb] at u2536 h2537 u2565 h2566 xq3 h2594 h2596 h2600 h2606 h2612 ⊢) <;> omega)) ?_
                have w2616 := (gq3.2.2 _ _ tq10 p1.toNatClampNeg rfl).1
                have f2617 : mm_I σ0 q10 p1.toNatClampNeg = 2 := hv q10 58 p1.toNatClampNeg tq10 (Or.inr (by decide)) (by (try simp only [zp, zo, zq] at u2536 h2537 u2565 h2566 xq3 h2594 h2596 h2600 h2606 h2612 w2616 ⊢) <;> (try simp only [zz, Int32.reduceToInt, ne_eq] at u2536 h2537 u2565 h2566 xq3 h2594 h2596 h2600 h2606 h2612 w2616 ⊢) <;> (try simp (disch := omega) only [zb] at u2536 h2537 u2565 h2566 xq3 h2594 h2596 h2600 h2606 h2612 w2616 ⊢) <;> first | omega | ((try simp (disch := omega) only [zb] at u2536 h2537 u2565 h2566 xq3 h2594 h2596 h2600 h2606 h2612 w2616 ⊢) <;> omega))
                have r2618 := ci_rg c0 tq10 p1.toNatClampNeg (lo := 2) (hi := 4) (krng_58 (by (try simp only [zp, zo, zq] at u2536 h2537 u2565 h2566 xq3 h2594 h2596 h2600 h2606 h2612 w2616 f2617 ⊢) <;> (try simp only [zz, Int32.reduceToInt, ne_eq] at u2536 h2537 u2565 h2566 xq3 h2594 h2596 h2600 h2606 h2612 w2616 f2617 ⊢) <;> (try simp (disch := omega) only [zb] at u2536 h2537 u2565 h2566 xq3 h2594 h2596 h2600 h2606 h2612 w2616 f2617 ⊢) <;> first | omega | ((try simp (disch := omega) only [zb] at u2536 h2537 u2565 h2566 xq3 h2594 h2596 h2600 h2606 h2612 w2616 f2617 ⊢) <;> omega)))
                have r2619 := ci_rg cq3 tq10 p1.toNatClampNeg (lo := 2) (hi := 4) (krng_58 (by (try simp only [zp, zo, zq] at u2536 h2537 u2565 h2566 xq3 h2594 h2596 h2600 h2606 h2612 w2616 f2617 r2618 ⊢) <;> (try simp only [zz, Int32.reduceToInt, ne_eq] at u2536 h2537 u2565 h2566 xq3 h2594 h2596 h2600 h2606 h2612 w2616 f2617 r2618 ⊢) <;> (try simp (disch := omega) only [zb] at u2536 h2537 u2565 h2566 xq3 h2594 h2596 h2600 h2606 h2612 w2616 f2617 r2618 ⊢) <;> first | omega | ((try simp (disch := omega) only [zb] at u2536 h2537 u2565 h2566 xq3 h2594 h2596 h2600 h2606 h2612 w2616 f2617 r2618 ⊢) <;> omega)))
                exact sw_some ⟨cq3, fq3, (by (try simp only [zp, zo, zq] at u2536 h2537 u2565 h2566 xq3 h2594 h2596 h2600 h2606 h2612 w2616 f2617 r2618 r2619 ⊢) <;> (try simp only [zz, Int32.reduceToInt, ne_eq] at u2536 h2537 u2565 h2566 xq3 h2594 h2596 h2600 h2606 h2612 w2616 f2617 r2618 r2619 ⊢) <;> (try simp (disch := omega) only [zb] at u2536 h2537 u2565 h2566 xq3 h2594 h2596 h2600 h2606 h2612 w2616 f2617 r2618 r2619 ⊢) <;> first | omega | ((try simp (disch := omega) only [zb] at u2536 h2537 u2565 h2566 xq3 h2594 h2596 h2600 h2606 h2612 w2616 f2617 r2618 r2619 ⊢) <;> omega))⟩
set_option maxHeartbeats 4000000 in
set_option maxRecDepth 10000 in
theorem vX5_letterAt {T : Nat → Option Nat} {σ0 : mm_M} {p0 : Nat} {p1 : Int32} {p2 : Int32} (c0 : sCI T σ0) (hv : sFV T σ0) (t_p0 : T p0 = some 5) : sw (fX5_letterAt p0 p1 p2 σ0) (fun R => R.2 = σ0 ∧ (R.1.toInt = 0)) := by
  unfold fX5_letterAt
  refine sw_ite (fun h2621 => ?_) (fun h2621 => ?_)
  · exact sw_some ⟨rfl, (by (try simp only [zp, zo, zq] at h2621 ⊢) <;> (try simp only [zz, Int32.reduceToInt, ne_eq] at h2621 ⊢) <;> (try simp (disch := omega) only [zb] at h2621 ⊢) <;> first | omega | ((try simp (disch := omega) only [zb] at h2621 ⊢) <;> omega))⟩
  · refine sw_sh (ci_sh c0 t_p0 rfl) ?_
    obtain ⟨q3, eq3, tq3⟩ := ci_ref c0 t_p0 0 (κ' := 20) rfl
    refine sw_onS eq3 ?_
    refine sw_ar (ci_sh c0 tq3 rfl) ?_
    refine sw_ib (by (try simp only [zp, zo, zq] at h2621 ⊢) <;> (try simp only [zz, Int32.reduceToInt, ne_eq] at h2621 ⊢) <;> (try simp (disch := omega) only [zb] at h2621 ⊢) <;> first | omega | ((try simp (disch := omega) only [zb] at h2621 ⊢) <;> omega)) ?_
    have f2622 : mm_I σ0 q3 ((fX5_indexOf p1 p2).toNatClampNeg) = 0 := hv q3 20 ((fX5_indexOf p1 p2).toNatClampNeg) tq3
    exact sw_some ⟨rfl, (by (try simp only [zp, zo, zq] at h2621 f2622 ⊢) <;> (try simp only [zz, Int32.reduceToInt, ne_eq] at h2621 f2622 ⊢) <;> (try simp (disch := omega) only [zb] at h2621 f2622 ⊢) <;> first | omega | ((try simp (disch := omega) only [zb] at h2621 f2622 ⊢) <;> omega))⟩
set_option maxHeartbeats 4000000 in
set_option maxRecDepth 10000 in
theorem vX5_lookAt {T : Nat → Option Nat} {σ0 : mm_M} {p0 : Nat} {p1 : Int32} {p2 : Int32} (c0 : sCI T σ0) (hv : sFV T σ0) (t_p0 : T p0 = some 5) : sw (fX5_lookAt p0 p1 p2 σ0) (fun R => R.2 = σ0 ∧ (R.1.toInt = 0)) := by
  unfold fX5_lookAt
  refine sw_ite (fun h2623 => ?_) (fun h2623 => ?_)
  · exact sw_some ⟨rfl, (by (try simp only [zp, zo, zq] at h2623 ⊢) <;> (try simp only [zz, Int32.reduceToInt, ne_eq] at h2623 ⊢) <;> (try simp (disch := omega) only [zb] at h2623 ⊢) <;> first | omega | ((try simp (disch := omega) only [zb] at h2623 ⊢) <;> omega))⟩
  · refine sw_sh (ci_sh c0 t_p0 rfl) ?_
    obtain ⟨q3, eq3, tq3⟩ := ci_ref c0 t_p0 1 (κ' := 21) rfl
    refine sw_onS eq3 ?_
    refine sw_ar (ci_sh c0 tq3 rfl) ?_
    refine sw_ib (by (try simp only [zp, zo, zq] at h2623 ⊢) <;> (try simp only [zz, Int32.reduceToInt, ne_eq] at h2623 ⊢) <;> (try simp (disch := omega) only [zb] at h2623 ⊢) <;> first | omega | ((try simp (disch := omega) only [zb] at h2623 ⊢) <;> omega)) ?_
    have f2624 : mm_I σ0 q3 ((fX5_indexOf p1 p2).toNatClampNeg) = 0 := hv q3 21 ((fX5_indexOf p1 p2).toNatClampNeg) tq3
    exact sw_some ⟨rfl, (by (try simp only [zp, zo, zq] at h2623 f2624 ⊢) <;> (try simp only [zz, Int32.reduceToInt, ne_eq] at h2623 f2624 ⊢) <;> (try simp (disch := omega) only [zb] at h2623 f2624 ⊢) <;> first | omega | ((try simp (disch := omega) only [zb] at h2623 f2624 ⊢) <;> omega))⟩
abbrev VX8_cell : List Nat := []
set_option maxHeartbeats 4000000 in
set_option maxRecDepth 10000 in
theorem vX8_cell {T : Nat → Option Nat} {σ0 : mm_M} {p0 : Nat} {p1 : Int32} {p2 : Int32} {p3 : Int32} {p4 : Int32} {p5 : Int32} (c0 : sCI T σ0) (hv : sFV T σ0) (t_p0 : T p0 = some 8) : sw (fX8_cell p0 p1 p2 p3 p4 p5 σ0) (fun R => sCI T R.2 ∧ sFR T VX8_cell σ0 R.2 ∧ (((0 ≤ p1.toInt ∧ p1.toInt ≤ 3 ∧ 0 ≤ p2.toInt ∧ p2.toInt ≤ 1 ∧ 1 ≤ p3.toInt ∧ p3.toInt ≤ 15 ∧ 0 ≤ p4.toInt ∧ p4.toInt ≤ 31 ∧ 0 ≤ p5.toInt ∧ p5.toInt ≤ 1) ∧ oi R.1 = 0) ∨ (¬ (0 ≤ p1.toInt ∧ p1.toInt ≤ 3 ∧ 0 ≤ p2.toInt ∧ p2.toInt ≤ 1 ∧ 1 ≤ p3.toInt ∧ p3.toInt ≤ 15 ∧ 0 ≤ p4.toInt ∧ p4.toInt ≤ 31 ∧ 0 ≤ p5.toInt ∧ p5.toInt ≤ 1) ∧ oi R.1 = -9999999999))) := by
  have f0 : sFR T VX8_cell σ0 σ0 := fr_refl
  unfold fX8_cell
  have d0 := su_dec p3
  refine sw_ite (fun h2625 => ?_) (fun h2625 => ?_)
  · refine sw_ite (fun h2626 => ?_) (fun h2626 => ?_)
    · refine sw_ite (fun h2627 => ?_) (fun h2627 => ?_)
      · refine sw_ite (fun h2628 => ?_) (fun h2628 => ?_)
        · refine sw_ite (fun h2629 => ?_) (fun h2629 => ?_)
          · refine sw_sh (ci_sh c0 t_p0 rfl) ?_
            obtain ⟨q7, eq7, tq7⟩ := ci_ref c0 t_p0 0 (κ' := 10) rfl
            refine sw_onS eq7 ?_
            refine sw_ar (ci_sh c0 tq7 rfl) ?_
            refine sw_ib (by (try simp only [zp, zo, zq] at d0 h2625 h2626 h2627 h2628 h2629 ⊢) <;> (try simp only [zz, Int32.reduceToInt, ne_eq] at d0 h2625 h2626 h2627 h2628 h2629 ⊢) <;> (try simp (disch := omega) only [zb] at d0 h2625 h2626 h2627 h2628 h2629 ⊢) <;> first | omega | ((try simp (disch := omega) only [zb] at d0 h2625 h2626 h2627 h2628 h2629 ⊢) <;> omega)) ?_
            refine sw_ite (fun h2630 => ?_) (fun h2630 => ?_)
            · obtain ⟨q20, eq20, tq20⟩ := ci_chan c0 tq7 (k := p1.toNatClampNeg) (by (try simp only [zp, zo, zq] at d0 h2625 h2626 h2627 h2628 h2629 h2630 ⊢) <;> (try simp only [zz, Int32.reduceToInt, ne_eq] at d0 h2625 h2626 h2627 h2628 h2629 h2630 ⊢) <;> (try simp (disch := omega) only [zb] at d0 h2625 h2626 h2627 h2628 h2629 h2630 ⊢) <;> first | omega | ((try simp (disch := omega) only [zb] at d0 h2625 h2626 h2627 h2628 h2629 h2630 ⊢) <;> omega))
              refine sw_onS eq20 ?_
              refine sw_sh (ci_sh c0 tq20 rfl) ?_
              unfold fX8_cell_91
              refine sw_ite (fun h2631 => ?_) (fun h2631 => ?_)
              · obtain ⟨q17, eq17, tq17⟩ := ci_ref c0 tq20 0 (κ' := 5) rfl
                refine sw_onS eq17 ?_
                refine sw_sh (ci_sh c0 tq17 rfl) ?_
                refine sw_on (vX5_letterAt c0 hv tq17  ) ?_
                intro q19 hqq19
                obtain ⟨eq19, xq19⟩ := hqq19
                (try rw [eq19])
                exact sw_some ⟨c0, f0, (by (try simp only [zp, zo, zq] at d0 h2625 h2626 h2627 h2628 h2629 h2630 h2631 xq19 ⊢) <;> (try simp only [zz, Int32.reduceToInt, ne_eq] at d0 h2625 h2626 h2627 h2628 h2629 h2630 h2631 xq19 ⊢) <;> (try simp (disch := omega) only [zb] at d0 h2625 h2626 h2627 h2628 h2629 h2630 h2631 xq19 ⊢) <;> first | omega | ((try simp (disch := omega) only [zb] at d0 h2625 h2626 h2627 h2628 h2629 h2630 h2631 xq19 ⊢) <;> omega))⟩
              · obtain ⟨q14, eq14, tq14⟩ := ci_ref c0 tq20 0 (κ' := 5) rfl
                refine sw_onS eq14 ?_
                refine sw_sh (ci_sh c0 tq14 rfl) ?_
                refine sw_on (vX5_lookAt c0 hv tq14  ) ?_
                intro q16 hqq16
                obtain ⟨eq16, xq16⟩ := hqq16
                (try rw [eq16])
                exact sw_some ⟨c0, f0, (by (try simp only [zp, zo, zq] at d0 h2625 h2626 h2627 h2628 h2629 h2630 h2631 xq16 ⊢) <;> (try simp only [zz, Int32.reduceToInt, ne_eq] at d0 h2625 h2626 h2627 h2628 h2629 h2630 h2631 xq16 ⊢) <;> (try simp (disch := omega) only [zb] at d0 h2625 h2626 h2627 h2628 h2629 h2630 h2631 xq16 ⊢) <;> first | omega | ((try simp (disch := omega) only [zb] at d0 h2625 h2626 h2627 h2628 h2629 h2630 h2631 xq16 ⊢) <;> omega))⟩
            · obtain ⟨q11, eq11, tq11⟩ := ci_chan c0 tq7 (k := p1.toNatClampNeg) (by (try simp only [zp, zo, zq] at d0 h2625 h2626 h2627 h2628 h2629 h2630 ⊢) <;> (try simp only [zz, Int32.reduceToInt, ne_eq] at d0 h2625 h2626 h2627 h2628 h2629 h2630 ⊢) <;> (try simp (disch := omega) only [zb] at d0 h2625 h2626 h2627 h2628 h2629 h2630 ⊢) <;> first | omega | ((try simp (disch := omega) only [zb] at d0 h2625 h2626 h2627 h2628 h2629 h2630 ⊢) <;> omega))
              refine sw_onS eq11 ?_
              refine sw_sh (ci_sh c0 tq11 rfl) ?_
              unfold fX8_cell_91
              refine sw_ite (fun h2632 => ?_) (fun h2632 => ?_)
              · obtain ⟨q17, eq17, tq17⟩ := ci_ref c0 tq11 1 (κ' := 5) rfl
                refine sw_onS eq17 ?_
                refine sw_sh (ci_sh c0 tq17 rfl) ?_
                refine sw_on (vX5_letterAt c0 hv tq17  ) ?_
                intro q19 hqq19
                obtain ⟨eq19, xq19⟩ := hqq19
                (try rw [eq19])
                exact sw_some ⟨c0, f0, (by (try simp only [zp, zo, zq] at d0 h2625 h2626 h2627 h2628 h2629 h2630 h2632 xq19 ⊢) <;> (try simp only [zz, Int32.reduceToInt, ne_eq] at d0 h2625 h2626 h2627 h2628 h2629 h2630 h2632 xq19 ⊢) <;> (try simp (disch := omega) only [zb] at d0 h2625 h2626 h2627 h2628 h2629 h2630 h2632 xq19 ⊢) <;> first | omega | ((try simp (disch := omega) only [zb] at d0 h2625 h2626 h2627 h2628 h2629 h2630 h2632 xq19 ⊢) <;> omega))⟩
              · obtain ⟨q14, eq14, tq14⟩ := ci_ref c0 tq11 1 (κ' := 5) rfl
                refine sw_onS eq14 ?_
                refine sw_sh (ci_sh c0 tq14 rfl) ?_
                refine sw_on (vX5_lookAt c0 hv tq14  ) ?_
                intro q16 hqq16
                obtain ⟨eq16, xq16⟩ := hqq16
                (try rw [eq16])
                exact sw_some ⟨c0, f0, (by (try simp only [zp, zo, zq] at d0 h2625 h2626 h2627 h2628 h2629 h2630 h2632 xq16 ⊢) <;> (try simp only [zz, Int32.reduceToInt, ne_eq] at d0 h2625 h2626 h2627 h2628 h2629 h2630 h2632 xq16 ⊢) <;> (try simp (disch := omega) only [zb] at d0 h2625 h2626 h2627 h2628 h2629 h2630 h2632 xq16 ⊢) <;> first | omega | ((try simp (disch := omega) only [zb] at d0 h2625 h2626 h2627 h2628 h2629 h2630 h2632 xq16 ⊢) <;> omega))⟩
          · exact sw_some ⟨c0, f0, (by (try simp only [zp, zo, zq] at d0 h2625 h2626 h2627 h2628 h2629 ⊢) <;> (try simp only [zz, Int32.reduceToInt, ne_eq] at d0 h2625 h2626 h2627 h2628 h2629 ⊢) <;> (try simp (disch := omega) only [zb] at d0 h2625 h2626 h2627 h2628 h2629 ⊢) <;> first | omega | ((try simp (disch := omega) only [zb] at d0 h2625 h2626 h2627 h2628 h2629 ⊢) <;> omega))⟩
        · exact sw_some ⟨c0, f0, (by (try simp only [zp, zo, zq] at d0 h2625 h2626 h2627 h2628 ⊢) <;> (try simp only [zz, Int32.reduceToInt, ne_eq] at d0 h2625 h2626 h2627 h2628 ⊢) <;> (try simp (disch := omega) only [zb] at d0 h2625 h2626 h2627 h2628 ⊢) <;> first | omega | ((try simp (disch := omega) only [zb] at d0 h2625 h2626 h2627 h2628 ⊢) <;> omega))⟩
      · exact sw_some ⟨c0, f0, (by (try simp only [zp, zo, zq] at d0 h2625 h2626 h2627 ⊢) <;> (try simp only [zz, Int32.reduceToInt, ne_eq] at d0 h2625 h2626 h2627 ⊢) <;> (try simp (disch := omega) only [zb] at d0 h2625 h2626 h2627 ⊢) <;> first | omega | ((try simp (disch := omega) only [zb] at d0 h2625 h2626 h2627 ⊢) <;> omega))⟩
    · exact sw_some ⟨c0, f0, (by (try simp only [zp, zo, zq] at d0 h2625 h2626 ⊢) <;> (try simp only [zz, Int32.reduceToInt, ne_eq] at d0 h2625 h2626 ⊢) <;> (try simp (disch := omega) only [zb] at d0 h2625 h2626 ⊢) <;> first | omega | ((try simp (disch := omega) only [zb] at d0 h2625 h2626 ⊢) <;> omega))⟩
  · exact sw_some ⟨c0, f0, (by (try simp only [zp, zo, zq] at d0 h2625 ⊢) <;> (try simp only [zz, Int32.reduceToInt, ne_eq] at d0 h2625 ⊢) <;> (try simp (disch := omega) only [zb] at d0 h2625 ⊢) <;> first | omega | ((try simp (disch := omega) only [zb] at d0 h2625 ⊢) <;> omega))⟩
abbrev VX9_cell : List Nat := [900]
set_option maxHeartbeats 4000000 in
set_option maxRecDepth 10000 in
theorem vX9_cell {T : Nat → Option Nat} {σ0 : mm_M} {p0 : Nat} {p1 : Int32} {p2 : Int32} {p3 : Int32} {p4 : Int32} {p5 : Int32} (c0 : sCI T σ0) (hv : sFV9 T σ0) (t_p0 : T p0 = some 9) : sw (fX9_cell p0 p1 p2 p3 p4 p5 σ0) (fun R => sCI T R.2 ∧ sFR T VX9_cell σ0 R.2 ∧ (((0 ≤ p1.toInt ∧ p1.toInt ≤ 3 ∧ 0 ≤ p2.toInt ∧ p2.toInt ≤ 1 ∧ 1 ≤ p3.toInt ∧ p3.toInt ≤ 15 ∧ 0 ≤ p4.toInt ∧ p4.toInt ≤ 31 ∧ 0 ≤ p5.toInt ∧ p5.toInt ≤ 1) ∧ R.1.toInt = 0 ∧ (mm_I R.2 p0 0).toInt = 0) ∨ (¬ (0 ≤ p1.toInt ∧ p1.toInt ≤ 3 ∧ 0 ≤ p2.toInt ∧ p2.toInt ≤ 1 ∧ 1 ≤ p3.toInt ∧ p3.toInt ≤ 15 ∧ 0 ≤ p4.toInt ∧ p4.toInt ≤ 31 ∧ 0 ≤ p5.toInt ∧ p5.toInt ≤ 1) ∧ (mm_I R.2 p0 0).toInt = 1))) := by
  have f0 : sFR T VX9_cell σ0 σ0 := fr_refl
  unfold fX9_cell
  have u2633 := su_in p1 0 3
  refine sw_ite (fun h2634 => ?_) (fun h2634 => ?_)
  · unfold fX9_cell_54
    unfold fX9_cell_55
    refine sw_sh (ci_sh c0 t_p0 rfl) ?_
    refine sw_on (vX9_goes c0 t_p0 (by (try simp only [zp, zo, zq] at u2633 h2634 ⊢) <;> (try simp only [zz, Int32.reduceToInt, ne_eq] at u2633 h2634 ⊢) <;> (try simp (disch := omega) only [zb] at u2633 h2634 ⊢) <;> first | omega | ((try simp (disch := omega) only [zb] at u2633 h2634 ⊢) <;> omega)) ) ?_
    intro q3 hqq3
    obtain ⟨cq3, gq3, xq3⟩ := hqq3
    have fq3 := fr_trans f0 gq3 rfl
    refine sw_ite (fun h2635 => ?_) (fun h2635 => ?_)
    · exact sw_some ⟨cq3, fq3, (by (try simp only [zp, zo, zq] at u2633 h2634 xq3 h2635 ⊢) <;> (try simp only [zz, Int32.reduceToInt, ne_eq] at u2633 h2634 xq3 h2635 ⊢) <;> (try simp (disch := omega) only [zb] at u2633 h2634 xq3 h2635 ⊢) <;> first | omega | ((try simp (disch := omega) only [zb] at u2633 h2634 xq3 h2635 ⊢) <;> omega))⟩
    · refine sw_sh (ci_sh cq3 t_p0 rfl) ?_
      refine sw_on (sX9_cellAt cq3 t_p0 (by (try simp only [zp, zo, zq] at u2633 h2634 xq3 h2635 ⊢) <;> (try simp only [zz, Int32.reduceToInt, ne_eq] at u2633 h2634 xq3 h2635 ⊢) <;> (try simp (disch := omega) only [zb] at u2633 h2634 xq3 h2635 ⊢) <;> first | omega | ((try simp (disch := omega) only [zb] at u2633 h2634 xq3 h2635 ⊢) <;> omega)) (by (try simp only [zp, zo, zq] at u2633 h2634 xq3 h2635 ⊢) <;> (try simp only [zz, Int32.reduceToInt, ne_eq] at u2633 h2634 xq3 h2635 ⊢) <;> (try simp (disch := omega) only [zb] at u2633 h2634 xq3 h2635 ⊢) <;> first | omega | ((try simp (disch := omega) only [zb] at u2633 h2634 xq3 h2635 ⊢) <;> omega)) (by (try simp only [zp, zo, zq] at u2633 h2634 xq3 h2635 ⊢) <;> (try simp only [zz, Int32.reduceToInt, ne_eq] at u2633 h2634 xq3 h2635 ⊢) <;> (try simp (disch := omega) only [zb] at u2633 h2634 xq3 h2635 ⊢) <;> first | omega | ((try simp (disch := omega) only [zb] at u2633 h2634 xq3 h2635 ⊢) <;> omega)) ) ?_
      intro q6 hqq6
      obtain ⟨eq6, xq6⟩ := hqq6
      (try rw [eq6])
      refine sw_ite (fun h2637 => ?_) (fun h2637 => ?_)
      · refine sw_sh (ci_sh cq3 t_p0 rfl) ?_
        obtain ⟨q13, eq13, tq13⟩ := ci_ref cq3 t_p0 1 (κ' := 51) rfl
        refine sw_onS eq13 ?_
        refine sw_ar (ci_sh cq3 tq13 rfl) ?_
        refine sw_ib (by (try simp only [zp, zo, zq] at u2633 h2634 xq3 h2635 xq6 h2637 ⊢) <;> (try simp only [zz, Int32.reduceToInt, ne_eq] at u2633 h2634 xq3 h2635 xq6 h2637 ⊢) <;> (try simp (disch := omega) only [zb] at u2633 h2634 xq3 h2635 xq6 h2637 ⊢) <;> first | omega | ((try simp (disch := omega) only [zb] at u2633 h2634 xq3 h2635 xq6 h2637 ⊢) <;> omega)) ?_
        have w2638 := (gq3.2.2 _ _ tq13 q6.1.toNatClampNeg rfl).1
        have f2639 : mm_I σ0 q13 q6.1.toNatClampNeg = 0 := hv q13 51 q6.1.toNatClampNeg tq13 (Or.inr (by decide))
        exact sw_some ⟨cq3, fq3, (by (try simp only [zp, zo, zq] at u2633 h2634 xq3 h2635 xq6 h2637 w2638 f2639 ⊢) <;> (try simp only [zz, Int32.reduceToInt, ne_eq] at u2633 h2634 xq3 h2635 xq6 h2637 w2638 f2639 ⊢) <;> (try simp (disch := omega) only [zb] at u2633 h2634 xq3 h2635 xq6 h2637 w2638 f2639 ⊢) <;> first | omega | ((try simp (disch := omega) only [zb] at u2633 h2634 xq3 h2635 xq6 h2637 w2638 f2639 ⊢) <;> omega))⟩
      · refine sw_sh (ci_sh cq3 t_p0 rfl) ?_
        obtain ⟨q9, eq9, tq9⟩ := ci_ref cq3 t_p0 2 (κ' := 52) rfl
        refine sw_onS eq9 ?_
        refine sw_ar (ci_sh cq3 tq9 rfl) ?_
        refine sw_ib (by (try simp only [zp, zo, zq] at u2633 h2634 xq3 h2635 xq6 h2637 ⊢) <;> (try simp only [zz, Int32.reduceToInt, ne_eq] at u2633 h2634 xq3 h2635 xq6 h2637 ⊢) <;> (try simp (disch := omega) only [zb] at u2633 h2634 xq3 h2635 xq6 h2637 ⊢) <;> first | omega | ((try simp (disch := omega) only [zb] at u2633 h2634 xq3 h2635 xq6 h2637 ⊢) <;> omega)) ?_
        have w2641 := (gq3.2.2 _ _ tq9 q6.1.toNatClampNeg rfl).1
        have f2642 : mm_I σ0 q9 q6.1.toNatClampNeg = 0 := hv q9 52 q6.1.toNatClampNeg tq9 (Or.inr (by decide))
        exact sw_some ⟨cq3, fq3, (by (try simp only [zp, zo, zq] at u2633 h2634 xq3 h2635 xq6 h2637 w2641 f2642 ⊢) <;> (try simp only [zz, Int32.reduceToInt, ne_eq] at u2633 h2634 xq3 h2635 xq6 h2637 w2641 f2642 ⊢) <;> (try simp (disch := omega) only [zb] at u2633 h2634 xq3 h2635 xq6 h2637 w2641 f2642 ⊢) <;> first | omega | ((try simp (disch := omega) only [zb] at u2633 h2634 xq3 h2635 xq6 h2637 w2641 f2642 ⊢) <;> omega))⟩
  · have u2644 := su_in p2 0 1
    refine sw_ite (fun h2645 => ?_) (fun h2645 => ?_)
    · unfold fX9_cell_54
      unfold fX9_cell_55
      refine sw_sh (ci_sh c0 t_p0 rfl) ?_
      refine sw_on (vX9_goes c0 t_p0 (by (try simp only [zp, zo, zq] at u2633 h2634 u2644 h2645 ⊢) <;> (try simp only [zz, Int32.reduceToInt, ne_eq] at u2633 h2634 u2644 h2645 ⊢) <;> (try simp (disch := omega) only [zb] at u2633 h2634 u2644 h2645 ⊢) <;> first | omega | ((try simp (disch := omega) only [zb] at u2633 h2634 u2644 h2645 ⊢) <;> omega)) ) ?_
      intro q3 hqq3
      obtain ⟨cq3, gq3, xq3⟩ := hqq3
      have fq3 := fr_trans f0 gq3 rfl
      refine sw_ite (fun h2646 => ?_) (fun h2646 => ?_)
      · exact sw_some ⟨cq3, fq3, (by (try simp only [zp, zo, zq] at u2633 h2634 u2644 h2645 xq3 h2646 ⊢) <;> (try simp only [zz, Int32.reduceToInt, ne_eq] at u2633 h2634 u2644 h2645 xq3 h2646 ⊢) <;> (try simp (disch := omega) only [zb] at u2633 h2634 u2644 h2645 xq3 h2646 ⊢) <;> first | omega | ((try simp (disch := omega) only [zb] at u2633 h2634 u2644 h2645 xq3 h2646 ⊢) <;> omega))⟩
      · refine sw_sh (ci_sh cq3 t_p0 rfl) ?_
        refine sw_on (sX9_cellAt cq3 t_p0 (by (try simp only [zp, zo, zq] at u2633 h2634 u2644 h2645 xq3 h2646 ⊢) <;> (try simp only [zz, Int32.reduceToInt, ne_eq] at u2633 h2634 u2644 h2645 xq3 h2646 ⊢) <;> (try simp (disch := omega) only [zb] at u2633 h2634 u2644 h2645 xq3 h2646 ⊢) <;> first | omega | ((try simp (disch := omega) only [zb] at u2633 h2634 u2644 h2645 xq3 h2646 ⊢) <;> omega)) (by (try simp only [zp, zo, zq] at u2633 h2634 u2644 h2645 xq3 h2646 ⊢) <;> (try simp only [zz, Int32.reduceToInt, ne_eq] at u2633 h2634 u2644 h2645 xq3 h2646 ⊢) <;> (try simp (disch := omega) only [zb] at u2633 h2634 u2644 h2645 xq3 h2646 ⊢) <;> first | omega | ((try simp (disch := omega) only [zb] at u2633 h2634 u2644 h2645 xq3 h2646 ⊢) <;> omega)) (by (try simp only [zp, zo, zq] at u2633 h2634 u2644 h2645 xq3 h2646 ⊢) <;> (try simp only [zz, Int32.reduceToInt, ne_eq] at u2633 h2634 u2644 h2645 xq3 h2646 ⊢) <;> (try simp (disch := omega) only [zb] at u2633 h2634 u2644 h2645 xq3 h2646 ⊢) <;> first | omega | ((try simp (disch := omega) only [zb] at u2633 h2634 u2644 h2645 xq3 h2646 ⊢) <;> omega)) ) ?_
        intro q6 hqq6
        obtain ⟨eq6, xq6⟩ := hqq6
        (try rw [eq6])
        refine sw_ite (fun h2648 => ?_) (fun h2648 => ?_)
        · refine sw_sh (ci_sh cq3 t_p0 rfl) ?_
          obtain ⟨q13, eq13, tq13⟩ := ci_ref cq3 t_p0 1 (κ' := 51) rfl
          refine sw_onS eq13 ?_
          refine sw_ar (ci_sh cq3 tq13 rfl) ?_
          refine sw_ib (by (try simp only [zp, zo, zq] at u2633 h2634 u2644 h2645 xq3 h2646 xq6 h2648 ⊢) <;> (try simp only [zz, Int32.reduceToInt, ne_eq] at u2633 h2634 u2644 h2645 xq3 h2646 xq6 h2648 ⊢) <;> (try simp (disch := omega) only [zb] at u2633 h2634 u2644 h2645 xq3 h2646 xq6 h2648 ⊢) <;> first | omega | ((try simp (disch := omega) only [zb] at u2633 h2634 u2644 h2645 xq3 h2646 xq6 h2648 ⊢) <;> omega)) ?_
          have w2649 := (gq3.2.2 _ _ tq13 q6.1.toNatClampNeg rfl).1
          have f2650 : mm_I σ0 q13 q6.1.toNatClampNeg = 0 := hv q13 51 q6.1.toNatClampNeg tq13 (Or.inr (by decide))
          exact sw_some ⟨cq3, fq3, (by (try simp only [zp, zo, zq] at u2633 h2634 u2644 h2645 xq3 h2646 xq6 h2648 w2649 f2650 ⊢) <;> (try simp only [zz, Int32.reduceToInt, ne_eq] at u2633 h2634 u2644 h2645 xq3 h2646 xq6 h2648 w2649 f2650 ⊢) <;> (try simp (disch := omega) only [zb] at u2633 h2634 u2644 h2645 xq3 h2646 xq6 h2648 w2649 f2650 ⊢) <;> first | omega | ((try simp (disch := omega) only [zb] at u2633 h2634 u2644 h2645 xq3 h2646 xq6 h2648 w2649 f2650 ⊢) <;> omega))⟩
        · refine sw_sh (ci_sh cq3 t_p0 rfl) ?_
          obtain ⟨q9, eq9, tq9⟩ := ci_ref cq3 t_p0 2 (κ' := 52) rfl
          refine sw_onS eq9 ?_
          refine sw_ar (ci_sh cq3 tq9 rfl) ?_
          refine sw_ib (by (try simp only [zp, zo, zq] at u2633 h2634 u2644 h2645 xq3 h2646 xq6 h2648 ⊢) <;> (try simp only [zz, Int32.reduceToInt, ne_eq] at u2633 h2634 u2644 h2645 xq3 h2646 xq6 h2648 ⊢) <;> (try simp (disch := omega) only [zb] at u2633 h2634 u2644 h2645 xq3 h2646 xq6 h2648 ⊢) <;> first | omega | ((try simp (disch := omega) only [zb] at u2633 h2634 u2644 h2645 xq3 h2646 xq6 h2648 ⊢) <;> omega)) ?_
          have w2652 := (gq3.2.2 _ _ tq9 q6.1.toNatClampNeg rfl).1
          have f2653 : mm_I σ0 q9 q6.1.toNatClampNeg = 0 := hv q9 52 q6.1.toNatClampNeg tq9 (Or.inr (by decide))
          exact sw_some ⟨cq3, fq3, (by (try simp only [zp, zo, zq] at u2633 h2634 u2644 h2645 xq3 h2646 xq6 h2648 w2652 f2653 ⊢) <;> (try simp only [zz, Int32.reduceToInt, ne_eq] at u2633 h2634 u2644 h2645 xq3 h2646 xq6 h2648 w2652 f2653 ⊢) <;> (try simp (disch := omega) only [zb] at u2633 h2634 u2644 h2645 xq3 h2646 xq6 h2648 w2652 f2653 ⊢) <;> first | omega | ((try simp (disch := omega) only [zb] at u2633 h2634 u2644 h2645 xq3 h2646 xq6 h2648 w2652 f2653 ⊢) <;> omega))⟩
    · have u2655 := su_in p3 1 15
      refine sw_ite (fun h2656 => ?_) (fun h2656 => ?_)
      · unfold fX9_cell_54
        unfold fX9_cell_55
        refine sw_sh (ci_sh c0 t_p0 rfl) ?_
        refine sw_on (vX9_goes c0 t_p0 (by (try simp only [zp, zo, zq] at u2633 h2634 u2644 h2645 u2655 h2656 ⊢) <;> (try simp only [zz, Int32.reduceToInt, ne_eq] at u2633 h2634 u2644 h2645 u2655 h2656 ⊢) <;> (try simp (disch := omega) only [zb] at u2633 h2634 u2644 h2645 u2655 h2656 ⊢) <;> first | omega | ((try simp (disch := omega) only [zb] at u2633 h2634 u2644 h2645 u2655 h2656 ⊢) <;> omega)) ) ?_
        intro q3 hqq3
        obtain ⟨cq3, gq3, xq3⟩ := hqq3
        have fq3 := fr_trans f0 gq3 rfl
        refine sw_ite (fun h2657 => ?_) (fun h2657 => ?_)
        · exact sw_some ⟨cq3, fq3, (by (try simp only [zp, zo, zq] at u2633 h2634 u2644 h2645 u2655 h2656 xq3 h2657 ⊢) <;> (try simp only [zz, Int32.reduceToInt, ne_eq] at u2633 h2634 u2644 h2645 u2655 h2656 xq3 h2657 ⊢) <;> (try simp (disch := omega) only [zb] at u2633 h2634 u2644 h2645 u2655 h2656 xq3 h2657 ⊢) <;> first | omega | ((try simp (disch := omega) only [zb] at u2633 h2634 u2644 h2645 u2655 h2656 xq3 h2657 ⊢) <;> omega))⟩
        · refine sw_sh (ci_sh cq3 t_p0 rfl) ?_
          refine sw_on (sX9_cellAt cq3 t_p0 (by (try simp only [zp, zo, zq] at u2633 h2634 u2644 h2645 u2655 h2656 xq3 h2657 ⊢) <;> (try simp only [zz, Int32.reduceToInt, ne_eq] at u2633 h2634 u2644 h2645 u2655 h2656 xq3 h2657 ⊢) <;> (try simp (disch := omega) only [zb] at u2633 h2634 u2644 h2645 u2655 h2656 xq3 h2657 ⊢) <;> first | omega | ((try simp (disch := omega) only [zb] at u2633 h2634 u2644 h2645 u2655 h2656 xq3 h2657 ⊢) <;> omega)) (by (try simp only [zp, zo, zq] at u2633 h2634 u2644 h2645 u2655 h2656 xq3 h2657 ⊢) <;> (try simp only [zz, Int32.reduceToInt, ne_eq] at u2633 h2634 u2644 h2645 u2655 h2656 xq3 h2657 ⊢) <;> (try simp (disch := omega) only [zb] at u2633 h2634 u2644 h2645 u2655 h2656 xq3 h2657 ⊢) <;> first | omega | ((try simp (disch := omega) only [zb] at u2633 h2634 u2644 h2645 u2655 h2656 xq3 h2657 ⊢) <;> omega)) (by (try simp only [zp, zo, zq] at u2633 h2634 u2644 h2645 u2655 h2656 xq3 h2657 ⊢) <;> (try simp only [zz, Int32.reduceToInt, ne_eq] at u2633 h2634 u2644 h2645 u2655 h2656 xq3 h2657 ⊢) <;> (try simp (disch := omega) only [zb] at u2633 h2634 u2644 h2645 u2655 h2656 xq3 h2657 ⊢) <;> first | omega | ((try simp (disch := omega) only [zb] at u2633 h2634 u2644 h2645 u2655 h2656 xq3 h2657 ⊢) <;> omega)) ) ?_
          intro q6 hqq6
          obtain ⟨eq6, xq6⟩ := hqq6
          (try rw [eq6])
          refine sw_ite (fun h2659 => ?_) (fun h2659 => ?_)
          · refine sw_sh (ci_sh cq3 t_p0 rfl) ?_
            obtain ⟨q13, eq13, tq13⟩ := ci_ref cq3 t_p0 1 (κ' := 51) rfl
            refine sw_onS eq13 ?_
            refine sw_ar (ci_sh cq3 tq13 rfl) ?_
            refine sw_ib (by (try simp only [zp, zo, zq] at u2633 h2634 u2644 h2645 u2655 h2656 xq3 h2657 xq6 h2659 ⊢) <;> (try simp only [zz, Int32.reduceToInt, ne_eq] at u2633 h2634 u2644 h2645 u2655 h2656 xq3 h2657 xq6 h2659 ⊢) <;> (try simp (disch := omega) only [zb] at u2633 h2634 u2644 h2645 u2655 h2656 xq3 h2657 xq6 h2659 ⊢) <;> first | omega | ((try simp (disch := omega) only [zb] at u2633 h2634 u2644 h2645 u2655 h2656 xq3 h2657 xq6 h2659 ⊢) <;> omega)) ?_
            have w2660 := (gq3.2.2 _ _ tq13 q6.1.toNatClampNeg rfl).1
            have f2661 : mm_I σ0 q13 q6.1.toNatClampNeg = 0 := hv q13 51 q6.1.toNatClampNeg tq13 (Or.inr (by decide))
            exact sw_some ⟨cq3, fq3, (by (try simp only [zp, zo, zq] at u2633 h2634 u2644 h2645 u2655 h2656 xq3 h2657 xq6 h2659 w2660 f2661 ⊢) <;> (try simp only [zz, Int32.reduceToInt, ne_eq] at u2633 h2634 u2644 h2645 u2655 h2656 xq3 h2657 xq6 h2659 w2660 f2661 ⊢) <;> (try simp (disch := omega) only [zb] at u2633 h2634 u2644 h2645 u2655 h2656 xq3 h2657 xq6 h2659 w2660 f2661 ⊢) <;> first | omega | ((try simp (disch := omega) only [zb] at u2633 h2634 u2644 h2645 u2655 h2656 xq3 h2657 xq6 h2659 w2660 f2661 ⊢) <;> omega))⟩
          · refine sw_sh (ci_sh cq3 t_p0 rfl) ?_
            obtain ⟨q9, eq9, tq9⟩ := ci_ref cq3 t_p0 2 (κ' := 52) rfl
            refine sw_onS eq9 ?_
            refine sw_ar (ci_sh cq3 tq9 rfl) ?_
            refine sw_ib (by (try simp only [zp, zo, zq] at u2633 h2634 u2644 h2645 u2655 h2656 xq3 h2657 xq6 h2659 ⊢) <;> (try simp only [zz, Int32.reduceToInt, ne_eq] at u2633 h2634 u2644 h2645 u2655 h2656 xq3 h2657 xq6 h2659 ⊢) <;> (try simp (disch := omega) only [zb] at u2633 h2634 u2644 h2645 u2655 h2656 xq3 h2657 xq6 h2659 ⊢) <;> first | omega | ((try simp (disch := omega) only [zb] at u2633 h2634 u2644 h2645 u2655 h2656 xq3 h2657 xq6 h2659 ⊢) <;> omega)) ?_
            have w2663 := (gq3.2.2 _ _ tq9 q6.1.toNatClampNeg rfl).1
            have f2664 : mm_I σ0 q9 q6.1.toNatClampNeg = 0 := hv q9 52 q6.1.toNatClampNeg tq9 (Or.inr (by decide))
            exact sw_some ⟨cq3, fq3, (by (try simp only [zp, zo, zq] at u2633 h2634 u2644 h2645 u2655 h2656 xq3 h2657 xq6 h2659 w2663 f2664 ⊢) <;> (try simp only [zz, Int32.reduceToInt, ne_eq] at u2633 h2634 u2644 h2645 u2655 h2656 xq3 h2657 xq6 h2659 w2663 f2664 ⊢) <;> (try simp (disch := omega) only [zb] at u2633 h2634 u2644 h2645 u2655 h2656 xq3 h2657 xq6 h2659 w2663 f2664 ⊢) <;> first | omega | ((try simp (disch := omega) only [zb] at u2633 h2634 u2644 h2645 u2655 h2656 xq3 h2657 xq6 h2659 w2663 f2664 ⊢) <;> omega))⟩
      · have u2666 := su_in p4 0 31
        refine sw_ite (fun h2667 => ?_) (fun h2667 => ?_)
        · unfold fX9_cell_54
          unfold fX9_cell_55
          refine sw_sh (ci_sh c0 t_p0 rfl) ?_
          refine sw_on (vX9_goes c0 t_p0 (by (try simp only [zp, zo, zq] at u2633 h2634 u2644 h2645 u2655 h2656 u2666 h2667 ⊢) <;> (try simp only [zz, Int32.reduceToInt, ne_eq] at u2633 h2634 u2644 h2645 u2655 h2656 u2666 h2667 ⊢) <;> (try simp (disch := omega) only [zb] at u2633 h2634 u2644 h2645 u2655 h2656 u2666 h2667 ⊢) <;> first | omega | ((try simp (disch := omega) only [zb] at u2633 h2634 u2644 h2645 u2655 h2656 u2666 h2667 ⊢) <;> omega)) ) ?_
          intro q3 hqq3
          obtain ⟨cq3, gq3, xq3⟩ := hqq3
          have fq3 := fr_trans f0 gq3 rfl
          refine sw_ite (fun h2668 => ?_) (fun h2668 => ?_)
          · exact sw_some ⟨cq3, fq3, (by (try simp only [zp, zo, zq] at u2633 h2634 u2644 h2645 u2655 h2656 u2666 h2667 xq3 h2668 ⊢) <;> (try simp only [zz, Int32.reduceToInt, ne_eq] at u2633 h2634 u2644 h2645 u2655 h2656 u2666 h2667 xq3 h2668 ⊢) <;> (try simp (disch := omega) only [zb] at u2633 h2634 u2644 h2645 u2655 h2656 u2666 h2667 xq3 h2668 ⊢) <;> first | omega | ((try simp (disch := omega) only [zb] at u2633 h2634 u2644 h2645 u2655 h2656 u2666 h2667 xq3 h2668 ⊢) <;> omega))⟩
          · refine sw_sh (ci_sh cq3 t_p0 rfl) ?_
            refine sw_on (sX9_cellAt cq3 t_p0 (by (try simp only [zp, zo, zq] at u2633 h2634 u2644 h2645 u2655 h2656 u2666 h2667 xq3 h2668 ⊢) <;> (try simp only [zz, Int32.reduceToInt, ne_eq] at u2633 h2634 u2644 h2645 u2655 h2656 u2666 h2667 xq3 h2668 ⊢) <;> (try simp (disch := omega) only [zb] at u2633 h2634 u2644 h2645 u2655 h2656 u2666 h2667 xq3 h2668 ⊢) <;> first | omega | ((try simp (disch := omega) only [zb] at u2633 h2634 u2644 h2645 u2655 h2656 u2666 h2667 xq3 h2668 ⊢) <;> omega)) (by (try simp only [zp, zo, zq] at u2633 h2634 u2644 h2645 u2655 h2656 u2666 h2667 xq3 h2668 ⊢) <;> (try simp only [zz, Int32.reduceToInt, ne_eq] at u2633 h2634 u2644 h2645 u2655 h2656 u2666 h2667 xq3 h2668 ⊢) <;> (try simp (disch := omega) only [zb] at u2633 h2634 u2644 h2645 u2655 h2656 u2666 h2667 xq3 h2668 ⊢) <;> first | omega | ((try simp (disch := omega) only [zb] at u2633 h2634 u2644 h2645 u2655 h2656 u2666 h2667 xq3 h2668 ⊢) <;> omega)) (by (try simp only [zp, zo, zq] at u2633 h2634 u2644 h2645 u2655 h2656 u2666 h2667 xq3 h2668 ⊢) <;> (try simp only [zz, Int32.reduceToInt, ne_eq] at u2633 h2634 u2644 h2645 u2655 h2656 u2666 h2667 xq3 h2668 ⊢) <;> (try simp (disch := omega) only [zb] at u2633 h2634 u2644 h2645 u2655 h2656 u2666 h2667 xq3 h2668 ⊢) <;> first | omega | ((try simp (disch := omega) only [zb] at u2633 h2634 u2644 h2645 u2655 h2656 u2666 h2667 xq3 h2668 ⊢) <;> omega)) ) ?_
            intro q6 hqq6
            obtain ⟨eq6, xq6⟩ := hqq6
            (try rw [eq6])
            refine sw_ite (fun h2670 => ?_) (fun h2670 => ?_)
            · refine sw_sh (ci_sh cq3 t_p0 rfl) ?_
              obtain ⟨q13, eq13, tq13⟩ := ci_ref cq3 t_p0 1 (κ' := 51) rfl
              refine sw_onS eq13 ?_
              refine sw_ar (ci_sh cq3 tq13 rfl) ?_
              refine sw_ib (by (try simp only [zp, zo, zq] at u2633 h2634 u2644 h2645 u2655 h2656 u2666 h2667 xq3 h2668 xq6 h2670 ⊢) <;> (try simp only [zz, Int32.reduceToInt, ne_eq] at u2633 h2634 u2644 h2645 u2655 h2656 u2666 h2667 xq3 h2668 xq6 h2670 ⊢) <;> (try simp (disch := omega) only [zb] at u2633 h2634 u2644 h2645 u2655 h2656 u2666 h2667 xq3 h2668 xq6 h2670 ⊢) <;> first | omega | ((try simp (disch := omega) only [zb] at u2633 h2634 u2644 h2645 u2655 h2656 u2666 h2667 xq3 h2668 xq6 h2670 ⊢) <;> omega)) ?_
              have w2671 := (gq3.2.2 _ _ tq13 q6.1.toNatClampNeg rfl).1
              have f2672 : mm_I σ0 q13 q6.1.toNatClampNeg = 0 := hv q13 51 q6.1.toNatClampNeg tq13 (Or.inr (by decide))
              exact sw_some ⟨cq3, fq3, (by (try simp only [zp, zo, zq] at u2633 h2634 u2644 h2645 u2655 h2656 u2666 h2667 xq3 h2668 xq6 h2670 w2671 f2672 ⊢) <;> (try simp only [zz, Int32.reduceToInt, ne_eq] at u2633 h2634 u2644 h2645 u2655 h2656 u2666 h2667 xq3 h2668 xq6 h2670 w2671 f2672 ⊢) <;> (try simp (disch := omega) only [zb] at u2633 h2634 u2644 h2645 u2655 h2656 u2666 h2667 xq3 h2668 xq6 h2670 w2671 f2672 ⊢) <;> first | omega | ((try simp (disch := omega) only [zb] at u2633 h2634 u2644 h2645 u2655 h2656 u2666 h2667 xq3 h2668 xq6 h2670 w2671 f2672 ⊢) <;> omega))⟩
            · refine sw_sh (ci_sh cq3 t_p0 rfl) ?_
              obtain ⟨q9, eq9, tq9⟩ := ci_ref cq3 t_p0 2 (κ' := 52) rfl
              refine sw_onS eq9 ?_
              refine sw_ar (ci_sh cq3 tq9 rfl) ?_
              refine sw_ib (by (try simp only [zp, zo, zq] at u2633 h2634 u2644 h2645 u2655 h2656 u2666 h2667 xq3 h2668 xq6 h2670 ⊢) <;> (try simp only [zz, Int32.reduceToInt, ne_eq] at u2633 h2634 u2644 h2645 u2655 h2656 u2666 h2667 xq3 h2668 xq6 h2670 ⊢) <;> (try simp (disch := omega) only [zb] at u2633 h2634 u2644 h2645 u2655 h2656 u2666 h2667 xq3 h2668 xq6 h2670 ⊢) <;> first | omega | ((try simp (disch := omega) only [zb] at u2633 h2634 u2644 h2645 u2655 h2656 u2666 h2667 xq3 h2668 xq6 h2670 ⊢) <;> omega)) ?_
              have w2674 := (gq3.2.2 _ _ tq9 q6.1.toNatClampNeg rfl).1
              have f2675 : mm_I σ0 q9 q6.1.toNatClampNeg = 0 := hv q9 52 q6.1.toNatClampNeg tq9 (Or.inr (by decide))
              exact sw_some ⟨cq3, fq3, (by (try simp only [zp, zo, zq] at u2633 h2634 u2644 h2645 u2655 h2656 u2666 h2667 xq3 h2668 xq6 h2670 w2674 f2675 ⊢) <;> (try simp only [zz, Int32.reduceToInt, ne_eq] at u2633 h2634 u2644 h2645 u2655 h2656 u2666 h2667 xq3 h2668 xq6 h2670 w2674 f2675 ⊢) <;> (try simp (disch := omega) only [zb] at u2633 h2634 u2644 h2645 u2655 h2656 u2666 h2667 xq3 h2668 xq6 h2670 w2674 f2675 ⊢) <;> first | omega | ((try simp (disch := omega) only [zb] at u2633 h2634 u2644 h2645 u2655 h2656 u2666 h2667 xq3 h2668 xq6 h2670 w2674 f2675 ⊢) <;> omega))⟩
        · have u2677 := su_in p5 0 1
          refine sw_ite (fun h2678 => ?_) (fun h2678 => ?_)
          · unfold fX9_cell_54
            unfold fX9_cell_55
            refine sw_sh (ci_sh c0 t_p0 rfl) ?_
            refine sw_on (vX9_goes c0 t_p0 (by (try simp only [zp, zo, zq] at u2633 h2634 u2644 h2645 u2655 h2656 u2666 h2667 u2677 h2678 ⊢) <;> (try simp only [zz, Int32.reduceToInt, ne_eq] at u2633 h2634 u2644 h2645 u2655 h2656 u2666 h2667 u2677 h2678 ⊢) <;> (try simp (disch := omega) only [zb] at u2633 h2634 u2644 h2645 u2655 h2656 u2666 h2667 u2677 h2678 ⊢) <;> first | omega | ((try simp (disch := omega) only [zb] at u2633 h2634 u2644 h2645 u2655 h2656 u2666 h2667 u2677 h2678 ⊢) <;> omega)) ) ?_
            intro q3 hqq3
            obtain ⟨cq3, gq3, xq3⟩ := hqq3
            have fq3 := fr_trans f0 gq3 rfl
            refine sw_ite (fun h2679 => ?_) (fun h2679 => ?_)
            · exact sw_some ⟨cq3, fq3, (by (try simp only [zp, zo, zq] at u2633 h2634 u2644 h2645 u2655 h2656 u2666 h2667 u2677 h2678 xq3 h2679 ⊢) <;> (try simp only [zz, Int32.reduceToInt, ne_eq] at u2633 h2634 u2644 h2645 u2655 h2656 u2666 h2667 u2677 h2678 xq3 h2679 ⊢) <;> (try simp (disch := omega) only [zb] at u2633 h2634 u2644 h2645 u2655 h2656 u2666 h2667 u2677 h2678 xq3 h2679 ⊢) <;> first | omega | ((try simp (disch := omega) only [zb] at u2633 h2634 u2644 h2645 u2655 h2656 u2666 h2667 u2677 h2678 xq3 h2679 ⊢) <;> omega))⟩
            · refine sw_sh (ci_sh cq3 t_p0 rfl) ?_
              refine sw_on (sX9_cellAt cq3 t_p0 (by (try simp only [zp, zo, zq] at u2633 h2634 u2644 h2645 u2655 h2656 u2666 h2667 u2677 h2678 xq3 h2679 ⊢) <;> (try simp only [zz, Int32.reduceToInt, ne_eq] at u2633 h2634 u2644 h2645 u2655 h2656 u2666 h2667 u2677 h2678 xq3 h2679 ⊢) <;> (try simp (disch := omega) only [zb] at u2633 h2634 u2644 h2645 u2655 h2656 u2666 h2667 u2677 h2678 xq3 h2679 ⊢) <;> first | omega | ((try simp (disch := omega) only [zb] at u2633 h2634 u2644 h2645 u2655 h2656 u2666 h2667 u2677 h2678 xq3 h2679 ⊢) <;> omega)) (by (try simp only [zp, zo, zq] at u2633 h2634 u2644 h2645 u2655 h2656 u2666 h2667 u2677 h2678 xq3 h2679 ⊢) <;> (try simp only [zz, Int32.reduceToInt, ne_eq] at u2633 h2634 u2644 h2645 u2655 h2656 u2666 h2667 u2677 h2678 xq3 h2679 ⊢) <;> (try simp (disch := omega) only [zb] at u2633 h2634 u2644 h2645 u2655 h2656 u2666 h2667 u2677 h2678 xq3 h2679 ⊢) <;> first | omega | ((try simp (disch := omega) only [zb] at u2633 h2634 u2644 h2645 u2655 h2656 u2666 h2667 u2677 h2678 xq3 h2679 ⊢) <;> omega)) (by (try simp only [zp, zo, zq] at u2633 h2634 u2644 h2645 u2655 h2656 u2666 h2667 u2677 h2678 xq3 h2679 ⊢) <;> (try simp only [zz, Int32.reduceToInt, ne_eq] at u2633 h2634 u2644 h2645 u2655 h2656 u2666 h2667 u2677 h2678 xq3 h2679 ⊢) <;> (try simp (disch := omega) only [zb] at u2633 h2634 u2644 h2645 u2655 h2656 u2666 h2667 u2677 h2678 xq3 h2679 ⊢) <;> first | omega | ((try simp (disch := omega) only [zb] at u2633 h2634 u2644 h2645 u2655 h2656 u2666 h2667 u2677 h2678 xq3 h2679 ⊢) <;> omega)) ) ?_
              intro q6 hqq6
              obtain ⟨eq6, xq6⟩ := hqq6
              (try rw [eq6])
              refine sw_ite (fun h2681 => ?_) (fun h2681 => ?_)
              · refine sw_sh (ci_sh cq3 t_p0 rfl) ?_
                obtain ⟨q13, eq13, tq13⟩ := ci_ref cq3 t_p0 1 (κ' := 51) rfl
                refine sw_onS eq13 ?_
                refine sw_ar (ci_sh cq3 tq13 rfl) ?_
                refine sw_ib (by (try simp only [zp, zo, zq] at u2633 h2634 u2644 h2645 u2655 h2656 u2666 h2667 u2677 h2678 xq3 h2679 xq6 h2681 ⊢) <;> (try simp only [zz, Int32.reduceToInt, ne_eq] at u2633 h2634 u2644 h2645 u2655 h2656 u2666 h2667 u2677 h2678 xq3 h2679 xq6 h2681 ⊢) <;> (try simp (disch := omega) only [zb] at u2633 h2634 u2644 h2645 u2655 h2656 u2666 h2667 u2677 h2678 xq3 h2679 xq6 h2681 ⊢) <;> first | omega | ((try simp (disch := omega) only [zb] at u2633 h2634 u2644 h2645 u2655 h2656 u2666 h2667 u2677 h2678 xq3 h2679 xq6 h2681 ⊢) <;> omega)) ?_
                have w2682 := (gq3.2.2 _ _ tq13 q6.1.toNatClampNeg rfl).1
                have f2683 : mm_I σ0 q13 q6.1.toNatClampNeg = 0 := hv q13 51 q6.1.toNatClampNeg tq13 (Or.inr (by decide))
                exact sw_some ⟨cq3, fq3, (by (try simp only [zp, zo, zq] at u2633 h2634 u2644 h2645 u2655 h2656 u2666 h2667 u2677 h2678 xq3 h2679 xq6 h2681 w2682 f2683 ⊢) <;> (try simp only [zz, Int32.reduceToInt, ne_eq] at u2633 h2634 u2644 h2645 u2655 h2656 u2666 h2667 u2677 h2678 xq3 h2679 xq6 h2681 w2682 f2683 ⊢) <;> (try simp (disch := omega) only [zb] at u2633 h2634 u2644 h2645 u2655 h2656 u2666 h2667 u2677 h2678 xq3 h2679 xq6 h2681 w2682 f2683 ⊢) <;> first | omega | ((try simp (disch := omega) only [zb] at u2633 h2634 u2644 h2645 u2655 h2656 u2666 h2667 u2677 h2678 xq3 h2679 xq6 h2681 w2682 f2683 ⊢) <;> omega))⟩
              · refine sw_sh (ci_sh cq3 t_p0 rfl) ?_
                obtain ⟨q9, eq9, tq9⟩ := ci_ref cq3 t_p0 2 (κ' := 52) rfl
                refine sw_onS eq9 ?_
                refine sw_ar (ci_sh cq3 tq9 rfl) ?_
                refine sw_ib (by (try simp only [zp, zo, zq] at u2633 h2634 u2644 h2645 u2655 h2656 u2666 h2667 u2677 h2678 xq3 h2679 xq6 h2681 ⊢) <;> (try simp only [zz, Int32.reduceToInt, ne_eq] at u2633 h2634 u2644 h2645 u2655 h2656 u2666 h2667 u2677 h2678 xq3 h2679 xq6 h2681 ⊢) <;> (try simp (disch := omega) only [zb] at u2633 h2634 u2644 h2645 u2655 h2656 u2666 h2667 u2677 h2678 xq3 h2679 xq6 h2681 ⊢) <;> first | omega | ((try simp (disch := omega) only [zb] at u2633 h2634 u2644 h2645 u2655 h2656 u2666 h2667 u2677 h2678 xq3 h2679 xq6 h2681 ⊢) <;> omega)) ?_
                have w2685 := (gq3.2.2 _ _ tq9 q6.1.toNatClampNeg rfl).1
                have f2686 : mm_I σ0 q9 q6.1.toNatClampNeg = 0 := hv q9 52 q6.1.toNatClampNeg tq9 (Or.inr (by decide))
                exact sw_some ⟨cq3, fq3, (by (try simp only [zp, zo, zq] at u2633 h2634 u2644 h2645 u2655 h2656 u2666 h2667 u2677 h2678 xq3 h2679 xq6 h2681 w2685 f2686 ⊢) <;> (try simp only [zz, Int32.reduceToInt, ne_eq] at u2633 h2634 u2644 h2645 u2655 h2656 u2666 h2667 u2677 h2678 xq3 h2679 xq6 h2681 w2685 f2686 ⊢) <;> (try simp (disch := omega) only [zb] at u2633 h2634 u2644 h2645 u2655 h2656 u2666 h2667 u2677 h2678 xq3 h2679 xq6 h2681 w2685 f2686 ⊢) <;> first | omega | ((try simp (disch := omega) only [zb] at u2633 h2634 u2644 h2645 u2655 h2656 u2666 h2667 u2677 h2678 xq3 h2679 xq6 h2681 w2685 f2686 ⊢) <;> omega))⟩
          · unfold fX9_cell_55
            refine sw_sh (ci_sh c0 t_p0 rfl) ?_
            refine sw_on (vX9_goes c0 t_p0 (by (try simp only [zp, zo, zq] at u2633 h2634 u2644 h2645 u2655 h2656 u2666 h2667 u2677 h2678 ⊢) <;> (try simp only [zz, Int32.reduceToInt, ne_eq] at u2633 h2634 u2644 h2645 u2655 h2656 u2666 h2667 u2677 h2678 ⊢) <;> (try simp (disch := omega) only [zb] at u2633 h2634 u2644 h2645 u2655 h2656 u2666 h2667 u2677 h2678 ⊢) <;> first | omega | ((try simp (disch := omega) only [zb] at u2633 h2634 u2644 h2645 u2655 h2656 u2666 h2667 u2677 h2678 ⊢) <;> omega)) ) ?_
            intro q3 hqq3
            obtain ⟨cq3, gq3, xq3⟩ := hqq3
            have fq3 := fr_trans f0 gq3 rfl
            refine sw_ite (fun h2688 => ?_) (fun h2688 => ?_)
            · exact sw_some ⟨cq3, fq3, (by (try simp only [zp, zo, zq] at u2633 h2634 u2644 h2645 u2655 h2656 u2666 h2667 u2677 h2678 xq3 h2688 ⊢) <;> (try simp only [zz, Int32.reduceToInt, ne_eq] at u2633 h2634 u2644 h2645 u2655 h2656 u2666 h2667 u2677 h2678 xq3 h2688 ⊢) <;> (try simp (disch := omega) only [zb] at u2633 h2634 u2644 h2645 u2655 h2656 u2666 h2667 u2677 h2678 xq3 h2688 ⊢) <;> first | omega | ((try simp (disch := omega) only [zb] at u2633 h2634 u2644 h2645 u2655 h2656 u2666 h2667 u2677 h2678 xq3 h2688 ⊢) <;> omega))⟩
            · refine sw_sh (ci_sh cq3 t_p0 rfl) ?_
              refine sw_on (sX9_cellAt cq3 t_p0 (by (try simp only [zp, zo, zq] at u2633 h2634 u2644 h2645 u2655 h2656 u2666 h2667 u2677 h2678 xq3 h2688 ⊢) <;> (try simp only [zz, Int32.reduceToInt, ne_eq] at u2633 h2634 u2644 h2645 u2655 h2656 u2666 h2667 u2677 h2678 xq3 h2688 ⊢) <;> (try simp (disch := omega) only [zb] at u2633 h2634 u2644 h2645 u2655 h2656 u2666 h2667 u2677 h2678 xq3 h2688 ⊢) <;> first | omega | ((try simp (disch := omega) only [zb] at u2633 h2634 u2644 h2645 u2655 h2656 u2666 h2667 u2677 h2678 xq3 h2688 ⊢) <;> omega)) (by (try simp only [zp, zo, zq] at u2633 h2634 u2644 h2645 u2655 h2656 u2666 h2667 u2677 h2678 xq3 h2688 ⊢) <;> (try simp only [zz, Int32.reduceToInt, ne_eq] at u2633 h2634 u2644 h2645 u2655 h2656 u2666 h2667 u2677 h2678 xq3 h2688 ⊢) <;> (try simp (disch := omega) only [zb] at u2633 h2634 u2644 h2645 u2655 h2656 u2666 h2667 u2677 h2678 xq3 h2688 ⊢) <;> first | omega | ((try simp (disch := omega) only [zb] at u2633 h2634 u2644 h2645 u2655 h2656 u2666 h2667 u2677 h2678 xq3 h2688 ⊢) <;> omega)) (by (try simp only [zp, zo, zq] at u2633 h2634 u2644 h2645 u2655 h2656 u2666 h2667 u2677 h2678 xq3 h2688 ⊢) <;> (try simp only [zz, Int32.reduceToInt, ne_eq] at u2633 h2634 u2644 h2645 u2655 h2656 u2666 h2667 u2677 h2678 xq3 h2688 ⊢) <;> (try simp (disch := omega) only [zb] at u2633 h2634 u2644 h2645 u2655 h2656 u2666 h2667 u2677 h2678 xq3 h2688 ⊢) <;> first | omega | ((try simp (disch := omega) only [zb] at u2633 h2634 u2644 h2645 u2655 h2656 u2666 h2667 u2677 h2678 xq3 h2688 ⊢) <;> omega)) ) ?_
              intro q6 hqq6
              obtain ⟨eq6, xq6⟩ := hqq6
              (try rw [eq6])
              refine sw_ite (fun h2690 => ?_) (fun h2690 => ?_)
              · refine sw_sh (ci_sh cq3 t_p0 rfl) ?_
                obtain ⟨q13, eq13, tq13⟩ := ci_ref cq3 t_p0 1 (κ' := 51) rfl
                refine sw_onS eq13 ?_
                refine sw_ar (ci_sh cq3 tq13 rfl) ?_
                refine sw_ib (by (try simp only [zp, zo, zq] at u2633 h2634 u2644 h2645 u2655 h2656 u2666 h2667 u2677 h2678 xq3 h2688 xq6 h2690 ⊢) <;> (try simp only [zz, Int32.reduceToInt, ne_eq] at u2633 h2634 u2644 h2645 u2655 h2656 u2666 h2667 u2677 h2678 xq3 h2688 xq6 h2690 ⊢) <;> (try simp (disch := omega) only [zb] at u2633 h2634 u2644 h2645 u2655 h2656 u2666 h2667 u2677 h2678 xq3 h2688 xq6 h2690 ⊢) <;> first | omega | ((try simp (disch := omega) only [zb] at u2633 h2634 u2644 h2645 u2655 h2656 u2666 h2667 u2677 h2678 xq3 h2688 xq6 h2690 ⊢) <;> omega)) ?_
                have w2691 := (gq3.2.2 _ _ tq13 q6.1.toNatClampNeg rfl).1
                have f2692 : mm_I σ0 q13 q6.1.toNatClampNeg = 0 := hv q13 51 q6.1.toNatClampNeg tq13 (Or.inr (by decide))
                exact sw_some ⟨cq3, fq3, (by (try simp only [zp, zo, zq] at u2633 h2634 u2644 h2645 u2655 h2656 u2666 h2667 u2677 h2678 xq3 h2688 xq6 h2690 w2691 f2692 ⊢) <;> (try simp only [zz, Int32.reduceToInt, ne_eq] at u2633 h2634 u2644 h2645 u2655 h2656 u2666 h2667 u2677 h2678 xq3 h2688 xq6 h2690 w2691 f2692 ⊢) <;> (try simp (disch := omega) only [zb] at u2633 h2634 u2644 h2645 u2655 h2656 u2666 h2667 u2677 h2678 xq3 h2688 xq6 h2690 w2691 f2692 ⊢) <;> first | omega | ((try simp (disch := omega) only [zb] at u2633 h2634 u2644 h2645 u2655 h2656 u2666 h2667 u2677 h2678 xq3 h2688 xq6 h2690 w2691 f2692 ⊢) <;> omega))⟩
              · refine sw_sh (ci_sh cq3 t_p0 rfl) ?_
                obtain ⟨q9, eq9, tq9⟩ := ci_ref cq3 t_p0 2 (κ' := 52) rfl
                refine sw_onS eq9 ?_
                refine sw_ar (ci_sh cq3 tq9 rfl) ?_
                refine sw_ib (by (try simp only [zp, zo, zq] at u2633 h2634 u2644 h2645 u2655 h2656 u2666 h2667 u2677 h2678 xq3 h2688 xq6 h2690 ⊢) <;> (try simp only [zz, Int32.reduceToInt, ne_eq] at u2633 h2634 u2644 h2645 u2655 h2656 u2666 h2667 u2677 h2678 xq3 h2688 xq6 h2690 ⊢) <;> (try simp (disch := omega) only [zb] at u2633 h2634 u2644 h2645 u2655 h2656 u2666 h2667 u2677 h2678 xq3 h2688 xq6 h2690 ⊢) <;> first | omega | ((try simp (disch := omega) only [zb] at u2633 h2634 u2644 h2645 u2655 h2656 u2666 h2667 u2677 h2678 xq3 h2688 xq6 h2690 ⊢) <;> omega)) ?_
                have w2694 := (gq3.2.2 _ _ tq9 q6.1.toNatClampNeg rfl).1
                have f2695 : mm_I σ0 q9 q6.1.toNatClampNeg = 0 := hv q9 52 q6.1.toNatClampNeg tq9 (Or.inr (by decide))
                exact sw_some ⟨cq3, fq3, (by (try simp only [zp, zo, zq] at u2633 h2634 u2644 h2645 u2655 h2656 u2666 h2667 u2677 h2678 xq3 h2688 xq6 h2690 w2694 f2695 ⊢) <;> (try simp only [zz, Int32.reduceToInt, ne_eq] at u2633 h2634 u2644 h2645 u2655 h2656 u2666 h2667 u2677 h2678 xq3 h2688 xq6 h2690 w2694 f2695 ⊢) <;> (try simp (disch := omega) only [zb] at u2633 h2634 u2644 h2645 u2655 h2656 u2666 h2667 u2677 h2678 xq3 h2688 xq6 h2690 w2694 f2695 ⊢) <;> first | omega | ((try simp (disch := omega) only [zb] at u2633 h2634 u2644 h2645 u2655 h2656 u2666 h2667 u2677 h2678 xq3 h2688 xq6 h2690 w2694 f2695 ⊢) <;> omega))⟩
set_option maxHeartbeats 4000000 in
set_option maxRecDepth 10000 in
theorem vX8_pages {T : Nat → Option Nat} {σ0 : mm_M} {p0 : Nat} (c0 : sCI T σ0) (hv : sFV T σ0) (t_p0 : T p0 = some 8) : sw (fX8_pages p0 σ0) (fun R => R.2 = σ0 ∧ (R.1.toInt = 0)) := by
  unfold fX8_pages
  refine sw_sh (ci_sh c0 t_p0 rfl) ?_
  obtain ⟨q2, eq2, tq2⟩ := ci_ref c0 t_p0 7 (κ' := 6) rfl
  refine sw_onS eq2 ?_
  refine sw_sh (ci_sh c0 tq2 rfl) ?_
  have f2697 : mm_I σ0 q2 1 = 0 := hv q2 6 1 tq2
  have r2698 := ci_rg c0 tq2 1 (lo := 0) (hi := 20) rfl
  exact sw_some ⟨rfl, (by (try simp only [zp, zo, zq] at f2697 r2698 ⊢) <;> (try simp only [zz, Int32.reduceToInt, ne_eq] at f2697 r2698 ⊢) <;> (try simp (disch := omega) only [zb] at f2697 r2698 ⊢) <;> first | omega | ((try simp (disch := omega) only [zb] at f2697 r2698 ⊢) <;> omega))⟩
abbrev VX9_pages : List Nat := [900]
set_option maxHeartbeats 4000000 in
set_option maxRecDepth 10000 in
theorem vX9_pages {T : Nat → Option Nat} {σ0 : mm_M} {p0 : Nat} (c0 : sCI T σ0) (hv : sFV9 T σ0) (t_p0 : T p0 = some 9) : sw (fX9_pages p0 σ0) (fun R => sCI T R.2 ∧ sFR T VX9_pages σ0 R.2 ∧ (R.1.toInt = 0)) := by
  have f0 : sFR T VX9_pages σ0 σ0 := fr_refl
  unfold fX9_pages
  refine sw_sh (ci_sh c0 t_p0 rfl) ?_
  have cs2 := ci_wI c0 t_p0 (j := 0) (v := 0) (kr_n rfl)
  have fs2 := fr_wI f0 t_p0 (j := 0) (v := 0) rfl
  refine sw_let (fun s2 es2 => ?_)
  rw [es2] at cs2 fs2
  have w2699 : mm_I s2 p0 14 = mm_I σ0 p0 14 := by rw [← es2]; exact rd_j (by decide)
  have f2700 : mm_I σ0 p0 14 = 0 := hv p0 9 14 t_p0 (Or.inl rfl)
  have r2701 := ci_rg c0 t_p0 14 (lo := 0) (hi := 20) rfl
  have r2702 := ci_rg cs2 t_p0 14 (lo := 0) (hi := 20) rfl
  exact sw_some ⟨cs2, fs2, (by (try simp only [zp, zo, zq] at w2699 f2700 r2701 r2702 ⊢) <;> (try simp only [zz, Int32.reduceToInt, ne_eq] at w2699 f2700 r2701 r2702 ⊢) <;> (try simp (disch := omega) only [zb] at w2699 f2700 r2701 r2702 ⊢) <;> first | omega | ((try simp (disch := omega) only [zb] at w2699 f2700 r2701 r2702 ⊢) <;> omega))⟩
set_option maxHeartbeats 4000000 in
set_option maxRecDepth 10000 in
theorem vX8_cues {T : Nat → Option Nat} {σ0 : mm_M} {p0 : Nat} (c0 : sCI T σ0) (hv : sFV T σ0) (t_p0 : T p0 = some 8) : sw (fX8_cues p0 σ0) (fun R => R.2 = σ0 ∧ (R.1.toInt = 0)) := by
  unfold fX8_cues
  refine sw_sh (ci_sh c0 t_p0 rfl) ?_
  have f2703 : mm_I σ0 p0 11 = 0 := hv p0 8 11 t_p0
  have r2704 := ci_rg c0 t_p0 11 (lo := 0) (hi := 60) rfl
  exact sw_some ⟨rfl, (by (try simp only [zp, zo, zq] at f2703 r2704 ⊢) <;> (try simp only [zz, Int32.reduceToInt, ne_eq] at f2703 r2704 ⊢) <;> (try simp (disch := omega) only [zb] at f2703 r2704 ⊢) <;> first | omega | ((try simp (disch := omega) only [zb] at f2703 r2704 ⊢) <;> omega))⟩
abbrev VX9_cues : List Nat := [900]
set_option maxHeartbeats 4000000 in
set_option maxRecDepth 10000 in
theorem vX9_cues {T : Nat → Option Nat} {σ0 : mm_M} {p0 : Nat} (c0 : sCI T σ0) (hv : sFV9 T σ0) (t_p0 : T p0 = some 9) : sw (fX9_cues p0 σ0) (fun R => sCI T R.2 ∧ sFR T VX9_cues σ0 R.2 ∧ (R.1.toInt = 0)) := by
  have f0 : sFR T VX9_cues σ0 σ0 := fr_refl
  unfold fX9_cues
  refine sw_sh (ci_sh c0 t_p0 rfl) ?_
  have cs2 := ci_wI c0 t_p0 (j := 0) (v := 0) (kr_n rfl)
  have fs2 := fr_wI f0 t_p0 (j := 0) (v := 0) rfl
  refine sw_let (fun s2 es2 => ?_)
  rw [es2] at cs2 fs2
  have w2705 : mm_I s2 p0 35 = mm_I σ0 p0 35 := by rw [← es2]; exact rd_j (by decide)
  have f2706 : mm_I σ0 p0 35 = 0 := hv p0 9 35 t_p0 (Or.inl rfl)
  have r2707 := ci_rg c0 t_p0 35 (lo := 0) (hi := 60) rfl
  have r2708 := ci_rg cs2 t_p0 35 (lo := 0) (hi := 60) rfl
  exact sw_some ⟨cs2, fs2, (by (try simp only [zp, zo, zq] at w2705 f2706 r2707 r2708 ⊢) <;> (try simp only [zz, Int32.reduceToInt, ne_eq] at w2705 f2706 r2707 r2708 ⊢) <;> (try simp (disch := omega) only [zb] at w2705 f2706 r2707 r2708 ⊢) <;> first | omega | ((try simp (disch := omega) only [zb] at w2705 f2706 r2707 r2708 ⊢) <;> omega))⟩
set_option maxHeartbeats 4000000 in
set_option maxRecDepth 10000 in
theorem vX6_pageAt {T : Nat → Option Nat} {σ0 : mm_M} {p0 : Nat} {p1 : Int32} (c0 : sCI T σ0) (hv : sFV T σ0) (t_p0 : T p0 = some 6) : sw (fX6_pageAt p0 p1 σ0) (fun R => R.2 = σ0 ∧ (onI R.1 = -1)) := by
  unfold fX6_pageAt
  refine sw_sh (ci_sh c0 t_p0 rfl) ?_
  have f2709 : mm_I σ0 p0 1 = 0 := hv p0 6 1 t_p0
  have r2710 := ci_rg c0 t_p0 1 (lo := 0) (hi := 20) rfl
  refine sw_ite (fun h2711 => ?_) (fun h2711 => ?_)
  · refine sw_ite (fun h2712 => ?_) (fun h2712 => ?_)
    · obtain ⟨q4, eq4, tq4⟩ := ci_ref c0 t_p0 0 (κ' := 25) rfl
      refine sw_onS eq4 ?_
      refine sw_ar (ci_sh c0 tq4 rfl) ?_
      refine sw_ib (by (try simp only [zp, zo, zq] at f2709 r2710 h2711 h2712 ⊢) <;> (try simp only [zz, Int32.reduceToInt, ne_eq] at f2709 r2710 h2711 h2712 ⊢) <;> (try simp (disch := omega) only [zb] at f2709 r2710 h2711 h2712 ⊢) <;> first | omega | ((try simp (disch := omega) only [zb] at f2709 r2710 h2711 h2712 ⊢) <;> omega)) ?_
      exact sw_some ⟨rfl, (by (try simp only [zp, zo, zq] at f2709 r2710 h2711 h2712 ⊢) <;> (try simp only [zz, Int32.reduceToInt, ne_eq] at f2709 r2710 h2711 h2712 ⊢) <;> (try simp (disch := omega) only [zb] at f2709 r2710 h2711 h2712 ⊢) <;> first | omega | ((try simp (disch := omega) only [zb] at f2709 r2710 h2711 h2712 ⊢) <;> omega))⟩
    · exact sw_some ⟨rfl, (by (try simp only [zp, zo, zq] at f2709 r2710 h2711 h2712 ⊢) <;> (try simp only [zz, Int32.reduceToInt, ne_eq] at f2709 r2710 h2711 h2712 ⊢) <;> (try simp (disch := omega) only [zb] at f2709 r2710 h2711 h2712 ⊢) <;> first | omega | ((try simp (disch := omega) only [zb] at f2709 r2710 h2711 h2712 ⊢) <;> omega))⟩
  · exact sw_some ⟨rfl, (by (try simp only [zp, zo, zq] at f2709 r2710 h2711 ⊢) <;> (try simp only [zz, Int32.reduceToInt, ne_eq] at f2709 r2710 h2711 ⊢) <;> (try simp (disch := omega) only [zb] at f2709 r2710 h2711 ⊢) <;> first | omega | ((try simp (disch := omega) only [zb] at f2709 r2710 h2711 ⊢) <;> omega))⟩
set_option maxHeartbeats 4000000 in
set_option maxRecDepth 10000 in
theorem vX6_placeOf_8 {T : Nat → Option Nat} {σ0 : mm_M} : ∀ (n : Nat) (a0 : Nat) (x1 : Int32) (x2 : Int32) (x3 : Int32) (x4 : Int32), sCI T σ0 → (T a0 = some 6) → (-1 ≤ x4.toInt ∧ x4.toInt ≤ -1) → x4.toInt + 1 < (n : Int) → sw (fX6_placeOf_8 n a0 x1 x2 x3 x4 σ0) (fun R => R.2 = σ0 ∧ (R.1.toInt = -1)) := by
  intro n
  induction n with
  | zero => intro a0 x1 x2 x3 x4 c0 t_a0 p_0 hn; exfalso; exact (by (try simp only [zp, zo, zq] at p_0 hn ⊢) <;> (try simp only [zz, Int32.reduceToInt, ne_eq] at p_0 hn ⊢) <;> (try simp (disch := omega) only [zb] at p_0 hn ⊢) <;> first | omega | ((try simp (disch := omega) only [zb] at p_0 hn ⊢) <;> omega))
  | succ n ih =>
    intro a0 x1 x2 x3 x4 c0 t_a0 p_0 hn
    unfold fX6_placeOf_8
    refine sw_ite (fun h2713 => ?_) (fun h2713 => ?_)
    · exact sw_some ⟨rfl, (by (try simp only [zp, zo, zq] at p_0 hn h2713 ⊢) <;> (try simp only [zz, Int32.reduceToInt, ne_eq] at p_0 hn h2713 ⊢) <;> (try simp (disch := omega) only [zb] at p_0 hn h2713 ⊢) <;> first | omega | ((try simp (disch := omega) only [zb] at p_0 hn h2713 ⊢) <;> omega))⟩
    · exfalso; exact (by (try simp only [zp, zo, zq] at p_0 hn h2713 ⊢) <;> (try simp only [zz, Int32.reduceToInt, ne_eq] at p_0 hn h2713 ⊢) <;> (try simp (disch := omega) only [zb] at p_0 hn h2713 ⊢) <;> first | omega | ((try simp (disch := omega) only [zb] at p_0 hn h2713 ⊢) <;> omega))
set_option maxHeartbeats 4000000 in
set_option maxRecDepth 10000 in
theorem vX6_placeOf {T : Nat → Option Nat} {σ0 : mm_M} {p0 : Nat} {p1 : Int32} {p2 : Int32} {p3 : Int32} (c0 : sCI T σ0) (hv : sFV T σ0) (t_p0 : T p0 = some 6) : sw (fX6_placeOf p0 p1 p2 p3 σ0) (fun R => R.2 = σ0 ∧ (R.1.toInt = -1)) := by
  unfold fX6_placeOf
  refine sw_sh (ci_sh c0 t_p0 rfl) ?_
  have f2714 : mm_I σ0 p0 1 = 0 := hv p0 6 1 t_p0
  have r2715 := ci_rg c0 t_p0 1 (lo := 0) (hi := 20) rfl
  exact vX6_placeOf_8 mm_fuel p0 p1 p2 p3 ((mm_I σ0 p0 1) - 1) c0 t_p0 (by (try simp only [zp, zo, zq] at f2714 r2715 ⊢) <;> (try simp only [zz, Int32.reduceToInt, ne_eq] at f2714 r2715 ⊢) <;> (try simp (disch := omega) only [zb] at f2714 r2715 ⊢) <;> first | omega | ((try simp (disch := omega) only [zb] at f2714 r2715 ⊢) <;> omega)) (by have hz : (mm_fuel : Int) = 2000 := rfl; rw [hz]; exact (by (try simp only [zp, zo, zq] at f2714 r2715 ⊢) <;> (try simp only [zz, Int32.reduceToInt, ne_eq] at f2714 r2715 ⊢) <;> (try simp (disch := omega) only [zb] at f2714 r2715 ⊢) <;> first | omega | ((try simp (disch := omega) only [zb] at f2714 r2715 ⊢) <;> omega)))
set_option maxHeartbeats 4000000 in
set_option maxRecDepth 10000 in
theorem vX6_placeOfOpen_2 {T : Nat → Option Nat} {σ0 : mm_M} : ∀ (n : Nat) (a0 : Nat) (x1 : Int32) (x2 : Int32), sCI T σ0 → (T a0 = some 6) → (0 ≤ x2.toInt ∧ x2.toInt ≤ 0) → ((mm_I σ0 a0 1).toInt = 0) → 20 - x2.toInt < (n : Int) → sw (fX6_placeOfOpen_2 n a0 x1 x2 σ0) (fun R => R.2 = σ0 ∧ (R.1.toInt = -1)) := by
  intro n
  induction n with
  | zero => intro a0 x1 x2 c0 t_a0 p_0 w_0 hn; exfalso; exact (by (try simp only [zp, zo, zq] at p_0 w_0 hn ⊢) <;> (try simp only [zz, Int32.reduceToInt, ne_eq] at p_0 w_0 hn ⊢) <;> (try simp (disch := omega) only [zb] at p_0 w_0 hn ⊢) <;> first | omega | ((try simp (disch := omega) only [zb] at p_0 w_0 hn ⊢) <;> omega))
  | succ n ih =>
    intro a0 x1 x2 c0 t_a0 p_0 w_0 hn
    unfold fX6_placeOfOpen_2
    refine sw_sh (ci_sh c0 t_a0 rfl) ?_
    have r2716 := ci_rg c0 t_a0 1 (lo := 0) (hi := 20) rfl
    refine sw_ite (fun h2717 => ?_) (fun h2717 => ?_)
    · exact sw_some ⟨rfl, (by (try simp only [zp, zo, zq] at p_0 w_0 hn r2716 h2717 ⊢) <;> (try simp only [zz, Int32.reduceToInt, ne_eq] at p_0 w_0 hn r2716 h2717 ⊢) <;> (try simp (disch := omega) only [zb] at p_0 w_0 hn r2716 h2717 ⊢) <;> first | omega | ((try simp (disch := omega) only [zb] at p_0 w_0 hn r2716 h2717 ⊢) <;> omega))⟩
    · exfalso; exact (by (try simp only [zp, zo, zq] at p_0 w_0 hn r2716 h2717 ⊢) <;> (try simp only [zz, Int32.reduceToInt, ne_eq] at p_0 w_0 hn r2716 h2717 ⊢) <;> (try simp (disch := omega) only [zb] at p_0 w_0 hn r2716 h2717 ⊢) <;> first | omega | ((try simp (disch := omega) only [zb] at p_0 w_0 hn r2716 h2717 ⊢) <;> omega))
set_option maxHeartbeats 4000000 in
set_option maxRecDepth 10000 in
theorem vX6_placeOfOpen {T : Nat → Option Nat} {σ0 : mm_M} {p0 : Nat} {p1 : Int32} (c0 : sCI T σ0) (hv : sFV T σ0) (t_p0 : T p0 = some 6) : sw (fX6_placeOfOpen p0 p1 σ0) (fun R => R.2 = σ0 ∧ (R.1.toInt = -1)) := by
  unfold fX6_placeOfOpen
  have f2718 : mm_I σ0 p0 1 = 0 := hv p0 6 1 t_p0
  have r2719 := ci_rg c0 t_p0 1 (lo := 0) (hi := 20) rfl
  exact vX6_placeOfOpen_2 mm_fuel p0 p1 0 c0 t_p0 (by (try simp only [zp, zo, zq] at f2718 r2719 ⊢) <;> (try simp only [zz, Int32.reduceToInt, ne_eq] at f2718 r2719 ⊢) <;> (try simp (disch := omega) only [zb] at f2718 r2719 ⊢) <;> first | omega | ((try simp (disch := omega) only [zb] at f2718 r2719 ⊢) <;> omega)) (by (try simp only [zp, zo, zq] at f2718 r2719 ⊢) <;> (try simp only [zz, Int32.reduceToInt, ne_eq] at f2718 r2719 ⊢) <;> (try simp (disch := omega) only [zb] at f2718 r2719 ⊢) <;> first | omega | ((try simp (disch := omega) only [zb] at f2718 r2719 ⊢) <;> omega)) (by have hz : (mm_fuel : Int) = 2000 := rfl; rw [hz]; exact (by (try simp only [zp, zo, zq] at f2718 r2719 ⊢) <;> (try simp only [zz, Int32.reduceToInt, ne_eq] at f2718 r2719 ⊢) <;> (try simp (disch := omega) only [zb] at f2718 r2719 ⊢) <;> first | omega | ((try simp (disch := omega) only [zb] at f2718 r2719 ⊢) <;> omega)))
set_option maxHeartbeats 4000000 in
set_option maxRecDepth 10000 in
theorem vX8_cueAt {T : Nat → Option Nat} {σ0 : mm_M} {p0 : Nat} {p1 : Int32} (c0 : sCI T σ0) (hv : sFV T σ0) (t_p0 : T p0 = some 8) : sw (fX8_cueAt p0 p1 σ0) (fun R => R.2 = σ0 ∧ (onI R.1 = -1)) := by
  unfold fX8_cueAt
  refine sw_sh (ci_sh c0 t_p0 rfl) ?_
  have f2720 : mm_I σ0 p0 11 = 0 := hv p0 8 11 t_p0
  have r2721 := ci_rg c0 t_p0 11 (lo := 0) (hi := 60) rfl
  refine sw_ite (fun h2722 => ?_) (fun h2722 => ?_)
  · refine sw_ite (fun h2723 => ?_) (fun h2723 => ?_)
    · obtain ⟨q4, eq4, tq4⟩ := ci_ref c0 t_p0 10 (κ' := 17) rfl
      refine sw_onS eq4 ?_
      refine sw_ar (ci_sh c0 tq4 rfl) ?_
      refine sw_ib (by (try simp only [zp, zo, zq] at f2720 r2721 h2722 h2723 ⊢) <;> (try simp only [zz, Int32.reduceToInt, ne_eq] at f2720 r2721 h2722 h2723 ⊢) <;> (try simp (disch := omega) only [zb] at f2720 r2721 h2722 h2723 ⊢) <;> first | omega | ((try simp (disch := omega) only [zb] at f2720 r2721 h2722 h2723 ⊢) <;> omega)) ?_
      exact sw_some ⟨rfl, (by (try simp only [zp, zo, zq] at f2720 r2721 h2722 h2723 ⊢) <;> (try simp only [zz, Int32.reduceToInt, ne_eq] at f2720 r2721 h2722 h2723 ⊢) <;> (try simp (disch := omega) only [zb] at f2720 r2721 h2722 h2723 ⊢) <;> first | omega | ((try simp (disch := omega) only [zb] at f2720 r2721 h2722 h2723 ⊢) <;> omega))⟩
    · exact sw_some ⟨rfl, (by (try simp only [zp, zo, zq] at f2720 r2721 h2722 h2723 ⊢) <;> (try simp only [zz, Int32.reduceToInt, ne_eq] at f2720 r2721 h2722 h2723 ⊢) <;> (try simp (disch := omega) only [zb] at f2720 r2721 h2722 h2723 ⊢) <;> first | omega | ((try simp (disch := omega) only [zb] at f2720 r2721 h2722 h2723 ⊢) <;> omega))⟩
  · exact sw_some ⟨rfl, (by (try simp only [zp, zo, zq] at f2720 r2721 h2722 ⊢) <;> (try simp only [zz, Int32.reduceToInt, ne_eq] at f2720 r2721 h2722 ⊢) <;> (try simp (disch := omega) only [zb] at f2720 r2721 h2722 ⊢) <;> first | omega | ((try simp (disch := omega) only [zb] at f2720 r2721 h2722 ⊢) <;> omega))⟩
set_option maxHeartbeats 4000000 in
set_option maxRecDepth 10000 in
theorem vX8_find {T : Nat → Option Nat} {σ0 : mm_M} {p0 : Nat} {p1 : Int32} {p2 : Int32} {p3 : Int32} (c0 : sCI T σ0) (hv : sFV T σ0) (t_p0 : T p0 = some 8) : sw (fX8_find p0 p1 p2 p3 σ0) (fun R => R.2 = σ0 ∧ (R.1.toInt = -1)) := by
  unfold fX8_find
  refine sw_sh (ci_sh c0 t_p0 rfl) ?_
  obtain ⟨q2, eq2, tq2⟩ := ci_ref c0 t_p0 7 (κ' := 6) rfl
  refine sw_onS eq2 ?_
  refine sw_sh (ci_sh c0 tq2 rfl) ?_
  refine sw_on (vX6_placeOf c0 hv tq2  ) ?_
  intro q4 hqq4
  obtain ⟨eq4, xq4⟩ := hqq4
  (try rw [eq4])
  exact sw_some ⟨rfl, (by (try simp only [zp, zo, zq] at xq4 ⊢) <;> (try simp only [zz, Int32.reduceToInt, ne_eq] at xq4 ⊢) <;> (try simp (disch := omega) only [zb] at xq4 ⊢) <;> first | omega | ((try simp (disch := omega) only [zb] at xq4 ⊢) <;> omega))⟩
abbrev VX9_find : List Nat := [900]
set_option maxHeartbeats 4000000 in
set_option maxRecDepth 10000 in
theorem vX9_find_11 {T : Nat → Option Nat} {σ0 : mm_M} : ∀ (n : Nat) (a0 : Nat) (x1 : Int32) (x2 : Int32) (x3 : Int32) (x4 : Int32) (x5 : Int32) (σ : mm_M), sCI T σ → sFR T VX9_find σ0 σ → (T a0 = some 9) → (0 ≤ x5.toInt ∧ x5.toInt ≤ 20) → (x4.toInt = -1) → ((mm_I σ a0 14).toInt = 0) → 20 - x5.toInt < (n : Int) → sw (fX9_find_11 n a0 x1 x2 x3 x4 x5 σ) (fun R => sCI T R.2 ∧ sFR T VX9_find σ0 R.2 ∧ (R.1.toInt = -1)) := by
  intro n
  induction n with
  | zero => intro a0 x1 x2 x3 x4 x5 σ c0 f0 t_a0 p_0 p_1 w_0 hn; exfalso; exact (by (try simp only [zp, zo, zq] at p_0 p_1 w_0 hn ⊢) <;> (try simp only [zz, Int32.reduceToInt, ne_eq] at p_0 p_1 w_0 hn ⊢) <;> (try simp (disch := omega) only [zb] at p_0 p_1 w_0 hn ⊢) <;> first | omega | ((try simp (disch := omega) only [zb] at p_0 p_1 w_0 hn ⊢) <;> omega))
  | succ n ih =>
    intro a0 x1 x2 x3 x4 x5 σ c0 f0 t_a0 p_0 p_1 w_0 hn
    unfold fX9_find_11
    refine sw_sh (ci_sh c0 t_a0 rfl) ?_
    have r2724 := ci_rg c0 t_a0 14 (lo := 0) (hi := 20) rfl
    refine sw_ite (fun h2725 => ?_) (fun h2725 => ?_)
    · exact sw_some ⟨c0, f0, (by (try simp only [zp, zo, zq] at p_0 p_1 w_0 hn r2724 h2725 ⊢) <;> (try simp only [zz, Int32.reduceToInt, ne_eq] at p_0 p_1 w_0 hn r2724 h2725 ⊢) <;> (try simp (disch := omega) only [zb] at p_0 p_1 w_0 hn r2724 h2725 ⊢) <;> first | omega | ((try simp (disch := omega) only [zb] at p_0 p_1 w_0 hn r2724 h2725 ⊢) <;> omega))⟩
    · obtain ⟨q5, eq5, tq5⟩ := ci_ref c0 t_a0 15 (κ' := 65) rfl
      refine sw_onS eq5 ?_
      refine sw_ar (ci_sh c0 tq5 rfl) ?_
      refine sw_ib (by (try simp only [zp, zo, zq] at p_0 p_1 w_0 hn r2724 h2725 ⊢) <;> (try simp only [zz, Int32.reduceToInt, ne_eq] at p_0 p_1 w_0 hn r2724 h2725 ⊢) <;> (try simp (disch := omega) only [zb] at p_0 p_1 w_0 hn r2724 h2725 ⊢) <;> first | omega | ((try simp (disch := omega) only [zb] at p_0 p_1 w_0 hn r2724 h2725 ⊢) <;> omega)) ?_
      obtain ⟨q8, eq8, tq8⟩ := ci_ref c0 t_a0 17 (κ' := 67) rfl
      refine sw_onS eq8 ?_
      refine sw_ar (ci_sh c0 tq8 rfl) ?_
      have r2726 := ci_rg c0 tq5 x5.toNatClampNeg (lo := 0) (hi := 19) rfl
      refine sw_ib (by (try simp only [zp, zo, zq] at p_0 p_1 w_0 hn r2724 h2725 r2726 ⊢) <;> (try simp only [zz, Int32.reduceToInt, ne_eq] at p_0 p_1 w_0 hn r2724 h2725 r2726 ⊢) <;> (try simp (disch := omega) only [zb] at p_0 p_1 w_0 hn r2724 h2725 r2726 ⊢) <;> first | omega | ((try simp (disch := omega) only [zb] at p_0 p_1 w_0 hn r2724 h2725 r2726 ⊢) <;> omega)) ?_
      have r2727 := ci_rg c0 tq8 ((mm_I σ q5 x5.toNatClampNeg).toNatClampNeg) (lo := 0) (hi := 8) rfl
      refine sw_ite (fun h2728 => ?_) (fun h2728 => ?_)
      · obtain ⟨q12, eq12, tq12⟩ := ci_ref c0 t_a0 18 (κ' := 68) rfl
        refine sw_onS eq12 ?_
        refine sw_ar (ci_sh c0 tq12 rfl) ?_
        refine sw_ib (by (try simp only [zp, zo, zq] at p_0 p_1 w_0 hn r2724 h2725 r2726 r2727 h2728 ⊢) <;> (try simp only [zz, Int32.reduceToInt, ne_eq] at p_0 p_1 w_0 hn r2724 h2725 r2726 r2727 h2728 ⊢) <;> (try simp (disch := omega) only [zb] at p_0 p_1 w_0 hn r2724 h2725 r2726 r2727 h2728 ⊢) <;> first | omega | ((try simp (disch := omega) only [zb] at p_0 p_1 w_0 hn r2724 h2725 r2726 r2727 h2728 ⊢) <;> omega)) ?_
        refine sw_ite (fun h2729 => ?_) (fun h2729 => ?_)
        · refine sw_ite (fun h2730 => ?_) (fun h2730 => ?_)
          · unfold fX9_find_67
            exact ih a0 x1 x2 x3 x5 (x5 + 1) σ c0 f0 t_a0 (by (try simp only [zp, zo, zq] at p_0 p_1 w_0 hn r2724 h2725 r2726 r2727 h2728 h2729 h2730 ⊢) <;> (try simp only [zz, Int32.reduceToInt, ne_eq] at p_0 p_1 w_0 hn r2724 h2725 r2726 r2727 h2728 h2729 h2730 ⊢) <;> (try simp (disch := omega) only [zb] at p_0 p_1 w_0 hn r2724 h2725 r2726 r2727 h2728 h2729 h2730 ⊢) <;> first | omega | ((try simp (disch := omega) only [zb] at p_0 p_1 w_0 hn r2724 h2725 r2726 r2727 h2728 h2729 h2730 ⊢) <;> omega)) (by (try simp only [zp, zo, zq] at p_0 p_1 w_0 hn r2724 h2725 r2726 r2727 h2728 h2729 h2730 ⊢) <;> (try simp only [zz, Int32.reduceToInt, ne_eq] at p_0 p_1 w_0 hn r2724 h2725 r2726 r2727 h2728 h2729 h2730 ⊢) <;> (try simp (disch := omega) only [zb] at p_0 p_1 w_0 hn r2724 h2725 r2726 r2727 h2728 h2729 h2730 ⊢) <;> first | omega | ((try simp (disch := omega) only [zb] at p_0 p_1 w_0 hn r2724 h2725 r2726 r2727 h2728 h2729 h2730 ⊢) <;> omega)) (by (try simp only [zp, zo, zq] at p_0 p_1 w_0 hn r2724 h2725 r2726 r2727 h2728 h2729 h2730 ⊢) <;> (try simp only [zz, Int32.reduceToInt, ne_eq] at p_0 p_1 w_0 hn r2724 h2725 r2726 r2727 h2728 h2729 h2730 ⊢) <;> (try simp (disch := omega) only [zb] at p_0 p_1 w_0 hn r2724 h2725 r2726 r2727 h2728 h2729 h2730 ⊢) <;> first | omega | ((try simp (disch := omega) only [zb] at p_0 p_1 w_0 hn r2724 h2725 r2726 r2727 h2728 h2729 h2730 ⊢) <;> omega)) (by (try simp only [zp, zo, zq] at p_0 p_1 w_0 hn r2724 h2725 r2726 r2727 h2728 h2729 h2730 ⊢) <;> (try simp only [zz, Int32.reduceToInt, ne_eq] at p_0 p_1 w_0 hn r2724 h2725 r2726 r2727 h2728 h2729 h2730 ⊢) <;> (try simp (disch := omega) only [zb] at p_0 p_1 w_0 hn r2724 h2725 r2726 r2727 h2728 h2729 h2730 ⊢) <;> first | omega | ((try simp (disch := omega) only [zb] at p_0 p_1 w_0 hn r2724 h2725 r2726 r2727 h2728 h2729 h2730 ⊢) <;> omega))
          · obtain ⟨q17, eq17, tq17⟩ := ci_ref c0 t_a0 19 (κ' := 69) rfl
            refine sw_onS eq17 ?_
            refine sw_ar (ci_sh c0 tq17 rfl) ?_
            refine sw_ib (by (try simp only [zp, zo, zq] at p_0 p_1 w_0 hn r2724 h2725 r2726 r2727 h2728 h2729 h2730 ⊢) <;> (try simp only [zz, Int32.reduceToInt, ne_eq] at p_0 p_1 w_0 hn r2724 h2725 r2726 r2727 h2728 h2729 h2730 ⊢) <;> (try simp (disch := omega) only [zb] at p_0 p_1 w_0 hn r2724 h2725 r2726 r2727 h2728 h2729 h2730 ⊢) <;> first | omega | ((try simp (disch := omega) only [zb] at p_0 p_1 w_0 hn r2724 h2725 r2726 r2727 h2728 h2729 h2730 ⊢) <;> omega)) ?_
            refine sw_ite (fun h2731 => ?_) (fun h2731 => ?_)
            · unfold fX9_find_67
              exact ih a0 x1 x2 x3 x5 (x5 + 1) σ c0 f0 t_a0 (by (try simp only [zp, zo, zq] at p_0 p_1 w_0 hn r2724 h2725 r2726 r2727 h2728 h2729 h2730 h2731 ⊢) <;> (try simp only [zz, Int32.reduceToInt, ne_eq] at p_0 p_1 w_0 hn r2724 h2725 r2726 r2727 h2728 h2729 h2730 h2731 ⊢) <;> (try simp (disch := omega) only [zb] at p_0 p_1 w_0 hn r2724 h2725 r2726 r2727 h2728 h2729 h2730 h2731 ⊢) <;> first | omega | ((try simp (disch := omega) only [zb] at p_0 p_1 w_0 hn r2724 h2725 r2726 r2727 h2728 h2729 h2730 h2731 ⊢) <;> omega)) (by (try simp only [zp, zo, zq] at p_0 p_1 w_0 hn r2724 h2725 r2726 r2727 h2728 h2729 h2730 h2731 ⊢) <;> (try simp only [zz, Int32.reduceToInt, ne_eq] at p_0 p_1 w_0 hn r2724 h2725 r2726 r2727 h2728 h2729 h2730 h2731 ⊢) <;> (try simp (disch := omega) only [zb] at p_0 p_1 w_0 hn r2724 h2725 r2726 r2727 h2728 h2729 h2730 h2731 ⊢) <;> first | omega | ((try simp (disch := omega) only [zb] at p_0 p_1 w_0 hn r2724 h2725 r2726 r2727 h2728 h2729 h2730 h2731 ⊢) <;> omega)) (by (try simp only [zp, zo, zq] at p_0 p_1 w_0 hn r2724 h2725 r2726 r2727 h2728 h2729 h2730 h2731 ⊢) <;> (try simp only [zz, Int32.reduceToInt, ne_eq] at p_0 p_1 w_0 hn r2724 h2725 r2726 r2727 h2728 h2729 h2730 h2731 ⊢) <;> (try simp (disch := omega) only [zb] at p_0 p_1 w_0 hn r2724 h2725 r2726 r2727 h2728 h2729 h2730 h2731 ⊢) <;> first | omega | ((try simp (disch := omega) only [zb] at p_0 p_1 w_0 hn r2724 h2725 r2726 r2727 h2728 h2729 h2730 h2731 ⊢) <;> omega)) (by (try simp only [zp, zo, zq] at p_0 p_1 w_0 hn r2724 h2725 r2726 r2727 h2728 h2729 h2730 h2731 ⊢) <;> (try simp only [zz, Int32.reduceToInt, ne_eq] at p_0 p_1 w_0 hn r2724 h2725 r2726 r2727 h2728 h2729 h2730 h2731 ⊢) <;> (try simp (disch := omega) only [zb] at p_0 p_1 w_0 hn r2724 h2725 r2726 r2727 h2728 h2729 h2730 h2731 ⊢) <;> first | omega | ((try simp (disch := omega) only [zb] at p_0 p_1 w_0 hn r2724 h2725 r2726 r2727 h2728 h2729 h2730 h2731 ⊢) <;> omega))
            · exact ih a0 x1 x2 x3 x4 (x5 + 1) σ c0 f0 t_a0 (by (try simp only [zp, zo, zq] at p_0 p_1 w_0 hn r2724 h2725 r2726 r2727 h2728 h2729 h2730 h2731 ⊢) <;> (try simp only [zz, Int32.reduceToInt, ne_eq] at p_0 p_1 w_0 hn r2724 h2725 r2726 r2727 h2728 h2729 h2730 h2731 ⊢) <;> (try simp (disch := omega) only [zb] at p_0 p_1 w_0 hn r2724 h2725 r2726 r2727 h2728 h2729 h2730 h2731 ⊢) <;> first | omega | ((try simp (disch := omega) only [zb] at p_0 p_1 w_0 hn r2724 h2725 r2726 r2727 h2728 h2729 h2730 h2731 ⊢) <;> omega)) (by (try simp only [zp, zo, zq] at p_0 p_1 w_0 hn r2724 h2725 r2726 r2727 h2728 h2729 h2730 h2731 ⊢) <;> (try simp only [zz, Int32.reduceToInt, ne_eq] at p_0 p_1 w_0 hn r2724 h2725 r2726 r2727 h2728 h2729 h2730 h2731 ⊢) <;> (try simp (disch := omega) only [zb] at p_0 p_1 w_0 hn r2724 h2725 r2726 r2727 h2728 h2729 h2730 h2731 ⊢) <;> first | omega | ((try simp (disch := omega) only [zb] at p_0 p_1 w_0 hn r2724 h2725 r2726 r2727 h2728 h2729 h2730 h2731 ⊢) <;> omega)) (by (try simp only [zp, zo, zq] at p_0 p_1 w_0 hn r2724 h2725 r2726 r2727 h2728 h2729 h2730 h2731 ⊢) <;> (try simp only [zz, Int32.reduceToInt, ne_eq] at p_0 p_1 w_0 hn r2724 h2725 r2726 r2727 h2728 h2729 h2730 h2731 ⊢) <;> (try simp (disch := omega) only [zb] at p_0 p_1 w_0 hn r2724 h2725 r2726 r2727 h2728 h2729 h2730 h2731 ⊢) <;> first | omega | ((try simp (disch := omega) only [zb] at p_0 p_1 w_0 hn r2724 h2725 r2726 r2727 h2728 h2729 h2730 h2731 ⊢) <;> omega)) (by (try simp only [zp, zo, zq] at p_0 p_1 w_0 hn r2724 h2725 r2726 r2727 h2728 h2729 h2730 h2731 ⊢) <;> (try simp only [zz, Int32.reduceToInt, ne_eq] at p_0 p_1 w_0 hn r2724 h2725 r2726 r2727 h2728 h2729 h2730 h2731 ⊢) <;> (try simp (disch := omega) only [zb] at p_0 p_1 w_0 hn r2724 h2725 r2726 r2727 h2728 h2729 h2730 h2731 ⊢) <;> first | omega | ((try simp (disch := omega) only [zb] at p_0 p_1 w_0 hn r2724 h2725 r2726 r2727 h2728 h2729 h2730 h2731 ⊢) <;> omega))
        · exact ih a0 x1 x2 x3 x4 (x5 + 1) σ c0 f0 t_a0 (by (try simp only [zp, zo, zq] at p_0 p_1 w_0 hn r2724 h2725 r2726 r2727 h2728 h2729 ⊢) <;> (try simp only [zz, Int32.reduceToInt, ne_eq] at p_0 p_1 w_0 hn r2724 h2725 r2726 r2727 h2728 h2729 ⊢) <;> (try simp (disch := omega) only [zb] at p_0 p_1 w_0 hn r2724 h2725 r2726 r2727 h2728 h2729 ⊢) <;> first | omega | ((try simp (disch := omega) only [zb] at p_0 p_1 w_0 hn r2724 h2725 r2726 r2727 h2728 h2729 ⊢) <;> omega)) (by (try simp only [zp, zo, zq] at p_0 p_1 w_0 hn r2724 h2725 r2726 r2727 h2728 h2729 ⊢) <;> (try simp only [zz, Int32.reduceToInt, ne_eq] at p_0 p_1 w_0 hn r2724 h2725 r2726 r2727 h2728 h2729 ⊢) <;> (try simp (disch := omega) only [zb] at p_0 p_1 w_0 hn r2724 h2725 r2726 r2727 h2728 h2729 ⊢) <;> first | omega | ((try simp (disch := omega) only [zb] at p_0 p_1 w_0 hn r2724 h2725 r2726 r2727 h2728 h2729 ⊢) <;> omega)) (by (try simp only [zp, zo, zq] at p_0 p_1 w_0 hn r2724 h2725 r2726 r2727 h2728 h2729 ⊢) <;> (try simp only [zz, Int32.reduceToInt, ne_eq] at p_0 p_1 w_0 hn r2724 h2725 r2726 r2727 h2728 h2729 ⊢) <;> (try simp (disch := omega) only [zb] at p_0 p_1 w_0 hn r2724 h2725 r2726 r2727 h2728 h2729 ⊢) <;> first | omega | ((try simp (disch := omega) only [zb] at p_0 p_1 w_0 hn r2724 h2725 r2726 r2727 h2728 h2729 ⊢) <;> omega)) (by (try simp only [zp, zo, zq] at p_0 p_1 w_0 hn r2724 h2725 r2726 r2727 h2728 h2729 ⊢) <;> (try simp only [zz, Int32.reduceToInt, ne_eq] at p_0 p_1 w_0 hn r2724 h2725 r2726 r2727 h2728 h2729 ⊢) <;> (try simp (disch := omega) only [zb] at p_0 p_1 w_0 hn r2724 h2725 r2726 r2727 h2728 h2729 ⊢) <;> first | omega | ((try simp (disch := omega) only [zb] at p_0 p_1 w_0 hn r2724 h2725 r2726 r2727 h2728 h2729 ⊢) <;> omega))
      · exact ih a0 x1 x2 x3 x4 (x5 + 1) σ c0 f0 t_a0 (by (try simp only [zp, zo, zq] at p_0 p_1 w_0 hn r2724 h2725 r2726 r2727 h2728 ⊢) <;> (try simp only [zz, Int32.reduceToInt, ne_eq] at p_0 p_1 w_0 hn r2724 h2725 r2726 r2727 h2728 ⊢) <;> (try simp (disch := omega) only [zb] at p_0 p_1 w_0 hn r2724 h2725 r2726 r2727 h2728 ⊢) <;> first | omega | ((try simp (disch := omega) only [zb] at p_0 p_1 w_0 hn r2724 h2725 r2726 r2727 h2728 ⊢) <;> omega)) (by (try simp only [zp, zo, zq] at p_0 p_1 w_0 hn r2724 h2725 r2726 r2727 h2728 ⊢) <;> (try simp only [zz, Int32.reduceToInt, ne_eq] at p_0 p_1 w_0 hn r2724 h2725 r2726 r2727 h2728 ⊢) <;> (try simp (disch := omega) only [zb] at p_0 p_1 w_0 hn r2724 h2725 r2726 r2727 h2728 ⊢) <;> first | omega | ((try simp (disch := omega) only [zb] at p_0 p_1 w_0 hn r2724 h2725 r2726 r2727 h2728 ⊢) <;> omega)) (by (try simp only [zp, zo, zq] at p_0 p_1 w_0 hn r2724 h2725 r2726 r2727 h2728 ⊢) <;> (try simp only [zz, Int32.reduceToInt, ne_eq] at p_0 p_1 w_0 hn r2724 h2725 r2726 r2727 h2728 ⊢) <;> (try simp (disch := omega) only [zb] at p_0 p_1 w_0 hn r2724 h2725 r2726 r2727 h2728 ⊢) <;> first | omega | ((try simp (disch := omega) only [zb] at p_0 p_1 w_0 hn r2724 h2725 r2726 r2727 h2728 ⊢) <;> omega)) (by (try simp only [zp, zo, zq] at p_0 p_1 w_0 hn r2724 h2725 r2726 r2727 h2728 ⊢) <;> (try simp only [zz, Int32.reduceToInt, ne_eq] at p_0 p_1 w_0 hn r2724 h2725 r2726 r2727 h2728 ⊢) <;> (try simp (disch := omega) only [zb] at p_0 p_1 w_0 hn r2724 h2725 r2726 r2727 h2728 ⊢) <;> first | omega | ((try simp (disch := omega) only [zb] at p_0 p_1 w_0 hn r2724 h2725 r2726 r2727 h2728 ⊢) <;> omega))
set_option maxHeartbeats 4000000 in
set_option maxRecDepth 10000 in
theorem vX9_find {T : Nat → Option Nat} {σ0 : mm_M} {p0 : Nat} {p1 : Int32} {p2 : Int32} {p3 : Int32} (c0 : sCI T σ0) (hv : sFV9 T σ0) (t_p0 : T p0 = some 9) : sw (fX9_find p0 p1 p2 p3 σ0) (fun R => sCI T R.2 ∧ sFR T VX9_find σ0 R.2 ∧ (R.1.toInt = -1)) := by
  have f0 : sFR T VX9_find σ0 σ0 := fr_refl
  unfold fX9_find
  refine sw_sh (ci_sh c0 t_p0 rfl) ?_
  have cs2 := ci_wI c0 t_p0 (j := 0) (v := 0) (kr_n rfl)
  have fs2 := fr_wI f0 t_p0 (j := 0) (v := 0) rfl
  refine sw_let (fun s2 es2 => ?_)
  rw [es2] at cs2 fs2
  have w2732 : mm_I s2 p0 14 = mm_I σ0 p0 14 := by rw [← es2]; exact rd_j (by decide)
  have f2733 : mm_I σ0 p0 14 = 0 := hv p0 9 14 t_p0 (Or.inl rfl)
  have r2734 := ci_rg c0 t_p0 14 (lo := 0) (hi := 20) rfl
  have r2735 := ci_rg cs2 t_p0 14 (lo := 0) (hi := 20) rfl
  exact vX9_find_11 mm_fuel p0 p1 p2 p3 (-1) 0 s2 cs2 fs2 t_p0 (by (try simp only [zp, zo, zq] at w2732 f2733 r2734 r2735 ⊢) <;> (try simp only [zz, Int32.reduceToInt, ne_eq] at w2732 f2733 r2734 r2735 ⊢) <;> (try simp (disch := omega) only [zb] at w2732 f2733 r2734 r2735 ⊢) <;> first | omega | ((try simp (disch := omega) only [zb] at w2732 f2733 r2734 r2735 ⊢) <;> omega)) (by (try simp only [zp, zo, zq] at w2732 f2733 r2734 r2735 ⊢) <;> (try simp only [zz, Int32.reduceToInt, ne_eq] at w2732 f2733 r2734 r2735 ⊢) <;> (try simp (disch := omega) only [zb] at w2732 f2733 r2734 r2735 ⊢) <;> first | omega | ((try simp (disch := omega) only [zb] at w2732 f2733 r2734 r2735 ⊢) <;> omega)) (by (try simp only [zp, zo, zq] at w2732 f2733 r2734 r2735 ⊢) <;> (try simp only [zz, Int32.reduceToInt, ne_eq] at w2732 f2733 r2734 r2735 ⊢) <;> (try simp (disch := omega) only [zb] at w2732 f2733 r2734 r2735 ⊢) <;> first | omega | ((try simp (disch := omega) only [zb] at w2732 f2733 r2734 r2735 ⊢) <;> omega)) (by have hz : (mm_fuel : Int) = 2000 := rfl; rw [hz]; exact (by (try simp only [zp, zo, zq] at w2732 f2733 r2734 r2735 ⊢) <;> (try simp only [zz, Int32.reduceToInt, ne_eq] at w2732 f2733 r2734 r2735 ⊢) <;> (try simp (disch := omega) only [zb] at w2732 f2733 r2734 r2735 ⊢) <;> first | omega | ((try simp (disch := omega) only [zb] at w2732 f2733 r2734 r2735 ⊢) <;> omega)))
abbrev VX8_open : List Nat := []
set_option maxHeartbeats 4000000 in
set_option maxRecDepth 10000 in
theorem vX8_open {T : Nat → Option Nat} {σ0 : mm_M} {p0 : Nat} {p1 : Int32} (c0 : sCI T σ0) (hv : sFV T σ0) (t_p0 : T p0 = some 8) : sw (fX8_open p0 p1 σ0) (fun R => sCI T R.2 ∧ sFR T VX8_open σ0 R.2 ∧ (((1 ≤ p1.toInt ∧ p1.toInt ≤ 8) ∧ oi R.1 = -1) ∨ (¬ (1 ≤ p1.toInt ∧ p1.toInt ≤ 8) ∧ oi R.1 = -9999999999))) := by
  have f0 : sFR T VX8_open σ0 σ0 := fr_refl
  unfold fX8_open
  have d0 := su_dec p1
  refine sw_ite (fun h2736 => ?_) (fun h2736 => ?_)
  · refine sw_sh (ci_sh c0 t_p0 rfl) ?_
    obtain ⟨q3, eq3, tq3⟩ := ci_ref c0 t_p0 7 (κ' := 6) rfl
    refine sw_onS eq3 ?_
    refine sw_sh (ci_sh c0 tq3 rfl) ?_
    refine sw_on (vX6_placeOfOpen c0 hv tq3  ) ?_
    intro q5 hqq5
    obtain ⟨eq5, xq5⟩ := hqq5
    (try rw [eq5])
    exact sw_some ⟨c0, f0, (by (try simp only [zp, zo, zq] at d0 h2736 xq5 ⊢) <;> (try simp only [zz, Int32.reduceToInt, ne_eq] at d0 h2736 xq5 ⊢) <;> (try simp (disch := omega) only [zb] at d0 h2736 xq5 ⊢) <;> first | omega | ((try simp (disch := omega) only [zb] at d0 h2736 xq5 ⊢) <;> omega))⟩
  · exact sw_some ⟨c0, f0, (by (try simp only [zp, zo, zq] at d0 h2736 ⊢) <;> (try simp only [zz, Int32.reduceToInt, ne_eq] at d0 h2736 ⊢) <;> (try simp (disch := omega) only [zb] at d0 h2736 ⊢) <;> first | omega | ((try simp (disch := omega) only [zb] at d0 h2736 ⊢) <;> omega))⟩
abbrev VX9_open : List Nat := [900]
set_option maxHeartbeats 4000000 in
set_option maxRecDepth 10000 in
theorem vX9_open {T : Nat → Option Nat} {σ0 : mm_M} {p0 : Nat} {p1 : Int32} (c0 : sCI T σ0) (hv : sFV9 T σ0) (t_p0 : T p0 = some 9) : sw (fX9_open p0 p1 σ0) (fun R => sCI T R.2 ∧ sFR T VX9_open σ0 R.2 ∧ (((1 ≤ p1.toInt ∧ p1.toInt ≤ 8) ∧ R.1.toInt = -1 ∧ (mm_I R.2 p0 0).toInt = 0) ∨ (¬ (1 ≤ p1.toInt ∧ p1.toInt ≤ 8) ∧ (mm_I R.2 p0 0).toInt = 1))) := by
  have f0 : sFR T VX9_open σ0 σ0 := fr_refl
  unfold fX9_open
  refine sw_sh (ci_sh c0 t_p0 rfl) ?_
  have u2737 := su_in p1 1 8
  refine sw_on (vX9_goes c0 t_p0 (by (try simp only [zp, zo, zq] at u2737 ⊢) <;> (try simp only [zz, Int32.reduceToInt, ne_eq] at u2737 ⊢) <;> (try simp (disch := omega) only [zb] at u2737 ⊢) <;> first | omega | ((try simp (disch := omega) only [zb] at u2737 ⊢) <;> omega)) ) ?_
  intro q2 hqq2
  obtain ⟨cq2, gq2, xq2⟩ := hqq2
  have fq2 := fr_trans f0 gq2 rfl
  refine sw_ite (fun h2738 => ?_) (fun h2738 => ?_)
  · exact sw_some ⟨cq2, fq2, (by (try simp only [zp, zo, zq] at u2737 xq2 h2738 ⊢) <;> (try simp only [zz, Int32.reduceToInt, ne_eq] at u2737 xq2 h2738 ⊢) <;> (try simp (disch := omega) only [zb] at u2737 xq2 h2738 ⊢) <;> first | omega | ((try simp (disch := omega) only [zb] at u2737 xq2 h2738 ⊢) <;> omega))⟩
  · refine sw_sh (ci_sh cq2 t_p0 rfl) ?_
    obtain ⟨q5, eq5, tq5⟩ := ci_ref cq2 t_p0 27 (κ' := 77) rfl
    refine sw_onS eq5 ?_
    refine sw_ar (ci_sh cq2 tq5 rfl) ?_
    refine sw_ib (by (try simp only [zp, zo, zq] at u2737 xq2 h2738 ⊢) <;> (try simp only [zz, Int32.reduceToInt, ne_eq] at u2737 xq2 h2738 ⊢) <;> (try simp (disch := omega) only [zb] at u2737 xq2 h2738 ⊢) <;> first | omega | ((try simp (disch := omega) only [zb] at u2737 xq2 h2738 ⊢) <;> omega)) ?_
    have w2740 := (gq2.2.2 _ _ tq5 p1.toNatClampNeg rfl).1
    have f2741 : mm_I σ0 q5 p1.toNatClampNeg = -1 := hv q5 77 p1.toNatClampNeg tq5 (Or.inr (by decide)) (by (try simp only [zp, zo, zq] at u2737 xq2 h2738 w2740 ⊢) <;> (try simp only [zz, Int32.reduceToInt, ne_eq] at u2737 xq2 h2738 w2740 ⊢) <;> (try simp (disch := omega) only [zb] at u2737 xq2 h2738 w2740 ⊢) <;> first | omega | ((try simp (disch := omega) only [zb] at u2737 xq2 h2738 w2740 ⊢) <;> omega))
    have r2742 := ci_rg c0 tq5 p1.toNatClampNeg (lo := (-1)) (hi := 19) rfl
    have r2743 := ci_rg cq2 tq5 p1.toNatClampNeg (lo := (-1)) (hi := 19) rfl
    refine sw_ite (fun h2744 => ?_) (fun h2744 => ?_)
    · exact sw_some ⟨cq2, fq2, (by (try simp only [zp, zo, zq] at u2737 xq2 h2738 w2740 f2741 r2742 r2743 h2744 ⊢) <;> (try simp only [zz, Int32.reduceToInt, ne_eq] at u2737 xq2 h2738 w2740 f2741 r2742 r2743 h2744 ⊢) <;> (try simp (disch := omega) only [zb] at u2737 xq2 h2738 w2740 f2741 r2742 r2743 h2744 ⊢) <;> first | omega | ((try simp (disch := omega) only [zb] at u2737 xq2 h2738 w2740 f2741 r2742 r2743 h2744 ⊢) <;> omega))⟩
    · refine sw_onS eq5 ?_
      refine sw_ar (ci_sh cq2 tq5 rfl) ?_
      refine sw_ib (by (try simp only [zp, zo, zq] at u2737 xq2 h2738 w2740 f2741 r2742 r2743 h2744 ⊢) <;> (try simp only [zz, Int32.reduceToInt, ne_eq] at u2737 xq2 h2738 w2740 f2741 r2742 r2743 h2744 ⊢) <;> (try simp (disch := omega) only [zb] at u2737 xq2 h2738 w2740 f2741 r2742 r2743 h2744 ⊢) <;> first | omega | ((try simp (disch := omega) only [zb] at u2737 xq2 h2738 w2740 f2741 r2742 r2743 h2744 ⊢) <;> omega)) ?_
      refine sw_on (sX9_placeOf cq2 t_p0  ) ?_
      intro q12 hqq12
      obtain ⟨eq12, xq12⟩ := hqq12
      (try rw [eq12])
      exact sw_some ⟨cq2, fq2, (by (try simp only [zp, zo, zq] at u2737 xq2 h2738 w2740 f2741 r2742 r2743 h2744 xq12 ⊢) <;> (try simp only [zz, Int32.reduceToInt, ne_eq] at u2737 xq2 h2738 w2740 f2741 r2742 r2743 h2744 xq12 ⊢) <;> (try simp (disch := omega) only [zb] at u2737 xq2 h2738 w2740 f2741 r2742 r2743 h2744 xq12 ⊢) <;> first | omega | ((try simp (disch := omega) only [zb] at u2737 xq2 h2738 w2740 f2741 r2742 r2743 h2744 xq12 ⊢) <;> omega))⟩
abbrev VX8_page : List Nat := []
set_option maxHeartbeats 4000000 in
set_option maxRecDepth 10000 in
theorem vX8_page {T : Nat → Option Nat} {σ0 : mm_M} {p0 : Nat} {p1 : Int32} {p2 : Int32} (c0 : sCI T σ0) (hv : sFV T σ0) (t_p0 : T p0 = some 8) : sw (fX8_page p0 p1 p2 σ0) (fun R => sCI T R.2 ∧ sFR T VX8_page σ0 R.2 ∧ (oi R.1 = -9999999999)) := by
  have f0 : sFR T VX8_page σ0 σ0 := fr_refl
  unfold fX8_page
  refine sw_sh (ci_sh c0 t_p0 rfl) ?_
  obtain ⟨q2, eq2, tq2⟩ := ci_ref c0 t_p0 7 (κ' := 6) rfl
  refine sw_onS eq2 ?_
  refine sw_sh (ci_sh c0 tq2 rfl) ?_
  refine sw_on (vX6_pageAt c0 hv tq2  ) ?_
  intro q4 hqq4
  obtain ⟨eq4, xq4⟩ := hqq4
  (try rw [eq4])
  refine sw_nu (fun eq5 => ?_) (fun q5 eq5 => ?_)
  · exact sw_some ⟨c0, f0, (by (try simp only [zp, zo, zq] at xq4 ⊢) <;> (try simp only [zz, Int32.reduceToInt, ne_eq] at xq4 ⊢) <;> (try simp (disch := omega) only [zb] at xq4 ⊢) <;> first | omega | ((try simp (disch := omega) only [zb] at xq4 ⊢) <;> omega))⟩
  · have zq5 := congrArg onI eq5
    exfalso; exact (by (try simp only [zp, zo, zq] at xq4 zq5 ⊢) <;> (try simp only [zz, Int32.reduceToInt, ne_eq] at xq4 zq5 ⊢) <;> (try simp (disch := omega) only [zb] at xq4 zq5 ⊢) <;> first | omega | ((try simp (disch := omega) only [zb] at xq4 zq5 ⊢) <;> omega))
abbrev VX9_page : List Nat := [900]
set_option maxHeartbeats 4000000 in
set_option maxRecDepth 10000 in
theorem vX9_page {T : Nat → Option Nat} {σ0 : mm_M} {p0 : Nat} {p1 : Int32} {p2 : Int32} (c0 : sCI T σ0) (hv : sFV9 T σ0) (t_p0 : T p0 = some 9) : sw (fX9_page p0 p1 p2 σ0) (fun R => sCI T R.2 ∧ sFR T VX9_page σ0 R.2 ∧ ((mm_I R.2 p0 0).toInt = 1)) := by
  have f0 : sFR T VX9_page σ0 σ0 := fr_refl
  unfold fX9_page
  refine sw_sh (ci_sh c0 t_p0 rfl) ?_
  have f2747 : mm_I σ0 p0 14 = 0 := hv p0 9 14 t_p0 (Or.inl rfl)
  have r2748 := ci_rg c0 t_p0 14 (lo := 0) (hi := 20) rfl
  have u2749 := su_in p1 0 ((mm_I σ0 p0 14) - 1)
  refine sw_ite (fun h2750 => ?_) (fun h2750 => ?_)
  · unfold fX9_page_29
    unfold fX9_page_30
    refine sw_sh (ci_sh c0 t_p0 rfl) ?_
    refine sw_on (vX9_goes c0 t_p0 (by (try simp only [zp, zo, zq] at f2747 r2748 u2749 h2750 ⊢) <;> (try simp only [zz, Int32.reduceToInt, ne_eq] at f2747 r2748 u2749 h2750 ⊢) <;> (try simp (disch := omega) only [zb] at f2747 r2748 u2749 h2750 ⊢) <;> first | omega | ((try simp (disch := omega) only [zb] at f2747 r2748 u2749 h2750 ⊢) <;> omega)) ) ?_
    intro q4 hqq4
    obtain ⟨cq4, gq4, xq4⟩ := hqq4
    have fq4 := fr_trans f0 gq4 rfl
    refine sw_ite (fun h2751 => ?_) (fun h2751 => ?_)
    · exact sw_some ⟨cq4, fq4, (by (try simp only [zp, zo, zq] at f2747 r2748 u2749 h2750 xq4 h2751 ⊢) <;> (try simp only [zz, Int32.reduceToInt, ne_eq] at f2747 r2748 u2749 h2750 xq4 h2751 ⊢) <;> (try simp (disch := omega) only [zb] at f2747 r2748 u2749 h2750 xq4 h2751 ⊢) <;> first | omega | ((try simp (disch := omega) only [zb] at f2747 r2748 u2749 h2750 xq4 h2751 ⊢) <;> omega))⟩
    · refine sw_sh (ci_sh cq4 t_p0 rfl) ?_
      obtain ⟨q7, eq7, tq7⟩ := ci_ref cq4 t_p0 15 (κ' := 65) rfl
      refine sw_onS eq7 ?_
      refine sw_ar (ci_sh cq4 tq7 rfl) ?_
      refine sw_ib (by (try simp only [zp, zo, zq] at f2747 r2748 u2749 h2750 xq4 h2751 ⊢) <;> (try simp only [zz, Int32.reduceToInt, ne_eq] at f2747 r2748 u2749 h2750 xq4 h2751 ⊢) <;> (try simp (disch := omega) only [zb] at f2747 r2748 u2749 h2750 xq4 h2751 ⊢) <;> first | omega | ((try simp (disch := omega) only [zb] at f2747 r2748 u2749 h2750 xq4 h2751 ⊢) <;> omega)) ?_
      refine sw_ite (fun h2753 => ?_) (fun h2753 => ?_)
      · obtain ⟨q11, eq11, tq11⟩ := ci_ref cq4 t_p0 17 (κ' := 67) rfl
        refine sw_onS eq11 ?_
        refine sw_ar (ci_sh cq4 tq11 rfl) ?_
        have w2754 := (gq4.2.2 _ _ tq7 p1.toNatClampNeg rfl).1
        have r2756 := ci_rg c0 tq7 p1.toNatClampNeg (lo := 0) (hi := 19) rfl
        have r2757 := ci_rg cq4 tq7 p1.toNatClampNeg (lo := 0) (hi := 19) rfl
        refine sw_ib (by (try simp only [zp, zo, zq] at f2747 r2748 u2749 h2750 xq4 h2751 h2753 w2754 r2756 r2757 ⊢) <;> (try simp only [zz, Int32.reduceToInt, ne_eq] at f2747 r2748 u2749 h2750 xq4 h2751 h2753 w2754 r2756 r2757 ⊢) <;> (try simp (disch := omega) only [zb] at f2747 r2748 u2749 h2750 xq4 h2751 h2753 w2754 r2756 r2757 ⊢) <;> first | omega | ((try simp (disch := omega) only [zb] at f2747 r2748 u2749 h2750 xq4 h2751 h2753 w2754 r2756 r2757 ⊢) <;> omega)) ?_
        have w2758 := (gq4.2.2 _ _ tq11 ((mm_I q4.2 q7 p1.toNatClampNeg).toNatClampNeg) rfl).1
        have r2760 := ci_rg c0 tq11 ((mm_I q4.2 q7 p1.toNatClampNeg).toNatClampNeg) (lo := 0) (hi := 8) rfl
        have r2761 := ci_rg cq4 tq11 ((mm_I q4.2 q7 p1.toNatClampNeg).toNatClampNeg) (lo := 0) (hi := 8) rfl
        exact sw_some ⟨cq4, fq4, (by (try simp only [zp, zo, zq] at f2747 r2748 u2749 h2750 xq4 h2751 h2753 w2754 r2756 r2757 w2758 r2760 r2761 ⊢) <;> (try simp only [zz, Int32.reduceToInt, ne_eq] at f2747 r2748 u2749 h2750 xq4 h2751 h2753 w2754 r2756 r2757 w2758 r2760 r2761 ⊢) <;> (try simp (disch := omega) only [zb] at f2747 r2748 u2749 h2750 xq4 h2751 h2753 w2754 r2756 r2757 w2758 r2760 r2761 ⊢) <;> first | omega | ((try simp (disch := omega) only [zb] at f2747 r2748 u2749 h2750 xq4 h2751 h2753 w2754 r2756 r2757 w2758 r2760 r2761 ⊢) <;> omega))⟩
      · refine sw_ite (fun h2763 => ?_) (fun h2763 => ?_)
        · obtain ⟨q15, eq15, tq15⟩ := ci_ref cq4 t_p0 18 (κ' := 68) rfl
          refine sw_onS eq15 ?_
          refine sw_ar (ci_sh cq4 tq15 rfl) ?_
          have w2764 := (gq4.2.2 _ _ tq7 p1.toNatClampNeg rfl).1
          have r2766 := ci_rg c0 tq7 p1.toNatClampNeg (lo := 0) (hi := 19) rfl
          have r2767 := ci_rg cq4 tq7 p1.toNatClampNeg (lo := 0) (hi := 19) rfl
          refine sw_ib (by (try simp only [zp, zo, zq] at f2747 r2748 u2749 h2750 xq4 h2751 h2753 h2763 w2764 r2766 r2767 ⊢) <;> (try simp only [zz, Int32.reduceToInt, ne_eq] at f2747 r2748 u2749 h2750 xq4 h2751 h2753 h2763 w2764 r2766 r2767 ⊢) <;> (try simp (disch := omega) only [zb] at f2747 r2748 u2749 h2750 xq4 h2751 h2753 h2763 w2764 r2766 r2767 ⊢) <;> first | omega | ((try simp (disch := omega) only [zb] at f2747 r2748 u2749 h2750 xq4 h2751 h2753 h2763 w2764 r2766 r2767 ⊢) <;> omega)) ?_
          exact sw_some ⟨cq4, fq4, (by (try simp only [zp, zo, zq] at f2747 r2748 u2749 h2750 xq4 h2751 h2753 h2763 w2764 r2766 r2767 ⊢) <;> (try simp only [zz, Int32.reduceToInt, ne_eq] at f2747 r2748 u2749 h2750 xq4 h2751 h2753 h2763 w2764 r2766 r2767 ⊢) <;> (try simp (disch := omega) only [zb] at f2747 r2748 u2749 h2750 xq4 h2751 h2753 h2763 w2764 r2766 r2767 ⊢) <;> first | omega | ((try simp (disch := omega) only [zb] at f2747 r2748 u2749 h2750 xq4 h2751 h2753 h2763 w2764 r2766 r2767 ⊢) <;> omega))⟩
        · refine sw_ite (fun h2769 => ?_) (fun h2769 => ?_)
          · obtain ⟨q19, eq19, tq19⟩ := ci_ref cq4 t_p0 19 (κ' := 69) rfl
            refine sw_onS eq19 ?_
            refine sw_ar (ci_sh cq4 tq19 rfl) ?_
            have w2770 := (gq4.2.2 _ _ tq7 p1.toNatClampNeg rfl).1
            have r2772 := ci_rg c0 tq7 p1.toNatClampNeg (lo := 0) (hi := 19) rfl
            have r2773 := ci_rg cq4 tq7 p1.toNatClampNeg (lo := 0) (hi := 19) rfl
            refine sw_ib (by (try simp only [zp, zo, zq] at f2747 r2748 u2749 h2750 xq4 h2751 h2753 h2763 h2769 w2770 r2772 r2773 ⊢) <;> (try simp only [zz, Int32.reduceToInt, ne_eq] at f2747 r2748 u2749 h2750 xq4 h2751 h2753 h2763 h2769 w2770 r2772 r2773 ⊢) <;> (try simp (disch := omega) only [zb] at f2747 r2748 u2749 h2750 xq4 h2751 h2753 h2763 h2769 w2770 r2772 r2773 ⊢) <;> first | omega | ((try simp (disch := omega) only [zb] at f2747 r2748 u2749 h2750 xq4 h2751 h2753 h2763 h2769 w2770 r2772 r2773 ⊢) <;> omega)) ?_
            exact sw_some ⟨cq4, fq4, (by (try simp only [zp, zo, zq] at f2747 r2748 u2749 h2750 xq4 h2751 h2753 h2763 h2769 w2770 r2772 r2773 ⊢) <;> (try simp only [zz, Int32.reduceToInt, ne_eq] at f2747 r2748 u2749 h2750 xq4 h2751 h2753 h2763 h2769 w2770 r2772 r2773 ⊢) <;> (try simp (disch := omega) only [zb] at f2747 r2748 u2749 h2750 xq4 h2751 h2753 h2763 h2769 w2770 r2772 r2773 ⊢) <;> first | omega | ((try simp (disch := omega) only [zb] at f2747 r2748 u2749 h2750 xq4 h2751 h2753 h2763 h2769 w2770 r2772 r2773 ⊢) <;> omega))⟩
          · refine sw_ite (fun h2775 => ?_) (fun h2775 => ?_)
            · obtain ⟨q23, eq23, tq23⟩ := ci_ref cq4 t_p0 20 (κ' := 70) rfl
              refine sw_onS eq23 ?_
              refine sw_ar (ci_sh cq4 tq23 rfl) ?_
              have w2776 := (gq4.2.2 _ _ tq7 p1.toNatClampNeg rfl).1
              have r2778 := ci_rg c0 tq7 p1.toNatClampNeg (lo := 0) (hi := 19) rfl
              have r2779 := ci_rg cq4 tq7 p1.toNatClampNeg (lo := 0) (hi := 19) rfl
              refine sw_ib (by (try simp only [zp, zo, zq] at f2747 r2748 u2749 h2750 xq4 h2751 h2753 h2763 h2769 h2775 w2776 r2778 r2779 ⊢) <;> (try simp only [zz, Int32.reduceToInt, ne_eq] at f2747 r2748 u2749 h2750 xq4 h2751 h2753 h2763 h2769 h2775 w2776 r2778 r2779 ⊢) <;> (try simp (disch := omega) only [zb] at f2747 r2748 u2749 h2750 xq4 h2751 h2753 h2763 h2769 h2775 w2776 r2778 r2779 ⊢) <;> first | omega | ((try simp (disch := omega) only [zb] at f2747 r2748 u2749 h2750 xq4 h2751 h2753 h2763 h2769 h2775 w2776 r2778 r2779 ⊢) <;> omega)) ?_
              exact sw_some ⟨cq4, fq4, (by (try simp only [zp, zo, zq] at f2747 r2748 u2749 h2750 xq4 h2751 h2753 h2763 h2769 h2775 w2776 r2778 r2779 ⊢) <;> (try simp only [zz, Int32.reduceToInt, ne_eq] at f2747 r2748 u2749 h2750 xq4 h2751 h2753 h2763 h2769 h2775 w2776 r2778 r2779 ⊢) <;> (try simp (disch := omega) only [zb] at f2747 r2748 u2749 h2750 xq4 h2751 h2753 h2763 h2769 h2775 w2776 r2778 r2779 ⊢) <;> first | omega | ((try simp (disch := omega) only [zb] at f2747 r2748 u2749 h2750 xq4 h2751 h2753 h2763 h2769 h2775 w2776 r2778 r2779 ⊢) <;> omega))⟩
            · refine sw_ite (fun h2781 => ?_) (fun h2781 => ?_)
              · obtain ⟨q27, eq27, tq27⟩ := ci_ref cq4 t_p0 17 (κ' := 67) rfl
                refine sw_onS eq27 ?_
                refine sw_ar (ci_sh cq4 tq27 rfl) ?_
                have w2782 := (gq4.2.2 _ _ tq7 p1.toNatClampNeg rfl).1
                have r2784 := ci_rg c0 tq7 p1.toNatClampNeg (lo := 0) (hi := 19) rfl
                have r2785 := ci_rg cq4 tq7 p1.toNatClampNeg (lo := 0) (hi := 19) rfl
                refine sw_ib (by (try simp only [zp, zo, zq] at f2747 r2748 u2749 h2750 xq4 h2751 h2753 h2763 h2769 h2775 h2781 w2782 r2784 r2785 ⊢) <;> (try simp only [zz, Int32.reduceToInt, ne_eq] at f2747 r2748 u2749 h2750 xq4 h2751 h2753 h2763 h2769 h2775 h2781 w2782 r2784 r2785 ⊢) <;> (try simp (disch := omega) only [zb] at f2747 r2748 u2749 h2750 xq4 h2751 h2753 h2763 h2769 h2775 h2781 w2782 r2784 r2785 ⊢) <;> first | omega | ((try simp (disch := omega) only [zb] at f2747 r2748 u2749 h2750 xq4 h2751 h2753 h2763 h2769 h2775 h2781 w2782 r2784 r2785 ⊢) <;> omega)) ?_
                obtain ⟨q30, eq30, tq30⟩ := ci_ref cq4 t_p0 27 (κ' := 77) rfl
                refine sw_onS eq30 ?_
                refine sw_ar (ci_sh cq4 tq30 rfl) ?_
                have w2786 := (gq4.2.2 _ _ tq27 ((mm_I q4.2 q7 p1.toNatClampNeg).toNatClampNeg) rfl).1
                have r2788 := ci_rg c0 tq27 ((mm_I q4.2 q7 p1.toNatClampNeg).toNatClampNeg) (lo := 0) (hi := 8) rfl
                have r2789 := ci_rg cq4 tq27 ((mm_I q4.2 q7 p1.toNatClampNeg).toNatClampNeg) (lo := 0) (hi := 8) rfl
                refine sw_ib (by (try simp only [zp, zo, zq] at f2747 r2748 u2749 h2750 xq4 h2751 h2753 h2763 h2769 h2775 h2781 w2782 r2784 r2785 w2786 r2788 r2789 ⊢) <;> (try simp only [zz, Int32.reduceToInt, ne_eq] at f2747 r2748 u2749 h2750 xq4 h2751 h2753 h2763 h2769 h2775 h2781 w2782 r2784 r2785 w2786 r2788 r2789 ⊢) <;> (try simp (disch := omega) only [zb] at f2747 r2748 u2749 h2750 xq4 h2751 h2753 h2763 h2769 h2775 h2781 w2782 r2784 r2785 w2786 r2788 r2789 ⊢) <;> first | omega | ((try simp (disch := omega) only [zb] at f2747 r2748 u2749 h2750 xq4 h2751 h2753 h2763 h2769 h2775 h2781 w2782 r2784 r2785 w2786 r2788 r2789 ⊢) <;> omega)) ?_
                have w2790 := (gq4.2.2 _ _ tq30 ((mm_I q4.2 q27 (mm_I q4.2 q7 p1.toNatClampNeg).toNatClampNeg).toNatClampNeg) rfl).1
                have f2791 : mm_I σ0 q30 ((mm_I q4.2 q27 (mm_I q4.2 q7 p1.toNatClampNeg).toNatClampNeg).toNatClampNeg) = -1 := hv q30 77 ((mm_I q4.2 q27 (mm_I q4.2 q7 p1.toNatClampNeg).toNatClampNeg).toNatClampNeg) tq30 (Or.inr (by decide)) (by (try simp only [zp, zo, zq] at f2747 r2748 u2749 h2750 xq4 h2751 h2753 h2763 h2769 h2775 h2781 w2782 r2784 r2785 w2786 r2788 r2789 w2790 ⊢) <;> (try simp only [zz, Int32.reduceToInt, ne_eq] at f2747 r2748 u2749 h2750 xq4 h2751 h2753 h2763 h2769 h2775 h2781 w2782 r2784 r2785 w2786 r2788 r2789 w2790 ⊢) <;> (try simp (disch := omega) only [zb] at f2747 r2748 u2749 h2750 xq4 h2751 h2753 h2763 h2769 h2775 h2781 w2782 r2784 r2785 w2786 r2788 r2789 w2790 ⊢) <;> first | omega | ((try simp (disch := omega) only [zb] at f2747 r2748 u2749 h2750 xq4 h2751 h2753 h2763 h2769 h2775 h2781 w2782 r2784 r2785 w2786 r2788 r2789 w2790 ⊢) <;> omega))
                have r2792 := ci_rg c0 tq30 ((mm_I q4.2 q27 (mm_I q4.2 q7 p1.toNatClampNeg).toNatClampNeg).toNatClampNeg) (lo := (-1)) (hi := 19) rfl
                have r2793 := ci_rg cq4 tq30 ((mm_I q4.2 q27 (mm_I q4.2 q7 p1.toNatClampNeg).toNatClampNeg).toNatClampNeg) (lo := (-1)) (hi := 19) rfl
                refine sw_ite (fun h2794 => ?_) (fun h2794 => ?_)
                · exact sw_some ⟨cq4, fq4, (by (try simp only [zp, zo, zq] at f2747 r2748 u2749 h2750 xq4 h2751 h2753 h2763 h2769 h2775 h2781 w2782 r2784 r2785 w2786 r2788 r2789 w2790 f2791 r2792 r2793 h2794 ⊢) <;> (try simp only [zz, Int32.reduceToInt, ne_eq] at f2747 r2748 u2749 h2750 xq4 h2751 h2753 h2763 h2769 h2775 h2781 w2782 r2784 r2785 w2786 r2788 r2789 w2790 f2791 r2792 r2793 h2794 ⊢) <;> (try simp (disch := omega) only [zb] at f2747 r2748 u2749 h2750 xq4 h2751 h2753 h2763 h2769 h2775 h2781 w2782 r2784 r2785 w2786 r2788 r2789 w2790 f2791 r2792 r2793 h2794 ⊢) <;> first | omega | ((try simp (disch := omega) only [zb] at f2747 r2748 u2749 h2750 xq4 h2751 h2753 h2763 h2769 h2775 h2781 w2782 r2784 r2785 w2786 r2788 r2789 w2790 f2791 r2792 r2793 h2794 ⊢) <;> omega))⟩
                · exact sw_some ⟨cq4, fq4, (by (try simp only [zp, zo, zq] at f2747 r2748 u2749 h2750 xq4 h2751 h2753 h2763 h2769 h2775 h2781 w2782 r2784 r2785 w2786 r2788 r2789 w2790 f2791 r2792 r2793 h2794 ⊢) <;> (try simp only [zz, Int32.reduceToInt, ne_eq] at f2747 r2748 u2749 h2750 xq4 h2751 h2753 h2763 h2769 h2775 h2781 w2782 r2784 r2785 w2786 r2788 r2789 w2790 f2791 r2792 r2793 h2794 ⊢) <;> (try simp (disch := omega) only [zb] at f2747 r2748 u2749 h2750 xq4 h2751 h2753 h2763 h2769 h2775 h2781 w2782 r2784 r2785 w2786 r2788 r2789 w2790 f2791 r2792 r2793 h2794 ⊢) <;> first | omega | ((try simp (disch := omega) only [zb] at f2747 r2748 u2749 h2750 xq4 h2751 h2753 h2763 h2769 h2775 h2781 w2782 r2784 r2785 w2786 r2788 r2789 w2790 f2791 r2792 r2793 h2794 ⊢) <;> omega))⟩
              · refine sw_ite (fun h2797 => ?_) (fun h2797 => ?_)
                · obtain ⟨q35, eq35, tq35⟩ := ci_ref cq4 t_p0 21 (κ' := 71) rfl
                  refine sw_onS eq35 ?_
                  refine sw_ar (ci_sh cq4 tq35 rfl) ?_
                  have w2798 := (gq4.2.2 _ _ tq7 p1.toNatClampNeg rfl).1
                  have r2800 := ci_rg c0 tq7 p1.toNatClampNeg (lo := 0) (hi := 19) rfl
                  have r2801 := ci_rg cq4 tq7 p1.toNatClampNeg (lo := 0) (hi := 19) rfl
                  refine sw_ib (by (try simp only [zp, zo, zq] at f2747 r2748 u2749 h2750 xq4 h2751 h2753 h2763 h2769 h2775 h2781 h2797 w2798 r2800 r2801 ⊢) <;> (try simp only [zz, Int32.reduceToInt, ne_eq] at f2747 r2748 u2749 h2750 xq4 h2751 h2753 h2763 h2769 h2775 h2781 h2797 w2798 r2800 r2801 ⊢) <;> (try simp (disch := omega) only [zb] at f2747 r2748 u2749 h2750 xq4 h2751 h2753 h2763 h2769 h2775 h2781 h2797 w2798 r2800 r2801 ⊢) <;> first | omega | ((try simp (disch := omega) only [zb] at f2747 r2748 u2749 h2750 xq4 h2751 h2753 h2763 h2769 h2775 h2781 h2797 w2798 r2800 r2801 ⊢) <;> omega)) ?_
                  exact sw_some ⟨cq4, fq4, (by (try simp only [zp, zo, zq] at f2747 r2748 u2749 h2750 xq4 h2751 h2753 h2763 h2769 h2775 h2781 h2797 w2798 r2800 r2801 ⊢) <;> (try simp only [zz, Int32.reduceToInt, ne_eq] at f2747 r2748 u2749 h2750 xq4 h2751 h2753 h2763 h2769 h2775 h2781 h2797 w2798 r2800 r2801 ⊢) <;> (try simp (disch := omega) only [zb] at f2747 r2748 u2749 h2750 xq4 h2751 h2753 h2763 h2769 h2775 h2781 h2797 w2798 r2800 r2801 ⊢) <;> first | omega | ((try simp (disch := omega) only [zb] at f2747 r2748 u2749 h2750 xq4 h2751 h2753 h2763 h2769 h2775 h2781 h2797 w2798 r2800 r2801 ⊢) <;> omega))⟩
                · obtain ⟨q38, eq38, tq38⟩ := ci_ref cq4 t_p0 22 (κ' := 72) rfl
                  refine sw_onS eq38 ?_
                  refine sw_ar (ci_sh cq4 tq38 rfl) ?_
                  have w2803 := (gq4.2.2 _ _ tq7 p1.toNatClampNeg rfl).1
                  have r2805 := ci_rg c0 tq7 p1.toNatClampNeg (lo := 0) (hi := 19) rfl
                  have r2806 := ci_rg cq4 tq7 p1.toNatClampNeg (lo := 0) (hi := 19) rfl
                  refine sw_ib (by (try simp only [zp, zo, zq] at f2747 r2748 u2749 h2750 xq4 h2751 h2753 h2763 h2769 h2775 h2781 h2797 w2803 r2805 r2806 ⊢) <;> (try simp only [zz, Int32.reduceToInt, ne_eq] at f2747 r2748 u2749 h2750 xq4 h2751 h2753 h2763 h2769 h2775 h2781 h2797 w2803 r2805 r2806 ⊢) <;> (try simp (disch := omega) only [zb] at f2747 r2748 u2749 h2750 xq4 h2751 h2753 h2763 h2769 h2775 h2781 h2797 w2803 r2805 r2806 ⊢) <;> first | omega | ((try simp (disch := omega) only [zb] at f2747 r2748 u2749 h2750 xq4 h2751 h2753 h2763 h2769 h2775 h2781 h2797 w2803 r2805 r2806 ⊢) <;> omega)) ?_
                  exact sw_some ⟨cq4, fq4, (by (try simp only [zp, zo, zq] at f2747 r2748 u2749 h2750 xq4 h2751 h2753 h2763 h2769 h2775 h2781 h2797 w2803 r2805 r2806 ⊢) <;> (try simp only [zz, Int32.reduceToInt, ne_eq] at f2747 r2748 u2749 h2750 xq4 h2751 h2753 h2763 h2769 h2775 h2781 h2797 w2803 r2805 r2806 ⊢) <;> (try simp (disch := omega) only [zb] at f2747 r2748 u2749 h2750 xq4 h2751 h2753 h2763 h2769 h2775 h2781 h2797 w2803 r2805 r2806 ⊢) <;> first | omega | ((try simp (disch := omega) only [zb] at f2747 r2748 u2749 h2750 xq4 h2751 h2753 h2763 h2769 h2775 h2781 h2797 w2803 r2805 r2806 ⊢) <;> omega))⟩
  · have u2808 := su_in p2 0 6
    refine sw_ite (fun h2809 => ?_) (fun h2809 => ?_)
    · unfold fX9_page_29
      unfold fX9_page_30
      refine sw_sh (ci_sh c0 t_p0 rfl) ?_
      refine sw_on (vX9_goes c0 t_p0 (by (try simp only [zp, zo, zq] at f2747 r2748 u2749 h2750 u2808 h2809 ⊢) <;> (try simp only [zz, Int32.reduceToInt, ne_eq] at f2747 r2748 u2749 h2750 u2808 h2809 ⊢) <;> (try simp (disch := omega) only [zb] at f2747 r2748 u2749 h2750 u2808 h2809 ⊢) <;> first | omega | ((try simp (disch := omega) only [zb] at f2747 r2748 u2749 h2750 u2808 h2809 ⊢) <;> omega)) ) ?_
      intro q4 hqq4
      obtain ⟨cq4, gq4, xq4⟩ := hqq4
      have fq4 := fr_trans f0 gq4 rfl
      refine sw_ite (fun h2810 => ?_) (fun h2810 => ?_)
      · exact sw_some ⟨cq4, fq4, (by (try simp only [zp, zo, zq] at f2747 r2748 u2749 h2750 u2808 h2809 xq4 h2810 ⊢) <;> (try simp only [zz, Int32.reduceToInt, ne_eq] at f2747 r2748 u2749 h2750 u2808 h2809 xq4 h2810 ⊢) <;> (try simp (disch := omega) only [zb] at f2747 r2748 u2749 h2750 u2808 h2809 xq4 h2810 ⊢) <;> first | omega | ((try simp (disch := omega) only [zb] at f2747 r2748 u2749 h2750 u2808 h2809 xq4 h2810 ⊢) <;> omega))⟩
      · refine sw_sh (ci_sh cq4 t_p0 rfl) ?_
        obtain ⟨q7, eq7, tq7⟩ := ci_ref cq4 t_p0 15 (κ' := 65) rfl
        refine sw_onS eq7 ?_
        refine sw_ar (ci_sh cq4 tq7 rfl) ?_
        refine sw_ib (by (try simp only [zp, zo, zq] at f2747 r2748 u2749 h2750 u2808 h2809 xq4 h2810 ⊢) <;> (try simp only [zz, Int32.reduceToInt, ne_eq] at f2747 r2748 u2749 h2750 u2808 h2809 xq4 h2810 ⊢) <;> (try simp (disch := omega) only [zb] at f2747 r2748 u2749 h2750 u2808 h2809 xq4 h2810 ⊢) <;> first | omega | ((try simp (disch := omega) only [zb] at f2747 r2748 u2749 h2750 u2808 h2809 xq4 h2810 ⊢) <;> omega)) ?_
        refine sw_ite (fun h2812 => ?_) (fun h2812 => ?_)
        · obtain ⟨q11, eq11, tq11⟩ := ci_ref cq4 t_p0 17 (κ' := 67) rfl
          refine sw_onS eq11 ?_
          refine sw_ar (ci_sh cq4 tq11 rfl) ?_
          have w2813 := (gq4.2.2 _ _ tq7 p1.toNatClampNeg rfl).1
          have r2815 := ci_rg c0 tq7 p1.toNatClampNeg (lo := 0) (hi := 19) rfl
          have r2816 := ci_rg cq4 tq7 p1.toNatClampNeg (lo := 0) (hi := 19) rfl
          refine sw_ib (by (try simp only [zp, zo, zq] at f2747 r2748 u2749 h2750 u2808 h2809 xq4 h2810 h2812 w2813 r2815 r2816 ⊢) <;> (try simp only [zz, Int32.reduceToInt, ne_eq] at f2747 r2748 u2749 h2750 u2808 h2809 xq4 h2810 h2812 w2813 r2815 r2816 ⊢) <;> (try simp (disch := omega) only [zb] at f2747 r2748 u2749 h2750 u2808 h2809 xq4 h2810 h2812 w2813 r2815 r2816 ⊢) <;> first | omega | ((try simp (disch := omega) only [zb] at f2747 r2748 u2749 h2750 u2808 h2809 xq4 h2810 h2812 w2813 r2815 r2816 ⊢) <;> omega)) ?_
          have w2817 := (gq4.2.2 _ _ tq11 ((mm_I q4.2 q7 p1.toNatClampNeg).toNatClampNeg) rfl).1
          have r2819 := ci_rg c0 tq11 ((mm_I q4.2 q7 p1.toNatClampNeg).toNatClampNeg) (lo := 0) (hi := 8) rfl
          have r2820 := ci_rg cq4 tq11 ((mm_I q4.2 q7 p1.toNatClampNeg).toNatClampNeg) (lo := 0) (hi := 8) rfl
          exact sw_some ⟨cq4, fq4, (by (try simp only [zp, zo, zq] at f2747 r2748 u2749 h2750 u2808 h2809 xq4 h2810 h2812 w2813 r2815 r2816 w2817 r2819 r2820 ⊢) <;> (try simp only [zz, Int32.reduceToInt, ne_eq] at f2747 r2748 u2749 h2750 u2808 h2809 xq4 h2810 h2812 w2813 r2815 r2816 w2817 r2819 r2820 ⊢) <;> (try simp (disch := omega) only [zb] at f2747 r2748 u2749 h2750 u2808 h2809 xq4 h2810 h2812 w2813 r2815 r2816 w2817 r2819 r2820 ⊢) <;> first | omega | ((try simp (disch := omega) only [zb] at f2747 r2748 u2749 h2750 u2808 h2809 xq4 h2810 h2812 w2813 r2815 r2816 w2817 r2819 r2820 ⊢) <;> omega))⟩
        · refine sw_ite (fun h2822 => ?_) (fun h2822 => ?_)
          · obtain ⟨q15, eq15, tq15⟩ := ci_ref cq4 t_p0 18 (κ' := 68) rfl
            refine sw_onS eq15 ?_
            refine sw_ar (ci_sh cq4 tq15 rfl) ?_
            have w2823 := (gq4.2.2 _ _ tq7 p1.toNatClampNeg rfl).1
            have r2825 := ci_rg c0 tq7 p1.toNatClampNeg (lo := 0) (hi := 19) rfl
            have r2826 := ci_rg cq4 tq7 p1.toNatClampNeg (lo := 0) (hi := 19) rfl
            refine sw_ib (by (try simp only [zp, zo, zq] at f2747 r2748 u2749 h2750 u2808 h2809 xq4 h2810 h2812 h2822 w2823 r2825 r2826 ⊢) <;> (try simp only [zz, Int32.reduceToInt, ne_eq] at f2747 r2748 u2749 h2750 u2808 h2809 xq4 h2810 h2812 h2822 w2823 r2825 r2826 ⊢) <;> (try simp (disch := omega) only [zb] at f2747 r2748 u2749 h2750 u2808 h2809 xq4 h2810 h2812 h2822 w2823 r2825 r2826 ⊢) <;> first | omega | ((try simp (disch := omega) only [zb] at f2747 r2748 u2749 h2750 u2808 h2809 xq4 h2810 h2812 h2822 w2823 r2825 r2826 ⊢) <;> omega)) ?_
            exact sw_some ⟨cq4, fq4, (by (try simp only [zp, zo, zq] at f2747 r2748 u2749 h2750 u2808 h2809 xq4 h2810 h2812 h2822 w2823 r2825 r2826 ⊢) <;> (try simp only [zz, Int32.reduceToInt, ne_eq] at f2747 r2748 u2749 h2750 u2808 h2809 xq4 h2810 h2812 h2822 w2823 r2825 r2826 ⊢) <;> (try simp (disch := omega) only [zb] at f2747 r2748 u2749 h2750 u2808 h2809 xq4 h2810 h2812 h2822 w2823 r2825 r2826 ⊢) <;> first | omega | ((try simp (disch := omega) only [zb] at f2747 r2748 u2749 h2750 u2808 h2809 xq4 h2810 h2812 h2822 w2823 r2825 r2826 ⊢) <;> omega))⟩
          · refine sw_ite (fun h2828 => ?_) (fun h2828 => ?_)
            · obtain ⟨q19, eq19, tq19⟩ := ci_ref cq4 t_p0 19 (κ' := 69) rfl
              refine sw_onS eq19 ?_
              refine sw_ar (ci_sh cq4 tq19 rfl) ?_
              have w2829 := (gq4.2.2 _ _ tq7 p1.toNatClampNeg rfl).1
              have r2831 := ci_rg c0 tq7 p1.toNatClampNeg (lo := 0) (hi := 19) rfl
              have r2832 := ci_rg cq4 tq7 p1.toNatClampNeg (lo := 0) (hi := 19) rfl
              refine sw_ib (by (try simp only [zp, zo, zq] at f2747 r2748 u2749 h2750 u2808 h2809 xq4 h2810 h2812 h2822 h2828 w2829 r2831 r2832 ⊢) <;> (try simp only [zz, Int32.reduceToInt, ne_eq] at f2747 r2748 u2749 h2750 u2808 h2809 xq4 h2810 h2812 h2822 h2828 w2829 r2831 r2832 ⊢) <;> (try simp (disch := omega) only [zb] at f2747 r2748 u2749 h2750 u2808 h2809 xq4 h2810 h2812 h2822 h2828 w2829 r2831 r2832 ⊢) <;> first | omega | ((try simp (disch := omega) only [zb] at f2747 r2748 u2749 h2750 u2808 h2809 xq4 h2810 h2812 h2822 h2828 w2829 r2831 r2832 ⊢) <;> omega)) ?_
              exact sw_some ⟨cq4, fq4, (by (try simp only [zp, zo, zq] at f2747 r2748 u2749 h2750 u2808 h2809 xq4 h2810 h2812 h2822 h2828 w2829 r2831 r2832 ⊢) <;> (try simp only [zz, Int32.reduceToInt, ne_eq] at f2747 r2748 u2749 h2750 u2808 h2809 xq4 h2810 h2812 h2822 h2828 w2829 r2831 r2832 ⊢) <;> (try simp (disch := omega) only [zb] at f2747 r2748 u2749 h2750 u2808 h2809 xq4 h2810 h2812 h2822 h2828 w2829 r2831 r2832 ⊢) <;> first | omega | ((try simp (disch := omega) only [zb] at f2747 r2748 u2749 h2750 u2808 h2809 xq4 h2810 h2812 h2822 h2828 w2829 r2831 r2832 ⊢) <;> omega))⟩
            · refine sw_ite (fun h2834 => ?_) (fun h2834 => ?_)
              · obtain ⟨q23, eq23, tq23⟩ := ci_ref cq4 t_p0 20 (κ' := 70) rfl
                refine sw_onS eq23 ?_
                refine sw_ar (ci_sh cq4 tq23 rfl) ?_
                have w2835 := (gq4.2.2 _ _ tq7 p1.toNatClampNeg rfl).1
                have r2837 := ci_rg c0 tq7 p1.toNatClampNeg (lo := 0) (hi := 19) rfl
                have r2838 := ci_rg cq4 tq7 p1.toNatClampNeg (lo := 0) (hi := 19) rfl
                refine sw_ib (by (try simp only [zp, zo, zq] at f2747 r2748 u2749 h2750 u2808 h2809 xq4 h2810 h2812 h2822 h2828 h2834 w2835 r2837 r2838 ⊢) <;> (try simp only [zz, Int32.reduceToInt, ne_eq] at f2747 r2748 u2749 h2750 u2808 h2809 xq4 h2810 h2812 h2822 h2828 h2834 w2835 r2837 r2838 ⊢) <;> (try simp (disch := omega) only [zb] at f2747 r2748 u2749 h2750 u2808 h2809 xq4 h2810 h2812 h2822 h2828 h2834 w2835 r2837 r2838 ⊢) <;> first | omega | ((try simp (disch := omega) only [zb] at f2747 r2748 u2749 h2750 u2808 h2809 xq4 h2810 h2812 h2822 h2828 h2834 w2835 r2837 r2838 ⊢) <;> omega)) ?_
                exact sw_some ⟨cq4, fq4, (by (try simp only [zp, zo, zq] at f2747 r2748 u2749 h2750 u2808 h2809 xq4 h2810 h2812 h2822 h2828 h2834 w2835 r2837 r2838 ⊢) <;> (try simp only [zz, Int32.reduceToInt, ne_eq] at f2747 r2748 u2749 h2750 u2808 h2809 xq4 h2810 h2812 h2822 h2828 h2834 w2835 r2837 r2838 ⊢) <;> (try simp (disch := omega) only [zb] at f2747 r2748 u2749 h2750 u2808 h2809 xq4 h2810 h2812 h2822 h2828 h2834 w2835 r2837 r2838 ⊢) <;> first | omega | ((try simp (disch := omega) only [zb] at f2747 r2748 u2749 h2750 u2808 h2809 xq4 h2810 h2812 h2822 h2828 h2834 w2835 r2837 r2838 ⊢) <;> omega))⟩
              · refine sw_ite (fun h2840 => ?_) (fun h2840 => ?_)
                · obtain ⟨q27, eq27, tq27⟩ := ci_ref cq4 t_p0 17 (κ' := 67) rfl
                  refine sw_onS eq27 ?_
                  refine sw_ar (ci_sh cq4 tq27 rfl) ?_
                  have w2841 := (gq4.2.2 _ _ tq7 p1.toNatClampNeg rfl).1
                  have r2843 := ci_rg c0 tq7 p1.toNatClampNeg (lo := 0) (hi := 19) rfl
                  have r2844 := ci_rg cq4 tq7 p1.toNatClampNeg (lo := 0) (hi := 19) rfl
                  refine sw_ib (by (try simp only [zp, zo, zq] at f2747 r2748 u2749 h2750 u2808 h2809 xq4 h2810 h2812 h2822 h2828 h2834 h2840 w2841 r2843 r2844 ⊢) <;> (try simp only [zz, Int32.reduceToInt, ne_eq] at f2747 r2748 u2749 h2750 u2808 h2809 xq4 h2810 h2812 h2822 h2828 h2834 h2840 w2841 r2843 r2844 ⊢) <;> (try simp (disch := omega) only [zb] at f2747 r2748 u2749 h2750 u2808 h2809 xq4 h2810 h2812 h2822 h2828 h2834 h2840 w2841 r2843 r2844 ⊢) <;> first | omega | ((try simp (disch := omega) only [zb] at f2747 r2748 u2749 h2750 u2808 h2809 xq4 h2810 h2812 h2822 h2828 h2834 h2840 w2841 r2843 r2844 ⊢) <;> omega)) ?_
                  obtain ⟨q30, eq30, tq30⟩ := ci_ref cq4 t_p0 27 (κ' := 77) rfl
                  refine sw_onS eq30 ?_
                  refine sw_ar (ci_sh cq4 tq30 rfl) ?_
                  have w2845 := (gq4.2.2 _ _ tq27 ((mm_I q4.2 q7 p1.toNatClampNeg).toNatClampNeg) rfl).1
                  have r2847 := ci_rg c0 tq27 ((mm_I q4.2 q7 p1.toNatClampNeg).toNatClampNeg) (lo := 0) (hi := 8) rfl
                  have r2848 := ci_rg cq4 tq27 ((mm_I q4.2 q7 p1.toNatClampNeg).toNatClampNeg) (lo := 0) (hi := 8) rfl
                  refine sw_ib (by (try simp only [zp, zo, zq] at f2747 r2748 u2749 h2750 u2808 h2809 xq4 h2810 h2812 h2822 h2828 h2834 h2840 w2841 r2843 r2844 w2845 r2847 r2848 ⊢) <;> (try simp only [zz, Int32.reduceToInt, ne_eq] at f2747 r2748 u2749 h2750 u2808 h2809 xq4 h2810 h2812 h2822 h2828 h2834 h2840 w2841 r2843 r2844 w2845 r2847 r2848 ⊢) <;> (try simp (disch := omega) only [zb] at f2747 r2748 u2749 h2750 u2808 h2809 xq4 h2810 h2812 h2822 h2828 h2834 h2840 w2841 r2843 r2844 w2845 r2847 r2848 ⊢) <;> first | omega | ((try simp (disch := omega) only [zb] at f2747 r2748 u2749 h2750 u2808 h2809 xq4 h2810 h2812 h2822 h2828 h2834 h2840 w2841 r2843 r2844 w2845 r2847 r2848 ⊢) <;> omega)) ?_
                  have w2849 := (gq4.2.2 _ _ tq30 ((mm_I q4.2 q27 (mm_I q4.2 q7 p1.toNatClampNeg).toNatClampNeg).toNatClampNeg) rfl).1
                  have f2850 : mm_I σ0 q30 ((mm_I q4.2 q27 (mm_I q4.2 q7 p1.toNatClampNeg).toNatClampNeg).toNatClampNeg) = -1 := hv q30 77 ((mm_I q4.2 q27 (mm_I q4.2 q7 p1.toNatClampNeg).toNatClampNeg).toNatClampNeg) tq30 (Or.inr (by decide)) (by (try simp only [zp, zo, zq] at f2747 r2748 u2749 h2750 u2808 h2809 xq4 h2810 h2812 h2822 h2828 h2834 h2840 w2841 r2843 r2844 w2845 r2847 r2848 w2849 ⊢) <;> (try simp only [zz, Int32.reduceToInt, ne_eq] at f2747 r2748 u2749 h2750 u2808 h2809 xq4 h2810 h2812 h2822 h2828 h2834 h2840 w2841 r2843 r2844 w2845 r2847 r2848 w2849 ⊢) <;> (try simp (disch := omega) only [zb] at f2747 r2748 u2749 h2750 u2808 h2809 xq4 h2810 h2812 h2822 h2828 h2834 h2840 w2841 r2843 r2844 w2845 r2847 r2848 w2849 ⊢) <;> first | omega | ((try simp (disch := omega) only [zb] at f2747 r2748 u2749 h2750 u2808 h2809 xq4 h2810 h2812 h2822 h2828 h2834 h2840 w2841 r2843 r2844 w2845 r2847 r2848 w2849 ⊢) <;> omega))
                  have r2851 := ci_rg c0 tq30 ((mm_I q4.2 q27 (mm_I q4.2 q7 p1.toNatClampNeg).toNatClampNeg).toNatClampNeg) (lo := (-1)) (hi := 19) rfl
                  have r2852 := ci_rg cq4 tq30 ((mm_I q4.2 q27 (mm_I q4.2 q7 p1.toNatClampNeg).toNatClampNeg).toNatClampNeg) (lo := (-1)) (hi := 19) rfl
                  refine sw_ite (fun h2853 => ?_) (fun h2853 => ?_)
                  · exact sw_some ⟨cq4, fq4, (by (try simp only [zp, zo, zq] at f2747 r2748 u2749 h2750 u2808 h2809 xq4 h2810 h2812 h2822 h2828 h2834 h2840 w2841 r2843 r2844 w2845 r2847 r2848 w2849 f2850 r2851 r2852 h2853 ⊢) <;> (try simp only [zz, Int32.reduceToInt, ne_eq] at f2747 r2748 u2749 h2750 u2808 h2809 xq4 h2810 h2812 h2822 h2828 h2834 h2840 w2841 r2843 r2844 w2845 r2847 r2848 w2849 f2850 r2851 r2852 h2853 ⊢) <;> (try simp (disch := omega) only [zb] at f2747 r2748 u2749 h2750 u2808 h2809 xq4 h2810 h2812 h2822 h2828 h2834 h2840 w2841 r2843 r2844 w2845 r2847 r2848 w2849 f2850 r2851 r2852 h2853 ⊢) <;> first | omega | ((try simp (disch := omega) only [zb] at f2747 r2748 u2749 h2750 u2808 h2809 xq4 h2810 h2812 h2822 h2828 h2834 h2840 w2841 r2843 r2844 w2845 r2847 r2848 w2849 f2850 r2851 r2852 h2853 ⊢) <;> omega))⟩
                  · exact sw_some ⟨cq4, fq4, (by (try simp only [zp, zo, zq] at f2747 r2748 u2749 h2750 u2808 h2809 xq4 h2810 h2812 h2822 h2828 h2834 h2840 w2841 r2843 r2844 w2845 r2847 r2848 w2849 f2850 r2851 r2852 h2853 ⊢) <;> (try simp only [zz, Int32.reduceToInt, ne_eq] at f2747 r2748 u2749 h2750 u2808 h2809 xq4 h2810 h2812 h2822 h2828 h2834 h2840 w2841 r2843 r2844 w2845 r2847 r2848 w2849 f2850 r2851 r2852 h2853 ⊢) <;> (try simp (disch := omega) only [zb] at f2747 r2748 u2749 h2750 u2808 h2809 xq4 h2810 h2812 h2822 h2828 h2834 h2840 w2841 r2843 r2844 w2845 r2847 r2848 w2849 f2850 r2851 r2852 h2853 ⊢) <;> first | omega | ((try simp (disch := omega) only [zb] at f2747 r2748 u2749 h2750 u2808 h2809 xq4 h2810 h2812 h2822 h2828 h2834 h2840 w2841 r2843 r2844 w2845 r2847 r2848 w2849 f2850 r2851 r2852 h2853 ⊢) <;> omega))⟩
                · refine sw_ite (fun h2856 => ?_) (fun h2856 => ?_)
                  · obtain ⟨q35, eq35, tq35⟩ := ci_ref cq4 t_p0 21 (κ' := 71) rfl
                    refine sw_onS eq35 ?_
                    refine sw_ar (ci_sh cq4 tq35 rfl) ?_
                    have w2857 := (gq4.2.2 _ _ tq7 p1.toNatClampNeg rfl).1
                    have r2859 := ci_rg c0 tq7 p1.toNatClampNeg (lo := 0) (hi := 19) rfl
                    have r2860 := ci_rg cq4 tq7 p1.toNatClampNeg (lo := 0) (hi := 19) rfl
                    refine sw_ib (by (try simp only [zp, zo, zq] at f2747 r2748 u2749 h2750 u2808 h2809 xq4 h2810 h2812 h2822 h2828 h2834 h2840 h2856 w2857 r2859 r2860 ⊢) <;> (try simp only [zz, Int32.reduceToInt, ne_eq] at f2747 r2748 u2749 h2750 u2808 h2809 xq4 h2810 h2812 h2822 h2828 h2834 h2840 h2856 w2857 r2859 r2860 ⊢) <;> (try simp (disch := omega) only [zb] at f2747 r2748 u2749 h2750 u2808 h2809 xq4 h2810 h2812 h2822 h2828 h2834 h2840 h2856 w2857 r2859 r2860 ⊢) <;> first | omega | ((try simp (disch := omega) only [zb] at f2747 r2748 u2749 h2750 u2808 h2809 xq4 h2810 h2812 h2822 h2828 h2834 h2840 h2856 w2857 r2859 r2860 ⊢) <;> omega)) ?_
                    exact sw_some ⟨cq4, fq4, (by (try simp only [zp, zo, zq] at f2747 r2748 u2749 h2750 u2808 h2809 xq4 h2810 h2812 h2822 h2828 h2834 h2840 h2856 w2857 r2859 r2860 ⊢) <;> (try simp only [zz, Int32.reduceToInt, ne_eq] at f2747 r2748 u2749 h2750 u2808 h2809 xq4 h2810 h2812 h2822 h2828 h2834 h2840 h2856 w2857 r2859 r2860 ⊢) <;> (try simp (disch := omega) only [zb] at f2747 r2748 u2749 h2750 u2808 h2809 xq4 h2810 h2812 h2822 h2828 h2834 h2840 h2856 w2857 r2859 r2860 ⊢) <;> first | omega | ((try simp (disch := omega) only [zb] at f2747 r2748 u2749 h2750 u2808 h2809 xq4 h2810 h2812 h2822 h2828 h2834 h2840 h2856 w2857 r2859 r2860 ⊢) <;> omega))⟩
                  · obtain ⟨q38, eq38, tq38⟩ := ci_ref cq4 t_p0 22 (κ' := 72) rfl
                    refine sw_onS eq38 ?_
                    refine sw_ar (ci_sh cq4 tq38 rfl) ?_
                    have w2862 := (gq4.2.2 _ _ tq7 p1.toNatClampNeg rfl).1
                    have r2864 := ci_rg c0 tq7 p1.toNatClampNeg (lo := 0) (hi := 19) rfl
                    have r2865 := ci_rg cq4 tq7 p1.toNatClampNeg (lo := 0) (hi := 19) rfl
                    refine sw_ib (by (try simp only [zp, zo, zq] at f2747 r2748 u2749 h2750 u2808 h2809 xq4 h2810 h2812 h2822 h2828 h2834 h2840 h2856 w2862 r2864 r2865 ⊢) <;> (try simp only [zz, Int32.reduceToInt, ne_eq] at f2747 r2748 u2749 h2750 u2808 h2809 xq4 h2810 h2812 h2822 h2828 h2834 h2840 h2856 w2862 r2864 r2865 ⊢) <;> (try simp (disch := omega) only [zb] at f2747 r2748 u2749 h2750 u2808 h2809 xq4 h2810 h2812 h2822 h2828 h2834 h2840 h2856 w2862 r2864 r2865 ⊢) <;> first | omega | ((try simp (disch := omega) only [zb] at f2747 r2748 u2749 h2750 u2808 h2809 xq4 h2810 h2812 h2822 h2828 h2834 h2840 h2856 w2862 r2864 r2865 ⊢) <;> omega)) ?_
                    exact sw_some ⟨cq4, fq4, (by (try simp only [zp, zo, zq] at f2747 r2748 u2749 h2750 u2808 h2809 xq4 h2810 h2812 h2822 h2828 h2834 h2840 h2856 w2862 r2864 r2865 ⊢) <;> (try simp only [zz, Int32.reduceToInt, ne_eq] at f2747 r2748 u2749 h2750 u2808 h2809 xq4 h2810 h2812 h2822 h2828 h2834 h2840 h2856 w2862 r2864 r2865 ⊢) <;> (try simp (disch := omega) only [zb] at f2747 r2748 u2749 h2750 u2808 h2809 xq4 h2810 h2812 h2822 h2828 h2834 h2840 h2856 w2862 r2864 r2865 ⊢) <;> first | omega | ((try simp (disch := omega) only [zb] at f2747 r2748 u2749 h2750 u2808 h2809 xq4 h2810 h2812 h2822 h2828 h2834 h2840 h2856 w2862 r2864 r2865 ⊢) <;> omega))⟩
    · unfold fX9_page_30
      refine sw_sh (ci_sh c0 t_p0 rfl) ?_
      refine sw_on (vX9_goes c0 t_p0 (by (try simp only [zp, zo, zq] at f2747 r2748 u2749 h2750 u2808 h2809 ⊢) <;> (try simp only [zz, Int32.reduceToInt, ne_eq] at f2747 r2748 u2749 h2750 u2808 h2809 ⊢) <;> (try simp (disch := omega) only [zb] at f2747 r2748 u2749 h2750 u2808 h2809 ⊢) <;> first | omega | ((try simp (disch := omega) only [zb] at f2747 r2748 u2749 h2750 u2808 h2809 ⊢) <;> omega)) ) ?_
      intro q4 hqq4
      obtain ⟨cq4, gq4, xq4⟩ := hqq4
      have fq4 := fr_trans f0 gq4 rfl
      refine sw_ite (fun h2867 => ?_) (fun h2867 => ?_)
      · exact sw_some ⟨cq4, fq4, (by (try simp only [zp, zo, zq] at f2747 r2748 u2749 h2750 u2808 h2809 xq4 h2867 ⊢) <;> (try simp only [zz, Int32.reduceToInt, ne_eq] at f2747 r2748 u2749 h2750 u2808 h2809 xq4 h2867 ⊢) <;> (try simp (disch := omega) only [zb] at f2747 r2748 u2749 h2750 u2808 h2809 xq4 h2867 ⊢) <;> first | omega | ((try simp (disch := omega) only [zb] at f2747 r2748 u2749 h2750 u2808 h2809 xq4 h2867 ⊢) <;> omega))⟩
      · refine sw_sh (ci_sh cq4 t_p0 rfl) ?_
        obtain ⟨q7, eq7, tq7⟩ := ci_ref cq4 t_p0 15 (κ' := 65) rfl
        refine sw_onS eq7 ?_
        refine sw_ar (ci_sh cq4 tq7 rfl) ?_
        refine sw_ib (by (try simp only [zp, zo, zq] at f2747 r2748 u2749 h2750 u2808 h2809 xq4 h2867 ⊢) <;> (try simp only [zz, Int32.reduceToInt, ne_eq] at f2747 r2748 u2749 h2750 u2808 h2809 xq4 h2867 ⊢) <;> (try simp (disch := omega) only [zb] at f2747 r2748 u2749 h2750 u2808 h2809 xq4 h2867 ⊢) <;> first | omega | ((try simp (disch := omega) only [zb] at f2747 r2748 u2749 h2750 u2808 h2809 xq4 h2867 ⊢) <;> omega)) ?_
        refine sw_ite (fun h2869 => ?_) (fun h2869 => ?_)
        · obtain ⟨q11, eq11, tq11⟩ := ci_ref cq4 t_p0 17 (κ' := 67) rfl
          refine sw_onS eq11 ?_
          refine sw_ar (ci_sh cq4 tq11 rfl) ?_
          have w2870 := (gq4.2.2 _ _ tq7 p1.toNatClampNeg rfl).1
          have r2872 := ci_rg c0 tq7 p1.toNatClampNeg (lo := 0) (hi := 19) rfl
          have r2873 := ci_rg cq4 tq7 p1.toNatClampNeg (lo := 0) (hi := 19) rfl
          refine sw_ib (by (try simp only [zp, zo, zq] at f2747 r2748 u2749 h2750 u2808 h2809 xq4 h2867 h2869 w2870 r2872 r2873 ⊢) <;> (try simp only [zz, Int32.reduceToInt, ne_eq] at f2747 r2748 u2749 h2750 u2808 h2809 xq4 h2867 h2869 w2870 r2872 r2873 ⊢) <;> (try simp (disch := omega) only [zb] at f2747 r2748 u2749 h2750 u2808 h2809 xq4 h2867 h2869 w2870 r2872 r2873 ⊢) <;> first | omega | ((try simp (disch := omega) only [zb] at f2747 r2748 u2749 h2750 u2808 h2809 xq4 h2867 h2869 w2870 r2872 r2873 ⊢) <;> omega)) ?_
          have w2874 := (gq4.2.2 _ _ tq11 ((mm_I q4.2 q7 p1.toNatClampNeg).toNatClampNeg) rfl).1
          have r2876 := ci_rg c0 tq11 ((mm_I q4.2 q7 p1.toNatClampNeg).toNatClampNeg) (lo := 0) (hi := 8) rfl
          have r2877 := ci_rg cq4 tq11 ((mm_I q4.2 q7 p1.toNatClampNeg).toNatClampNeg) (lo := 0) (hi := 8) rfl
          exact sw_some ⟨cq4, fq4, (by (try simp only [zp, zo, zq] at f2747 r2748 u2749 h2750 u2808 h2809 xq4 h2867 h2869 w2870 r2872 r2873 w2874 r2876 r2877 ⊢) <;> (try simp only [zz, Int32.reduceToInt, ne_eq] at f2747 r2748 u2749 h2750 u2808 h2809 xq4 h2867 h2869 w2870 r2872 r2873 w2874 r2876 r2877 ⊢) <;> (try simp (disch := omega) only [zb] at f2747 r2748 u2749 h2750 u2808 h2809 xq4 h2867 h2869 w2870 r2872 r2873 w2874 r2876 r2877 ⊢) <;> first | omega | ((try simp (disch := omega) only [zb] at f2747 r2748 u2749 h2750 u2808 h2809 xq4 h2867 h2869 w2870 r2872 r2873 w2874 r2876 r2877 ⊢) <;> omega))⟩
        · refine sw_ite (fun h2879 => ?_) (fun h2879 => ?_)
          · obtain ⟨q15, eq15, tq15⟩ := ci_ref cq4 t_p0 18 (κ' := 68) rfl
            refine sw_onS eq15 ?_
            refine sw_ar (ci_sh cq4 tq15 rfl) ?_
            have w2880 := (gq4.2.2 _ _ tq7 p1.toNatClampNeg rfl).1
            have r2882 := ci_rg c0 tq7 p1.toNatClampNeg (lo := 0) (hi := 19) rfl
            have r2883 := ci_rg cq4 tq7 p1.toNatClampNeg (lo := 0) (hi := 19) rfl
            refine sw_ib (by (try simp only [zp, zo, zq] at f2747 r2748 u2749 h2750 u2808 h2809 xq4 h2867 h2869 h2879 w2880 r2882 r2883 ⊢) <;> (try simp only [zz, Int32.reduceToInt, ne_eq] at f2747 r2748 u2749 h2750 u2808 h2809 xq4 h2867 h2869 h2879 w2880 r2882 r2883 ⊢) <;> (try simp (disch := omega) only [zb] at f2747 r2748 u2749 h2750 u2808 h2809 xq4 h2867 h2869 h2879 w2880 r2882 r2883 ⊢) <;> first | omega | ((try simp (disch := omega) only [zb] at f2747 r2748 u2749 h2750 u2808 h2809 xq4 h2867 h2869 h2879 w2880 r2882 r2883 ⊢) <;> omega)) ?_
            exact sw_some ⟨cq4, fq4, (by (try simp only [zp, zo, zq] at f2747 r2748 u2749 h2750 u2808 h2809 xq4 h2867 h2869 h2879 w2880 r2882 r2883 ⊢) <;> (try simp only [zz, Int32.reduceToInt, ne_eq] at f2747 r2748 u2749 h2750 u2808 h2809 xq4 h2867 h2869 h2879 w2880 r2882 r2883 ⊢) <;> (try simp (disch := omega) only [zb] at f2747 r2748 u2749 h2750 u2808 h2809 xq4 h2867 h2869 h2879 w2880 r2882 r2883 ⊢) <;> first | omega | ((try simp (disch := omega) only [zb] at f2747 r2748 u2749 h2750 u2808 h2809 xq4 h2867 h2869 h2879 w2880 r2882 r2883 ⊢) <;> omega))⟩
          · refine sw_ite (fun h2885 => ?_) (fun h2885 => ?_)
            · obtain ⟨q19, eq19, tq19⟩ := ci_ref cq4 t_p0 19 (κ' := 69) rfl
              refine sw_onS eq19 ?_
              refine sw_ar (ci_sh cq4 tq19 rfl) ?_
              have w2886 := (gq4.2.2 _ _ tq7 p1.toNatClampNeg rfl).1
              have r2888 := ci_rg c0 tq7 p1.toNatClampNeg (lo := 0) (hi := 19) rfl
              have r2889 := ci_rg cq4 tq7 p1.toNatClampNeg (lo := 0) (hi := 19) rfl
              refine sw_ib (by (try simp only [zp, zo, zq] at f2747 r2748 u2749 h2750 u2808 h2809 xq4 h2867 h2869 h2879 h2885 w2886 r2888 r2889 ⊢) <;> (try simp only [zz, Int32.reduceToInt, ne_eq] at f2747 r2748 u2749 h2750 u2808 h2809 xq4 h2867 h2869 h2879 h2885 w2886 r2888 r2889 ⊢) <;> (try simp (disch := omega) only [zb] at f2747 r2748 u2749 h2750 u2808 h2809 xq4 h2867 h2869 h2879 h2885 w2886 r2888 r2889 ⊢) <;> first | omega | ((try simp (disch := omega) only [zb] at f2747 r2748 u2749 h2750 u2808 h2809 xq4 h2867 h2869 h2879 h2885 w2886 r2888 r2889 ⊢) <;> omega)) ?_
              exact sw_some ⟨cq4, fq4, (by (try simp only [zp, zo, zq] at f2747 r2748 u2749 h2750 u2808 h2809 xq4 h2867 h2869 h2879 h2885 w2886 r2888 r2889 ⊢) <;> (try simp only [zz, Int32.reduceToInt, ne_eq] at f2747 r2748 u2749 h2750 u2808 h2809 xq4 h2867 h2869 h2879 h2885 w2886 r2888 r2889 ⊢) <;> (try simp (disch := omega) only [zb] at f2747 r2748 u2749 h2750 u2808 h2809 xq4 h2867 h2869 h2879 h2885 w2886 r2888 r2889 ⊢) <;> first | omega | ((try simp (disch := omega) only [zb] at f2747 r2748 u2749 h2750 u2808 h2809 xq4 h2867 h2869 h2879 h2885 w2886 r2888 r2889 ⊢) <;> omega))⟩
            · refine sw_ite (fun h2891 => ?_) (fun h2891 => ?_)
              · obtain ⟨q23, eq23, tq23⟩ := ci_ref cq4 t_p0 20 (κ' := 70) rfl
                refine sw_onS eq23 ?_
                refine sw_ar (ci_sh cq4 tq23 rfl) ?_
                have w2892 := (gq4.2.2 _ _ tq7 p1.toNatClampNeg rfl).1
                have r2894 := ci_rg c0 tq7 p1.toNatClampNeg (lo := 0) (hi := 19) rfl
                have r2895 := ci_rg cq4 tq7 p1.toNatClampNeg (lo := 0) (hi := 19) rfl
                refine sw_ib (by (try simp only [zp, zo, zq] at f2747 r2748 u2749 h2750 u2808 h2809 xq4 h2867 h2869 h2879 h2885 h2891 w2892 r2894 r2895 ⊢) <;> (try simp only [zz, Int32.reduceToInt, ne_eq] at f2747 r2748 u2749 h2750 u2808 h2809 xq4 h2867 h2869 h2879 h2885 h2891 w2892 r2894 r2895 ⊢) <;> (try simp (disch := omega) only [zb] at f2747 r2748 u2749 h2750 u2808 h2809 xq4 h2867 h2869 h2879 h2885 h2891 w2892 r2894 r2895 ⊢) <;> first | omega | ((try simp (disch := omega) only [zb] at f2747 r2748 u2749 h2750 u2808 h2809 xq4 h2867 h2869 h2879 h2885 h2891 w2892 r2894 r2895 ⊢) <;> omega)) ?_
                exact sw_some ⟨cq4, fq4, (by (try simp only [zp, zo, zq] at f2747 r2748 u2749 h2750 u2808 h2809 xq4 h2867 h2869 h2879 h2885 h2891 w2892 r2894 r2895 ⊢) <;> (try simp only [zz, Int32.reduceToInt, ne_eq] at f2747 r2748 u2749 h2750 u2808 h2809 xq4 h2867 h2869 h2879 h2885 h2891 w2892 r2894 r2895 ⊢) <;> (try simp (disch := omega) only [zb] at f2747 r2748 u2749 h2750 u2808 h2809 xq4 h2867 h2869 h2879 h2885 h2891 w2892 r2894 r2895 ⊢) <;> first | omega | ((try simp (disch := omega) only [zb] at f2747 r2748 u2749 h2750 u2808 h2809 xq4 h2867 h2869 h2879 h2885 h2891 w2892 r2894 r2895 ⊢) <;> omega))⟩
              · refine sw_ite (fun h2897 => ?_) (fun h2897 => ?_)
                · obtain ⟨q27, eq27, tq27⟩ := ci_ref cq4 t_p0 17 (κ' := 67) rfl
                  refine sw_onS eq27 ?_
                  refine sw_ar (ci_sh cq4 tq27 rfl) ?_
                  have w2898 := (gq4.2.2 _ _ tq7 p1.toNatClampNeg rfl).1
                  have r2900 := ci_rg c0 tq7 p1.toNatClampNeg (lo := 0) (hi := 19) rfl
                  have r2901 := ci_rg cq4 tq7 p1.toNatClampNeg (lo := 0) (hi := 19) rfl
                  refine sw_ib (by (try simp only [zp, zo, zq] at f2747 r2748 u2749 h2750 u2808 h2809 xq4 h2867 h2869 h2879 h2885 h2891 h2897 w2898 r2900 r2901 ⊢) <;> (try simp only [zz, Int32.reduceToInt, ne_eq] at f2747 r2748 u2749 h2750 u2808 h2809 xq4 h2867 h2869 h2879 h2885 h2891 h2897 w2898 r2900 r2901 ⊢) <;> (try simp (disch := omega) only [zb] at f2747 r2748 u2749 h2750 u2808 h2809 xq4 h2867 h2869 h2879 h2885 h2891 h2897 w2898 r2900 r2901 ⊢) <;> first | omega | ((try simp (disch := omega) only [zb] at f2747 r2748 u2749 h2750 u2808 h2809 xq4 h2867 h2869 h2879 h2885 h2891 h2897 w2898 r2900 r2901 ⊢) <;> omega)) ?_
                  obtain ⟨q30, eq30, tq30⟩ := ci_ref cq4 t_p0 27 (κ' := 77) rfl
                  refine sw_onS eq30 ?_
                  refine sw_ar (ci_sh cq4 tq30 rfl) ?_
                  have w2902 := (gq4.2.2 _ _ tq27 ((mm_I q4.2 q7 p1.toNatClampNeg).toNatClampNeg) rfl).1
                  have r2904 := ci_rg c0 tq27 ((mm_I q4.2 q7 p1.toNatClampNeg).toNatClampNeg) (lo := 0) (hi := 8) rfl
                  have r2905 := ci_rg cq4 tq27 ((mm_I q4.2 q7 p1.toNatClampNeg).toNatClampNeg) (lo := 0) (hi := 8) rfl
                  refine sw_ib (by (try simp only [zp, zo, zq] at f2747 r2748 u2749 h2750 u2808 h2809 xq4 h2867 h2869 h2879 h2885 h2891 h2897 w2898 r2900 r2901 w2902 r2904 r2905 ⊢) <;> (try simp only [zz, Int32.reduceToInt, ne_eq] at f2747 r2748 u2749 h2750 u2808 h2809 xq4 h2867 h2869 h2879 h2885 h2891 h2897 w2898 r2900 r2901 w2902 r2904 r2905 ⊢) <;> (try simp (disch := omega) only [zb] at f2747 r2748 u2749 h2750 u2808 h2809 xq4 h2867 h2869 h2879 h2885 h2891 h2897 w2898 r2900 r2901 w2902 r2904 r2905 ⊢) <;> first | omega | ((try simp (disch := omega) only [zb] at f2747 r2748 u2749 h2750 u2808 h2809 xq4 h2867 h2869 h2879 h2885 h2891 h2897 w2898 r2900 r2901 w2902 r2904 r2905 ⊢) <;> omega)) ?_
                  have w2906 := (gq4.2.2 _ _ tq30 ((mm_I q4.2 q27 (mm_I q4.2 q7 p1.toNatClampNeg).toNatClampNeg).toNatClampNeg) rfl).1
                  have f2907 : mm_I σ0 q30 ((mm_I q4.2 q27 (mm_I q4.2 q7 p1.toNatClampNeg).toNatClampNeg).toNatClampNeg) = -1 := hv q30 77 ((mm_I q4.2 q27 (mm_I q4.2 q7 p1.toNatClampNeg).toNatClampNeg).toNatClampNeg) tq30 (Or.inr (by decide)) (by (try simp only [zp, zo, zq] at f2747 r2748 u2749 h2750 u2808 h2809 xq4 h2867 h2869 h2879 h2885 h2891 h2897 w2898 r2900 r2901 w2902 r2904 r2905 w2906 ⊢) <;> (try simp only [zz, Int32.reduceToInt, ne_eq] at f2747 r2748 u2749 h2750 u2808 h2809 xq4 h2867 h2869 h2879 h2885 h2891 h2897 w2898 r2900 r2901 w2902 r2904 r2905 w2906 ⊢) <;> (try simp (disch := omega) only [zb] at f2747 r2748 u2749 h2750 u2808 h2809 xq4 h2867 h2869 h2879 h2885 h2891 h2897 w2898 r2900 r2901 w2902 r2904 r2905 w2906 ⊢) <;> first | omega | ((try simp (disch := omega) only [zb] at f2747 r2748 u2749 h2750 u2808 h2809 xq4 h2867 h2869 h2879 h2885 h2891 h2897 w2898 r2900 r2901 w2902 r2904 r2905 w2906 ⊢) <;> omega))
                  have r2908 := ci_rg c0 tq30 ((mm_I q4.2 q27 (mm_I q4.2 q7 p1.toNatClampNeg).toNatClampNeg).toNatClampNeg) (lo := (-1)) (hi := 19) rfl
                  have r2909 := ci_rg cq4 tq30 ((mm_I q4.2 q27 (mm_I q4.2 q7 p1.toNatClampNeg).toNatClampNeg).toNatClampNeg) (lo := (-1)) (hi := 19) rfl
                  refine sw_ite (fun h2910 => ?_) (fun h2910 => ?_)
                  · exact sw_some ⟨cq4, fq4, (by (try simp only [zp, zo, zq] at f2747 r2748 u2749 h2750 u2808 h2809 xq4 h2867 h2869 h2879 h2885 h2891 h2897 w2898 r2900 r2901 w2902 r2904 r2905 w2906 f2907 r2908 r2909 h2910 ⊢) <;> (try simp only [zz, Int32.reduceToInt, ne_eq] at f2747 r2748 u2749 h2750 u2808 h2809 xq4 h2867 h2869 h2879 h2885 h2891 h2897 w2898 r2900 r2901 w2902 r2904 r2905 w2906 f2907 r2908 r2909 h2910 ⊢) <;> (try simp (disch := omega) only [zb] at f2747 r2748 u2749 h2750 u2808 h2809 xq4 h2867 h2869 h2879 h2885 h2891 h2897 w2898 r2900 r2901 w2902 r2904 r2905 w2906 f2907 r2908 r2909 h2910 ⊢) <;> first | omega | ((try simp (disch := omega) only [zb] at f2747 r2748 u2749 h2750 u2808 h2809 xq4 h2867 h2869 h2879 h2885 h2891 h2897 w2898 r2900 r2901 w2902 r2904 r2905 w2906 f2907 r2908 r2909 h2910 ⊢) <;> omega))⟩
                  · exact sw_some ⟨cq4, fq4, (by (try simp only [zp, zo, zq] at f2747 r2748 u2749 h2750 u2808 h2809 xq4 h2867 h2869 h2879 h2885 h2891 h2897 w2898 r2900 r2901 w2902 r2904 r2905 w2906 f2907 r2908 r2909 h2910 ⊢) <;> (try simp only [zz, Int32.reduceToInt, ne_eq] at f2747 r2748 u2749 h2750 u2808 h2809 xq4 h2867 h2869 h2879 h2885 h2891 h2897 w2898 r2900 r2901 w2902 r2904 r2905 w2906 f2907 r2908 r2909 h2910 ⊢) <;> (try simp (disch := omega) only [zb] at f2747 r2748 u2749 h2750 u2808 h2809 xq4 h2867 h2869 h2879 h2885 h2891 h2897 w2898 r2900 r2901 w2902 r2904 r2905 w2906 f2907 r2908 r2909 h2910 ⊢) <;> first | omega | ((try simp (disch := omega) only [zb] at f2747 r2748 u2749 h2750 u2808 h2809 xq4 h2867 h2869 h2879 h2885 h2891 h2897 w2898 r2900 r2901 w2902 r2904 r2905 w2906 f2907 r2908 r2909 h2910 ⊢) <;> omega))⟩
                · refine sw_ite (fun h2913 => ?_) (fun h2913 => ?_)
                  · obtain ⟨q35, eq35, tq35⟩ := ci_ref cq4 t_p0 21 (κ' := 71) rfl
                    refine sw_onS eq35 ?_
                    refine sw_ar (ci_sh cq4 tq35 rfl) ?_
                    have w2914 := (gq4.2.2 _ _ tq7 p1.toNatClampNeg rfl).1
                    have r2916 := ci_rg c0 tq7 p1.toNatClampNeg (lo := 0) (hi := 19) rfl
                    have r2917 := ci_rg cq4 tq7 p1.toNatClampNeg (lo := 0) (hi := 19) rfl
                    refine sw_ib (by (try simp only [zp, zo, zq] at f2747 r2748 u2749 h2750 u2808 h2809 xq4 h2867 h2869 h2879 h2885 h2891 h2897 h2913 w2914 r2916 r2917 ⊢) <;> (try simp only [zz, Int32.reduceToInt, ne_eq] at f2747 r2748 u2749 h2750 u2808 h2809 xq4 h2867 h2869 h2879 h2885 h2891 h2897 h2913 w2914 r2916 r2917 ⊢) <;> (try simp (disch := omega) only [zb] at f2747 r2748 u2749 h2750 u2808 h2809 xq4 h2867 h2869 h2879 h2885 h2891 h2897 h2913 w2914 r2916 r2917 ⊢) <;> first | omega | ((try simp (disch := omega) only [zb] at f2747 r2748 u2749 h2750 u2808 h2809 xq4 h2867 h2869 h2879 h2885 h2891 h2897 h2913 w2914 r2916 r2917 ⊢) <;> omega)) ?_
                    exact sw_some ⟨cq4, fq4, (by (try simp only [zp, zo, zq] at f2747 r2748 u2749 h2750 u2808 h2809 xq4 h2867 h2869 h2879 h2885 h2891 h2897 h2913 w2914 r2916 r2917 ⊢) <;> (try simp only [zz, Int32.reduceToInt, ne_eq] at f2747 r2748 u2749 h2750 u2808 h2809 xq4 h2867 h2869 h2879 h2885 h2891 h2897 h2913 w2914 r2916 r2917 ⊢) <;> (try simp (disch := omega) only [zb] at f2747 r2748 u2749 h2750 u2808 h2809 xq4 h2867 h2869 h2879 h2885 h2891 h2897 h2913 w2914 r2916 r2917 ⊢) <;> first | omega | ((try simp (disch := omega) only [zb] at f2747 r2748 u2749 h2750 u2808 h2809 xq4 h2867 h2869 h2879 h2885 h2891 h2897 h2913 w2914 r2916 r2917 ⊢) <;> omega))⟩
                  · obtain ⟨q38, eq38, tq38⟩ := ci_ref cq4 t_p0 22 (κ' := 72) rfl
                    refine sw_onS eq38 ?_
                    refine sw_ar (ci_sh cq4 tq38 rfl) ?_
                    have w2919 := (gq4.2.2 _ _ tq7 p1.toNatClampNeg rfl).1
                    have r2921 := ci_rg c0 tq7 p1.toNatClampNeg (lo := 0) (hi := 19) rfl
                    have r2922 := ci_rg cq4 tq7 p1.toNatClampNeg (lo := 0) (hi := 19) rfl
                    refine sw_ib (by (try simp only [zp, zo, zq] at f2747 r2748 u2749 h2750 u2808 h2809 xq4 h2867 h2869 h2879 h2885 h2891 h2897 h2913 w2919 r2921 r2922 ⊢) <;> (try simp only [zz, Int32.reduceToInt, ne_eq] at f2747 r2748 u2749 h2750 u2808 h2809 xq4 h2867 h2869 h2879 h2885 h2891 h2897 h2913 w2919 r2921 r2922 ⊢) <;> (try simp (disch := omega) only [zb] at f2747 r2748 u2749 h2750 u2808 h2809 xq4 h2867 h2869 h2879 h2885 h2891 h2897 h2913 w2919 r2921 r2922 ⊢) <;> first | omega | ((try simp (disch := omega) only [zb] at f2747 r2748 u2749 h2750 u2808 h2809 xq4 h2867 h2869 h2879 h2885 h2891 h2897 h2913 w2919 r2921 r2922 ⊢) <;> omega)) ?_
                    exact sw_some ⟨cq4, fq4, (by (try simp only [zp, zo, zq] at f2747 r2748 u2749 h2750 u2808 h2809 xq4 h2867 h2869 h2879 h2885 h2891 h2897 h2913 w2919 r2921 r2922 ⊢) <;> (try simp only [zz, Int32.reduceToInt, ne_eq] at f2747 r2748 u2749 h2750 u2808 h2809 xq4 h2867 h2869 h2879 h2885 h2891 h2897 h2913 w2919 r2921 r2922 ⊢) <;> (try simp (disch := omega) only [zb] at f2747 r2748 u2749 h2750 u2808 h2809 xq4 h2867 h2869 h2879 h2885 h2891 h2897 h2913 w2919 r2921 r2922 ⊢) <;> first | omega | ((try simp (disch := omega) only [zb] at f2747 r2748 u2749 h2750 u2808 h2809 xq4 h2867 h2869 h2879 h2885 h2891 h2897 h2913 w2919 r2921 r2922 ⊢) <;> omega))⟩
abbrev VX8_sign : List Nat := []
set_option maxHeartbeats 4000000 in
set_option maxRecDepth 10000 in
theorem vX8_sign {T : Nat → Option Nat} {σ0 : mm_M} {p0 : Nat} {p1 : Int32} {p2 : Int32} {p3 : Int32} (c0 : sCI T σ0) (hv : sFV T σ0) (t_p0 : T p0 = some 8) : sw (fX8_sign p0 p1 p2 p3 σ0) (fun R => sCI T R.2 ∧ sFR T VX8_sign σ0 R.2 ∧ (oi R.1 = -9999999999)) := by
  have f0 : sFR T VX8_sign σ0 σ0 := fr_refl
  unfold fX8_sign
  refine sw_sh (ci_sh c0 t_p0 rfl) ?_
  obtain ⟨q2, eq2, tq2⟩ := ci_ref c0 t_p0 7 (κ' := 6) rfl
  refine sw_onS eq2 ?_
  refine sw_sh (ci_sh c0 tq2 rfl) ?_
  refine sw_on (vX6_pageAt c0 hv tq2  ) ?_
  intro q4 hqq4
  obtain ⟨eq4, xq4⟩ := hqq4
  (try rw [eq4])
  refine sw_nu (fun eq5 => ?_) (fun q5 eq5 => ?_)
  · exact sw_some ⟨c0, f0, (by (try simp only [zp, zo, zq] at xq4 ⊢) <;> (try simp only [zz, Int32.reduceToInt, ne_eq] at xq4 ⊢) <;> (try simp (disch := omega) only [zb] at xq4 ⊢) <;> first | omega | ((try simp (disch := omega) only [zb] at xq4 ⊢) <;> omega))⟩
  · have zq5 := congrArg onI eq5
    exfalso; exact (by (try simp only [zp, zo, zq] at xq4 zq5 ⊢) <;> (try simp only [zz, Int32.reduceToInt, ne_eq] at xq4 zq5 ⊢) <;> (try simp (disch := omega) only [zb] at xq4 zq5 ⊢) <;> first | omega | ((try simp (disch := omega) only [zb] at xq4 zq5 ⊢) <;> omega))
abbrev VX9_sign : List Nat := [900]
set_option maxHeartbeats 4000000 in
set_option maxRecDepth 10000 in
theorem vX9_sign {T : Nat → Option Nat} {σ0 : mm_M} {p0 : Nat} {p1 : Int32} {p2 : Int32} {p3 : Int32} (c0 : sCI T σ0) (hv : sFV9 T σ0) (t_p0 : T p0 = some 9) : sw (fX9_sign p0 p1 p2 p3 σ0) (fun R => sCI T R.2 ∧ sFR T VX9_sign σ0 R.2 ∧ ((mm_I R.2 p0 0).toInt = 1)) := by
  have f0 : sFR T VX9_sign σ0 σ0 := fr_refl
  unfold fX9_sign
  refine sw_sh (ci_sh c0 t_p0 rfl) ?_
  have f2924 : mm_I σ0 p0 14 = 0 := hv p0 9 14 t_p0 (Or.inl rfl)
  have r2925 := ci_rg c0 t_p0 14 (lo := 0) (hi := 20) rfl
  have u2926 := su_in p1 0 ((mm_I σ0 p0 14) - 1)
  refine sw_ite (fun h2927 => ?_) (fun h2927 => ?_)
  · unfold fX9_sign_39
    unfold fX9_sign_40
    refine sw_sh (ci_sh c0 t_p0 rfl) ?_
    refine sw_on (vX9_goes c0 t_p0 (by (try simp only [zp, zo, zq] at f2924 r2925 u2926 h2927 ⊢) <;> (try simp only [zz, Int32.reduceToInt, ne_eq] at f2924 r2925 u2926 h2927 ⊢) <;> (try simp (disch := omega) only [zb] at f2924 r2925 u2926 h2927 ⊢) <;> first | omega | ((try simp (disch := omega) only [zb] at f2924 r2925 u2926 h2927 ⊢) <;> omega)) ) ?_
    intro q4 hqq4
    obtain ⟨cq4, gq4, xq4⟩ := hqq4
    have fq4 := fr_trans f0 gq4 rfl
    refine sw_ite (fun h2928 => ?_) (fun h2928 => ?_)
    · exact sw_some ⟨cq4, fq4, (by (try simp only [zp, zo, zq] at f2924 r2925 u2926 h2927 xq4 h2928 ⊢) <;> (try simp only [zz, Int32.reduceToInt, ne_eq] at f2924 r2925 u2926 h2927 xq4 h2928 ⊢) <;> (try simp (disch := omega) only [zb] at f2924 r2925 u2926 h2927 xq4 h2928 ⊢) <;> first | omega | ((try simp (disch := omega) only [zb] at f2924 r2925 u2926 h2927 xq4 h2928 ⊢) <;> omega))⟩
    · refine sw_sh (ci_sh cq4 t_p0 rfl) ?_
      obtain ⟨q7, eq7, tq7⟩ := ci_ref cq4 t_p0 15 (κ' := 65) rfl
      refine sw_onS eq7 ?_
      refine sw_ar (ci_sh cq4 tq7 rfl) ?_
      refine sw_ib (by (try simp only [zp, zo, zq] at f2924 r2925 u2926 h2927 xq4 h2928 ⊢) <;> (try simp only [zz, Int32.reduceToInt, ne_eq] at f2924 r2925 u2926 h2927 xq4 h2928 ⊢) <;> (try simp (disch := omega) only [zb] at f2924 r2925 u2926 h2927 xq4 h2928 ⊢) <;> first | omega | ((try simp (disch := omega) only [zb] at f2924 r2925 u2926 h2927 xq4 h2928 ⊢) <;> omega)) ?_
      obtain ⟨q10, eq10, tq10⟩ := ci_ref cq4 t_p0 24 (κ' := 74) rfl
      refine sw_onS eq10 ?_
      refine sw_ar (ci_sh cq4 tq10 rfl) ?_
      have w2930 := (gq4.2.2 _ _ tq7 p1.toNatClampNeg rfl).1
      have r2932 := ci_rg c0 tq7 p1.toNatClampNeg (lo := 0) (hi := 19) rfl
      have r2933 := ci_rg cq4 tq7 p1.toNatClampNeg (lo := 0) (hi := 19) rfl
      refine sw_ib (by (try simp only [zp, zo, zq] at f2924 r2925 u2926 h2927 xq4 h2928 w2930 r2932 r2933 ⊢) <;> (try simp only [zz, Int32.reduceToInt, ne_eq] at f2924 r2925 u2926 h2927 xq4 h2928 w2930 r2932 r2933 ⊢) <;> (try simp (disch := omega) only [zb] at f2924 r2925 u2926 h2927 xq4 h2928 w2930 r2932 r2933 ⊢) <;> first | omega | ((try simp (disch := omega) only [zb] at f2924 r2925 u2926 h2927 xq4 h2928 w2930 r2932 r2933 ⊢) <;> omega)) ?_
      refine sw_ite (fun h2934 => ?_) (fun h2934 => ?_)
      · exact sw_some ⟨cq4, fq4, (by (try simp only [zp, zo, zq] at f2924 r2925 u2926 h2927 xq4 h2928 w2930 r2932 r2933 h2934 ⊢) <;> (try simp only [zz, Int32.reduceToInt, ne_eq] at f2924 r2925 u2926 h2927 xq4 h2928 w2930 r2932 r2933 h2934 ⊢) <;> (try simp (disch := omega) only [zb] at f2924 r2925 u2926 h2927 xq4 h2928 w2930 r2932 r2933 h2934 ⊢) <;> first | omega | ((try simp (disch := omega) only [zb] at f2924 r2925 u2926 h2927 xq4 h2928 w2930 r2932 r2933 h2934 ⊢) <;> omega))⟩
      · obtain ⟨q14, eq14, tq14⟩ := ci_ref cq4 t_p0 23 (κ' := 73) rfl
        refine sw_onS eq14 ?_
        refine sw_ar (ci_sh cq4 tq14 rfl) ?_
        refine sw_ib (by (try simp only [zp, zo, zq] at f2924 r2925 u2926 h2927 xq4 h2928 w2930 r2932 r2933 h2934 ⊢) <;> (try simp only [zz, Int32.reduceToInt, ne_eq] at f2924 r2925 u2926 h2927 xq4 h2928 w2930 r2932 r2933 h2934 ⊢) <;> (try simp (disch := omega) only [zb] at f2924 r2925 u2926 h2927 xq4 h2928 w2930 r2932 r2933 h2934 ⊢) <;> first | omega | ((try simp (disch := omega) only [zb] at f2924 r2925 u2926 h2927 xq4 h2928 w2930 r2932 r2933 h2934 ⊢) <;> omega)) ?_
        exact sw_some ⟨cq4, fq4, (by (try simp only [zp, zo, zq] at f2924 r2925 u2926 h2927 xq4 h2928 w2930 r2932 r2933 h2934 ⊢) <;> (try simp only [zz, Int32.reduceToInt, ne_eq] at f2924 r2925 u2926 h2927 xq4 h2928 w2930 r2932 r2933 h2934 ⊢) <;> (try simp (disch := omega) only [zb] at f2924 r2925 u2926 h2927 xq4 h2928 w2930 r2932 r2933 h2934 ⊢) <;> first | omega | ((try simp (disch := omega) only [zb] at f2924 r2925 u2926 h2927 xq4 h2928 w2930 r2932 r2933 h2934 ⊢) <;> omega))⟩
  · have u2937 := su_in p2 0 24
    refine sw_ite (fun h2938 => ?_) (fun h2938 => ?_)
    · unfold fX9_sign_39
      unfold fX9_sign_40
      refine sw_sh (ci_sh c0 t_p0 rfl) ?_
      refine sw_on (vX9_goes c0 t_p0 (by (try simp only [zp, zo, zq] at f2924 r2925 u2926 h2927 u2937 h2938 ⊢) <;> (try simp only [zz, Int32.reduceToInt, ne_eq] at f2924 r2925 u2926 h2927 u2937 h2938 ⊢) <;> (try simp (disch := omega) only [zb] at f2924 r2925 u2926 h2927 u2937 h2938 ⊢) <;> first | omega | ((try simp (disch := omega) only [zb] at f2924 r2925 u2926 h2927 u2937 h2938 ⊢) <;> omega)) ) ?_
      intro q4 hqq4
      obtain ⟨cq4, gq4, xq4⟩ := hqq4
      have fq4 := fr_trans f0 gq4 rfl
      refine sw_ite (fun h2939 => ?_) (fun h2939 => ?_)
      · exact sw_some ⟨cq4, fq4, (by (try simp only [zp, zo, zq] at f2924 r2925 u2926 h2927 u2937 h2938 xq4 h2939 ⊢) <;> (try simp only [zz, Int32.reduceToInt, ne_eq] at f2924 r2925 u2926 h2927 u2937 h2938 xq4 h2939 ⊢) <;> (try simp (disch := omega) only [zb] at f2924 r2925 u2926 h2927 u2937 h2938 xq4 h2939 ⊢) <;> first | omega | ((try simp (disch := omega) only [zb] at f2924 r2925 u2926 h2927 u2937 h2938 xq4 h2939 ⊢) <;> omega))⟩
      · refine sw_sh (ci_sh cq4 t_p0 rfl) ?_
        obtain ⟨q7, eq7, tq7⟩ := ci_ref cq4 t_p0 15 (κ' := 65) rfl
        refine sw_onS eq7 ?_
        refine sw_ar (ci_sh cq4 tq7 rfl) ?_
        refine sw_ib (by (try simp only [zp, zo, zq] at f2924 r2925 u2926 h2927 u2937 h2938 xq4 h2939 ⊢) <;> (try simp only [zz, Int32.reduceToInt, ne_eq] at f2924 r2925 u2926 h2927 u2937 h2938 xq4 h2939 ⊢) <;> (try simp (disch := omega) only [zb] at f2924 r2925 u2926 h2927 u2937 h2938 xq4 h2939 ⊢) <;> first | omega | ((try simp (disch := omega) only [zb] at f2924 r2925 u2926 h2927 u2937 h2938 xq4 h2939 ⊢) <;> omega)) ?_
        obtain ⟨q10, eq10, tq10⟩ := ci_ref cq4 t_p0 24 (κ' := 74) rfl
        refine sw_onS eq10 ?_
        refine sw_ar (ci_sh cq4 tq10 rfl) ?_
        have w2941 := (gq4.2.2 _ _ tq7 p1.toNatClampNeg rfl).1
        have r2943 := ci_rg c0 tq7 p1.toNatClampNeg (lo := 0) (hi := 19) rfl
        have r2944 := ci_rg cq4 tq7 p1.toNatClampNeg (lo := 0) (hi := 19) rfl
        refine sw_ib (by (try simp only [zp, zo, zq] at f2924 r2925 u2926 h2927 u2937 h2938 xq4 h2939 w2941 r2943 r2944 ⊢) <;> (try simp only [zz, Int32.reduceToInt, ne_eq] at f2924 r2925 u2926 h2927 u2937 h2938 xq4 h2939 w2941 r2943 r2944 ⊢) <;> (try simp (disch := omega) only [zb] at f2924 r2925 u2926 h2927 u2937 h2938 xq4 h2939 w2941 r2943 r2944 ⊢) <;> first | omega | ((try simp (disch := omega) only [zb] at f2924 r2925 u2926 h2927 u2937 h2938 xq4 h2939 w2941 r2943 r2944 ⊢) <;> omega)) ?_
        refine sw_ite (fun h2945 => ?_) (fun h2945 => ?_)
        · exact sw_some ⟨cq4, fq4, (by (try simp only [zp, zo, zq] at f2924 r2925 u2926 h2927 u2937 h2938 xq4 h2939 w2941 r2943 r2944 h2945 ⊢) <;> (try simp only [zz, Int32.reduceToInt, ne_eq] at f2924 r2925 u2926 h2927 u2937 h2938 xq4 h2939 w2941 r2943 r2944 h2945 ⊢) <;> (try simp (disch := omega) only [zb] at f2924 r2925 u2926 h2927 u2937 h2938 xq4 h2939 w2941 r2943 r2944 h2945 ⊢) <;> first | omega | ((try simp (disch := omega) only [zb] at f2924 r2925 u2926 h2927 u2937 h2938 xq4 h2939 w2941 r2943 r2944 h2945 ⊢) <;> omega))⟩
        · obtain ⟨q14, eq14, tq14⟩ := ci_ref cq4 t_p0 23 (κ' := 73) rfl
          refine sw_onS eq14 ?_
          refine sw_ar (ci_sh cq4 tq14 rfl) ?_
          refine sw_ib (by (try simp only [zp, zo, zq] at f2924 r2925 u2926 h2927 u2937 h2938 xq4 h2939 w2941 r2943 r2944 h2945 ⊢) <;> (try simp only [zz, Int32.reduceToInt, ne_eq] at f2924 r2925 u2926 h2927 u2937 h2938 xq4 h2939 w2941 r2943 r2944 h2945 ⊢) <;> (try simp (disch := omega) only [zb] at f2924 r2925 u2926 h2927 u2937 h2938 xq4 h2939 w2941 r2943 r2944 h2945 ⊢) <;> first | omega | ((try simp (disch := omega) only [zb] at f2924 r2925 u2926 h2927 u2937 h2938 xq4 h2939 w2941 r2943 r2944 h2945 ⊢) <;> omega)) ?_
          exact sw_some ⟨cq4, fq4, (by (try simp only [zp, zo, zq] at f2924 r2925 u2926 h2927 u2937 h2938 xq4 h2939 w2941 r2943 r2944 h2945 ⊢) <;> (try simp only [zz, Int32.reduceToInt, ne_eq] at f2924 r2925 u2926 h2927 u2937 h2938 xq4 h2939 w2941 r2943 r2944 h2945 ⊢) <;> (try simp (disch := omega) only [zb] at f2924 r2925 u2926 h2927 u2937 h2938 xq4 h2939 w2941 r2943 r2944 h2945 ⊢) <;> first | omega | ((try simp (disch := omega) only [zb] at f2924 r2925 u2926 h2927 u2937 h2938 xq4 h2939 w2941 r2943 r2944 h2945 ⊢) <;> omega))⟩
    · have u2948 := su_in p3 0 39
      refine sw_ite (fun h2949 => ?_) (fun h2949 => ?_)
      · unfold fX9_sign_39
        unfold fX9_sign_40
        refine sw_sh (ci_sh c0 t_p0 rfl) ?_
        refine sw_on (vX9_goes c0 t_p0 (by (try simp only [zp, zo, zq] at f2924 r2925 u2926 h2927 u2937 h2938 u2948 h2949 ⊢) <;> (try simp only [zz, Int32.reduceToInt, ne_eq] at f2924 r2925 u2926 h2927 u2937 h2938 u2948 h2949 ⊢) <;> (try simp (disch := omega) only [zb] at f2924 r2925 u2926 h2927 u2937 h2938 u2948 h2949 ⊢) <;> first | omega | ((try simp (disch := omega) only [zb] at f2924 r2925 u2926 h2927 u2937 h2938 u2948 h2949 ⊢) <;> omega)) ) ?_
        intro q4 hqq4
        obtain ⟨cq4, gq4, xq4⟩ := hqq4
        have fq4 := fr_trans f0 gq4 rfl
        refine sw_ite (fun h2950 => ?_) (fun h2950 => ?_)
        · exact sw_some ⟨cq4, fq4, (by (try simp only [zp, zo, zq] at f2924 r2925 u2926 h2927 u2937 h2938 u2948 h2949 xq4 h2950 ⊢) <;> (try simp only [zz, Int32.reduceToInt, ne_eq] at f2924 r2925 u2926 h2927 u2937 h2938 u2948 h2949 xq4 h2950 ⊢) <;> (try simp (disch := omega) only [zb] at f2924 r2925 u2926 h2927 u2937 h2938 u2948 h2949 xq4 h2950 ⊢) <;> first | omega | ((try simp (disch := omega) only [zb] at f2924 r2925 u2926 h2927 u2937 h2938 u2948 h2949 xq4 h2950 ⊢) <;> omega))⟩
        · refine sw_sh (ci_sh cq4 t_p0 rfl) ?_
          obtain ⟨q7, eq7, tq7⟩ := ci_ref cq4 t_p0 15 (κ' := 65) rfl
          refine sw_onS eq7 ?_
          refine sw_ar (ci_sh cq4 tq7 rfl) ?_
          refine sw_ib (by (try simp only [zp, zo, zq] at f2924 r2925 u2926 h2927 u2937 h2938 u2948 h2949 xq4 h2950 ⊢) <;> (try simp only [zz, Int32.reduceToInt, ne_eq] at f2924 r2925 u2926 h2927 u2937 h2938 u2948 h2949 xq4 h2950 ⊢) <;> (try simp (disch := omega) only [zb] at f2924 r2925 u2926 h2927 u2937 h2938 u2948 h2949 xq4 h2950 ⊢) <;> first | omega | ((try simp (disch := omega) only [zb] at f2924 r2925 u2926 h2927 u2937 h2938 u2948 h2949 xq4 h2950 ⊢) <;> omega)) ?_
          obtain ⟨q10, eq10, tq10⟩ := ci_ref cq4 t_p0 24 (κ' := 74) rfl
          refine sw_onS eq10 ?_
          refine sw_ar (ci_sh cq4 tq10 rfl) ?_
          have w2952 := (gq4.2.2 _ _ tq7 p1.toNatClampNeg rfl).1
          have r2954 := ci_rg c0 tq7 p1.toNatClampNeg (lo := 0) (hi := 19) rfl
          have r2955 := ci_rg cq4 tq7 p1.toNatClampNeg (lo := 0) (hi := 19) rfl
          refine sw_ib (by (try simp only [zp, zo, zq] at f2924 r2925 u2926 h2927 u2937 h2938 u2948 h2949 xq4 h2950 w2952 r2954 r2955 ⊢) <;> (try simp only [zz, Int32.reduceToInt, ne_eq] at f2924 r2925 u2926 h2927 u2937 h2938 u2948 h2949 xq4 h2950 w2952 r2954 r2955 ⊢) <;> (try simp (disch := omega) only [zb] at f2924 r2925 u2926 h2927 u2937 h2938 u2948 h2949 xq4 h2950 w2952 r2954 r2955 ⊢) <;> first | omega | ((try simp (disch := omega) only [zb] at f2924 r2925 u2926 h2927 u2937 h2938 u2948 h2949 xq4 h2950 w2952 r2954 r2955 ⊢) <;> omega)) ?_
          refine sw_ite (fun h2956 => ?_) (fun h2956 => ?_)
          · exact sw_some ⟨cq4, fq4, (by (try simp only [zp, zo, zq] at f2924 r2925 u2926 h2927 u2937 h2938 u2948 h2949 xq4 h2950 w2952 r2954 r2955 h2956 ⊢) <;> (try simp only [zz, Int32.reduceToInt, ne_eq] at f2924 r2925 u2926 h2927 u2937 h2938 u2948 h2949 xq4 h2950 w2952 r2954 r2955 h2956 ⊢) <;> (try simp (disch := omega) only [zb] at f2924 r2925 u2926 h2927 u2937 h2938 u2948 h2949 xq4 h2950 w2952 r2954 r2955 h2956 ⊢) <;> first | omega | ((try simp (disch := omega) only [zb] at f2924 r2925 u2926 h2927 u2937 h2938 u2948 h2949 xq4 h2950 w2952 r2954 r2955 h2956 ⊢) <;> omega))⟩
          · obtain ⟨q14, eq14, tq14⟩ := ci_ref cq4 t_p0 23 (κ' := 73) rfl
            refine sw_onS eq14 ?_
            refine sw_ar (ci_sh cq4 tq14 rfl) ?_
            refine sw_ib (by (try simp only [zp, zo, zq] at f2924 r2925 u2926 h2927 u2937 h2938 u2948 h2949 xq4 h2950 w2952 r2954 r2955 h2956 ⊢) <;> (try simp only [zz, Int32.reduceToInt, ne_eq] at f2924 r2925 u2926 h2927 u2937 h2938 u2948 h2949 xq4 h2950 w2952 r2954 r2955 h2956 ⊢) <;> (try simp (disch := omega) only [zb] at f2924 r2925 u2926 h2927 u2937 h2938 u2948 h2949 xq4 h2950 w2952 r2954 r2955 h2956 ⊢) <;> first | omega | ((try simp (disch := omega) only [zb] at f2924 r2925 u2926 h2927 u2937 h2938 u2948 h2949 xq4 h2950 w2952 r2954 r2955 h2956 ⊢) <;> omega)) ?_
            exact sw_some ⟨cq4, fq4, (by (try simp only [zp, zo, zq] at f2924 r2925 u2926 h2927 u2937 h2938 u2948 h2949 xq4 h2950 w2952 r2954 r2955 h2956 ⊢) <;> (try simp only [zz, Int32.reduceToInt, ne_eq] at f2924 r2925 u2926 h2927 u2937 h2938 u2948 h2949 xq4 h2950 w2952 r2954 r2955 h2956 ⊢) <;> (try simp (disch := omega) only [zb] at f2924 r2925 u2926 h2927 u2937 h2938 u2948 h2949 xq4 h2950 w2952 r2954 r2955 h2956 ⊢) <;> first | omega | ((try simp (disch := omega) only [zb] at f2924 r2925 u2926 h2927 u2937 h2938 u2948 h2949 xq4 h2950 w2952 r2954 r2955 h2956 ⊢) <;> omega))⟩
      · unfold fX9_sign_40
        refine sw_sh (ci_sh c0 t_p0 rfl) ?_
        refine sw_on (vX9_goes c0 t_p0 (by (try simp only [zp, zo, zq] at f2924 r2925 u2926 h2927 u2937 h2938 u2948 h2949 ⊢) <;> (try simp only [zz, Int32.reduceToInt, ne_eq] at f2924 r2925 u2926 h2927 u2937 h2938 u2948 h2949 ⊢) <;> (try simp (disch := omega) only [zb] at f2924 r2925 u2926 h2927 u2937 h2938 u2948 h2949 ⊢) <;> first | omega | ((try simp (disch := omega) only [zb] at f2924 r2925 u2926 h2927 u2937 h2938 u2948 h2949 ⊢) <;> omega)) ) ?_
        intro q4 hqq4
        obtain ⟨cq4, gq4, xq4⟩ := hqq4
        have fq4 := fr_trans f0 gq4 rfl
        refine sw_ite (fun h2959 => ?_) (fun h2959 => ?_)
        · exact sw_some ⟨cq4, fq4, (by (try simp only [zp, zo, zq] at f2924 r2925 u2926 h2927 u2937 h2938 u2948 h2949 xq4 h2959 ⊢) <;> (try simp only [zz, Int32.reduceToInt, ne_eq] at f2924 r2925 u2926 h2927 u2937 h2938 u2948 h2949 xq4 h2959 ⊢) <;> (try simp (disch := omega) only [zb] at f2924 r2925 u2926 h2927 u2937 h2938 u2948 h2949 xq4 h2959 ⊢) <;> first | omega | ((try simp (disch := omega) only [zb] at f2924 r2925 u2926 h2927 u2937 h2938 u2948 h2949 xq4 h2959 ⊢) <;> omega))⟩
        · refine sw_sh (ci_sh cq4 t_p0 rfl) ?_
          obtain ⟨q7, eq7, tq7⟩ := ci_ref cq4 t_p0 15 (κ' := 65) rfl
          refine sw_onS eq7 ?_
          refine sw_ar (ci_sh cq4 tq7 rfl) ?_
          refine sw_ib (by (try simp only [zp, zo, zq] at f2924 r2925 u2926 h2927 u2937 h2938 u2948 h2949 xq4 h2959 ⊢) <;> (try simp only [zz, Int32.reduceToInt, ne_eq] at f2924 r2925 u2926 h2927 u2937 h2938 u2948 h2949 xq4 h2959 ⊢) <;> (try simp (disch := omega) only [zb] at f2924 r2925 u2926 h2927 u2937 h2938 u2948 h2949 xq4 h2959 ⊢) <;> first | omega | ((try simp (disch := omega) only [zb] at f2924 r2925 u2926 h2927 u2937 h2938 u2948 h2949 xq4 h2959 ⊢) <;> omega)) ?_
          obtain ⟨q10, eq10, tq10⟩ := ci_ref cq4 t_p0 24 (κ' := 74) rfl
          refine sw_onS eq10 ?_
          refine sw_ar (ci_sh cq4 tq10 rfl) ?_
          have w2961 := (gq4.2.2 _ _ tq7 p1.toNatClampNeg rfl).1
          have r2963 := ci_rg c0 tq7 p1.toNatClampNeg (lo := 0) (hi := 19) rfl
          have r2964 := ci_rg cq4 tq7 p1.toNatClampNeg (lo := 0) (hi := 19) rfl
          refine sw_ib (by (try simp only [zp, zo, zq] at f2924 r2925 u2926 h2927 u2937 h2938 u2948 h2949 xq4 h2959 w2961 r2963 r2964 ⊢) <;> (try simp only [zz, Int32.reduceToInt, ne_eq] at f2924 r2925 u2926 h2927 u2937 h2938 u2948 h2949 xq4 h2959 w2961 r2963 r2964 ⊢) <;> (try simp (disch := omega) only [zb] at f2924 r2925 u2926 h2927 u2937 h2938 u2948 h2949 xq4 h2959 w2961 r2963 r2964 ⊢) <;> first | omega | ((try simp (disch := omega) only [zb] at f2924 r2925 u2926 h2927 u2937 h2938 u2948 h2949 xq4 h2959 w2961 r2963 r2964 ⊢) <;> omega)) ?_
          refine sw_ite (fun h2965 => ?_) (fun h2965 => ?_)
          · exact sw_some ⟨cq4, fq4, (by (try simp only [zp, zo, zq] at f2924 r2925 u2926 h2927 u2937 h2938 u2948 h2949 xq4 h2959 w2961 r2963 r2964 h2965 ⊢) <;> (try simp only [zz, Int32.reduceToInt, ne_eq] at f2924 r2925 u2926 h2927 u2937 h2938 u2948 h2949 xq4 h2959 w2961 r2963 r2964 h2965 ⊢) <;> (try simp (disch := omega) only [zb] at f2924 r2925 u2926 h2927 u2937 h2938 u2948 h2949 xq4 h2959 w2961 r2963 r2964 h2965 ⊢) <;> first | omega | ((try simp (disch := omega) only [zb] at f2924 r2925 u2926 h2927 u2937 h2938 u2948 h2949 xq4 h2959 w2961 r2963 r2964 h2965 ⊢) <;> omega))⟩
          · obtain ⟨q14, eq14, tq14⟩ := ci_ref cq4 t_p0 23 (κ' := 73) rfl
            refine sw_onS eq14 ?_
            refine sw_ar (ci_sh cq4 tq14 rfl) ?_
            refine sw_ib (by (try simp only [zp, zo, zq] at f2924 r2925 u2926 h2927 u2937 h2938 u2948 h2949 xq4 h2959 w2961 r2963 r2964 h2965 ⊢) <;> (try simp only [zz, Int32.reduceToInt, ne_eq] at f2924 r2925 u2926 h2927 u2937 h2938 u2948 h2949 xq4 h2959 w2961 r2963 r2964 h2965 ⊢) <;> (try simp (disch := omega) only [zb] at f2924 r2925 u2926 h2927 u2937 h2938 u2948 h2949 xq4 h2959 w2961 r2963 r2964 h2965 ⊢) <;> first | omega | ((try simp (disch := omega) only [zb] at f2924 r2925 u2926 h2927 u2937 h2938 u2948 h2949 xq4 h2959 w2961 r2963 r2964 h2965 ⊢) <;> omega)) ?_
            exact sw_some ⟨cq4, fq4, (by (try simp only [zp, zo, zq] at f2924 r2925 u2926 h2927 u2937 h2938 u2948 h2949 xq4 h2959 w2961 r2963 r2964 h2965 ⊢) <;> (try simp only [zz, Int32.reduceToInt, ne_eq] at f2924 r2925 u2926 h2927 u2937 h2938 u2948 h2949 xq4 h2959 w2961 r2963 r2964 h2965 ⊢) <;> (try simp (disch := omega) only [zb] at f2924 r2925 u2926 h2927 u2937 h2938 u2948 h2949 xq4 h2959 w2961 r2963 r2964 h2965 ⊢) <;> first | omega | ((try simp (disch := omega) only [zb] at f2924 r2925 u2926 h2927 u2937 h2938 u2948 h2949 xq4 h2959 w2961 r2963 r2964 h2965 ⊢) <;> omega))⟩
abbrev VX8_link : List Nat := []
set_option maxHeartbeats 4000000 in
set_option maxRecDepth 10000 in
theorem vX8_link {T : Nat → Option Nat} {σ0 : mm_M} {p0 : Nat} {p1 : Int32} {p2 : Int32} {p3 : Int32} (c0 : sCI T σ0) (hv : sFV T σ0) (t_p0 : T p0 = some 8) : sw (fX8_link p0 p1 p2 p3 σ0) (fun R => sCI T R.2 ∧ sFR T VX8_link σ0 R.2 ∧ (oi R.1 = -9999999999)) := by
  have f0 : sFR T VX8_link σ0 σ0 := fr_refl
  unfold fX8_link
  refine sw_sh (ci_sh c0 t_p0 rfl) ?_
  obtain ⟨q2, eq2, tq2⟩ := ci_ref c0 t_p0 7 (κ' := 6) rfl
  refine sw_onS eq2 ?_
  refine sw_sh (ci_sh c0 tq2 rfl) ?_
  refine sw_on (vX6_pageAt c0 hv tq2  ) ?_
  intro q4 hqq4
  obtain ⟨eq4, xq4⟩ := hqq4
  (try rw [eq4])
  refine sw_nu (fun eq5 => ?_) (fun q5 eq5 => ?_)
  · exact sw_some ⟨c0, f0, (by (try simp only [zp, zo, zq] at xq4 ⊢) <;> (try simp only [zz, Int32.reduceToInt, ne_eq] at xq4 ⊢) <;> (try simp (disch := omega) only [zb] at xq4 ⊢) <;> first | omega | ((try simp (disch := omega) only [zb] at xq4 ⊢) <;> omega))⟩
  · have zq5 := congrArg onI eq5
    exfalso; exact (by (try simp only [zp, zo, zq] at xq4 zq5 ⊢) <;> (try simp only [zz, Int32.reduceToInt, ne_eq] at xq4 zq5 ⊢) <;> (try simp (disch := omega) only [zb] at xq4 zq5 ⊢) <;> first | omega | ((try simp (disch := omega) only [zb] at xq4 zq5 ⊢) <;> omega))
abbrev VX9_link : List Nat := [900]
set_option maxHeartbeats 4000000 in
set_option maxRecDepth 10000 in
theorem vX9_link {T : Nat → Option Nat} {σ0 : mm_M} {p0 : Nat} {p1 : Int32} {p2 : Int32} {p3 : Int32} (c0 : sCI T σ0) (hv : sFV9 T σ0) (t_p0 : T p0 = some 9) : sw (fX9_link p0 p1 p2 p3 σ0) (fun R => sCI T R.2 ∧ sFR T VX9_link σ0 R.2 ∧ ((mm_I R.2 p0 0).toInt = 1)) := by
  have f0 : sFR T VX9_link σ0 σ0 := fr_refl
  unfold fX9_link
  refine sw_sh (ci_sh c0 t_p0 rfl) ?_
  have f2968 : mm_I σ0 p0 14 = 0 := hv p0 9 14 t_p0 (Or.inl rfl)
  have r2969 := ci_rg c0 t_p0 14 (lo := 0) (hi := 20) rfl
  have u2970 := su_in p1 0 ((mm_I σ0 p0 14) - 1)
  refine sw_ite (fun h2971 => ?_) (fun h2971 => ?_)
  · unfold fX9_link_37
    unfold fX9_link_38
    refine sw_sh (ci_sh c0 t_p0 rfl) ?_
    refine sw_on (vX9_goes c0 t_p0 (by (try simp only [zp, zo, zq] at f2968 r2969 u2970 h2971 ⊢) <;> (try simp only [zz, Int32.reduceToInt, ne_eq] at f2968 r2969 u2970 h2971 ⊢) <;> (try simp (disch := omega) only [zb] at f2968 r2969 u2970 h2971 ⊢) <;> first | omega | ((try simp (disch := omega) only [zb] at f2968 r2969 u2970 h2971 ⊢) <;> omega)) ) ?_
    intro q4 hqq4
    obtain ⟨cq4, gq4, xq4⟩ := hqq4
    have fq4 := fr_trans f0 gq4 rfl
    refine sw_ite (fun h2972 => ?_) (fun h2972 => ?_)
    · exact sw_some ⟨cq4, fq4, (by (try simp only [zp, zo, zq] at f2968 r2969 u2970 h2971 xq4 h2972 ⊢) <;> (try simp only [zz, Int32.reduceToInt, ne_eq] at f2968 r2969 u2970 h2971 xq4 h2972 ⊢) <;> (try simp (disch := omega) only [zb] at f2968 r2969 u2970 h2971 xq4 h2972 ⊢) <;> first | omega | ((try simp (disch := omega) only [zb] at f2968 r2969 u2970 h2971 xq4 h2972 ⊢) <;> omega))⟩
    · refine sw_sh (ci_sh cq4 t_p0 rfl) ?_
      obtain ⟨q7, eq7, tq7⟩ := ci_ref cq4 t_p0 15 (κ' := 65) rfl
      refine sw_onS eq7 ?_
      refine sw_ar (ci_sh cq4 tq7 rfl) ?_
      refine sw_ib (by (try simp only [zp, zo, zq] at f2968 r2969 u2970 h2971 xq4 h2972 ⊢) <;> (try simp only [zz, Int32.reduceToInt, ne_eq] at f2968 r2969 u2970 h2971 xq4 h2972 ⊢) <;> (try simp (disch := omega) only [zb] at f2968 r2969 u2970 h2971 xq4 h2972 ⊢) <;> first | omega | ((try simp (disch := omega) only [zb] at f2968 r2969 u2970 h2971 xq4 h2972 ⊢) <;> omega)) ?_
      obtain ⟨q10, eq10, tq10⟩ := ci_ref cq4 t_p0 26 (κ' := 76) rfl
      refine sw_onS eq10 ?_
      refine sw_ar (ci_sh cq4 tq10 rfl) ?_
      have w2974 := (gq4.2.2 _ _ tq7 p1.toNatClampNeg rfl).1
      have r2976 := ci_rg c0 tq7 p1.toNatClampNeg (lo := 0) (hi := 19) rfl
      have r2977 := ci_rg cq4 tq7 p1.toNatClampNeg (lo := 0) (hi := 19) rfl
      refine sw_ib (by (try simp only [zp, zo, zq] at f2968 r2969 u2970 h2971 xq4 h2972 w2974 r2976 r2977 ⊢) <;> (try simp only [zz, Int32.reduceToInt, ne_eq] at f2968 r2969 u2970 h2971 xq4 h2972 w2974 r2976 r2977 ⊢) <;> (try simp (disch := omega) only [zb] at f2968 r2969 u2970 h2971 xq4 h2972 w2974 r2976 r2977 ⊢) <;> first | omega | ((try simp (disch := omega) only [zb] at f2968 r2969 u2970 h2971 xq4 h2972 w2974 r2976 r2977 ⊢) <;> omega)) ?_
      refine sw_ite (fun h2978 => ?_) (fun h2978 => ?_)
      · exact sw_some ⟨cq4, fq4, (by (try simp only [zp, zo, zq] at f2968 r2969 u2970 h2971 xq4 h2972 w2974 r2976 r2977 h2978 ⊢) <;> (try simp only [zz, Int32.reduceToInt, ne_eq] at f2968 r2969 u2970 h2971 xq4 h2972 w2974 r2976 r2977 h2978 ⊢) <;> (try simp (disch := omega) only [zb] at f2968 r2969 u2970 h2971 xq4 h2972 w2974 r2976 r2977 h2978 ⊢) <;> first | omega | ((try simp (disch := omega) only [zb] at f2968 r2969 u2970 h2971 xq4 h2972 w2974 r2976 r2977 h2978 ⊢) <;> omega))⟩
      · obtain ⟨q14, eq14, tq14⟩ := ci_ref cq4 t_p0 25 (κ' := 75) rfl
        refine sw_onS eq14 ?_
        refine sw_ar (ci_sh cq4 tq14 rfl) ?_
        refine sw_ib (by (try simp only [zp, zo, zq] at f2968 r2969 u2970 h2971 xq4 h2972 w2974 r2976 r2977 h2978 ⊢) <;> (try simp only [zz, Int32.reduceToInt, ne_eq] at f2968 r2969 u2970 h2971 xq4 h2972 w2974 r2976 r2977 h2978 ⊢) <;> (try simp (disch := omega) only [zb] at f2968 r2969 u2970 h2971 xq4 h2972 w2974 r2976 r2977 h2978 ⊢) <;> first | omega | ((try simp (disch := omega) only [zb] at f2968 r2969 u2970 h2971 xq4 h2972 w2974 r2976 r2977 h2978 ⊢) <;> omega)) ?_
        exact sw_some ⟨cq4, fq4, (by (try simp only [zp, zo, zq] at f2968 r2969 u2970 h2971 xq4 h2972 w2974 r2976 r2977 h2978 ⊢) <;> (try simp only [zz, Int32.reduceToInt, ne_eq] at f2968 r2969 u2970 h2971 xq4 h2972 w2974 r2976 r2977 h2978 ⊢) <;> (try simp (disch := omega) only [zb] at f2968 r2969 u2970 h2971 xq4 h2972 w2974 r2976 r2977 h2978 ⊢) <;> first | omega | ((try simp (disch := omega) only [zb] at f2968 r2969 u2970 h2971 xq4 h2972 w2974 r2976 r2977 h2978 ⊢) <;> omega))⟩
  · have u2981 := su_in p2 0 5
    refine sw_ite (fun h2982 => ?_) (fun h2982 => ?_)
    · unfold fX9_link_37
      unfold fX9_link_38
      refine sw_sh (ci_sh c0 t_p0 rfl) ?_
      refine sw_on (vX9_goes c0 t_p0 (by (try simp only [zp, zo, zq] at f2968 r2969 u2970 h2971 u2981 h2982 ⊢) <;> (try simp only [zz, Int32.reduceToInt, ne_eq] at f2968 r2969 u2970 h2971 u2981 h2982 ⊢) <;> (try simp (disch := omega) only [zb] at f2968 r2969 u2970 h2971 u2981 h2982 ⊢) <;> first | omega | ((try simp (disch := omega) only [zb] at f2968 r2969 u2970 h2971 u2981 h2982 ⊢) <;> omega)) ) ?_
      intro q4 hqq4
      obtain ⟨cq4, gq4, xq4⟩ := hqq4
      have fq4 := fr_trans f0 gq4 rfl
      refine sw_ite (fun h2983 => ?_) (fun h2983 => ?_)
      · exact sw_some ⟨cq4, fq4, (by (try simp only [zp, zo, zq] at f2968 r2969 u2970 h2971 u2981 h2982 xq4 h2983 ⊢) <;> (try simp only [zz, Int32.reduceToInt, ne_eq] at f2968 r2969 u2970 h2971 u2981 h2982 xq4 h2983 ⊢) <;> (try simp (disch := omega) only [zb] at f2968 r2969 u2970 h2971 u2981 h2982 xq4 h2983 ⊢) <;> first | omega | ((try simp (disch := omega) only [zb] at f2968 r2969 u2970 h2971 u2981 h2982 xq4 h2983 ⊢) <;> omega))⟩
      · refine sw_sh (ci_sh cq4 t_p0 rfl) ?_
        obtain ⟨q7, eq7, tq7⟩ := ci_ref cq4 t_p0 15 (κ' := 65) rfl
        refine sw_onS eq7 ?_
        refine sw_ar (ci_sh cq4 tq7 rfl) ?_
        refine sw_ib (by (try simp only [zp, zo, zq] at f2968 r2969 u2970 h2971 u2981 h2982 xq4 h2983 ⊢) <;> (try simp only [zz, Int32.reduceToInt, ne_eq] at f2968 r2969 u2970 h2971 u2981 h2982 xq4 h2983 ⊢) <;> (try simp (disch := omega) only [zb] at f2968 r2969 u2970 h2971 u2981 h2982 xq4 h2983 ⊢) <;> first | omega | ((try simp (disch := omega) only [zb] at f2968 r2969 u2970 h2971 u2981 h2982 xq4 h2983 ⊢) <;> omega)) ?_
        obtain ⟨q10, eq10, tq10⟩ := ci_ref cq4 t_p0 26 (κ' := 76) rfl
        refine sw_onS eq10 ?_
        refine sw_ar (ci_sh cq4 tq10 rfl) ?_
        have w2985 := (gq4.2.2 _ _ tq7 p1.toNatClampNeg rfl).1
        have r2987 := ci_rg c0 tq7 p1.toNatClampNeg (lo := 0) (hi := 19) rfl
        have r2988 := ci_rg cq4 tq7 p1.toNatClampNeg (lo := 0) (hi := 19) rfl
        refine sw_ib (by (try simp only [zp, zo, zq] at f2968 r2969 u2970 h2971 u2981 h2982 xq4 h2983 w2985 r2987 r2988 ⊢) <;> (try simp only [zz, Int32.reduceToInt, ne_eq] at f2968 r2969 u2970 h2971 u2981 h2982 xq4 h2983 w2985 r2987 r2988 ⊢) <;> (try simp (disch := omega) only [zb] at f2968 r2969 u2970 h2971 u2981 h2982 xq4 h2983 w2985 r2987 r2988 ⊢) <;> first | omega | ((try simp (disch := omega) only [zb] at f2968 r2969 u2970 h2971 u2981 h2982 xq4 h2983 w2985 r2987 r2988 ⊢) <;> omega)) ?_
        refine sw_ite (fun h2989 => ?_) (fun h2989 => ?_)
        · exact sw_some ⟨cq4, fq4, (by (try simp only [zp, zo, zq] at f2968 r2969 u2970 h2971 u2981 h2982 xq4 h2983 w2985 r2987 r2988 h2989 ⊢) <;> (try simp only [zz, Int32.reduceToInt, ne_eq] at f2968 r2969 u2970 h2971 u2981 h2982 xq4 h2983 w2985 r2987 r2988 h2989 ⊢) <;> (try simp (disch := omega) only [zb] at f2968 r2969 u2970 h2971 u2981 h2982 xq4 h2983 w2985 r2987 r2988 h2989 ⊢) <;> first | omega | ((try simp (disch := omega) only [zb] at f2968 r2969 u2970 h2971 u2981 h2982 xq4 h2983 w2985 r2987 r2988 h2989 ⊢) <;> omega))⟩
        · obtain ⟨q14, eq14, tq14⟩ := ci_ref cq4 t_p0 25 (κ' := 75) rfl
          refine sw_onS eq14 ?_
          refine sw_ar (ci_sh cq4 tq14 rfl) ?_
          refine sw_ib (by (try simp only [zp, zo, zq] at f2968 r2969 u2970 h2971 u2981 h2982 xq4 h2983 w2985 r2987 r2988 h2989 ⊢) <;> (try simp only [zz, Int32.reduceToInt, ne_eq] at f2968 r2969 u2970 h2971 u2981 h2982 xq4 h2983 w2985 r2987 r2988 h2989 ⊢) <;> (try simp (disch := omega) only [zb] at f2968 r2969 u2970 h2971 u2981 h2982 xq4 h2983 w2985 r2987 r2988 h2989 ⊢) <;> first | omega | ((try simp (disch := omega) only [zb] at f2968 r2969 u2970 h2971 u2981 h2982 xq4 h2983 w2985 r2987 r2988 h2989 ⊢) <;> omega)) ?_
          exact sw_some ⟨cq4, fq4, (by (try simp only [zp, zo, zq] at f2968 r2969 u2970 h2971 u2981 h2982 xq4 h2983 w2985 r2987 r2988 h2989 ⊢) <;> (try simp only [zz, Int32.reduceToInt, ne_eq] at f2968 r2969 u2970 h2971 u2981 h2982 xq4 h2983 w2985 r2987 r2988 h2989 ⊢) <;> (try simp (disch := omega) only [zb] at f2968 r2969 u2970 h2971 u2981 h2982 xq4 h2983 w2985 r2987 r2988 h2989 ⊢) <;> first | omega | ((try simp (disch := omega) only [zb] at f2968 r2969 u2970 h2971 u2981 h2982 xq4 h2983 w2985 r2987 r2988 h2989 ⊢) <;> omega))⟩
    · have u2992 := su_in p3 0 2
      refine sw_ite (fun h2993 => ?_) (fun h2993 => ?_)
      · unfold fX9_link_37
        unfold fX9_link_38
        refine sw_sh (ci_sh c0 t_p0 rfl) ?_
        refine sw_on (vX9_goes c0 t_p0 (by (try simp only [zp, zo, zq] at f2968 r2969 u2970 h2971 u2981 h2982 u2992 h2993 ⊢) <;> (try simp only [zz, Int32.reduceToInt, ne_eq] at f2968 r2969 u2970 h2971 u2981 h2982 u2992 h2993 ⊢) <;> (try simp (disch := omega) only [zb] at f2968 r2969 u2970 h2971 u2981 h2982 u2992 h2993 ⊢) <;> first | omega | ((try simp (disch := omega) only [zb] at f2968 r2969 u2970 h2971 u2981 h2982 u2992 h2993 ⊢) <;> omega)) ) ?_
        intro q4 hqq4
        obtain ⟨cq4, gq4, xq4⟩ := hqq4
        have fq4 := fr_trans f0 gq4 rfl
        refine sw_ite (fun h2994 => ?_) (fun h2994 => ?_)
        · exact sw_some ⟨cq4, fq4, (by (try simp only [zp, zo, zq] at f2968 r2969 u2970 h2971 u2981 h2982 u2992 h2993 xq4 h2994 ⊢) <;> (try simp only [zz, Int32.reduceToInt, ne_eq] at f2968 r2969 u2970 h2971 u2981 h2982 u2992 h2993 xq4 h2994 ⊢) <;> (try simp (disch := omega) only [zb] at f2968 r2969 u2970 h2971 u2981 h2982 u2992 h2993 xq4 h2994 ⊢) <;> first | omega | ((try simp (disch := omega) only [zb] at f2968 r2969 u2970 h2971 u2981 h2982 u2992 h2993 xq4 h2994 ⊢) <;> omega))⟩
        · refine sw_sh (ci_sh cq4 t_p0 rfl) ?_
          obtain ⟨q7, eq7, tq7⟩ := ci_ref cq4 t_p0 15 (κ' := 65) rfl
          refine sw_onS eq7 ?_
          refine sw_ar (ci_sh cq4 tq7 rfl) ?_
          refine sw_ib (by (try simp only [zp, zo, zq] at f2968 r2969 u2970 h2971 u2981 h2982 u2992 h2993 xq4 h2994 ⊢) <;> (try simp only [zz, Int32.reduceToInt, ne_eq] at f2968 r2969 u2970 h2971 u2981 h2982 u2992 h2993 xq4 h2994 ⊢) <;> (try simp (disch := omega) only [zb] at f2968 r2969 u2970 h2971 u2981 h2982 u2992 h2993 xq4 h2994 ⊢) <;> first | omega | ((try simp (disch := omega) only [zb] at f2968 r2969 u2970 h2971 u2981 h2982 u2992 h2993 xq4 h2994 ⊢) <;> omega)) ?_
          obtain ⟨q10, eq10, tq10⟩ := ci_ref cq4 t_p0 26 (κ' := 76) rfl
          refine sw_onS eq10 ?_
          refine sw_ar (ci_sh cq4 tq10 rfl) ?_
          have w2996 := (gq4.2.2 _ _ tq7 p1.toNatClampNeg rfl).1
          have r2998 := ci_rg c0 tq7 p1.toNatClampNeg (lo := 0) (hi := 19) rfl
          have r2999 := ci_rg cq4 tq7 p1.toNatClampNeg (lo := 0) (hi := 19) rfl
          refine sw_ib (by (try simp only [zp, zo, zq] at f2968 r2969 u2970 h2971 u2981 h2982 u2992 h2993 xq4 h2994 w2996 r2998 r2999 ⊢) <;> (try simp only [zz, Int32.reduceToInt, ne_eq] at f2968 r2969 u2970 h2971 u2981 h2982 u2992 h2993 xq4 h2994 w2996 r2998 r2999 ⊢) <;> (try simp (disch := omega) only [zb] at f2968 r2969 u2970 h2971 u2981 h2982 u2992 h2993 xq4 h2994 w2996 r2998 r2999 ⊢) <;> first | omega | ((try simp (disch := omega) only [zb] at f2968 r2969 u2970 h2971 u2981 h2982 u2992 h2993 xq4 h2994 w2996 r2998 r2999 ⊢) <;> omega)) ?_
          refine sw_ite (fun h3000 => ?_) (fun h3000 => ?_)
          · exact sw_some ⟨cq4, fq4, (by (try simp only [zp, zo, zq] at f2968 r2969 u2970 h2971 u2981 h2982 u2992 h2993 xq4 h2994 w2996 r2998 r2999 h3000 ⊢) <;> (try simp only [zz, Int32.reduceToInt, ne_eq] at f2968 r2969 u2970 h2971 u2981 h2982 u2992 h2993 xq4 h2994 w2996 r2998 r2999 h3000 ⊢) <;> (try simp (disch := omega) only [zb] at f2968 r2969 u2970 h2971 u2981 h2982 u2992 h2993 xq4 h2994 w2996 r2998 r2999 h3000 ⊢) <;> first | omega | ((try simp (disch := omega) only [zb] at f2968 r2969 u2970 h2971 u2981 h2982 u2992 h2993 xq4 h2994 w2996 r2998 r2999 h3000 ⊢) <;> omega))⟩
          · obtain ⟨q14, eq14, tq14⟩ := ci_ref cq4 t_p0 25 (κ' := 75) rfl
            refine sw_onS eq14 ?_
            refine sw_ar (ci_sh cq4 tq14 rfl) ?_
            refine sw_ib (by (try simp only [zp, zo, zq] at f2968 r2969 u2970 h2971 u2981 h2982 u2992 h2993 xq4 h2994 w2996 r2998 r2999 h3000 ⊢) <;> (try simp only [zz, Int32.reduceToInt, ne_eq] at f2968 r2969 u2970 h2971 u2981 h2982 u2992 h2993 xq4 h2994 w2996 r2998 r2999 h3000 ⊢) <;> (try simp (disch := omega) only [zb] at f2968 r2969 u2970 h2971 u2981 h2982 u2992 h2993 xq4 h2994 w2996 r2998 r2999 h3000 ⊢) <;> first | omega | ((try simp (disch := omega) only [zb] at f2968 r2969 u2970 h2971 u2981 h2982 u2992 h2993 xq4 h2994 w2996 r2998 r2999 h3000 ⊢) <;> omega)) ?_
            exact sw_some ⟨cq4, fq4, (by (try simp only [zp, zo, zq] at f2968 r2969 u2970 h2971 u2981 h2982 u2992 h2993 xq4 h2994 w2996 r2998 r2999 h3000 ⊢) <;> (try simp only [zz, Int32.reduceToInt, ne_eq] at f2968 r2969 u2970 h2971 u2981 h2982 u2992 h2993 xq4 h2994 w2996 r2998 r2999 h3000 ⊢) <;> (try simp (disch := omega) only [zb] at f2968 r2969 u2970 h2971 u2981 h2982 u2992 h2993 xq4 h2994 w2996 r2998 r2999 h3000 ⊢) <;> first | omega | ((try simp (disch := omega) only [zb] at f2968 r2969 u2970 h2971 u2981 h2982 u2992 h2993 xq4 h2994 w2996 r2998 r2999 h3000 ⊢) <;> omega))⟩
      · unfold fX9_link_38
        refine sw_sh (ci_sh c0 t_p0 rfl) ?_
        refine sw_on (vX9_goes c0 t_p0 (by (try simp only [zp, zo, zq] at f2968 r2969 u2970 h2971 u2981 h2982 u2992 h2993 ⊢) <;> (try simp only [zz, Int32.reduceToInt, ne_eq] at f2968 r2969 u2970 h2971 u2981 h2982 u2992 h2993 ⊢) <;> (try simp (disch := omega) only [zb] at f2968 r2969 u2970 h2971 u2981 h2982 u2992 h2993 ⊢) <;> first | omega | ((try simp (disch := omega) only [zb] at f2968 r2969 u2970 h2971 u2981 h2982 u2992 h2993 ⊢) <;> omega)) ) ?_
        intro q4 hqq4
        obtain ⟨cq4, gq4, xq4⟩ := hqq4
        have fq4 := fr_trans f0 gq4 rfl
        refine sw_ite (fun h3003 => ?_) (fun h3003 => ?_)
        · exact sw_some ⟨cq4, fq4, (by (try simp only [zp, zo, zq] at f2968 r2969 u2970 h2971 u2981 h2982 u2992 h2993 xq4 h3003 ⊢) <;> (try simp only [zz, Int32.reduceToInt, ne_eq] at f2968 r2969 u2970 h2971 u2981 h2982 u2992 h2993 xq4 h3003 ⊢) <;> (try simp (disch := omega) only [zb] at f2968 r2969 u2970 h2971 u2981 h2982 u2992 h2993 xq4 h3003 ⊢) <;> first | omega | ((try simp (disch := omega) only [zb] at f2968 r2969 u2970 h2971 u2981 h2982 u2992 h2993 xq4 h3003 ⊢) <;> omega))⟩
        · refine sw_sh (ci_sh cq4 t_p0 rfl) ?_
          obtain ⟨q7, eq7, tq7⟩ := ci_ref cq4 t_p0 15 (κ' := 65) rfl
          refine sw_onS eq7 ?_
          refine sw_ar (ci_sh cq4 tq7 rfl) ?_
          refine sw_ib (by (try simp only [zp, zo, zq] at f2968 r2969 u2970 h2971 u2981 h2982 u2992 h2993 xq4 h3003 ⊢) <;> (try simp only [zz, Int32.reduceToInt, ne_eq] at f2968 r2969 u2970 h2971 u2981 h2982 u2992 h2993 xq4 h3003 ⊢) <;> (try simp (disch := omega) only [zb] at f2968 r2969 u2970 h2971 u2981 h2982 u2992 h2993 xq4 h3003 ⊢) <;> first | omega | ((try simp (disch := omega) only [zb] at f2968 r2969 u2970 h2971 u2981 h2982 u2992 h2993 xq4 h3003 ⊢) <;> omega)) ?_
          obtain ⟨q10, eq10, tq10⟩ := ci_ref cq4 t_p0 26 (κ' := 76) rfl
          refine sw_onS eq10 ?_
          refine sw_ar (ci_sh cq4 tq10 rfl) ?_
          have w3005 := (gq4.2.2 _ _ tq7 p1.toNatClampNeg rfl).1
          have r3007 := ci_rg c0 tq7 p1.toNatClampNeg (lo := 0) (hi := 19) rfl
          have r3008 := ci_rg cq4 tq7 p1.toNatClampNeg (lo := 0) (hi := 19) rfl
          refine sw_ib (by (try simp only [zp, zo, zq] at f2968 r2969 u2970 h2971 u2981 h2982 u2992 h2993 xq4 h3003 w3005 r3007 r3008 ⊢) <;> (try simp only [zz, Int32.reduceToInt, ne_eq] at f2968 r2969 u2970 h2971 u2981 h2982 u2992 h2993 xq4 h3003 w3005 r3007 r3008 ⊢) <;> (try simp (disch := omega) only [zb] at f2968 r2969 u2970 h2971 u2981 h2982 u2992 h2993 xq4 h3003 w3005 r3007 r3008 ⊢) <;> first | omega | ((try simp (disch := omega) only [zb] at f2968 r2969 u2970 h2971 u2981 h2982 u2992 h2993 xq4 h3003 w3005 r3007 r3008 ⊢) <;> omega)) ?_
          refine sw_ite (fun h3009 => ?_) (fun h3009 => ?_)
          · exact sw_some ⟨cq4, fq4, (by (try simp only [zp, zo, zq] at f2968 r2969 u2970 h2971 u2981 h2982 u2992 h2993 xq4 h3003 w3005 r3007 r3008 h3009 ⊢) <;> (try simp only [zz, Int32.reduceToInt, ne_eq] at f2968 r2969 u2970 h2971 u2981 h2982 u2992 h2993 xq4 h3003 w3005 r3007 r3008 h3009 ⊢) <;> (try simp (disch := omega) only [zb] at f2968 r2969 u2970 h2971 u2981 h2982 u2992 h2993 xq4 h3003 w3005 r3007 r3008 h3009 ⊢) <;> first | omega | ((try simp (disch := omega) only [zb] at f2968 r2969 u2970 h2971 u2981 h2982 u2992 h2993 xq4 h3003 w3005 r3007 r3008 h3009 ⊢) <;> omega))⟩
          · obtain ⟨q14, eq14, tq14⟩ := ci_ref cq4 t_p0 25 (κ' := 75) rfl
            refine sw_onS eq14 ?_
            refine sw_ar (ci_sh cq4 tq14 rfl) ?_
            refine sw_ib (by (try simp only [zp, zo, zq] at f2968 r2969 u2970 h2971 u2981 h2982 u2992 h2993 xq4 h3003 w3005 r3007 r3008 h3009 ⊢) <;> (try simp only [zz, Int32.reduceToInt, ne_eq] at f2968 r2969 u2970 h2971 u2981 h2982 u2992 h2993 xq4 h3003 w3005 r3007 r3008 h3009 ⊢) <;> (try simp (disch := omega) only [zb] at f2968 r2969 u2970 h2971 u2981 h2982 u2992 h2993 xq4 h3003 w3005 r3007 r3008 h3009 ⊢) <;> first | omega | ((try simp (disch := omega) only [zb] at f2968 r2969 u2970 h2971 u2981 h2982 u2992 h2993 xq4 h3003 w3005 r3007 r3008 h3009 ⊢) <;> omega)) ?_
            exact sw_some ⟨cq4, fq4, (by (try simp only [zp, zo, zq] at f2968 r2969 u2970 h2971 u2981 h2982 u2992 h2993 xq4 h3003 w3005 r3007 r3008 h3009 ⊢) <;> (try simp only [zz, Int32.reduceToInt, ne_eq] at f2968 r2969 u2970 h2971 u2981 h2982 u2992 h2993 xq4 h3003 w3005 r3007 r3008 h3009 ⊢) <;> (try simp (disch := omega) only [zb] at f2968 r2969 u2970 h2971 u2981 h2982 u2992 h2993 xq4 h3003 w3005 r3007 r3008 h3009 ⊢) <;> first | omega | ((try simp (disch := omega) only [zb] at f2968 r2969 u2970 h2971 u2981 h2982 u2992 h2993 xq4 h3003 w3005 r3007 r3008 h3009 ⊢) <;> omega))⟩
abbrev VX8_cue : List Nat := []
set_option maxHeartbeats 4000000 in
set_option maxRecDepth 10000 in
theorem vX8_cue {T : Nat → Option Nat} {σ0 : mm_M} {p0 : Nat} {p1 : Int32} {p2 : Int32} (c0 : sCI T σ0) (hv : sFV T σ0) (t_p0 : T p0 = some 8) : sw (fX8_cue p0 p1 p2 σ0) (fun R => sCI T R.2 ∧ sFR T VX8_cue σ0 R.2 ∧ (oi R.1 = -9999999999)) := by
  have f0 : sFR T VX8_cue σ0 σ0 := fr_refl
  unfold fX8_cue
  refine sw_sh (ci_sh c0 t_p0 rfl) ?_
  refine sw_on (vX8_cueAt c0 hv t_p0  ) ?_
  intro q2 hqq2
  obtain ⟨eq2, xq2⟩ := hqq2
  (try rw [eq2])
  refine sw_nu (fun eq3 => ?_) (fun q3 eq3 => ?_)
  · exact sw_some ⟨c0, f0, (by (try simp only [zp, zo, zq] at xq2 ⊢) <;> (try simp only [zz, Int32.reduceToInt, ne_eq] at xq2 ⊢) <;> (try simp (disch := omega) only [zb] at xq2 ⊢) <;> first | omega | ((try simp (disch := omega) only [zb] at xq2 ⊢) <;> omega))⟩
  · have zq3 := congrArg onI eq3
    exfalso; exact (by (try simp only [zp, zo, zq] at xq2 zq3 ⊢) <;> (try simp only [zz, Int32.reduceToInt, ne_eq] at xq2 zq3 ⊢) <;> (try simp (disch := omega) only [zb] at xq2 zq3 ⊢) <;> first | omega | ((try simp (disch := omega) only [zb] at xq2 zq3 ⊢) <;> omega))
abbrev VX9_cue : List Nat := [900]
set_option maxHeartbeats 4000000 in
set_option maxRecDepth 10000 in
theorem vX9_cue {T : Nat → Option Nat} {σ0 : mm_M} {p0 : Nat} {p1 : Int32} {p2 : Int32} (c0 : sCI T σ0) (hv : sFV9 T σ0) (t_p0 : T p0 = some 9) : sw (fX9_cue p0 p1 p2 σ0) (fun R => sCI T R.2 ∧ sFR T VX9_cue σ0 R.2 ∧ ((mm_I R.2 p0 0).toInt = 1)) := by
  have f0 : sFR T VX9_cue σ0 σ0 := fr_refl
  unfold fX9_cue
  refine sw_sh (ci_sh c0 t_p0 rfl) ?_
  have f3012 : mm_I σ0 p0 35 = 0 := hv p0 9 35 t_p0 (Or.inl rfl)
  have r3013 := ci_rg c0 t_p0 35 (lo := 0) (hi := 60) rfl
  have u3014 := su_in p1 0 ((mm_I σ0 p0 35) - 1)
  refine sw_ite (fun h3015 => ?_) (fun h3015 => ?_)
  · unfold fX9_cue_28
    unfold fX9_cue_29
    refine sw_sh (ci_sh c0 t_p0 rfl) ?_
    refine sw_on (vX9_goes c0 t_p0 (by (try simp only [zp, zo, zq] at f3012 r3013 u3014 h3015 ⊢) <;> (try simp only [zz, Int32.reduceToInt, ne_eq] at f3012 r3013 u3014 h3015 ⊢) <;> (try simp (disch := omega) only [zb] at f3012 r3013 u3014 h3015 ⊢) <;> first | omega | ((try simp (disch := omega) only [zb] at f3012 r3013 u3014 h3015 ⊢) <;> omega)) ) ?_
    intro q4 hqq4
    obtain ⟨cq4, gq4, xq4⟩ := hqq4
    have fq4 := fr_trans f0 gq4 rfl
    refine sw_ite (fun h3016 => ?_) (fun h3016 => ?_)
    · exact sw_some ⟨cq4, fq4, (by (try simp only [zp, zo, zq] at f3012 r3013 u3014 h3015 xq4 h3016 ⊢) <;> (try simp only [zz, Int32.reduceToInt, ne_eq] at f3012 r3013 u3014 h3015 xq4 h3016 ⊢) <;> (try simp (disch := omega) only [zb] at f3012 r3013 u3014 h3015 xq4 h3016 ⊢) <;> first | omega | ((try simp (disch := omega) only [zb] at f3012 r3013 u3014 h3015 xq4 h3016 ⊢) <;> omega))⟩
    · refine sw_ite (fun h3018 => ?_) (fun h3018 => ?_)
      · refine sw_sh (ci_sh cq4 t_p0 rfl) ?_
        obtain ⟨q22, eq22, tq22⟩ := ci_ref cq4 t_p0 36 (κ' := 86) rfl
        refine sw_onS eq22 ?_
        refine sw_ar (ci_sh cq4 tq22 rfl) ?_
        refine sw_ib (by (try simp only [zp, zo, zq] at f3012 r3013 u3014 h3015 xq4 h3016 h3018 ⊢) <;> (try simp only [zz, Int32.reduceToInt, ne_eq] at f3012 r3013 u3014 h3015 xq4 h3016 h3018 ⊢) <;> (try simp (disch := omega) only [zb] at f3012 r3013 u3014 h3015 xq4 h3016 h3018 ⊢) <;> first | omega | ((try simp (disch := omega) only [zb] at f3012 r3013 u3014 h3015 xq4 h3016 h3018 ⊢) <;> omega)) ?_
        exact sw_some ⟨cq4, fq4, (by (try simp only [zp, zo, zq] at f3012 r3013 u3014 h3015 xq4 h3016 h3018 ⊢) <;> (try simp only [zz, Int32.reduceToInt, ne_eq] at f3012 r3013 u3014 h3015 xq4 h3016 h3018 ⊢) <;> (try simp (disch := omega) only [zb] at f3012 r3013 u3014 h3015 xq4 h3016 h3018 ⊢) <;> first | omega | ((try simp (disch := omega) only [zb] at f3012 r3013 u3014 h3015 xq4 h3016 h3018 ⊢) <;> omega))⟩
      · refine sw_ite (fun h3020 => ?_) (fun h3020 => ?_)
        · refine sw_sh (ci_sh cq4 t_p0 rfl) ?_
          obtain ⟨q18, eq18, tq18⟩ := ci_ref cq4 t_p0 37 (κ' := 87) rfl
          refine sw_onS eq18 ?_
          refine sw_ar (ci_sh cq4 tq18 rfl) ?_
          refine sw_ib (by (try simp only [zp, zo, zq] at f3012 r3013 u3014 h3015 xq4 h3016 h3018 h3020 ⊢) <;> (try simp only [zz, Int32.reduceToInt, ne_eq] at f3012 r3013 u3014 h3015 xq4 h3016 h3018 h3020 ⊢) <;> (try simp (disch := omega) only [zb] at f3012 r3013 u3014 h3015 xq4 h3016 h3018 h3020 ⊢) <;> first | omega | ((try simp (disch := omega) only [zb] at f3012 r3013 u3014 h3015 xq4 h3016 h3018 h3020 ⊢) <;> omega)) ?_
          exact sw_some ⟨cq4, fq4, (by (try simp only [zp, zo, zq] at f3012 r3013 u3014 h3015 xq4 h3016 h3018 h3020 ⊢) <;> (try simp only [zz, Int32.reduceToInt, ne_eq] at f3012 r3013 u3014 h3015 xq4 h3016 h3018 h3020 ⊢) <;> (try simp (disch := omega) only [zb] at f3012 r3013 u3014 h3015 xq4 h3016 h3018 h3020 ⊢) <;> first | omega | ((try simp (disch := omega) only [zb] at f3012 r3013 u3014 h3015 xq4 h3016 h3018 h3020 ⊢) <;> omega))⟩
        · refine sw_ite (fun h3022 => ?_) (fun h3022 => ?_)
          · refine sw_sh (ci_sh cq4 t_p0 rfl) ?_
            obtain ⟨q14, eq14, tq14⟩ := ci_ref cq4 t_p0 38 (κ' := 88) rfl
            refine sw_onS eq14 ?_
            refine sw_ar (ci_sh cq4 tq14 rfl) ?_
            refine sw_ib (by (try simp only [zp, zo, zq] at f3012 r3013 u3014 h3015 xq4 h3016 h3018 h3020 h3022 ⊢) <;> (try simp only [zz, Int32.reduceToInt, ne_eq] at f3012 r3013 u3014 h3015 xq4 h3016 h3018 h3020 h3022 ⊢) <;> (try simp (disch := omega) only [zb] at f3012 r3013 u3014 h3015 xq4 h3016 h3018 h3020 h3022 ⊢) <;> first | omega | ((try simp (disch := omega) only [zb] at f3012 r3013 u3014 h3015 xq4 h3016 h3018 h3020 h3022 ⊢) <;> omega)) ?_
            exact sw_some ⟨cq4, fq4, (by (try simp only [zp, zo, zq] at f3012 r3013 u3014 h3015 xq4 h3016 h3018 h3020 h3022 ⊢) <;> (try simp only [zz, Int32.reduceToInt, ne_eq] at f3012 r3013 u3014 h3015 xq4 h3016 h3018 h3020 h3022 ⊢) <;> (try simp (disch := omega) only [zb] at f3012 r3013 u3014 h3015 xq4 h3016 h3018 h3020 h3022 ⊢) <;> first | omega | ((try simp (disch := omega) only [zb] at f3012 r3013 u3014 h3015 xq4 h3016 h3018 h3020 h3022 ⊢) <;> omega))⟩
          · refine sw_sh (ci_sh cq4 t_p0 rfl) ?_
            obtain ⟨q10, eq10, tq10⟩ := ci_ref cq4 t_p0 39 (κ' := 89) rfl
            refine sw_onS eq10 ?_
            refine sw_ar (ci_sh cq4 tq10 rfl) ?_
            refine sw_ib (by (try simp only [zp, zo, zq] at f3012 r3013 u3014 h3015 xq4 h3016 h3018 h3020 h3022 ⊢) <;> (try simp only [zz, Int32.reduceToInt, ne_eq] at f3012 r3013 u3014 h3015 xq4 h3016 h3018 h3020 h3022 ⊢) <;> (try simp (disch := omega) only [zb] at f3012 r3013 u3014 h3015 xq4 h3016 h3018 h3020 h3022 ⊢) <;> first | omega | ((try simp (disch := omega) only [zb] at f3012 r3013 u3014 h3015 xq4 h3016 h3018 h3020 h3022 ⊢) <;> omega)) ?_
            have w3024 := (gq4.2.2 _ _ tq10 p1.toNatClampNeg rfl).1
            have r3026 := ci_rg c0 tq10 p1.toNatClampNeg (lo := 0) (hi := 400) rfl
            have r3027 := ci_rg cq4 tq10 p1.toNatClampNeg (lo := 0) (hi := 400) rfl
            exact sw_some ⟨cq4, fq4, (by (try simp only [zp, zo, zq] at f3012 r3013 u3014 h3015 xq4 h3016 h3018 h3020 h3022 w3024 r3026 r3027 ⊢) <;> (try simp only [zz, Int32.reduceToInt, ne_eq] at f3012 r3013 u3014 h3015 xq4 h3016 h3018 h3020 h3022 w3024 r3026 r3027 ⊢) <;> (try simp (disch := omega) only [zb] at f3012 r3013 u3014 h3015 xq4 h3016 h3018 h3020 h3022 w3024 r3026 r3027 ⊢) <;> first | omega | ((try simp (disch := omega) only [zb] at f3012 r3013 u3014 h3015 xq4 h3016 h3018 h3020 h3022 w3024 r3026 r3027 ⊢) <;> omega))⟩
  · have u3029 := su_in p2 0 3
    refine sw_ite (fun h3030 => ?_) (fun h3030 => ?_)
    · unfold fX9_cue_28
      unfold fX9_cue_29
      refine sw_sh (ci_sh c0 t_p0 rfl) ?_
      refine sw_on (vX9_goes c0 t_p0 (by (try simp only [zp, zo, zq] at f3012 r3013 u3014 h3015 u3029 h3030 ⊢) <;> (try simp only [zz, Int32.reduceToInt, ne_eq] at f3012 r3013 u3014 h3015 u3029 h3030 ⊢) <;> (try simp (disch := omega) only [zb] at f3012 r3013 u3014 h3015 u3029 h3030 ⊢) <;> first | omega | ((try simp (disch := omega) only [zb] at f3012 r3013 u3014 h3015 u3029 h3030 ⊢) <;> omega)) ) ?_
      intro q4 hqq4
      obtain ⟨cq4, gq4, xq4⟩ := hqq4
      have fq4 := fr_trans f0 gq4 rfl
      refine sw_ite (fun h3031 => ?_) (fun h3031 => ?_)
      · exact sw_some ⟨cq4, fq4, (by (try simp only [zp, zo, zq] at f3012 r3013 u3014 h3015 u3029 h3030 xq4 h3031 ⊢) <;> (try simp only [zz, Int32.reduceToInt, ne_eq] at f3012 r3013 u3014 h3015 u3029 h3030 xq4 h3031 ⊢) <;> (try simp (disch := omega) only [zb] at f3012 r3013 u3014 h3015 u3029 h3030 xq4 h3031 ⊢) <;> first | omega | ((try simp (disch := omega) only [zb] at f3012 r3013 u3014 h3015 u3029 h3030 xq4 h3031 ⊢) <;> omega))⟩
      · refine sw_ite (fun h3033 => ?_) (fun h3033 => ?_)
        · refine sw_sh (ci_sh cq4 t_p0 rfl) ?_
          obtain ⟨q22, eq22, tq22⟩ := ci_ref cq4 t_p0 36 (κ' := 86) rfl
          refine sw_onS eq22 ?_
          refine sw_ar (ci_sh cq4 tq22 rfl) ?_
          refine sw_ib (by (try simp only [zp, zo, zq] at f3012 r3013 u3014 h3015 u3029 h3030 xq4 h3031 h3033 ⊢) <;> (try simp only [zz, Int32.reduceToInt, ne_eq] at f3012 r3013 u3014 h3015 u3029 h3030 xq4 h3031 h3033 ⊢) <;> (try simp (disch := omega) only [zb] at f3012 r3013 u3014 h3015 u3029 h3030 xq4 h3031 h3033 ⊢) <;> first | omega | ((try simp (disch := omega) only [zb] at f3012 r3013 u3014 h3015 u3029 h3030 xq4 h3031 h3033 ⊢) <;> omega)) ?_
          exact sw_some ⟨cq4, fq4, (by (try simp only [zp, zo, zq] at f3012 r3013 u3014 h3015 u3029 h3030 xq4 h3031 h3033 ⊢) <;> (try simp only [zz, Int32.reduceToInt, ne_eq] at f3012 r3013 u3014 h3015 u3029 h3030 xq4 h3031 h3033 ⊢) <;> (try simp (disch := omega) only [zb] at f3012 r3013 u3014 h3015 u3029 h3030 xq4 h3031 h3033 ⊢) <;> first | omega | ((try simp (disch := omega) only [zb] at f3012 r3013 u3014 h3015 u3029 h3030 xq4 h3031 h3033 ⊢) <;> omega))⟩
        · refine sw_ite (fun h3035 => ?_) (fun h3035 => ?_)
          · refine sw_sh (ci_sh cq4 t_p0 rfl) ?_
            obtain ⟨q18, eq18, tq18⟩ := ci_ref cq4 t_p0 37 (κ' := 87) rfl
            refine sw_onS eq18 ?_
            refine sw_ar (ci_sh cq4 tq18 rfl) ?_
            refine sw_ib (by (try simp only [zp, zo, zq] at f3012 r3013 u3014 h3015 u3029 h3030 xq4 h3031 h3033 h3035 ⊢) <;> (try simp only [zz, Int32.reduceToInt, ne_eq] at f3012 r3013 u3014 h3015 u3029 h3030 xq4 h3031 h3033 h3035 ⊢) <;> (try simp (disch := omega) only [zb] at f3012 r3013 u3014 h3015 u3029 h3030 xq4 h3031 h3033 h3035 ⊢) <;> first | omega | ((try simp (disch := omega) only [zb] at f3012 r3013 u3014 h3015 u3029 h3030 xq4 h3031 h3033 h3035 ⊢) <;> omega)) ?_
            exact sw_some ⟨cq4, fq4, (by (try simp only [zp, zo, zq] at f3012 r3013 u3014 h3015 u3029 h3030 xq4 h3031 h3033 h3035 ⊢) <;> (try simp only [zz, Int32.reduceToInt, ne_eq] at f3012 r3013 u3014 h3015 u3029 h3030 xq4 h3031 h3033 h3035 ⊢) <;> (try simp (disch := omega) only [zb] at f3012 r3013 u3014 h3015 u3029 h3030 xq4 h3031 h3033 h3035 ⊢) <;> first | omega | ((try simp (disch := omega) only [zb] at f3012 r3013 u3014 h3015 u3029 h3030 xq4 h3031 h3033 h3035 ⊢) <;> omega))⟩
          · refine sw_ite (fun h3037 => ?_) (fun h3037 => ?_)
            · refine sw_sh (ci_sh cq4 t_p0 rfl) ?_
              obtain ⟨q14, eq14, tq14⟩ := ci_ref cq4 t_p0 38 (κ' := 88) rfl
              refine sw_onS eq14 ?_
              refine sw_ar (ci_sh cq4 tq14 rfl) ?_
              refine sw_ib (by (try simp only [zp, zo, zq] at f3012 r3013 u3014 h3015 u3029 h3030 xq4 h3031 h3033 h3035 h3037 ⊢) <;> (try simp only [zz, Int32.reduceToInt, ne_eq] at f3012 r3013 u3014 h3015 u3029 h3030 xq4 h3031 h3033 h3035 h3037 ⊢) <;> (try simp (disch := omega) only [zb] at f3012 r3013 u3014 h3015 u3029 h3030 xq4 h3031 h3033 h3035 h3037 ⊢) <;> first | omega | ((try simp (disch := omega) only [zb] at f3012 r3013 u3014 h3015 u3029 h3030 xq4 h3031 h3033 h3035 h3037 ⊢) <;> omega)) ?_
              exact sw_some ⟨cq4, fq4, (by (try simp only [zp, zo, zq] at f3012 r3013 u3014 h3015 u3029 h3030 xq4 h3031 h3033 h3035 h3037 ⊢) <;> (try simp only [zz, Int32.reduceToInt, ne_eq] at f3012 r3013 u3014 h3015 u3029 h3030 xq4 h3031 h3033 h3035 h3037 ⊢) <;> (try simp (disch := omega) only [zb] at f3012 r3013 u3014 h3015 u3029 h3030 xq4 h3031 h3033 h3035 h3037 ⊢) <;> first | omega | ((try simp (disch := omega) only [zb] at f3012 r3013 u3014 h3015 u3029 h3030 xq4 h3031 h3033 h3035 h3037 ⊢) <;> omega))⟩
            · refine sw_sh (ci_sh cq4 t_p0 rfl) ?_
              obtain ⟨q10, eq10, tq10⟩ := ci_ref cq4 t_p0 39 (κ' := 89) rfl
              refine sw_onS eq10 ?_
              refine sw_ar (ci_sh cq4 tq10 rfl) ?_
              refine sw_ib (by (try simp only [zp, zo, zq] at f3012 r3013 u3014 h3015 u3029 h3030 xq4 h3031 h3033 h3035 h3037 ⊢) <;> (try simp only [zz, Int32.reduceToInt, ne_eq] at f3012 r3013 u3014 h3015 u3029 h3030 xq4 h3031 h3033 h3035 h3037 ⊢) <;> (try simp (disch := omega) only [zb] at f3012 r3013 u3014 h3015 u3029 h3030 xq4 h3031 h3033 h3035 h3037 ⊢) <;> first | omega | ((try simp (disch := omega) only [zb] at f3012 r3013 u3014 h3015 u3029 h3030 xq4 h3031 h3033 h3035 h3037 ⊢) <;> omega)) ?_
              have w3039 := (gq4.2.2 _ _ tq10 p1.toNatClampNeg rfl).1
              have r3041 := ci_rg c0 tq10 p1.toNatClampNeg (lo := 0) (hi := 400) rfl
              have r3042 := ci_rg cq4 tq10 p1.toNatClampNeg (lo := 0) (hi := 400) rfl
              exact sw_some ⟨cq4, fq4, (by (try simp only [zp, zo, zq] at f3012 r3013 u3014 h3015 u3029 h3030 xq4 h3031 h3033 h3035 h3037 w3039 r3041 r3042 ⊢) <;> (try simp only [zz, Int32.reduceToInt, ne_eq] at f3012 r3013 u3014 h3015 u3029 h3030 xq4 h3031 h3033 h3035 h3037 w3039 r3041 r3042 ⊢) <;> (try simp (disch := omega) only [zb] at f3012 r3013 u3014 h3015 u3029 h3030 xq4 h3031 h3033 h3035 h3037 w3039 r3041 r3042 ⊢) <;> first | omega | ((try simp (disch := omega) only [zb] at f3012 r3013 u3014 h3015 u3029 h3030 xq4 h3031 h3033 h3035 h3037 w3039 r3041 r3042 ⊢) <;> omega))⟩
    · unfold fX9_cue_29
      refine sw_sh (ci_sh c0 t_p0 rfl) ?_
      refine sw_on (vX9_goes c0 t_p0 (by (try simp only [zp, zo, zq] at f3012 r3013 u3014 h3015 u3029 h3030 ⊢) <;> (try simp only [zz, Int32.reduceToInt, ne_eq] at f3012 r3013 u3014 h3015 u3029 h3030 ⊢) <;> (try simp (disch := omega) only [zb] at f3012 r3013 u3014 h3015 u3029 h3030 ⊢) <;> first | omega | ((try simp (disch := omega) only [zb] at f3012 r3013 u3014 h3015 u3029 h3030 ⊢) <;> omega)) ) ?_
      intro q4 hqq4
      obtain ⟨cq4, gq4, xq4⟩ := hqq4
      have fq4 := fr_trans f0 gq4 rfl
      refine sw_ite (fun h3044 => ?_) (fun h3044 => ?_)
      · exact sw_some ⟨cq4, fq4, (by (try simp only [zp, zo, zq] at f3012 r3013 u3014 h3015 u3029 h3030 xq4 h3044 ⊢) <;> (try simp only [zz, Int32.reduceToInt, ne_eq] at f3012 r3013 u3014 h3015 u3029 h3030 xq4 h3044 ⊢) <;> (try simp (disch := omega) only [zb] at f3012 r3013 u3014 h3015 u3029 h3030 xq4 h3044 ⊢) <;> first | omega | ((try simp (disch := omega) only [zb] at f3012 r3013 u3014 h3015 u3029 h3030 xq4 h3044 ⊢) <;> omega))⟩
      · refine sw_ite (fun h3046 => ?_) (fun h3046 => ?_)
        · refine sw_sh (ci_sh cq4 t_p0 rfl) ?_
          obtain ⟨q22, eq22, tq22⟩ := ci_ref cq4 t_p0 36 (κ' := 86) rfl
          refine sw_onS eq22 ?_
          refine sw_ar (ci_sh cq4 tq22 rfl) ?_
          refine sw_ib (by (try simp only [zp, zo, zq] at f3012 r3013 u3014 h3015 u3029 h3030 xq4 h3044 h3046 ⊢) <;> (try simp only [zz, Int32.reduceToInt, ne_eq] at f3012 r3013 u3014 h3015 u3029 h3030 xq4 h3044 h3046 ⊢) <;> (try simp (disch := omega) only [zb] at f3012 r3013 u3014 h3015 u3029 h3030 xq4 h3044 h3046 ⊢) <;> first | omega | ((try simp (disch := omega) only [zb] at f3012 r3013 u3014 h3015 u3029 h3030 xq4 h3044 h3046 ⊢) <;> omega)) ?_
          exact sw_some ⟨cq4, fq4, (by (try simp only [zp, zo, zq] at f3012 r3013 u3014 h3015 u3029 h3030 xq4 h3044 h3046 ⊢) <;> (try simp only [zz, Int32.reduceToInt, ne_eq] at f3012 r3013 u3014 h3015 u3029 h3030 xq4 h3044 h3046 ⊢) <;> (try simp (disch := omega) only [zb] at f3012 r3013 u3014 h3015 u3029 h3030 xq4 h3044 h3046 ⊢) <;> first | omega | ((try simp (disch := omega) only [zb] at f3012 r3013 u3014 h3015 u3029 h3030 xq4 h3044 h3046 ⊢) <;> omega))⟩
        · refine sw_ite (fun h3048 => ?_) (fun h3048 => ?_)
          · refine sw_sh (ci_sh cq4 t_p0 rfl) ?_
            obtain ⟨q18, eq18, tq18⟩ := ci_ref cq4 t_p0 37 (κ' := 87) rfl
            refine sw_onS eq18 ?_
            refine sw_ar (ci_sh cq4 tq18 rfl) ?_
            refine sw_ib (by (try simp only [zp, zo, zq] at f3012 r3013 u3014 h3015 u3029 h3030 xq4 h3044 h3046 h3048 ⊢) <;> (try simp only [zz, Int32.reduceToInt, ne_eq] at f3012 r3013 u3014 h3015 u3029 h3030 xq4 h3044 h3046 h3048 ⊢) <;> (try simp (disch := omega) only [zb] at f3012 r3013 u3014 h3015 u3029 h3030 xq4 h3044 h3046 h3048 ⊢) <;> first | omega | ((try simp (disch := omega) only [zb] at f3012 r3013 u3014 h3015 u3029 h3030 xq4 h3044 h3046 h3048 ⊢) <;> omega)) ?_
            exact sw_some ⟨cq4, fq4, (by (try simp only [zp, zo, zq] at f3012 r3013 u3014 h3015 u3029 h3030 xq4 h3044 h3046 h3048 ⊢) <;> (try simp only [zz, Int32.reduceToInt, ne_eq] at f3012 r3013 u3014 h3015 u3029 h3030 xq4 h3044 h3046 h3048 ⊢) <;> (try simp (disch := omega) only [zb] at f3012 r3013 u3014 h3015 u3029 h3030 xq4 h3044 h3046 h3048 ⊢) <;> first | omega | ((try simp (disch := omega) only [zb] at f3012 r3013 u3014 h3015 u3029 h3030 xq4 h3044 h3046 h3048 ⊢) <;> omega))⟩
          · refine sw_ite (fun h3050 => ?_) (fun h3050 => ?_)
            · refine sw_sh (ci_sh cq4 t_p0 rfl) ?_
              obtain ⟨q14, eq14, tq14⟩ := ci_ref cq4 t_p0 38 (κ' := 88) rfl
              refine sw_onS eq14 ?_
              refine sw_ar (ci_sh cq4 tq14 rfl) ?_
              refine sw_ib (by (try simp only [zp, zo, zq] at f3012 r3013 u3014 h3015 u3029 h3030 xq4 h3044 h3046 h3048 h3050 ⊢) <;> (try simp only [zz, Int32.reduceToInt, ne_eq] at f3012 r3013 u3014 h3015 u3029 h3030 xq4 h3044 h3046 h3048 h3050 ⊢) <;> (try simp (disch := omega) only [zb] at f3012 r3013 u3014 h3015 u3029 h3030 xq4 h3044 h3046 h3048 h3050 ⊢) <;> first | omega | ((try simp (disch := omega) only [zb] at f3012 r3013 u3014 h3015 u3029 h3030 xq4 h3044 h3046 h3048 h3050 ⊢) <;> omega)) ?_
              exact sw_some ⟨cq4, fq4, (by (try simp only [zp, zo, zq] at f3012 r3013 u3014 h3015 u3029 h3030 xq4 h3044 h3046 h3048 h3050 ⊢) <;> (try simp only [zz, Int32.reduceToInt, ne_eq] at f3012 r3013 u3014 h3015 u3029 h3030 xq4 h3044 h3046 h3048 h3050 ⊢) <;> (try simp (disch := omega) only [zb] at f3012 r3013 u3014 h3015 u3029 h3030 xq4 h3044 h3046 h3048 h3050 ⊢) <;> first | omega | ((try simp (disch := omega) only [zb] at f3012 r3013 u3014 h3015 u3029 h3030 xq4 h3044 h3046 h3048 h3050 ⊢) <;> omega))⟩
            · refine sw_sh (ci_sh cq4 t_p0 rfl) ?_
              obtain ⟨q10, eq10, tq10⟩ := ci_ref cq4 t_p0 39 (κ' := 89) rfl
              refine sw_onS eq10 ?_
              refine sw_ar (ci_sh cq4 tq10 rfl) ?_
              refine sw_ib (by (try simp only [zp, zo, zq] at f3012 r3013 u3014 h3015 u3029 h3030 xq4 h3044 h3046 h3048 h3050 ⊢) <;> (try simp only [zz, Int32.reduceToInt, ne_eq] at f3012 r3013 u3014 h3015 u3029 h3030 xq4 h3044 h3046 h3048 h3050 ⊢) <;> (try simp (disch := omega) only [zb] at f3012 r3013 u3014 h3015 u3029 h3030 xq4 h3044 h3046 h3048 h3050 ⊢) <;> first | omega | ((try simp (disch := omega) only [zb] at f3012 r3013 u3014 h3015 u3029 h3030 xq4 h3044 h3046 h3048 h3050 ⊢) <;> omega)) ?_
              have w3052 := (gq4.2.2 _ _ tq10 p1.toNatClampNeg rfl).1
              have r3054 := ci_rg c0 tq10 p1.toNatClampNeg (lo := 0) (hi := 400) rfl
              have r3055 := ci_rg cq4 tq10 p1.toNatClampNeg (lo := 0) (hi := 400) rfl
              exact sw_some ⟨cq4, fq4, (by (try simp only [zp, zo, zq] at f3012 r3013 u3014 h3015 u3029 h3030 xq4 h3044 h3046 h3048 h3050 w3052 r3054 r3055 ⊢) <;> (try simp only [zz, Int32.reduceToInt, ne_eq] at f3012 r3013 u3014 h3015 u3029 h3030 xq4 h3044 h3046 h3048 h3050 w3052 r3054 r3055 ⊢) <;> (try simp (disch := omega) only [zb] at f3012 r3013 u3014 h3015 u3029 h3030 xq4 h3044 h3046 h3048 h3050 w3052 r3054 r3055 ⊢) <;> first | omega | ((try simp (disch := omega) only [zb] at f3012 r3013 u3014 h3015 u3029 h3030 xq4 h3044 h3046 h3048 h3050 w3052 r3054 r3055 ⊢) <;> omega))⟩
abbrev VX8_line : List Nat := []
set_option maxHeartbeats 4000000 in
set_option maxRecDepth 10000 in
theorem vX8_line {T : Nat → Option Nat} {σ0 : mm_M} {p0 : Nat} {p1 : Int32} {p2 : Int32} (c0 : sCI T σ0) (hv : sFV T σ0) (t_p0 : T p0 = some 8) : sw (fX8_line p0 p1 p2 σ0) (fun R => sCI T R.2 ∧ sFR T VX8_line σ0 R.2 ∧ (oi R.1 = -9999999999)) := by
  have f0 : sFR T VX8_line σ0 σ0 := fr_refl
  unfold fX8_line
  refine sw_sh (ci_sh c0 t_p0 rfl) ?_
  refine sw_on (vX8_cueAt c0 hv t_p0  ) ?_
  intro q2 hqq2
  obtain ⟨eq2, xq2⟩ := hqq2
  (try rw [eq2])
  refine sw_nu (fun eq3 => ?_) (fun q3 eq3 => ?_)
  · exact sw_some ⟨c0, f0, (by (try simp only [zp, zo, zq] at xq2 ⊢) <;> (try simp only [zz, Int32.reduceToInt, ne_eq] at xq2 ⊢) <;> (try simp (disch := omega) only [zb] at xq2 ⊢) <;> first | omega | ((try simp (disch := omega) only [zb] at xq2 ⊢) <;> omega))⟩
  · have zq3 := congrArg onI eq3
    exfalso; exact (by (try simp only [zp, zo, zq] at xq2 zq3 ⊢) <;> (try simp only [zz, Int32.reduceToInt, ne_eq] at xq2 zq3 ⊢) <;> (try simp (disch := omega) only [zb] at xq2 zq3 ⊢) <;> first | omega | ((try simp (disch := omega) only [zb] at xq2 zq3 ⊢) <;> omega))
abbrev VX9_line : List Nat := [900]
set_option maxHeartbeats 4000000 in
set_option maxRecDepth 10000 in
theorem vX9_line {T : Nat → Option Nat} {σ0 : mm_M} {p0 : Nat} {p1 : Int32} {p2 : Int32} (c0 : sCI T σ0) (hv : sFV9 T σ0) (t_p0 : T p0 = some 9) : sw (fX9_line p0 p1 p2 σ0) (fun R => sCI T R.2 ∧ sFR T VX9_line σ0 R.2 ∧ ((mm_I R.2 p0 0).toInt = 1)) := by
  have f0 : sFR T VX9_line σ0 σ0 := fr_refl
  unfold fX9_line
  refine sw_sh (ci_sh c0 t_p0 rfl) ?_
  have f3057 : mm_I σ0 p0 35 = 0 := hv p0 9 35 t_p0 (Or.inl rfl)
  have r3058 := ci_rg c0 t_p0 35 (lo := 0) (hi := 60) rfl
  have u3059 := su_in p1 0 ((mm_I σ0 p0 35) - 1)
  refine sw_ite (fun h3060 => ?_) (fun h3060 => ?_)
  · unfold fX9_line_35
    unfold fX9_line_36
    refine sw_sh (ci_sh c0 t_p0 rfl) ?_
    refine sw_on (vX9_goes c0 t_p0 (by (try simp only [zp, zo, zq] at f3057 r3058 u3059 h3060 ⊢) <;> (try simp only [zz, Int32.reduceToInt, ne_eq] at f3057 r3058 u3059 h3060 ⊢) <;> (try simp (disch := omega) only [zb] at f3057 r3058 u3059 h3060 ⊢) <;> first | omega | ((try simp (disch := omega) only [zb] at f3057 r3058 u3059 h3060 ⊢) <;> omega)) ) ?_
    intro q4 hqq4
    obtain ⟨cq4, gq4, xq4⟩ := hqq4
    have fq4 := fr_trans f0 gq4 rfl
    refine sw_ite (fun h3061 => ?_) (fun h3061 => ?_)
    · exact sw_some ⟨cq4, fq4, (by (try simp only [zp, zo, zq] at f3057 r3058 u3059 h3060 xq4 h3061 ⊢) <;> (try simp only [zz, Int32.reduceToInt, ne_eq] at f3057 r3058 u3059 h3060 xq4 h3061 ⊢) <;> (try simp (disch := omega) only [zb] at f3057 r3058 u3059 h3060 xq4 h3061 ⊢) <;> first | omega | ((try simp (disch := omega) only [zb] at f3057 r3058 u3059 h3060 xq4 h3061 ⊢) <;> omega))⟩
    · refine sw_sh (ci_sh cq4 t_p0 rfl) ?_
      obtain ⟨q7, eq7, tq7⟩ := ci_ref cq4 t_p0 40 (κ' := 90) rfl
      refine sw_onS eq7 ?_
      refine sw_ar (ci_sh cq4 tq7 rfl) ?_
      refine sw_ib (by (try simp only [zp, zo, zq] at f3057 r3058 u3059 h3060 xq4 h3061 ⊢) <;> (try simp only [zz, Int32.reduceToInt, ne_eq] at f3057 r3058 u3059 h3060 xq4 h3061 ⊢) <;> (try simp (disch := omega) only [zb] at f3057 r3058 u3059 h3060 xq4 h3061 ⊢) <;> first | omega | ((try simp (disch := omega) only [zb] at f3057 r3058 u3059 h3060 xq4 h3061 ⊢) <;> omega)) ?_
      have a3063 := zi_and (mm_I q4.2 q7 ((400 * p1) + p2).toNatClampNeg) 255 (by decide)
      exact sw_some ⟨cq4, fq4, (by (try simp only [zp, zo, zq] at f3057 r3058 u3059 h3060 xq4 h3061 a3063 ⊢) <;> (try simp only [zz, Int32.reduceToInt, ne_eq] at f3057 r3058 u3059 h3060 xq4 h3061 a3063 ⊢) <;> (try simp (disch := omega) only [zb] at f3057 r3058 u3059 h3060 xq4 h3061 a3063 ⊢) <;> first | omega | ((try simp (disch := omega) only [zb] at f3057 r3058 u3059 h3060 xq4 h3061 a3063 ⊢) <;> omega))⟩
  · obtain ⟨q10, eq10, tq10⟩ := ci_ref c0 t_p0 39 (κ' := 89) rfl
    refine sw_onS eq10 ?_
    refine sw_ar (ci_sh c0 tq10 rfl) ?_
    refine sw_ib (by (try simp only [zp, zo, zq] at f3057 r3058 u3059 h3060 ⊢) <;> (try simp only [zz, Int32.reduceToInt, ne_eq] at f3057 r3058 u3059 h3060 ⊢) <;> (try simp (disch := omega) only [zb] at f3057 r3058 u3059 h3060 ⊢) <;> first | omega | ((try simp (disch := omega) only [zb] at f3057 r3058 u3059 h3060 ⊢) <;> omega)) ?_
    have r3066 := ci_rg c0 tq10 p1.toNatClampNeg (lo := 0) (hi := 400) rfl
    have u3067 := su_in p2 0 ((mm_I σ0 q10 p1.toNatClampNeg) - 1)
    refine sw_ite (fun h3068 => ?_) (fun h3068 => ?_)
    · unfold fX9_line_35
      unfold fX9_line_36
      refine sw_sh (ci_sh c0 t_p0 rfl) ?_
      refine sw_on (vX9_goes c0 t_p0 (by (try simp only [zp, zo, zq] at f3057 r3058 u3059 h3060 r3066 u3067 h3068 ⊢) <;> (try simp only [zz, Int32.reduceToInt, ne_eq] at f3057 r3058 u3059 h3060 r3066 u3067 h3068 ⊢) <;> (try simp (disch := omega) only [zb] at f3057 r3058 u3059 h3060 r3066 u3067 h3068 ⊢) <;> first | omega | ((try simp (disch := omega) only [zb] at f3057 r3058 u3059 h3060 r3066 u3067 h3068 ⊢) <;> omega)) ) ?_
      intro q4 hqq4
      obtain ⟨cq4, gq4, xq4⟩ := hqq4
      have fq4 := fr_trans f0 gq4 rfl
      refine sw_ite (fun h3069 => ?_) (fun h3069 => ?_)
      · exact sw_some ⟨cq4, fq4, (by (try simp only [zp, zo, zq] at f3057 r3058 u3059 h3060 r3066 u3067 h3068 xq4 h3069 ⊢) <;> (try simp only [zz, Int32.reduceToInt, ne_eq] at f3057 r3058 u3059 h3060 r3066 u3067 h3068 xq4 h3069 ⊢) <;> (try simp (disch := omega) only [zb] at f3057 r3058 u3059 h3060 r3066 u3067 h3068 xq4 h3069 ⊢) <;> first | omega | ((try simp (disch := omega) only [zb] at f3057 r3058 u3059 h3060 r3066 u3067 h3068 xq4 h3069 ⊢) <;> omega))⟩
      · refine sw_sh (ci_sh cq4 t_p0 rfl) ?_
        obtain ⟨q7, eq7, tq7⟩ := ci_ref cq4 t_p0 40 (κ' := 90) rfl
        refine sw_onS eq7 ?_
        refine sw_ar (ci_sh cq4 tq7 rfl) ?_
        refine sw_ib (by (try simp only [zp, zo, zq] at f3057 r3058 u3059 h3060 r3066 u3067 h3068 xq4 h3069 ⊢) <;> (try simp only [zz, Int32.reduceToInt, ne_eq] at f3057 r3058 u3059 h3060 r3066 u3067 h3068 xq4 h3069 ⊢) <;> (try simp (disch := omega) only [zb] at f3057 r3058 u3059 h3060 r3066 u3067 h3068 xq4 h3069 ⊢) <;> first | omega | ((try simp (disch := omega) only [zb] at f3057 r3058 u3059 h3060 r3066 u3067 h3068 xq4 h3069 ⊢) <;> omega)) ?_
        have a3071 := zi_and (mm_I q4.2 q7 ((400 * p1) + p2).toNatClampNeg) 255 (by decide)
        exact sw_some ⟨cq4, fq4, (by (try simp only [zp, zo, zq] at f3057 r3058 u3059 h3060 r3066 u3067 h3068 xq4 h3069 a3071 ⊢) <;> (try simp only [zz, Int32.reduceToInt, ne_eq] at f3057 r3058 u3059 h3060 r3066 u3067 h3068 xq4 h3069 a3071 ⊢) <;> (try simp (disch := omega) only [zb] at f3057 r3058 u3059 h3060 r3066 u3067 h3068 xq4 h3069 a3071 ⊢) <;> first | omega | ((try simp (disch := omega) only [zb] at f3057 r3058 u3059 h3060 r3066 u3067 h3068 xq4 h3069 a3071 ⊢) <;> omega))⟩
    · unfold fX9_line_36
      refine sw_sh (ci_sh c0 t_p0 rfl) ?_
      refine sw_on (vX9_goes c0 t_p0 (by (try simp only [zp, zo, zq] at f3057 r3058 u3059 h3060 r3066 u3067 h3068 ⊢) <;> (try simp only [zz, Int32.reduceToInt, ne_eq] at f3057 r3058 u3059 h3060 r3066 u3067 h3068 ⊢) <;> (try simp (disch := omega) only [zb] at f3057 r3058 u3059 h3060 r3066 u3067 h3068 ⊢) <;> first | omega | ((try simp (disch := omega) only [zb] at f3057 r3058 u3059 h3060 r3066 u3067 h3068 ⊢) <;> omega)) ) ?_
      intro q4 hqq4
      obtain ⟨cq4, gq4, xq4⟩ := hqq4
      have fq4 := fr_trans f0 gq4 rfl
      refine sw_ite (fun h3073 => ?_) (fun h3073 => ?_)
      · exact sw_some ⟨cq4, fq4, (by (try simp only [zp, zo, zq] at f3057 r3058 u3059 h3060 r3066 u3067 h3068 xq4 h3073 ⊢) <;> (try simp only [zz, Int32.reduceToInt, ne_eq] at f3057 r3058 u3059 h3060 r3066 u3067 h3068 xq4 h3073 ⊢) <;> (try simp (disch := omega) only [zb] at f3057 r3058 u3059 h3060 r3066 u3067 h3068 xq4 h3073 ⊢) <;> first | omega | ((try simp (disch := omega) only [zb] at f3057 r3058 u3059 h3060 r3066 u3067 h3068 xq4 h3073 ⊢) <;> omega))⟩
      · refine sw_sh (ci_sh cq4 t_p0 rfl) ?_
        obtain ⟨q7, eq7, tq7⟩ := ci_ref cq4 t_p0 40 (κ' := 90) rfl
        refine sw_onS eq7 ?_
        refine sw_ar (ci_sh cq4 tq7 rfl) ?_
        refine sw_ib (by (try simp only [zp, zo, zq] at f3057 r3058 u3059 h3060 r3066 u3067 h3068 xq4 h3073 ⊢) <;> (try simp only [zz, Int32.reduceToInt, ne_eq] at f3057 r3058 u3059 h3060 r3066 u3067 h3068 xq4 h3073 ⊢) <;> (try simp (disch := omega) only [zb] at f3057 r3058 u3059 h3060 r3066 u3067 h3068 xq4 h3073 ⊢) <;> first | omega | ((try simp (disch := omega) only [zb] at f3057 r3058 u3059 h3060 r3066 u3067 h3068 xq4 h3073 ⊢) <;> omega)) ?_
        have a3075 := zi_and (mm_I q4.2 q7 ((400 * p1) + p2).toNatClampNeg) 255 (by decide)
        exact sw_some ⟨cq4, fq4, (by (try simp only [zp, zo, zq] at f3057 r3058 u3059 h3060 r3066 u3067 h3068 xq4 h3073 a3075 ⊢) <;> (try simp only [zz, Int32.reduceToInt, ne_eq] at f3057 r3058 u3059 h3060 r3066 u3067 h3068 xq4 h3073 a3075 ⊢) <;> (try simp (disch := omega) only [zb] at f3057 r3058 u3059 h3060 r3066 u3067 h3068 xq4 h3073 a3075 ⊢) <;> first | omega | ((try simp (disch := omega) only [zb] at f3057 r3058 u3059 h3060 r3066 u3067 h3068 xq4 h3073 a3075 ⊢) <;> omega))⟩
abbrev VX8_watch : List Nat := [7, 22, 23]
set_option maxHeartbeats 4000000 in
set_option maxRecDepth 10000 in
theorem vX8_watch {T : Nat → Option Nat} {σ0 : mm_M} {p0 : Nat} {p1 : Int32} {p2 : Int32} (c0 : sCI T σ0) (hv : sFV T σ0) (t_p0 : T p0 = some 8) : sw (fX8_watch p0 p1 p2 σ0) (fun R => sCI T R.2 ∧ sFR T VX8_watch σ0 R.2 ∧ (((1 ≤ p1.toInt ∧ p1.toInt ≤ 8 ∧ 0 ≤ p2.toInt ∧ p2.toInt ≤ 254) ∧ oi R.1 = 1) ∨ (¬ (1 ≤ p1.toInt ∧ p1.toInt ≤ 8 ∧ 0 ≤ p2.toInt ∧ p2.toInt ≤ 254) ∧ oi R.1 = -9999999999))) := by
  have f0 : sFR T VX8_watch σ0 σ0 := fr_refl
  unfold fX8_watch
  have d0 := su_dec p1
  refine sw_ite (fun h3077 => ?_) (fun h3077 => ?_)
  · refine sw_ite (fun h3078 => ?_) (fun h3078 => ?_)
    · refine sw_sh (ci_sh c0 t_p0 rfl) ?_
      obtain ⟨q4, eq4, tq4⟩ := ci_ref c0 t_p0 8 (κ' := 7) rfl
      refine sw_onS eq4 ?_
      refine sw_sh (ci_sh c0 tq4 rfl) ?_
      refine sw_on (sX7_begin c0 tq4  ) ?_
      intro q6 hqq6
      obtain ⟨cq6, gq6, xq6⟩ := hqq6
      have fq6 := fr_trans f0 gq6 rfl
      exact sw_some ⟨cq6, fq6, (by (try simp only [zp, zo, zq] at d0 h3077 h3078 ⊢) <;> (try simp only [zz, Int32.reduceToInt, ne_eq] at d0 h3077 h3078 ⊢) <;> (try simp (disch := omega) only [zb] at d0 h3077 h3078 ⊢) <;> first | omega | ((try simp (disch := omega) only [zb] at d0 h3077 h3078 ⊢) <;> omega))⟩
    · exact sw_some ⟨c0, f0, (by (try simp only [zp, zo, zq] at d0 h3077 h3078 ⊢) <;> (try simp only [zz, Int32.reduceToInt, ne_eq] at d0 h3077 h3078 ⊢) <;> (try simp (disch := omega) only [zb] at d0 h3077 h3078 ⊢) <;> first | omega | ((try simp (disch := omega) only [zb] at d0 h3077 h3078 ⊢) <;> omega))⟩
  · exact sw_some ⟨c0, f0, (by (try simp only [zp, zo, zq] at d0 h3077 ⊢) <;> (try simp only [zz, Int32.reduceToInt, ne_eq] at d0 h3077 ⊢) <;> (try simp (disch := omega) only [zb] at d0 h3077 ⊢) <;> first | omega | ((try simp (disch := omega) only [zb] at d0 h3077 ⊢) <;> omega))⟩
abbrev VX9_watch : List Nat := [900, 928, 929, 930, 931]
set_option maxHeartbeats 4000000 in
set_option maxRecDepth 10000 in
theorem vX9_watch {T : Nat → Option Nat} {σ0 : mm_M} {p0 : Nat} {p1 : Int32} {p2 : Int32} (c0 : sCI T σ0) (hv : sFV9 T σ0) (t_p0 : T p0 = some 9) : sw (fX9_watch p0 p1 p2 σ0) (fun R => sCI T R.2 ∧ sFR T VX9_watch σ0 R.2 ∧ (((1 ≤ p1.toInt ∧ p1.toInt ≤ 8 ∧ 0 ≤ p2.toInt ∧ p2.toInt ≤ 254) ∧ R.1.toInt = 1 ∧ (mm_I R.2 p0 0).toInt = 0) ∨ (¬ (1 ≤ p1.toInt ∧ p1.toInt ≤ 8 ∧ 0 ≤ p2.toInt ∧ p2.toInt ≤ 254) ∧ (mm_I R.2 p0 0).toInt = 1))) := by
  have f0 : sFR T VX9_watch σ0 σ0 := fr_refl
  unfold fX9_watch
  have u3079 := su_in p1 1 8
  refine sw_ite (fun h3080 => ?_) (fun h3080 => ?_)
  · unfold fX9_watch_26
    unfold fX9_watch_27
    refine sw_sh (ci_sh c0 t_p0 rfl) ?_
    refine sw_on (vX9_goes c0 t_p0 (by (try simp only [zp, zo, zq] at u3079 h3080 ⊢) <;> (try simp only [zz, Int32.reduceToInt, ne_eq] at u3079 h3080 ⊢) <;> (try simp (disch := omega) only [zb] at u3079 h3080 ⊢) <;> first | omega | ((try simp (disch := omega) only [zb] at u3079 h3080 ⊢) <;> omega)) ) ?_
    intro q3 hqq3
    obtain ⟨cq3, gq3, xq3⟩ := hqq3
    have fq3 := fr_trans f0 gq3 rfl
    refine sw_ite (fun h3081 => ?_) (fun h3081 => ?_)
    · exact sw_some ⟨cq3, fq3, (by (try simp only [zp, zo, zq] at u3079 h3080 xq3 h3081 ⊢) <;> (try simp only [zz, Int32.reduceToInt, ne_eq] at u3079 h3080 xq3 h3081 ⊢) <;> (try simp (disch := omega) only [zb] at u3079 h3080 xq3 h3081 ⊢) <;> first | omega | ((try simp (disch := omega) only [zb] at u3079 h3080 xq3 h3081 ⊢) <;> omega))⟩
    · refine sw_sh (ci_sh cq3 t_p0 rfl) ?_
      have cs6 := ci_wI cq3 t_p0 (j := 28) (v := 1) (kr_n rfl)
      have fs6 := fr_wI fq3 t_p0 (j := 28) (v := 1) rfl
      refine sw_let (fun s6 es6 => ?_)
      rw [es6] at cs6 fs6
      have cs7 := ci_wI cs6 t_p0 (j := 29) (v := p1) (kr_n rfl)
      have fs7 := fr_wI fs6 t_p0 (j := 29) (v := p1) rfl
      refine sw_let (fun s7 es7 => ?_)
      rw [es7] at cs7 fs7
      have cs8 := ci_wI cs7 t_p0 (j := 30) (v := p2) (kr_n rfl)
      have fs8 := fr_wI fs7 t_p0 (j := 30) (v := p2) rfl
      refine sw_let (fun s8 es8 => ?_)
      rw [es8] at cs8 fs8
      have cs9 := ci_wI cs8 t_p0 (j := 31) (v := 0) (kr_n rfl)
      have fs9 := fr_wI fs8 t_p0 (j := 31) (v := 0) rfl
      refine sw_let (fun s9 es9 => ?_)
      rw [es9] at cs9 fs9
      have w3083 : mm_I s9 p0 0 = mm_I s8 p0 0 := by rw [← es9]; exact rd_j (by decide)
      have w3084 : mm_I s8 p0 0 = mm_I s7 p0 0 := by rw [← es8]; exact rd_j (by decide)
      have w3085 : mm_I s7 p0 0 = mm_I s6 p0 0 := by rw [← es7]; exact rd_j (by decide)
      have w3086 : mm_I s6 p0 0 = mm_I q3.2 p0 0 := by rw [← es6]; exact rd_j (by decide)
      exact sw_some ⟨cs9, fs9, (by (try simp only [zp, zo, zq] at u3079 h3080 xq3 h3081 w3083 w3084 w3085 w3086 ⊢) <;> (try simp only [zz, Int32.reduceToInt, ne_eq] at u3079 h3080 xq3 h3081 w3083 w3084 w3085 w3086 ⊢) <;> (try simp (disch := omega) only [zb] at u3079 h3080 xq3 h3081 w3083 w3084 w3085 w3086 ⊢) <;> first | omega | ((try simp (disch := omega) only [zb] at u3079 h3080 xq3 h3081 w3083 w3084 w3085 w3086 ⊢) <;> omega))⟩
  · have u3088 := su_in p2 0 254
    refine sw_ite (fun h3089 => ?_) (fun h3089 => ?_)
    · unfold fX9_watch_26
      unfold fX9_watch_27
      refine sw_sh (ci_sh c0 t_p0 rfl) ?_
      refine sw_on (vX9_goes c0 t_p0 (by (try simp only [zp, zo, zq] at u3079 h3080 u3088 h3089 ⊢) <;> (try simp only [zz, Int32.reduceToInt, ne_eq] at u3079 h3080 u3088 h3089 ⊢) <;> (try simp (disch := omega) only [zb] at u3079 h3080 u3088 h3089 ⊢) <;> first | omega | ((try simp (disch := omega) only [zb] at u3079 h3080 u3088 h3089 ⊢) <;> omega)) ) ?_
      intro q3 hqq3
      obtain ⟨cq3, gq3, xq3⟩ := hqq3
      have fq3 := fr_trans f0 gq3 rfl
      refine sw_ite (fun h3090 => ?_) (fun h3090 => ?_)
      · exact sw_some ⟨cq3, fq3, (by (try simp only [zp, zo, zq] at u3079 h3080 u3088 h3089 xq3 h3090 ⊢) <;> (try simp only [zz, Int32.reduceToInt, ne_eq] at u3079 h3080 u3088 h3089 xq3 h3090 ⊢) <;> (try simp (disch := omega) only [zb] at u3079 h3080 u3088 h3089 xq3 h3090 ⊢) <;> first | omega | ((try simp (disch := omega) only [zb] at u3079 h3080 u3088 h3089 xq3 h3090 ⊢) <;> omega))⟩
      · refine sw_sh (ci_sh cq3 t_p0 rfl) ?_
        have cs6 := ci_wI cq3 t_p0 (j := 28) (v := 1) (kr_n rfl)
        have fs6 := fr_wI fq3 t_p0 (j := 28) (v := 1) rfl
        refine sw_let (fun s6 es6 => ?_)
        rw [es6] at cs6 fs6
        have cs7 := ci_wI cs6 t_p0 (j := 29) (v := p1) (kr_n rfl)
        have fs7 := fr_wI fs6 t_p0 (j := 29) (v := p1) rfl
        refine sw_let (fun s7 es7 => ?_)
        rw [es7] at cs7 fs7
        have cs8 := ci_wI cs7 t_p0 (j := 30) (v := p2) (kr_n rfl)
        have fs8 := fr_wI fs7 t_p0 (j := 30) (v := p2) rfl
        refine sw_let (fun s8 es8 => ?_)
        rw [es8] at cs8 fs8
        have cs9 := ci_wI cs8 t_p0 (j := 31) (v := 0) (kr_n rfl)
        have fs9 := fr_wI fs8 t_p0 (j := 31) (v := 0) rfl
        refine sw_let (fun s9 es9 => ?_)
        rw [es9] at cs9 fs9
        have w3092 : mm_I s9 p0 0 = mm_I s8 p0 0 := by rw [← es9]; exact rd_j (by decide)
        have w3093 : mm_I s8 p0 0 = mm_I s7 p0 0 := by rw [← es8]; exact rd_j (by decide)
        have w3094 : mm_I s7 p0 0 = mm_I s6 p0 0 := by rw [← es7]; exact rd_j (by decide)
        have w3095 : mm_I s6 p0 0 = mm_I q3.2 p0 0 := by rw [← es6]; exact rd_j (by decide)
        exact sw_some ⟨cs9, fs9, (by (try simp only [zp, zo, zq] at u3079 h3080 u3088 h3089 xq3 h3090 w3092 w3093 w3094 w3095 ⊢) <;> (try simp only [zz, Int32.reduceToInt, ne_eq] at u3079 h3080 u3088 h3089 xq3 h3090 w3092 w3093 w3094 w3095 ⊢) <;> (try simp (disch := omega) only [zb] at u3079 h3080 u3088 h3089 xq3 h3090 w3092 w3093 w3094 w3095 ⊢) <;> first | omega | ((try simp (disch := omega) only [zb] at u3079 h3080 u3088 h3089 xq3 h3090 w3092 w3093 w3094 w3095 ⊢) <;> omega))⟩
    · unfold fX9_watch_27
      refine sw_sh (ci_sh c0 t_p0 rfl) ?_
      refine sw_on (vX9_goes c0 t_p0 (by (try simp only [zp, zo, zq] at u3079 h3080 u3088 h3089 ⊢) <;> (try simp only [zz, Int32.reduceToInt, ne_eq] at u3079 h3080 u3088 h3089 ⊢) <;> (try simp (disch := omega) only [zb] at u3079 h3080 u3088 h3089 ⊢) <;> first | omega | ((try simp (disch := omega) only [zb] at u3079 h3080 u3088 h3089 ⊢) <;> omega)) ) ?_
      intro q3 hqq3
      obtain ⟨cq3, gq3, xq3⟩ := hqq3
      have fq3 := fr_trans f0 gq3 rfl
      refine sw_ite (fun h3097 => ?_) (fun h3097 => ?_)
      · exact sw_some ⟨cq3, fq3, (by (try simp only [zp, zo, zq] at u3079 h3080 u3088 h3089 xq3 h3097 ⊢) <;> (try simp only [zz, Int32.reduceToInt, ne_eq] at u3079 h3080 u3088 h3089 xq3 h3097 ⊢) <;> (try simp (disch := omega) only [zb] at u3079 h3080 u3088 h3089 xq3 h3097 ⊢) <;> first | omega | ((try simp (disch := omega) only [zb] at u3079 h3080 u3088 h3089 xq3 h3097 ⊢) <;> omega))⟩
      · refine sw_sh (ci_sh cq3 t_p0 rfl) ?_
        have cs6 := ci_wI cq3 t_p0 (j := 28) (v := 1) (kr_n rfl)
        have fs6 := fr_wI fq3 t_p0 (j := 28) (v := 1) rfl
        refine sw_let (fun s6 es6 => ?_)
        rw [es6] at cs6 fs6
        have cs7 := ci_wI cs6 t_p0 (j := 29) (v := p1) (kr_n rfl)
        have fs7 := fr_wI fs6 t_p0 (j := 29) (v := p1) rfl
        refine sw_let (fun s7 es7 => ?_)
        rw [es7] at cs7 fs7
        have cs8 := ci_wI cs7 t_p0 (j := 30) (v := p2) (kr_n rfl)
        have fs8 := fr_wI fs7 t_p0 (j := 30) (v := p2) rfl
        refine sw_let (fun s8 es8 => ?_)
        rw [es8] at cs8 fs8
        have cs9 := ci_wI cs8 t_p0 (j := 31) (v := 0) (kr_n rfl)
        have fs9 := fr_wI fs8 t_p0 (j := 31) (v := 0) rfl
        refine sw_let (fun s9 es9 => ?_)
        rw [es9] at cs9 fs9
        have w3099 : mm_I s9 p0 0 = mm_I s8 p0 0 := by rw [← es9]; exact rd_j (by decide)
        have w3100 : mm_I s8 p0 0 = mm_I s7 p0 0 := by rw [← es8]; exact rd_j (by decide)
        have w3101 : mm_I s7 p0 0 = mm_I s6 p0 0 := by rw [← es7]; exact rd_j (by decide)
        have w3102 : mm_I s6 p0 0 = mm_I q3.2 p0 0 := by rw [← es6]; exact rd_j (by decide)
        exact sw_some ⟨cs9, fs9, (by (try simp only [zp, zo, zq] at u3079 h3080 u3088 h3089 xq3 h3097 w3099 w3100 w3101 w3102 ⊢) <;> (try simp only [zz, Int32.reduceToInt, ne_eq] at u3079 h3080 u3088 h3089 xq3 h3097 w3099 w3100 w3101 w3102 ⊢) <;> (try simp (disch := omega) only [zb] at u3079 h3080 u3088 h3089 xq3 h3097 w3099 w3100 w3101 w3102 ⊢) <;> first | omega | ((try simp (disch := omega) only [zb] at u3079 h3080 u3088 h3089 xq3 h3097 w3099 w3100 w3101 w3102 ⊢) <;> omega))⟩
abbrev VX8_addToTape : List Nat := [13, 804]
set_option maxHeartbeats 4000000 in
set_option maxRecDepth 10000 in
theorem vX8_addToTape_3 {T : Nat → Option Nat} {σ0 : mm_M} : ∀ (n : Nat) (a0 : Nat) (x1 : Int32) (x2 : Int32) (σ : mm_M), sCI T σ → sFR T VX8_addToTape σ0 σ → (T a0 = some 8) → (-8 ≤ x2.toInt ∧ x2.toInt ≤ 24) → (x2.toInt % 8 = 0) → (8 * (mm_I σ a0 4).toInt = 8 * (mm_I σ0 a0 4).toInt + 24 - x2.toInt) → ((mm_I σ0 a0 4).toInt ≤ 56) → x2.toInt + 8 < (n : Int) → sw (fX8_addToTape_3 n a0 x1 x2 σ) (fun R => sCI T R ∧ sFR T VX8_addToTape σ0 R ∧ ((mm_I R a0 4).toInt = (mm_I σ0 a0 4).toInt + 4)) := by
  intro n
  induction n with
  | zero => intro a0 x1 x2 σ c0 f0 t_a0 p_0 p_1 w_0 w_1 hn; exfalso; exact (by (try simp only [zp, zo, zq] at p_0 p_1 w_0 w_1 hn ⊢) <;> (try simp only [zz, Int32.reduceToInt, ne_eq] at p_0 p_1 w_0 w_1 hn ⊢) <;> (try simp (disch := omega) only [zb] at p_0 p_1 w_0 w_1 hn ⊢) <;> first | omega | ((try simp (disch := omega) only [zb] at p_0 p_1 w_0 w_1 hn ⊢) <;> omega))
  | succ n ih =>
    intro a0 x1 x2 σ c0 f0 t_a0 p_0 p_1 w_0 w_1 hn
    unfold fX8_addToTape_3
    refine sw_ite (fun h3104 => ?_) (fun h3104 => ?_)
    · have r3105 := ci_rg c0 t_a0 4 (lo := 0) (hi := 60) rfl
      exact sw_some ⟨c0, f0, (by (try simp only [zp, zo, zq] at p_0 p_1 w_0 w_1 hn h3104 r3105 ⊢) <;> (try simp only [zz, Int32.reduceToInt, ne_eq] at p_0 p_1 w_0 w_1 hn h3104 r3105 ⊢) <;> (try simp (disch := omega) only [zb] at p_0 p_1 w_0 w_1 hn h3104 r3105 ⊢) <;> first | omega | ((try simp (disch := omega) only [zb] at p_0 p_1 w_0 w_1 hn h3104 r3105 ⊢) <;> omega))⟩
    · refine sw_sh (ci_sh c0 t_a0 rfl) ?_
      have r3106 := ci_rg c0 t_a0 4 (lo := 0) (hi := 60) rfl
      refine sw_ite (fun h3107 => ?_) (fun h3107 => ?_)
      · exfalso; exact (by (try simp only [zp, zo, zq] at p_0 p_1 w_0 w_1 hn h3104 r3106 h3107 ⊢) <;> (try simp only [zz, Int32.reduceToInt, ne_eq] at p_0 p_1 w_0 w_1 hn h3104 r3106 h3107 ⊢) <;> (try simp (disch := omega) only [zb] at p_0 p_1 w_0 w_1 hn h3104 r3106 h3107 ⊢) <;> first | omega | ((try simp (disch := omega) only [zb] at p_0 p_1 w_0 w_1 hn h3104 r3106 h3107 ⊢) <;> omega))
      · obtain ⟨q4, eq4, tq4⟩ := ci_ref c0 t_a0 3 (κ' := 13) rfl
        refine sw_onS eq4 ?_
        refine sw_ar (ci_sh c0 tq4 rfl) ?_
        refine sw_ib (by (try simp only [zp, zo, zq] at p_0 p_1 w_0 w_1 hn h3104 r3106 h3107 ⊢) <;> (try simp only [zz, Int32.reduceToInt, ne_eq] at p_0 p_1 w_0 w_1 hn h3104 r3106 h3107 ⊢) <;> (try simp (disch := omega) only [zb] at p_0 p_1 w_0 w_1 hn h3104 r3106 h3107 ⊢) <;> first | omega | ((try simp (disch := omega) only [zb] at p_0 p_1 w_0 w_1 hn h3104 r3106 h3107 ⊢) <;> omega)) ?_
        have cs7 := ci_wI c0 tq4 (j := (mm_I σ a0 4).toNatClampNeg) (v := (x1 >>> ((x2 : Int32) &&& 31)) &&& 255) (kr_n rfl)
        have fs7 := fr_wI f0 tq4 (j := (mm_I σ a0 4).toNatClampNeg) (v := (x1 >>> ((x2 : Int32) &&& 31)) &&& 255) rfl
        refine sw_let (fun s7 es7 => ?_)
        rw [es7] at cs7 fs7
        have w3108 : mm_I s7 a0 4 = mm_I σ a0 4 := by rw [← es7]; exact rd_k t_a0 tq4 (by decide)
        have r3109 := ci_rg cs7 t_a0 4 (lo := 0) (hi := 60) rfl
        have cs8 := ci_wI cs7 t_a0 (j := 4) (v := (mm_I s7 a0 4) + 1) (kr_s (lo := 0) (hi := 60) rfl (by (try simp only [zp, zo, zq] at p_0 p_1 w_0 w_1 hn h3104 r3106 h3107 w3108 r3109 ⊢) <;> (try simp only [zz, Int32.reduceToInt, ne_eq] at p_0 p_1 w_0 w_1 hn h3104 r3106 h3107 w3108 r3109 ⊢) <;> (try simp (disch := omega) only [zb] at p_0 p_1 w_0 w_1 hn h3104 r3106 h3107 w3108 r3109 ⊢) <;> first | omega | ((try simp (disch := omega) only [zb] at p_0 p_1 w_0 w_1 hn h3104 r3106 h3107 w3108 r3109 ⊢) <;> omega)))
        have fs8 := fr_wI fs7 t_a0 (j := 4) (v := (mm_I s7 a0 4) + 1) rfl
        refine sw_let (fun s8 es8 => ?_)
        rw [es8] at cs8 fs8
        have w3110 : mm_I s8 a0 4 = (mm_I s7 a0 4) + 1 := by rw [← es8]; exact rd_self
        have r3111 := ci_rg cs8 t_a0 4 (lo := 0) (hi := 60) rfl
        exact ih a0 x1 (x2 + (-8)) s8 cs8 fs8 t_a0 (by (try simp only [zp, zo, zq] at p_0 p_1 w_0 w_1 hn h3104 r3106 h3107 w3108 r3109 w3110 r3111 ⊢) <;> (try simp only [zz, Int32.reduceToInt, ne_eq] at p_0 p_1 w_0 w_1 hn h3104 r3106 h3107 w3108 r3109 w3110 r3111 ⊢) <;> (try simp (disch := omega) only [zb] at p_0 p_1 w_0 w_1 hn h3104 r3106 h3107 w3108 r3109 w3110 r3111 ⊢) <;> first | omega | ((try simp (disch := omega) only [zb] at p_0 p_1 w_0 w_1 hn h3104 r3106 h3107 w3108 r3109 w3110 r3111 ⊢) <;> omega)) (by (try simp only [zp, zo, zq] at p_0 p_1 w_0 w_1 hn h3104 r3106 h3107 w3108 r3109 w3110 r3111 ⊢) <;> (try simp only [zz, Int32.reduceToInt, ne_eq] at p_0 p_1 w_0 w_1 hn h3104 r3106 h3107 w3108 r3109 w3110 r3111 ⊢) <;> (try simp (disch := omega) only [zb] at p_0 p_1 w_0 w_1 hn h3104 r3106 h3107 w3108 r3109 w3110 r3111 ⊢) <;> first | omega | ((try simp (disch := omega) only [zb] at p_0 p_1 w_0 w_1 hn h3104 r3106 h3107 w3108 r3109 w3110 r3111 ⊢) <;> omega)) (by (try simp only [zp, zo, zq] at p_0 p_1 w_0 w_1 hn h3104 r3106 h3107 w3108 r3109 w3110 r3111 ⊢) <;> (try simp only [zz, Int32.reduceToInt, ne_eq] at p_0 p_1 w_0 w_1 hn h3104 r3106 h3107 w3108 r3109 w3110 r3111 ⊢) <;> (try simp (disch := omega) only [zb] at p_0 p_1 w_0 w_1 hn h3104 r3106 h3107 w3108 r3109 w3110 r3111 ⊢) <;> first | omega | ((try simp (disch := omega) only [zb] at p_0 p_1 w_0 w_1 hn h3104 r3106 h3107 w3108 r3109 w3110 r3111 ⊢) <;> omega)) (by (try simp only [zp, zo, zq] at p_0 p_1 w_0 w_1 hn h3104 r3106 h3107 w3108 r3109 w3110 r3111 ⊢) <;> (try simp only [zz, Int32.reduceToInt, ne_eq] at p_0 p_1 w_0 w_1 hn h3104 r3106 h3107 w3108 r3109 w3110 r3111 ⊢) <;> (try simp (disch := omega) only [zb] at p_0 p_1 w_0 w_1 hn h3104 r3106 h3107 w3108 r3109 w3110 r3111 ⊢) <;> first | omega | ((try simp (disch := omega) only [zb] at p_0 p_1 w_0 w_1 hn h3104 r3106 h3107 w3108 r3109 w3110 r3111 ⊢) <;> omega)) (by (try simp only [zp, zo, zq] at p_0 p_1 w_0 w_1 hn h3104 r3106 h3107 w3108 r3109 w3110 r3111 ⊢) <;> (try simp only [zz, Int32.reduceToInt, ne_eq] at p_0 p_1 w_0 w_1 hn h3104 r3106 h3107 w3108 r3109 w3110 r3111 ⊢) <;> (try simp (disch := omega) only [zb] at p_0 p_1 w_0 w_1 hn h3104 r3106 h3107 w3108 r3109 w3110 r3111 ⊢) <;> first | omega | ((try simp (disch := omega) only [zb] at p_0 p_1 w_0 w_1 hn h3104 r3106 h3107 w3108 r3109 w3110 r3111 ⊢) <;> omega))
set_option maxHeartbeats 4000000 in
set_option maxRecDepth 10000 in
theorem vX8_addToTape {T : Nat → Option Nat} {σ0 : mm_M} {p0 : Nat} {p1 : Int32} (c0 : sCI T σ0) (t_p0 : T p0 = some 8) (w_0 : (mm_I σ0 p0 4).toInt ≤ 56) : sw (fX8_addToTape p0 p1 σ0) (fun R => sCI T R ∧ sFR T VX8_addToTape σ0 R ∧ ((mm_I R p0 4).toInt = (mm_I σ0 p0 4).toInt + 4)) := by
  have f0 : sFR T VX8_addToTape σ0 σ0 := fr_refl
  unfold fX8_addToTape
  have r3112 := ci_rg c0 t_p0 4 (lo := 0) (hi := 60) rfl
  exact vX8_addToTape_3 mm_fuel p0 p1 24 σ0 c0 f0 t_p0 (by (try simp only [zp, zo, zq] at w_0 r3112 ⊢) <;> (try simp only [zz, Int32.reduceToInt, ne_eq] at w_0 r3112 ⊢) <;> (try simp (disch := omega) only [zb] at w_0 r3112 ⊢) <;> first | omega | ((try simp (disch := omega) only [zb] at w_0 r3112 ⊢) <;> omega)) (by (try simp only [zp, zo, zq] at w_0 r3112 ⊢) <;> (try simp only [zz, Int32.reduceToInt, ne_eq] at w_0 r3112 ⊢) <;> (try simp (disch := omega) only [zb] at w_0 r3112 ⊢) <;> first | omega | ((try simp (disch := omega) only [zb] at w_0 r3112 ⊢) <;> omega)) (by (try simp only [zp, zo, zq] at w_0 r3112 ⊢) <;> (try simp only [zz, Int32.reduceToInt, ne_eq] at w_0 r3112 ⊢) <;> (try simp (disch := omega) only [zb] at w_0 r3112 ⊢) <;> first | omega | ((try simp (disch := omega) only [zb] at w_0 r3112 ⊢) <;> omega)) (by (try simp only [zp, zo, zq] at w_0 r3112 ⊢) <;> (try simp only [zz, Int32.reduceToInt, ne_eq] at w_0 r3112 ⊢) <;> (try simp (disch := omega) only [zb] at w_0 r3112 ⊢) <;> first | omega | ((try simp (disch := omega) only [zb] at w_0 r3112 ⊢) <;> omega)) (by have hz : (mm_fuel : Int) = 2000 := rfl; rw [hz]; exact (by (try simp only [zp, zo, zq] at w_0 r3112 ⊢) <;> (try simp only [zz, Int32.reduceToInt, ne_eq] at w_0 r3112 ⊢) <;> (try simp (disch := omega) only [zb] at w_0 r3112 ⊢) <;> first | omega | ((try simp (disch := omega) only [zb] at w_0 r3112 ⊢) <;> omega)))
abbrev VX8_feed : List Nat := [13, 804]
set_option maxHeartbeats 4000000 in
set_option maxRecDepth 10000 in
theorem vX8_feed {T : Nat → Option Nat} {σ0 : mm_M} {p0 : Nat} {p1 : Int32} {p2 : Int32} {p3 : Int32} {p4 : Int32} {p5 : Int32} (c0 : sCI T σ0) (hv : sFV T σ0) (t_p0 : T p0 = some 8) : sw (fX8_feed p0 p1 p2 p3 p4 p5 σ0) (fun R => sCI T R.2 ∧ sFR T VX8_feed σ0 R.2 ∧ (oi R.1 = 20)) := by
  have f0 : sFR T VX8_feed σ0 σ0 := fr_refl
  unfold fX8_feed
  refine sw_sh (ci_sh c0 t_p0 rfl) ?_
  have f3113 : mm_I σ0 p0 4 = 0 := hv p0 8 4 t_p0
  have r3114 := ci_rg c0 t_p0 4 (lo := 0) (hi := 60) rfl
  refine sw_ite (fun h3115 => ?_) (fun h3115 => ?_)
  · refine sw_on (vX8_addToTape c0 t_p0  (by (try simp only [zp, zo, zq] at f3113 r3114 h3115 ⊢) <;> (try simp only [zz, Int32.reduceToInt, ne_eq] at f3113 r3114 h3115 ⊢) <;> (try simp (disch := omega) only [zb] at f3113 r3114 h3115 ⊢) <;> first | omega | ((try simp (disch := omega) only [zb] at f3113 r3114 h3115 ⊢) <;> omega))) ?_
    intro q3 hqq3
    obtain ⟨cq3, gq3, xq3⟩ := hqq3
    have fq3 := fr_trans f0 gq3 rfl
    refine sw_sh (ci_sh cq3 t_p0 rfl) ?_
    have r3117 := ci_rg cq3 t_p0 4 (lo := 0) (hi := 60) rfl
    refine sw_on (vX8_addToTape cq3 t_p0  (by (try simp only [zp, zo, zq] at f3113 r3114 h3115 xq3 r3117 ⊢) <;> (try simp only [zz, Int32.reduceToInt, ne_eq] at f3113 r3114 h3115 xq3 r3117 ⊢) <;> (try simp (disch := omega) only [zb] at f3113 r3114 h3115 xq3 r3117 ⊢) <;> first | omega | ((try simp (disch := omega) only [zb] at f3113 r3114 h3115 xq3 r3117 ⊢) <;> omega))) ?_
    intro q5 hqq5
    obtain ⟨cq5, gq5, xq5⟩ := hqq5
    have fq5 := fr_trans fq3 gq5 rfl
    refine sw_sh (ci_sh cq5 t_p0 rfl) ?_
    have r3119 := ci_rg cq5 t_p0 4 (lo := 0) (hi := 60) rfl
    refine sw_on (vX8_addToTape cq5 t_p0  (by (try simp only [zp, zo, zq] at f3113 r3114 h3115 xq3 r3117 xq5 r3119 ⊢) <;> (try simp only [zz, Int32.reduceToInt, ne_eq] at f3113 r3114 h3115 xq3 r3117 xq5 r3119 ⊢) <;> (try simp (disch := omega) only [zb] at f3113 r3114 h3115 xq3 r3117 xq5 r3119 ⊢) <;> first | omega | ((try simp (disch := omega) only [zb] at f3113 r3114 h3115 xq3 r3117 xq5 r3119 ⊢) <;> omega))) ?_
    intro q7 hqq7
    obtain ⟨cq7, gq7, xq7⟩ := hqq7
    have fq7 := fr_trans fq5 gq7 rfl
    refine sw_sh (ci_sh cq7 t_p0 rfl) ?_
    have r3121 := ci_rg cq7 t_p0 4 (lo := 0) (hi := 60) rfl
    refine sw_on (vX8_addToTape cq7 t_p0  (by (try simp only [zp, zo, zq] at f3113 r3114 h3115 xq3 r3117 xq5 r3119 xq7 r3121 ⊢) <;> (try simp only [zz, Int32.reduceToInt, ne_eq] at f3113 r3114 h3115 xq3 r3117 xq5 r3119 xq7 r3121 ⊢) <;> (try simp (disch := omega) only [zb] at f3113 r3114 h3115 xq3 r3117 xq5 r3119 xq7 r3121 ⊢) <;> first | omega | ((try simp (disch := omega) only [zb] at f3113 r3114 h3115 xq3 r3117 xq5 r3119 xq7 r3121 ⊢) <;> omega))) ?_
    intro q9 hqq9
    obtain ⟨cq9, gq9, xq9⟩ := hqq9
    have fq9 := fr_trans fq7 gq9 rfl
    refine sw_sh (ci_sh cq9 t_p0 rfl) ?_
    have r3123 := ci_rg cq9 t_p0 4 (lo := 0) (hi := 60) rfl
    refine sw_on (vX8_addToTape cq9 t_p0  (by (try simp only [zp, zo, zq] at f3113 r3114 h3115 xq3 r3117 xq5 r3119 xq7 r3121 xq9 r3123 ⊢) <;> (try simp only [zz, Int32.reduceToInt, ne_eq] at f3113 r3114 h3115 xq3 r3117 xq5 r3119 xq7 r3121 xq9 r3123 ⊢) <;> (try simp (disch := omega) only [zb] at f3113 r3114 h3115 xq3 r3117 xq5 r3119 xq7 r3121 xq9 r3123 ⊢) <;> first | omega | ((try simp (disch := omega) only [zb] at f3113 r3114 h3115 xq3 r3117 xq5 r3119 xq7 r3121 xq9 r3123 ⊢) <;> omega))) ?_
    intro q11 hqq11
    obtain ⟨cq11, gq11, xq11⟩ := hqq11
    have fq11 := fr_trans fq9 gq11 rfl
    refine sw_sh (ci_sh cq11 t_p0 rfl) ?_
    have r3125 := ci_rg cq11 t_p0 4 (lo := 0) (hi := 60) rfl
    exact sw_some ⟨cq11, fq11, (by (try simp only [zp, zo, zq] at f3113 r3114 h3115 xq3 r3117 xq5 r3119 xq7 r3121 xq9 r3123 xq11 r3125 ⊢) <;> (try simp only [zz, Int32.reduceToInt, ne_eq] at f3113 r3114 h3115 xq3 r3117 xq5 r3119 xq7 r3121 xq9 r3123 xq11 r3125 ⊢) <;> (try simp (disch := omega) only [zb] at f3113 r3114 h3115 xq3 r3117 xq5 r3119 xq7 r3121 xq9 r3123 xq11 r3125 ⊢) <;> first | omega | ((try simp (disch := omega) only [zb] at f3113 r3114 h3115 xq3 r3117 xq5 r3119 xq7 r3121 xq9 r3123 xq11 r3125 ⊢) <;> omega))⟩
  · exact sw_some ⟨c0, f0, (by (try simp only [zp, zo, zq] at f3113 r3114 h3115 ⊢) <;> (try simp only [zz, Int32.reduceToInt, ne_eq] at f3113 r3114 h3115 ⊢) <;> (try simp (disch := omega) only [zb] at f3113 r3114 h3115 ⊢) <;> first | omega | ((try simp (disch := omega) only [zb] at f3113 r3114 h3115 ⊢) <;> omega))⟩
abbrev VX9_feed : List Nat := [61, 900, 912]
set_option maxHeartbeats 4000000 in
set_option maxRecDepth 10000 in
theorem vX9_feed_29 {T : Nat → Option Nat} {σ0 : mm_M} : ∀ (n : Nat) (a0 : Nat) (x1 : Int32) (x2 : Int32) (x3 : Int32) (x4 : Int32) (x5 : Int32) (x6 : Int32) (σ : mm_M), sCI T σ → sFR T VX9_feed σ0 σ → (T a0 = some 9) → (0 ≤ x6.toInt ∧ x6.toInt ≤ 20) → ((mm_I σ a0 12).toInt = x6.toInt) → ((mm_I σ a0 0).toInt = 0) → 20 - x6.toInt < (n : Int) → sw (fX9_feed_29 n a0 x1 x2 x3 x4 x5 x6 σ) (fun R => sCI T R.2 ∧ sFR T VX9_feed σ0 R.2 ∧ (R.1.toInt = 20 ∧ (mm_I R.2 a0 0).toInt = 0)) := by
  intro n
  induction n with
  | zero => intro a0 x1 x2 x3 x4 x5 x6 σ c0 f0 t_a0 p_0 w_0 w_1 hn; exfalso; exact (by (try simp only [zp, zo, zq] at p_0 w_0 w_1 hn ⊢) <;> (try simp only [zz, Int32.reduceToInt, ne_eq] at p_0 w_0 w_1 hn ⊢) <;> (try simp (disch := omega) only [zb] at p_0 w_0 w_1 hn ⊢) <;> first | omega | ((try simp (disch := omega) only [zb] at p_0 w_0 w_1 hn ⊢) <;> omega))
  | succ n ih =>
    intro a0 x1 x2 x3 x4 x5 x6 σ c0 f0 t_a0 p_0 w_0 w_1 hn
    unfold fX9_feed_29
    refine sw_ite (fun h3126 => ?_) (fun h3126 => ?_)
    · refine sw_sh (ci_sh c0 t_a0 rfl) ?_
      have r3127 := ci_rg c0 t_a0 12 (lo := 0) (hi := 60) rfl
      exact sw_some ⟨c0, f0, (by (try simp only [zp, zo, zq] at p_0 w_0 w_1 hn h3126 r3127 ⊢) <;> (try simp only [zz, Int32.reduceToInt, ne_eq] at p_0 w_0 w_1 hn h3126 r3127 ⊢) <;> (try simp (disch := omega) only [zb] at p_0 w_0 w_1 hn h3126 r3127 ⊢) <;> first | omega | ((try simp (disch := omega) only [zb] at p_0 w_0 w_1 hn h3126 r3127 ⊢) <;> omega))⟩
    · refine sw_ite (fun h3128 => ?_) (fun h3128 => ?_)
      · refine sw_ite (fun h3129 => ?_) (fun h3129 => ?_)
        · refine sw_ite (fun h3130 => ?_) (fun h3130 => ?_)
          · refine sw_ite (fun h3131 => ?_) (fun h3131 => ?_)
            · unfold fX9_feed_82
              refine sw_sh (ci_sh c0 t_a0 rfl) ?_
              obtain ⟨q13, eq13, tq13⟩ := ci_ref c0 t_a0 11 (κ' := 61) rfl
              refine sw_onS eq13 ?_
              refine sw_ar (ci_sh c0 tq13 rfl) ?_
              have r3132 := ci_rg c0 t_a0 12 (lo := 0) (hi := 60) rfl
              refine sw_ib (by (try simp only [zp, zo, zq] at p_0 w_0 w_1 hn h3126 h3128 h3129 h3130 h3131 r3132 ⊢) <;> (try simp only [zz, Int32.reduceToInt, ne_eq] at p_0 w_0 w_1 hn h3126 h3128 h3129 h3130 h3131 r3132 ⊢) <;> (try simp (disch := omega) only [zb] at p_0 w_0 w_1 hn h3126 h3128 h3129 h3130 h3131 r3132 ⊢) <;> first | omega | ((try simp (disch := omega) only [zb] at p_0 w_0 w_1 hn h3126 h3128 h3129 h3130 h3131 r3132 ⊢) <;> omega)) ?_
              have cs16 := ci_wI c0 tq13 (j := (mm_I σ a0 12).toNatClampNeg) (v := ((x5 >>> (((24 - (8 * (x6 - x6 / 4 * 4))) : Int32) &&& 31)).toInt8.toInt32).toInt8.toInt32) (kr_n rfl)
              have fs16 := fr_wI f0 tq13 (j := (mm_I σ a0 12).toNatClampNeg) (v := ((x5 >>> (((24 - (8 * (x6 - x6 / 4 * 4))) : Int32) &&& 31)).toInt8.toInt32).toInt8.toInt32) rfl
              refine sw_let (fun s16 es16 => ?_)
              rw [es16] at cs16 fs16
              have w3133 : mm_I s16 a0 12 = mm_I σ a0 12 := by rw [← es16]; exact rd_k t_a0 tq13 (by decide)
              have r3134 := ci_rg cs16 t_a0 12 (lo := 0) (hi := 60) rfl
              have cs17 := ci_wI cs16 t_a0 (j := 12) (v := (mm_I s16 a0 12) + 1) (kr_s (lo := 0) (hi := 60) rfl (by (try simp only [zp, zo, zq] at p_0 w_0 w_1 hn h3126 h3128 h3129 h3130 h3131 r3132 w3133 r3134 ⊢) <;> (try simp only [zz, Int32.reduceToInt, ne_eq] at p_0 w_0 w_1 hn h3126 h3128 h3129 h3130 h3131 r3132 w3133 r3134 ⊢) <;> (try simp (disch := omega) only [zb] at p_0 w_0 w_1 hn h3126 h3128 h3129 h3130 h3131 r3132 w3133 r3134 ⊢) <;> first | omega | ((try simp (disch := omega) only [zb] at p_0 w_0 w_1 hn h3126 h3128 h3129 h3130 h3131 r3132 w3133 r3134 ⊢) <;> omega)))
              have fs17 := fr_wI fs16 t_a0 (j := 12) (v := (mm_I s16 a0 12) + 1) rfl
              refine sw_let (fun s17 es17 => ?_)
              rw [es17] at cs17 fs17
              have w3135 : mm_I s17 a0 12 = (mm_I s16 a0 12) + 1 := by rw [← es17]; exact rd_self
              have r3136 := ci_rg cs17 t_a0 12 (lo := 0) (hi := 60) rfl
              have w3137 : mm_I s17 a0 0 = mm_I s16 a0 0 := by rw [← es17]; exact rd_j (by decide)
              have w3138 : mm_I s16 a0 0 = mm_I σ a0 0 := by rw [← es16]; exact rd_k t_a0 tq13 (by decide)
              exact ih a0 x1 x2 x3 x4 x5 (x6 + 1) s17 cs17 fs17 t_a0 (by (try simp only [zp, zo, zq] at p_0 w_0 w_1 hn h3126 h3128 h3129 h3130 h3131 r3132 w3133 r3134 w3135 r3136 w3137 w3138 ⊢) <;> (try simp only [zz, Int32.reduceToInt, ne_eq] at p_0 w_0 w_1 hn h3126 h3128 h3129 h3130 h3131 r3132 w3133 r3134 w3135 r3136 w3137 w3138 ⊢) <;> (try simp (disch := omega) only [zb] at p_0 w_0 w_1 hn h3126 h3128 h3129 h3130 h3131 r3132 w3133 r3134 w3135 r3136 w3137 w3138 ⊢) <;> first | omega | ((try simp (disch := omega) only [zb] at p_0 w_0 w_1 hn h3126 h3128 h3129 h3130 h3131 r3132 w3133 r3134 w3135 r3136 w3137 w3138 ⊢) <;> omega)) (by (try simp only [zp, zo, zq] at p_0 w_0 w_1 hn h3126 h3128 h3129 h3130 h3131 r3132 w3133 r3134 w3135 r3136 w3137 w3138 ⊢) <;> (try simp only [zz, Int32.reduceToInt, ne_eq] at p_0 w_0 w_1 hn h3126 h3128 h3129 h3130 h3131 r3132 w3133 r3134 w3135 r3136 w3137 w3138 ⊢) <;> (try simp (disch := omega) only [zb] at p_0 w_0 w_1 hn h3126 h3128 h3129 h3130 h3131 r3132 w3133 r3134 w3135 r3136 w3137 w3138 ⊢) <;> first | omega | ((try simp (disch := omega) only [zb] at p_0 w_0 w_1 hn h3126 h3128 h3129 h3130 h3131 r3132 w3133 r3134 w3135 r3136 w3137 w3138 ⊢) <;> omega)) (by (try simp only [zp, zo, zq] at p_0 w_0 w_1 hn h3126 h3128 h3129 h3130 h3131 r3132 w3133 r3134 w3135 r3136 w3137 w3138 ⊢) <;> (try simp only [zz, Int32.reduceToInt, ne_eq] at p_0 w_0 w_1 hn h3126 h3128 h3129 h3130 h3131 r3132 w3133 r3134 w3135 r3136 w3137 w3138 ⊢) <;> (try simp (disch := omega) only [zb] at p_0 w_0 w_1 hn h3126 h3128 h3129 h3130 h3131 r3132 w3133 r3134 w3135 r3136 w3137 w3138 ⊢) <;> first | omega | ((try simp (disch := omega) only [zb] at p_0 w_0 w_1 hn h3126 h3128 h3129 h3130 h3131 r3132 w3133 r3134 w3135 r3136 w3137 w3138 ⊢) <;> omega)) (by (try simp only [zp, zo, zq] at p_0 w_0 w_1 hn h3126 h3128 h3129 h3130 h3131 r3132 w3133 r3134 w3135 r3136 w3137 w3138 ⊢) <;> (try simp only [zz, Int32.reduceToInt, ne_eq] at p_0 w_0 w_1 hn h3126 h3128 h3129 h3130 h3131 r3132 w3133 r3134 w3135 r3136 w3137 w3138 ⊢) <;> (try simp (disch := omega) only [zb] at p_0 w_0 w_1 hn h3126 h3128 h3129 h3130 h3131 r3132 w3133 r3134 w3135 r3136 w3137 w3138 ⊢) <;> first | omega | ((try simp (disch := omega) only [zb] at p_0 w_0 w_1 hn h3126 h3128 h3129 h3130 h3131 r3132 w3133 r3134 w3135 r3136 w3137 w3138 ⊢) <;> omega))
            · unfold fX9_feed_82
              refine sw_sh (ci_sh c0 t_a0 rfl) ?_
              obtain ⟨q13, eq13, tq13⟩ := ci_ref c0 t_a0 11 (κ' := 61) rfl
              refine sw_onS eq13 ?_
              refine sw_ar (ci_sh c0 tq13 rfl) ?_
              have r3139 := ci_rg c0 t_a0 12 (lo := 0) (hi := 60) rfl
              refine sw_ib (by (try simp only [zp, zo, zq] at p_0 w_0 w_1 hn h3126 h3128 h3129 h3130 h3131 r3139 ⊢) <;> (try simp only [zz, Int32.reduceToInt, ne_eq] at p_0 w_0 w_1 hn h3126 h3128 h3129 h3130 h3131 r3139 ⊢) <;> (try simp (disch := omega) only [zb] at p_0 w_0 w_1 hn h3126 h3128 h3129 h3130 h3131 r3139 ⊢) <;> first | omega | ((try simp (disch := omega) only [zb] at p_0 w_0 w_1 hn h3126 h3128 h3129 h3130 h3131 r3139 ⊢) <;> omega)) ?_
              have cs16 := ci_wI c0 tq13 (j := (mm_I σ a0 12).toNatClampNeg) (v := ((x4 >>> (((24 - (8 * (x6 - x6 / 4 * 4))) : Int32) &&& 31)).toInt8.toInt32).toInt8.toInt32) (kr_n rfl)
              have fs16 := fr_wI f0 tq13 (j := (mm_I σ a0 12).toNatClampNeg) (v := ((x4 >>> (((24 - (8 * (x6 - x6 / 4 * 4))) : Int32) &&& 31)).toInt8.toInt32).toInt8.toInt32) rfl
              refine sw_let (fun s16 es16 => ?_)
              rw [es16] at cs16 fs16
              have w3140 : mm_I s16 a0 12 = mm_I σ a0 12 := by rw [← es16]; exact rd_k t_a0 tq13 (by decide)
              have r3141 := ci_rg cs16 t_a0 12 (lo := 0) (hi := 60) rfl
              have cs17 := ci_wI cs16 t_a0 (j := 12) (v := (mm_I s16 a0 12) + 1) (kr_s (lo := 0) (hi := 60) rfl (by (try simp only [zp, zo, zq] at p_0 w_0 w_1 hn h3126 h3128 h3129 h3130 h3131 r3139 w3140 r3141 ⊢) <;> (try simp only [zz, Int32.reduceToInt, ne_eq] at p_0 w_0 w_1 hn h3126 h3128 h3129 h3130 h3131 r3139 w3140 r3141 ⊢) <;> (try simp (disch := omega) only [zb] at p_0 w_0 w_1 hn h3126 h3128 h3129 h3130 h3131 r3139 w3140 r3141 ⊢) <;> first | omega | ((try simp (disch := omega) only [zb] at p_0 w_0 w_1 hn h3126 h3128 h3129 h3130 h3131 r3139 w3140 r3141 ⊢) <;> omega)))
              have fs17 := fr_wI fs16 t_a0 (j := 12) (v := (mm_I s16 a0 12) + 1) rfl
              refine sw_let (fun s17 es17 => ?_)
              rw [es17] at cs17 fs17
              have w3142 : mm_I s17 a0 12 = (mm_I s16 a0 12) + 1 := by rw [← es17]; exact rd_self
              have r3143 := ci_rg cs17 t_a0 12 (lo := 0) (hi := 60) rfl
              have w3144 : mm_I s17 a0 0 = mm_I s16 a0 0 := by rw [← es17]; exact rd_j (by decide)
              have w3145 : mm_I s16 a0 0 = mm_I σ a0 0 := by rw [← es16]; exact rd_k t_a0 tq13 (by decide)
              exact ih a0 x1 x2 x3 x4 x5 (x6 + 1) s17 cs17 fs17 t_a0 (by (try simp only [zp, zo, zq] at p_0 w_0 w_1 hn h3126 h3128 h3129 h3130 h3131 r3139 w3140 r3141 w3142 r3143 w3144 w3145 ⊢) <;> (try simp only [zz, Int32.reduceToInt, ne_eq] at p_0 w_0 w_1 hn h3126 h3128 h3129 h3130 h3131 r3139 w3140 r3141 w3142 r3143 w3144 w3145 ⊢) <;> (try simp (disch := omega) only [zb] at p_0 w_0 w_1 hn h3126 h3128 h3129 h3130 h3131 r3139 w3140 r3141 w3142 r3143 w3144 w3145 ⊢) <;> first | omega | ((try simp (disch := omega) only [zb] at p_0 w_0 w_1 hn h3126 h3128 h3129 h3130 h3131 r3139 w3140 r3141 w3142 r3143 w3144 w3145 ⊢) <;> omega)) (by (try simp only [zp, zo, zq] at p_0 w_0 w_1 hn h3126 h3128 h3129 h3130 h3131 r3139 w3140 r3141 w3142 r3143 w3144 w3145 ⊢) <;> (try simp only [zz, Int32.reduceToInt, ne_eq] at p_0 w_0 w_1 hn h3126 h3128 h3129 h3130 h3131 r3139 w3140 r3141 w3142 r3143 w3144 w3145 ⊢) <;> (try simp (disch := omega) only [zb] at p_0 w_0 w_1 hn h3126 h3128 h3129 h3130 h3131 r3139 w3140 r3141 w3142 r3143 w3144 w3145 ⊢) <;> first | omega | ((try simp (disch := omega) only [zb] at p_0 w_0 w_1 hn h3126 h3128 h3129 h3130 h3131 r3139 w3140 r3141 w3142 r3143 w3144 w3145 ⊢) <;> omega)) (by (try simp only [zp, zo, zq] at p_0 w_0 w_1 hn h3126 h3128 h3129 h3130 h3131 r3139 w3140 r3141 w3142 r3143 w3144 w3145 ⊢) <;> (try simp only [zz, Int32.reduceToInt, ne_eq] at p_0 w_0 w_1 hn h3126 h3128 h3129 h3130 h3131 r3139 w3140 r3141 w3142 r3143 w3144 w3145 ⊢) <;> (try simp (disch := omega) only [zb] at p_0 w_0 w_1 hn h3126 h3128 h3129 h3130 h3131 r3139 w3140 r3141 w3142 r3143 w3144 w3145 ⊢) <;> first | omega | ((try simp (disch := omega) only [zb] at p_0 w_0 w_1 hn h3126 h3128 h3129 h3130 h3131 r3139 w3140 r3141 w3142 r3143 w3144 w3145 ⊢) <;> omega)) (by (try simp only [zp, zo, zq] at p_0 w_0 w_1 hn h3126 h3128 h3129 h3130 h3131 r3139 w3140 r3141 w3142 r3143 w3144 w3145 ⊢) <;> (try simp only [zz, Int32.reduceToInt, ne_eq] at p_0 w_0 w_1 hn h3126 h3128 h3129 h3130 h3131 r3139 w3140 r3141 w3142 r3143 w3144 w3145 ⊢) <;> (try simp (disch := omega) only [zb] at p_0 w_0 w_1 hn h3126 h3128 h3129 h3130 h3131 r3139 w3140 r3141 w3142 r3143 w3144 w3145 ⊢) <;> first | omega | ((try simp (disch := omega) only [zb] at p_0 w_0 w_1 hn h3126 h3128 h3129 h3130 h3131 r3139 w3140 r3141 w3142 r3143 w3144 w3145 ⊢) <;> omega))
          · unfold fX9_feed_82
            refine sw_sh (ci_sh c0 t_a0 rfl) ?_
            obtain ⟨q13, eq13, tq13⟩ := ci_ref c0 t_a0 11 (κ' := 61) rfl
            refine sw_onS eq13 ?_
            refine sw_ar (ci_sh c0 tq13 rfl) ?_
            have r3146 := ci_rg c0 t_a0 12 (lo := 0) (hi := 60) rfl
            refine sw_ib (by (try simp only [zp, zo, zq] at p_0 w_0 w_1 hn h3126 h3128 h3129 h3130 r3146 ⊢) <;> (try simp only [zz, Int32.reduceToInt, ne_eq] at p_0 w_0 w_1 hn h3126 h3128 h3129 h3130 r3146 ⊢) <;> (try simp (disch := omega) only [zb] at p_0 w_0 w_1 hn h3126 h3128 h3129 h3130 r3146 ⊢) <;> first | omega | ((try simp (disch := omega) only [zb] at p_0 w_0 w_1 hn h3126 h3128 h3129 h3130 r3146 ⊢) <;> omega)) ?_
            have cs16 := ci_wI c0 tq13 (j := (mm_I σ a0 12).toNatClampNeg) (v := ((x3 >>> (((24 - (8 * (x6 - x6 / 4 * 4))) : Int32) &&& 31)).toInt8.toInt32).toInt8.toInt32) (kr_n rfl)
            have fs16 := fr_wI f0 tq13 (j := (mm_I σ a0 12).toNatClampNeg) (v := ((x3 >>> (((24 - (8 * (x6 - x6 / 4 * 4))) : Int32) &&& 31)).toInt8.toInt32).toInt8.toInt32) rfl
            refine sw_let (fun s16 es16 => ?_)
            rw [es16] at cs16 fs16
            have w3147 : mm_I s16 a0 12 = mm_I σ a0 12 := by rw [← es16]; exact rd_k t_a0 tq13 (by decide)
            have r3148 := ci_rg cs16 t_a0 12 (lo := 0) (hi := 60) rfl
            have cs17 := ci_wI cs16 t_a0 (j := 12) (v := (mm_I s16 a0 12) + 1) (kr_s (lo := 0) (hi := 60) rfl (by (try simp only [zp, zo, zq] at p_0 w_0 w_1 hn h3126 h3128 h3129 h3130 r3146 w3147 r3148 ⊢) <;> (try simp only [zz, Int32.reduceToInt, ne_eq] at p_0 w_0 w_1 hn h3126 h3128 h3129 h3130 r3146 w3147 r3148 ⊢) <;> (try simp (disch := omega) only [zb] at p_0 w_0 w_1 hn h3126 h3128 h3129 h3130 r3146 w3147 r3148 ⊢) <;> first | omega | ((try simp (disch := omega) only [zb] at p_0 w_0 w_1 hn h3126 h3128 h3129 h3130 r3146 w3147 r3148 ⊢) <;> omega)))
            have fs17 := fr_wI fs16 t_a0 (j := 12) (v := (mm_I s16 a0 12) + 1) rfl
            refine sw_let (fun s17 es17 => ?_)
            rw [es17] at cs17 fs17
            have w3149 : mm_I s17 a0 12 = (mm_I s16 a0 12) + 1 := by rw [← es17]; exact rd_self
            have r3150 := ci_rg cs17 t_a0 12 (lo := 0) (hi := 60) rfl
            have w3151 : mm_I s17 a0 0 = mm_I s16 a0 0 := by rw [← es17]; exact rd_j (by decide)
            have w3152 : mm_I s16 a0 0 = mm_I σ a0 0 := by rw [← es16]; exact rd_k t_a0 tq13 (by decide)
            exact ih a0 x1 x2 x3 x4 x5 (x6 + 1) s17 cs17 fs17 t_a0 (by (try simp only [zp, zo, zq] at p_0 w_0 w_1 hn h3126 h3128 h3129 h3130 r3146 w3147 r3148 w3149 r3150 w3151 w3152 ⊢) <;> (try simp only [zz, Int32.reduceToInt, ne_eq] at p_0 w_0 w_1 hn h3126 h3128 h3129 h3130 r3146 w3147 r3148 w3149 r3150 w3151 w3152 ⊢) <;> (try simp (disch := omega) only [zb] at p_0 w_0 w_1 hn h3126 h3128 h3129 h3130 r3146 w3147 r3148 w3149 r3150 w3151 w3152 ⊢) <;> first | omega | ((try simp (disch := omega) only [zb] at p_0 w_0 w_1 hn h3126 h3128 h3129 h3130 r3146 w3147 r3148 w3149 r3150 w3151 w3152 ⊢) <;> omega)) (by (try simp only [zp, zo, zq] at p_0 w_0 w_1 hn h3126 h3128 h3129 h3130 r3146 w3147 r3148 w3149 r3150 w3151 w3152 ⊢) <;> (try simp only [zz, Int32.reduceToInt, ne_eq] at p_0 w_0 w_1 hn h3126 h3128 h3129 h3130 r3146 w3147 r3148 w3149 r3150 w3151 w3152 ⊢) <;> (try simp (disch := omega) only [zb] at p_0 w_0 w_1 hn h3126 h3128 h3129 h3130 r3146 w3147 r3148 w3149 r3150 w3151 w3152 ⊢) <;> first | omega | ((try simp (disch := omega) only [zb] at p_0 w_0 w_1 hn h3126 h3128 h3129 h3130 r3146 w3147 r3148 w3149 r3150 w3151 w3152 ⊢) <;> omega)) (by (try simp only [zp, zo, zq] at p_0 w_0 w_1 hn h3126 h3128 h3129 h3130 r3146 w3147 r3148 w3149 r3150 w3151 w3152 ⊢) <;> (try simp only [zz, Int32.reduceToInt, ne_eq] at p_0 w_0 w_1 hn h3126 h3128 h3129 h3130 r3146 w3147 r3148 w3149 r3150 w3151 w3152 ⊢) <;> (try simp (disch := omega) only [zb] at p_0 w_0 w_1 hn h3126 h3128 h3129 h3130 r3146 w3147 r3148 w3149 r3150 w3151 w3152 ⊢) <;> first | omega | ((try simp (disch := omega) only [zb] at p_0 w_0 w_1 hn h3126 h3128 h3129 h3130 r3146 w3147 r3148 w3149 r3150 w3151 w3152 ⊢) <;> omega)) (by (try simp only [zp, zo, zq] at p_0 w_0 w_1 hn h3126 h3128 h3129 h3130 r3146 w3147 r3148 w3149 r3150 w3151 w3152 ⊢) <;> (try simp only [zz, Int32.reduceToInt, ne_eq] at p_0 w_0 w_1 hn h3126 h3128 h3129 h3130 r3146 w3147 r3148 w3149 r3150 w3151 w3152 ⊢) <;> (try simp (disch := omega) only [zb] at p_0 w_0 w_1 hn h3126 h3128 h3129 h3130 r3146 w3147 r3148 w3149 r3150 w3151 w3152 ⊢) <;> first | omega | ((try simp (disch := omega) only [zb] at p_0 w_0 w_1 hn h3126 h3128 h3129 h3130 r3146 w3147 r3148 w3149 r3150 w3151 w3152 ⊢) <;> omega))
        · unfold fX9_feed_82
          refine sw_sh (ci_sh c0 t_a0 rfl) ?_
          obtain ⟨q13, eq13, tq13⟩ := ci_ref c0 t_a0 11 (κ' := 61) rfl
          refine sw_onS eq13 ?_
          refine sw_ar (ci_sh c0 tq13 rfl) ?_
          have r3153 := ci_rg c0 t_a0 12 (lo := 0) (hi := 60) rfl
          refine sw_ib (by (try simp only [zp, zo, zq] at p_0 w_0 w_1 hn h3126 h3128 h3129 r3153 ⊢) <;> (try simp only [zz, Int32.reduceToInt, ne_eq] at p_0 w_0 w_1 hn h3126 h3128 h3129 r3153 ⊢) <;> (try simp (disch := omega) only [zb] at p_0 w_0 w_1 hn h3126 h3128 h3129 r3153 ⊢) <;> first | omega | ((try simp (disch := omega) only [zb] at p_0 w_0 w_1 hn h3126 h3128 h3129 r3153 ⊢) <;> omega)) ?_
          have cs16 := ci_wI c0 tq13 (j := (mm_I σ a0 12).toNatClampNeg) (v := ((x2 >>> (((24 - (8 * (x6 - x6 / 4 * 4))) : Int32) &&& 31)).toInt8.toInt32).toInt8.toInt32) (kr_n rfl)
          have fs16 := fr_wI f0 tq13 (j := (mm_I σ a0 12).toNatClampNeg) (v := ((x2 >>> (((24 - (8 * (x6 - x6 / 4 * 4))) : Int32) &&& 31)).toInt8.toInt32).toInt8.toInt32) rfl
          refine sw_let (fun s16 es16 => ?_)
          rw [es16] at cs16 fs16
          have w3154 : mm_I s16 a0 12 = mm_I σ a0 12 := by rw [← es16]; exact rd_k t_a0 tq13 (by decide)
          have r3155 := ci_rg cs16 t_a0 12 (lo := 0) (hi := 60) rfl
          have cs17 := ci_wI cs16 t_a0 (j := 12) (v := (mm_I s16 a0 12) + 1) (kr_s (lo := 0) (hi := 60) rfl (by (try simp only [zp, zo, zq] at p_0 w_0 w_1 hn h3126 h3128 h3129 r3153 w3154 r3155 ⊢) <;> (try simp only [zz, Int32.reduceToInt, ne_eq] at p_0 w_0 w_1 hn h3126 h3128 h3129 r3153 w3154 r3155 ⊢) <;> (try simp (disch := omega) only [zb] at p_0 w_0 w_1 hn h3126 h3128 h3129 r3153 w3154 r3155 ⊢) <;> first | omega | ((try simp (disch := omega) only [zb] at p_0 w_0 w_1 hn h3126 h3128 h3129 r3153 w3154 r3155 ⊢) <;> omega)))
          have fs17 := fr_wI fs16 t_a0 (j := 12) (v := (mm_I s16 a0 12) + 1) rfl
          refine sw_let (fun s17 es17 => ?_)
          rw [es17] at cs17 fs17
          have w3156 : mm_I s17 a0 12 = (mm_I s16 a0 12) + 1 := by rw [← es17]; exact rd_self
          have r3157 := ci_rg cs17 t_a0 12 (lo := 0) (hi := 60) rfl
          have w3158 : mm_I s17 a0 0 = mm_I s16 a0 0 := by rw [← es17]; exact rd_j (by decide)
          have w3159 : mm_I s16 a0 0 = mm_I σ a0 0 := by rw [← es16]; exact rd_k t_a0 tq13 (by decide)
          exact ih a0 x1 x2 x3 x4 x5 (x6 + 1) s17 cs17 fs17 t_a0 (by (try simp only [zp, zo, zq] at p_0 w_0 w_1 hn h3126 h3128 h3129 r3153 w3154 r3155 w3156 r3157 w3158 w3159 ⊢) <;> (try simp only [zz, Int32.reduceToInt, ne_eq] at p_0 w_0 w_1 hn h3126 h3128 h3129 r3153 w3154 r3155 w3156 r3157 w3158 w3159 ⊢) <;> (try simp (disch := omega) only [zb] at p_0 w_0 w_1 hn h3126 h3128 h3129 r3153 w3154 r3155 w3156 r3157 w3158 w3159 ⊢) <;> first | omega | ((try simp (disch := omega) only [zb] at p_0 w_0 w_1 hn h3126 h3128 h3129 r3153 w3154 r3155 w3156 r3157 w3158 w3159 ⊢) <;> omega)) (by (try simp only [zp, zo, zq] at p_0 w_0 w_1 hn h3126 h3128 h3129 r3153 w3154 r3155 w3156 r3157 w3158 w3159 ⊢) <;> (try simp only [zz, Int32.reduceToInt, ne_eq] at p_0 w_0 w_1 hn h3126 h3128 h3129 r3153 w3154 r3155 w3156 r3157 w3158 w3159 ⊢) <;> (try simp (disch := omega) only [zb] at p_0 w_0 w_1 hn h3126 h3128 h3129 r3153 w3154 r3155 w3156 r3157 w3158 w3159 ⊢) <;> first | omega | ((try simp (disch := omega) only [zb] at p_0 w_0 w_1 hn h3126 h3128 h3129 r3153 w3154 r3155 w3156 r3157 w3158 w3159 ⊢) <;> omega)) (by (try simp only [zp, zo, zq] at p_0 w_0 w_1 hn h3126 h3128 h3129 r3153 w3154 r3155 w3156 r3157 w3158 w3159 ⊢) <;> (try simp only [zz, Int32.reduceToInt, ne_eq] at p_0 w_0 w_1 hn h3126 h3128 h3129 r3153 w3154 r3155 w3156 r3157 w3158 w3159 ⊢) <;> (try simp (disch := omega) only [zb] at p_0 w_0 w_1 hn h3126 h3128 h3129 r3153 w3154 r3155 w3156 r3157 w3158 w3159 ⊢) <;> first | omega | ((try simp (disch := omega) only [zb] at p_0 w_0 w_1 hn h3126 h3128 h3129 r3153 w3154 r3155 w3156 r3157 w3158 w3159 ⊢) <;> omega)) (by (try simp only [zp, zo, zq] at p_0 w_0 w_1 hn h3126 h3128 h3129 r3153 w3154 r3155 w3156 r3157 w3158 w3159 ⊢) <;> (try simp only [zz, Int32.reduceToInt, ne_eq] at p_0 w_0 w_1 hn h3126 h3128 h3129 r3153 w3154 r3155 w3156 r3157 w3158 w3159 ⊢) <;> (try simp (disch := omega) only [zb] at p_0 w_0 w_1 hn h3126 h3128 h3129 r3153 w3154 r3155 w3156 r3157 w3158 w3159 ⊢) <;> first | omega | ((try simp (disch := omega) only [zb] at p_0 w_0 w_1 hn h3126 h3128 h3129 r3153 w3154 r3155 w3156 r3157 w3158 w3159 ⊢) <;> omega))
      · unfold fX9_feed_82
        refine sw_sh (ci_sh c0 t_a0 rfl) ?_
        obtain ⟨q13, eq13, tq13⟩ := ci_ref c0 t_a0 11 (κ' := 61) rfl
        refine sw_onS eq13 ?_
        refine sw_ar (ci_sh c0 tq13 rfl) ?_
        have r3160 := ci_rg c0 t_a0 12 (lo := 0) (hi := 60) rfl
        refine sw_ib (by (try simp only [zp, zo, zq] at p_0 w_0 w_1 hn h3126 h3128 r3160 ⊢) <;> (try simp only [zz, Int32.reduceToInt, ne_eq] at p_0 w_0 w_1 hn h3126 h3128 r3160 ⊢) <;> (try simp (disch := omega) only [zb] at p_0 w_0 w_1 hn h3126 h3128 r3160 ⊢) <;> first | omega | ((try simp (disch := omega) only [zb] at p_0 w_0 w_1 hn h3126 h3128 r3160 ⊢) <;> omega)) ?_
        have cs16 := ci_wI c0 tq13 (j := (mm_I σ a0 12).toNatClampNeg) (v := ((x1 >>> (((24 - (8 * (x6 - x6 / 4 * 4))) : Int32) &&& 31)).toInt8.toInt32).toInt8.toInt32) (kr_n rfl)
        have fs16 := fr_wI f0 tq13 (j := (mm_I σ a0 12).toNatClampNeg) (v := ((x1 >>> (((24 - (8 * (x6 - x6 / 4 * 4))) : Int32) &&& 31)).toInt8.toInt32).toInt8.toInt32) rfl
        refine sw_let (fun s16 es16 => ?_)
        rw [es16] at cs16 fs16
        have w3161 : mm_I s16 a0 12 = mm_I σ a0 12 := by rw [← es16]; exact rd_k t_a0 tq13 (by decide)
        have r3162 := ci_rg cs16 t_a0 12 (lo := 0) (hi := 60) rfl
        have cs17 := ci_wI cs16 t_a0 (j := 12) (v := (mm_I s16 a0 12) + 1) (kr_s (lo := 0) (hi := 60) rfl (by (try simp only [zp, zo, zq] at p_0 w_0 w_1 hn h3126 h3128 r3160 w3161 r3162 ⊢) <;> (try simp only [zz, Int32.reduceToInt, ne_eq] at p_0 w_0 w_1 hn h3126 h3128 r3160 w3161 r3162 ⊢) <;> (try simp (disch := omega) only [zb] at p_0 w_0 w_1 hn h3126 h3128 r3160 w3161 r3162 ⊢) <;> first | omega | ((try simp (disch := omega) only [zb] at p_0 w_0 w_1 hn h3126 h3128 r3160 w3161 r3162 ⊢) <;> omega)))
        have fs17 := fr_wI fs16 t_a0 (j := 12) (v := (mm_I s16 a0 12) + 1) rfl
        refine sw_let (fun s17 es17 => ?_)
        rw [es17] at cs17 fs17
        have w3163 : mm_I s17 a0 12 = (mm_I s16 a0 12) + 1 := by rw [← es17]; exact rd_self
        have r3164 := ci_rg cs17 t_a0 12 (lo := 0) (hi := 60) rfl
        have w3165 : mm_I s17 a0 0 = mm_I s16 a0 0 := by rw [← es17]; exact rd_j (by decide)
        have w3166 : mm_I s16 a0 0 = mm_I σ a0 0 := by rw [← es16]; exact rd_k t_a0 tq13 (by decide)
        exact ih a0 x1 x2 x3 x4 x5 (x6 + 1) s17 cs17 fs17 t_a0 (by (try simp only [zp, zo, zq] at p_0 w_0 w_1 hn h3126 h3128 r3160 w3161 r3162 w3163 r3164 w3165 w3166 ⊢) <;> (try simp only [zz, Int32.reduceToInt, ne_eq] at p_0 w_0 w_1 hn h3126 h3128 r3160 w3161 r3162 w3163 r3164 w3165 w3166 ⊢) <;> (try simp (disch := omega) only [zb] at p_0 w_0 w_1 hn h3126 h3128 r3160 w3161 r3162 w3163 r3164 w3165 w3166 ⊢) <;> first | omega | ((try simp (disch := omega) only [zb] at p_0 w_0 w_1 hn h3126 h3128 r3160 w3161 r3162 w3163 r3164 w3165 w3166 ⊢) <;> omega)) (by (try simp only [zp, zo, zq] at p_0 w_0 w_1 hn h3126 h3128 r3160 w3161 r3162 w3163 r3164 w3165 w3166 ⊢) <;> (try simp only [zz, Int32.reduceToInt, ne_eq] at p_0 w_0 w_1 hn h3126 h3128 r3160 w3161 r3162 w3163 r3164 w3165 w3166 ⊢) <;> (try simp (disch := omega) only [zb] at p_0 w_0 w_1 hn h3126 h3128 r3160 w3161 r3162 w3163 r3164 w3165 w3166 ⊢) <;> first | omega | ((try simp (disch := omega) only [zb] at p_0 w_0 w_1 hn h3126 h3128 r3160 w3161 r3162 w3163 r3164 w3165 w3166 ⊢) <;> omega)) (by (try simp only [zp, zo, zq] at p_0 w_0 w_1 hn h3126 h3128 r3160 w3161 r3162 w3163 r3164 w3165 w3166 ⊢) <;> (try simp only [zz, Int32.reduceToInt, ne_eq] at p_0 w_0 w_1 hn h3126 h3128 r3160 w3161 r3162 w3163 r3164 w3165 w3166 ⊢) <;> (try simp (disch := omega) only [zb] at p_0 w_0 w_1 hn h3126 h3128 r3160 w3161 r3162 w3163 r3164 w3165 w3166 ⊢) <;> first | omega | ((try simp (disch := omega) only [zb] at p_0 w_0 w_1 hn h3126 h3128 r3160 w3161 r3162 w3163 r3164 w3165 w3166 ⊢) <;> omega)) (by (try simp only [zp, zo, zq] at p_0 w_0 w_1 hn h3126 h3128 r3160 w3161 r3162 w3163 r3164 w3165 w3166 ⊢) <;> (try simp only [zz, Int32.reduceToInt, ne_eq] at p_0 w_0 w_1 hn h3126 h3128 r3160 w3161 r3162 w3163 r3164 w3165 w3166 ⊢) <;> (try simp (disch := omega) only [zb] at p_0 w_0 w_1 hn h3126 h3128 r3160 w3161 r3162 w3163 r3164 w3165 w3166 ⊢) <;> first | omega | ((try simp (disch := omega) only [zb] at p_0 w_0 w_1 hn h3126 h3128 r3160 w3161 r3162 w3163 r3164 w3165 w3166 ⊢) <;> omega))
set_option maxHeartbeats 4000000 in
set_option maxRecDepth 10000 in
theorem vX9_feed {T : Nat → Option Nat} {σ0 : mm_M} {p0 : Nat} {p1 : Int32} {p2 : Int32} {p3 : Int32} {p4 : Int32} {p5 : Int32} (c0 : sCI T σ0) (hv : sFV9 T σ0) (t_p0 : T p0 = some 9) : sw (fX9_feed p0 p1 p2 p3 p4 p5 σ0) (fun R => sCI T R.2 ∧ sFR T VX9_feed σ0 R.2 ∧ (R.1.toInt = 20 ∧ (mm_I R.2 p0 0).toInt = 0)) := by
  have f0 : sFR T VX9_feed σ0 σ0 := fr_refl
  unfold fX9_feed
  refine sw_sh (ci_sh c0 t_p0 rfl) ?_
  have f3167 : mm_I σ0 p0 12 = 0 := hv p0 9 12 t_p0 (Or.inl rfl)
  have r3168 := ci_rg c0 t_p0 12 (lo := 0) (hi := 60) rfl
  refine sw_ite (fun h3169 => ?_) (fun h3169 => ?_)
  · unfold fX9_feed_18
    refine sw_sh (ci_sh c0 t_p0 rfl) ?_
    refine sw_on (vX9_goes c0 t_p0 (by (try simp only [zp, zo, zq] at f3167 r3168 h3169 ⊢) <;> (try simp only [zz, Int32.reduceToInt, ne_eq] at f3167 r3168 h3169 ⊢) <;> (try simp (disch := omega) only [zb] at f3167 r3168 h3169 ⊢) <;> first | omega | ((try simp (disch := omega) only [zb] at f3167 r3168 h3169 ⊢) <;> omega)) ) ?_
    intro q4 hqq4
    obtain ⟨cq4, gq4, xq4⟩ := hqq4
    have fq4 := fr_trans f0 gq4 rfl
    refine sw_ite (fun h3170 => ?_) (fun h3170 => ?_)
    · exact sw_some ⟨cq4, fq4, (by (try simp only [zp, zo, zq] at f3167 r3168 h3169 xq4 h3170 ⊢) <;> (try simp only [zz, Int32.reduceToInt, ne_eq] at f3167 r3168 h3169 xq4 h3170 ⊢) <;> (try simp (disch := omega) only [zb] at f3167 r3168 h3169 xq4 h3170 ⊢) <;> first | omega | ((try simp (disch := omega) only [zb] at f3167 r3168 h3169 xq4 h3170 ⊢) <;> omega))⟩
    · have w3172 := (gq4.2.2 _ _ t_p0 12 rfl).1
      have r3173 := ci_rg cq4 t_p0 12 (lo := 0) (hi := 60) rfl
      exact vX9_feed_29 mm_fuel p0 p1 p2 p3 p4 p5 0 q4.2 cq4 fq4 t_p0 (by (try simp only [zp, zo, zq] at f3167 r3168 h3169 xq4 h3170 w3172 r3173 ⊢) <;> (try simp only [zz, Int32.reduceToInt, ne_eq] at f3167 r3168 h3169 xq4 h3170 w3172 r3173 ⊢) <;> (try simp (disch := omega) only [zb] at f3167 r3168 h3169 xq4 h3170 w3172 r3173 ⊢) <;> first | omega | ((try simp (disch := omega) only [zb] at f3167 r3168 h3169 xq4 h3170 w3172 r3173 ⊢) <;> omega)) (by (try simp only [zp, zo, zq] at f3167 r3168 h3169 xq4 h3170 w3172 r3173 ⊢) <;> (try simp only [zz, Int32.reduceToInt, ne_eq] at f3167 r3168 h3169 xq4 h3170 w3172 r3173 ⊢) <;> (try simp (disch := omega) only [zb] at f3167 r3168 h3169 xq4 h3170 w3172 r3173 ⊢) <;> first | omega | ((try simp (disch := omega) only [zb] at f3167 r3168 h3169 xq4 h3170 w3172 r3173 ⊢) <;> omega)) (by (try simp only [zp, zo, zq] at f3167 r3168 h3169 xq4 h3170 w3172 r3173 ⊢) <;> (try simp only [zz, Int32.reduceToInt, ne_eq] at f3167 r3168 h3169 xq4 h3170 w3172 r3173 ⊢) <;> (try simp (disch := omega) only [zb] at f3167 r3168 h3169 xq4 h3170 w3172 r3173 ⊢) <;> first | omega | ((try simp (disch := omega) only [zb] at f3167 r3168 h3169 xq4 h3170 w3172 r3173 ⊢) <;> omega)) (by have hz : (mm_fuel : Int) = 2000 := rfl; rw [hz]; exact (by (try simp only [zp, zo, zq] at f3167 r3168 h3169 xq4 h3170 w3172 r3173 ⊢) <;> (try simp only [zz, Int32.reduceToInt, ne_eq] at f3167 r3168 h3169 xq4 h3170 w3172 r3173 ⊢) <;> (try simp (disch := omega) only [zb] at f3167 r3168 h3169 xq4 h3170 w3172 r3173 ⊢) <;> first | omega | ((try simp (disch := omega) only [zb] at f3167 r3168 h3169 xq4 h3170 w3172 r3173 ⊢) <;> omega)))
  · unfold fX9_feed_18
    refine sw_sh (ci_sh c0 t_p0 rfl) ?_
    refine sw_on (vX9_goes c0 t_p0 (by (try simp only [zp, zo, zq] at f3167 r3168 h3169 ⊢) <;> (try simp only [zz, Int32.reduceToInt, ne_eq] at f3167 r3168 h3169 ⊢) <;> (try simp (disch := omega) only [zb] at f3167 r3168 h3169 ⊢) <;> first | omega | ((try simp (disch := omega) only [zb] at f3167 r3168 h3169 ⊢) <;> omega)) ) ?_
    intro q4 hqq4
    obtain ⟨cq4, gq4, xq4⟩ := hqq4
    have fq4 := fr_trans f0 gq4 rfl
    refine sw_ite (fun h3175 => ?_) (fun h3175 => ?_)
    · exact sw_some ⟨cq4, fq4, (by (try simp only [zp, zo, zq] at f3167 r3168 h3169 xq4 h3175 ⊢) <;> (try simp only [zz, Int32.reduceToInt, ne_eq] at f3167 r3168 h3169 xq4 h3175 ⊢) <;> (try simp (disch := omega) only [zb] at f3167 r3168 h3169 xq4 h3175 ⊢) <;> first | omega | ((try simp (disch := omega) only [zb] at f3167 r3168 h3169 xq4 h3175 ⊢) <;> omega))⟩
    · have w3177 := (gq4.2.2 _ _ t_p0 12 rfl).1
      have r3178 := ci_rg cq4 t_p0 12 (lo := 0) (hi := 60) rfl
      exact vX9_feed_29 mm_fuel p0 p1 p2 p3 p4 p5 0 q4.2 cq4 fq4 t_p0 (by (try simp only [zp, zo, zq] at f3167 r3168 h3169 xq4 h3175 w3177 r3178 ⊢) <;> (try simp only [zz, Int32.reduceToInt, ne_eq] at f3167 r3168 h3169 xq4 h3175 w3177 r3178 ⊢) <;> (try simp (disch := omega) only [zb] at f3167 r3168 h3169 xq4 h3175 w3177 r3178 ⊢) <;> first | omega | ((try simp (disch := omega) only [zb] at f3167 r3168 h3169 xq4 h3175 w3177 r3178 ⊢) <;> omega)) (by (try simp only [zp, zo, zq] at f3167 r3168 h3169 xq4 h3175 w3177 r3178 ⊢) <;> (try simp only [zz, Int32.reduceToInt, ne_eq] at f3167 r3168 h3169 xq4 h3175 w3177 r3178 ⊢) <;> (try simp (disch := omega) only [zb] at f3167 r3168 h3169 xq4 h3175 w3177 r3178 ⊢) <;> first | omega | ((try simp (disch := omega) only [zb] at f3167 r3168 h3169 xq4 h3175 w3177 r3178 ⊢) <;> omega)) (by (try simp only [zp, zo, zq] at f3167 r3168 h3169 xq4 h3175 w3177 r3178 ⊢) <;> (try simp only [zz, Int32.reduceToInt, ne_eq] at f3167 r3168 h3169 xq4 h3175 w3177 r3178 ⊢) <;> (try simp (disch := omega) only [zb] at f3167 r3168 h3169 xq4 h3175 w3177 r3178 ⊢) <;> first | omega | ((try simp (disch := omega) only [zb] at f3167 r3168 h3169 xq4 h3175 w3177 r3178 ⊢) <;> omega)) (by have hz : (mm_fuel : Int) = 2000 := rfl; rw [hz]; exact (by (try simp only [zp, zo, zq] at f3167 r3168 h3169 xq4 h3175 w3177 r3178 ⊢) <;> (try simp only [zz, Int32.reduceToInt, ne_eq] at f3167 r3168 h3169 xq4 h3175 w3177 r3178 ⊢) <;> (try simp (disch := omega) only [zb] at f3167 r3168 h3169 xq4 h3175 w3177 r3178 ⊢) <;> first | omega | ((try simp (disch := omega) only [zb] at f3167 r3168 h3169 xq4 h3175 w3177 r3178 ⊢) <;> omega)))
abbrev VX8_packet : List Nat := []
set_option maxHeartbeats 4000000 in
set_option maxRecDepth 10000 in
theorem vX8_packet {T : Nat → Option Nat} {σ0 : mm_M} {p0 : Nat} (c0 : sCI T σ0) (hv : sFV T σ0) (t_p0 : T p0 = some 8) : sw (fX8_packet p0 σ0) (fun R => sCI T R.2 ∧ sFR T VX8_packet σ0 R.2 ∧ (oi R.1 = -9999999999)) := by
  have f0 : sFR T VX8_packet σ0 σ0 := fr_refl
  unfold fX8_packet
  refine sw_sh (ci_sh c0 t_p0 rfl) ?_
  have f3180 : mm_I σ0 p0 4 = 0 := hv p0 8 4 t_p0
  have r3181 := ci_rg c0 t_p0 4 (lo := 0) (hi := 60) rfl
  refine sw_ite (fun h3182 => ?_) (fun h3182 => ?_)
  · exfalso; exact (by (try simp only [zp, zo, zq] at f3180 r3181 h3182 ⊢) <;> (try simp only [zz, Int32.reduceToInt, ne_eq] at f3180 r3181 h3182 ⊢) <;> (try simp (disch := omega) only [zb] at f3180 r3181 h3182 ⊢) <;> first | omega | ((try simp (disch := omega) only [zb] at f3180 r3181 h3182 ⊢) <;> omega))
  · exact sw_some ⟨c0, f0, (by (try simp only [zp, zo, zq] at f3180 r3181 h3182 ⊢) <;> (try simp only [zz, Int32.reduceToInt, ne_eq] at f3180 r3181 h3182 ⊢) <;> (try simp (disch := omega) only [zb] at f3180 r3181 h3182 ⊢) <;> first | omega | ((try simp (disch := omega) only [zb] at f3180 r3181 h3182 ⊢) <;> omega))⟩
abbrev VX9_packet : List Nat := [900]
set_option maxHeartbeats 4000000 in
set_option maxRecDepth 10000 in
theorem vX9_packet {T : Nat → Option Nat} {σ0 : mm_M} {p0 : Nat} (c0 : sCI T σ0) (hv : sFV9 T σ0) (t_p0 : T p0 = some 9) : sw (fX9_packet p0 σ0) (fun R => sCI T R.2 ∧ sFR T VX9_packet σ0 R.2 ∧ ((mm_I R.2 p0 0).toInt = 1)) := by
  have f0 : sFR T VX9_packet σ0 σ0 := fr_refl
  unfold fX9_packet
  refine sw_sh (ci_sh c0 t_p0 rfl) ?_
  have f3183 : mm_I σ0 p0 12 = 0 := hv p0 9 12 t_p0 (Or.inl rfl)
  have r3184 := ci_rg c0 t_p0 12 (lo := 0) (hi := 60) rfl
  refine sw_ite (fun h3185 => ?_) (fun h3185 => ?_)
  · unfold fX9_packet_15
    refine sw_sh (ci_sh c0 t_p0 rfl) ?_
    refine sw_on (vX9_goes c0 t_p0 (by (try simp only [zp, zo, zq] at f3183 r3184 h3185 ⊢) <;> (try simp only [zz, Int32.reduceToInt, ne_eq] at f3183 r3184 h3185 ⊢) <;> (try simp (disch := omega) only [zb] at f3183 r3184 h3185 ⊢) <;> first | omega | ((try simp (disch := omega) only [zb] at f3183 r3184 h3185 ⊢) <;> omega)) ) ?_
    intro q4 hqq4
    obtain ⟨cq4, gq4, xq4⟩ := hqq4
    have fq4 := fr_trans f0 gq4 rfl
    refine sw_ite (fun h3186 => ?_) (fun h3186 => ?_)
    · exact sw_some ⟨cq4, fq4, (by (try simp only [zp, zo, zq] at f3183 r3184 h3185 xq4 h3186 ⊢) <;> (try simp only [zz, Int32.reduceToInt, ne_eq] at f3183 r3184 h3185 xq4 h3186 ⊢) <;> (try simp (disch := omega) only [zb] at f3183 r3184 h3185 xq4 h3186 ⊢) <;> first | omega | ((try simp (disch := omega) only [zb] at f3183 r3184 h3185 xq4 h3186 ⊢) <;> omega))⟩
    · exfalso; exact (by (try simp only [zp, zo, zq] at f3183 r3184 h3185 xq4 h3186 ⊢) <;> (try simp only [zz, Int32.reduceToInt, ne_eq] at f3183 r3184 h3185 xq4 h3186 ⊢) <;> (try simp (disch := omega) only [zb] at f3183 r3184 h3185 xq4 h3186 ⊢) <;> first | omega | ((try simp (disch := omega) only [zb] at f3183 r3184 h3185 xq4 h3186 ⊢) <;> omega))
  · exfalso; exact (by (try simp only [zp, zo, zq] at f3183 r3184 h3185 ⊢) <;> (try simp only [zz, Int32.reduceToInt, ne_eq] at f3183 r3184 h3185 ⊢) <;> (try simp (disch := omega) only [zb] at f3183 r3184 h3185 ⊢) <;> first | omega | ((try simp (disch := omega) only [zb] at f3183 r3184 h3185 ⊢) <;> omega))
abbrev VX8_tick : List Nat := [1, 2, 17, 18, 26, 27, 811, 813]
set_option maxHeartbeats 4000000 in
set_option maxRecDepth 10000 in
theorem vX8_tick {T : Nat → Option Nat} {σ0 : mm_M} {p0 : Nat} {p1 : Int32} (c0 : sCI T σ0) (hv : sFV T σ0) (t_p0 : T p0 = some 8) : sw (fX8_tick p0 p1 σ0) (fun R => ∃ T', sTX T T' ∧ sCI T' R.2 ∧ sFR T KX8_tick σ0 R.2 ∧ (((1 ≤ p1.toInt ∧ p1.toInt ≤ 100000) ∧ oi R.1 = p1.toInt) ∨ (¬ (1 ≤ p1.toInt ∧ p1.toInt ≤ 100000) ∧ oi R.1 = -9999999999))) := by
  have f0 : sFR T VX8_tick σ0 σ0 := fr_refl
  unfold fX8_tick
  refine sw_ite (fun h3188 => ?_) (fun h3188 => ?_)
  · exact sw_some ⟨T, tx_refl, c0, f0, (by (try simp only [zp, zo, zq] at h3188 ⊢) <;> (try simp only [zz, Int32.reduceToInt, ne_eq] at h3188 ⊢) <;> (try simp (disch := omega) only [zb] at h3188 ⊢) <;> first | omega | ((try simp (disch := omega) only [zb] at h3188 ⊢) <;> omega))⟩
  · refine sw_ite (fun h3189 => ?_) (fun h3189 => ?_)
    · refine sw_sh (ci_sh c0 t_p0 rfl) ?_
      have cs4 := ci_wI c0 t_p0 (j := 13) (v := (mm_I σ0 p0 13) + p1) (kr_n rfl)
      have fs4 := fr_wIx f0 tx_refl t_p0 (j := 13) (v := (mm_I σ0 p0 13) + p1) rfl
      refine sw_let (fun s4 es4 => ?_)
      rw [es4] at cs4 fs4
      refine sw_on (sX8_readLines cs4 t_p0 (by (try simp only [zp, zo, zq] at h3188 h3189 ⊢) <;> (try simp only [zz, Int32.reduceToInt, ne_eq] at h3188 h3189 ⊢) <;> (try simp (disch := omega) only [zb] at h3188 h3189 ⊢) <;> first | omega | ((try simp (disch := omega) only [zb] at h3188 h3189 ⊢) <;> omega)) ) ?_
      intro q6 hqq6
      obtain ⟨cq6, gq6, xq6⟩ := hqq6
      have fq6 := fr_trans fs4 (fr_tx tx_refl gq6) rfl
      refine sw_sh (ci_sh cq6 t_p0 rfl) ?_
      refine sw_on (sX8_endCue cq6 t_p0 (by (try simp only [zp, zo, zq] at h3188 h3189 ⊢) <;> (try simp only [zz, Int32.reduceToInt, ne_eq] at h3188 h3189 ⊢) <;> (try simp (disch := omega) only [zb] at h3188 h3189 ⊢) <;> first | omega | ((try simp (disch := omega) only [zb] at h3188 h3189 ⊢) <;> omega)) ) ?_
      intro q8 hqq8
      obtain ⟨cq8, gq8, xq8⟩ := hqq8
      have fq8 := fr_trans fq6 (fr_tx tx_refl gq8) rfl
      refine sw_sh (ci_sh cq8 t_p0 rfl) ?_
      refine sw_on (sX8_beginCue cq8 t_p0 (by (try simp only [zp, zo, zq] at h3188 h3189 ⊢) <;> (try simp only [zz, Int32.reduceToInt, ne_eq] at h3188 h3189 ⊢) <;> (try simp (disch := omega) only [zb] at h3188 h3189 ⊢) <;> first | omega | ((try simp (disch := omega) only [zb] at h3188 h3189 ⊢) <;> omega)) ) ?_
      intro q10 hqq10
      obtain ⟨Tq10, nq10, cq10, gq10, xq10⟩ := hqq10
      have fq10 := fr_trans fq8 (fr_tx tx_refl gq10) rfl
      have yq10 := tx_trans tx_refl nq10
      have t3190 := nq10 _ _ t_p0
      refine sw_sh (ci_sh cq10 t3190 rfl) ?_
      refine sw_on (sX8_readLines cq10 t3190 (by (try simp only [zp, zo, zq] at h3188 h3189 ⊢) <;> (try simp only [zz, Int32.reduceToInt, ne_eq] at h3188 h3189 ⊢) <;> (try simp (disch := omega) only [zb] at h3188 h3189 ⊢) <;> first | omega | ((try simp (disch := omega) only [zb] at h3188 h3189 ⊢) <;> omega)) ) ?_
      intro q13 hqq13
      obtain ⟨cq13, gq13, xq13⟩ := hqq13
      have fq13 := fr_trans fq10 (fr_tx yq10 gq13) rfl
      refine sw_sh (ci_sh cq13 t3190 rfl) ?_
      refine sw_on (sX8_endCue cq13 t3190 (by (try simp only [zp, zo, zq] at h3188 h3189 ⊢) <;> (try simp only [zz, Int32.reduceToInt, ne_eq] at h3188 h3189 ⊢) <;> (try simp (disch := omega) only [zb] at h3188 h3189 ⊢) <;> first | omega | ((try simp (disch := omega) only [zb] at h3188 h3189 ⊢) <;> omega)) ) ?_
      intro q15 hqq15
      obtain ⟨cq15, gq15, xq15⟩ := hqq15
      have fq15 := fr_trans fq13 (fr_tx yq10 gq15) rfl
      refine sw_sh (ci_sh cq15 t3190 rfl) ?_
      refine sw_on (sX8_beginCue cq15 t3190 (by (try simp only [zp, zo, zq] at h3188 h3189 ⊢) <;> (try simp only [zz, Int32.reduceToInt, ne_eq] at h3188 h3189 ⊢) <;> (try simp (disch := omega) only [zb] at h3188 h3189 ⊢) <;> first | omega | ((try simp (disch := omega) only [zb] at h3188 h3189 ⊢) <;> omega)) ) ?_
      intro q17 hqq17
      obtain ⟨Tq17, nq17, cq17, gq17, xq17⟩ := hqq17
      have fq17 := fr_trans fq15 (fr_tx yq10 gq17) rfl
      have yq17 := tx_trans yq10 nq17
      have t3191 := nq17 _ _ t3190
      refine sw_sh (ci_sh cq17 t3191 rfl) ?_
      refine sw_on (sX8_readLines cq17 t3191 (by (try simp only [zp, zo, zq] at h3188 h3189 ⊢) <;> (try simp only [zz, Int32.reduceToInt, ne_eq] at h3188 h3189 ⊢) <;> (try simp (disch := omega) only [zb] at h3188 h3189 ⊢) <;> first | omega | ((try simp (disch := omega) only [zb] at h3188 h3189 ⊢) <;> omega)) ) ?_
      intro q20 hqq20
      obtain ⟨cq20, gq20, xq20⟩ := hqq20
      have fq20 := fr_trans fq17 (fr_tx yq17 gq20) rfl
      refine sw_sh (ci_sh cq20 t3191 rfl) ?_
      refine sw_on (sX8_endCue cq20 t3191 (by (try simp only [zp, zo, zq] at h3188 h3189 ⊢) <;> (try simp only [zz, Int32.reduceToInt, ne_eq] at h3188 h3189 ⊢) <;> (try simp (disch := omega) only [zb] at h3188 h3189 ⊢) <;> first | omega | ((try simp (disch := omega) only [zb] at h3188 h3189 ⊢) <;> omega)) ) ?_
      intro q22 hqq22
      obtain ⟨cq22, gq22, xq22⟩ := hqq22
      have fq22 := fr_trans fq20 (fr_tx yq17 gq22) rfl
      refine sw_sh (ci_sh cq22 t3191 rfl) ?_
      refine sw_on (sX8_beginCue cq22 t3191 (by (try simp only [zp, zo, zq] at h3188 h3189 ⊢) <;> (try simp only [zz, Int32.reduceToInt, ne_eq] at h3188 h3189 ⊢) <;> (try simp (disch := omega) only [zb] at h3188 h3189 ⊢) <;> first | omega | ((try simp (disch := omega) only [zb] at h3188 h3189 ⊢) <;> omega)) ) ?_
      intro q24 hqq24
      obtain ⟨Tq24, nq24, cq24, gq24, xq24⟩ := hqq24
      have fq24 := fr_trans fq22 (fr_tx yq17 gq24) rfl
      have yq24 := tx_trans yq17 nq24
      have t3192 := nq24 _ _ t3191
      refine sw_sh (ci_sh cq24 t3192 rfl) ?_
      refine sw_on (sX8_readLines cq24 t3192 (by (try simp only [zp, zo, zq] at h3188 h3189 ⊢) <;> (try simp only [zz, Int32.reduceToInt, ne_eq] at h3188 h3189 ⊢) <;> (try simp (disch := omega) only [zb] at h3188 h3189 ⊢) <;> first | omega | ((try simp (disch := omega) only [zb] at h3188 h3189 ⊢) <;> omega)) ) ?_
      intro q27 hqq27
      obtain ⟨cq27, gq27, xq27⟩ := hqq27
      have fq27 := fr_trans fq24 (fr_tx yq24 gq27) rfl
      refine sw_sh (ci_sh cq27 t3192 rfl) ?_
      refine sw_on (sX8_endCue cq27 t3192 (by (try simp only [zp, zo, zq] at h3188 h3189 ⊢) <;> (try simp only [zz, Int32.reduceToInt, ne_eq] at h3188 h3189 ⊢) <;> (try simp (disch := omega) only [zb] at h3188 h3189 ⊢) <;> first | omega | ((try simp (disch := omega) only [zb] at h3188 h3189 ⊢) <;> omega)) ) ?_
      intro q29 hqq29
      obtain ⟨cq29, gq29, xq29⟩ := hqq29
      have fq29 := fr_trans fq27 (fr_tx yq24 gq29) rfl
      refine sw_sh (ci_sh cq29 t3192 rfl) ?_
      refine sw_on (sX8_beginCue cq29 t3192 (by (try simp only [zp, zo, zq] at h3188 h3189 ⊢) <;> (try simp only [zz, Int32.reduceToInt, ne_eq] at h3188 h3189 ⊢) <;> (try simp (disch := omega) only [zb] at h3188 h3189 ⊢) <;> first | omega | ((try simp (disch := omega) only [zb] at h3188 h3189 ⊢) <;> omega)) ) ?_
      intro q31 hqq31
      obtain ⟨Tq31, nq31, cq31, gq31, xq31⟩ := hqq31
      have fq31 := fr_trans fq29 (fr_tx yq24 gq31) rfl
      have yq31 := tx_trans yq24 nq31
      have t3193 := nq31 _ _ t3192
      refine sw_sh (ci_sh cq31 t3193 rfl) ?_
      refine sw_on (sX8_readLines cq31 t3193 (by (try simp only [zp, zo, zq] at h3188 h3189 ⊢) <;> (try simp only [zz, Int32.reduceToInt, ne_eq] at h3188 h3189 ⊢) <;> (try simp (disch := omega) only [zb] at h3188 h3189 ⊢) <;> first | omega | ((try simp (disch := omega) only [zb] at h3188 h3189 ⊢) <;> omega)) ) ?_
      intro q34 hqq34
      obtain ⟨cq34, gq34, xq34⟩ := hqq34
      have fq34 := fr_trans fq31 (fr_tx yq31 gq34) rfl
      refine sw_sh (ci_sh cq34 t3193 rfl) ?_
      refine sw_on (sX8_endCue cq34 t3193 (by (try simp only [zp, zo, zq] at h3188 h3189 ⊢) <;> (try simp only [zz, Int32.reduceToInt, ne_eq] at h3188 h3189 ⊢) <;> (try simp (disch := omega) only [zb] at h3188 h3189 ⊢) <;> first | omega | ((try simp (disch := omega) only [zb] at h3188 h3189 ⊢) <;> omega)) ) ?_
      intro q36 hqq36
      obtain ⟨cq36, gq36, xq36⟩ := hqq36
      have fq36 := fr_trans fq34 (fr_tx yq31 gq36) rfl
      refine sw_sh (ci_sh cq36 t3193 rfl) ?_
      refine sw_on (sX8_beginCue cq36 t3193 (by (try simp only [zp, zo, zq] at h3188 h3189 ⊢) <;> (try simp only [zz, Int32.reduceToInt, ne_eq] at h3188 h3189 ⊢) <;> (try simp (disch := omega) only [zb] at h3188 h3189 ⊢) <;> first | omega | ((try simp (disch := omega) only [zb] at h3188 h3189 ⊢) <;> omega)) ) ?_
      intro q38 hqq38
      obtain ⟨Tq38, nq38, cq38, gq38, xq38⟩ := hqq38
      have fq38 := fr_trans fq36 (fr_tx yq31 gq38) rfl
      have yq38 := tx_trans yq31 nq38
      have t3194 := nq38 _ _ t3193
      refine sw_sh (ci_sh cq38 t3194 rfl) ?_
      have w3195 := (gq38.2.2 _ _ t3193 13 rfl).1
      have w3196 := (gq36.2.2 _ _ t3193 13 rfl).1
      have w3197 := (gq34.2.2 _ _ t3193 13 rfl).1
      have w3198 := (gq31.2.2 _ _ t3192 13 rfl).1
      have w3199 := (gq29.2.2 _ _ t3192 13 rfl).1
      have w3200 := (gq27.2.2 _ _ t3192 13 rfl).1
      have w3201 := (gq24.2.2 _ _ t3191 13 rfl).1
      have w3202 := (gq22.2.2 _ _ t3191 13 rfl).1
      have w3203 := (gq20.2.2 _ _ t3191 13 rfl).1
      have w3204 := (gq17.2.2 _ _ t3190 13 rfl).1
      have w3205 := (gq15.2.2 _ _ t3190 13 rfl).1
      have w3206 := (gq13.2.2 _ _ t3190 13 rfl).1
      have w3207 := (gq10.2.2 _ _ t_p0 13 rfl).1
      have w3208 := (gq8.2.2 _ _ t_p0 13 rfl).1
      have w3209 := (gq6.2.2 _ _ t_p0 13 rfl).1
      have w3210 : mm_I s4 p0 13 = (mm_I σ0 p0 13) + p1 := by rw [← es4]; exact rd_self
      have f3211 : mm_I σ0 p0 13 = 0 := hv p0 8 13 t_p0
      exact sw_some ⟨Tq38, yq38, cq38, fq38, (by (try simp only [zp, zo, zq] at h3188 h3189 w3195 w3196 w3197 w3198 w3199 w3200 w3201 w3202 w3203 w3204 w3205 w3206 w3207 w3208 w3209 w3210 f3211 ⊢) <;> (try simp only [zz, Int32.reduceToInt, ne_eq] at h3188 h3189 w3195 w3196 w3197 w3198 w3199 w3200 w3201 w3202 w3203 w3204 w3205 w3206 w3207 w3208 w3209 w3210 f3211 ⊢) <;> (try simp (disch := omega) only [zb] at h3188 h3189 w3195 w3196 w3197 w3198 w3199 w3200 w3201 w3202 w3203 w3204 w3205 w3206 w3207 w3208 w3209 w3210 f3211 ⊢) <;> first | omega | ((try simp (disch := omega) only [zb] at h3188 h3189 w3195 w3196 w3197 w3198 w3199 w3200 w3201 w3202 w3203 w3204 w3205 w3206 w3207 w3208 w3209 w3210 f3211 ⊢) <;> omega))⟩
    · exact sw_some ⟨T, tx_refl, c0, f0, (by (try simp only [zp, zo, zq] at h3188 h3189 ⊢) <;> (try simp only [zz, Int32.reduceToInt, ne_eq] at h3188 h3189 ⊢) <;> (try simp (disch := omega) only [zb] at h3188 h3189 ⊢) <;> first | omega | ((try simp (disch := omega) only [zb] at h3188 h3189 ⊢) <;> omega))⟩
abbrev VX9_tick : List Nat := [86, 87, 88, 89, 90, 91, 95, 900, 934, 935, 944]
set_option maxHeartbeats 4000000 in
set_option maxRecDepth 10000 in
theorem vX9_tick_167 {T : Nat → Option Nat} {σ0 : mm_M} {k28 : Nat → Int32 → Int32 → mm_M → Option (Int32 × mm_M)} {m28 : Int} (hk28 : ∀ (a0 : Nat) (x1 : Int32) (x2 : Int32) (σ : mm_M), sCI T σ → sFR T VX9_tick σ0 σ → (T a0 = some 9) → (1 ≤ x1.toInt ∧ x1.toInt ≤ 100000) → (0 ≤ x2.toInt ∧ x2.toInt ≤ 5) → ((mm_I σ a0 34).toInt = x1.toInt) → ((mm_I σ a0 0).toInt = 0) → 5 - x2.toInt < m28 → sw (k28 a0 x1 x2 σ) (fun R => sCI T R.2 ∧ sFR T VX9_tick σ0 R.2 ∧ (((1 ≤ x1.toInt ∧ x1.toInt ≤ 100000) ∧ R.1.toInt = x1.toInt ∧ (mm_I R.2 a0 0).toInt = 0) ∨ (¬ (1 ≤ x1.toInt ∧ x1.toInt ≤ 100000) ∧ (mm_I R.2 a0 0).toInt = 1)))) : ∀ (n : Nat) (a0 : Nat) (x1 : Int32) (x2 : Int32) (x3 : Int32) (σ : mm_M), sCI T σ → sFR T VX9_tick σ0 σ → (T a0 = some 9) → (1 ≤ x1.toInt ∧ x1.toInt ≤ 100000) → (0 ≤ x2.toInt ∧ x2.toInt ≤ 4) → (0 ≤ x3.toInt ∧ x3.toInt ≤ 400) → ((mm_I σ a0 35).toInt ≤ 59) → ((mm_I σ a0 44).toInt ≤ 400) → ((mm_I σ a0 34).toInt = x1.toInt) → ((mm_I σ a0 0).toInt = 0) → (5 - x2.toInt - 1 < m28) → 400 - x3.toInt < (n : Int) → sw (fX9_tick_167 k28 n a0 x1 x2 x3 σ) (fun R => sCI T R.2 ∧ sFR T VX9_tick σ0 R.2 ∧ (((1 ≤ x1.toInt ∧ x1.toInt ≤ 100000) ∧ R.1.toInt = x1.toInt ∧ (mm_I R.2 a0 0).toInt = 0) ∨ (¬ (1 ≤ x1.toInt ∧ x1.toInt ≤ 100000) ∧ (mm_I R.2 a0 0).toInt = 1))) := by
  intro n
  induction n with
  | zero => intro a0 x1 x2 x3 σ c0 f0 t_a0 p_0 p_1 p_2 w_0 w_1 w_2 w_3 m_28 hn; exfalso; exact (by (try simp only [zp, zo, zq] at p_0 p_1 p_2 w_0 w_1 w_2 w_3 m_28 hn ⊢) <;> (try simp only [zz, Int32.reduceToInt, ne_eq] at p_0 p_1 p_2 w_0 w_1 w_2 w_3 m_28 hn ⊢) <;> (try simp (disch := omega) only [zb] at p_0 p_1 p_2 w_0 w_1 w_2 w_3 m_28 hn ⊢) <;> first | omega | ((try simp (disch := omega) only [zb] at p_0 p_1 p_2 w_0 w_1 w_2 w_3 m_28 hn ⊢) <;> omega))
  | succ n ih =>
    intro a0 x1 x2 x3 σ c0 f0 t_a0 p_0 p_1 p_2 w_0 w_1 w_2 w_3 m_28 hn
    unfold fX9_tick_167
    refine sw_sh (ci_sh c0 t_a0 rfl) ?_
    have r3212 := ci_rg c0 t_a0 44 (lo := 0) (hi := 1100) rfl
    refine sw_ite (fun h3213 => ?_) (fun h3213 => ?_)
    · have r3214 := ci_rg c0 t_a0 35 (lo := 0) (hi := 60) rfl
      have cs44 := ci_wI c0 t_a0 (j := 35) (v := (mm_I σ a0 35) + 1) (kr_s (lo := 0) (hi := 60) rfl (by (try simp only [zp, zo, zq] at p_0 p_1 p_2 w_0 w_1 w_2 w_3 m_28 hn r3212 h3213 r3214 ⊢) <;> (try simp only [zz, Int32.reduceToInt, ne_eq] at p_0 p_1 p_2 w_0 w_1 w_2 w_3 m_28 hn r3212 h3213 r3214 ⊢) <;> (try simp (disch := omega) only [zb] at p_0 p_1 p_2 w_0 w_1 w_2 w_3 m_28 hn r3212 h3213 r3214 ⊢) <;> first | omega | ((try simp (disch := omega) only [zb] at p_0 p_1 p_2 w_0 w_1 w_2 w_3 m_28 hn r3212 h3213 r3214 ⊢) <;> omega)))
      have fs44 := fr_wI f0 t_a0 (j := 35) (v := (mm_I σ a0 35) + 1) rfl
      refine sw_let (fun s44 es44 => ?_)
      rw [es44] at cs44 fs44
      have w3215 : mm_I s44 a0 34 = mm_I σ a0 34 := by rw [← es44]; exact rd_j (by decide)
      have w3216 : mm_I s44 a0 0 = mm_I σ a0 0 := by rw [← es44]; exact rd_j (by decide)
      exact hk28 a0 x1 (x2 + 1) s44 cs44 fs44 t_a0 (by (try simp only [zp, zo, zq] at p_0 p_1 p_2 w_0 w_1 w_2 w_3 m_28 hn r3212 h3213 r3214 w3215 w3216 ⊢) <;> (try simp only [zz, Int32.reduceToInt, ne_eq] at p_0 p_1 p_2 w_0 w_1 w_2 w_3 m_28 hn r3212 h3213 r3214 w3215 w3216 ⊢) <;> (try simp (disch := omega) only [zb] at p_0 p_1 p_2 w_0 w_1 w_2 w_3 m_28 hn r3212 h3213 r3214 w3215 w3216 ⊢) <;> first | omega | ((try simp (disch := omega) only [zb] at p_0 p_1 p_2 w_0 w_1 w_2 w_3 m_28 hn r3212 h3213 r3214 w3215 w3216 ⊢) <;> omega)) (by (try simp only [zp, zo, zq] at p_0 p_1 p_2 w_0 w_1 w_2 w_3 m_28 hn r3212 h3213 r3214 w3215 w3216 ⊢) <;> (try simp only [zz, Int32.reduceToInt, ne_eq] at p_0 p_1 p_2 w_0 w_1 w_2 w_3 m_28 hn r3212 h3213 r3214 w3215 w3216 ⊢) <;> (try simp (disch := omega) only [zb] at p_0 p_1 p_2 w_0 w_1 w_2 w_3 m_28 hn r3212 h3213 r3214 w3215 w3216 ⊢) <;> first | omega | ((try simp (disch := omega) only [zb] at p_0 p_1 p_2 w_0 w_1 w_2 w_3 m_28 hn r3212 h3213 r3214 w3215 w3216 ⊢) <;> omega)) (by (try simp only [zp, zo, zq] at p_0 p_1 p_2 w_0 w_1 w_2 w_3 m_28 hn r3212 h3213 r3214 w3215 w3216 ⊢) <;> (try simp only [zz, Int32.reduceToInt, ne_eq] at p_0 p_1 p_2 w_0 w_1 w_2 w_3 m_28 hn r3212 h3213 r3214 w3215 w3216 ⊢) <;> (try simp (disch := omega) only [zb] at p_0 p_1 p_2 w_0 w_1 w_2 w_3 m_28 hn r3212 h3213 r3214 w3215 w3216 ⊢) <;> first | omega | ((try simp (disch := omega) only [zb] at p_0 p_1 p_2 w_0 w_1 w_2 w_3 m_28 hn r3212 h3213 r3214 w3215 w3216 ⊢) <;> omega)) (by (try simp only [zp, zo, zq] at p_0 p_1 p_2 w_0 w_1 w_2 w_3 m_28 hn r3212 h3213 r3214 w3215 w3216 ⊢) <;> (try simp only [zz, Int32.reduceToInt, ne_eq] at p_0 p_1 p_2 w_0 w_1 w_2 w_3 m_28 hn r3212 h3213 r3214 w3215 w3216 ⊢) <;> (try simp (disch := omega) only [zb] at p_0 p_1 p_2 w_0 w_1 w_2 w_3 m_28 hn r3212 h3213 r3214 w3215 w3216 ⊢) <;> first | omega | ((try simp (disch := omega) only [zb] at p_0 p_1 p_2 w_0 w_1 w_2 w_3 m_28 hn r3212 h3213 r3214 w3215 w3216 ⊢) <;> omega)) (by (try simp only [zp, zo, zq] at p_0 p_1 p_2 w_0 w_1 w_2 w_3 m_28 hn r3212 h3213 r3214 w3215 w3216 ⊢) <;> (try simp only [zz, Int32.reduceToInt, ne_eq] at p_0 p_1 p_2 w_0 w_1 w_2 w_3 m_28 hn r3212 h3213 r3214 w3215 w3216 ⊢) <;> (try simp (disch := omega) only [zb] at p_0 p_1 p_2 w_0 w_1 w_2 w_3 m_28 hn r3212 h3213 r3214 w3215 w3216 ⊢) <;> first | omega | ((try simp (disch := omega) only [zb] at p_0 p_1 p_2 w_0 w_1 w_2 w_3 m_28 hn r3212 h3213 r3214 w3215 w3216 ⊢) <;> omega))
    · obtain ⟨q45, eq45, tq45⟩ := ci_ref c0 t_a0 45 (κ' := 95) rfl
      refine sw_onS eq45 ?_
      refine sw_ar (ci_sh c0 tq45 rfl) ?_
      refine sw_ib (by (try simp only [zp, zo, zq] at p_0 p_1 p_2 w_0 w_1 w_2 w_3 m_28 hn r3212 h3213 ⊢) <;> (try simp only [zz, Int32.reduceToInt, ne_eq] at p_0 p_1 p_2 w_0 w_1 w_2 w_3 m_28 hn r3212 h3213 ⊢) <;> (try simp (disch := omega) only [zb] at p_0 p_1 p_2 w_0 w_1 w_2 w_3 m_28 hn r3212 h3213 ⊢) <;> first | omega | ((try simp (disch := omega) only [zb] at p_0 p_1 p_2 w_0 w_1 w_2 w_3 m_28 hn r3212 h3213 ⊢) <;> omega)) ?_
      obtain ⟨q48, eq48, tq48⟩ := ci_ref c0 t_a0 40 (κ' := 90) rfl
      refine sw_onS eq48 ?_
      refine sw_ar (ci_sh c0 tq48 rfl) ?_
      have r3217 := ci_rg c0 t_a0 35 (lo := 0) (hi := 60) rfl
      refine sw_ib (by (try simp only [zp, zo, zq] at p_0 p_1 p_2 w_0 w_1 w_2 w_3 m_28 hn r3212 h3213 r3217 ⊢) <;> (try simp only [zz, Int32.reduceToInt, ne_eq] at p_0 p_1 p_2 w_0 w_1 w_2 w_3 m_28 hn r3212 h3213 r3217 ⊢) <;> (try simp (disch := omega) only [zb] at p_0 p_1 p_2 w_0 w_1 w_2 w_3 m_28 hn r3212 h3213 r3217 ⊢) <;> first | omega | ((try simp (disch := omega) only [zb] at p_0 p_1 p_2 w_0 w_1 w_2 w_3 m_28 hn r3212 h3213 r3217 ⊢) <;> omega)) ?_
      have cs51 := ci_wI c0 tq48 (j := ((400 * (mm_I σ a0 35)) + x3).toNatClampNeg) (v := (mm_I σ q45 x3.toNatClampNeg).toInt8.toInt32) (kr_n rfl)
      have fs51 := fr_wI f0 tq48 (j := ((400 * (mm_I σ a0 35)) + x3).toNatClampNeg) (v := (mm_I σ q45 x3.toNatClampNeg).toInt8.toInt32) rfl
      refine sw_let (fun s51 es51 => ?_)
      rw [es51] at cs51 fs51
      have w3218 : mm_I s51 a0 35 = mm_I σ a0 35 := by rw [← es51]; exact rd_k t_a0 tq48 (by decide)
      have r3219 := ci_rg cs51 t_a0 35 (lo := 0) (hi := 60) rfl
      have w3220 : mm_I s51 a0 44 = mm_I σ a0 44 := by rw [← es51]; exact rd_k t_a0 tq48 (by decide)
      have r3221 := ci_rg cs51 t_a0 44 (lo := 0) (hi := 1100) rfl
      have w3222 : mm_I s51 a0 34 = mm_I σ a0 34 := by rw [← es51]; exact rd_k t_a0 tq48 (by decide)
      have w3223 : mm_I s51 a0 0 = mm_I σ a0 0 := by rw [← es51]; exact rd_k t_a0 tq48 (by decide)
      exact ih a0 x1 x2 (x3 + 1) s51 cs51 fs51 t_a0 (by (try simp only [zp, zo, zq] at p_0 p_1 p_2 w_0 w_1 w_2 w_3 m_28 hn r3212 h3213 r3217 w3218 r3219 w3220 r3221 w3222 w3223 ⊢) <;> (try simp only [zz, Int32.reduceToInt, ne_eq] at p_0 p_1 p_2 w_0 w_1 w_2 w_3 m_28 hn r3212 h3213 r3217 w3218 r3219 w3220 r3221 w3222 w3223 ⊢) <;> (try simp (disch := omega) only [zb] at p_0 p_1 p_2 w_0 w_1 w_2 w_3 m_28 hn r3212 h3213 r3217 w3218 r3219 w3220 r3221 w3222 w3223 ⊢) <;> first | omega | ((try simp (disch := omega) only [zb] at p_0 p_1 p_2 w_0 w_1 w_2 w_3 m_28 hn r3212 h3213 r3217 w3218 r3219 w3220 r3221 w3222 w3223 ⊢) <;> omega)) (by (try simp only [zp, zo, zq] at p_0 p_1 p_2 w_0 w_1 w_2 w_3 m_28 hn r3212 h3213 r3217 w3218 r3219 w3220 r3221 w3222 w3223 ⊢) <;> (try simp only [zz, Int32.reduceToInt, ne_eq] at p_0 p_1 p_2 w_0 w_1 w_2 w_3 m_28 hn r3212 h3213 r3217 w3218 r3219 w3220 r3221 w3222 w3223 ⊢) <;> (try simp (disch := omega) only [zb] at p_0 p_1 p_2 w_0 w_1 w_2 w_3 m_28 hn r3212 h3213 r3217 w3218 r3219 w3220 r3221 w3222 w3223 ⊢) <;> first | omega | ((try simp (disch := omega) only [zb] at p_0 p_1 p_2 w_0 w_1 w_2 w_3 m_28 hn r3212 h3213 r3217 w3218 r3219 w3220 r3221 w3222 w3223 ⊢) <;> omega)) (by (try simp only [zp, zo, zq] at p_0 p_1 p_2 w_0 w_1 w_2 w_3 m_28 hn r3212 h3213 r3217 w3218 r3219 w3220 r3221 w3222 w3223 ⊢) <;> (try simp only [zz, Int32.reduceToInt, ne_eq] at p_0 p_1 p_2 w_0 w_1 w_2 w_3 m_28 hn r3212 h3213 r3217 w3218 r3219 w3220 r3221 w3222 w3223 ⊢) <;> (try simp (disch := omega) only [zb] at p_0 p_1 p_2 w_0 w_1 w_2 w_3 m_28 hn r3212 h3213 r3217 w3218 r3219 w3220 r3221 w3222 w3223 ⊢) <;> first | omega | ((try simp (disch := omega) only [zb] at p_0 p_1 p_2 w_0 w_1 w_2 w_3 m_28 hn r3212 h3213 r3217 w3218 r3219 w3220 r3221 w3222 w3223 ⊢) <;> omega)) (by (try simp only [zp, zo, zq] at p_0 p_1 p_2 w_0 w_1 w_2 w_3 m_28 hn r3212 h3213 r3217 w3218 r3219 w3220 r3221 w3222 w3223 ⊢) <;> (try simp only [zz, Int32.reduceToInt, ne_eq] at p_0 p_1 p_2 w_0 w_1 w_2 w_3 m_28 hn r3212 h3213 r3217 w3218 r3219 w3220 r3221 w3222 w3223 ⊢) <;> (try simp (disch := omega) only [zb] at p_0 p_1 p_2 w_0 w_1 w_2 w_3 m_28 hn r3212 h3213 r3217 w3218 r3219 w3220 r3221 w3222 w3223 ⊢) <;> first | omega | ((try simp (disch := omega) only [zb] at p_0 p_1 p_2 w_0 w_1 w_2 w_3 m_28 hn r3212 h3213 r3217 w3218 r3219 w3220 r3221 w3222 w3223 ⊢) <;> omega)) (by (try simp only [zp, zo, zq] at p_0 p_1 p_2 w_0 w_1 w_2 w_3 m_28 hn r3212 h3213 r3217 w3218 r3219 w3220 r3221 w3222 w3223 ⊢) <;> (try simp only [zz, Int32.reduceToInt, ne_eq] at p_0 p_1 p_2 w_0 w_1 w_2 w_3 m_28 hn r3212 h3213 r3217 w3218 r3219 w3220 r3221 w3222 w3223 ⊢) <;> (try simp (disch := omega) only [zb] at p_0 p_1 p_2 w_0 w_1 w_2 w_3 m_28 hn r3212 h3213 r3217 w3218 r3219 w3220 r3221 w3222 w3223 ⊢) <;> first | omega | ((try simp (disch := omega) only [zb] at p_0 p_1 p_2 w_0 w_1 w_2 w_3 m_28 hn r3212 h3213 r3217 w3218 r3219 w3220 r3221 w3222 w3223 ⊢) <;> omega)) (by (try simp only [zp, zo, zq] at p_0 p_1 p_2 w_0 w_1 w_2 w_3 m_28 hn r3212 h3213 r3217 w3218 r3219 w3220 r3221 w3222 w3223 ⊢) <;> (try simp only [zz, Int32.reduceToInt, ne_eq] at p_0 p_1 p_2 w_0 w_1 w_2 w_3 m_28 hn r3212 h3213 r3217 w3218 r3219 w3220 r3221 w3222 w3223 ⊢) <;> (try simp (disch := omega) only [zb] at p_0 p_1 p_2 w_0 w_1 w_2 w_3 m_28 hn r3212 h3213 r3217 w3218 r3219 w3220 r3221 w3222 w3223 ⊢) <;> first | omega | ((try simp (disch := omega) only [zb] at p_0 p_1 p_2 w_0 w_1 w_2 w_3 m_28 hn r3212 h3213 r3217 w3218 r3219 w3220 r3221 w3222 w3223 ⊢) <;> omega)) (by (try simp only [zp, zo, zq] at p_0 p_1 p_2 w_0 w_1 w_2 w_3 m_28 hn r3212 h3213 r3217 w3218 r3219 w3220 r3221 w3222 w3223 ⊢) <;> (try simp only [zz, Int32.reduceToInt, ne_eq] at p_0 p_1 p_2 w_0 w_1 w_2 w_3 m_28 hn r3212 h3213 r3217 w3218 r3219 w3220 r3221 w3222 w3223 ⊢) <;> (try simp (disch := omega) only [zb] at p_0 p_1 p_2 w_0 w_1 w_2 w_3 m_28 hn r3212 h3213 r3217 w3218 r3219 w3220 r3221 w3222 w3223 ⊢) <;> first | omega | ((try simp (disch := omega) only [zb] at p_0 p_1 p_2 w_0 w_1 w_2 w_3 m_28 hn r3212 h3213 r3217 w3218 r3219 w3220 r3221 w3222 w3223 ⊢) <;> omega)) (by (try simp only [zp, zo, zq] at p_0 p_1 p_2 w_0 w_1 w_2 w_3 m_28 hn r3212 h3213 r3217 w3218 r3219 w3220 r3221 w3222 w3223 ⊢) <;> (try simp only [zz, Int32.reduceToInt, ne_eq] at p_0 p_1 p_2 w_0 w_1 w_2 w_3 m_28 hn r3212 h3213 r3217 w3218 r3219 w3220 r3221 w3222 w3223 ⊢) <;> (try simp (disch := omega) only [zb] at p_0 p_1 p_2 w_0 w_1 w_2 w_3 m_28 hn r3212 h3213 r3217 w3218 r3219 w3220 r3221 w3222 w3223 ⊢) <;> first | omega | ((try simp (disch := omega) only [zb] at p_0 p_1 p_2 w_0 w_1 w_2 w_3 m_28 hn r3212 h3213 r3217 w3218 r3219 w3220 r3221 w3222 w3223 ⊢) <;> omega)) (by (try simp only [zp, zo, zq] at p_0 p_1 p_2 w_0 w_1 w_2 w_3 m_28 hn r3212 h3213 r3217 w3218 r3219 w3220 r3221 w3222 w3223 ⊢) <;> (try simp only [zz, Int32.reduceToInt, ne_eq] at p_0 p_1 p_2 w_0 w_1 w_2 w_3 m_28 hn r3212 h3213 r3217 w3218 r3219 w3220 r3221 w3222 w3223 ⊢) <;> (try simp (disch := omega) only [zb] at p_0 p_1 p_2 w_0 w_1 w_2 w_3 m_28 hn r3212 h3213 r3217 w3218 r3219 w3220 r3221 w3222 w3223 ⊢) <;> first | omega | ((try simp (disch := omega) only [zb] at p_0 p_1 p_2 w_0 w_1 w_2 w_3 m_28 hn r3212 h3213 r3217 w3218 r3219 w3220 r3221 w3222 w3223 ⊢) <;> omega))
set_option maxHeartbeats 4000000 in
set_option maxRecDepth 10000 in
theorem vX9_tick_28 {T : Nat → Option Nat} {σ0 : mm_M} : ∀ (n : Nat) (a0 : Nat) (x1 : Int32) (x2 : Int32) (σ : mm_M), sCI T σ → sFR T VX9_tick σ0 σ → (T a0 = some 9) → (1 ≤ x1.toInt ∧ x1.toInt ≤ 100000) → (0 ≤ x2.toInt ∧ x2.toInt ≤ 5) → ((mm_I σ a0 34).toInt = x1.toInt) → ((mm_I σ a0 0).toInt = 0) → 5 - x2.toInt < (n : Int) → sw (fX9_tick_28 n a0 x1 x2 σ) (fun R => sCI T R.2 ∧ sFR T VX9_tick σ0 R.2 ∧ (((1 ≤ x1.toInt ∧ x1.toInt ≤ 100000) ∧ R.1.toInt = x1.toInt ∧ (mm_I R.2 a0 0).toInt = 0) ∨ (¬ (1 ≤ x1.toInt ∧ x1.toInt ≤ 100000) ∧ (mm_I R.2 a0 0).toInt = 1))) := by
  intro n
  induction n with
  | zero => intro a0 x1 x2 σ c0 f0 t_a0 p_0 p_1 w_0 w_1 hn; exfalso; exact (by (try simp only [zp, zo, zq] at p_0 p_1 w_0 w_1 hn ⊢) <;> (try simp only [zz, Int32.reduceToInt, ne_eq] at p_0 p_1 w_0 w_1 hn ⊢) <;> (try simp (disch := omega) only [zb] at p_0 p_1 w_0 w_1 hn ⊢) <;> first | omega | ((try simp (disch := omega) only [zb] at p_0 p_1 w_0 w_1 hn ⊢) <;> omega))
  | succ n ih =>
    intro a0 x1 x2 σ c0 f0 t_a0 p_0 p_1 w_0 w_1 hn
    unfold fX9_tick_28
    refine sw_ite (fun h3224 => ?_) (fun h3224 => ?_)
    · refine sw_sh (ci_sh c0 t_a0 rfl) ?_
      exact sw_some ⟨c0, f0, (by (try simp only [zp, zo, zq] at p_0 p_1 w_0 w_1 hn h3224 ⊢) <;> (try simp only [zz, Int32.reduceToInt, ne_eq] at p_0 p_1 w_0 w_1 hn h3224 ⊢) <;> (try simp (disch := omega) only [zb] at p_0 p_1 w_0 w_1 hn h3224 ⊢) <;> first | omega | ((try simp (disch := omega) only [zb] at p_0 p_1 w_0 w_1 hn h3224 ⊢) <;> omega))⟩
    · refine sw_sh (ci_sh c0 t_a0 rfl) ?_
      refine sw_on (sX9_layLines c0 t_a0 (by (try simp only [zp, zo, zq] at p_0 p_1 w_0 w_1 hn h3224 ⊢) <;> (try simp only [zz, Int32.reduceToInt, ne_eq] at p_0 p_1 w_0 w_1 hn h3224 ⊢) <;> (try simp (disch := omega) only [zb] at p_0 p_1 w_0 w_1 hn h3224 ⊢) <;> first | omega | ((try simp (disch := omega) only [zb] at p_0 p_1 w_0 w_1 hn h3224 ⊢) <;> omega)) ) ?_
      intro q9 hqq9
      obtain ⟨cq9, gq9, xq9⟩ := hqq9
      have fq9 := fr_trans f0 gq9 rfl
      refine sw_sh (ci_sh cq9 t_a0 rfl) ?_
      obtain ⟨q11, eq11, tq11⟩ := ci_ref cq9 t_a0 41 (κ' := 91) rfl
      refine sw_onS eq11 ?_
      refine sw_ar (ci_sh cq9 tq11 rfl) ?_
      refine sw_ib (by (try simp only [zp, zo, zq] at p_0 p_1 w_0 w_1 hn h3224 xq9 ⊢) <;> (try simp only [zz, Int32.reduceToInt, ne_eq] at p_0 p_1 w_0 w_1 hn h3224 xq9 ⊢) <;> (try simp (disch := omega) only [zb] at p_0 p_1 w_0 w_1 hn h3224 xq9 ⊢) <;> first | omega | ((try simp (disch := omega) only [zb] at p_0 p_1 w_0 w_1 hn h3224 xq9 ⊢) <;> omega)) ?_
      have w3225 := (gq9.2.2 _ _ tq11 x2.toNatClampNeg rfl).1
      have r3226 := ci_rg c0 tq11 x2.toNatClampNeg (lo := (-1)) (hi := 59) rfl
      have r3227 := ci_rg cq9 tq11 x2.toNatClampNeg (lo := (-1)) (hi := 59) rfl
      refine sw_ite (fun h3228 => ?_) (fun h3228 => ?_)
      · unfold fX9_tick_83
        refine sw_sh (ci_sh cq9 t_a0 rfl) ?_
        refine sw_onS eq11 ?_
        refine sw_ar (ci_sh cq9 tq11 rfl) ?_
        refine sw_ib (by (try simp only [zp, zo, zq] at p_0 p_1 w_0 w_1 hn h3224 xq9 w3225 r3226 r3227 h3228 ⊢) <;> (try simp only [zz, Int32.reduceToInt, ne_eq] at p_0 p_1 w_0 w_1 hn h3224 xq9 w3225 r3226 r3227 h3228 ⊢) <;> (try simp (disch := omega) only [zb] at p_0 p_1 w_0 w_1 hn h3224 xq9 w3225 r3226 r3227 h3228 ⊢) <;> first | omega | ((try simp (disch := omega) only [zb] at p_0 p_1 w_0 w_1 hn h3224 xq9 w3225 r3226 r3227 h3228 ⊢) <;> omega)) ?_
        refine sw_ite (fun h3229 => ?_) (fun h3229 => ?_)
        · have r3231 := ci_rg cq9 t_a0 44 (lo := 0) (hi := 1100) rfl
          refine sw_ite (fun h3232 => ?_) (fun h3232 => ?_)
          · have w3233 := (gq9.2.2 _ _ t_a0 34 rfl).1
            have w3234 := (gq9.2.2 _ _ t_a0 0 rfl).1
            exact ih a0 x1 (x2 + 1) q9 cq9 fq9 t_a0 (by (try simp only [zp, zo, zq] at p_0 p_1 w_0 w_1 hn h3224 xq9 w3225 r3226 r3227 h3228 h3229 r3231 h3232 w3233 w3234 ⊢) <;> (try simp only [zz, Int32.reduceToInt, ne_eq] at p_0 p_1 w_0 w_1 hn h3224 xq9 w3225 r3226 r3227 h3228 h3229 r3231 h3232 w3233 w3234 ⊢) <;> (try simp (disch := omega) only [zb] at p_0 p_1 w_0 w_1 hn h3224 xq9 w3225 r3226 r3227 h3228 h3229 r3231 h3232 w3233 w3234 ⊢) <;> first | omega | ((try simp (disch := omega) only [zb] at p_0 p_1 w_0 w_1 hn h3224 xq9 w3225 r3226 r3227 h3228 h3229 r3231 h3232 w3233 w3234 ⊢) <;> omega)) (by (try simp only [zp, zo, zq] at p_0 p_1 w_0 w_1 hn h3224 xq9 w3225 r3226 r3227 h3228 h3229 r3231 h3232 w3233 w3234 ⊢) <;> (try simp only [zz, Int32.reduceToInt, ne_eq] at p_0 p_1 w_0 w_1 hn h3224 xq9 w3225 r3226 r3227 h3228 h3229 r3231 h3232 w3233 w3234 ⊢) <;> (try simp (disch := omega) only [zb] at p_0 p_1 w_0 w_1 hn h3224 xq9 w3225 r3226 r3227 h3228 h3229 r3231 h3232 w3233 w3234 ⊢) <;> first | omega | ((try simp (disch := omega) only [zb] at p_0 p_1 w_0 w_1 hn h3224 xq9 w3225 r3226 r3227 h3228 h3229 r3231 h3232 w3233 w3234 ⊢) <;> omega)) (by (try simp only [zp, zo, zq] at p_0 p_1 w_0 w_1 hn h3224 xq9 w3225 r3226 r3227 h3228 h3229 r3231 h3232 w3233 w3234 ⊢) <;> (try simp only [zz, Int32.reduceToInt, ne_eq] at p_0 p_1 w_0 w_1 hn h3224 xq9 w3225 r3226 r3227 h3228 h3229 r3231 h3232 w3233 w3234 ⊢) <;> (try simp (disch := omega) only [zb] at p_0 p_1 w_0 w_1 hn h3224 xq9 w3225 r3226 r3227 h3228 h3229 r3231 h3232 w3233 w3234 ⊢) <;> first | omega | ((try simp (disch := omega) only [zb] at p_0 p_1 w_0 w_1 hn h3224 xq9 w3225 r3226 r3227 h3228 h3229 r3231 h3232 w3233 w3234 ⊢) <;> omega)) (by (try simp only [zp, zo, zq] at p_0 p_1 w_0 w_1 hn h3224 xq9 w3225 r3226 r3227 h3228 h3229 r3231 h3232 w3233 w3234 ⊢) <;> (try simp only [zz, Int32.reduceToInt, ne_eq] at p_0 p_1 w_0 w_1 hn h3224 xq9 w3225 r3226 r3227 h3228 h3229 r3231 h3232 w3233 w3234 ⊢) <;> (try simp (disch := omega) only [zb] at p_0 p_1 w_0 w_1 hn h3224 xq9 w3225 r3226 r3227 h3228 h3229 r3231 h3232 w3233 w3234 ⊢) <;> first | omega | ((try simp (disch := omega) only [zb] at p_0 p_1 w_0 w_1 hn h3224 xq9 w3225 r3226 r3227 h3228 h3229 r3231 h3232 w3233 w3234 ⊢) <;> omega)) (by (try simp only [zp, zo, zq] at p_0 p_1 w_0 w_1 hn h3224 xq9 w3225 r3226 r3227 h3228 h3229 r3231 h3232 w3233 w3234 ⊢) <;> (try simp only [zz, Int32.reduceToInt, ne_eq] at p_0 p_1 w_0 w_1 hn h3224 xq9 w3225 r3226 r3227 h3228 h3229 r3231 h3232 w3233 w3234 ⊢) <;> (try simp (disch := omega) only [zb] at p_0 p_1 w_0 w_1 hn h3224 xq9 w3225 r3226 r3227 h3228 h3229 r3231 h3232 w3233 w3234 ⊢) <;> first | omega | ((try simp (disch := omega) only [zb] at p_0 p_1 w_0 w_1 hn h3224 xq9 w3225 r3226 r3227 h3228 h3229 r3231 h3232 w3233 w3234 ⊢) <;> omega))
          · have w3235 := (gq9.2.2 _ _ t_a0 35 rfl).1
            have r3236 := ci_rg c0 t_a0 35 (lo := 0) (hi := 60) rfl
            have r3237 := ci_rg cq9 t_a0 35 (lo := 0) (hi := 60) rfl
            refine sw_ite (fun h3238 => ?_) (fun h3238 => ?_)
            · have w3239 := (gq9.2.2 _ _ t_a0 34 rfl).1
              have w3240 := (gq9.2.2 _ _ t_a0 0 rfl).1
              exact ih a0 x1 (x2 + 1) q9 cq9 fq9 t_a0 (by (try simp only [zp, zo, zq] at p_0 p_1 w_0 w_1 hn h3224 xq9 w3225 r3226 r3227 h3228 h3229 r3231 h3232 w3235 r3236 r3237 h3238 w3239 w3240 ⊢) <;> (try simp only [zz, Int32.reduceToInt, ne_eq] at p_0 p_1 w_0 w_1 hn h3224 xq9 w3225 r3226 r3227 h3228 h3229 r3231 h3232 w3235 r3236 r3237 h3238 w3239 w3240 ⊢) <;> (try simp (disch := omega) only [zb] at p_0 p_1 w_0 w_1 hn h3224 xq9 w3225 r3226 r3227 h3228 h3229 r3231 h3232 w3235 r3236 r3237 h3238 w3239 w3240 ⊢) <;> first | omega | ((try simp (disch := omega) only [zb] at p_0 p_1 w_0 w_1 hn h3224 xq9 w3225 r3226 r3227 h3228 h3229 r3231 h3232 w3235 r3236 r3237 h3238 w3239 w3240 ⊢) <;> omega)) (by (try simp only [zp, zo, zq] at p_0 p_1 w_0 w_1 hn h3224 xq9 w3225 r3226 r3227 h3228 h3229 r3231 h3232 w3235 r3236 r3237 h3238 w3239 w3240 ⊢) <;> (try simp only [zz, Int32.reduceToInt, ne_eq] at p_0 p_1 w_0 w_1 hn h3224 xq9 w3225 r3226 r3227 h3228 h3229 r3231 h3232 w3235 r3236 r3237 h3238 w3239 w3240 ⊢) <;> (try simp (disch := omega) only [zb] at p_0 p_1 w_0 w_1 hn h3224 xq9 w3225 r3226 r3227 h3228 h3229 r3231 h3232 w3235 r3236 r3237 h3238 w3239 w3240 ⊢) <;> first | omega | ((try simp (disch := omega) only [zb] at p_0 p_1 w_0 w_1 hn h3224 xq9 w3225 r3226 r3227 h3228 h3229 r3231 h3232 w3235 r3236 r3237 h3238 w3239 w3240 ⊢) <;> omega)) (by (try simp only [zp, zo, zq] at p_0 p_1 w_0 w_1 hn h3224 xq9 w3225 r3226 r3227 h3228 h3229 r3231 h3232 w3235 r3236 r3237 h3238 w3239 w3240 ⊢) <;> (try simp only [zz, Int32.reduceToInt, ne_eq] at p_0 p_1 w_0 w_1 hn h3224 xq9 w3225 r3226 r3227 h3228 h3229 r3231 h3232 w3235 r3236 r3237 h3238 w3239 w3240 ⊢) <;> (try simp (disch := omega) only [zb] at p_0 p_1 w_0 w_1 hn h3224 xq9 w3225 r3226 r3227 h3228 h3229 r3231 h3232 w3235 r3236 r3237 h3238 w3239 w3240 ⊢) <;> first | omega | ((try simp (disch := omega) only [zb] at p_0 p_1 w_0 w_1 hn h3224 xq9 w3225 r3226 r3227 h3228 h3229 r3231 h3232 w3235 r3236 r3237 h3238 w3239 w3240 ⊢) <;> omega)) (by (try simp only [zp, zo, zq] at p_0 p_1 w_0 w_1 hn h3224 xq9 w3225 r3226 r3227 h3228 h3229 r3231 h3232 w3235 r3236 r3237 h3238 w3239 w3240 ⊢) <;> (try simp only [zz, Int32.reduceToInt, ne_eq] at p_0 p_1 w_0 w_1 hn h3224 xq9 w3225 r3226 r3227 h3228 h3229 r3231 h3232 w3235 r3236 r3237 h3238 w3239 w3240 ⊢) <;> (try simp (disch := omega) only [zb] at p_0 p_1 w_0 w_1 hn h3224 xq9 w3225 r3226 r3227 h3228 h3229 r3231 h3232 w3235 r3236 r3237 h3238 w3239 w3240 ⊢) <;> first | omega | ((try simp (disch := omega) only [zb] at p_0 p_1 w_0 w_1 hn h3224 xq9 w3225 r3226 r3227 h3228 h3229 r3231 h3232 w3235 r3236 r3237 h3238 w3239 w3240 ⊢) <;> omega)) (by (try simp only [zp, zo, zq] at p_0 p_1 w_0 w_1 hn h3224 xq9 w3225 r3226 r3227 h3228 h3229 r3231 h3232 w3235 r3236 r3237 h3238 w3239 w3240 ⊢) <;> (try simp only [zz, Int32.reduceToInt, ne_eq] at p_0 p_1 w_0 w_1 hn h3224 xq9 w3225 r3226 r3227 h3228 h3229 r3231 h3232 w3235 r3236 r3237 h3238 w3239 w3240 ⊢) <;> (try simp (disch := omega) only [zb] at p_0 p_1 w_0 w_1 hn h3224 xq9 w3225 r3226 r3227 h3228 h3229 r3231 h3232 w3235 r3236 r3237 h3238 w3239 w3240 ⊢) <;> first | omega | ((try simp (disch := omega) only [zb] at p_0 p_1 w_0 w_1 hn h3224 xq9 w3225 r3226 r3227 h3228 h3229 r3231 h3232 w3235 r3236 r3237 h3238 w3239 w3240 ⊢) <;> omega))
            · refine sw_onS eq11 ?_
              refine sw_ar (ci_sh cq9 tq11 rfl) ?_
              refine sw_ib (by (try simp only [zp, zo, zq] at p_0 p_1 w_0 w_1 hn h3224 xq9 w3225 r3226 r3227 h3228 h3229 r3231 h3232 w3235 r3236 r3237 h3238 ⊢) <;> (try simp only [zz, Int32.reduceToInt, ne_eq] at p_0 p_1 w_0 w_1 hn h3224 xq9 w3225 r3226 r3227 h3228 h3229 r3231 h3232 w3235 r3236 r3237 h3238 ⊢) <;> (try simp (disch := omega) only [zb] at p_0 p_1 w_0 w_1 hn h3224 xq9 w3225 r3226 r3227 h3228 h3229 r3231 h3232 w3235 r3236 r3237 h3238 ⊢) <;> first | omega | ((try simp (disch := omega) only [zb] at p_0 p_1 w_0 w_1 hn h3224 xq9 w3225 r3226 r3227 h3228 h3229 r3231 h3232 w3235 r3236 r3237 h3238 ⊢) <;> omega)) ?_
              have cs25 := ci_wI cq9 tq11 (j := x2.toNatClampNeg) (v := mm_I q9 a0 35) (kr_s (lo := (-1)) (hi := 59) rfl (by (try simp only [zp, zo, zq] at p_0 p_1 w_0 w_1 hn h3224 xq9 w3225 r3226 r3227 h3228 h3229 r3231 h3232 w3235 r3236 r3237 h3238 ⊢) <;> (try simp only [zz, Int32.reduceToInt, ne_eq] at p_0 p_1 w_0 w_1 hn h3224 xq9 w3225 r3226 r3227 h3228 h3229 r3231 h3232 w3235 r3236 r3237 h3238 ⊢) <;> (try simp (disch := omega) only [zb] at p_0 p_1 w_0 w_1 hn h3224 xq9 w3225 r3226 r3227 h3228 h3229 r3231 h3232 w3235 r3236 r3237 h3238 ⊢) <;> first | omega | ((try simp (disch := omega) only [zb] at p_0 p_1 w_0 w_1 hn h3224 xq9 w3225 r3226 r3227 h3228 h3229 r3231 h3232 w3235 r3236 r3237 h3238 ⊢) <;> omega)))
              have fs25 := fr_wI fq9 tq11 (j := x2.toNatClampNeg) (v := mm_I q9 a0 35) rfl
              refine sw_let (fun s25 es25 => ?_)
              rw [es25] at cs25 fs25
              obtain ⟨q26, eq26, tq26⟩ := ci_ref cs25 t_a0 36 (κ' := 86) rfl
              refine sw_onS eq26 ?_
              refine sw_ar (ci_sh cs25 tq26 rfl) ?_
              have w3241 : mm_I s25 a0 35 = mm_I q9 a0 35 := by rw [← es25]; exact rd_k t_a0 tq11 (by decide)
              have r3242 := ci_rg cs25 t_a0 35 (lo := 0) (hi := 60) rfl
              refine sw_ib (by (try simp only [zp, zo, zq] at p_0 p_1 w_0 w_1 hn h3224 xq9 w3225 r3226 r3227 h3228 h3229 r3231 h3232 w3235 r3236 r3237 h3238 w3241 r3242 ⊢) <;> (try simp only [zz, Int32.reduceToInt, ne_eq] at p_0 p_1 w_0 w_1 hn h3224 xq9 w3225 r3226 r3227 h3228 h3229 r3231 h3232 w3235 r3236 r3237 h3238 w3241 r3242 ⊢) <;> (try simp (disch := omega) only [zb] at p_0 p_1 w_0 w_1 hn h3224 xq9 w3225 r3226 r3227 h3228 h3229 r3231 h3232 w3235 r3236 r3237 h3238 w3241 r3242 ⊢) <;> first | omega | ((try simp (disch := omega) only [zb] at p_0 p_1 w_0 w_1 hn h3224 xq9 w3225 r3226 r3227 h3228 h3229 r3231 h3232 w3235 r3236 r3237 h3238 w3241 r3242 ⊢) <;> omega)) ?_
              have cs29 := ci_wI cs25 tq26 (j := (mm_I s25 a0 35).toNatClampNeg) (v := x2) (kr_n rfl)
              have fs29 := fr_wI fs25 tq26 (j := (mm_I s25 a0 35).toNatClampNeg) (v := x2) rfl
              refine sw_let (fun s29 es29 => ?_)
              rw [es29] at cs29 fs29
              obtain ⟨q30, eq30, tq30⟩ := ci_ref cs29 t_a0 37 (κ' := 87) rfl
              refine sw_onS eq30 ?_
              refine sw_ar (ci_sh cs29 tq30 rfl) ?_
              have w3243 : mm_I s29 a0 35 = mm_I s25 a0 35 := by rw [← es29]; exact rd_k t_a0 tq26 (by decide)
              have r3244 := ci_rg cs29 t_a0 35 (lo := 0) (hi := 60) rfl
              refine sw_ib (by (try simp only [zp, zo, zq] at p_0 p_1 w_0 w_1 hn h3224 xq9 w3225 r3226 r3227 h3228 h3229 r3231 h3232 w3235 r3236 r3237 h3238 w3241 r3242 w3243 r3244 ⊢) <;> (try simp only [zz, Int32.reduceToInt, ne_eq] at p_0 p_1 w_0 w_1 hn h3224 xq9 w3225 r3226 r3227 h3228 h3229 r3231 h3232 w3235 r3236 r3237 h3238 w3241 r3242 w3243 r3244 ⊢) <;> (try simp (disch := omega) only [zb] at p_0 p_1 w_0 w_1 hn h3224 xq9 w3225 r3226 r3227 h3228 h3229 r3231 h3232 w3235 r3236 r3237 h3238 w3241 r3242 w3243 r3244 ⊢) <;> first | omega | ((try simp (disch := omega) only [zb] at p_0 p_1 w_0 w_1 hn h3224 xq9 w3225 r3226 r3227 h3228 h3229 r3231 h3232 w3235 r3236 r3237 h3238 w3241 r3242 w3243 r3244 ⊢) <;> omega)) ?_
              have cs33 := ci_wI cs29 tq30 (j := (mm_I s29 a0 35).toNatClampNeg) (v := mm_I s29 a0 34) (kr_n rfl)
              have fs33 := fr_wI fs29 tq30 (j := (mm_I s29 a0 35).toNatClampNeg) (v := mm_I s29 a0 34) rfl
              refine sw_let (fun s33 es33 => ?_)
              rw [es33] at cs33 fs33
              obtain ⟨q34, eq34, tq34⟩ := ci_ref cs33 t_a0 38 (κ' := 88) rfl
              refine sw_onS eq34 ?_
              refine sw_ar (ci_sh cs33 tq34 rfl) ?_
              have w3245 : mm_I s33 a0 35 = mm_I s29 a0 35 := by rw [← es33]; exact rd_k t_a0 tq30 (by decide)
              have r3246 := ci_rg cs33 t_a0 35 (lo := 0) (hi := 60) rfl
              refine sw_ib (by (try simp only [zp, zo, zq] at p_0 p_1 w_0 w_1 hn h3224 xq9 w3225 r3226 r3227 h3228 h3229 r3231 h3232 w3235 r3236 r3237 h3238 w3241 r3242 w3243 r3244 w3245 r3246 ⊢) <;> (try simp only [zz, Int32.reduceToInt, ne_eq] at p_0 p_1 w_0 w_1 hn h3224 xq9 w3225 r3226 r3227 h3228 h3229 r3231 h3232 w3235 r3236 r3237 h3238 w3241 r3242 w3243 r3244 w3245 r3246 ⊢) <;> (try simp (disch := omega) only [zb] at p_0 p_1 w_0 w_1 hn h3224 xq9 w3225 r3226 r3227 h3228 h3229 r3231 h3232 w3235 r3236 r3237 h3238 w3241 r3242 w3243 r3244 w3245 r3246 ⊢) <;> first | omega | ((try simp (disch := omega) only [zb] at p_0 p_1 w_0 w_1 hn h3224 xq9 w3225 r3226 r3227 h3228 h3229 r3231 h3232 w3235 r3236 r3237 h3238 w3241 r3242 w3243 r3244 w3245 r3246 ⊢) <;> omega)) ?_
              have cs37 := ci_wI cs33 tq34 (j := (mm_I s33 a0 35).toNatClampNeg) (v := -1) (kr_n rfl)
              have fs37 := fr_wI fs33 tq34 (j := (mm_I s33 a0 35).toNatClampNeg) (v := -1) rfl
              refine sw_let (fun s37 es37 => ?_)
              rw [es37] at cs37 fs37
              obtain ⟨q38, eq38, tq38⟩ := ci_ref cs37 t_a0 39 (κ' := 89) rfl
              refine sw_onS eq38 ?_
              refine sw_ar (ci_sh cs37 tq38 rfl) ?_
              have w3247 : mm_I s37 a0 35 = mm_I s33 a0 35 := by rw [← es37]; exact rd_k t_a0 tq34 (by decide)
              have r3248 := ci_rg cs37 t_a0 35 (lo := 0) (hi := 60) rfl
              refine sw_ib (by (try simp only [zp, zo, zq] at p_0 p_1 w_0 w_1 hn h3224 xq9 w3225 r3226 r3227 h3228 h3229 r3231 h3232 w3235 r3236 r3237 h3238 w3241 r3242 w3243 r3244 w3245 r3246 w3247 r3248 ⊢) <;> (try simp only [zz, Int32.reduceToInt, ne_eq] at p_0 p_1 w_0 w_1 hn h3224 xq9 w3225 r3226 r3227 h3228 h3229 r3231 h3232 w3235 r3236 r3237 h3238 w3241 r3242 w3243 r3244 w3245 r3246 w3247 r3248 ⊢) <;> (try simp (disch := omega) only [zb] at p_0 p_1 w_0 w_1 hn h3224 xq9 w3225 r3226 r3227 h3228 h3229 r3231 h3232 w3235 r3236 r3237 h3238 w3241 r3242 w3243 r3244 w3245 r3246 w3247 r3248 ⊢) <;> first | omega | ((try simp (disch := omega) only [zb] at p_0 p_1 w_0 w_1 hn h3224 xq9 w3225 r3226 r3227 h3228 h3229 r3231 h3232 w3235 r3236 r3237 h3238 w3241 r3242 w3243 r3244 w3245 r3246 w3247 r3248 ⊢) <;> omega)) ?_
              have w3249 : mm_I s37 a0 44 = mm_I s33 a0 44 := by rw [← es37]; exact rd_k t_a0 tq34 (by decide)
              have w3250 : mm_I s33 a0 44 = mm_I s29 a0 44 := by rw [← es33]; exact rd_k t_a0 tq30 (by decide)
              have w3251 : mm_I s29 a0 44 = mm_I s25 a0 44 := by rw [← es29]; exact rd_k t_a0 tq26 (by decide)
              have w3252 : mm_I s25 a0 44 = mm_I q9 a0 44 := by rw [← es25]; exact rd_k t_a0 tq11 (by decide)
              have r3253 := ci_rg cs25 t_a0 44 (lo := 0) (hi := 1100) rfl
              have r3254 := ci_rg cs29 t_a0 44 (lo := 0) (hi := 1100) rfl
              have r3255 := ci_rg cs33 t_a0 44 (lo := 0) (hi := 1100) rfl
              have r3256 := ci_rg cs37 t_a0 44 (lo := 0) (hi := 1100) rfl
              have cs41 := ci_wI cs37 tq38 (j := (mm_I s37 a0 35).toNatClampNeg) (v := mm_I s37 a0 44) (kr_s (lo := 0) (hi := 400) rfl (by (try simp only [zp, zo, zq] at p_0 p_1 w_0 w_1 hn h3224 xq9 w3225 r3226 r3227 h3228 h3229 r3231 h3232 w3235 r3236 r3237 h3238 w3241 r3242 w3243 r3244 w3245 r3246 w3247 r3248 w3249 w3250 w3251 w3252 r3253 r3254 r3255 r3256 ⊢) <;> (try simp only [zz, Int32.reduceToInt, ne_eq] at p_0 p_1 w_0 w_1 hn h3224 xq9 w3225 r3226 r3227 h3228 h3229 r3231 h3232 w3235 r3236 r3237 h3238 w3241 r3242 w3243 r3244 w3245 r3246 w3247 r3248 w3249 w3250 w3251 w3252 r3253 r3254 r3255 r3256 ⊢) <;> (try simp (disch := omega) only [zb] at p_0 p_1 w_0 w_1 hn h3224 xq9 w3225 r3226 r3227 h3228 h3229 r3231 h3232 w3235 r3236 r3237 h3238 w3241 r3242 w3243 r3244 w3245 r3246 w3247 r3248 w3249 w3250 w3251 w3252 r3253 r3254 r3255 r3256 ⊢) <;> first | omega | ((try simp (disch := omega) only [zb] at p_0 p_1 w_0 w_1 hn h3224 xq9 w3225 r3226 r3227 h3228 h3229 r3231 h3232 w3235 r3236 r3237 h3238 w3241 r3242 w3243 r3244 w3245 r3246 w3247 r3248 w3249 w3250 w3251 w3252 r3253 r3254 r3255 r3256 ⊢) <;> omega)))
              have fs41 := fr_wI fs37 tq38 (j := (mm_I s37 a0 35).toNatClampNeg) (v := mm_I s37 a0 44) rfl
              refine sw_let (fun s41 es41 => ?_)
              rw [es41] at cs41 fs41
              have w3257 : mm_I s41 a0 35 = mm_I s37 a0 35 := by rw [← es41]; exact rd_k t_a0 tq38 (by decide)
              have r3258 := ci_rg cs41 t_a0 35 (lo := 0) (hi := 60) rfl
              have w3259 : mm_I s41 a0 44 = mm_I s37 a0 44 := by rw [← es41]; exact rd_k t_a0 tq38 (by decide)
              have r3260 := ci_rg cs41 t_a0 44 (lo := 0) (hi := 1100) rfl
              have w3261 : mm_I s41 a0 34 = mm_I s37 a0 34 := by rw [← es41]; exact rd_k t_a0 tq38 (by decide)
              have w3262 : mm_I s37 a0 34 = mm_I s33 a0 34 := by rw [← es37]; exact rd_k t_a0 tq34 (by decide)
              have w3263 : mm_I s33 a0 34 = mm_I s29 a0 34 := by rw [← es33]; exact rd_k t_a0 tq30 (by decide)
              have w3264 : mm_I s29 a0 34 = mm_I s25 a0 34 := by rw [← es29]; exact rd_k t_a0 tq26 (by decide)
              have w3265 : mm_I s25 a0 34 = mm_I q9 a0 34 := by rw [← es25]; exact rd_k t_a0 tq11 (by decide)
              have w3266 := (gq9.2.2 _ _ t_a0 34 rfl).1
              have w3267 : mm_I s41 a0 0 = mm_I s37 a0 0 := by rw [← es41]; exact rd_k t_a0 tq38 (by decide)
              have w3268 : mm_I s37 a0 0 = mm_I s33 a0 0 := by rw [← es37]; exact rd_k t_a0 tq34 (by decide)
              have w3269 : mm_I s33 a0 0 = mm_I s29 a0 0 := by rw [← es33]; exact rd_k t_a0 tq30 (by decide)
              have w3270 : mm_I s29 a0 0 = mm_I s25 a0 0 := by rw [← es29]; exact rd_k t_a0 tq26 (by decide)
              have w3271 : mm_I s25 a0 0 = mm_I q9 a0 0 := by rw [← es25]; exact rd_k t_a0 tq11 (by decide)
              have w3272 := (gq9.2.2 _ _ t_a0 0 rfl).1
              exact vX9_tick_167 ih mm_fuel a0 x1 x2 0 s41 cs41 fs41 t_a0 (by (try simp only [zp, zo, zq] at p_0 p_1 w_0 w_1 hn h3224 xq9 w3225 r3226 r3227 h3228 h3229 r3231 h3232 w3235 r3236 r3237 h3238 w3241 r3242 w3243 r3244 w3245 r3246 w3247 r3248 w3249 w3250 w3251 w3252 r3253 r3254 r3255 r3256 w3257 r3258 w3259 r3260 w3261 w3262 w3263 w3264 w3265 w3266 w3267 w3268 w3269 w3270 w3271 w3272 ⊢) <;> (try simp only [zz, Int32.reduceToInt, ne_eq] at p_0 p_1 w_0 w_1 hn h3224 xq9 w3225 r3226 r3227 h3228 h3229 r3231 h3232 w3235 r3236 r3237 h3238 w3241 r3242 w3243 r3244 w3245 r3246 w3247 r3248 w3249 w3250 w3251 w3252 r3253 r3254 r3255 r3256 w3257 r3258 w3259 r3260 w3261 w3262 w3263 w3264 w3265 w3266 w3267 w3268 w3269 w3270 w3271 w3272 ⊢) <;> (try simp (disch := omega) only [zb] at p_0 p_1 w_0 w_1 hn h3224 xq9 w3225 r3226 r3227 h3228 h3229 r3231 h3232 w3235 r3236 r3237 h3238 w3241 r3242 w3243 r3244 w3245 r3246 w3247 r3248 w3249 w3250 w3251 w3252 r3253 r3254 r3255 r3256 w3257 r3258 w3259 r3260 w3261 w3262 w3263 w3264 w3265 w3266 w3267 w3268 w3269 w3270 w3271 w3272 ⊢) <;> first | omega | ((try simp (disch := omega) only [zb] at p_0 p_1 w_0 w_1 hn h3224 xq9 w3225 r3226 r3227 h3228 h3229 r3231 h3232 w3235 r3236 r3237 h3238 w3241 r3242 w3243 r3244 w3245 r3246 w3247 r3248 w3249 w3250 w3251 w3252 r3253 r3254 r3255 r3256 w3257 r3258 w3259 r3260 w3261 w3262 w3263 w3264 w3265 w3266 w3267 w3268 w3269 w3270 w3271 w3272 ⊢) <;> omega)) (by (try simp only [zp, zo, zq] at p_0 p_1 w_0 w_1 hn h3224 xq9 w3225 r3226 r3227 h3228 h3229 r3231 h3232 w3235 r3236 r3237 h3238 w3241 r3242 w3243 r3244 w3245 r3246 w3247 r3248 w3249 w3250 w3251 w3252 r3253 r3254 r3255 r3256 w3257 r3258 w3259 r3260 w3261 w3262 w3263 w3264 w3265 w3266 w3267 w3268 w3269 w3270 w3271 w3272 ⊢) <;> (try simp only [zz, Int32.reduceToInt, ne_eq] at p_0 p_1 w_0 w_1 hn h3224 xq9 w3225 r3226 r3227 h3228 h3229 r3231 h3232 w3235 r3236 r3237 h3238 w3241 r3242 w3243 r3244 w3245 r3246 w3247 r3248 w3249 w3250 w3251 w3252 r3253 r3254 r3255 r3256 w3257 r3258 w3259 r3260 w3261 w3262 w3263 w3264 w3265 w3266 w3267 w3268 w3269 w3270 w3271 w3272 ⊢) <;> (try simp (disch := omega) only [zb] at p_0 p_1 w_0 w_1 hn h3224 xq9 w3225 r3226 r3227 h3228 h3229 r3231 h3232 w3235 r3236 r3237 h3238 w3241 r3242 w3243 r3244 w3245 r3246 w3247 r3248 w3249 w3250 w3251 w3252 r3253 r3254 r3255 r3256 w3257 r3258 w3259 r3260 w3261 w3262 w3263 w3264 w3265 w3266 w3267 w3268 w3269 w3270 w3271 w3272 ⊢) <;> first | omega | ((try simp (disch := omega) only [zb] at p_0 p_1 w_0 w_1 hn h3224 xq9 w3225 r3226 r3227 h3228 h3229 r3231 h3232 w3235 r3236 r3237 h3238 w3241 r3242 w3243 r3244 w3245 r3246 w3247 r3248 w3249 w3250 w3251 w3252 r3253 r3254 r3255 r3256 w3257 r3258 w3259 r3260 w3261 w3262 w3263 w3264 w3265 w3266 w3267 w3268 w3269 w3270 w3271 w3272 ⊢) <;> omega)) (by (try simp only [zp, zo, zq] at p_0 p_1 w_0 w_1 hn h3224 xq9 w3225 r3226 r3227 h3228 h3229 r3231 h3232 w3235 r3236 r3237 h3238 w3241 r3242 w3243 r3244 w3245 r3246 w3247 r3248 w3249 w3250 w3251 w3252 r3253 r3254 r3255 r3256 w3257 r3258 w3259 r3260 w3261 w3262 w3263 w3264 w3265 w3266 w3267 w3268 w3269 w3270 w3271 w3272 ⊢) <;> (try simp only [zz, Int32.reduceToInt, ne_eq] at p_0 p_1 w_0 w_1 hn h3224 xq9 w3225 r3226 r3227 h3228 h3229 r3231 h3232 w3235 r3236 r3237 h3238 w3241 r3242 w3243 r3244 w3245 r3246 w3247 r3248 w3249 w3250 w3251 w3252 r3253 r3254 r3255 r3256 w3257 r3258 w3259 r3260 w3261 w3262 w3263 w3264 w3265 w3266 w3267 w3268 w3269 w3270 w3271 w3272 ⊢) <;> (try simp (disch := omega) only [zb] at p_0 p_1 w_0 w_1 hn h3224 xq9 w3225 r3226 r3227 h3228 h3229 r3231 h3232 w3235 r3236 r3237 h3238 w3241 r3242 w3243 r3244 w3245 r3246 w3247 r3248 w3249 w3250 w3251 w3252 r3253 r3254 r3255 r3256 w3257 r3258 w3259 r3260 w3261 w3262 w3263 w3264 w3265 w3266 w3267 w3268 w3269 w3270 w3271 w3272 ⊢) <;> first | omega | ((try simp (disch := omega) only [zb] at p_0 p_1 w_0 w_1 hn h3224 xq9 w3225 r3226 r3227 h3228 h3229 r3231 h3232 w3235 r3236 r3237 h3238 w3241 r3242 w3243 r3244 w3245 r3246 w3247 r3248 w3249 w3250 w3251 w3252 r3253 r3254 r3255 r3256 w3257 r3258 w3259 r3260 w3261 w3262 w3263 w3264 w3265 w3266 w3267 w3268 w3269 w3270 w3271 w3272 ⊢) <;> omega)) (by (try simp only [zp, zo, zq] at p_0 p_1 w_0 w_1 hn h3224 xq9 w3225 r3226 r3227 h3228 h3229 r3231 h3232 w3235 r3236 r3237 h3238 w3241 r3242 w3243 r3244 w3245 r3246 w3247 r3248 w3249 w3250 w3251 w3252 r3253 r3254 r3255 r3256 w3257 r3258 w3259 r3260 w3261 w3262 w3263 w3264 w3265 w3266 w3267 w3268 w3269 w3270 w3271 w3272 ⊢) <;> (try simp only [zz, Int32.reduceToInt, ne_eq] at p_0 p_1 w_0 w_1 hn h3224 xq9 w3225 r3226 r3227 h3228 h3229 r3231 h3232 w3235 r3236 r3237 h3238 w3241 r3242 w3243 r3244 w3245 r3246 w3247 r3248 w3249 w3250 w3251 w3252 r3253 r3254 r3255 r3256 w3257 r3258 w3259 r3260 w3261 w3262 w3263 w3264 w3265 w3266 w3267 w3268 w3269 w3270 w3271 w3272 ⊢) <;> (try simp (disch := omega) only [zb] at p_0 p_1 w_0 w_1 hn h3224 xq9 w3225 r3226 r3227 h3228 h3229 r3231 h3232 w3235 r3236 r3237 h3238 w3241 r3242 w3243 r3244 w3245 r3246 w3247 r3248 w3249 w3250 w3251 w3252 r3253 r3254 r3255 r3256 w3257 r3258 w3259 r3260 w3261 w3262 w3263 w3264 w3265 w3266 w3267 w3268 w3269 w3270 w3271 w3272 ⊢) <;> first | omega | ((try simp (disch := omega) only [zb] at p_0 p_1 w_0 w_1 hn h3224 xq9 w3225 r3226 r3227 h3228 h3229 r3231 h3232 w3235 r3236 r3237 h3238 w3241 r3242 w3243 r3244 w3245 r3246 w3247 r3248 w3249 w3250 w3251 w3252 r3253 r3254 r3255 r3256 w3257 r3258 w3259 r3260 w3261 w3262 w3263 w3264 w3265 w3266 w3267 w3268 w3269 w3270 w3271 w3272 ⊢) <;> omega)) (by (try simp only [zp, zo, zq] at p_0 p_1 w_0 w_1 hn h3224 xq9 w3225 r3226 r3227 h3228 h3229 r3231 h3232 w3235 r3236 r3237 h3238 w3241 r3242 w3243 r3244 w3245 r3246 w3247 r3248 w3249 w3250 w3251 w3252 r3253 r3254 r3255 r3256 w3257 r3258 w3259 r3260 w3261 w3262 w3263 w3264 w3265 w3266 w3267 w3268 w3269 w3270 w3271 w3272 ⊢) <;> (try simp only [zz, Int32.reduceToInt, ne_eq] at p_0 p_1 w_0 w_1 hn h3224 xq9 w3225 r3226 r3227 h3228 h3229 r3231 h3232 w3235 r3236 r3237 h3238 w3241 r3242 w3243 r3244 w3245 r3246 w3247 r3248 w3249 w3250 w3251 w3252 r3253 r3254 r3255 r3256 w3257 r3258 w3259 r3260 w3261 w3262 w3263 w3264 w3265 w3266 w3267 w3268 w3269 w3270 w3271 w3272 ⊢) <;> (try simp (disch := omega) only [zb] at p_0 p_1 w_0 w_1 hn h3224 xq9 w3225 r3226 r3227 h3228 h3229 r3231 h3232 w3235 r3236 r3237 h3238 w3241 r3242 w3243 r3244 w3245 r3246 w3247 r3248 w3249 w3250 w3251 w3252 r3253 r3254 r3255 r3256 w3257 r3258 w3259 r3260 w3261 w3262 w3263 w3264 w3265 w3266 w3267 w3268 w3269 w3270 w3271 w3272 ⊢) <;> first | omega | ((try simp (disch := omega) only [zb] at p_0 p_1 w_0 w_1 hn h3224 xq9 w3225 r3226 r3227 h3228 h3229 r3231 h3232 w3235 r3236 r3237 h3238 w3241 r3242 w3243 r3244 w3245 r3246 w3247 r3248 w3249 w3250 w3251 w3252 r3253 r3254 r3255 r3256 w3257 r3258 w3259 r3260 w3261 w3262 w3263 w3264 w3265 w3266 w3267 w3268 w3269 w3270 w3271 w3272 ⊢) <;> omega)) (by (try simp only [zp, zo, zq] at p_0 p_1 w_0 w_1 hn h3224 xq9 w3225 r3226 r3227 h3228 h3229 r3231 h3232 w3235 r3236 r3237 h3238 w3241 r3242 w3243 r3244 w3245 r3246 w3247 r3248 w3249 w3250 w3251 w3252 r3253 r3254 r3255 r3256 w3257 r3258 w3259 r3260 w3261 w3262 w3263 w3264 w3265 w3266 w3267 w3268 w3269 w3270 w3271 w3272 ⊢) <;> (try simp only [zz, Int32.reduceToInt, ne_eq] at p_0 p_1 w_0 w_1 hn h3224 xq9 w3225 r3226 r3227 h3228 h3229 r3231 h3232 w3235 r3236 r3237 h3238 w3241 r3242 w3243 r3244 w3245 r3246 w3247 r3248 w3249 w3250 w3251 w3252 r3253 r3254 r3255 r3256 w3257 r3258 w3259 r3260 w3261 w3262 w3263 w3264 w3265 w3266 w3267 w3268 w3269 w3270 w3271 w3272 ⊢) <;> (try simp (disch := omega) only [zb] at p_0 p_1 w_0 w_1 hn h3224 xq9 w3225 r3226 r3227 h3228 h3229 r3231 h3232 w3235 r3236 r3237 h3238 w3241 r3242 w3243 r3244 w3245 r3246 w3247 r3248 w3249 w3250 w3251 w3252 r3253 r3254 r3255 r3256 w3257 r3258 w3259 r3260 w3261 w3262 w3263 w3264 w3265 w3266 w3267 w3268 w3269 w3270 w3271 w3272 ⊢) <;> first | omega | ((try simp (disch := omega) only [zb] at p_0 p_1 w_0 w_1 hn h3224 xq9 w3225 r3226 r3227 h3228 h3229 r3231 h3232 w3235 r3236 r3237 h3238 w3241 r3242 w3243 r3244 w3245 r3246 w3247 r3248 w3249 w3250 w3251 w3252 r3253 r3254 r3255 r3256 w3257 r3258 w3259 r3260 w3261 w3262 w3263 w3264 w3265 w3266 w3267 w3268 w3269 w3270 w3271 w3272 ⊢) <;> omega)) (by (try simp only [zp, zo, zq] at p_0 p_1 w_0 w_1 hn h3224 xq9 w3225 r3226 r3227 h3228 h3229 r3231 h3232 w3235 r3236 r3237 h3238 w3241 r3242 w3243 r3244 w3245 r3246 w3247 r3248 w3249 w3250 w3251 w3252 r3253 r3254 r3255 r3256 w3257 r3258 w3259 r3260 w3261 w3262 w3263 w3264 w3265 w3266 w3267 w3268 w3269 w3270 w3271 w3272 ⊢) <;> (try simp only [zz, Int32.reduceToInt, ne_eq] at p_0 p_1 w_0 w_1 hn h3224 xq9 w3225 r3226 r3227 h3228 h3229 r3231 h3232 w3235 r3236 r3237 h3238 w3241 r3242 w3243 r3244 w3245 r3246 w3247 r3248 w3249 w3250 w3251 w3252 r3253 r3254 r3255 r3256 w3257 r3258 w3259 r3260 w3261 w3262 w3263 w3264 w3265 w3266 w3267 w3268 w3269 w3270 w3271 w3272 ⊢) <;> (try simp (disch := omega) only [zb] at p_0 p_1 w_0 w_1 hn h3224 xq9 w3225 r3226 r3227 h3228 h3229 r3231 h3232 w3235 r3236 r3237 h3238 w3241 r3242 w3243 r3244 w3245 r3246 w3247 r3248 w3249 w3250 w3251 w3252 r3253 r3254 r3255 r3256 w3257 r3258 w3259 r3260 w3261 w3262 w3263 w3264 w3265 w3266 w3267 w3268 w3269 w3270 w3271 w3272 ⊢) <;> first | omega | ((try simp (disch := omega) only [zb] at p_0 p_1 w_0 w_1 hn h3224 xq9 w3225 r3226 r3227 h3228 h3229 r3231 h3232 w3235 r3236 r3237 h3238 w3241 r3242 w3243 r3244 w3245 r3246 w3247 r3248 w3249 w3250 w3251 w3252 r3253 r3254 r3255 r3256 w3257 r3258 w3259 r3260 w3261 w3262 w3263 w3264 w3265 w3266 w3267 w3268 w3269 w3270 w3271 w3272 ⊢) <;> omega)) (by (try simp only [zp, zo, zq] at p_0 p_1 w_0 w_1 hn h3224 xq9 w3225 r3226 r3227 h3228 h3229 r3231 h3232 w3235 r3236 r3237 h3238 w3241 r3242 w3243 r3244 w3245 r3246 w3247 r3248 w3249 w3250 w3251 w3252 r3253 r3254 r3255 r3256 w3257 r3258 w3259 r3260 w3261 w3262 w3263 w3264 w3265 w3266 w3267 w3268 w3269 w3270 w3271 w3272 ⊢) <;> (try simp only [zz, Int32.reduceToInt, ne_eq] at p_0 p_1 w_0 w_1 hn h3224 xq9 w3225 r3226 r3227 h3228 h3229 r3231 h3232 w3235 r3236 r3237 h3238 w3241 r3242 w3243 r3244 w3245 r3246 w3247 r3248 w3249 w3250 w3251 w3252 r3253 r3254 r3255 r3256 w3257 r3258 w3259 r3260 w3261 w3262 w3263 w3264 w3265 w3266 w3267 w3268 w3269 w3270 w3271 w3272 ⊢) <;> (try simp (disch := omega) only [zb] at p_0 p_1 w_0 w_1 hn h3224 xq9 w3225 r3226 r3227 h3228 h3229 r3231 h3232 w3235 r3236 r3237 h3238 w3241 r3242 w3243 r3244 w3245 r3246 w3247 r3248 w3249 w3250 w3251 w3252 r3253 r3254 r3255 r3256 w3257 r3258 w3259 r3260 w3261 w3262 w3263 w3264 w3265 w3266 w3267 w3268 w3269 w3270 w3271 w3272 ⊢) <;> first | omega | ((try simp (disch := omega) only [zb] at p_0 p_1 w_0 w_1 hn h3224 xq9 w3225 r3226 r3227 h3228 h3229 r3231 h3232 w3235 r3236 r3237 h3238 w3241 r3242 w3243 r3244 w3245 r3246 w3247 r3248 w3249 w3250 w3251 w3252 r3253 r3254 r3255 r3256 w3257 r3258 w3259 r3260 w3261 w3262 w3263 w3264 w3265 w3266 w3267 w3268 w3269 w3270 w3271 w3272 ⊢) <;> omega)) (by have hz : (mm_fuel : Int) = 2000 := rfl; rw [hz]; exact (by (try simp only [zp, zo, zq] at p_0 p_1 w_0 w_1 hn h3224 xq9 w3225 r3226 r3227 h3228 h3229 r3231 h3232 w3235 r3236 r3237 h3238 w3241 r3242 w3243 r3244 w3245 r3246 w3247 r3248 w3249 w3250 w3251 w3252 r3253 r3254 r3255 r3256 w3257 r3258 w3259 r3260 w3261 w3262 w3263 w3264 w3265 w3266 w3267 w3268 w3269 w3270 w3271 w3272 ⊢) <;> (try simp only [zz, Int32.reduceToInt, ne_eq] at p_0 p_1 w_0 w_1 hn h3224 xq9 w3225 r3226 r3227 h3228 h3229 r3231 h3232 w3235 r3236 r3237 h3238 w3241 r3242 w3243 r3244 w3245 r3246 w3247 r3248 w3249 w3250 w3251 w3252 r3253 r3254 r3255 r3256 w3257 r3258 w3259 r3260 w3261 w3262 w3263 w3264 w3265 w3266 w3267 w3268 w3269 w3270 w3271 w3272 ⊢) <;> (try simp (disch := omega) only [zb] at p_0 p_1 w_0 w_1 hn h3224 xq9 w3225 r3226 r3227 h3228 h3229 r3231 h3232 w3235 r3236 r3237 h3238 w3241 r3242 w3243 r3244 w3245 r3246 w3247 r3248 w3249 w3250 w3251 w3252 r3253 r3254 r3255 r3256 w3257 r3258 w3259 r3260 w3261 w3262 w3263 w3264 w3265 w3266 w3267 w3268 w3269 w3270 w3271 w3272 ⊢) <;> first | omega | ((try simp (disch := omega) only [zb] at p_0 p_1 w_0 w_1 hn h3224 xq9 w3225 r3226 r3227 h3228 h3229 r3231 h3232 w3235 r3236 r3237 h3238 w3241 r3242 w3243 r3244 w3245 r3246 w3247 r3248 w3249 w3250 w3251 w3252 r3253 r3254 r3255 r3256 w3257 r3258 w3259 r3260 w3261 w3262 w3263 w3264 w3265 w3266 w3267 w3268 w3269 w3270 w3271 w3272 ⊢) <;> omega)))
        · have w3273 := (gq9.2.2 _ _ t_a0 34 rfl).1
          have w3274 := (gq9.2.2 _ _ t_a0 0 rfl).1
          exact ih a0 x1 (x2 + 1) q9 cq9 fq9 t_a0 (by (try simp only [zp, zo, zq] at p_0 p_1 w_0 w_1 hn h3224 xq9 w3225 r3226 r3227 h3228 h3229 w3273 w3274 ⊢) <;> (try simp only [zz, Int32.reduceToInt, ne_eq] at p_0 p_1 w_0 w_1 hn h3224 xq9 w3225 r3226 r3227 h3228 h3229 w3273 w3274 ⊢) <;> (try simp (disch := omega) only [zb] at p_0 p_1 w_0 w_1 hn h3224 xq9 w3225 r3226 r3227 h3228 h3229 w3273 w3274 ⊢) <;> first | omega | ((try simp (disch := omega) only [zb] at p_0 p_1 w_0 w_1 hn h3224 xq9 w3225 r3226 r3227 h3228 h3229 w3273 w3274 ⊢) <;> omega)) (by (try simp only [zp, zo, zq] at p_0 p_1 w_0 w_1 hn h3224 xq9 w3225 r3226 r3227 h3228 h3229 w3273 w3274 ⊢) <;> (try simp only [zz, Int32.reduceToInt, ne_eq] at p_0 p_1 w_0 w_1 hn h3224 xq9 w3225 r3226 r3227 h3228 h3229 w3273 w3274 ⊢) <;> (try simp (disch := omega) only [zb] at p_0 p_1 w_0 w_1 hn h3224 xq9 w3225 r3226 r3227 h3228 h3229 w3273 w3274 ⊢) <;> first | omega | ((try simp (disch := omega) only [zb] at p_0 p_1 w_0 w_1 hn h3224 xq9 w3225 r3226 r3227 h3228 h3229 w3273 w3274 ⊢) <;> omega)) (by (try simp only [zp, zo, zq] at p_0 p_1 w_0 w_1 hn h3224 xq9 w3225 r3226 r3227 h3228 h3229 w3273 w3274 ⊢) <;> (try simp only [zz, Int32.reduceToInt, ne_eq] at p_0 p_1 w_0 w_1 hn h3224 xq9 w3225 r3226 r3227 h3228 h3229 w3273 w3274 ⊢) <;> (try simp (disch := omega) only [zb] at p_0 p_1 w_0 w_1 hn h3224 xq9 w3225 r3226 r3227 h3228 h3229 w3273 w3274 ⊢) <;> first | omega | ((try simp (disch := omega) only [zb] at p_0 p_1 w_0 w_1 hn h3224 xq9 w3225 r3226 r3227 h3228 h3229 w3273 w3274 ⊢) <;> omega)) (by (try simp only [zp, zo, zq] at p_0 p_1 w_0 w_1 hn h3224 xq9 w3225 r3226 r3227 h3228 h3229 w3273 w3274 ⊢) <;> (try simp only [zz, Int32.reduceToInt, ne_eq] at p_0 p_1 w_0 w_1 hn h3224 xq9 w3225 r3226 r3227 h3228 h3229 w3273 w3274 ⊢) <;> (try simp (disch := omega) only [zb] at p_0 p_1 w_0 w_1 hn h3224 xq9 w3225 r3226 r3227 h3228 h3229 w3273 w3274 ⊢) <;> first | omega | ((try simp (disch := omega) only [zb] at p_0 p_1 w_0 w_1 hn h3224 xq9 w3225 r3226 r3227 h3228 h3229 w3273 w3274 ⊢) <;> omega)) (by (try simp only [zp, zo, zq] at p_0 p_1 w_0 w_1 hn h3224 xq9 w3225 r3226 r3227 h3228 h3229 w3273 w3274 ⊢) <;> (try simp only [zz, Int32.reduceToInt, ne_eq] at p_0 p_1 w_0 w_1 hn h3224 xq9 w3225 r3226 r3227 h3228 h3229 w3273 w3274 ⊢) <;> (try simp (disch := omega) only [zb] at p_0 p_1 w_0 w_1 hn h3224 xq9 w3225 r3226 r3227 h3228 h3229 w3273 w3274 ⊢) <;> first | omega | ((try simp (disch := omega) only [zb] at p_0 p_1 w_0 w_1 hn h3224 xq9 w3225 r3226 r3227 h3228 h3229 w3273 w3274 ⊢) <;> omega))
      · refine sw_onS eq11 ?_
        refine sw_ar (ci_sh cq9 tq11 rfl) ?_
        refine sw_ib (by (try simp only [zp, zo, zq] at p_0 p_1 w_0 w_1 hn h3224 xq9 w3225 r3226 r3227 h3228 ⊢) <;> (try simp only [zz, Int32.reduceToInt, ne_eq] at p_0 p_1 w_0 w_1 hn h3224 xq9 w3225 r3226 r3227 h3228 ⊢) <;> (try simp (disch := omega) only [zb] at p_0 p_1 w_0 w_1 hn h3224 xq9 w3225 r3226 r3227 h3228 ⊢) <;> first | omega | ((try simp (disch := omega) only [zb] at p_0 p_1 w_0 w_1 hn h3224 xq9 w3225 r3226 r3227 h3228 ⊢) <;> omega)) ?_
        have r3276 := ci_rg cq9 t_a0 44 (lo := 0) (hi := 1100) rfl
        refine sw_on (sX9_isSame cq9 t_a0 (by (try simp only [zp, zo, zq] at p_0 p_1 w_0 w_1 hn h3224 xq9 w3225 r3226 r3227 h3228 r3276 ⊢) <;> (try simp only [zz, Int32.reduceToInt, ne_eq] at p_0 p_1 w_0 w_1 hn h3224 xq9 w3225 r3226 r3227 h3228 r3276 ⊢) <;> (try simp (disch := omega) only [zb] at p_0 p_1 w_0 w_1 hn h3224 xq9 w3225 r3226 r3227 h3228 r3276 ⊢) <;> first | omega | ((try simp (disch := omega) only [zb] at p_0 p_1 w_0 w_1 hn h3224 xq9 w3225 r3226 r3227 h3228 r3276 ⊢) <;> omega)) (by (try simp only [zp, zo, zq] at p_0 p_1 w_0 w_1 hn h3224 xq9 w3225 r3226 r3227 h3228 r3276 ⊢) <;> (try simp only [zz, Int32.reduceToInt, ne_eq] at p_0 p_1 w_0 w_1 hn h3224 xq9 w3225 r3226 r3227 h3228 r3276 ⊢) <;> (try simp (disch := omega) only [zb] at p_0 p_1 w_0 w_1 hn h3224 xq9 w3225 r3226 r3227 h3228 r3276 ⊢) <;> first | omega | ((try simp (disch := omega) only [zb] at p_0 p_1 w_0 w_1 hn h3224 xq9 w3225 r3226 r3227 h3228 r3276 ⊢) <;> omega))) ?_
        intro q55 hqq55
        obtain ⟨eq55, xq55⟩ := hqq55
        (try rw [eq55])
        refine sw_ite (fun h3277 => ?_) (fun h3277 => ?_)
        · refine sw_sh (ci_sh cq9 t_a0 rfl) ?_
          refine sw_onS eq11 ?_
          refine sw_ar (ci_sh cq9 tq11 rfl) ?_
          refine sw_ib (by (try simp only [zp, zo, zq] at p_0 p_1 w_0 w_1 hn h3224 xq9 w3225 r3226 r3227 h3228 r3276 xq55 h3277 ⊢) <;> (try simp only [zz, Int32.reduceToInt, ne_eq] at p_0 p_1 w_0 w_1 hn h3224 xq9 w3225 r3226 r3227 h3228 r3276 xq55 h3277 ⊢) <;> (try simp (disch := omega) only [zb] at p_0 p_1 w_0 w_1 hn h3224 xq9 w3225 r3226 r3227 h3228 r3276 xq55 h3277 ⊢) <;> first | omega | ((try simp (disch := omega) only [zb] at p_0 p_1 w_0 w_1 hn h3224 xq9 w3225 r3226 r3227 h3228 r3276 xq55 h3277 ⊢) <;> omega)) ?_
          obtain ⟨q61, eq61, tq61⟩ := ci_ref cq9 t_a0 38 (κ' := 88) rfl
          refine sw_onS eq61 ?_
          refine sw_ar (ci_sh cq9 tq61 rfl) ?_
          refine sw_ib (by (try simp only [zp, zo, zq] at p_0 p_1 w_0 w_1 hn h3224 xq9 w3225 r3226 r3227 h3228 r3276 xq55 h3277 ⊢) <;> (try simp only [zz, Int32.reduceToInt, ne_eq] at p_0 p_1 w_0 w_1 hn h3224 xq9 w3225 r3226 r3227 h3228 r3276 xq55 h3277 ⊢) <;> (try simp (disch := omega) only [zb] at p_0 p_1 w_0 w_1 hn h3224 xq9 w3225 r3226 r3227 h3228 r3276 xq55 h3277 ⊢) <;> first | omega | ((try simp (disch := omega) only [zb] at p_0 p_1 w_0 w_1 hn h3224 xq9 w3225 r3226 r3227 h3228 r3276 xq55 h3277 ⊢) <;> omega)) ?_
          have cs64 := ci_wI cq9 tq61 (j := (mm_I q9 q11 x2.toNatClampNeg).toNatClampNeg) (v := mm_I q9 a0 34) (kr_n rfl)
          have fs64 := fr_wI fq9 tq61 (j := (mm_I q9 q11 x2.toNatClampNeg).toNatClampNeg) (v := mm_I q9 a0 34) rfl
          refine sw_let (fun s64 es64 => ?_)
          rw [es64] at cs64 fs64
          have v3278 : mm_R s64 a0 41 = some q11 := (by rw [← es64]; exact eq11)
          refine sw_onS v3278 ?_
          refine sw_ar (ci_sh cs64 tq11 rfl) ?_
          refine sw_ib (by (try simp only [zp, zo, zq] at p_0 p_1 w_0 w_1 hn h3224 xq9 w3225 r3226 r3227 h3228 r3276 xq55 h3277 ⊢) <;> (try simp only [zz, Int32.reduceToInt, ne_eq] at p_0 p_1 w_0 w_1 hn h3224 xq9 w3225 r3226 r3227 h3228 r3276 xq55 h3277 ⊢) <;> (try simp (disch := omega) only [zb] at p_0 p_1 w_0 w_1 hn h3224 xq9 w3225 r3226 r3227 h3228 r3276 xq55 h3277 ⊢) <;> first | omega | ((try simp (disch := omega) only [zb] at p_0 p_1 w_0 w_1 hn h3224 xq9 w3225 r3226 r3227 h3228 r3276 xq55 h3277 ⊢) <;> omega)) ?_
          have cs68 := ci_wI cs64 tq11 (j := x2.toNatClampNeg) (v := -1) (kr_s (lo := (-1)) (hi := 59) rfl (by (try simp only [zp, zo, zq] at p_0 p_1 w_0 w_1 hn h3224 xq9 w3225 r3226 r3227 h3228 r3276 xq55 h3277 ⊢) <;> (try simp only [zz, Int32.reduceToInt, ne_eq] at p_0 p_1 w_0 w_1 hn h3224 xq9 w3225 r3226 r3227 h3228 r3276 xq55 h3277 ⊢) <;> (try simp (disch := omega) only [zb] at p_0 p_1 w_0 w_1 hn h3224 xq9 w3225 r3226 r3227 h3228 r3276 xq55 h3277 ⊢) <;> first | omega | ((try simp (disch := omega) only [zb] at p_0 p_1 w_0 w_1 hn h3224 xq9 w3225 r3226 r3227 h3228 r3276 xq55 h3277 ⊢) <;> omega)))
          have fs68 := fr_wI fs64 tq11 (j := x2.toNatClampNeg) (v := -1) rfl
          refine sw_let (fun s68 es68 => ?_)
          rw [es68] at cs68 fs68
          unfold fX9_tick_83
          refine sw_sh (ci_sh cs68 t_a0 rfl) ?_
          have v3279 : mm_R s68 a0 41 = some q11 := (by rw [← es68]; exact v3278)
          refine sw_onS v3279 ?_
          refine sw_ar (ci_sh cs68 tq11 rfl) ?_
          refine sw_ib (by (try simp only [zp, zo, zq] at p_0 p_1 w_0 w_1 hn h3224 xq9 w3225 r3226 r3227 h3228 r3276 xq55 h3277 ⊢) <;> (try simp only [zz, Int32.reduceToInt, ne_eq] at p_0 p_1 w_0 w_1 hn h3224 xq9 w3225 r3226 r3227 h3228 r3276 xq55 h3277 ⊢) <;> (try simp (disch := omega) only [zb] at p_0 p_1 w_0 w_1 hn h3224 xq9 w3225 r3226 r3227 h3228 r3276 xq55 h3277 ⊢) <;> first | omega | ((try simp (disch := omega) only [zb] at p_0 p_1 w_0 w_1 hn h3224 xq9 w3225 r3226 r3227 h3228 r3276 xq55 h3277 ⊢) <;> omega)) ?_
          have w3280 : mm_I s68 q11 x2.toNatClampNeg = -1 := by rw [← es68]; exact rd_self
          have r3281 := ci_rg cs68 tq11 x2.toNatClampNeg (lo := (-1)) (hi := 59) rfl
          refine sw_ite (fun h3282 => ?_) (fun h3282 => ?_)
          · have w3283 : mm_I s68 a0 44 = mm_I s64 a0 44 := by rw [← es68]; exact rd_k t_a0 tq11 (by decide)
            have w3284 : mm_I s64 a0 44 = mm_I q9 a0 44 := by rw [← es64]; exact rd_k t_a0 tq61 (by decide)
            have r3285 := ci_rg cs64 t_a0 44 (lo := 0) (hi := 1100) rfl
            have r3286 := ci_rg cs68 t_a0 44 (lo := 0) (hi := 1100) rfl
            refine sw_ite (fun h3287 => ?_) (fun h3287 => ?_)
            · have w3288 : mm_I s68 a0 34 = mm_I s64 a0 34 := by rw [← es68]; exact rd_k t_a0 tq11 (by decide)
              have w3289 : mm_I s64 a0 34 = mm_I q9 a0 34 := by rw [← es64]; exact rd_k t_a0 tq61 (by decide)
              have w3290 := (gq9.2.2 _ _ t_a0 34 rfl).1
              have w3291 : mm_I s68 a0 0 = mm_I s64 a0 0 := by rw [← es68]; exact rd_k t_a0 tq11 (by decide)
              have w3292 : mm_I s64 a0 0 = mm_I q9 a0 0 := by rw [← es64]; exact rd_k t_a0 tq61 (by decide)
              have w3293 := (gq9.2.2 _ _ t_a0 0 rfl).1
              exact ih a0 x1 (x2 + 1) s68 cs68 fs68 t_a0 (by (try simp only [zp, zo, zq] at p_0 p_1 w_0 w_1 hn h3224 xq9 w3225 r3226 r3227 h3228 r3276 xq55 h3277 w3280 r3281 h3282 w3283 w3284 r3285 r3286 h3287 w3288 w3289 w3290 w3291 w3292 w3293 ⊢) <;> (try simp only [zz, Int32.reduceToInt, ne_eq] at p_0 p_1 w_0 w_1 hn h3224 xq9 w3225 r3226 r3227 h3228 r3276 xq55 h3277 w3280 r3281 h3282 w3283 w3284 r3285 r3286 h3287 w3288 w3289 w3290 w3291 w3292 w3293 ⊢) <;> (try simp (disch := omega) only [zb] at p_0 p_1 w_0 w_1 hn h3224 xq9 w3225 r3226 r3227 h3228 r3276 xq55 h3277 w3280 r3281 h3282 w3283 w3284 r3285 r3286 h3287 w3288 w3289 w3290 w3291 w3292 w3293 ⊢) <;> first | omega | ((try simp (disch := omega) only [zb] at p_0 p_1 w_0 w_1 hn h3224 xq9 w3225 r3226 r3227 h3228 r3276 xq55 h3277 w3280 r3281 h3282 w3283 w3284 r3285 r3286 h3287 w3288 w3289 w3290 w3291 w3292 w3293 ⊢) <;> omega)) (by (try simp only [zp, zo, zq] at p_0 p_1 w_0 w_1 hn h3224 xq9 w3225 r3226 r3227 h3228 r3276 xq55 h3277 w3280 r3281 h3282 w3283 w3284 r3285 r3286 h3287 w3288 w3289 w3290 w3291 w3292 w3293 ⊢) <;> (try simp only [zz, Int32.reduceToInt, ne_eq] at p_0 p_1 w_0 w_1 hn h3224 xq9 w3225 r3226 r3227 h3228 r3276 xq55 h3277 w3280 r3281 h3282 w3283 w3284 r3285 r3286 h3287 w3288 w3289 w3290 w3291 w3292 w3293 ⊢) <;> (try simp (disch := omega) only [zb] at p_0 p_1 w_0 w_1 hn h3224 xq9 w3225 r3226 r3227 h3228 r3276 xq55 h3277 w3280 r3281 h3282 w3283 w3284 r3285 r3286 h3287 w3288 w3289 w3290 w3291 w3292 w3293 ⊢) <;> first | omega | ((try simp (disch := omega) only [zb] at p_0 p_1 w_0 w_1 hn h3224 xq9 w3225 r3226 r3227 h3228 r3276 xq55 h3277 w3280 r3281 h3282 w3283 w3284 r3285 r3286 h3287 w3288 w3289 w3290 w3291 w3292 w3293 ⊢) <;> omega)) (by (try simp only [zp, zo, zq] at p_0 p_1 w_0 w_1 hn h3224 xq9 w3225 r3226 r3227 h3228 r3276 xq55 h3277 w3280 r3281 h3282 w3283 w3284 r3285 r3286 h3287 w3288 w3289 w3290 w3291 w3292 w3293 ⊢) <;> (try simp only [zz, Int32.reduceToInt, ne_eq] at p_0 p_1 w_0 w_1 hn h3224 xq9 w3225 r3226 r3227 h3228 r3276 xq55 h3277 w3280 r3281 h3282 w3283 w3284 r3285 r3286 h3287 w3288 w3289 w3290 w3291 w3292 w3293 ⊢) <;> (try simp (disch := omega) only [zb] at p_0 p_1 w_0 w_1 hn h3224 xq9 w3225 r3226 r3227 h3228 r3276 xq55 h3277 w3280 r3281 h3282 w3283 w3284 r3285 r3286 h3287 w3288 w3289 w3290 w3291 w3292 w3293 ⊢) <;> first | omega | ((try simp (disch := omega) only [zb] at p_0 p_1 w_0 w_1 hn h3224 xq9 w3225 r3226 r3227 h3228 r3276 xq55 h3277 w3280 r3281 h3282 w3283 w3284 r3285 r3286 h3287 w3288 w3289 w3290 w3291 w3292 w3293 ⊢) <;> omega)) (by (try simp only [zp, zo, zq] at p_0 p_1 w_0 w_1 hn h3224 xq9 w3225 r3226 r3227 h3228 r3276 xq55 h3277 w3280 r3281 h3282 w3283 w3284 r3285 r3286 h3287 w3288 w3289 w3290 w3291 w3292 w3293 ⊢) <;> (try simp only [zz, Int32.reduceToInt, ne_eq] at p_0 p_1 w_0 w_1 hn h3224 xq9 w3225 r3226 r3227 h3228 r3276 xq55 h3277 w3280 r3281 h3282 w3283 w3284 r3285 r3286 h3287 w3288 w3289 w3290 w3291 w3292 w3293 ⊢) <;> (try simp (disch := omega) only [zb] at p_0 p_1 w_0 w_1 hn h3224 xq9 w3225 r3226 r3227 h3228 r3276 xq55 h3277 w3280 r3281 h3282 w3283 w3284 r3285 r3286 h3287 w3288 w3289 w3290 w3291 w3292 w3293 ⊢) <;> first | omega | ((try simp (disch := omega) only [zb] at p_0 p_1 w_0 w_1 hn h3224 xq9 w3225 r3226 r3227 h3228 r3276 xq55 h3277 w3280 r3281 h3282 w3283 w3284 r3285 r3286 h3287 w3288 w3289 w3290 w3291 w3292 w3293 ⊢) <;> omega)) (by (try simp only [zp, zo, zq] at p_0 p_1 w_0 w_1 hn h3224 xq9 w3225 r3226 r3227 h3228 r3276 xq55 h3277 w3280 r3281 h3282 w3283 w3284 r3285 r3286 h3287 w3288 w3289 w3290 w3291 w3292 w3293 ⊢) <;> (try simp only [zz, Int32.reduceToInt, ne_eq] at p_0 p_1 w_0 w_1 hn h3224 xq9 w3225 r3226 r3227 h3228 r3276 xq55 h3277 w3280 r3281 h3282 w3283 w3284 r3285 r3286 h3287 w3288 w3289 w3290 w3291 w3292 w3293 ⊢) <;> (try simp (disch := omega) only [zb] at p_0 p_1 w_0 w_1 hn h3224 xq9 w3225 r3226 r3227 h3228 r3276 xq55 h3277 w3280 r3281 h3282 w3283 w3284 r3285 r3286 h3287 w3288 w3289 w3290 w3291 w3292 w3293 ⊢) <;> first | omega | ((try simp (disch := omega) only [zb] at p_0 p_1 w_0 w_1 hn h3224 xq9 w3225 r3226 r3227 h3228 r3276 xq55 h3277 w3280 r3281 h3282 w3283 w3284 r3285 r3286 h3287 w3288 w3289 w3290 w3291 w3292 w3293 ⊢) <;> omega))
            · have w3294 : mm_I s68 a0 35 = mm_I s64 a0 35 := by rw [← es68]; exact rd_k t_a0 tq11 (by decide)
              have w3295 : mm_I s64 a0 35 = mm_I q9 a0 35 := by rw [← es64]; exact rd_k t_a0 tq61 (by decide)
              have w3296 := (gq9.2.2 _ _ t_a0 35 rfl).1
              have r3297 := ci_rg c0 t_a0 35 (lo := 0) (hi := 60) rfl
              have r3298 := ci_rg cq9 t_a0 35 (lo := 0) (hi := 60) rfl
              have r3299 := ci_rg cs64 t_a0 35 (lo := 0) (hi := 60) rfl
              have r3300 := ci_rg cs68 t_a0 35 (lo := 0) (hi := 60) rfl
              refine sw_ite (fun h3301 => ?_) (fun h3301 => ?_)
              · have w3302 : mm_I s68 a0 34 = mm_I s64 a0 34 := by rw [← es68]; exact rd_k t_a0 tq11 (by decide)
                have w3303 : mm_I s64 a0 34 = mm_I q9 a0 34 := by rw [← es64]; exact rd_k t_a0 tq61 (by decide)
                have w3304 := (gq9.2.2 _ _ t_a0 34 rfl).1
                have w3305 : mm_I s68 a0 0 = mm_I s64 a0 0 := by rw [← es68]; exact rd_k t_a0 tq11 (by decide)
                have w3306 : mm_I s64 a0 0 = mm_I q9 a0 0 := by rw [← es64]; exact rd_k t_a0 tq61 (by decide)
                have w3307 := (gq9.2.2 _ _ t_a0 0 rfl).1
                exact ih a0 x1 (x2 + 1) s68 cs68 fs68 t_a0 (by (try simp only [zp, zo, zq] at p_0 p_1 w_0 w_1 hn h3224 xq9 w3225 r3226 r3227 h3228 r3276 xq55 h3277 w3280 r3281 h3282 w3283 w3284 r3285 r3286 h3287 w3294 w3295 w3296 r3297 r3298 r3299 r3300 h3301 w3302 w3303 w3304 w3305 w3306 w3307 ⊢) <;> (try simp only [zz, Int32.reduceToInt, ne_eq] at p_0 p_1 w_0 w_1 hn h3224 xq9 w3225 r3226 r3227 h3228 r3276 xq55 h3277 w3280 r3281 h3282 w3283 w3284 r3285 r3286 h3287 w3294 w3295 w3296 r3297 r3298 r3299 r3300 h3301 w3302 w3303 w3304 w3305 w3306 w3307 ⊢) <;> (try simp (disch := omega) only [zb] at p_0 p_1 w_0 w_1 hn h3224 xq9 w3225 r3226 r3227 h3228 r3276 xq55 h3277 w3280 r3281 h3282 w3283 w3284 r3285 r3286 h3287 w3294 w3295 w3296 r3297 r3298 r3299 r3300 h3301 w3302 w3303 w3304 w3305 w3306 w3307 ⊢) <;> first | omega | ((try simp (disch := omega) only [zb] at p_0 p_1 w_0 w_1 hn h3224 xq9 w3225 r3226 r3227 h3228 r3276 xq55 h3277 w3280 r3281 h3282 w3283 w3284 r3285 r3286 h3287 w3294 w3295 w3296 r3297 r3298 r3299 r3300 h3301 w3302 w3303 w3304 w3305 w3306 w3307 ⊢) <;> omega)) (by (try simp only [zp, zo, zq] at p_0 p_1 w_0 w_1 hn h3224 xq9 w3225 r3226 r3227 h3228 r3276 xq55 h3277 w3280 r3281 h3282 w3283 w3284 r3285 r3286 h3287 w3294 w3295 w3296 r3297 r3298 r3299 r3300 h3301 w3302 w3303 w3304 w3305 w3306 w3307 ⊢) <;> (try simp only [zz, Int32.reduceToInt, ne_eq] at p_0 p_1 w_0 w_1 hn h3224 xq9 w3225 r3226 r3227 h3228 r3276 xq55 h3277 w3280 r3281 h3282 w3283 w3284 r3285 r3286 h3287 w3294 w3295 w3296 r3297 r3298 r3299 r3300 h3301 w3302 w3303 w3304 w3305 w3306 w3307 ⊢) <;> (try simp (disch := omega) only [zb] at p_0 p_1 w_0 w_1 hn h3224 xq9 w3225 r3226 r3227 h3228 r3276 xq55 h3277 w3280 r3281 h3282 w3283 w3284 r3285 r3286 h3287 w3294 w3295 w3296 r3297 r3298 r3299 r3300 h3301 w3302 w3303 w3304 w3305 w3306 w3307 ⊢) <;> first | omega | ((try simp (disch := omega) only [zb] at p_0 p_1 w_0 w_1 hn h3224 xq9 w3225 r3226 r3227 h3228 r3276 xq55 h3277 w3280 r3281 h3282 w3283 w3284 r3285 r3286 h3287 w3294 w3295 w3296 r3297 r3298 r3299 r3300 h3301 w3302 w3303 w3304 w3305 w3306 w3307 ⊢) <;> omega)) (by (try simp only [zp, zo, zq] at p_0 p_1 w_0 w_1 hn h3224 xq9 w3225 r3226 r3227 h3228 r3276 xq55 h3277 w3280 r3281 h3282 w3283 w3284 r3285 r3286 h3287 w3294 w3295 w3296 r3297 r3298 r3299 r3300 h3301 w3302 w3303 w3304 w3305 w3306 w3307 ⊢) <;> (try simp only [zz, Int32.reduceToInt, ne_eq] at p_0 p_1 w_0 w_1 hn h3224 xq9 w3225 r3226 r3227 h3228 r3276 xq55 h3277 w3280 r3281 h3282 w3283 w3284 r3285 r3286 h3287 w3294 w3295 w3296 r3297 r3298 r3299 r3300 h3301 w3302 w3303 w3304 w3305 w3306 w3307 ⊢) <;> (try simp (disch := omega) only [zb] at p_0 p_1 w_0 w_1 hn h3224 xq9 w3225 r3226 r3227 h3228 r3276 xq55 h3277 w3280 r3281 h3282 w3283 w3284 r3285 r3286 h3287 w3294 w3295 w3296 r3297 r3298 r3299 r3300 h3301 w3302 w3303 w3304 w3305 w3306 w3307 ⊢) <;> first | omega | ((try simp (disch := omega) only [zb] at p_0 p_1 w_0 w_1 hn h3224 xq9 w3225 r3226 r3227 h3228 r3276 xq55 h3277 w3280 r3281 h3282 w3283 w3284 r3285 r3286 h3287 w3294 w3295 w3296 r3297 r3298 r3299 r3300 h3301 w3302 w3303 w3304 w3305 w3306 w3307 ⊢) <;> omega)) (by (try simp only [zp, zo, zq] at p_0 p_1 w_0 w_1 hn h3224 xq9 w3225 r3226 r3227 h3228 r3276 xq55 h3277 w3280 r3281 h3282 w3283 w3284 r3285 r3286 h3287 w3294 w3295 w3296 r3297 r3298 r3299 r3300 h3301 w3302 w3303 w3304 w3305 w3306 w3307 ⊢) <;> (try simp only [zz, Int32.reduceToInt, ne_eq] at p_0 p_1 w_0 w_1 hn h3224 xq9 w3225 r3226 r3227 h3228 r3276 xq55 h3277 w3280 r3281 h3282 w3283 w3284 r3285 r3286 h3287 w3294 w3295 w3296 r3297 r3298 r3299 r3300 h3301 w3302 w3303 w3304 w3305 w3306 w3307 ⊢) <;> (try simp (disch := omega) only [zb] at p_0 p_1 w_0 w_1 hn h3224 xq9 w3225 r3226 r3227 h3228 r3276 xq55 h3277 w3280 r3281 h3282 w3283 w3284 r3285 r3286 h3287 w3294 w3295 w3296 r3297 r3298 r3299 r3300 h3301 w3302 w3303 w3304 w3305 w3306 w3307 ⊢) <;> first | omega | ((try simp (disch := omega) only [zb] at p_0 p_1 w_0 w_1 hn h3224 xq9 w3225 r3226 r3227 h3228 r3276 xq55 h3277 w3280 r3281 h3282 w3283 w3284 r3285 r3286 h3287 w3294 w3295 w3296 r3297 r3298 r3299 r3300 h3301 w3302 w3303 w3304 w3305 w3306 w3307 ⊢) <;> omega)) (by (try simp only [zp, zo, zq] at p_0 p_1 w_0 w_1 hn h3224 xq9 w3225 r3226 r3227 h3228 r3276 xq55 h3277 w3280 r3281 h3282 w3283 w3284 r3285 r3286 h3287 w3294 w3295 w3296 r3297 r3298 r3299 r3300 h3301 w3302 w3303 w3304 w3305 w3306 w3307 ⊢) <;> (try simp only [zz, Int32.reduceToInt, ne_eq] at p_0 p_1 w_0 w_1 hn h3224 xq9 w3225 r3226 r3227 h3228 r3276 xq55 h3277 w3280 r3281 h3282 w3283 w3284 r3285 r3286 h3287 w3294 w3295 w3296 r3297 r3298 r3299 r3300 h3301 w3302 w3303 w3304 w3305 w3306 w3307 ⊢) <;> (try simp (disch := omega) only [zb] at p_0 p_1 w_0 w_1 hn h3224 xq9 w3225 r3226 r3227 h3228 r3276 xq55 h3277 w3280 r3281 h3282 w3283 w3284 r3285 r3286 h3287 w3294 w3295 w3296 r3297 r3298 r3299 r3300 h3301 w3302 w3303 w3304 w3305 w3306 w3307 ⊢) <;> first | omega | ((try simp (disch := omega) only [zb] at p_0 p_1 w_0 w_1 hn h3224 xq9 w3225 r3226 r3227 h3228 r3276 xq55 h3277 w3280 r3281 h3282 w3283 w3284 r3285 r3286 h3287 w3294 w3295 w3296 r3297 r3298 r3299 r3300 h3301 w3302 w3303 w3304 w3305 w3306 w3307 ⊢) <;> omega))
              · refine sw_onS v3279 ?_
                refine sw_ar (ci_sh cs68 tq11 rfl) ?_
                refine sw_ib (by (try simp only [zp, zo, zq] at p_0 p_1 w_0 w_1 hn h3224 xq9 w3225 r3226 r3227 h3228 r3276 xq55 h3277 w3280 r3281 h3282 w3283 w3284 r3285 r3286 h3287 w3294 w3295 w3296 r3297 r3298 r3299 r3300 h3301 ⊢) <;> (try simp only [zz, Int32.reduceToInt, ne_eq] at p_0 p_1 w_0 w_1 hn h3224 xq9 w3225 r3226 r3227 h3228 r3276 xq55 h3277 w3280 r3281 h3282 w3283 w3284 r3285 r3286 h3287 w3294 w3295 w3296 r3297 r3298 r3299 r3300 h3301 ⊢) <;> (try simp (disch := omega) only [zb] at p_0 p_1 w_0 w_1 hn h3224 xq9 w3225 r3226 r3227 h3228 r3276 xq55 h3277 w3280 r3281 h3282 w3283 w3284 r3285 r3286 h3287 w3294 w3295 w3296 r3297 r3298 r3299 r3300 h3301 ⊢) <;> first | omega | ((try simp (disch := omega) only [zb] at p_0 p_1 w_0 w_1 hn h3224 xq9 w3225 r3226 r3227 h3228 r3276 xq55 h3277 w3280 r3281 h3282 w3283 w3284 r3285 r3286 h3287 w3294 w3295 w3296 r3297 r3298 r3299 r3300 h3301 ⊢) <;> omega)) ?_
                have cs25 := ci_wI cs68 tq11 (j := x2.toNatClampNeg) (v := mm_I s68 a0 35) (kr_s (lo := (-1)) (hi := 59) rfl (by (try simp only [zp, zo, zq] at p_0 p_1 w_0 w_1 hn h3224 xq9 w3225 r3226 r3227 h3228 r3276 xq55 h3277 w3280 r3281 h3282 w3283 w3284 r3285 r3286 h3287 w3294 w3295 w3296 r3297 r3298 r3299 r3300 h3301 ⊢) <;> (try simp only [zz, Int32.reduceToInt, ne_eq] at p_0 p_1 w_0 w_1 hn h3224 xq9 w3225 r3226 r3227 h3228 r3276 xq55 h3277 w3280 r3281 h3282 w3283 w3284 r3285 r3286 h3287 w3294 w3295 w3296 r3297 r3298 r3299 r3300 h3301 ⊢) <;> (try simp (disch := omega) only [zb] at p_0 p_1 w_0 w_1 hn h3224 xq9 w3225 r3226 r3227 h3228 r3276 xq55 h3277 w3280 r3281 h3282 w3283 w3284 r3285 r3286 h3287 w3294 w3295 w3296 r3297 r3298 r3299 r3300 h3301 ⊢) <;> first | omega | ((try simp (disch := omega) only [zb] at p_0 p_1 w_0 w_1 hn h3224 xq9 w3225 r3226 r3227 h3228 r3276 xq55 h3277 w3280 r3281 h3282 w3283 w3284 r3285 r3286 h3287 w3294 w3295 w3296 r3297 r3298 r3299 r3300 h3301 ⊢) <;> omega)))
                have fs25 := fr_wI fs68 tq11 (j := x2.toNatClampNeg) (v := mm_I s68 a0 35) rfl
                refine sw_let (fun s25 es25 => ?_)
                rw [es25] at cs25 fs25
                obtain ⟨q26, eq26, tq26⟩ := ci_ref cs25 t_a0 36 (κ' := 86) rfl
                refine sw_onS eq26 ?_
                refine sw_ar (ci_sh cs25 tq26 rfl) ?_
                have w3308 : mm_I s25 a0 35 = mm_I s68 a0 35 := by rw [← es25]; exact rd_k t_a0 tq11 (by decide)
                have r3309 := ci_rg cs25 t_a0 35 (lo := 0) (hi := 60) rfl
                refine sw_ib (by (try simp only [zp, zo, zq] at p_0 p_1 w_0 w_1 hn h3224 xq9 w3225 r3226 r3227 h3228 r3276 xq55 h3277 w3280 r3281 h3282 w3283 w3284 r3285 r3286 h3287 w3294 w3295 w3296 r3297 r3298 r3299 r3300 h3301 w3308 r3309 ⊢) <;> (try simp only [zz, Int32.reduceToInt, ne_eq] at p_0 p_1 w_0 w_1 hn h3224 xq9 w3225 r3226 r3227 h3228 r3276 xq55 h3277 w3280 r3281 h3282 w3283 w3284 r3285 r3286 h3287 w3294 w3295 w3296 r3297 r3298 r3299 r3300 h3301 w3308 r3309 ⊢) <;> (try simp (disch := omega) only [zb] at p_0 p_1 w_0 w_1 hn h3224 xq9 w3225 r3226 r3227 h3228 r3276 xq55 h3277 w3280 r3281 h3282 w3283 w3284 r3285 r3286 h3287 w3294 w3295 w3296 r3297 r3298 r3299 r3300 h3301 w3308 r3309 ⊢) <;> first | omega | ((try simp (disch := omega) only [zb] at p_0 p_1 w_0 w_1 hn h3224 xq9 w3225 r3226 r3227 h3228 r3276 xq55 h3277 w3280 r3281 h3282 w3283 w3284 r3285 r3286 h3287 w3294 w3295 w3296 r3297 r3298 r3299 r3300 h3301 w3308 r3309 ⊢) <;> omega)) ?_
                have cs29 := ci_wI cs25 tq26 (j := (mm_I s25 a0 35).toNatClampNeg) (v := x2) (kr_n rfl)
                have fs29 := fr_wI fs25 tq26 (j := (mm_I s25 a0 35).toNatClampNeg) (v := x2) rfl
                refine sw_let (fun s29 es29 => ?_)
                rw [es29] at cs29 fs29
                obtain ⟨q30, eq30, tq30⟩ := ci_ref cs29 t_a0 37 (κ' := 87) rfl
                refine sw_onS eq30 ?_
                refine sw_ar (ci_sh cs29 tq30 rfl) ?_
                have w3310 : mm_I s29 a0 35 = mm_I s25 a0 35 := by rw [← es29]; exact rd_k t_a0 tq26 (by decide)
                have r3311 := ci_rg cs29 t_a0 35 (lo := 0) (hi := 60) rfl
                refine sw_ib (by (try simp only [zp, zo, zq] at p_0 p_1 w_0 w_1 hn h3224 xq9 w3225 r3226 r3227 h3228 r3276 xq55 h3277 w3280 r3281 h3282 w3283 w3284 r3285 r3286 h3287 w3294 w3295 w3296 r3297 r3298 r3299 r3300 h3301 w3308 r3309 w3310 r3311 ⊢) <;> (try simp only [zz, Int32.reduceToInt, ne_eq] at p_0 p_1 w_0 w_1 hn h3224 xq9 w3225 r3226 r3227 h3228 r3276 xq55 h3277 w3280 r3281 h3282 w3283 w3284 r3285 r3286 h3287 w3294 w3295 w3296 r3297 r3298 r3299 r3300 h3301 w3308 r3309 w3310 r3311 ⊢) <;> (try simp (disch := omega) only [zb] at p_0 p_1 w_0 w_1 hn h3224 xq9 w3225 r3226 r3227 h3228 r3276 xq55 h3277 w3280 r3281 h3282 w3283 w3284 r3285 r3286 h3287 w3294 w3295 w3296 r3297 r3298 r3299 r3300 h3301 w3308 r3309 w3310 r3311 ⊢) <;> first | omega | ((try simp (disch := omega) only [zb] at p_0 p_1 w_0 w_1 hn h3224 xq9 w3225 r3226 r3227 h3228 r3276 xq55 h3277 w3280 r3281 h3282 w3283 w3284 r3285 r3286 h3287 w3294 w3295 w3296 r3297 r3298 r3299 r3300 h3301 w3308 r3309 w3310 r3311 ⊢) <;> omega)) ?_
                have cs33 := ci_wI cs29 tq30 (j := (mm_I s29 a0 35).toNatClampNeg) (v := mm_I s29 a0 34) (kr_n rfl)
                have fs33 := fr_wI fs29 tq30 (j := (mm_I s29 a0 35).toNatClampNeg) (v := mm_I s29 a0 34) rfl
                refine sw_let (fun s33 es33 => ?_)
                rw [es33] at cs33 fs33
                have v3312 : mm_R s33 a0 38 = some q61 := (by rw [← es33]; exact (by rw [← es29]; exact (by rw [← es25]; exact (by rw [← es68]; exact (by rw [← es64]; exact eq61)))))
                refine sw_onS v3312 ?_
                refine sw_ar (ci_sh cs33 tq61 rfl) ?_
                have w3313 : mm_I s33 a0 35 = mm_I s29 a0 35 := by rw [← es33]; exact rd_k t_a0 tq30 (by decide)
                have r3314 := ci_rg cs33 t_a0 35 (lo := 0) (hi := 60) rfl
                refine sw_ib (by (try simp only [zp, zo, zq] at p_0 p_1 w_0 w_1 hn h3224 xq9 w3225 r3226 r3227 h3228 r3276 xq55 h3277 w3280 r3281 h3282 w3283 w3284 r3285 r3286 h3287 w3294 w3295 w3296 r3297 r3298 r3299 r3300 h3301 w3308 r3309 w3310 r3311 w3313 r3314 ⊢) <;> (try simp only [zz, Int32.reduceToInt, ne_eq] at p_0 p_1 w_0 w_1 hn h3224 xq9 w3225 r3226 r3227 h3228 r3276 xq55 h3277 w3280 r3281 h3282 w3283 w3284 r3285 r3286 h3287 w3294 w3295 w3296 r3297 r3298 r3299 r3300 h3301 w3308 r3309 w3310 r3311 w3313 r3314 ⊢) <;> (try simp (disch := omega) only [zb] at p_0 p_1 w_0 w_1 hn h3224 xq9 w3225 r3226 r3227 h3228 r3276 xq55 h3277 w3280 r3281 h3282 w3283 w3284 r3285 r3286 h3287 w3294 w3295 w3296 r3297 r3298 r3299 r3300 h3301 w3308 r3309 w3310 r3311 w3313 r3314 ⊢) <;> first | omega | ((try simp (disch := omega) only [zb] at p_0 p_1 w_0 w_1 hn h3224 xq9 w3225 r3226 r3227 h3228 r3276 xq55 h3277 w3280 r3281 h3282 w3283 w3284 r3285 r3286 h3287 w3294 w3295 w3296 r3297 r3298 r3299 r3300 h3301 w3308 r3309 w3310 r3311 w3313 r3314 ⊢) <;> omega)) ?_
                have cs37 := ci_wI cs33 tq61 (j := (mm_I s33 a0 35).toNatClampNeg) (v := -1) (kr_n rfl)
                have fs37 := fr_wI fs33 tq61 (j := (mm_I s33 a0 35).toNatClampNeg) (v := -1) rfl
                refine sw_let (fun s37 es37 => ?_)
                rw [es37] at cs37 fs37
                obtain ⟨q38, eq38, tq38⟩ := ci_ref cs37 t_a0 39 (κ' := 89) rfl
                refine sw_onS eq38 ?_
                refine sw_ar (ci_sh cs37 tq38 rfl) ?_
                have w3315 : mm_I s37 a0 35 = mm_I s33 a0 35 := by rw [← es37]; exact rd_k t_a0 tq61 (by decide)
                have r3316 := ci_rg cs37 t_a0 35 (lo := 0) (hi := 60) rfl
                refine sw_ib (by (try simp only [zp, zo, zq] at p_0 p_1 w_0 w_1 hn h3224 xq9 w3225 r3226 r3227 h3228 r3276 xq55 h3277 w3280 r3281 h3282 w3283 w3284 r3285 r3286 h3287 w3294 w3295 w3296 r3297 r3298 r3299 r3300 h3301 w3308 r3309 w3310 r3311 w3313 r3314 w3315 r3316 ⊢) <;> (try simp only [zz, Int32.reduceToInt, ne_eq] at p_0 p_1 w_0 w_1 hn h3224 xq9 w3225 r3226 r3227 h3228 r3276 xq55 h3277 w3280 r3281 h3282 w3283 w3284 r3285 r3286 h3287 w3294 w3295 w3296 r3297 r3298 r3299 r3300 h3301 w3308 r3309 w3310 r3311 w3313 r3314 w3315 r3316 ⊢) <;> (try simp (disch := omega) only [zb] at p_0 p_1 w_0 w_1 hn h3224 xq9 w3225 r3226 r3227 h3228 r3276 xq55 h3277 w3280 r3281 h3282 w3283 w3284 r3285 r3286 h3287 w3294 w3295 w3296 r3297 r3298 r3299 r3300 h3301 w3308 r3309 w3310 r3311 w3313 r3314 w3315 r3316 ⊢) <;> first | omega | ((try simp (disch := omega) only [zb] at p_0 p_1 w_0 w_1 hn h3224 xq9 w3225 r3226 r3227 h3228 r3276 xq55 h3277 w3280 r3281 h3282 w3283 w3284 r3285 r3286 h3287 w3294 w3295 w3296 r3297 r3298 r3299 r3300 h3301 w3308 r3309 w3310 r3311 w3313 r3314 w3315 r3316 ⊢) <;> omega)) ?_
                have w3317 : mm_I s37 a0 44 = mm_I s33 a0 44 := by rw [← es37]; exact rd_k t_a0 tq61 (by decide)
                have w3318 : mm_I s33 a0 44 = mm_I s29 a0 44 := by rw [← es33]; exact rd_k t_a0 tq30 (by decide)
                have w3319 : mm_I s29 a0 44 = mm_I s25 a0 44 := by rw [← es29]; exact rd_k t_a0 tq26 (by decide)
                have w3320 : mm_I s25 a0 44 = mm_I s68 a0 44 := by rw [← es25]; exact rd_k t_a0 tq11 (by decide)
                have r3321 := ci_rg cs25 t_a0 44 (lo := 0) (hi := 1100) rfl
                have r3322 := ci_rg cs29 t_a0 44 (lo := 0) (hi := 1100) rfl
                have r3323 := ci_rg cs33 t_a0 44 (lo := 0) (hi := 1100) rfl
                have r3324 := ci_rg cs37 t_a0 44 (lo := 0) (hi := 1100) rfl
                have cs41 := ci_wI cs37 tq38 (j := (mm_I s37 a0 35).toNatClampNeg) (v := mm_I s37 a0 44) (kr_s (lo := 0) (hi := 400) rfl (by (try simp only [zp, zo, zq] at p_0 p_1 w_0 w_1 hn h3224 xq9 w3225 r3226 r3227 h3228 r3276 xq55 h3277 w3280 r3281 h3282 w3283 w3284 r3285 r3286 h3287 w3294 w3295 w3296 r3297 r3298 r3299 r3300 h3301 w3308 r3309 w3310 r3311 w3313 r3314 w3315 r3316 w3317 w3318 w3319 w3320 r3321 r3322 r3323 r3324 ⊢) <;> (try simp only [zz, Int32.reduceToInt, ne_eq] at p_0 p_1 w_0 w_1 hn h3224 xq9 w3225 r3226 r3227 h3228 r3276 xq55 h3277 w3280 r3281 h3282 w3283 w3284 r3285 r3286 h3287 w3294 w3295 w3296 r3297 r3298 r3299 r3300 h3301 w3308 r3309 w3310 r3311 w3313 r3314 w3315 r3316 w3317 w3318 w3319 w3320 r3321 r3322 r3323 r3324 ⊢) <;> (try simp (disch := omega) only [zb] at p_0 p_1 w_0 w_1 hn h3224 xq9 w3225 r3226 r3227 h3228 r3276 xq55 h3277 w3280 r3281 h3282 w3283 w3284 r3285 r3286 h3287 w3294 w3295 w3296 r3297 r3298 r3299 r3300 h3301 w3308 r3309 w3310 r3311 w3313 r3314 w3315 r3316 w3317 w3318 w3319 w3320 r3321 r3322 r3323 r3324 ⊢) <;> first | omega | ((try simp (disch := omega) only [zb] at p_0 p_1 w_0 w_1 hn h3224 xq9 w3225 r3226 r3227 h3228 r3276 xq55 h3277 w3280 r3281 h3282 w3283 w3284 r3285 r3286 h3287 w3294 w3295 w3296 r3297 r3298 r3299 r3300 h3301 w3308 r3309 w3310 r3311 w3313 r3314 w3315 r3316 w3317 w3318 w3319 w3320 r3321 r3322 r3323 r3324 ⊢) <;> omega)))
                have fs41 := fr_wI fs37 tq38 (j := (mm_I s37 a0 35).toNatClampNeg) (v := mm_I s37 a0 44) rfl
                refine sw_let (fun s41 es41 => ?_)
                rw [es41] at cs41 fs41
                have w3325 : mm_I s41 a0 35 = mm_I s37 a0 35 := by rw [← es41]; exact rd_k t_a0 tq38 (by decide)
                have r3326 := ci_rg cs41 t_a0 35 (lo := 0) (hi := 60) rfl
                have w3327 : mm_I s41 a0 44 = mm_I s37 a0 44 := by rw [← es41]; exact rd_k t_a0 tq38 (by decide)
                have r3328 := ci_rg cs41 t_a0 44 (lo := 0) (hi := 1100) rfl
                have w3329 : mm_I s41 a0 34 = mm_I s37 a0 34 := by rw [← es41]; exact rd_k t_a0 tq38 (by decide)
                have w3330 : mm_I s37 a0 34 = mm_I s33 a0 34 := by rw [← es37]; exact rd_k t_a0 tq61 (by decide)
                have w3331 : mm_I s33 a0 34 = mm_I s29 a0 34 := by rw [← es33]; exact rd_k t_a0 tq30 (by decide)
                have w3332 : mm_I s29 a0 34 = mm_I s25 a0 34 := by rw [← es29]; exact rd_k t_a0 tq26 (by decide)
                have w3333 : mm_I s25 a0 34 = mm_I s68 a0 34 := by rw [← es25]; exact rd_k t_a0 tq11 (by decide)
                have w3334 : mm_I s68 a0 34 = mm_I s64 a0 34 := by rw [← es68]; exact rd_k t_a0 tq11 (by decide)
                have w3335 : mm_I s64 a0 34 = mm_I q9 a0 34 := by rw [← es64]; exact rd_k t_a0 tq61 (by decide)
                have w3336 := (gq9.2.2 _ _ t_a0 34 rfl).1
                have w3337 : mm_I s41 a0 0 = mm_I s37 a0 0 := by rw [← es41]; exact rd_k t_a0 tq38 (by decide)
                have w3338 : mm_I s37 a0 0 = mm_I s33 a0 0 := by rw [← es37]; exact rd_k t_a0 tq61 (by decide)
                have w3339 : mm_I s33 a0 0 = mm_I s29 a0 0 := by rw [← es33]; exact rd_k t_a0 tq30 (by decide)
                have w3340 : mm_I s29 a0 0 = mm_I s25 a0 0 := by rw [← es29]; exact rd_k t_a0 tq26 (by decide)
                have w3341 : mm_I s25 a0 0 = mm_I s68 a0 0 := by rw [← es25]; exact rd_k t_a0 tq11 (by decide)
                have w3342 : mm_I s68 a0 0 = mm_I s64 a0 0 := by rw [← es68]; exact rd_k t_a0 tq11 (by decide)
                have w3343 : mm_I s64 a0 0 = mm_I q9 a0 0 := by rw [← es64]; exact rd_k t_a0 tq61 (by decide)
                have w3344 := (gq9.2.2 _ _ t_a0 0 rfl).1
                exact vX9_tick_167 ih mm_fuel a0 x1 x2 0 s41 cs41 fs41 t_a0 (by (try simp only [zp, zo, zq] at p_0 p_1 w_0 w_1 hn h3224 xq9 w3225 r3226 r3227 h3228 r3276 xq55 h3277 w3280 r3281 h3282 w3283 w3284 r3285 r3286 h3287 w3294 w3295 w3296 r3297 r3298 r3299 r3300 h3301 w3308 r3309 w3310 r3311 w3313 r3314 w3315 r3316 w3317 w3318 w3319 w3320 r3321 r3322 r3323 r3324 w3325 r3326 w3327 r3328 w3329 w3330 w3331 w3332 w3333 w3334 w3335 w3336 w3337 w3338 w3339 w3340 w3341 w3342 w3343 w3344 ⊢) <;> (try simp only [zz, Int32.reduceToInt, ne_eq] at p_0 p_1 w_0 w_1 hn h3224 xq9 w3225 r3226 r3227 h3228 r3276 xq55 h3277 w3280 r3281 h3282 w3283 w3284 r3285 r3286 h3287 w3294 w3295 w3296 r3297 r3298 r3299 r3300 h3301 w3308 r3309 w3310 r3311 w3313 r3314 w3315 r3316 w3317 w3318 w3319 w3320 r3321 r3322 r3323 r3324 w3325 r3326 w3327 r3328 w3329 w3330 w3331 w3332 w3333 w3334 w3335 w3336 w3337 w3338 w3339 w3340 w3341 w3342 w3343 w3344 ⊢) <;> (try simp (disch := omega) only [zb] at p_0 p_1 w_0 w_1 hn h3224 xq9 w3225 r3226 r3227 h3228 r3276 xq55 h3277 w3280 r3281 h3282 w3283 w3284 r3285 r3286 h3287 w3294 w3295 w3296 r3297 r3298 r3299 r3300 h3301 w3308 r3309 w3310 r3311 w3313 r3314 w3315 r3316 w3317 w3318 w3319 w3320 r3321 r3322 r3323 r3324 w3325 r3326 w3327 r3328 w3329 w3330 w3331 w3332 w3333 w3334 w3335 w3336 w3337 w3338 w3339 w3340 w3341 w3342 w3343 w3344 ⊢) <;> first | omega | ((try simp (disch := omega) only [zb] at p_0 p_1 w_0 w_1 hn h3224 xq9 w3225 r3226 r3227 h3228 r3276 xq55 h3277 w3280 r3281 h3282 w3283 w3284 r3285 r3286 h3287 w3294 w3295 w3296 r3297 r3298 r3299 r3300 h3301 w3308 r3309 w3310 r3311 w3313 r3314 w3315 r3316 w3317 w3318 w3319 w3320 r3321 r3322 r3323 r3324 w3325 r3326 w3327 r3328 w3329 w3330 w3331 w3332 w3333 w3334 w3335 w3336 w3337 w3338 w3339 w3340 w3341 w3342 w3343 w3344 ⊢) <;> omega)) (by (try simp only [zp, zo, zq] at p_0 p_1 w_0 w_1 hn h3224 xq9 w3225 r3226 r3227 h3228 r3276 xq55 h3277 w3280 r3281 h3282 w3283 w3284 r3285 r3286 h3287 w3294 w3295 w3296 r3297 r3298 r3299 r3300 h3301 w3308 r3309 w3310 r3311 w3313 r3314 w3315 r3316 w3317 w3318 w3319 w3320 r3321 r3322 r3323 r3324 w3325 r3326 w3327 r3328 w3329 w3330 w3331 w3332 w3333 w3334 w3335 w3336 w3337 w3338 w3339 w3340 w3341 w3342 w3343 w3344 ⊢) <;> (try simp only [zz, Int32.reduceToInt, ne_eq] at p_0 p_1 w_0 w_1 hn h3224 xq9 w3225 r3226 r3227 h3228 r3276 xq55 h3277 w3280 r3281 h3282 w3283 w3284 r3285 r3286 h3287 w3294 w3295 w3296 r3297 r3298 r3299 r3300 h3301 w3308 r3309 w3310 r3311 w3313 r3314 w3315 r3316 w3317 w3318 w3319 w3320 r3321 r3322 r3323 r3324 w3325 r3326 w3327 r3328 w3329 w3330 w3331 w3332 w3333 w3334 w3335 w3336 w3337 w3338 w3339 w3340 w3341 w3342 w3343 w3344 ⊢) <;> (try simp (disch := omega) only [zb] at p_0 p_1 w_0 w_1 hn h3224 xq9 w3225 r3226 r3227 h3228 r3276 xq55 h3277 w3280 r3281 h3282 w3283 w3284 r3285 r3286 h3287 w3294 w3295 w3296 r3297 r3298 r3299 r3300 h3301 w3308 r3309 w3310 r3311 w3313 r3314 w3315 r3316 w3317 w3318 w3319 w3320 r3321 r3322 r3323 r3324 w3325 r3326 w3327 r3328 w3329 w3330 w3331 w3332 w3333 w3334 w3335 w3336 w3337 w3338 w3339 w3340 w3341 w3342 w3343 w3344 ⊢) <;> first | omega | ((try simp (disch := omega) only [zb] at p_0 p_1 w_0 w_1 hn h3224 xq9 w3225 r3226 r3227 h3228 r3276 xq55 h3277 w3280 r3281 h3282 w3283 w3284 r3285 r3286 h3287 w3294 w3295 w3296 r3297 r3298 r3299 r3300 h3301 w3308 r3309 w3310 r3311 w3313 r3314 w3315 r3316 w3317 w3318 w3319 w3320 r3321 r3322 r3323 r3324 w3325 r3326 w3327 r3328 w3329 w3330 w3331 w3332 w3333 w3334 w3335 w3336 w3337 w3338 w3339 w3340 w3341 w3342 w3343 w3344 ⊢) <;> omega)) (by (try simp only [zp, zo, zq] at p_0 p_1 w_0 w_1 hn h3224 xq9 w3225 r3226 r3227 h3228 r3276 xq55 h3277 w3280 r3281 h3282 w3283 w3284 r3285 r3286 h3287 w3294 w3295 w3296 r3297 r3298 r3299 r3300 h3301 w3308 r3309 w3310 r3311 w3313 r3314 w3315 r3316 w3317 w3318 w3319 w3320 r3321 r3322 r3323 r3324 w3325 r3326 w3327 r3328 w3329 w3330 w3331 w3332 w3333 w3334 w3335 w3336 w3337 w3338 w3339 w3340 w3341 w3342 w3343 w3344 ⊢) <;> (try simp only [zz, Int32.reduceToInt, ne_eq] at p_0 p_1 w_0 w_1 hn h3224 xq9 w3225 r3226 r3227 h3228 r3276 xq55 h3277 w3280 r3281 h3282 w3283 w3284 r3285 r3286 h3287 w3294 w3295 w3296 r3297 r3298 r3299 r3300 h3301 w3308 r3309 w3310 r3311 w3313 r3314 w3315 r3316 w3317 w3318 w3319 w3320 r3321 r3322 r3323 r3324 w3325 r3326 w3327 r3328 w3329 w3330 w3331 w3332 w3333 w3334 w3335 w3336 w3337 w3338 w3339 w3340 w3341 w3342 w3343 w3344 ⊢) <;> (try simp (disch := omega) only [zb] at p_0 p_1 w_0 w_1 hn h3224 xq9 w3225 r3226 r3227 h3228 r3276 xq55 h3277 w3280 r3281 h3282 w3283 w3284 r3285 r3286 h3287 w3294 w3295 w3296 r3297 r3298 r3299 r3300 h3301 w3308 r3309 w3310 r3311 w3313 r3314 w3315 r3316 w3317 w3318 w3319 w3320 r3321 r3322 r3323 r3324 w3325 r3326 w3327 r3328 w3329 w3330 w3331 w3332 w3333 w3334 w3335 w3336 w3337 w3338 w3339 w3340 w3341 w3342 w3343 w3344 ⊢) <;> first | omega | ((try simp (disch := omega) only [zb] at p_0 p_1 w_0 w_1 hn h3224 xq9 w3225 r3226 r3227 h3228 r3276 xq55 h3277 w3280 r3281 h3282 w3283 w3284 r3285 r3286 h3287 w3294 w3295 w3296 r3297 r3298 r3299 r3300 h3301 w3308 r3309 w3310 r3311 w3313 r3314 w3315 r3316 w3317 w3318 w3319 w3320 r3321 r3322 r3323 r3324 w3325 r3326 w3327 r3328 w3329 w3330 w3331 w3332 w3333 w3334 w3335 w3336 w3337 w3338 w3339 w3340 w3341 w3342 w3343 w3344 ⊢) <;> omega)) (by (try simp only [zp, zo, zq] at p_0 p_1 w_0 w_1 hn h3224 xq9 w3225 r3226 r3227 h3228 r3276 xq55 h3277 w3280 r3281 h3282 w3283 w3284 r3285 r3286 h3287 w3294 w3295 w3296 r3297 r3298 r3299 r3300 h3301 w3308 r3309 w3310 r3311 w3313 r3314 w3315 r3316 w3317 w3318 w3319 w3320 r3321 r3322 r3323 r3324 w3325 r3326 w3327 r3328 w3329 w3330 w3331 w3332 w3333 w3334 w3335 w3336 w3337 w3338 w3339 w3340 w3341 w3342 w3343 w3344 ⊢) <;> (try simp only [zz, Int32.reduceToInt, ne_eq] at p_0 p_1 w_0 w_1 hn h3224 xq9 w3225 r3226 r3227 h3228 r3276 xq55 h3277 w3280 r3281 h3282 w3283 w3284 r3285 r3286 h3287 w3294 w3295 w3296 r3297 r3298 r3299 r3300 h3301 w3308 r3309 w3310 r3311 w3313 r3314 w3315 r3316 w3317 w3318 w3319 w3320 r3321 r3322 r3323 r3324 w3325 r3326 w3327 r3328 w3329 w3330 w3331 w3332 w3333 w3334 w3335 w3336 w3337 w3338 w3339 w3340 w3341 w3342 w3343 w3344 ⊢) <;> (try simp (disch := omega) only [zb] at p_0 p_1 w_0 w_1 hn h3224 xq9 w3225 r3226 r3227 h3228 r3276 xq55 h3277 w3280 r3281 h3282 w3283 w3284 r3285 r3286 h3287 w3294 w3295 w3296 r3297 r3298 r3299 r3300 h3301 w3308 r3309 w3310 r3311 w3313 r3314 w3315 r3316 w3317 w3318 w3319 w3320 r3321 r3322 r3323 r3324 w3325 r3326 w3327 r3328 w3329 w3330 w3331 w3332 w3333 w3334 w3335 w3336 w3337 w3338 w3339 w3340 w3341 w3342 w3343 w3344 ⊢) <;> first | omega | ((try simp (disch := omega) only [zb] at p_0 p_1 w_0 w_1 hn h3224 xq9 w3225 r3226 r3227 h3228 r3276 xq55 h3277 w3280 r3281 h3282 w3283 w3284 r3285 r3286 h3287 w3294 w3295 w3296 r3297 r3298 r3299 r3300 h3301 w3308 r3309 w3310 r3311 w3313 r3314 w3315 r3316 w3317 w3318 w3319 w3320 r3321 r3322 r3323 r3324 w3325 r3326 w3327 r3328 w3329 w3330 w3331 w3332 w3333 w3334 w3335 w3336 w3337 w3338 w3339 w3340 w3341 w3342 w3343 w3344 ⊢) <;> omega)) (by (try simp only [zp, zo, zq] at p_0 p_1 w_0 w_1 hn h3224 xq9 w3225 r3226 r3227 h3228 r3276 xq55 h3277 w3280 r3281 h3282 w3283 w3284 r3285 r3286 h3287 w3294 w3295 w3296 r3297 r3298 r3299 r3300 h3301 w3308 r3309 w3310 r3311 w3313 r3314 w3315 r3316 w3317 w3318 w3319 w3320 r3321 r3322 r3323 r3324 w3325 r3326 w3327 r3328 w3329 w3330 w3331 w3332 w3333 w3334 w3335 w3336 w3337 w3338 w3339 w3340 w3341 w3342 w3343 w3344 ⊢) <;> (try simp only [zz, Int32.reduceToInt, ne_eq] at p_0 p_1 w_0 w_1 hn h3224 xq9 w3225 r3226 r3227 h3228 r3276 xq55 h3277 w3280 r3281 h3282 w3283 w3284 r3285 r3286 h3287 w3294 w3295 w3296 r3297 r3298 r3299 r3300 h3301 w3308 r3309 w3310 r3311 w3313 r3314 w3315 r3316 w3317 w3318 w3319 w3320 r3321 r3322 r3323 r3324 w3325 r3326 w3327 r3328 w3329 w3330 w3331 w3332 w3333 w3334 w3335 w3336 w3337 w3338 w3339 w3340 w3341 w3342 w3343 w3344 ⊢) <;> (try simp (disch := omega) only [zb] at p_0 p_1 w_0 w_1 hn h3224 xq9 w3225 r3226 r3227 h3228 r3276 xq55 h3277 w3280 r3281 h3282 w3283 w3284 r3285 r3286 h3287 w3294 w3295 w3296 r3297 r3298 r3299 r3300 h3301 w3308 r3309 w3310 r3311 w3313 r3314 w3315 r3316 w3317 w3318 w3319 w3320 r3321 r3322 r3323 r3324 w3325 r3326 w3327 r3328 w3329 w3330 w3331 w3332 w3333 w3334 w3335 w3336 w3337 w3338 w3339 w3340 w3341 w3342 w3343 w3344 ⊢) <;> first | omega | ((try simp (disch := omega) only [zb] at p_0 p_1 w_0 w_1 hn h3224 xq9 w3225 r3226 r3227 h3228 r3276 xq55 h3277 w3280 r3281 h3282 w3283 w3284 r3285 r3286 h3287 w3294 w3295 w3296 r3297 r3298 r3299 r3300 h3301 w3308 r3309 w3310 r3311 w3313 r3314 w3315 r3316 w3317 w3318 w3319 w3320 r3321 r3322 r3323 r3324 w3325 r3326 w3327 r3328 w3329 w3330 w3331 w3332 w3333 w3334 w3335 w3336 w3337 w3338 w3339 w3340 w3341 w3342 w3343 w3344 ⊢) <;> omega)) (by (try simp only [zp, zo, zq] at p_0 p_1 w_0 w_1 hn h3224 xq9 w3225 r3226 r3227 h3228 r3276 xq55 h3277 w3280 r3281 h3282 w3283 w3284 r3285 r3286 h3287 w3294 w3295 w3296 r3297 r3298 r3299 r3300 h3301 w3308 r3309 w3310 r3311 w3313 r3314 w3315 r3316 w3317 w3318 w3319 w3320 r3321 r3322 r3323 r3324 w3325 r3326 w3327 r3328 w3329 w3330 w3331 w3332 w3333 w3334 w3335 w3336 w3337 w3338 w3339 w3340 w3341 w3342 w3343 w3344 ⊢) <;> (try simp only [zz, Int32.reduceToInt, ne_eq] at p_0 p_1 w_0 w_1 hn h3224 xq9 w3225 r3226 r3227 h3228 r3276 xq55 h3277 w3280 r3281 h3282 w3283 w3284 r3285 r3286 h3287 w3294 w3295 w3296 r3297 r3298 r3299 r3300 h3301 w3308 r3309 w3310 r3311 w3313 r3314 w3315 r3316 w3317 w3318 w3319 w3320 r3321 r3322 r3323 r3324 w3325 r3326 w3327 r3328 w3329 w3330 w3331 w3332 w3333 w3334 w3335 w3336 w3337 w3338 w3339 w3340 w3341 w3342 w3343 w3344 ⊢) <;> (try simp (disch := omega) only [zb] at p_0 p_1 w_0 w_1 hn h3224 xq9 w3225 r3226 r3227 h3228 r3276 xq55 h3277 w3280 r3281 h3282 w3283 w3284 r3285 r3286 h3287 w3294 w3295 w3296 r3297 r3298 r3299 r3300 h3301 w3308 r3309 w3310 r3311 w3313 r3314 w3315 r3316 w3317 w3318 w3319 w3320 r3321 r3322 r3323 r3324 w3325 r3326 w3327 r3328 w3329 w3330 w3331 w3332 w3333 w3334 w3335 w3336 w3337 w3338 w3339 w3340 w3341 w3342 w3343 w3344 ⊢) <;> first | omega | ((try simp (disch := omega) only [zb] at p_0 p_1 w_0 w_1 hn h3224 xq9 w3225 r3226 r3227 h3228 r3276 xq55 h3277 w3280 r3281 h3282 w3283 w3284 r3285 r3286 h3287 w3294 w3295 w3296 r3297 r3298 r3299 r3300 h3301 w3308 r3309 w3310 r3311 w3313 r3314 w3315 r3316 w3317 w3318 w3319 w3320 r3321 r3322 r3323 r3324 w3325 r3326 w3327 r3328 w3329 w3330 w3331 w3332 w3333 w3334 w3335 w3336 w3337 w3338 w3339 w3340 w3341 w3342 w3343 w3344 ⊢) <;> omega)) (by (try simp only [zp, zo, zq] at p_0 p_1 w_0 w_1 hn h3224 xq9 w3225 r3226 r3227 h3228 r3276 xq55 h3277 w3280 r3281 h3282 w3283 w3284 r3285 r3286 h3287 w3294 w3295 w3296 r3297 r3298 r3299 r3300 h3301 w3308 r3309 w3310 r3311 w3313 r3314 w3315 r3316 w3317 w3318 w3319 w3320 r3321 r3322 r3323 r3324 w3325 r3326 w3327 r3328 w3329 w3330 w3331 w3332 w3333 w3334 w3335 w3336 w3337 w3338 w3339 w3340 w3341 w3342 w3343 w3344 ⊢) <;> (try simp only [zz, Int32.reduceToInt, ne_eq] at p_0 p_1 w_0 w_1 hn h3224 xq9 w3225 r3226 r3227 h3228 r3276 xq55 h3277 w3280 r3281 h3282 w3283 w3284 r3285 r3286 h3287 w3294 w3295 w3296 r3297 r3298 r3299 r3300 h3301 w3308 r3309 w3310 r3311 w3313 r3314 w3315 r3316 w3317 w3318 w3319 w3320 r3321 r3322 r3323 r3324 w3325 r3326 w3327 r3328 w3329 w3330 w3331 w3332 w3333 w3334 w3335 w3336 w3337 w3338 w3339 w3340 w3341 w3342 w3343 w3344 ⊢) <;> (try simp (disch := omega) only [zb] at p_0 p_1 w_0 w_1 hn h3224 xq9 w3225 r3226 r3227 h3228 r3276 xq55 h3277 w3280 r3281 h3282 w3283 w3284 r3285 r3286 h3287 w3294 w3295 w3296 r3297 r3298 r3299 r3300 h3301 w3308 r3309 w3310 r3311 w3313 r3314 w3315 r3316 w3317 w3318 w3319 w3320 r3321 r3322 r3323 r3324 w3325 r3326 w3327 r3328 w3329 w3330 w3331 w3332 w3333 w3334 w3335 w3336 w3337 w3338 w3339 w3340 w3341 w3342 w3343 w3344 ⊢) <;> first | omega | ((try simp (disch := omega) only [zb] at p_0 p_1 w_0 w_1 hn h3224 xq9 w3225 r3226 r3227 h3228 r3276 xq55 h3277 w3280 r3281 h3282 w3283 w3284 r3285 r3286 h3287 w3294 w3295 w3296 r3297 r3298 r3299 r3300 h3301 w3308 r3309 w3310 r3311 w3313 r3314 w3315 r3316 w3317 w3318 w3319 w3320 r3321 r3322 r3323 r3324 w3325 r3326 w3327 r3328 w3329 w3330 w3331 w3332 w3333 w3334 w3335 w3336 w3337 w3338 w3339 w3340 w3341 w3342 w3343 w3344 ⊢) <;> omega)) (by (try simp only [zp, zo, zq] at p_0 p_1 w_0 w_1 hn h3224 xq9 w3225 r3226 r3227 h3228 r3276 xq55 h3277 w3280 r3281 h3282 w3283 w3284 r3285 r3286 h3287 w3294 w3295 w3296 r3297 r3298 r3299 r3300 h3301 w3308 r3309 w3310 r3311 w3313 r3314 w3315 r3316 w3317 w3318 w3319 w3320 r3321 r3322 r3323 r3324 w3325 r3326 w3327 r3328 w3329 w3330 w3331 w3332 w3333 w3334 w3335 w3336 w3337 w3338 w3339 w3340 w3341 w3342 w3343 w3344 ⊢) <;> (try simp only [zz, Int32.reduceToInt, ne_eq] at p_0 p_1 w_0 w_1 hn h3224 xq9 w3225 r3226 r3227 h3228 r3276 xq55 h3277 w3280 r3281 h3282 w3283 w3284 r3285 r3286 h3287 w3294 w3295 w3296 r3297 r3298 r3299 r3300 h3301 w3308 r3309 w3310 r3311 w3313 r3314 w3315 r3316 w3317 w3318 w3319 w3320 r3321 r3322 r3323 r3324 w3325 r3326 w3327 r3328 w3329 w3330 w3331 w3332 w3333 w3334 w3335 w3336 w3337 w3338 w3339 w3340 w3341 w3342 w3343 w3344 ⊢) <;> (try simp (disch := omega) only [zb] at p_0 p_1 w_0 w_1 hn h3224 xq9 w3225 r3226 r3227 h3228 r3276 xq55 h3277 w3280 r3281 h3282 w3283 w3284 r3285 r3286 h3287 w3294 w3295 w3296 r3297 r3298 r3299 r3300 h3301 w3308 r3309 w3310 r3311 w3313 r3314 w3315 r3316 w3317 w3318 w3319 w3320 r3321 r3322 r3323 r3324 w3325 r3326 w3327 r3328 w3329 w3330 w3331 w3332 w3333 w3334 w3335 w3336 w3337 w3338 w3339 w3340 w3341 w3342 w3343 w3344 ⊢) <;> first | omega | ((try simp (disch := omega) only [zb] at p_0 p_1 w_0 w_1 hn h3224 xq9 w3225 r3226 r3227 h3228 r3276 xq55 h3277 w3280 r3281 h3282 w3283 w3284 r3285 r3286 h3287 w3294 w3295 w3296 r3297 r3298 r3299 r3300 h3301 w3308 r3309 w3310 r3311 w3313 r3314 w3315 r3316 w3317 w3318 w3319 w3320 r3321 r3322 r3323 r3324 w3325 r3326 w3327 r3328 w3329 w3330 w3331 w3332 w3333 w3334 w3335 w3336 w3337 w3338 w3339 w3340 w3341 w3342 w3343 w3344 ⊢) <;> omega)) (by have hz : (mm_fuel : Int) = 2000 := rfl; rw [hz]; exact (by (try simp only [zp, zo, zq] at p_0 p_1 w_0 w_1 hn h3224 xq9 w3225 r3226 r3227 h3228 r3276 xq55 h3277 w3280 r3281 h3282 w3283 w3284 r3285 r3286 h3287 w3294 w3295 w3296 r3297 r3298 r3299 r3300 h3301 w3308 r3309 w3310 r3311 w3313 r3314 w3315 r3316 w3317 w3318 w3319 w3320 r3321 r3322 r3323 r3324 w3325 r3326 w3327 r3328 w3329 w3330 w3331 w3332 w3333 w3334 w3335 w3336 w3337 w3338 w3339 w3340 w3341 w3342 w3343 w3344 ⊢) <;> (try simp only [zz, Int32.reduceToInt, ne_eq] at p_0 p_1 w_0 w_1 hn h3224 xq9 w3225 r3226 r3227 h3228 r3276 xq55 h3277 w3280 r3281 h3282 w3283 w3284 r3285 r3286 h3287 w3294 w3295 w3296 r3297 r3298 r3299 r3300 h3301 w3308 r3309 w3310 r3311 w3313 r3314 w3315 r3316 w3317 w3318 w3319 w3320 r3321 r3322 r3323 r3324 w3325 r3326 w3327 r3328 w3329 w3330 w3331 w3332 w3333 w3334 w3335 w3336 w3337 w3338 w3339 w3340 w3341 w3342 w3343 w3344 ⊢) <;> (try simp (disch := omega) only [zb] at p_0 p_1 w_0 w_1 hn h3224 xq9 w3225 r3226 r3227 h3228 r3276 xq55 h3277 w3280 r3281 h3282 w3283 w3284 r3285 r3286 h3287 w3294 w3295 w3296 r3297 r3298 r3299 r3300 h3301 w3308 r3309 w3310 r3311 w3313 r3314 w3315 r3316 w3317 w3318 w3319 w3320 r3321 r3322 r3323 r3324 w3325 r3326 w3327 r3328 w3329 w3330 w3331 w3332 w3333 w3334 w3335 w3336 w3337 w3338 w3339 w3340 w3341 w3342 w3343 w3344 ⊢) <;> first | omega | ((try simp (disch := omega) only [zb] at p_0 p_1 w_0 w_1 hn h3224 xq9 w3225 r3226 r3227 h3228 r3276 xq55 h3277 w3280 r3281 h3282 w3283 w3284 r3285 r3286 h3287 w3294 w3295 w3296 r3297 r3298 r3299 r3300 h3301 w3308 r3309 w3310 r3311 w3313 r3314 w3315 r3316 w3317 w3318 w3319 w3320 r3321 r3322 r3323 r3324 w3325 r3326 w3327 r3328 w3329 w3330 w3331 w3332 w3333 w3334 w3335 w3336 w3337 w3338 w3339 w3340 w3341 w3342 w3343 w3344 ⊢) <;> omega)))
          · have w3345 : mm_I s68 a0 34 = mm_I s64 a0 34 := by rw [← es68]; exact rd_k t_a0 tq11 (by decide)
            have w3346 : mm_I s64 a0 34 = mm_I q9 a0 34 := by rw [← es64]; exact rd_k t_a0 tq61 (by decide)
            have w3347 := (gq9.2.2 _ _ t_a0 34 rfl).1
            have w3348 : mm_I s68 a0 0 = mm_I s64 a0 0 := by rw [← es68]; exact rd_k t_a0 tq11 (by decide)
            have w3349 : mm_I s64 a0 0 = mm_I q9 a0 0 := by rw [← es64]; exact rd_k t_a0 tq61 (by decide)
            have w3350 := (gq9.2.2 _ _ t_a0 0 rfl).1
            exact ih a0 x1 (x2 + 1) s68 cs68 fs68 t_a0 (by (try simp only [zp, zo, zq] at p_0 p_1 w_0 w_1 hn h3224 xq9 w3225 r3226 r3227 h3228 r3276 xq55 h3277 w3280 r3281 h3282 w3345 w3346 w3347 w3348 w3349 w3350 ⊢) <;> (try simp only [zz, Int32.reduceToInt, ne_eq] at p_0 p_1 w_0 w_1 hn h3224 xq9 w3225 r3226 r3227 h3228 r3276 xq55 h3277 w3280 r3281 h3282 w3345 w3346 w3347 w3348 w3349 w3350 ⊢) <;> (try simp (disch := omega) only [zb] at p_0 p_1 w_0 w_1 hn h3224 xq9 w3225 r3226 r3227 h3228 r3276 xq55 h3277 w3280 r3281 h3282 w3345 w3346 w3347 w3348 w3349 w3350 ⊢) <;> first | omega | ((try simp (disch := omega) only [zb] at p_0 p_1 w_0 w_1 hn h3224 xq9 w3225 r3226 r3227 h3228 r3276 xq55 h3277 w3280 r3281 h3282 w3345 w3346 w3347 w3348 w3349 w3350 ⊢) <;> omega)) (by (try simp only [zp, zo, zq] at p_0 p_1 w_0 w_1 hn h3224 xq9 w3225 r3226 r3227 h3228 r3276 xq55 h3277 w3280 r3281 h3282 w3345 w3346 w3347 w3348 w3349 w3350 ⊢) <;> (try simp only [zz, Int32.reduceToInt, ne_eq] at p_0 p_1 w_0 w_1 hn h3224 xq9 w3225 r3226 r3227 h3228 r3276 xq55 h3277 w3280 r3281 h3282 w3345 w3346 w3347 w3348 w3349 w3350 ⊢) <;> (try simp (disch := omega) only [zb] at p_0 p_1 w_0 w_1 hn h3224 xq9 w3225 r3226 r3227 h3228 r3276 xq55 h3277 w3280 r3281 h3282 w3345 w3346 w3347 w3348 w3349 w3350 ⊢) <;> first | omega | ((try simp (disch := omega) only [zb] at p_0 p_1 w_0 w_1 hn h3224 xq9 w3225 r3226 r3227 h3228 r3276 xq55 h3277 w3280 r3281 h3282 w3345 w3346 w3347 w3348 w3349 w3350 ⊢) <;> omega)) (by (try simp only [zp, zo, zq] at p_0 p_1 w_0 w_1 hn h3224 xq9 w3225 r3226 r3227 h3228 r3276 xq55 h3277 w3280 r3281 h3282 w3345 w3346 w3347 w3348 w3349 w3350 ⊢) <;> (try simp only [zz, Int32.reduceToInt, ne_eq] at p_0 p_1 w_0 w_1 hn h3224 xq9 w3225 r3226 r3227 h3228 r3276 xq55 h3277 w3280 r3281 h3282 w3345 w3346 w3347 w3348 w3349 w3350 ⊢) <;> (try simp (disch := omega) only [zb] at p_0 p_1 w_0 w_1 hn h3224 xq9 w3225 r3226 r3227 h3228 r3276 xq55 h3277 w3280 r3281 h3282 w3345 w3346 w3347 w3348 w3349 w3350 ⊢) <;> first | omega | ((try simp (disch := omega) only [zb] at p_0 p_1 w_0 w_1 hn h3224 xq9 w3225 r3226 r3227 h3228 r3276 xq55 h3277 w3280 r3281 h3282 w3345 w3346 w3347 w3348 w3349 w3350 ⊢) <;> omega)) (by (try simp only [zp, zo, zq] at p_0 p_1 w_0 w_1 hn h3224 xq9 w3225 r3226 r3227 h3228 r3276 xq55 h3277 w3280 r3281 h3282 w3345 w3346 w3347 w3348 w3349 w3350 ⊢) <;> (try simp only [zz, Int32.reduceToInt, ne_eq] at p_0 p_1 w_0 w_1 hn h3224 xq9 w3225 r3226 r3227 h3228 r3276 xq55 h3277 w3280 r3281 h3282 w3345 w3346 w3347 w3348 w3349 w3350 ⊢) <;> (try simp (disch := omega) only [zb] at p_0 p_1 w_0 w_1 hn h3224 xq9 w3225 r3226 r3227 h3228 r3276 xq55 h3277 w3280 r3281 h3282 w3345 w3346 w3347 w3348 w3349 w3350 ⊢) <;> first | omega | ((try simp (disch := omega) only [zb] at p_0 p_1 w_0 w_1 hn h3224 xq9 w3225 r3226 r3227 h3228 r3276 xq55 h3277 w3280 r3281 h3282 w3345 w3346 w3347 w3348 w3349 w3350 ⊢) <;> omega)) (by (try simp only [zp, zo, zq] at p_0 p_1 w_0 w_1 hn h3224 xq9 w3225 r3226 r3227 h3228 r3276 xq55 h3277 w3280 r3281 h3282 w3345 w3346 w3347 w3348 w3349 w3350 ⊢) <;> (try simp only [zz, Int32.reduceToInt, ne_eq] at p_0 p_1 w_0 w_1 hn h3224 xq9 w3225 r3226 r3227 h3228 r3276 xq55 h3277 w3280 r3281 h3282 w3345 w3346 w3347 w3348 w3349 w3350 ⊢) <;> (try simp (disch := omega) only [zb] at p_0 p_1 w_0 w_1 hn h3224 xq9 w3225 r3226 r3227 h3228 r3276 xq55 h3277 w3280 r3281 h3282 w3345 w3346 w3347 w3348 w3349 w3350 ⊢) <;> first | omega | ((try simp (disch := omega) only [zb] at p_0 p_1 w_0 w_1 hn h3224 xq9 w3225 r3226 r3227 h3228 r3276 xq55 h3277 w3280 r3281 h3282 w3345 w3346 w3347 w3348 w3349 w3350 ⊢) <;> omega))
        · unfold fX9_tick_83
          refine sw_sh (ci_sh cq9 t_a0 rfl) ?_
          refine sw_onS eq11 ?_
          refine sw_ar (ci_sh cq9 tq11 rfl) ?_
          refine sw_ib (by (try simp only [zp, zo, zq] at p_0 p_1 w_0 w_1 hn h3224 xq9 w3225 r3226 r3227 h3228 r3276 xq55 h3277 ⊢) <;> (try simp only [zz, Int32.reduceToInt, ne_eq] at p_0 p_1 w_0 w_1 hn h3224 xq9 w3225 r3226 r3227 h3228 r3276 xq55 h3277 ⊢) <;> (try simp (disch := omega) only [zb] at p_0 p_1 w_0 w_1 hn h3224 xq9 w3225 r3226 r3227 h3228 r3276 xq55 h3277 ⊢) <;> first | omega | ((try simp (disch := omega) only [zb] at p_0 p_1 w_0 w_1 hn h3224 xq9 w3225 r3226 r3227 h3228 r3276 xq55 h3277 ⊢) <;> omega)) ?_
          refine sw_ite (fun h3351 => ?_) (fun h3351 => ?_)
          · refine sw_ite (fun h3352 => ?_) (fun h3352 => ?_)
            · have w3353 := (gq9.2.2 _ _ t_a0 34 rfl).1
              have w3354 := (gq9.2.2 _ _ t_a0 0 rfl).1
              exact ih a0 x1 (x2 + 1) q9 cq9 fq9 t_a0 (by (try simp only [zp, zo, zq] at p_0 p_1 w_0 w_1 hn h3224 xq9 w3225 r3226 r3227 h3228 r3276 xq55 h3277 h3351 h3352 w3353 w3354 ⊢) <;> (try simp only [zz, Int32.reduceToInt, ne_eq] at p_0 p_1 w_0 w_1 hn h3224 xq9 w3225 r3226 r3227 h3228 r3276 xq55 h3277 h3351 h3352 w3353 w3354 ⊢) <;> (try simp (disch := omega) only [zb] at p_0 p_1 w_0 w_1 hn h3224 xq9 w3225 r3226 r3227 h3228 r3276 xq55 h3277 h3351 h3352 w3353 w3354 ⊢) <;> first | omega | ((try simp (disch := omega) only [zb] at p_0 p_1 w_0 w_1 hn h3224 xq9 w3225 r3226 r3227 h3228 r3276 xq55 h3277 h3351 h3352 w3353 w3354 ⊢) <;> omega)) (by (try simp only [zp, zo, zq] at p_0 p_1 w_0 w_1 hn h3224 xq9 w3225 r3226 r3227 h3228 r3276 xq55 h3277 h3351 h3352 w3353 w3354 ⊢) <;> (try simp only [zz, Int32.reduceToInt, ne_eq] at p_0 p_1 w_0 w_1 hn h3224 xq9 w3225 r3226 r3227 h3228 r3276 xq55 h3277 h3351 h3352 w3353 w3354 ⊢) <;> (try simp (disch := omega) only [zb] at p_0 p_1 w_0 w_1 hn h3224 xq9 w3225 r3226 r3227 h3228 r3276 xq55 h3277 h3351 h3352 w3353 w3354 ⊢) <;> first | omega | ((try simp (disch := omega) only [zb] at p_0 p_1 w_0 w_1 hn h3224 xq9 w3225 r3226 r3227 h3228 r3276 xq55 h3277 h3351 h3352 w3353 w3354 ⊢) <;> omega)) (by (try simp only [zp, zo, zq] at p_0 p_1 w_0 w_1 hn h3224 xq9 w3225 r3226 r3227 h3228 r3276 xq55 h3277 h3351 h3352 w3353 w3354 ⊢) <;> (try simp only [zz, Int32.reduceToInt, ne_eq] at p_0 p_1 w_0 w_1 hn h3224 xq9 w3225 r3226 r3227 h3228 r3276 xq55 h3277 h3351 h3352 w3353 w3354 ⊢) <;> (try simp (disch := omega) only [zb] at p_0 p_1 w_0 w_1 hn h3224 xq9 w3225 r3226 r3227 h3228 r3276 xq55 h3277 h3351 h3352 w3353 w3354 ⊢) <;> first | omega | ((try simp (disch := omega) only [zb] at p_0 p_1 w_0 w_1 hn h3224 xq9 w3225 r3226 r3227 h3228 r3276 xq55 h3277 h3351 h3352 w3353 w3354 ⊢) <;> omega)) (by (try simp only [zp, zo, zq] at p_0 p_1 w_0 w_1 hn h3224 xq9 w3225 r3226 r3227 h3228 r3276 xq55 h3277 h3351 h3352 w3353 w3354 ⊢) <;> (try simp only [zz, Int32.reduceToInt, ne_eq] at p_0 p_1 w_0 w_1 hn h3224 xq9 w3225 r3226 r3227 h3228 r3276 xq55 h3277 h3351 h3352 w3353 w3354 ⊢) <;> (try simp (disch := omega) only [zb] at p_0 p_1 w_0 w_1 hn h3224 xq9 w3225 r3226 r3227 h3228 r3276 xq55 h3277 h3351 h3352 w3353 w3354 ⊢) <;> first | omega | ((try simp (disch := omega) only [zb] at p_0 p_1 w_0 w_1 hn h3224 xq9 w3225 r3226 r3227 h3228 r3276 xq55 h3277 h3351 h3352 w3353 w3354 ⊢) <;> omega)) (by (try simp only [zp, zo, zq] at p_0 p_1 w_0 w_1 hn h3224 xq9 w3225 r3226 r3227 h3228 r3276 xq55 h3277 h3351 h3352 w3353 w3354 ⊢) <;> (try simp only [zz, Int32.reduceToInt, ne_eq] at p_0 p_1 w_0 w_1 hn h3224 xq9 w3225 r3226 r3227 h3228 r3276 xq55 h3277 h3351 h3352 w3353 w3354 ⊢) <;> (try simp (disch := omega) only [zb] at p_0 p_1 w_0 w_1 hn h3224 xq9 w3225 r3226 r3227 h3228 r3276 xq55 h3277 h3351 h3352 w3353 w3354 ⊢) <;> first | omega | ((try simp (disch := omega) only [zb] at p_0 p_1 w_0 w_1 hn h3224 xq9 w3225 r3226 r3227 h3228 r3276 xq55 h3277 h3351 h3352 w3353 w3354 ⊢) <;> omega))
            · have w3355 := (gq9.2.2 _ _ t_a0 35 rfl).1
              have r3356 := ci_rg c0 t_a0 35 (lo := 0) (hi := 60) rfl
              have r3357 := ci_rg cq9 t_a0 35 (lo := 0) (hi := 60) rfl
              refine sw_ite (fun h3358 => ?_) (fun h3358 => ?_)
              · have w3359 := (gq9.2.2 _ _ t_a0 34 rfl).1
                have w3360 := (gq9.2.2 _ _ t_a0 0 rfl).1
                exact ih a0 x1 (x2 + 1) q9 cq9 fq9 t_a0 (by (try simp only [zp, zo, zq] at p_0 p_1 w_0 w_1 hn h3224 xq9 w3225 r3226 r3227 h3228 r3276 xq55 h3277 h3351 h3352 w3355 r3356 r3357 h3358 w3359 w3360 ⊢) <;> (try simp only [zz, Int32.reduceToInt, ne_eq] at p_0 p_1 w_0 w_1 hn h3224 xq9 w3225 r3226 r3227 h3228 r3276 xq55 h3277 h3351 h3352 w3355 r3356 r3357 h3358 w3359 w3360 ⊢) <;> (try simp (disch := omega) only [zb] at p_0 p_1 w_0 w_1 hn h3224 xq9 w3225 r3226 r3227 h3228 r3276 xq55 h3277 h3351 h3352 w3355 r3356 r3357 h3358 w3359 w3360 ⊢) <;> first | omega | ((try simp (disch := omega) only [zb] at p_0 p_1 w_0 w_1 hn h3224 xq9 w3225 r3226 r3227 h3228 r3276 xq55 h3277 h3351 h3352 w3355 r3356 r3357 h3358 w3359 w3360 ⊢) <;> omega)) (by (try simp only [zp, zo, zq] at p_0 p_1 w_0 w_1 hn h3224 xq9 w3225 r3226 r3227 h3228 r3276 xq55 h3277 h3351 h3352 w3355 r3356 r3357 h3358 w3359 w3360 ⊢) <;> (try simp only [zz, Int32.reduceToInt, ne_eq] at p_0 p_1 w_0 w_1 hn h3224 xq9 w3225 r3226 r3227 h3228 r3276 xq55 h3277 h3351 h3352 w3355 r3356 r3357 h3358 w3359 w3360 ⊢) <;> (try simp (disch := omega) only [zb] at p_0 p_1 w_0 w_1 hn h3224 xq9 w3225 r3226 r3227 h3228 r3276 xq55 h3277 h3351 h3352 w3355 r3356 r3357 h3358 w3359 w3360 ⊢) <;> first | omega | ((try simp (disch := omega) only [zb] at p_0 p_1 w_0 w_1 hn h3224 xq9 w3225 r3226 r3227 h3228 r3276 xq55 h3277 h3351 h3352 w3355 r3356 r3357 h3358 w3359 w3360 ⊢) <;> omega)) (by (try simp only [zp, zo, zq] at p_0 p_1 w_0 w_1 hn h3224 xq9 w3225 r3226 r3227 h3228 r3276 xq55 h3277 h3351 h3352 w3355 r3356 r3357 h3358 w3359 w3360 ⊢) <;> (try simp only [zz, Int32.reduceToInt, ne_eq] at p_0 p_1 w_0 w_1 hn h3224 xq9 w3225 r3226 r3227 h3228 r3276 xq55 h3277 h3351 h3352 w3355 r3356 r3357 h3358 w3359 w3360 ⊢) <;> (try simp (disch := omega) only [zb] at p_0 p_1 w_0 w_1 hn h3224 xq9 w3225 r3226 r3227 h3228 r3276 xq55 h3277 h3351 h3352 w3355 r3356 r3357 h3358 w3359 w3360 ⊢) <;> first | omega | ((try simp (disch := omega) only [zb] at p_0 p_1 w_0 w_1 hn h3224 xq9 w3225 r3226 r3227 h3228 r3276 xq55 h3277 h3351 h3352 w3355 r3356 r3357 h3358 w3359 w3360 ⊢) <;> omega)) (by (try simp only [zp, zo, zq] at p_0 p_1 w_0 w_1 hn h3224 xq9 w3225 r3226 r3227 h3228 r3276 xq55 h3277 h3351 h3352 w3355 r3356 r3357 h3358 w3359 w3360 ⊢) <;> (try simp only [zz, Int32.reduceToInt, ne_eq] at p_0 p_1 w_0 w_1 hn h3224 xq9 w3225 r3226 r3227 h3228 r3276 xq55 h3277 h3351 h3352 w3355 r3356 r3357 h3358 w3359 w3360 ⊢) <;> (try simp (disch := omega) only [zb] at p_0 p_1 w_0 w_1 hn h3224 xq9 w3225 r3226 r3227 h3228 r3276 xq55 h3277 h3351 h3352 w3355 r3356 r3357 h3358 w3359 w3360 ⊢) <;> first | omega | ((try simp (disch := omega) only [zb] at p_0 p_1 w_0 w_1 hn h3224 xq9 w3225 r3226 r3227 h3228 r3276 xq55 h3277 h3351 h3352 w3355 r3356 r3357 h3358 w3359 w3360 ⊢) <;> omega)) (by (try simp only [zp, zo, zq] at p_0 p_1 w_0 w_1 hn h3224 xq9 w3225 r3226 r3227 h3228 r3276 xq55 h3277 h3351 h3352 w3355 r3356 r3357 h3358 w3359 w3360 ⊢) <;> (try simp only [zz, Int32.reduceToInt, ne_eq] at p_0 p_1 w_0 w_1 hn h3224 xq9 w3225 r3226 r3227 h3228 r3276 xq55 h3277 h3351 h3352 w3355 r3356 r3357 h3358 w3359 w3360 ⊢) <;> (try simp (disch := omega) only [zb] at p_0 p_1 w_0 w_1 hn h3224 xq9 w3225 r3226 r3227 h3228 r3276 xq55 h3277 h3351 h3352 w3355 r3356 r3357 h3358 w3359 w3360 ⊢) <;> first | omega | ((try simp (disch := omega) only [zb] at p_0 p_1 w_0 w_1 hn h3224 xq9 w3225 r3226 r3227 h3228 r3276 xq55 h3277 h3351 h3352 w3355 r3356 r3357 h3358 w3359 w3360 ⊢) <;> omega))
              · refine sw_onS eq11 ?_
                refine sw_ar (ci_sh cq9 tq11 rfl) ?_
                refine sw_ib (by (try simp only [zp, zo, zq] at p_0 p_1 w_0 w_1 hn h3224 xq9 w3225 r3226 r3227 h3228 r3276 xq55 h3277 h3351 h3352 w3355 r3356 r3357 h3358 ⊢) <;> (try simp only [zz, Int32.reduceToInt, ne_eq] at p_0 p_1 w_0 w_1 hn h3224 xq9 w3225 r3226 r3227 h3228 r3276 xq55 h3277 h3351 h3352 w3355 r3356 r3357 h3358 ⊢) <;> (try simp (disch := omega) only [zb] at p_0 p_1 w_0 w_1 hn h3224 xq9 w3225 r3226 r3227 h3228 r3276 xq55 h3277 h3351 h3352 w3355 r3356 r3357 h3358 ⊢) <;> first | omega | ((try simp (disch := omega) only [zb] at p_0 p_1 w_0 w_1 hn h3224 xq9 w3225 r3226 r3227 h3228 r3276 xq55 h3277 h3351 h3352 w3355 r3356 r3357 h3358 ⊢) <;> omega)) ?_
                have cs25 := ci_wI cq9 tq11 (j := x2.toNatClampNeg) (v := mm_I q9 a0 35) (kr_s (lo := (-1)) (hi := 59) rfl (by (try simp only [zp, zo, zq] at p_0 p_1 w_0 w_1 hn h3224 xq9 w3225 r3226 r3227 h3228 r3276 xq55 h3277 h3351 h3352 w3355 r3356 r3357 h3358 ⊢) <;> (try simp only [zz, Int32.reduceToInt, ne_eq] at p_0 p_1 w_0 w_1 hn h3224 xq9 w3225 r3226 r3227 h3228 r3276 xq55 h3277 h3351 h3352 w3355 r3356 r3357 h3358 ⊢) <;> (try simp (disch := omega) only [zb] at p_0 p_1 w_0 w_1 hn h3224 xq9 w3225 r3226 r3227 h3228 r3276 xq55 h3277 h3351 h3352 w3355 r3356 r3357 h3358 ⊢) <;> first | omega | ((try simp (disch := omega) only [zb] at p_0 p_1 w_0 w_1 hn h3224 xq9 w3225 r3226 r3227 h3228 r3276 xq55 h3277 h3351 h3352 w3355 r3356 r3357 h3358 ⊢) <;> omega)))
                have fs25 := fr_wI fq9 tq11 (j := x2.toNatClampNeg) (v := mm_I q9 a0 35) rfl
                refine sw_let (fun s25 es25 => ?_)
                rw [es25] at cs25 fs25
                obtain ⟨q26, eq26, tq26⟩ := ci_ref cs25 t_a0 36 (κ' := 86) rfl
                refine sw_onS eq26 ?_
                refine sw_ar (ci_sh cs25 tq26 rfl) ?_
                have w3361 : mm_I s25 a0 35 = mm_I q9 a0 35 := by rw [← es25]; exact rd_k t_a0 tq11 (by decide)
                have r3362 := ci_rg cs25 t_a0 35 (lo := 0) (hi := 60) rfl
                refine sw_ib (by (try simp only [zp, zo, zq] at p_0 p_1 w_0 w_1 hn h3224 xq9 w3225 r3226 r3227 h3228 r3276 xq55 h3277 h3351 h3352 w3355 r3356 r3357 h3358 w3361 r3362 ⊢) <;> (try simp only [zz, Int32.reduceToInt, ne_eq] at p_0 p_1 w_0 w_1 hn h3224 xq9 w3225 r3226 r3227 h3228 r3276 xq55 h3277 h3351 h3352 w3355 r3356 r3357 h3358 w3361 r3362 ⊢) <;> (try simp (disch := omega) only [zb] at p_0 p_1 w_0 w_1 hn h3224 xq9 w3225 r3226 r3227 h3228 r3276 xq55 h3277 h3351 h3352 w3355 r3356 r3357 h3358 w3361 r3362 ⊢) <;> first | omega | ((try simp (disch := omega) only [zb] at p_0 p_1 w_0 w_1 hn h3224 xq9 w3225 r3226 r3227 h3228 r3276 xq55 h3277 h3351 h3352 w3355 r3356 r3357 h3358 w3361 r3362 ⊢) <;> omega)) ?_
                have cs29 := ci_wI cs25 tq26 (j := (mm_I s25 a0 35).toNatClampNeg) (v := x2) (kr_n rfl)
                have fs29 := fr_wI fs25 tq26 (j := (mm_I s25 a0 35).toNatClampNeg) (v := x2) rfl
                refine sw_let (fun s29 es29 => ?_)
                rw [es29] at cs29 fs29
                obtain ⟨q30, eq30, tq30⟩ := ci_ref cs29 t_a0 37 (κ' := 87) rfl
                refine sw_onS eq30 ?_
                refine sw_ar (ci_sh cs29 tq30 rfl) ?_
                have w3363 : mm_I s29 a0 35 = mm_I s25 a0 35 := by rw [← es29]; exact rd_k t_a0 tq26 (by decide)
                have r3364 := ci_rg cs29 t_a0 35 (lo := 0) (hi := 60) rfl
                refine sw_ib (by (try simp only [zp, zo, zq] at p_0 p_1 w_0 w_1 hn h3224 xq9 w3225 r3226 r3227 h3228 r3276 xq55 h3277 h3351 h3352 w3355 r3356 r3357 h3358 w3361 r3362 w3363 r3364 ⊢) <;> (try simp only [zz, Int32.reduceToInt, ne_eq] at p_0 p_1 w_0 w_1 hn h3224 xq9 w3225 r3226 r3227 h3228 r3276 xq55 h3277 h3351 h3352 w3355 r3356 r3357 h3358 w3361 r3362 w3363 r3364 ⊢) <;> (try simp (disch := omega) only [zb] at p_0 p_1 w_0 w_1 hn h3224 xq9 w3225 r3226 r3227 h3228 r3276 xq55 h3277 h3351 h3352 w3355 r3356 r3357 h3358 w3361 r3362 w3363 r3364 ⊢) <;> first | omega | ((try simp (disch := omega) only [zb] at p_0 p_1 w_0 w_1 hn h3224 xq9 w3225 r3226 r3227 h3228 r3276 xq55 h3277 h3351 h3352 w3355 r3356 r3357 h3358 w3361 r3362 w3363 r3364 ⊢) <;> omega)) ?_
                have cs33 := ci_wI cs29 tq30 (j := (mm_I s29 a0 35).toNatClampNeg) (v := mm_I s29 a0 34) (kr_n rfl)
                have fs33 := fr_wI fs29 tq30 (j := (mm_I s29 a0 35).toNatClampNeg) (v := mm_I s29 a0 34) rfl
                refine sw_let (fun s33 es33 => ?_)
                rw [es33] at cs33 fs33
                obtain ⟨q34, eq34, tq34⟩ := ci_ref cs33 t_a0 38 (κ' := 88) rfl
                refine sw_onS eq34 ?_
                refine sw_ar (ci_sh cs33 tq34 rfl) ?_
                have w3365 : mm_I s33 a0 35 = mm_I s29 a0 35 := by rw [← es33]; exact rd_k t_a0 tq30 (by decide)
                have r3366 := ci_rg cs33 t_a0 35 (lo := 0) (hi := 60) rfl
                refine sw_ib (by (try simp only [zp, zo, zq] at p_0 p_1 w_0 w_1 hn h3224 xq9 w3225 r3226 r3227 h3228 r3276 xq55 h3277 h3351 h3352 w3355 r3356 r3357 h3358 w3361 r3362 w3363 r3364 w3365 r3366 ⊢) <;> (try simp only [zz, Int32.reduceToInt, ne_eq] at p_0 p_1 w_0 w_1 hn h3224 xq9 w3225 r3226 r3227 h3228 r3276 xq55 h3277 h3351 h3352 w3355 r3356 r3357 h3358 w3361 r3362 w3363 r3364 w3365 r3366 ⊢) <;> (try simp (disch := omega) only [zb] at p_0 p_1 w_0 w_1 hn h3224 xq9 w3225 r3226 r3227 h3228 r3276 xq55 h3277 h3351 h3352 w3355 r3356 r3357 h3358 w3361 r3362 w3363 r3364 w3365 r3366 ⊢) <;> first | omega | ((try simp (disch := omega) only [zb] at p_0 p_1 w_0 w_1 hn h3224 xq9 w3225 r3226 r3227 h3228 r3276 xq55 h3277 h3351 h3352 w3355 r3356 r3357 h3358 w3361 r3362 w3363 r3364 w3365 r3366 ⊢) <;> omega)) ?_
                have cs37 := ci_wI cs33 tq34 (j := (mm_I s33 a0 35).toNatClampNeg) (v := -1) (kr_n rfl)
                have fs37 := fr_wI fs33 tq34 (j := (mm_I s33 a0 35).toNatClampNeg) (v := -1) rfl
                refine sw_let (fun s37 es37 => ?_)
                rw [es37] at cs37 fs37
                obtain ⟨q38, eq38, tq38⟩ := ci_ref cs37 t_a0 39 (κ' := 89) rfl
                refine sw_onS eq38 ?_
                refine sw_ar (ci_sh cs37 tq38 rfl) ?_
                have w3367 : mm_I s37 a0 35 = mm_I s33 a0 35 := by rw [← es37]; exact rd_k t_a0 tq34 (by decide)
                have r3368 := ci_rg cs37 t_a0 35 (lo := 0) (hi := 60) rfl
                refine sw_ib (by (try simp only [zp, zo, zq] at p_0 p_1 w_0 w_1 hn h3224 xq9 w3225 r3226 r3227 h3228 r3276 xq55 h3277 h3351 h3352 w3355 r3356 r3357 h3358 w3361 r3362 w3363 r3364 w3365 r3366 w3367 r3368 ⊢) <;> (try simp only [zz, Int32.reduceToInt, ne_eq] at p_0 p_1 w_0 w_1 hn h3224 xq9 w3225 r3226 r3227 h3228 r3276 xq55 h3277 h3351 h3352 w3355 r3356 r3357 h3358 w3361 r3362 w3363 r3364 w3365 r3366 w3367 r3368 ⊢) <;> (try simp (disch := omega) only [zb] at p_0 p_1 w_0 w_1 hn h3224 xq9 w3225 r3226 r3227 h3228 r3276 xq55 h3277 h3351 h3352 w3355 r3356 r3357 h3358 w3361 r3362 w3363 r3364 w3365 r3366 w3367 r3368 ⊢) <;> first | omega | ((try simp (disch := omega) only [zb] at p_0 p_1 w_0 w_1 hn h3224 xq9 w3225 r3226 r3227 h3228 r3276 xq55 h3277 h3351 h3352 w3355 r3356 r3357 h3358 w3361 r3362 w3363 r3364 w3365 r3366 w3367 r3368 ⊢) <;> omega)) ?_
                have w3369 : mm_I s37 a0 44 = mm_I s33 a0 44 := by rw [← es37]; exact rd_k t_a0 tq34 (by decide)
                have w3370 : mm_I s33 a0 44 = mm_I s29 a0 44 := by rw [← es33]; exact rd_k t_a0 tq30 (by decide)
                have w3371 : mm_I s29 a0 44 = mm_I s25 a0 44 := by rw [← es29]; exact rd_k t_a0 tq26 (by decide)
                have w3372 : mm_I s25 a0 44 = mm_I q9 a0 44 := by rw [← es25]; exact rd_k t_a0 tq11 (by decide)
                have r3373 := ci_rg cs25 t_a0 44 (lo := 0) (hi := 1100) rfl
                have r3374 := ci_rg cs29 t_a0 44 (lo := 0) (hi := 1100) rfl
                have r3375 := ci_rg cs33 t_a0 44 (lo := 0) (hi := 1100) rfl
                have r3376 := ci_rg cs37 t_a0 44 (lo := 0) (hi := 1100) rfl
                have cs41 := ci_wI cs37 tq38 (j := (mm_I s37 a0 35).toNatClampNeg) (v := mm_I s37 a0 44) (kr_s (lo := 0) (hi := 400) rfl (by (try simp only [zp, zo, zq] at p_0 p_1 w_0 w_1 hn h3224 xq9 w3225 r3226 r3227 h3228 r3276 xq55 h3277 h3351 h3352 w3355 r3356 r3357 h3358 w3361 r3362 w3363 r3364 w3365 r3366 w3367 r3368 w3369 w3370 w3371 w3372 r3373 r3374 r3375 r3376 ⊢) <;> (try simp only [zz, Int32.reduceToInt, ne_eq] at p_0 p_1 w_0 w_1 hn h3224 xq9 w3225 r3226 r3227 h3228 r3276 xq55 h3277 h3351 h3352 w3355 r3356 r3357 h3358 w3361 r3362 w3363 r3364 w3365 r3366 w3367 r3368 w3369 w3370 w3371 w3372 r3373 r3374 r3375 r3376 ⊢) <;> (try simp (disch := omega) only [zb] at p_0 p_1 w_0 w_1 hn h3224 xq9 w3225 r3226 r3227 h3228 r3276 xq55 h3277 h3351 h3352 w3355 r3356 r3357 h3358 w3361 r3362 w3363 r3364 w3365 r3366 w3367 r3368 w3369 w3370 w3371 w3372 r3373 r3374 r3375 r3376 ⊢) <;> first | omega | ((try simp (disch := omega) only [zb] at p_0 p_1 w_0 w_1 hn h3224 xq9 w3225 r3226 r3227 h3228 r3276 xq55 h3277 h3351 h3352 w3355 r3356 r3357 h3358 w3361 r3362 w3363 r3364 w3365 r3366 w3367 r3368 w3369 w3370 w3371 w3372 r3373 r3374 r3375 r3376 ⊢) <;> omega)))
                have fs41 := fr_wI fs37 tq38 (j := (mm_I s37 a0 35).toNatClampNeg) (v := mm_I s37 a0 44) rfl
                refine sw_let (fun s41 es41 => ?_)
                rw [es41] at cs41 fs41
                have w3377 : mm_I s41 a0 35 = mm_I s37 a0 35 := by rw [← es41]; exact rd_k t_a0 tq38 (by decide)
                have r3378 := ci_rg cs41 t_a0 35 (lo := 0) (hi := 60) rfl
                have w3379 : mm_I s41 a0 44 = mm_I s37 a0 44 := by rw [← es41]; exact rd_k t_a0 tq38 (by decide)
                have r3380 := ci_rg cs41 t_a0 44 (lo := 0) (hi := 1100) rfl
                have w3381 : mm_I s41 a0 34 = mm_I s37 a0 34 := by rw [← es41]; exact rd_k t_a0 tq38 (by decide)
                have w3382 : mm_I s37 a0 34 = mm_I s33 a0 34 := by rw [← es37]; exact rd_k t_a0 tq34 (by decide)
                have w3383 : mm_I s33 a0 34 = mm_I s29 a0 34 := by rw [← es33]; exact rd_k t_a0 tq30 (by decide)
                have w3384 : mm_I s29 a0 34 = mm_I s25 a0 34 := by rw [← es29]; exact rd_k t_a0 tq26 (by decide)
                have w3385 : mm_I s25 a0 34 = mm_I q9 a0 34 := by rw [← es25]; exact rd_k t_a0 tq11 (by decide)
                have w3386 := (gq9.2.2 _ _ t_a0 34 rfl).1
                have w3387 : mm_I s41 a0 0 = mm_I s37 a0 0 := by rw [← es41]; exact rd_k t_a0 tq38 (by decide)
                have w3388 : mm_I s37 a0 0 = mm_I s33 a0 0 := by rw [← es37]; exact rd_k t_a0 tq34 (by decide)
                have w3389 : mm_I s33 a0 0 = mm_I s29 a0 0 := by rw [← es33]; exact rd_k t_a0 tq30 (by decide)
                have w3390 : mm_I s29 a0 0 = mm_I s25 a0 0 := by rw [← es29]; exact rd_k t_a0 tq26 (by decide)
                have w3391 : mm_I s25 a0 0 = mm_I q9 a0 0 := by rw [← es25]; exact rd_k t_a0 tq11 (by decide)
                have w3392 := (gq9.2.2 _ _ t_a0 0 rfl).1
                exact vX9_tick_167 ih mm_fuel a0 x1 x2 0 s41 cs41 fs41 t_a0 (by (try simp only [zp, zo, zq] at p_0 p_1 w_0 w_1 hn h3224 xq9 w3225 r3226 r3227 h3228 r3276 xq55 h3277 h3351 h3352 w3355 r3356 r3357 h3358 w3361 r3362 w3363 r3364 w3365 r3366 w3367 r3368 w3369 w3370 w3371 w3372 r3373 r3374 r3375 r3376 w3377 r3378 w3379 r3380 w3381 w3382 w3383 w3384 w3385 w3386 w3387 w3388 w3389 w3390 w3391 w3392 ⊢) <;> (try simp only [zz, Int32.reduceToInt, ne_eq] at p_0 p_1 w_0 w_1 hn h3224 xq9 w3225 r3226 r3227 h3228 r3276 xq55 h3277 h3351 h3352 w3355 r3356 r3357 h3358 w3361 r3362 w3363 r3364 w3365 r3366 w3367 r3368 w3369 w3370 w3371 w3372 r3373 r3374 r3375 r3376 w3377 r3378 w3379 r3380 w3381 w3382 w3383 w3384 w3385 w3386 w3387 w3388 w3389 w3390 w3391 w3392 ⊢) <;> (try simp (disch := omega) only [zb] at p_0 p_1 w_0 w_1 hn h3224 xq9 w3225 r3226 r3227 h3228 r3276 xq55 h3277 h3351 h3352 w3355 r3356 r3357 h3358 w3361 r3362 w3363 r3364 w3365 r3366 w3367 r3368 w3369 w3370 w3371 w3372 r3373 r3374 r3375 r3376 w3377 r3378 w3379 r3380 w3381 w3382 w3383 w3384 w3385 w3386 w3387 w3388 w3389 w3390 w3391 w3392 ⊢) <;> first | omega | ((try simp (disch := omega) only [zb] at p_0 p_1 w_0 w_1 hn h3224 xq9 w3225 r3226 r3227 h3228 r3276 xq55 h3277 h3351 h3352 w3355 r3356 r3357 h3358 w3361 r3362 w3363 r3364 w3365 r3366 w3367 r3368 w3369 w3370 w3371 w3372 r3373 r3374 r3375 r3376 w3377 r3378 w3379 r3380 w3381 w3382 w3383 w3384 w3385 w3386 w3387 w3388 w3389 w3390 w3391 w3392 ⊢) <;> omega)) (by (try simp only [zp, zo, zq] at p_0 p_1 w_0 w_1 hn h3224 xq9 w3225 r3226 r3227 h3228 r3276 xq55 h3277 h3351 h3352 w3355 r3356 r3357 h3358 w3361 r3362 w3363 r3364 w3365 r3366 w3367 r3368 w3369 w3370 w3371 w3372 r3373 r3374 r3375 r3376 w3377 r3378 w3379 r3380 w3381 w3382 w3383 w3384 w3385 w3386 w3387 w3388 w3389 w3390 w3391 w3392 ⊢) <;> (try simp only [zz, Int32.reduceToInt, ne_eq] at p_0 p_1 w_0 w_1 hn h3224 xq9 w3225 r3226 r3227 h3228 r3276 xq55 h3277 h3351 h3352 w3355 r3356 r3357 h3358 w3361 r3362 w3363 r3364 w3365 r3366 w3367 r3368 w3369 w3370 w3371 w3372 r3373 r3374 r3375 r3376 w3377 r3378 w3379 r3380 w3381 w3382 w3383 w3384 w3385 w3386 w3387 w3388 w3389 w3390 w3391 w3392 ⊢) <;> (try simp (disch := omega) only [zb] at p_0 p_1 w_0 w_1 hn h3224 xq9 w3225 r3226 r3227 h3228 r3276 xq55 h3277 h3351 h3352 w3355 r3356 r3357 h3358 w3361 r3362 w3363 r3364 w3365 r3366 w3367 r3368 w3369 w3370 w3371 w3372 r3373 r3374 r3375 r3376 w3377 r3378 w3379 r3380 w3381 w3382 w3383 w3384 w3385 w3386 w3387 w3388 w3389 w3390 w3391 w3392 ⊢) <;> first | omega | ((try simp (disch := omega) only [zb] at p_0 p_1 w_0 w_1 hn h3224 xq9 w3225 r3226 r3227 h3228 r3276 xq55 h3277 h3351 h3352 w3355 r3356 r3357 h3358 w3361 r3362 w3363 r3364 w3365 r3366 w3367 r3368 w3369 w3370 w3371 w3372 r3373 r3374 r3375 r3376 w3377 r3378 w3379 r3380 w3381 w3382 w3383 w3384 w3385 w3386 w3387 w3388 w3389 w3390 w3391 w3392 ⊢) <;> omega)) (by (try simp only [zp, zo, zq] at p_0 p_1 w_0 w_1 hn h3224 xq9 w3225 r3226 r3227 h3228 r3276 xq55 h3277 h3351 h3352 w3355 r3356 r3357 h3358 w3361 r3362 w3363 r3364 w3365 r3366 w3367 r3368 w3369 w3370 w3371 w3372 r3373 r3374 r3375 r3376 w3377 r3378 w3379 r3380 w3381 w3382 w3383 w3384 w3385 w3386 w3387 w3388 w3389 w3390 w3391 w3392 ⊢) <;> (try simp only [zz, Int32.reduceToInt, ne_eq] at p_0 p_1 w_0 w_1 hn h3224 xq9 w3225 r3226 r3227 h3228 r3276 xq55 h3277 h3351 h3352 w3355 r3356 r3357 h3358 w3361 r3362 w3363 r3364 w3365 r3366 w3367 r3368 w3369 w3370 w3371 w3372 r3373 r3374 r3375 r3376 w3377 r3378 w3379 r3380 w3381 w3382 w3383 w3384 w3385 w3386 w3387 w3388 w3389 w3390 w3391 w3392 ⊢) <;> (try simp (disch := omega) only [zb] at p_0 p_1 w_0 w_1 hn h3224 xq9 w3225 r3226 r3227 h3228 r3276 xq55 h3277 h3351 h3352 w3355 r3356 r3357 h3358 w3361 r3362 w3363 r3364 w3365 r3366 w3367 r3368 w3369 w3370 w3371 w3372 r3373 r3374 r3375 r3376 w3377 r3378 w3379 r3380 w3381 w3382 w3383 w3384 w3385 w3386 w3387 w3388 w3389 w3390 w3391 w3392 ⊢) <;> first | omega | ((try simp (disch := omega) only [zb] at p_0 p_1 w_0 w_1 hn h3224 xq9 w3225 r3226 r3227 h3228 r3276 xq55 h3277 h3351 h3352 w3355 r3356 r3357 h3358 w3361 r3362 w3363 r3364 w3365 r3366 w3367 r3368 w3369 w3370 w3371 w3372 r3373 r3374 r3375 r3376 w3377 r3378 w3379 r3380 w3381 w3382 w3383 w3384 w3385 w3386 w3387 w3388 w3389 w3390 w3391 w3392 ⊢) <;> omega)) (by (try simp only [zp, zo, zq] at p_0 p_1 w_0 w_1 hn h3224 xq9 w3225 r3226 r3227 h3228 r3276 xq55 h3277 h3351 h3352 w3355 r3356 r3357 h3358 w3361 r3362 w3363 r3364 w3365 r3366 w3367 r3368 w3369 w3370 w3371 w3372 r3373 r3374 r3375 r3376 w3377 r3378 w3379 r3380 w3381 w3382 w3383 w3384 w3385 w3386 w3387 w3388 w3389 w3390 w3391 w3392 ⊢) <;> (try simp only [zz, Int32.reduceToInt, ne_eq] at p_0 p_1 w_0 w_1 hn h3224 xq9 w3225 r3226 r3227 h3228 r3276 xq55 h3277 h3351 h3352 w3355 r3356 r3357 h3358 w3361 r3362 w3363 r3364 w3365 r3366 w3367 r3368 w3369 w3370 w3371 w3372 r3373 r3374 r3375 r3376 w3377 r3378 w3379 r3380 w3381 w3382 w3383 w3384 w3385 w3386 w3387 w3388 w3389 w3390 w3391 w3392 ⊢) <;> (try simp (disch := omega) only [zb] at p_0 p_1 w_0 w_1 hn h3224 xq9 w3225 r3226 r3227 h3228 r3276 xq55 h3277 h3351 h3352 w3355 r3356 r3357 h3358 w3361 r3362 w3363 r3364 w3365 r3366 w3367 r3368 w3369 w3370 w3371 w3372 r3373 r3374 r3375 r3376 w3377 r3378 w3379 r3380 w3381 w3382 w3383 w3384 w3385 w3386 w3387 w3388 w3389 w3390 w3391 w3392 ⊢) <;> first | omega | ((try simp (disch := omega) only [zb] at p_0 p_1 w_0 w_1 hn h3224 xq9 w3225 r3226 r3227 h3228 r3276 xq55 h3277 h3351 h3352 w3355 r3356 r3357 h3358 w3361 r3362 w3363 r3364 w3365 r3366 w3367 r3368 w3369 w3370 w3371 w3372 r3373 r3374 r3375 r3376 w3377 r3378 w3379 r3380 w3381 w3382 w3383 w3384 w3385 w3386 w3387 w3388 w3389 w3390 w3391 w3392 ⊢) <;> omega)) (by (try simp only [zp, zo, zq] at p_0 p_1 w_0 w_1 hn h3224 xq9 w3225 r3226 r3227 h3228 r3276 xq55 h3277 h3351 h3352 w3355 r3356 r3357 h3358 w3361 r3362 w3363 r3364 w3365 r3366 w3367 r3368 w3369 w3370 w3371 w3372 r3373 r3374 r3375 r3376 w3377 r3378 w3379 r3380 w3381 w3382 w3383 w3384 w3385 w3386 w3387 w3388 w3389 w3390 w3391 w3392 ⊢) <;> (try simp only [zz, Int32.reduceToInt, ne_eq] at p_0 p_1 w_0 w_1 hn h3224 xq9 w3225 r3226 r3227 h3228 r3276 xq55 h3277 h3351 h3352 w3355 r3356 r3357 h3358 w3361 r3362 w3363 r3364 w3365 r3366 w3367 r3368 w3369 w3370 w3371 w3372 r3373 r3374 r3375 r3376 w3377 r3378 w3379 r3380 w3381 w3382 w3383 w3384 w3385 w3386 w3387 w3388 w3389 w3390 w3391 w3392 ⊢) <;> (try simp (disch := omega) only [zb] at p_0 p_1 w_0 w_1 hn h3224 xq9 w3225 r3226 r3227 h3228 r3276 xq55 h3277 h3351 h3352 w3355 r3356 r3357 h3358 w3361 r3362 w3363 r3364 w3365 r3366 w3367 r3368 w3369 w3370 w3371 w3372 r3373 r3374 r3375 r3376 w3377 r3378 w3379 r3380 w3381 w3382 w3383 w3384 w3385 w3386 w3387 w3388 w3389 w3390 w3391 w3392 ⊢) <;> first | omega | ((try simp (disch := omega) only [zb] at p_0 p_1 w_0 w_1 hn h3224 xq9 w3225 r3226 r3227 h3228 r3276 xq55 h3277 h3351 h3352 w3355 r3356 r3357 h3358 w3361 r3362 w3363 r3364 w3365 r3366 w3367 r3368 w3369 w3370 w3371 w3372 r3373 r3374 r3375 r3376 w3377 r3378 w3379 r3380 w3381 w3382 w3383 w3384 w3385 w3386 w3387 w3388 w3389 w3390 w3391 w3392 ⊢) <;> omega)) (by (try simp only [zp, zo, zq] at p_0 p_1 w_0 w_1 hn h3224 xq9 w3225 r3226 r3227 h3228 r3276 xq55 h3277 h3351 h3352 w3355 r3356 r3357 h3358 w3361 r3362 w3363 r3364 w3365 r3366 w3367 r3368 w3369 w3370 w3371 w3372 r3373 r3374 r3375 r3376 w3377 r3378 w3379 r3380 w3381 w3382 w3383 w3384 w3385 w3386 w3387 w3388 w3389 w3390 w3391 w3392 ⊢) <;> (try simp only [zz, Int32.reduceToInt, ne_eq] at p_0 p_1 w_0 w_1 hn h3224 xq9 w3225 r3226 r3227 h3228 r3276 xq55 h3277 h3351 h3352 w3355 r3356 r3357 h3358 w3361 r3362 w3363 r3364 w3365 r3366 w3367 r3368 w3369 w3370 w3371 w3372 r3373 r3374 r3375 r3376 w3377 r3378 w3379 r3380 w3381 w3382 w3383 w3384 w3385 w3386 w3387 w3388 w3389 w3390 w3391 w3392 ⊢) <;> (try simp (disch := omega) only [zb] at p_0 p_1 w_0 w_1 hn h3224 xq9 w3225 r3226 r3227 h3228 r3276 xq55 h3277 h3351 h3352 w3355 r3356 r3357 h3358 w3361 r3362 w3363 r3364 w3365 r3366 w3367 r3368 w3369 w3370 w3371 w3372 r3373 r3374 r3375 r3376 w3377 r3378 w3379 r3380 w3381 w3382 w3383 w3384 w3385 w3386 w3387 w3388 w3389 w3390 w3391 w3392 ⊢) <;> first | omega | ((try simp (disch := omega) only [zb] at p_0 p_1 w_0 w_1 hn h3224 xq9 w3225 r3226 r3227 h3228 r3276 xq55 h3277 h3351 h3352 w3355 r3356 r3357 h3358 w3361 r3362 w3363 r3364 w3365 r3366 w3367 r3368 w3369 w3370 w3371 w3372 r3373 r3374 r3375 r3376 w3377 r3378 w3379 r3380 w3381 w3382 w3383 w3384 w3385 w3386 w3387 w3388 w3389 w3390 w3391 w3392 ⊢) <;> omega)) (by (try simp only [zp, zo, zq] at p_0 p_1 w_0 w_1 hn h3224 xq9 w3225 r3226 r3227 h3228 r3276 xq55 h3277 h3351 h3352 w3355 r3356 r3357 h3358 w3361 r3362 w3363 r3364 w3365 r3366 w3367 r3368 w3369 w3370 w3371 w3372 r3373 r3374 r3375 r3376 w3377 r3378 w3379 r3380 w3381 w3382 w3383 w3384 w3385 w3386 w3387 w3388 w3389 w3390 w3391 w3392 ⊢) <;> (try simp only [zz, Int32.reduceToInt, ne_eq] at p_0 p_1 w_0 w_1 hn h3224 xq9 w3225 r3226 r3227 h3228 r3276 xq55 h3277 h3351 h3352 w3355 r3356 r3357 h3358 w3361 r3362 w3363 r3364 w3365 r3366 w3367 r3368 w3369 w3370 w3371 w3372 r3373 r3374 r3375 r3376 w3377 r3378 w3379 r3380 w3381 w3382 w3383 w3384 w3385 w3386 w3387 w3388 w3389 w3390 w3391 w3392 ⊢) <;> (try simp (disch := omega) only [zb] at p_0 p_1 w_0 w_1 hn h3224 xq9 w3225 r3226 r3227 h3228 r3276 xq55 h3277 h3351 h3352 w3355 r3356 r3357 h3358 w3361 r3362 w3363 r3364 w3365 r3366 w3367 r3368 w3369 w3370 w3371 w3372 r3373 r3374 r3375 r3376 w3377 r3378 w3379 r3380 w3381 w3382 w3383 w3384 w3385 w3386 w3387 w3388 w3389 w3390 w3391 w3392 ⊢) <;> first | omega | ((try simp (disch := omega) only [zb] at p_0 p_1 w_0 w_1 hn h3224 xq9 w3225 r3226 r3227 h3228 r3276 xq55 h3277 h3351 h3352 w3355 r3356 r3357 h3358 w3361 r3362 w3363 r3364 w3365 r3366 w3367 r3368 w3369 w3370 w3371 w3372 r3373 r3374 r3375 r3376 w3377 r3378 w3379 r3380 w3381 w3382 w3383 w3384 w3385 w3386 w3387 w3388 w3389 w3390 w3391 w3392 ⊢) <;> omega)) (by (try simp only [zp, zo, zq] at p_0 p_1 w_0 w_1 hn h3224 xq9 w3225 r3226 r3227 h3228 r3276 xq55 h3277 h3351 h3352 w3355 r3356 r3357 h3358 w3361 r3362 w3363 r3364 w3365 r3366 w3367 r3368 w3369 w3370 w3371 w3372 r3373 r3374 r3375 r3376 w3377 r3378 w3379 r3380 w3381 w3382 w3383 w3384 w3385 w3386 w3387 w3388 w3389 w3390 w3391 w3392 ⊢) <;> (try simp only [zz, Int32.reduceToInt, ne_eq] at p_0 p_1 w_0 w_1 hn h3224 xq9 w3225 r3226 r3227 h3228 r3276 xq55 h3277 h3351 h3352 w3355 r3356 r3357 h3358 w3361 r3362 w3363 r3364 w3365 r3366 w3367 r3368 w3369 w3370 w3371 w3372 r3373 r3374 r3375 r3376 w3377 r3378 w3379 r3380 w3381 w3382 w3383 w3384 w3385 w3386 w3387 w3388 w3389 w3390 w3391 w3392 ⊢) <;> (try simp (disch := omega) only [zb] at p_0 p_1 w_0 w_1 hn h3224 xq9 w3225 r3226 r3227 h3228 r3276 xq55 h3277 h3351 h3352 w3355 r3356 r3357 h3358 w3361 r3362 w3363 r3364 w3365 r3366 w3367 r3368 w3369 w3370 w3371 w3372 r3373 r3374 r3375 r3376 w3377 r3378 w3379 r3380 w3381 w3382 w3383 w3384 w3385 w3386 w3387 w3388 w3389 w3390 w3391 w3392 ⊢) <;> first | omega | ((try simp (disch := omega) only [zb] at p_0 p_1 w_0 w_1 hn h3224 xq9 w3225 r3226 r3227 h3228 r3276 xq55 h3277 h3351 h3352 w3355 r3356 r3357 h3358 w3361 r3362 w3363 r3364 w3365 r3366 w3367 r3368 w3369 w3370 w3371 w3372 r3373 r3374 r3375 r3376 w3377 r3378 w3379 r3380 w3381 w3382 w3383 w3384 w3385 w3386 w3387 w3388 w3389 w3390 w3391 w3392 ⊢) <;> omega)) (by have hz : (mm_fuel : Int) = 2000 := rfl; rw [hz]; exact (by (try simp only [zp, zo, zq] at p_0 p_1 w_0 w_1 hn h3224 xq9 w3225 r3226 r3227 h3228 r3276 xq55 h3277 h3351 h3352 w3355 r3356 r3357 h3358 w3361 r3362 w3363 r3364 w3365 r3366 w3367 r3368 w3369 w3370 w3371 w3372 r3373 r3374 r3375 r3376 w3377 r3378 w3379 r3380 w3381 w3382 w3383 w3384 w3385 w3386 w3387 w3388 w3389 w3390 w3391 w3392 ⊢) <;> (try simp only [zz, Int32.reduceToInt, ne_eq] at p_0 p_1 w_0 w_1 hn h3224 xq9 w3225 r3226 r3227 h3228 r3276 xq55 h3277 h3351 h3352 w3355 r3356 r3357 h3358 w3361 r3362 w3363 r3364 w3365 r3366 w3367 r3368 w3369 w3370 w3371 w3372 r3373 r3374 r3375 r3376 w3377 r3378 w3379 r3380 w3381 w3382 w3383 w3384 w3385 w3386 w3387 w3388 w3389 w3390 w3391 w3392 ⊢) <;> (try simp (disch := omega) only [zb] at p_0 p_1 w_0 w_1 hn h3224 xq9 w3225 r3226 r3227 h3228 r3276 xq55 h3277 h3351 h3352 w3355 r3356 r3357 h3358 w3361 r3362 w3363 r3364 w3365 r3366 w3367 r3368 w3369 w3370 w3371 w3372 r3373 r3374 r3375 r3376 w3377 r3378 w3379 r3380 w3381 w3382 w3383 w3384 w3385 w3386 w3387 w3388 w3389 w3390 w3391 w3392 ⊢) <;> first | omega | ((try simp (disch := omega) only [zb] at p_0 p_1 w_0 w_1 hn h3224 xq9 w3225 r3226 r3227 h3228 r3276 xq55 h3277 h3351 h3352 w3355 r3356 r3357 h3358 w3361 r3362 w3363 r3364 w3365 r3366 w3367 r3368 w3369 w3370 w3371 w3372 r3373 r3374 r3375 r3376 w3377 r3378 w3379 r3380 w3381 w3382 w3383 w3384 w3385 w3386 w3387 w3388 w3389 w3390 w3391 w3392 ⊢) <;> omega)))
          · have w3393 := (gq9.2.2 _ _ t_a0 34 rfl).1
            have w3394 := (gq9.2.2 _ _ t_a0 0 rfl).1
            exact ih a0 x1 (x2 + 1) q9 cq9 fq9 t_a0 (by (try simp only [zp, zo, zq] at p_0 p_1 w_0 w_1 hn h3224 xq9 w3225 r3226 r3227 h3228 r3276 xq55 h3277 h3351 w3393 w3394 ⊢) <;> (try simp only [zz, Int32.reduceToInt, ne_eq] at p_0 p_1 w_0 w_1 hn h3224 xq9 w3225 r3226 r3227 h3228 r3276 xq55 h3277 h3351 w3393 w3394 ⊢) <;> (try simp (disch := omega) only [zb] at p_0 p_1 w_0 w_1 hn h3224 xq9 w3225 r3226 r3227 h3228 r3276 xq55 h3277 h3351 w3393 w3394 ⊢) <;> first | omega | ((try simp (disch := omega) only [zb] at p_0 p_1 w_0 w_1 hn h3224 xq9 w3225 r3226 r3227 h3228 r3276 xq55 h3277 h3351 w3393 w3394 ⊢) <;> omega)) (by (try simp only [zp, zo, zq] at p_0 p_1 w_0 w_1 hn h3224 xq9 w3225 r3226 r3227 h3228 r3276 xq55 h3277 h3351 w3393 w3394 ⊢) <;> (try simp only [zz, Int32.reduceToInt, ne_eq] at p_0 p_1 w_0 w_1 hn h3224 xq9 w3225 r3226 r3227 h3228 r3276 xq55 h3277 h3351 w3393 w3394 ⊢) <;> (try simp (disch := omega) only [zb] at p_0 p_1 w_0 w_1 hn h3224 xq9 w3225 r3226 r3227 h3228 r3276 xq55 h3277 h3351 w3393 w3394 ⊢) <;> first | omega | ((try simp (disch := omega) only [zb] at p_0 p_1 w_0 w_1 hn h3224 xq9 w3225 r3226 r3227 h3228 r3276 xq55 h3277 h3351 w3393 w3394 ⊢) <;> omega)) (by (try simp only [zp, zo, zq] at p_0 p_1 w_0 w_1 hn h3224 xq9 w3225 r3226 r3227 h3228 r3276 xq55 h3277 h3351 w3393 w3394 ⊢) <;> (try simp only [zz, Int32.reduceToInt, ne_eq] at p_0 p_1 w_0 w_1 hn h3224 xq9 w3225 r3226 r3227 h3228 r3276 xq55 h3277 h3351 w3393 w3394 ⊢) <;> (try simp (disch := omega) only [zb] at p_0 p_1 w_0 w_1 hn h3224 xq9 w3225 r3226 r3227 h3228 r3276 xq55 h3277 h3351 w3393 w3394 ⊢) <;> first | omega | ((try simp (disch := omega) only [zb] at p_0 p_1 w_0 w_1 hn h3224 xq9 w3225 r3226 r3227 h3228 r3276 xq55 h3277 h3351 w3393 w3394 ⊢) <;> omega)) (by (try simp only [zp, zo, zq] at p_0 p_1 w_0 w_1 hn h3224 xq9 w3225 r3226 r3227 h3228 r3276 xq55 h3277 h3351 w3393 w3394 ⊢) <;> (try simp only [zz, Int32.reduceToInt, ne_eq] at p_0 p_1 w_0 w_1 hn h3224 xq9 w3225 r3226 r3227 h3228 r3276 xq55 h3277 h3351 w3393 w3394 ⊢) <;> (try simp (disch := omega) only [zb] at p_0 p_1 w_0 w_1 hn h3224 xq9 w3225 r3226 r3227 h3228 r3276 xq55 h3277 h3351 w3393 w3394 ⊢) <;> first | omega | ((try simp (disch := omega) only [zb] at p_0 p_1 w_0 w_1 hn h3224 xq9 w3225 r3226 r3227 h3228 r3276 xq55 h3277 h3351 w3393 w3394 ⊢) <;> omega)) (by (try simp only [zp, zo, zq] at p_0 p_1 w_0 w_1 hn h3224 xq9 w3225 r3226 r3227 h3228 r3276 xq55 h3277 h3351 w3393 w3394 ⊢) <;> (try simp only [zz, Int32.reduceToInt, ne_eq] at p_0 p_1 w_0 w_1 hn h3224 xq9 w3225 r3226 r3227 h3228 r3276 xq55 h3277 h3351 w3393 w3394 ⊢) <;> (try simp (disch := omega) only [zb] at p_0 p_1 w_0 w_1 hn h3224 xq9 w3225 r3226 r3227 h3228 r3276 xq55 h3277 h3351 w3393 w3394 ⊢) <;> first | omega | ((try simp (disch := omega) only [zb] at p_0 p_1 w_0 w_1 hn h3224 xq9 w3225 r3226 r3227 h3228 r3276 xq55 h3277 h3351 w3393 w3394 ⊢) <;> omega))
set_option maxHeartbeats 4000000 in
set_option maxRecDepth 10000 in
theorem vX9_tick {T : Nat → Option Nat} {σ0 : mm_M} {p0 : Nat} {p1 : Int32} (c0 : sCI T σ0) (t_p0 : T p0 = some 9) (w_0 : (mm_I σ0 p0 34).toInt = 0) : sw (fX9_tick p0 p1 σ0) (fun R => sCI T R.2 ∧ sFR T VX9_tick σ0 R.2 ∧ (((1 ≤ p1.toInt ∧ p1.toInt ≤ 100000) ∧ R.1.toInt = p1.toInt ∧ (mm_I R.2 p0 0).toInt = 0) ∨ (¬ (1 ≤ p1.toInt ∧ p1.toInt ≤ 100000) ∧ (mm_I R.2 p0 0).toInt = 1))) := by
  have f0 : sFR T VX9_tick σ0 σ0 := fr_refl
  unfold fX9_tick
  refine sw_sh (ci_sh c0 t_p0 rfl) ?_
  have u3395 := su_in p1 1 ((100000 : Int32))
  refine sw_on (vX9_goes c0 t_p0 (by (try simp only [zp, zo, zq] at w_0 u3395 ⊢) <;> (try simp only [zz, Int32.reduceToInt, ne_eq] at w_0 u3395 ⊢) <;> (try simp (disch := omega) only [zb] at w_0 u3395 ⊢) <;> first | omega | ((try simp (disch := omega) only [zb] at w_0 u3395 ⊢) <;> omega)) ) ?_
  intro q2 hqq2
  obtain ⟨cq2, gq2, xq2⟩ := hqq2
  have fq2 := fr_trans f0 gq2 rfl
  refine sw_ite (fun h3396 => ?_) (fun h3396 => ?_)
  · exact sw_some ⟨cq2, fq2, (by (try simp only [zp, zo, zq] at w_0 u3395 xq2 h3396 ⊢) <;> (try simp only [zz, Int32.reduceToInt, ne_eq] at w_0 u3395 xq2 h3396 ⊢) <;> (try simp (disch := omega) only [zb] at w_0 u3395 xq2 h3396 ⊢) <;> first | omega | ((try simp (disch := omega) only [zb] at w_0 u3395 xq2 h3396 ⊢) <;> omega))⟩
  · refine sw_sh (ci_sh cq2 t_p0 rfl) ?_
    have cs5 := ci_wI cq2 t_p0 (j := 34) (v := (mm_I q2.2 p0 34) + p1) (kr_n rfl)
    have fs5 := fr_wI fq2 t_p0 (j := 34) (v := (mm_I q2.2 p0 34) + p1) rfl
    refine sw_let (fun s5 es5 => ?_)
    rw [es5] at cs5 fs5
    have w3398 : mm_I s5 p0 34 = (mm_I q2.2 p0 34) + p1 := by rw [← es5]; exact rd_self
    have w3399 := (gq2.2.2 _ _ t_p0 34 rfl).1
    have w3400 : mm_I s5 p0 0 = mm_I q2.2 p0 0 := by rw [← es5]; exact rd_j (by decide)
    exact vX9_tick_28 mm_fuel p0 p1 0 s5 cs5 fs5 t_p0 (by (try simp only [zp, zo, zq] at w_0 u3395 xq2 h3396 w3398 w3399 w3400 ⊢) <;> (try simp only [zz, Int32.reduceToInt, ne_eq] at w_0 u3395 xq2 h3396 w3398 w3399 w3400 ⊢) <;> (try simp (disch := omega) only [zb] at w_0 u3395 xq2 h3396 w3398 w3399 w3400 ⊢) <;> first | omega | ((try simp (disch := omega) only [zb] at w_0 u3395 xq2 h3396 w3398 w3399 w3400 ⊢) <;> omega)) (by (try simp only [zp, zo, zq] at w_0 u3395 xq2 h3396 w3398 w3399 w3400 ⊢) <;> (try simp only [zz, Int32.reduceToInt, ne_eq] at w_0 u3395 xq2 h3396 w3398 w3399 w3400 ⊢) <;> (try simp (disch := omega) only [zb] at w_0 u3395 xq2 h3396 w3398 w3399 w3400 ⊢) <;> first | omega | ((try simp (disch := omega) only [zb] at w_0 u3395 xq2 h3396 w3398 w3399 w3400 ⊢) <;> omega)) (by (try simp only [zp, zo, zq] at w_0 u3395 xq2 h3396 w3398 w3399 w3400 ⊢) <;> (try simp only [zz, Int32.reduceToInt, ne_eq] at w_0 u3395 xq2 h3396 w3398 w3399 w3400 ⊢) <;> (try simp (disch := omega) only [zb] at w_0 u3395 xq2 h3396 w3398 w3399 w3400 ⊢) <;> first | omega | ((try simp (disch := omega) only [zb] at w_0 u3395 xq2 h3396 w3398 w3399 w3400 ⊢) <;> omega)) (by (try simp only [zp, zo, zq] at w_0 u3395 xq2 h3396 w3398 w3399 w3400 ⊢) <;> (try simp only [zz, Int32.reduceToInt, ne_eq] at w_0 u3395 xq2 h3396 w3398 w3399 w3400 ⊢) <;> (try simp (disch := omega) only [zb] at w_0 u3395 xq2 h3396 w3398 w3399 w3400 ⊢) <;> first | omega | ((try simp (disch := omega) only [zb] at w_0 u3395 xq2 h3396 w3398 w3399 w3400 ⊢) <;> omega)) (by have hz : (mm_fuel : Int) = 2000 := rfl; rw [hz]; exact (by (try simp only [zp, zo, zq] at w_0 u3395 xq2 h3396 w3398 w3399 w3400 ⊢) <;> (try simp only [zz, Int32.reduceToInt, ne_eq] at w_0 u3395 xq2 h3396 w3398 w3399 w3400 ⊢) <;> (try simp (disch := omega) only [zb] at w_0 u3395 xq2 h3396 w3398 w3399 w3400 ⊢) <;> first | omega | ((try simp (disch := omega) only [zb] at w_0 u3395 xq2 h3396 w3398 w3399 w3400 ⊢) <;> omega)))
abbrev VX8_takeLetters : List Nat := []
set_option maxHeartbeats 4000000 in
set_option maxRecDepth 10000 in
theorem vX8_takeLetters {T : Nat → Option Nat} {σ0 : mm_M} {p0 : Nat} {p1 : Int32} {p2 : Int32} {p3 : Int32} (c0 : sCI T σ0) (t_p0 : T p0 = some 8) (p_0 : 0 ≤ p1.toInt ∧ p1.toInt ≤ 1) (w_0 : ∀ q, T q = some 11 → (mm_I σ0 q p1.toNatClampNeg).toInt = -1) : sw (fX8_takeLetters p0 p1 p2 p3 σ0) (fun R => sCI T R.2 ∧ sFR T VX8_takeLetters σ0 R.2 ∧ (R.1.toInt = 0)) := by
  have f0 : sFR T VX8_takeLetters σ0 σ0 := fr_refl
  unfold fX8_takeLetters
  refine sw_sh (ci_sh c0 t_p0 rfl) ?_
  obtain ⟨q2, eq2, tq2⟩ := ci_ref c0 t_p0 1 (κ' := 11) rfl
  refine sw_onS eq2 ?_
  refine sw_ar (ci_sh c0 tq2 rfl) ?_
  refine sw_ib (by (try simp only [zp, zo, zq] at p_0 w_0 ⊢) <;> (try simp only [zz, Int32.reduceToInt, ne_eq] at p_0 w_0 ⊢) <;> (try simp (disch := omega) only [zb] at p_0 w_0 ⊢) <;> first | omega | ((try simp (disch := omega) only [zb] at p_0 w_0 ⊢) <;> omega)) ?_
  have z1 := w_0 q2 tq2
  refine sw_ite (fun h3402 => ?_) (fun h3402 => ?_)
  · exfalso; exact (by (try simp only [zp, zo, zq] at p_0 w_0 z1 h3402 ⊢) <;> (try simp only [zz, Int32.reduceToInt, ne_eq] at p_0 w_0 z1 h3402 ⊢) <;> (try simp (disch := omega) only [zb] at p_0 w_0 z1 h3402 ⊢) <;> first | omega | ((try simp (disch := omega) only [zb] at p_0 w_0 z1 h3402 ⊢) <;> omega))
  · exact sw_some ⟨c0, f0, (by (try simp only [zp, zo, zq] at p_0 w_0 z1 h3402 ⊢) <;> (try simp only [zz, Int32.reduceToInt, ne_eq] at p_0 w_0 z1 h3402 ⊢) <;> (try simp (disch := omega) only [zb] at p_0 w_0 z1 h3402 ⊢) <;> first | omega | ((try simp (disch := omega) only [zb] at p_0 w_0 z1 h3402 ⊢) <;> omega))⟩
abbrev VX8_takeCode : List Nat := [0, 11, 20, 21]
set_option maxHeartbeats 4000000 in
set_option maxRecDepth 10000 in
theorem vX8_takeCode {T : Nat → Option Nat} {σ0 : mm_M} {p0 : Nat} {p1 : Int32} {p2 : Int32} {p3 : Int32} (c0 : sCI T σ0) (t_p0 : T p0 = some 8) (p_0 : 0 ≤ p1.toInt ∧ p1.toInt ≤ 1) : sw (fX8_takeCode p0 p1 p2 p3 σ0) (fun R => sCI T R.2 ∧ sFR T VX8_takeCode σ0 R.2 ∧ ((((p2 &&& 8).toInt = 0 ∧ R.1.toInt = 2 * p1.toInt) ∨ ((p2 &&& 8).toInt ≠ 0 ∧ R.1.toInt = 2 * p1.toInt + 1)))) := by
  have f0 : sFR T VX8_takeCode σ0 σ0 := fr_refl
  unfold fX8_takeCode
  have a3403 := zi_and p2 8 (by decide)
  refine sw_ite (fun h3404 => ?_) (fun h3404 => ?_)
  · unfold fX8_takeCode_15
    refine sw_sh (ci_sh c0 t_p0 rfl) ?_
    obtain ⟨q3, eq3, tq3⟩ := ci_ref c0 t_p0 1 (κ' := 11) rfl
    refine sw_onS eq3 ?_
    refine sw_ar (ci_sh c0 tq3 rfl) ?_
    refine sw_ib (by (try simp only [zp, zo, zq] at p_0 a3403 h3404 ⊢) <;> (try simp only [zz, Int32.reduceToInt, ne_eq] at p_0 a3403 h3404 ⊢) <;> (try simp (disch := omega) only [zb] at p_0 a3403 h3404 ⊢) <;> first | omega | ((try simp (disch := omega) only [zb] at p_0 a3403 h3404 ⊢) <;> omega)) ?_
    have cs6 := ci_wI c0 tq3 (j := p1.toNatClampNeg) (v := (2 * p1) + (0 : Int32)) (kr_n rfl)
    have fs6 := fr_wI f0 tq3 (j := p1.toNatClampNeg) (v := (2 * p1) + (0 : Int32)) rfl
    refine sw_let (fun s6 es6 => ?_)
    rw [es6] at cs6 fs6
    obtain ⟨q7, eq7, tq7⟩ := ci_ref cs6 t_p0 0 (κ' := 10) rfl
    refine sw_onS eq7 ?_
    refine sw_ar (ci_sh cs6 tq7 rfl) ?_
    refine sw_ib (by (try simp only [zp, zo, zq] at p_0 a3403 h3404 ⊢) <;> (try simp only [zz, Int32.reduceToInt, ne_eq] at p_0 a3403 h3404 ⊢) <;> (try simp (disch := omega) only [zb] at p_0 a3403 h3404 ⊢) <;> first | omega | ((try simp (disch := omega) only [zb] at p_0 a3403 h3404 ⊢) <;> omega)) ?_
    obtain ⟨q10, eq10, tq10⟩ := ci_chan cs6 tq7 (k := ((2 * p1) + (0 : Int32)).toNatClampNeg) (by (try simp only [zp, zo, zq] at p_0 a3403 h3404 ⊢) <;> (try simp only [zz, Int32.reduceToInt, ne_eq] at p_0 a3403 h3404 ⊢) <;> (try simp (disch := omega) only [zb] at p_0 a3403 h3404 ⊢) <;> first | omega | ((try simp (disch := omega) only [zb] at p_0 a3403 h3404 ⊢) <;> omega))
    refine sw_onS eq10 ?_
    refine sw_sh (ci_sh cs6 tq10 rfl) ?_
    refine sw_on (sX0_obey cs6 tq10  ) ?_
    intro q12 hqq12
    obtain ⟨cq12, gq12, xq12⟩ := hqq12
    have fq12 := fr_trans fs6 gq12 rfl
    exact sw_some ⟨cq12, fq12, (by (try simp only [zp, zo, zq] at p_0 a3403 h3404 ⊢) <;> (try simp only [zz, Int32.reduceToInt, ne_eq] at p_0 a3403 h3404 ⊢) <;> (try simp (disch := omega) only [zb] at p_0 a3403 h3404 ⊢) <;> first | omega | ((try simp (disch := omega) only [zb] at p_0 a3403 h3404 ⊢) <;> omega))⟩
  · unfold fX8_takeCode_15
    refine sw_sh (ci_sh c0 t_p0 rfl) ?_
    obtain ⟨q3, eq3, tq3⟩ := ci_ref c0 t_p0 1 (κ' := 11) rfl
    refine sw_onS eq3 ?_
    refine sw_ar (ci_sh c0 tq3 rfl) ?_
    refine sw_ib (by (try simp only [zp, zo, zq] at p_0 a3403 h3404 ⊢) <;> (try simp only [zz, Int32.reduceToInt, ne_eq] at p_0 a3403 h3404 ⊢) <;> (try simp (disch := omega) only [zb] at p_0 a3403 h3404 ⊢) <;> first | omega | ((try simp (disch := omega) only [zb] at p_0 a3403 h3404 ⊢) <;> omega)) ?_
    have cs6 := ci_wI c0 tq3 (j := p1.toNatClampNeg) (v := (2 * p1) + (1 : Int32)) (kr_n rfl)
    have fs6 := fr_wI f0 tq3 (j := p1.toNatClampNeg) (v := (2 * p1) + (1 : Int32)) rfl
    refine sw_let (fun s6 es6 => ?_)
    rw [es6] at cs6 fs6
    obtain ⟨q7, eq7, tq7⟩ := ci_ref cs6 t_p0 0 (κ' := 10) rfl
    refine sw_onS eq7 ?_
    refine sw_ar (ci_sh cs6 tq7 rfl) ?_
    refine sw_ib (by (try simp only [zp, zo, zq] at p_0 a3403 h3404 ⊢) <;> (try simp only [zz, Int32.reduceToInt, ne_eq] at p_0 a3403 h3404 ⊢) <;> (try simp (disch := omega) only [zb] at p_0 a3403 h3404 ⊢) <;> first | omega | ((try simp (disch := omega) only [zb] at p_0 a3403 h3404 ⊢) <;> omega)) ?_
    obtain ⟨q10, eq10, tq10⟩ := ci_chan cs6 tq7 (k := ((2 * p1) + (1 : Int32)).toNatClampNeg) (by (try simp only [zp, zo, zq] at p_0 a3403 h3404 ⊢) <;> (try simp only [zz, Int32.reduceToInt, ne_eq] at p_0 a3403 h3404 ⊢) <;> (try simp (disch := omega) only [zb] at p_0 a3403 h3404 ⊢) <;> first | omega | ((try simp (disch := omega) only [zb] at p_0 a3403 h3404 ⊢) <;> omega))
    refine sw_onS eq10 ?_
    refine sw_sh (ci_sh cs6 tq10 rfl) ?_
    refine sw_on (sX0_obey cs6 tq10  ) ?_
    intro q12 hqq12
    obtain ⟨cq12, gq12, xq12⟩ := hqq12
    have fq12 := fr_trans fs6 gq12 rfl
    exact sw_some ⟨cq12, fq12, (by (try simp only [zp, zo, zq] at p_0 a3403 h3404 ⊢) <;> (try simp only [zz, Int32.reduceToInt, ne_eq] at p_0 a3403 h3404 ⊢) <;> (try simp (disch := omega) only [zb] at p_0 a3403 h3404 ⊢) <;> first | omega | ((try simp (disch := omega) only [zb] at p_0 a3403 h3404 ⊢) <;> omega))⟩
abbrev VX8_pair : List Nat := [0, 11, 12, 20, 21]
set_option maxHeartbeats 4000000 in
set_option maxRecDepth 10000 in
theorem vX8_pair {T : Nat → Option Nat} {σ0 : mm_M} {p0 : Nat} {p1 : Int32} {p2 : Int32} {p3 : Int32} (c0 : sCI T σ0) (hv : sFV T σ0) (t_p0 : T p0 = some 8) : sw (fX8_pair p0 p1 p2 p3 σ0) (fun R => sCI T R.2 ∧ sFR T VX8_pair σ0 R.2 ∧ ((¬ (0 ≤ p1.toInt ∧ p1.toInt ≤ 1) ∧ oi R.1 = -9999999999) ∨ ((0 ≤ p1.toInt ∧ p1.toInt ≤ 1) ∧ ¬ ((fX8_isRight p2).toInt ≠ 0 ∧ 16 ≤ (p2 &&& 127).toInt ∧ (p2 &&& 127).toInt ≤ 31 ∧ (fX8_isRight p3).toInt ≠ 0 ∧ 32 ≤ (p3 &&& 127).toInt) ∧ oi R.1 = -1) ∨ ((0 ≤ p1.toInt ∧ p1.toInt ≤ 1) ∧ ((fX8_isRight p2).toInt ≠ 0 ∧ 16 ≤ (p2 &&& 127).toInt ∧ (p2 &&& 127).toInt ≤ 31 ∧ (fX8_isRight p3).toInt ≠ 0 ∧ 32 ≤ (p3 &&& 127).toInt) ∧ (((p2 &&& 8).toInt = 0 ∧ oi R.1 = 2 * p1.toInt) ∨ ((p2 &&& 8).toInt ≠ 0 ∧ oi R.1 = 2 * p1.toInt + 1))))) := by
  have f0 : sFR T VX8_pair σ0 σ0 := fr_refl
  unfold fX8_pair
  refine sw_ite (fun h3405 => ?_) (fun h3405 => ?_)
  · have a3406 := zi_and p2 255 (by decide)
    have a3407 := zi_and p3 255 (by decide)
    refine sw_ite (fun h3408 => ?_) (fun h3408 => ?_)
    · refine sw_sh (ci_sh c0 t_p0 rfl) ?_
      obtain ⟨q18, eq18, tq18⟩ := ci_ref c0 t_p0 2 (κ' := 12) rfl
      refine sw_onS eq18 ?_
      refine sw_ar (ci_sh c0 tq18 rfl) ?_
      refine sw_ib (by (try simp only [zp, zo, zq] at h3405 a3406 a3407 h3408 ⊢) <;> (try simp only [zz, Int32.reduceToInt, ne_eq] at h3405 a3406 a3407 h3408 ⊢) <;> (try simp (disch := omega) only [zb] at h3405 a3406 a3407 h3408 ⊢) <;> first | omega | ((try simp (disch := omega) only [zb] at h3405 a3406 a3407 h3408 ⊢) <;> omega)) ?_
      have cs21 := ci_wI c0 tq18 (j := p1.toNatClampNeg) (v := -1) (kr_n rfl)
      have fs21 := fr_wI f0 tq18 (j := p1.toNatClampNeg) (v := -1) rfl
      refine sw_let (fun s21 es21 => ?_)
      rw [es21] at cs21 fs21
      refine sw_on (vX8_takeLetters cs21 t_p0 (by (try simp only [zp, zo, zq] at h3405 a3406 a3407 h3408 ⊢) <;> (try simp only [zz, Int32.reduceToInt, ne_eq] at h3405 a3406 a3407 h3408 ⊢) <;> (try simp (disch := omega) only [zb] at h3405 a3406 a3407 h3408 ⊢) <;> first | omega | ((try simp (disch := omega) only [zb] at h3405 a3406 a3407 h3408 ⊢) <;> omega)) (fun q tq => by rw [← es21, rd_k tq tq18 (by decide), show mm_I σ0 q p1.toNatClampNeg = -1 from hv q 11 _ tq (by (try simp only [zp, zo, zq] at h3405 a3406 a3407 h3408 ⊢) <;> (try simp only [zz, Int32.reduceToInt, ne_eq] at h3405 a3406 a3407 h3408 ⊢) <;> (try simp (disch := omega) only [zb] at h3405 a3406 a3407 h3408 ⊢) <;> first | omega | ((try simp (disch := omega) only [zb] at h3405 a3406 a3407 h3408 ⊢) <;> omega))]; rfl)) ?_
      intro q22 hqq22
      obtain ⟨cq22, gq22, xq22⟩ := hqq22
      have fq22 := fr_trans fs21 gq22 rfl
      refine sw_ite (fun h3409 => ?_) (fun h3409 => ?_)
      · have a3410 := zi_and p2 127 (by decide)
        have a3411 := zi_and p3 127 (by decide)
        have a3412 := zi_and p2 8 (by decide)
        exact sw_some ⟨cq22, fq22, (by (try simp only [zp, zo, zq] at h3405 a3406 a3407 h3408 xq22 h3409 a3410 a3411 a3412 ⊢) <;> (try simp only [zz, Int32.reduceToInt, ne_eq] at h3405 a3406 a3407 h3408 xq22 h3409 a3410 a3411 a3412 ⊢) <;> (try simp (disch := omega) only [zb] at h3405 a3406 a3407 h3408 xq22 h3409 a3410 a3411 a3412 ⊢) <;> first | omega | ((try simp (disch := omega) only [zb] at h3405 a3406 a3407 h3408 xq22 h3409 a3410 a3411 a3412 ⊢) <;> omega))⟩
      · have a3413 := zi_and p2 127 (by decide)
        have a3414 := zi_and p3 127 (by decide)
        have a3415 := zi_and p2 8 (by decide)
        exact sw_some ⟨cq22, fq22, (by (try simp only [zp, zo, zq] at h3405 a3406 a3407 h3408 xq22 h3409 a3413 a3414 a3415 ⊢) <;> (try simp only [zz, Int32.reduceToInt, ne_eq] at h3405 a3406 a3407 h3408 xq22 h3409 a3413 a3414 a3415 ⊢) <;> (try simp (disch := omega) only [zb] at h3405 a3406 a3407 h3408 xq22 h3409 a3413 a3414 a3415 ⊢) <;> first | omega | ((try simp (disch := omega) only [zb] at h3405 a3406 a3407 h3408 xq22 h3409 a3413 a3414 a3415 ⊢) <;> omega))⟩
    · refine sw_sh (ci_sh c0 t_p0 rfl) ?_
      obtain ⟨q4, eq4, tq4⟩ := ci_ref c0 t_p0 2 (κ' := 12) rfl
      refine sw_onS eq4 ?_
      refine sw_ar (ci_sh c0 tq4 rfl) ?_
      refine sw_ib (by (try simp only [zp, zo, zq] at h3405 a3406 a3407 h3408 ⊢) <;> (try simp only [zz, Int32.reduceToInt, ne_eq] at h3405 a3406 a3407 h3408 ⊢) <;> (try simp (disch := omega) only [zb] at h3405 a3406 a3407 h3408 ⊢) <;> first | omega | ((try simp (disch := omega) only [zb] at h3405 a3406 a3407 h3408 ⊢) <;> omega)) ?_
      have f3416 : mm_I σ0 q4 p1.toNatClampNeg = -1 := hv q4 12 p1.toNatClampNeg tq4 (by (try simp only [zp, zo, zq] at h3405 a3406 a3407 h3408 ⊢) <;> (try simp only [zz, Int32.reduceToInt, ne_eq] at h3405 a3406 a3407 h3408 ⊢) <;> (try simp (disch := omega) only [zb] at h3405 a3406 a3407 h3408 ⊢) <;> first | omega | ((try simp (disch := omega) only [zb] at h3405 a3406 a3407 h3408 ⊢) <;> omega))
      have a3417 := zi_and (p2 &&& 255) 127 (by decide)
      have a3418 := zi_and (p3 &&& 255) 127 (by decide)
      refine sw_ite (fun h3419 => ?_) (fun h3419 => ?_)
      · refine sw_onS eq4 ?_
        refine sw_ar (ci_sh c0 tq4 rfl) ?_
        refine sw_ib (by (try simp only [zp, zo, zq] at h3405 a3406 a3407 h3408 f3416 a3417 a3418 h3419 ⊢) <;> (try simp only [zz, Int32.reduceToInt, ne_eq] at h3405 a3406 a3407 h3408 f3416 a3417 a3418 h3419 ⊢) <;> (try simp (disch := omega) only [zb] at h3405 a3406 a3407 h3408 f3416 a3417 a3418 h3419 ⊢) <;> first | omega | ((try simp (disch := omega) only [zb] at h3405 a3406 a3407 h3408 f3416 a3417 a3418 h3419 ⊢) <;> omega)) ?_
        have cs16 := ci_wI c0 tq4 (j := p1.toNatClampNeg) (v := -1) (kr_n rfl)
        have fs16 := fr_wI f0 tq4 (j := p1.toNatClampNeg) (v := -1) rfl
        refine sw_let (fun s16 es16 => ?_)
        rw [es16] at cs16 fs16
        have a3420 := zi_and p2 127 (by decide)
        have a3421 := zi_and p3 127 (by decide)
        have a3422 := zi_and p2 8 (by decide)
        exact sw_some ⟨cs16, fs16, (by (try simp only [zp, zo, zq] at h3405 a3406 a3407 h3408 f3416 a3417 a3418 h3419 a3420 a3421 a3422 ⊢) <;> (try simp only [zz, Int32.reduceToInt, ne_eq] at h3405 a3406 a3407 h3408 f3416 a3417 a3418 h3419 a3420 a3421 a3422 ⊢) <;> (try simp (disch := omega) only [zb] at h3405 a3406 a3407 h3408 f3416 a3417 a3418 h3419 a3420 a3421 a3422 ⊢) <;> first | omega | ((try simp (disch := omega) only [zb] at h3405 a3406 a3407 h3408 f3416 a3417 a3418 h3419 a3420 a3421 a3422 ⊢) <;> omega))⟩
      · refine sw_onS eq4 ?_
        refine sw_ar (ci_sh c0 tq4 rfl) ?_
        refine sw_ib (by (try simp only [zp, zo, zq] at h3405 a3406 a3407 h3408 f3416 a3417 a3418 h3419 ⊢) <;> (try simp only [zz, Int32.reduceToInt, ne_eq] at h3405 a3406 a3407 h3408 f3416 a3417 a3418 h3419 ⊢) <;> (try simp (disch := omega) only [zb] at h3405 a3406 a3407 h3408 f3416 a3417 a3418 h3419 ⊢) <;> first | omega | ((try simp (disch := omega) only [zb] at h3405 a3406 a3407 h3408 f3416 a3417 a3418 h3419 ⊢) <;> omega)) ?_
        have cs11 := ci_wI c0 tq4 (j := p1.toNatClampNeg) (v := (((p2 &&& 255) &&& 127) * 128) + ((p3 &&& 255) &&& 127)) (kr_n rfl)
        have fs11 := fr_wI f0 tq4 (j := p1.toNatClampNeg) (v := (((p2 &&& 255) &&& 127) * 128) + ((p3 &&& 255) &&& 127)) rfl
        refine sw_let (fun s11 es11 => ?_)
        rw [es11] at cs11 fs11
        refine sw_on (vX8_takeCode cs11 t_p0 (by (try simp only [zp, zo, zq] at h3405 a3406 a3407 h3408 f3416 a3417 a3418 h3419 ⊢) <;> (try simp only [zz, Int32.reduceToInt, ne_eq] at h3405 a3406 a3407 h3408 f3416 a3417 a3418 h3419 ⊢) <;> (try simp (disch := omega) only [zb] at h3405 a3406 a3407 h3408 f3416 a3417 a3418 h3419 ⊢) <;> first | omega | ((try simp (disch := omega) only [zb] at h3405 a3406 a3407 h3408 f3416 a3417 a3418 h3419 ⊢) <;> omega)) ) ?_
        intro q12 hqq12
        obtain ⟨cq12, gq12, xq12⟩ := hqq12
        have fq12 := fr_trans fs11 gq12 rfl
        have a3423 := zi_and p2 127 (by decide)
        have a3424 := zi_and p3 127 (by decide)
        have a3425 := zi_and p2 8 (by decide)
        exact sw_some ⟨cq12, fq12, (by (try simp only [zp, zo, zq] at h3405 a3406 a3407 h3408 f3416 a3417 a3418 h3419 xq12 a3423 a3424 a3425 ⊢) <;> (try simp only [zz, Int32.reduceToInt, ne_eq] at h3405 a3406 a3407 h3408 f3416 a3417 a3418 h3419 xq12 a3423 a3424 a3425 ⊢) <;> (try simp (disch := omega) only [zb] at h3405 a3406 a3407 h3408 f3416 a3417 a3418 h3419 xq12 a3423 a3424 a3425 ⊢) <;> first | omega | ((try simp (disch := omega) only [zb] at h3405 a3406 a3407 h3408 f3416 a3417 a3418 h3419 xq12 a3423 a3424 a3425 ⊢) <;> omega))⟩
  · have a3426 := zi_and p2 127 (by decide)
    have a3427 := zi_and p3 127 (by decide)
    have a3428 := zi_and p2 8 (by decide)
    exact sw_some ⟨c0, f0, (by (try simp only [zp, zo, zq] at h3405 a3426 a3427 a3428 ⊢) <;> (try simp only [zz, Int32.reduceToInt, ne_eq] at h3405 a3426 a3427 a3428 ⊢) <;> (try simp (disch := omega) only [zb] at h3405 a3426 a3427 a3428 ⊢) <;> first | omega | ((try simp (disch := omega) only [zb] at h3405 a3426 a3427 a3428 ⊢) <;> omega))⟩
abbrev VX9_pair : List Nat := [51, 52, 53, 54, 55, 56, 57, 58, 59, 60, 92, 93, 900]
set_option maxHeartbeats 4000000 in
set_option maxRecDepth 10000 in
theorem vX9_pair {T : Nat → Option Nat} {σ0 : mm_M} {p0 : Nat} {p1 : Int32} {p2 : Int32} {p3 : Int32} (c0 : sCI T σ0) (hv : sFV9 T σ0) (t_p0 : T p0 = some 9) : sw (fX9_pair p0 p1 p2 p3 σ0) (fun R => sCI T R.2 ∧ sFR T VX9_pair σ0 R.2 ∧ ((¬ (0 ≤ p1.toInt ∧ p1.toInt ≤ 1) ∧ (mm_I R.2 p0 0).toInt = 1) ∨ ((0 ≤ p1.toInt ∧ p1.toInt ≤ 1) ∧ (mm_I R.2 p0 0).toInt = 0 ∧ ((¬ ((fX8_isRight p2).toInt ≠ 0 ∧ 16 ≤ (p2 &&& 127).toInt ∧ (p2 &&& 127).toInt ≤ 31 ∧ (fX8_isRight p3).toInt ≠ 0 ∧ 32 ≤ (p3 &&& 127).toInt) ∧ R.1.toInt = -1) ∨ (((fX8_isRight p2).toInt ≠ 0 ∧ 16 ≤ (p2 &&& 127).toInt ∧ (p2 &&& 127).toInt ≤ 31 ∧ (fX8_isRight p3).toInt ≠ 0 ∧ 32 ≤ (p3 &&& 127).toInt) ∧ (((p2 &&& 8).toInt = 0 ∧ R.1.toInt = 2 * p1.toInt) ∨ ((p2 &&& 8).toInt ≠ 0 ∧ R.1.toInt = 2 * p1.toInt + 1))))))) := by
  have f0 : sFR T VX9_pair σ0 σ0 := fr_refl
  unfold fX9_pair
  refine sw_sh (ci_sh c0 t_p0 rfl) ?_
  have u3429 := su_in p1 0 1
  refine sw_on (vX9_goes c0 t_p0 (by (try simp only [zp, zo, zq] at u3429 ⊢) <;> (try simp only [zz, Int32.reduceToInt, ne_eq] at u3429 ⊢) <;> (try simp (disch := omega) only [zb] at u3429 ⊢) <;> first | omega | ((try simp (disch := omega) only [zb] at u3429 ⊢) <;> omega)) ) ?_
  intro q2 hqq2
  obtain ⟨cq2, gq2, xq2⟩ := hqq2
  have fq2 := fr_trans f0 gq2 rfl
  refine sw_ite (fun h3430 => ?_) (fun h3430 => ?_)
  · have a3432 := zi_and p2 127 (by decide)
    have a3433 := zi_and p3 127 (by decide)
    have a3434 := zi_and p2 8 (by decide)
    exact sw_some ⟨cq2, fq2, (by (try simp only [zp, zo, zq] at u3429 xq2 h3430 a3432 a3433 a3434 ⊢) <;> (try simp only [zz, Int32.reduceToInt, ne_eq] at u3429 xq2 h3430 a3432 a3433 a3434 ⊢) <;> (try simp (disch := omega) only [zb] at u3429 xq2 h3430 a3432 a3433 a3434 ⊢) <;> first | omega | ((try simp (disch := omega) only [zb] at u3429 xq2 h3430 a3432 a3433 a3434 ⊢) <;> omega))⟩
  · refine sw_sh (ci_sh cq2 t_p0 rfl) ?_
    obtain ⟨q5, eq5, tq5⟩ := ci_ref cq2 t_p0 10 (κ' := 60) rfl
    refine sw_onS eq5 ?_
    refine sw_ar (ci_sh cq2 tq5 rfl) ?_
    refine sw_ib (by (try simp only [zp, zo, zq] at u3429 xq2 h3430 ⊢) <;> (try simp only [zz, Int32.reduceToInt, ne_eq] at u3429 xq2 h3430 ⊢) <;> (try simp (disch := omega) only [zb] at u3429 xq2 h3430 ⊢) <;> first | omega | ((try simp (disch := omega) only [zb] at u3429 xq2 h3430 ⊢) <;> omega)) ?_
    refine sw_onS eq5 ?_
    refine sw_ar (ci_sh cq2 tq5 rfl) ?_
    refine sw_ib (by (try simp only [zp, zo, zq] at u3429 xq2 h3430 ⊢) <;> (try simp only [zz, Int32.reduceToInt, ne_eq] at u3429 xq2 h3430 ⊢) <;> (try simp (disch := omega) only [zb] at u3429 xq2 h3430 ⊢) <;> first | omega | ((try simp (disch := omega) only [zb] at u3429 xq2 h3430 ⊢) <;> omega)) ?_
    have cs11 := ci_wI cq2 tq5 (j := p1.toNatClampNeg) (v := -1) (kr_n rfl)
    have fs11 := fr_wI fq2 tq5 (j := p1.toNatClampNeg) (v := -1) rfl
    refine sw_let (fun s11 es11 => ?_)
    rw [es11] at cs11 fs11
    refine sw_on (vX9_isOdd cs11   ) ?_
    intro q12 hqq12
    obtain ⟨eq12, xq12⟩ := hqq12
    (try rw [eq12])
    refine sw_ite (fun h3435 => ?_) (fun h3435 => ?_)
    · have w3436 : mm_I s11 p0 0 = mm_I q2.2 p0 0 := by rw [← es11]; exact rd_k t_p0 tq5 (by decide)
      have a3438 := zi_and p2 127 (by decide)
      have a3439 := zi_and p3 127 (by decide)
      have a3440 := zi_and p2 8 (by decide)
      exact sw_some ⟨cs11, fs11, (by (try simp only [zp, zo, zq] at u3429 xq2 h3430 xq12 h3435 w3436 a3438 a3439 a3440 ⊢) <;> (try simp only [zz, Int32.reduceToInt, ne_eq] at u3429 xq2 h3430 xq12 h3435 w3436 a3438 a3439 a3440 ⊢) <;> (try simp (disch := omega) only [zb] at u3429 xq2 h3430 xq12 h3435 w3436 a3438 a3439 a3440 ⊢) <;> first | omega | ((try simp (disch := omega) only [zb] at u3429 xq2 h3430 xq12 h3435 w3436 a3438 a3439 a3440 ⊢) <;> omega))⟩
    · refine sw_on (vX9_isOdd cs11   ) ?_
      intro q14 hqq14
      obtain ⟨eq14, xq14⟩ := hqq14
      (try rw [eq14])
      have a3441 := zi_and p2 127 (by decide)
      have u3442 := su_in (p2 &&& 127) 16 31
      refine sw_ite (fun h3443 => ?_) (fun h3443 => ?_)
      · refine sw_sh (ci_sh cs11 t_p0 rfl) ?_
        obtain ⟨q17, eq17, tq17⟩ := ci_ref cs11 t_p0 9 (κ' := 59) rfl
        refine sw_onS eq17 ?_
        refine sw_ar (ci_sh cs11 tq17 rfl) ?_
        refine sw_ib (by (try simp only [zp, zo, zq] at u3429 xq2 h3430 xq12 h3435 xq14 a3441 u3442 h3443 ⊢) <;> (try simp only [zz, Int32.reduceToInt, ne_eq] at u3429 xq2 h3430 xq12 h3435 xq14 a3441 u3442 h3443 ⊢) <;> (try simp (disch := omega) only [zb] at u3429 xq2 h3430 xq12 h3435 xq14 a3441 u3442 h3443 ⊢) <;> first | omega | ((try simp (disch := omega) only [zb] at u3429 xq2 h3430 xq12 h3435 xq14 a3441 u3442 h3443 ⊢) <;> omega)) ?_
        refine sw_ite (fun h3444 => ?_) (fun h3444 => ?_)
        · unfold fX9_pair_179
          refine sw_ite (fun h3445 => ?_) (fun h3445 => ?_)
          · unfold fX9_pair_198
            refine sw_ite (fun h3446 => ?_) (fun h3446 => ?_)
            · unfold fX9_pair_227
              unfold fX9_pair_228
              have w3447 : mm_I s11 q17 p1.toNatClampNeg = mm_I q2.2 q17 p1.toNatClampNeg := by rw [← es11]; exact rd_k tq17 tq5 (by decide)
              have w3448 := (gq2.2.2 _ _ tq17 p1.toNatClampNeg rfl).1
              have f3449 : mm_I σ0 q17 p1.toNatClampNeg = -1 := hv q17 59 p1.toNatClampNeg tq17 (Or.inr (by decide)) (by (try simp only [zp, zo, zq] at u3429 xq2 h3430 xq12 h3435 xq14 a3441 u3442 h3443 h3444 h3445 h3446 w3447 w3448 ⊢) <;> (try simp only [zz, Int32.reduceToInt, ne_eq] at u3429 xq2 h3430 xq12 h3435 xq14 a3441 u3442 h3443 h3444 h3445 h3446 w3447 w3448 ⊢) <;> (try simp (disch := omega) only [zb] at u3429 xq2 h3430 xq12 h3435 xq14 a3441 u3442 h3443 h3444 h3445 h3446 w3447 w3448 ⊢) <;> first | omega | ((try simp (disch := omega) only [zb] at u3429 xq2 h3430 xq12 h3435 xq14 a3441 u3442 h3443 h3444 h3445 h3446 w3447 w3448 ⊢) <;> omega))
              have r3450 := ci_rg c0 tq17 p1.toNatClampNeg (lo := (-1)) (hi := 3) rfl
              have r3451 := ci_rg cq2 tq17 p1.toNatClampNeg (lo := (-1)) (hi := 3) rfl
              have r3452 := ci_rg cs11 tq17 p1.toNatClampNeg (lo := (-1)) (hi := 3) rfl
              refine sw_ite (fun h3453 => ?_) (fun h3453 => ?_)
              · have w3454 : mm_I s11 p0 0 = mm_I q2.2 p0 0 := by rw [← es11]; exact rd_k t_p0 tq5 (by decide)
                have a3456 := zi_and p3 127 (by decide)
                have a3457 := zi_and p2 8 (by decide)
                exact sw_some ⟨cs11, fs11, (by (try simp only [zp, zo, zq] at u3429 xq2 h3430 xq12 h3435 xq14 a3441 u3442 h3443 h3444 h3445 h3446 w3447 w3448 f3449 r3450 r3451 r3452 h3453 w3454 a3456 a3457 ⊢) <;> (try simp only [zz, Int32.reduceToInt, ne_eq] at u3429 xq2 h3430 xq12 h3435 xq14 a3441 u3442 h3443 h3444 h3445 h3446 w3447 w3448 f3449 r3450 r3451 r3452 h3453 w3454 a3456 a3457 ⊢) <;> (try simp (disch := omega) only [zb] at u3429 xq2 h3430 xq12 h3435 xq14 a3441 u3442 h3443 h3444 h3445 h3446 w3447 w3448 f3449 r3450 r3451 r3452 h3453 w3454 a3456 a3457 ⊢) <;> first | omega | ((try simp (disch := omega) only [zb] at u3429 xq2 h3430 xq12 h3435 xq14 a3441 u3442 h3443 h3444 h3445 h3446 w3447 w3448 f3449 r3450 r3451 r3452 h3453 w3454 a3456 a3457 ⊢) <;> omega))⟩
              · refine sw_ite (fun h3458 => ?_) (fun h3458 => ?_)
                · refine sw_ite (fun h3459 => ?_) (fun h3459 => ?_)
                  · have w3460 : mm_I s11 p0 0 = mm_I q2.2 p0 0 := by rw [← es11]; exact rd_k t_p0 tq5 (by decide)
                    have a3462 := zi_and p3 127 (by decide)
                    have a3463 := zi_and p2 8 (by decide)
                    exact sw_some ⟨cs11, fs11, (by (try simp only [zp, zo, zq] at u3429 xq2 h3430 xq12 h3435 xq14 a3441 u3442 h3443 h3444 h3445 h3446 w3447 w3448 f3449 r3450 r3451 r3452 h3453 h3458 h3459 w3460 a3462 a3463 ⊢) <;> (try simp only [zz, Int32.reduceToInt, ne_eq] at u3429 xq2 h3430 xq12 h3435 xq14 a3441 u3442 h3443 h3444 h3445 h3446 w3447 w3448 f3449 r3450 r3451 r3452 h3453 h3458 h3459 w3460 a3462 a3463 ⊢) <;> (try simp (disch := omega) only [zb] at u3429 xq2 h3430 xq12 h3435 xq14 a3441 u3442 h3443 h3444 h3445 h3446 w3447 w3448 f3449 r3450 r3451 r3452 h3453 h3458 h3459 w3460 a3462 a3463 ⊢) <;> first | omega | ((try simp (disch := omega) only [zb] at u3429 xq2 h3430 xq12 h3435 xq14 a3441 u3442 h3443 h3444 h3445 h3446 w3447 w3448 f3449 r3450 r3451 r3452 h3453 h3458 h3459 w3460 a3462 a3463 ⊢) <;> omega))⟩
                  · unfold fX9_pair_250
                    refine sw_ite (fun h3464 => ?_) (fun h3464 => ?_)
                    · unfold fX9_pair_264
                      refine sw_ite (fun h3465 => ?_) (fun h3465 => ?_)
                      · have w3466 : mm_I s11 p0 0 = mm_I q2.2 p0 0 := by rw [← es11]; exact rd_k t_p0 tq5 (by decide)
                        have a3468 := zi_and p3 127 (by decide)
                        have a3469 := zi_and p2 8 (by decide)
                        exact sw_some ⟨cs11, fs11, (by (try simp only [zp, zo, zq] at u3429 xq2 h3430 xq12 h3435 xq14 a3441 u3442 h3443 h3444 h3445 h3446 w3447 w3448 f3449 r3450 r3451 r3452 h3453 h3458 h3459 h3464 h3465 w3466 a3468 a3469 ⊢) <;> (try simp only [zz, Int32.reduceToInt, ne_eq] at u3429 xq2 h3430 xq12 h3435 xq14 a3441 u3442 h3443 h3444 h3445 h3446 w3447 w3448 f3449 r3450 r3451 r3452 h3453 h3458 h3459 h3464 h3465 w3466 a3468 a3469 ⊢) <;> (try simp (disch := omega) only [zb] at u3429 xq2 h3430 xq12 h3435 xq14 a3441 u3442 h3443 h3444 h3445 h3446 w3447 w3448 f3449 r3450 r3451 r3452 h3453 h3458 h3459 h3464 h3465 w3466 a3468 a3469 ⊢) <;> first | omega | ((try simp (disch := omega) only [zb] at u3429 xq2 h3430 xq12 h3435 xq14 a3441 u3442 h3443 h3444 h3445 h3446 w3447 w3448 f3449 r3450 r3451 r3452 h3453 h3458 h3459 h3464 h3465 w3466 a3468 a3469 ⊢) <;> omega))⟩
                      · refine sw_sh (ci_sh cs11 t_p0 rfl) ?_
                        refine sw_on (sX9_put cs11 t_p0 (by (try simp only [zp, zo, zq] at u3429 xq2 h3430 xq12 h3435 xq14 a3441 u3442 h3443 h3444 h3445 h3446 w3447 w3448 f3449 r3450 r3451 r3452 h3453 h3458 h3459 h3464 h3465 ⊢) <;> (try simp only [zz, Int32.reduceToInt, ne_eq] at u3429 xq2 h3430 xq12 h3435 xq14 a3441 u3442 h3443 h3444 h3445 h3446 w3447 w3448 f3449 r3450 r3451 r3452 h3453 h3458 h3459 h3464 h3465 ⊢) <;> (try simp (disch := omega) only [zb] at u3429 xq2 h3430 xq12 h3435 xq14 a3441 u3442 h3443 h3444 h3445 h3446 w3447 w3448 f3449 r3450 r3451 r3452 h3453 h3458 h3459 h3464 h3465 ⊢) <;> first | omega | ((try simp (disch := omega) only [zb] at u3429 xq2 h3430 xq12 h3435 xq14 a3441 u3442 h3443 h3444 h3445 h3446 w3447 w3448 f3449 r3450 r3451 r3452 h3453 h3458 h3459 h3464 h3465 ⊢) <;> omega)) ) ?_
                        intro q28 hqq28
                        obtain ⟨cq28, gq28, xq28⟩ := hqq28
                        have fq28 := fr_trans fs11 gq28 rfl
                        have w3470 := (gq28.2.2 _ _ t_p0 0 rfl).1
                        have w3471 : mm_I s11 p0 0 = mm_I q2.2 p0 0 := by rw [← es11]; exact rd_k t_p0 tq5 (by decide)
                        have a3473 := zi_and p3 127 (by decide)
                        have a3474 := zi_and p2 8 (by decide)
                        exact sw_some ⟨cq28, fq28, (by (try simp only [zp, zo, zq] at u3429 xq2 h3430 xq12 h3435 xq14 a3441 u3442 h3443 h3444 h3445 h3446 w3447 w3448 f3449 r3450 r3451 r3452 h3453 h3458 h3459 h3464 h3465 w3470 w3471 a3473 a3474 ⊢) <;> (try simp only [zz, Int32.reduceToInt, ne_eq] at u3429 xq2 h3430 xq12 h3435 xq14 a3441 u3442 h3443 h3444 h3445 h3446 w3447 w3448 f3449 r3450 r3451 r3452 h3453 h3458 h3459 h3464 h3465 w3470 w3471 a3473 a3474 ⊢) <;> (try simp (disch := omega) only [zb] at u3429 xq2 h3430 xq12 h3435 xq14 a3441 u3442 h3443 h3444 h3445 h3446 w3447 w3448 f3449 r3450 r3451 r3452 h3453 h3458 h3459 h3464 h3465 w3470 w3471 a3473 a3474 ⊢) <;> first | omega | ((try simp (disch := omega) only [zb] at u3429 xq2 h3430 xq12 h3435 xq14 a3441 u3442 h3443 h3444 h3445 h3446 w3447 w3448 f3449 r3450 r3451 r3452 h3453 h3458 h3459 h3464 h3465 w3470 w3471 a3473 a3474 ⊢) <;> omega))⟩
                    · refine sw_sh (ci_sh cs11 t_p0 rfl) ?_
                      refine sw_on (sX9_put cs11 t_p0 (by (try simp only [zp, zo, zq] at u3429 xq2 h3430 xq12 h3435 xq14 a3441 u3442 h3443 h3444 h3445 h3446 w3447 w3448 f3449 r3450 r3451 r3452 h3453 h3458 h3459 h3464 ⊢) <;> (try simp only [zz, Int32.reduceToInt, ne_eq] at u3429 xq2 h3430 xq12 h3435 xq14 a3441 u3442 h3443 h3444 h3445 h3446 w3447 w3448 f3449 r3450 r3451 r3452 h3453 h3458 h3459 h3464 ⊢) <;> (try simp (disch := omega) only [zb] at u3429 xq2 h3430 xq12 h3435 xq14 a3441 u3442 h3443 h3444 h3445 h3446 w3447 w3448 f3449 r3450 r3451 r3452 h3453 h3458 h3459 h3464 ⊢) <;> first | omega | ((try simp (disch := omega) only [zb] at u3429 xq2 h3430 xq12 h3435 xq14 a3441 u3442 h3443 h3444 h3445 h3446 w3447 w3448 f3449 r3450 r3451 r3452 h3453 h3458 h3459 h3464 ⊢) <;> omega)) ) ?_
                      intro q30 hqq30
                      obtain ⟨cq30, gq30, xq30⟩ := hqq30
                      have fq30 := fr_trans fs11 gq30 rfl
                      unfold fX9_pair_264
                      refine sw_ite (fun h3475 => ?_) (fun h3475 => ?_)
                      · have w3476 := (gq30.2.2 _ _ t_p0 0 rfl).1
                        have w3477 : mm_I s11 p0 0 = mm_I q2.2 p0 0 := by rw [← es11]; exact rd_k t_p0 tq5 (by decide)
                        have a3479 := zi_and p3 127 (by decide)
                        have a3480 := zi_and p2 8 (by decide)
                        exact sw_some ⟨cq30, fq30, (by (try simp only [zp, zo, zq] at u3429 xq2 h3430 xq12 h3435 xq14 a3441 u3442 h3443 h3444 h3445 h3446 w3447 w3448 f3449 r3450 r3451 r3452 h3453 h3458 h3459 h3464 h3475 w3476 w3477 a3479 a3480 ⊢) <;> (try simp only [zz, Int32.reduceToInt, ne_eq] at u3429 xq2 h3430 xq12 h3435 xq14 a3441 u3442 h3443 h3444 h3445 h3446 w3447 w3448 f3449 r3450 r3451 r3452 h3453 h3458 h3459 h3464 h3475 w3476 w3477 a3479 a3480 ⊢) <;> (try simp (disch := omega) only [zb] at u3429 xq2 h3430 xq12 h3435 xq14 a3441 u3442 h3443 h3444 h3445 h3446 w3447 w3448 f3449 r3450 r3451 r3452 h3453 h3458 h3459 h3464 h3475 w3476 w3477 a3479 a3480 ⊢) <;> first | omega | ((try simp (disch := omega) only [zb] at u3429 xq2 h3430 xq12 h3435 xq14 a3441 u3442 h3443 h3444 h3445 h3446 w3447 w3448 f3449 r3450 r3451 r3452 h3453 h3458 h3459 h3464 h3475 w3476 w3477 a3479 a3480 ⊢) <;> omega))⟩
                      · refine sw_sh (ci_sh cq30 t_p0 rfl) ?_
                        refine sw_on (sX9_put cq30 t_p0 (by (try simp only [zp, zo, zq] at u3429 xq2 h3430 xq12 h3435 xq14 a3441 u3442 h3443 h3444 h3445 h3446 w3447 w3448 f3449 r3450 r3451 r3452 h3453 h3458 h3459 h3464 h3475 ⊢) <;> (try simp only [zz, Int32.reduceToInt, ne_eq] at u3429 xq2 h3430 xq12 h3435 xq14 a3441 u3442 h3443 h3444 h3445 h3446 w3447 w3448 f3449 r3450 r3451 r3452 h3453 h3458 h3459 h3464 h3475 ⊢) <;> (try simp (disch := omega) only [zb] at u3429 xq2 h3430 xq12 h3435 xq14 a3441 u3442 h3443 h3444 h3445 h3446 w3447 w3448 f3449 r3450 r3451 r3452 h3453 h3458 h3459 h3464 h3475 ⊢) <;> first | omega | ((try simp (disch := omega) only [zb] at u3429 xq2 h3430 xq12 h3435 xq14 a3441 u3442 h3443 h3444 h3445 h3446 w3447 w3448 f3449 r3450 r3451 r3452 h3453 h3458 h3459 h3464 h3475 ⊢) <;> omega)) ) ?_
                        intro q28 hqq28
                        obtain ⟨cq28, gq28, xq28⟩ := hqq28
                        have fq28 := fr_trans fq30 gq28 rfl
                        have w3481 := (gq28.2.2 _ _ t_p0 0 rfl).1
                        have w3482 := (gq30.2.2 _ _ t_p0 0 rfl).1
                        have w3483 : mm_I s11 p0 0 = mm_I q2.2 p0 0 := by rw [← es11]; exact rd_k t_p0 tq5 (by decide)
                        have a3485 := zi_and p3 127 (by decide)
                        have a3486 := zi_and p2 8 (by decide)
                        exact sw_some ⟨cq28, fq28, (by (try simp only [zp, zo, zq] at u3429 xq2 h3430 xq12 h3435 xq14 a3441 u3442 h3443 h3444 h3445 h3446 w3447 w3448 f3449 r3450 r3451 r3452 h3453 h3458 h3459 h3464 h3475 w3481 w3482 w3483 a3485 a3486 ⊢) <;> (try simp only [zz, Int32.reduceToInt, ne_eq] at u3429 xq2 h3430 xq12 h3435 xq14 a3441 u3442 h3443 h3444 h3445 h3446 w3447 w3448 f3449 r3450 r3451 r3452 h3453 h3458 h3459 h3464 h3475 w3481 w3482 w3483 a3485 a3486 ⊢) <;> (try simp (disch := omega) only [zb] at u3429 xq2 h3430 xq12 h3435 xq14 a3441 u3442 h3443 h3444 h3445 h3446 w3447 w3448 f3449 r3450 r3451 r3452 h3453 h3458 h3459 h3464 h3475 w3481 w3482 w3483 a3485 a3486 ⊢) <;> first | omega | ((try simp (disch := omega) only [zb] at u3429 xq2 h3430 xq12 h3435 xq14 a3441 u3442 h3443 h3444 h3445 h3446 w3447 w3448 f3449 r3450 r3451 r3452 h3453 h3458 h3459 h3464 h3475 w3481 w3482 w3483 a3485 a3486 ⊢) <;> omega))⟩
                · unfold fX9_pair_250
                  refine sw_ite (fun h3487 => ?_) (fun h3487 => ?_)
                  · unfold fX9_pair_264
                    refine sw_ite (fun h3488 => ?_) (fun h3488 => ?_)
                    · have w3489 : mm_I s11 p0 0 = mm_I q2.2 p0 0 := by rw [← es11]; exact rd_k t_p0 tq5 (by decide)
                      have a3491 := zi_and p3 127 (by decide)
                      have a3492 := zi_and p2 8 (by decide)
                      exact sw_some ⟨cs11, fs11, (by (try simp only [zp, zo, zq] at u3429 xq2 h3430 xq12 h3435 xq14 a3441 u3442 h3443 h3444 h3445 h3446 w3447 w3448 f3449 r3450 r3451 r3452 h3453 h3458 h3487 h3488 w3489 a3491 a3492 ⊢) <;> (try simp only [zz, Int32.reduceToInt, ne_eq] at u3429 xq2 h3430 xq12 h3435 xq14 a3441 u3442 h3443 h3444 h3445 h3446 w3447 w3448 f3449 r3450 r3451 r3452 h3453 h3458 h3487 h3488 w3489 a3491 a3492 ⊢) <;> (try simp (disch := omega) only [zb] at u3429 xq2 h3430 xq12 h3435 xq14 a3441 u3442 h3443 h3444 h3445 h3446 w3447 w3448 f3449 r3450 r3451 r3452 h3453 h3458 h3487 h3488 w3489 a3491 a3492 ⊢) <;> first | omega | ((try simp (disch := omega) only [zb] at u3429 xq2 h3430 xq12 h3435 xq14 a3441 u3442 h3443 h3444 h3445 h3446 w3447 w3448 f3449 r3450 r3451 r3452 h3453 h3458 h3487 h3488 w3489 a3491 a3492 ⊢) <;> omega))⟩
                    · refine sw_sh (ci_sh cs11 t_p0 rfl) ?_
                      refine sw_on (sX9_put cs11 t_p0 (by (try simp only [zp, zo, zq] at u3429 xq2 h3430 xq12 h3435 xq14 a3441 u3442 h3443 h3444 h3445 h3446 w3447 w3448 f3449 r3450 r3451 r3452 h3453 h3458 h3487 h3488 ⊢) <;> (try simp only [zz, Int32.reduceToInt, ne_eq] at u3429 xq2 h3430 xq12 h3435 xq14 a3441 u3442 h3443 h3444 h3445 h3446 w3447 w3448 f3449 r3450 r3451 r3452 h3453 h3458 h3487 h3488 ⊢) <;> (try simp (disch := omega) only [zb] at u3429 xq2 h3430 xq12 h3435 xq14 a3441 u3442 h3443 h3444 h3445 h3446 w3447 w3448 f3449 r3450 r3451 r3452 h3453 h3458 h3487 h3488 ⊢) <;> first | omega | ((try simp (disch := omega) only [zb] at u3429 xq2 h3430 xq12 h3435 xq14 a3441 u3442 h3443 h3444 h3445 h3446 w3447 w3448 f3449 r3450 r3451 r3452 h3453 h3458 h3487 h3488 ⊢) <;> omega)) ) ?_
                      intro q28 hqq28
                      obtain ⟨cq28, gq28, xq28⟩ := hqq28
                      have fq28 := fr_trans fs11 gq28 rfl
                      have w3493 := (gq28.2.2 _ _ t_p0 0 rfl).1
                      have w3494 : mm_I s11 p0 0 = mm_I q2.2 p0 0 := by rw [← es11]; exact rd_k t_p0 tq5 (by decide)
                      have a3496 := zi_and p3 127 (by decide)
                      have a3497 := zi_and p2 8 (by decide)
                      exact sw_some ⟨cq28, fq28, (by (try simp only [zp, zo, zq] at u3429 xq2 h3430 xq12 h3435 xq14 a3441 u3442 h3443 h3444 h3445 h3446 w3447 w3448 f3449 r3450 r3451 r3452 h3453 h3458 h3487 h3488 w3493 w3494 a3496 a3497 ⊢) <;> (try simp only [zz, Int32.reduceToInt, ne_eq] at u3429 xq2 h3430 xq12 h3435 xq14 a3441 u3442 h3443 h3444 h3445 h3446 w3447 w3448 f3449 r3450 r3451 r3452 h3453 h3458 h3487 h3488 w3493 w3494 a3496 a3497 ⊢) <;> (try simp (disch := omega) only [zb] at u3429 xq2 h3430 xq12 h3435 xq14 a3441 u3442 h3443 h3444 h3445 h3446 w3447 w3448 f3449 r3450 r3451 r3452 h3453 h3458 h3487 h3488 w3493 w3494 a3496 a3497 ⊢) <;> first | omega | ((try simp (disch := omega) only [zb] at u3429 xq2 h3430 xq12 h3435 xq14 a3441 u3442 h3443 h3444 h3445 h3446 w3447 w3448 f3449 r3450 r3451 r3452 h3453 h3458 h3487 h3488 w3493 w3494 a3496 a3497 ⊢) <;> omega))⟩
                  · refine sw_sh (ci_sh cs11 t_p0 rfl) ?_
                    refine sw_on (sX9_put cs11 t_p0 (by (try simp only [zp, zo, zq] at u3429 xq2 h3430 xq12 h3435 xq14 a3441 u3442 h3443 h3444 h3445 h3446 w3447 w3448 f3449 r3450 r3451 r3452 h3453 h3458 h3487 ⊢) <;> (try simp only [zz, Int32.reduceToInt, ne_eq] at u3429 xq2 h3430 xq12 h3435 xq14 a3441 u3442 h3443 h3444 h3445 h3446 w3447 w3448 f3449 r3450 r3451 r3452 h3453 h3458 h3487 ⊢) <;> (try simp (disch := omega) only [zb] at u3429 xq2 h3430 xq12 h3435 xq14 a3441 u3442 h3443 h3444 h3445 h3446 w3447 w3448 f3449 r3450 r3451 r3452 h3453 h3458 h3487 ⊢) <;> first | omega | ((try simp (disch := omega) only [zb] at u3429 xq2 h3430 xq12 h3435 xq14 a3441 u3442 h3443 h3444 h3445 h3446 w3447 w3448 f3449 r3450 r3451 r3452 h3453 h3458 h3487 ⊢) <;> omega)) ) ?_
                    intro q30 hqq30
                    obtain ⟨cq30, gq30, xq30⟩ := hqq30
                    have fq30 := fr_trans fs11 gq30 rfl
                    unfold fX9_pair_264
                    refine sw_ite (fun h3498 => ?_) (fun h3498 => ?_)
                    · have w3499 := (gq30.2.2 _ _ t_p0 0 rfl).1
                      have w3500 : mm_I s11 p0 0 = mm_I q2.2 p0 0 := by rw [← es11]; exact rd_k t_p0 tq5 (by decide)
                      have a3502 := zi_and p3 127 (by decide)
                      have a3503 := zi_and p2 8 (by decide)
                      exact sw_some ⟨cq30, fq30, (by (try simp only [zp, zo, zq] at u3429 xq2 h3430 xq12 h3435 xq14 a3441 u3442 h3443 h3444 h3445 h3446 w3447 w3448 f3449 r3450 r3451 r3452 h3453 h3458 h3487 h3498 w3499 w3500 a3502 a3503 ⊢) <;> (try simp only [zz, Int32.reduceToInt, ne_eq] at u3429 xq2 h3430 xq12 h3435 xq14 a3441 u3442 h3443 h3444 h3445 h3446 w3447 w3448 f3449 r3450 r3451 r3452 h3453 h3458 h3487 h3498 w3499 w3500 a3502 a3503 ⊢) <;> (try simp (disch := omega) only [zb] at u3429 xq2 h3430 xq12 h3435 xq14 a3441 u3442 h3443 h3444 h3445 h3446 w3447 w3448 f3449 r3450 r3451 r3452 h3453 h3458 h3487 h3498 w3499 w3500 a3502 a3503 ⊢) <;> first | omega | ((try simp (disch := omega) only [zb] at u3429 xq2 h3430 xq12 h3435 xq14 a3441 u3442 h3443 h3444 h3445 h3446 w3447 w3448 f3449 r3450 r3451 r3452 h3453 h3458 h3487 h3498 w3499 w3500 a3502 a3503 ⊢) <;> omega))⟩
                    · refine sw_sh (ci_sh cq30 t_p0 rfl) ?_
                      refine sw_on (sX9_put cq30 t_p0 (by (try simp only [zp, zo, zq] at u3429 xq2 h3430 xq12 h3435 xq14 a3441 u3442 h3443 h3444 h3445 h3446 w3447 w3448 f3449 r3450 r3451 r3452 h3453 h3458 h3487 h3498 ⊢) <;> (try simp only [zz, Int32.reduceToInt, ne_eq] at u3429 xq2 h3430 xq12 h3435 xq14 a3441 u3442 h3443 h3444 h3445 h3446 w3447 w3448 f3449 r3450 r3451 r3452 h3453 h3458 h3487 h3498 ⊢) <;> (try simp (disch := omega) only [zb] at u3429 xq2 h3430 xq12 h3435 xq14 a3441 u3442 h3443 h3444 h3445 h3446 w3447 w3448 f3449 r3450 r3451 r3452 h3453 h3458 h3487 h3498 ⊢) <;> first | omega | ((try simp (disch := omega) only [zb] at u3429 xq2 h3430 xq12 h3435 xq14 a3441 u3442 h3443 h3444 h3445 h3446 w3447 w3448 f3449 r3450 r3451 r3452 h3453 h3458 h3487 h3498 ⊢) <;> omega)) ) ?_
                      intro q28 hqq28
                      obtain ⟨cq28, gq28, xq28⟩ := hqq28
                      have fq28 := fr_trans fq30 gq28 rfl
                      have w3504 := (gq28.2.2 _ _ t_p0 0 rfl).1
                      have w3505 := (gq30.2.2 _ _ t_p0 0 rfl).1
                      have w3506 : mm_I s11 p0 0 = mm_I q2.2 p0 0 := by rw [← es11]; exact rd_k t_p0 tq5 (by decide)
                      have a3508 := zi_and p3 127 (by decide)
                      have a3509 := zi_and p2 8 (by decide)
                      exact sw_some ⟨cq28, fq28, (by (try simp only [zp, zo, zq] at u3429 xq2 h3430 xq12 h3435 xq14 a3441 u3442 h3443 h3444 h3445 h3446 w3447 w3448 f3449 r3450 r3451 r3452 h3453 h3458 h3487 h3498 w3504 w3505 w3506 a3508 a3509 ⊢) <;> (try simp only [zz, Int32.reduceToInt, ne_eq] at u3429 xq2 h3430 xq12 h3435 xq14 a3441 u3442 h3443 h3444 h3445 h3446 w3447 w3448 f3449 r3450 r3451 r3452 h3453 h3458 h3487 h3498 w3504 w3505 w3506 a3508 a3509 ⊢) <;> (try simp (disch := omega) only [zb] at u3429 xq2 h3430 xq12 h3435 xq14 a3441 u3442 h3443 h3444 h3445 h3446 w3447 w3448 f3449 r3450 r3451 r3452 h3453 h3458 h3487 h3498 w3504 w3505 w3506 a3508 a3509 ⊢) <;> first | omega | ((try simp (disch := omega) only [zb] at u3429 xq2 h3430 xq12 h3435 xq14 a3441 u3442 h3443 h3444 h3445 h3446 w3447 w3448 f3449 r3450 r3451 r3452 h3453 h3458 h3487 h3498 w3504 w3505 w3506 a3508 a3509 ⊢) <;> omega))⟩
            · have a3510 := zi_and p3 127 (by decide)
              refine sw_ite (fun h3511 => ?_) (fun h3511 => ?_)
              · unfold fX9_pair_227
                unfold fX9_pair_228
                have w3512 : mm_I s11 q17 p1.toNatClampNeg = mm_I q2.2 q17 p1.toNatClampNeg := by rw [← es11]; exact rd_k tq17 tq5 (by decide)
                have w3513 := (gq2.2.2 _ _ tq17 p1.toNatClampNeg rfl).1
                have f3514 : mm_I σ0 q17 p1.toNatClampNeg = -1 := hv q17 59 p1.toNatClampNeg tq17 (Or.inr (by decide)) (by (try simp only [zp, zo, zq] at u3429 xq2 h3430 xq12 h3435 xq14 a3441 u3442 h3443 h3444 h3445 h3446 a3510 h3511 w3512 w3513 ⊢) <;> (try simp only [zz, Int32.reduceToInt, ne_eq] at u3429 xq2 h3430 xq12 h3435 xq14 a3441 u3442 h3443 h3444 h3445 h3446 a3510 h3511 w3512 w3513 ⊢) <;> (try simp (disch := omega) only [zb] at u3429 xq2 h3430 xq12 h3435 xq14 a3441 u3442 h3443 h3444 h3445 h3446 a3510 h3511 w3512 w3513 ⊢) <;> first | omega | ((try simp (disch := omega) only [zb] at u3429 xq2 h3430 xq12 h3435 xq14 a3441 u3442 h3443 h3444 h3445 h3446 a3510 h3511 w3512 w3513 ⊢) <;> omega))
                have r3515 := ci_rg c0 tq17 p1.toNatClampNeg (lo := (-1)) (hi := 3) rfl
                have r3516 := ci_rg cq2 tq17 p1.toNatClampNeg (lo := (-1)) (hi := 3) rfl
                have r3517 := ci_rg cs11 tq17 p1.toNatClampNeg (lo := (-1)) (hi := 3) rfl
                refine sw_ite (fun h3518 => ?_) (fun h3518 => ?_)
                · have w3519 : mm_I s11 p0 0 = mm_I q2.2 p0 0 := by rw [← es11]; exact rd_k t_p0 tq5 (by decide)
                  have a3521 := zi_and p2 8 (by decide)
                  exact sw_some ⟨cs11, fs11, (by (try simp only [zp, zo, zq] at u3429 xq2 h3430 xq12 h3435 xq14 a3441 u3442 h3443 h3444 h3445 h3446 a3510 h3511 w3512 w3513 f3514 r3515 r3516 r3517 h3518 w3519 a3521 ⊢) <;> (try simp only [zz, Int32.reduceToInt, ne_eq] at u3429 xq2 h3430 xq12 h3435 xq14 a3441 u3442 h3443 h3444 h3445 h3446 a3510 h3511 w3512 w3513 f3514 r3515 r3516 r3517 h3518 w3519 a3521 ⊢) <;> (try simp (disch := omega) only [zb] at u3429 xq2 h3430 xq12 h3435 xq14 a3441 u3442 h3443 h3444 h3445 h3446 a3510 h3511 w3512 w3513 f3514 r3515 r3516 r3517 h3518 w3519 a3521 ⊢) <;> first | omega | ((try simp (disch := omega) only [zb] at u3429 xq2 h3430 xq12 h3435 xq14 a3441 u3442 h3443 h3444 h3445 h3446 a3510 h3511 w3512 w3513 f3514 r3515 r3516 r3517 h3518 w3519 a3521 ⊢) <;> omega))⟩
                · refine sw_ite (fun h3522 => ?_) (fun h3522 => ?_)
                  · refine sw_ite (fun h3523 => ?_) (fun h3523 => ?_)
                    · have w3524 : mm_I s11 p0 0 = mm_I q2.2 p0 0 := by rw [← es11]; exact rd_k t_p0 tq5 (by decide)
                      have a3526 := zi_and p2 8 (by decide)
                      exact sw_some ⟨cs11, fs11, (by (try simp only [zp, zo, zq] at u3429 xq2 h3430 xq12 h3435 xq14 a3441 u3442 h3443 h3444 h3445 h3446 a3510 h3511 w3512 w3513 f3514 r3515 r3516 r3517 h3518 h3522 h3523 w3524 a3526 ⊢) <;> (try simp only [zz, Int32.reduceToInt, ne_eq] at u3429 xq2 h3430 xq12 h3435 xq14 a3441 u3442 h3443 h3444 h3445 h3446 a3510 h3511 w3512 w3513 f3514 r3515 r3516 r3517 h3518 h3522 h3523 w3524 a3526 ⊢) <;> (try simp (disch := omega) only [zb] at u3429 xq2 h3430 xq12 h3435 xq14 a3441 u3442 h3443 h3444 h3445 h3446 a3510 h3511 w3512 w3513 f3514 r3515 r3516 r3517 h3518 h3522 h3523 w3524 a3526 ⊢) <;> first | omega | ((try simp (disch := omega) only [zb] at u3429 xq2 h3430 xq12 h3435 xq14 a3441 u3442 h3443 h3444 h3445 h3446 a3510 h3511 w3512 w3513 f3514 r3515 r3516 r3517 h3518 h3522 h3523 w3524 a3526 ⊢) <;> omega))⟩
                    · unfold fX9_pair_250
                      refine sw_ite (fun h3527 => ?_) (fun h3527 => ?_)
                      · unfold fX9_pair_264
                        refine sw_ite (fun h3528 => ?_) (fun h3528 => ?_)
                        · have w3529 : mm_I s11 p0 0 = mm_I q2.2 p0 0 := by rw [← es11]; exact rd_k t_p0 tq5 (by decide)
                          have a3531 := zi_and p2 8 (by decide)
                          exact sw_some ⟨cs11, fs11, (by (try simp only [zp, zo, zq] at u3429 xq2 h3430 xq12 h3435 xq14 a3441 u3442 h3443 h3444 h3445 h3446 a3510 h3511 w3512 w3513 f3514 r3515 r3516 r3517 h3518 h3522 h3523 h3527 h3528 w3529 a3531 ⊢) <;> (try simp only [zz, Int32.reduceToInt, ne_eq] at u3429 xq2 h3430 xq12 h3435 xq14 a3441 u3442 h3443 h3444 h3445 h3446 a3510 h3511 w3512 w3513 f3514 r3515 r3516 r3517 h3518 h3522 h3523 h3527 h3528 w3529 a3531 ⊢) <;> (try simp (disch := omega) only [zb] at u3429 xq2 h3430 xq12 h3435 xq14 a3441 u3442 h3443 h3444 h3445 h3446 a3510 h3511 w3512 w3513 f3514 r3515 r3516 r3517 h3518 h3522 h3523 h3527 h3528 w3529 a3531 ⊢) <;> first | omega | ((try simp (disch := omega) only [zb] at u3429 xq2 h3430 xq12 h3435 xq14 a3441 u3442 h3443 h3444 h3445 h3446 a3510 h3511 w3512 w3513 f3514 r3515 r3516 r3517 h3518 h3522 h3523 h3527 h3528 w3529 a3531 ⊢) <;> omega))⟩
                        · refine sw_sh (ci_sh cs11 t_p0 rfl) ?_
                          refine sw_on (sX9_put cs11 t_p0 (by (try simp only [zp, zo, zq] at u3429 xq2 h3430 xq12 h3435 xq14 a3441 u3442 h3443 h3444 h3445 h3446 a3510 h3511 w3512 w3513 f3514 r3515 r3516 r3517 h3518 h3522 h3523 h3527 h3528 ⊢) <;> (try simp only [zz, Int32.reduceToInt, ne_eq] at u3429 xq2 h3430 xq12 h3435 xq14 a3441 u3442 h3443 h3444 h3445 h3446 a3510 h3511 w3512 w3513 f3514 r3515 r3516 r3517 h3518 h3522 h3523 h3527 h3528 ⊢) <;> (try simp (disch := omega) only [zb] at u3429 xq2 h3430 xq12 h3435 xq14 a3441 u3442 h3443 h3444 h3445 h3446 a3510 h3511 w3512 w3513 f3514 r3515 r3516 r3517 h3518 h3522 h3523 h3527 h3528 ⊢) <;> first | omega | ((try simp (disch := omega) only [zb] at u3429 xq2 h3430 xq12 h3435 xq14 a3441 u3442 h3443 h3444 h3445 h3446 a3510 h3511 w3512 w3513 f3514 r3515 r3516 r3517 h3518 h3522 h3523 h3527 h3528 ⊢) <;> omega)) ) ?_
                          intro q28 hqq28
                          obtain ⟨cq28, gq28, xq28⟩ := hqq28
                          have fq28 := fr_trans fs11 gq28 rfl
                          have w3532 := (gq28.2.2 _ _ t_p0 0 rfl).1
                          have w3533 : mm_I s11 p0 0 = mm_I q2.2 p0 0 := by rw [← es11]; exact rd_k t_p0 tq5 (by decide)
                          have a3535 := zi_and p2 8 (by decide)
                          exact sw_some ⟨cq28, fq28, (by (try simp only [zp, zo, zq] at u3429 xq2 h3430 xq12 h3435 xq14 a3441 u3442 h3443 h3444 h3445 h3446 a3510 h3511 w3512 w3513 f3514 r3515 r3516 r3517 h3518 h3522 h3523 h3527 h3528 w3532 w3533 a3535 ⊢) <;> (try simp only [zz, Int32.reduceToInt, ne_eq] at u3429 xq2 h3430 xq12 h3435 xq14 a3441 u3442 h3443 h3444 h3445 h3446 a3510 h3511 w3512 w3513 f3514 r3515 r3516 r3517 h3518 h3522 h3523 h3527 h3528 w3532 w3533 a3535 ⊢) <;> (try simp (disch := omega) only [zb] at u3429 xq2 h3430 xq12 h3435 xq14 a3441 u3442 h3443 h3444 h3445 h3446 a3510 h3511 w3512 w3513 f3514 r3515 r3516 r3517 h3518 h3522 h3523 h3527 h3528 w3532 w3533 a3535 ⊢) <;> first | omega | ((try simp (disch := omega) only [zb] at u3429 xq2 h3430 xq12 h3435 xq14 a3441 u3442 h3443 h3444 h3445 h3446 a3510 h3511 w3512 w3513 f3514 r3515 r3516 r3517 h3518 h3522 h3523 h3527 h3528 w3532 w3533 a3535 ⊢) <;> omega))⟩
                      · refine sw_sh (ci_sh cs11 t_p0 rfl) ?_
                        refine sw_on (sX9_put cs11 t_p0 (by (try simp only [zp, zo, zq] at u3429 xq2 h3430 xq12 h3435 xq14 a3441 u3442 h3443 h3444 h3445 h3446 a3510 h3511 w3512 w3513 f3514 r3515 r3516 r3517 h3518 h3522 h3523 h3527 ⊢) <;> (try simp only [zz, Int32.reduceToInt, ne_eq] at u3429 xq2 h3430 xq12 h3435 xq14 a3441 u3442 h3443 h3444 h3445 h3446 a3510 h3511 w3512 w3513 f3514 r3515 r3516 r3517 h3518 h3522 h3523 h3527 ⊢) <;> (try simp (disch := omega) only [zb] at u3429 xq2 h3430 xq12 h3435 xq14 a3441 u3442 h3443 h3444 h3445 h3446 a3510 h3511 w3512 w3513 f3514 r3515 r3516 r3517 h3518 h3522 h3523 h3527 ⊢) <;> first | omega | ((try simp (disch := omega) only [zb] at u3429 xq2 h3430 xq12 h3435 xq14 a3441 u3442 h3443 h3444 h3445 h3446 a3510 h3511 w3512 w3513 f3514 r3515 r3516 r3517 h3518 h3522 h3523 h3527 ⊢) <;> omega)) ) ?_
                        intro q30 hqq30
                        obtain ⟨cq30, gq30, xq30⟩ := hqq30
                        have fq30 := fr_trans fs11 gq30 rfl
                        unfold fX9_pair_264
                        refine sw_ite (fun h3536 => ?_) (fun h3536 => ?_)
                        · have w3537 := (gq30.2.2 _ _ t_p0 0 rfl).1
                          have w3538 : mm_I s11 p0 0 = mm_I q2.2 p0 0 := by rw [← es11]; exact rd_k t_p0 tq5 (by decide)
                          have a3540 := zi_and p2 8 (by decide)
                          exact sw_some ⟨cq30, fq30, (by (try simp only [zp, zo, zq] at u3429 xq2 h3430 xq12 h3435 xq14 a3441 u3442 h3443 h3444 h3445 h3446 a3510 h3511 w3512 w3513 f3514 r3515 r3516 r3517 h3518 h3522 h3523 h3527 h3536 w3537 w3538 a3540 ⊢) <;> (try simp only [zz, Int32.reduceToInt, ne_eq] at u3429 xq2 h3430 xq12 h3435 xq14 a3441 u3442 h3443 h3444 h3445 h3446 a3510 h3511 w3512 w3513 f3514 r3515 r3516 r3517 h3518 h3522 h3523 h3527 h3536 w3537 w3538 a3540 ⊢) <;> (try simp (disch := omega) only [zb] at u3429 xq2 h3430 xq12 h3435 xq14 a3441 u3442 h3443 h3444 h3445 h3446 a3510 h3511 w3512 w3513 f3514 r3515 r3516 r3517 h3518 h3522 h3523 h3527 h3536 w3537 w3538 a3540 ⊢) <;> first | omega | ((try simp (disch := omega) only [zb] at u3429 xq2 h3430 xq12 h3435 xq14 a3441 u3442 h3443 h3444 h3445 h3446 a3510 h3511 w3512 w3513 f3514 r3515 r3516 r3517 h3518 h3522 h3523 h3527 h3536 w3537 w3538 a3540 ⊢) <;> omega))⟩
                        · refine sw_sh (ci_sh cq30 t_p0 rfl) ?_
                          refine sw_on (sX9_put cq30 t_p0 (by (try simp only [zp, zo, zq] at u3429 xq2 h3430 xq12 h3435 xq14 a3441 u3442 h3443 h3444 h3445 h3446 a3510 h3511 w3512 w3513 f3514 r3515 r3516 r3517 h3518 h3522 h3523 h3527 h3536 ⊢) <;> (try simp only [zz, Int32.reduceToInt, ne_eq] at u3429 xq2 h3430 xq12 h3435 xq14 a3441 u3442 h3443 h3444 h3445 h3446 a3510 h3511 w3512 w3513 f3514 r3515 r3516 r3517 h3518 h3522 h3523 h3527 h3536 ⊢) <;> (try simp (disch := omega) only [zb] at u3429 xq2 h3430 xq12 h3435 xq14 a3441 u3442 h3443 h3444 h3445 h3446 a3510 h3511 w3512 w3513 f3514 r3515 r3516 r3517 h3518 h3522 h3523 h3527 h3536 ⊢) <;> first | omega | ((try simp (disch := omega) only [zb] at u3429 xq2 h3430 xq12 h3435 xq14 a3441 u3442 h3443 h3444 h3445 h3446 a3510 h3511 w3512 w3513 f3514 r3515 r3516 r3517 h3518 h3522 h3523 h3527 h3536 ⊢) <;> omega)) ) ?_
                          intro q28 hqq28
                          obtain ⟨cq28, gq28, xq28⟩ := hqq28
                          have fq28 := fr_trans fq30 gq28 rfl
                          have w3541 := (gq28.2.2 _ _ t_p0 0 rfl).1
                          have w3542 := (gq30.2.2 _ _ t_p0 0 rfl).1
                          have w3543 : mm_I s11 p0 0 = mm_I q2.2 p0 0 := by rw [← es11]; exact rd_k t_p0 tq5 (by decide)
                          have a3545 := zi_and p2 8 (by decide)
                          exact sw_some ⟨cq28, fq28, (by (try simp only [zp, zo, zq] at u3429 xq2 h3430 xq12 h3435 xq14 a3441 u3442 h3443 h3444 h3445 h3446 a3510 h3511 w3512 w3513 f3514 r3515 r3516 r3517 h3518 h3522 h3523 h3527 h3536 w3541 w3542 w3543 a3545 ⊢) <;> (try simp only [zz, Int32.reduceToInt, ne_eq] at u3429 xq2 h3430 xq12 h3435 xq14 a3441 u3442 h3443 h3444 h3445 h3446 a3510 h3511 w3512 w3513 f3514 r3515 r3516 r3517 h3518 h3522 h3523 h3527 h3536 w3541 w3542 w3543 a3545 ⊢) <;> (try simp (disch := omega) only [zb] at u3429 xq2 h3430 xq12 h3435 xq14 a3441 u3442 h3443 h3444 h3445 h3446 a3510 h3511 w3512 w3513 f3514 r3515 r3516 r3517 h3518 h3522 h3523 h3527 h3536 w3541 w3542 w3543 a3545 ⊢) <;> first | omega | ((try simp (disch := omega) only [zb] at u3429 xq2 h3430 xq12 h3435 xq14 a3441 u3442 h3443 h3444 h3445 h3446 a3510 h3511 w3512 w3513 f3514 r3515 r3516 r3517 h3518 h3522 h3523 h3527 h3536 w3541 w3542 w3543 a3545 ⊢) <;> omega))⟩
                  · unfold fX9_pair_250
                    refine sw_ite (fun h3546 => ?_) (fun h3546 => ?_)
                    · unfold fX9_pair_264
                      refine sw_ite (fun h3547 => ?_) (fun h3547 => ?_)
                      · have w3548 : mm_I s11 p0 0 = mm_I q2.2 p0 0 := by rw [← es11]; exact rd_k t_p0 tq5 (by decide)
                        have a3550 := zi_and p2 8 (by decide)
                        exact sw_some ⟨cs11, fs11, (by (try simp only [zp, zo, zq] at u3429 xq2 h3430 xq12 h3435 xq14 a3441 u3442 h3443 h3444 h3445 h3446 a3510 h3511 w3512 w3513 f3514 r3515 r3516 r3517 h3518 h3522 h3546 h3547 w3548 a3550 ⊢) <;> (try simp only [zz, Int32.reduceToInt, ne_eq] at u3429 xq2 h3430 xq12 h3435 xq14 a3441 u3442 h3443 h3444 h3445 h3446 a3510 h3511 w3512 w3513 f3514 r3515 r3516 r3517 h3518 h3522 h3546 h3547 w3548 a3550 ⊢) <;> (try simp (disch := omega) only [zb] at u3429 xq2 h3430 xq12 h3435 xq14 a3441 u3442 h3443 h3444 h3445 h3446 a3510 h3511 w3512 w3513 f3514 r3515 r3516 r3517 h3518 h3522 h3546 h3547 w3548 a3550 ⊢) <;> first | omega | ((try simp (disch := omega) only [zb] at u3429 xq2 h3430 xq12 h3435 xq14 a3441 u3442 h3443 h3444 h3445 h3446 a3510 h3511 w3512 w3513 f3514 r3515 r3516 r3517 h3518 h3522 h3546 h3547 w3548 a3550 ⊢) <;> omega))⟩
                      · refine sw_sh (ci_sh cs11 t_p0 rfl) ?_
                        refine sw_on (sX9_put cs11 t_p0 (by (try simp only [zp, zo, zq] at u3429 xq2 h3430 xq12 h3435 xq14 a3441 u3442 h3443 h3444 h3445 h3446 a3510 h3511 w3512 w3513 f3514 r3515 r3516 r3517 h3518 h3522 h3546 h3547 ⊢) <;> (try simp only [zz, Int32.reduceToInt, ne_eq] at u3429 xq2 h3430 xq12 h3435 xq14 a3441 u3442 h3443 h3444 h3445 h3446 a3510 h3511 w3512 w3513 f3514 r3515 r3516 r3517 h3518 h3522 h3546 h3547 ⊢) <;> (try simp (disch := omega) only [zb] at u3429 xq2 h3430 xq12 h3435 xq14 a3441 u3442 h3443 h3444 h3445 h3446 a3510 h3511 w3512 w3513 f3514 r3515 r3516 r3517 h3518 h3522 h3546 h3547 ⊢) <;> first | omega | ((try simp (disch := omega) only [zb] at u3429 xq2 h3430 xq12 h3435 xq14 a3441 u3442 h3443 h3444 h3445 h3446 a3510 h3511 w3512 w3513 f3514 r3515 r3516 r3517 h3518 h3522 h3546 h3547 ⊢) <;> omega)) ) ?_
                        intro q28 hqq28
                        obtain ⟨cq28, gq28, xq28⟩ := hqq28
                        have fq28 := fr_trans fs11 gq28 rfl
                        have w3551 := (gq28.2.2 _ _ t_p0 0 rfl).1
                        have w3552 : mm_I s11 p0 0 = mm_I q2.2 p0 0 := by rw [← es11]; exact rd_k t_p0 tq5 (by decide)
                        have a3554 := zi_and p2 8 (by decide)
                        exact sw_some ⟨cq28, fq28, (by (try simp only [zp, zo, zq] at u3429 xq2 h3430 xq12 h3435 xq14 a3441 u3442 h3443 h3444 h3445 h3446 a3510 h3511 w3512 w3513 f3514 r3515 r3516 r3517 h3518 h3522 h3546 h3547 w3551 w3552 a3554 ⊢) <;> (try simp only [zz, Int32.reduceToInt, ne_eq] at u3429 xq2 h3430 xq12 h3435 xq14 a3441 u3442 h3443 h3444 h3445 h3446 a3510 h3511 w3512 w3513 f3514 r3515 r3516 r3517 h3518 h3522 h3546 h3547 w3551 w3552 a3554 ⊢) <;> (try simp (disch := omega) only [zb] at u3429 xq2 h3430 xq12 h3435 xq14 a3441 u3442 h3443 h3444 h3445 h3446 a3510 h3511 w3512 w3513 f3514 r3515 r3516 r3517 h3518 h3522 h3546 h3547 w3551 w3552 a3554 ⊢) <;> first | omega | ((try simp (disch := omega) only [zb] at u3429 xq2 h3430 xq12 h3435 xq14 a3441 u3442 h3443 h3444 h3445 h3446 a3510 h3511 w3512 w3513 f3514 r3515 r3516 r3517 h3518 h3522 h3546 h3547 w3551 w3552 a3554 ⊢) <;> omega))⟩
                    · refine sw_sh (ci_sh cs11 t_p0 rfl) ?_
                      refine sw_on (sX9_put cs11 t_p0 (by (try simp only [zp, zo, zq] at u3429 xq2 h3430 xq12 h3435 xq14 a3441 u3442 h3443 h3444 h3445 h3446 a3510 h3511 w3512 w3513 f3514 r3515 r3516 r3517 h3518 h3522 h3546 ⊢) <;> (try simp only [zz, Int32.reduceToInt, ne_eq] at u3429 xq2 h3430 xq12 h3435 xq14 a3441 u3442 h3443 h3444 h3445 h3446 a3510 h3511 w3512 w3513 f3514 r3515 r3516 r3517 h3518 h3522 h3546 ⊢) <;> (try simp (disch := omega) only [zb] at u3429 xq2 h3430 xq12 h3435 xq14 a3441 u3442 h3443 h3444 h3445 h3446 a3510 h3511 w3512 w3513 f3514 r3515 r3516 r3517 h3518 h3522 h3546 ⊢) <;> first | omega | ((try simp (disch := omega) only [zb] at u3429 xq2 h3430 xq12 h3435 xq14 a3441 u3442 h3443 h3444 h3445 h3446 a3510 h3511 w3512 w3513 f3514 r3515 r3516 r3517 h3518 h3522 h3546 ⊢) <;> omega)) ) ?_
                      intro q30 hqq30
                      obtain ⟨cq30, gq30, xq30⟩ := hqq30
                      have fq30 := fr_trans fs11 gq30 rfl
                      unfold fX9_pair_264
                      refine sw_ite (fun h3555 => ?_) (fun h3555 => ?_)
                      · have w3556 := (gq30.2.2 _ _ t_p0 0 rfl).1
                        have w3557 : mm_I s11 p0 0 = mm_I q2.2 p0 0 := by rw [← es11]; exact rd_k t_p0 tq5 (by decide)
                        have a3559 := zi_and p2 8 (by decide)
                        exact sw_some ⟨cq30, fq30, (by (try simp only [zp, zo, zq] at u3429 xq2 h3430 xq12 h3435 xq14 a3441 u3442 h3443 h3444 h3445 h3446 a3510 h3511 w3512 w3513 f3514 r3515 r3516 r3517 h3518 h3522 h3546 h3555 w3556 w3557 a3559 ⊢) <;> (try simp only [zz, Int32.reduceToInt, ne_eq] at u3429 xq2 h3430 xq12 h3435 xq14 a3441 u3442 h3443 h3444 h3445 h3446 a3510 h3511 w3512 w3513 f3514 r3515 r3516 r3517 h3518 h3522 h3546 h3555 w3556 w3557 a3559 ⊢) <;> (try simp (disch := omega) only [zb] at u3429 xq2 h3430 xq12 h3435 xq14 a3441 u3442 h3443 h3444 h3445 h3446 a3510 h3511 w3512 w3513 f3514 r3515 r3516 r3517 h3518 h3522 h3546 h3555 w3556 w3557 a3559 ⊢) <;> first | omega | ((try simp (disch := omega) only [zb] at u3429 xq2 h3430 xq12 h3435 xq14 a3441 u3442 h3443 h3444 h3445 h3446 a3510 h3511 w3512 w3513 f3514 r3515 r3516 r3517 h3518 h3522 h3546 h3555 w3556 w3557 a3559 ⊢) <;> omega))⟩
                      · refine sw_sh (ci_sh cq30 t_p0 rfl) ?_
                        refine sw_on (sX9_put cq30 t_p0 (by (try simp only [zp, zo, zq] at u3429 xq2 h3430 xq12 h3435 xq14 a3441 u3442 h3443 h3444 h3445 h3446 a3510 h3511 w3512 w3513 f3514 r3515 r3516 r3517 h3518 h3522 h3546 h3555 ⊢) <;> (try simp only [zz, Int32.reduceToInt, ne_eq] at u3429 xq2 h3430 xq12 h3435 xq14 a3441 u3442 h3443 h3444 h3445 h3446 a3510 h3511 w3512 w3513 f3514 r3515 r3516 r3517 h3518 h3522 h3546 h3555 ⊢) <;> (try simp (disch := omega) only [zb] at u3429 xq2 h3430 xq12 h3435 xq14 a3441 u3442 h3443 h3444 h3445 h3446 a3510 h3511 w3512 w3513 f3514 r3515 r3516 r3517 h3518 h3522 h3546 h3555 ⊢) <;> first | omega | ((try simp (disch := omega) only [zb] at u3429 xq2 h3430 xq12 h3435 xq14 a3441 u3442 h3443 h3444 h3445 h3446 a3510 h3511 w3512 w3513 f3514 r3515 r3516 r3517 h3518 h3522 h3546 h3555 ⊢) <;> omega)) ) ?_
                        intro q28 hqq28
                        obtain ⟨cq28, gq28, xq28⟩ := hqq28
                        have fq28 := fr_trans fq30 gq28 rfl
                        have w3560 := (gq28.2.2 _ _ t_p0 0 rfl).1
                        have w3561 := (gq30.2.2 _ _ t_p0 0 rfl).1
                        have w3562 : mm_I s11 p0 0 = mm_I q2.2 p0 0 := by rw [← es11]; exact rd_k t_p0 tq5 (by decide)
                        have a3564 := zi_and p2 8 (by decide)
                        exact sw_some ⟨cq28, fq28, (by (try simp only [zp, zo, zq] at u3429 xq2 h3430 xq12 h3435 xq14 a3441 u3442 h3443 h3444 h3445 h3446 a3510 h3511 w3512 w3513 f3514 r3515 r3516 r3517 h3518 h3522 h3546 h3555 w3560 w3561 w3562 a3564 ⊢) <;> (try simp only [zz, Int32.reduceToInt, ne_eq] at u3429 xq2 h3430 xq12 h3435 xq14 a3441 u3442 h3443 h3444 h3445 h3446 a3510 h3511 w3512 w3513 f3514 r3515 r3516 r3517 h3518 h3522 h3546 h3555 w3560 w3561 w3562 a3564 ⊢) <;> (try simp (disch := omega) only [zb] at u3429 xq2 h3430 xq12 h3435 xq14 a3441 u3442 h3443 h3444 h3445 h3446 a3510 h3511 w3512 w3513 f3514 r3515 r3516 r3517 h3518 h3522 h3546 h3555 w3560 w3561 w3562 a3564 ⊢) <;> first | omega | ((try simp (disch := omega) only [zb] at u3429 xq2 h3430 xq12 h3435 xq14 a3441 u3442 h3443 h3444 h3445 h3446 a3510 h3511 w3512 w3513 f3514 r3515 r3516 r3517 h3518 h3522 h3546 h3555 w3560 w3561 w3562 a3564 ⊢) <;> omega))⟩
              · refine sw_ite (fun h3565 => ?_) (fun h3565 => ?_)
                · unfold fX9_pair_222
                  unfold fX9_pair_228
                  have w3566 : mm_I s11 q17 p1.toNatClampNeg = mm_I q2.2 q17 p1.toNatClampNeg := by rw [← es11]; exact rd_k tq17 tq5 (by decide)
                  have w3567 := (gq2.2.2 _ _ tq17 p1.toNatClampNeg rfl).1
                  have f3568 : mm_I σ0 q17 p1.toNatClampNeg = -1 := hv q17 59 p1.toNatClampNeg tq17 (Or.inr (by decide)) (by (try simp only [zp, zo, zq] at u3429 xq2 h3430 xq12 h3435 xq14 a3441 u3442 h3443 h3444 h3445 h3446 a3510 h3511 h3565 w3566 w3567 ⊢) <;> (try simp only [zz, Int32.reduceToInt, ne_eq] at u3429 xq2 h3430 xq12 h3435 xq14 a3441 u3442 h3443 h3444 h3445 h3446 a3510 h3511 h3565 w3566 w3567 ⊢) <;> (try simp (disch := omega) only [zb] at u3429 xq2 h3430 xq12 h3435 xq14 a3441 u3442 h3443 h3444 h3445 h3446 a3510 h3511 h3565 w3566 w3567 ⊢) <;> first | omega | ((try simp (disch := omega) only [zb] at u3429 xq2 h3430 xq12 h3435 xq14 a3441 u3442 h3443 h3444 h3445 h3446 a3510 h3511 h3565 w3566 w3567 ⊢) <;> omega))
                  have r3569 := ci_rg c0 tq17 p1.toNatClampNeg (lo := (-1)) (hi := 3) rfl
                  have r3570 := ci_rg cq2 tq17 p1.toNatClampNeg (lo := (-1)) (hi := 3) rfl
                  have r3571 := ci_rg cs11 tq17 p1.toNatClampNeg (lo := (-1)) (hi := 3) rfl
                  refine sw_ite (fun h3572 => ?_) (fun h3572 => ?_)
                  · have w3573 : mm_I s11 p0 0 = mm_I q2.2 p0 0 := by rw [← es11]; exact rd_k t_p0 tq5 (by decide)
                    have a3575 := zi_and p2 8 (by decide)
                    exact sw_some ⟨cs11, fs11, (by (try simp only [zp, zo, zq] at u3429 xq2 h3430 xq12 h3435 xq14 a3441 u3442 h3443 h3444 h3445 h3446 a3510 h3511 h3565 w3566 w3567 f3568 r3569 r3570 r3571 h3572 w3573 a3575 ⊢) <;> (try simp only [zz, Int32.reduceToInt, ne_eq] at u3429 xq2 h3430 xq12 h3435 xq14 a3441 u3442 h3443 h3444 h3445 h3446 a3510 h3511 h3565 w3566 w3567 f3568 r3569 r3570 r3571 h3572 w3573 a3575 ⊢) <;> (try simp (disch := omega) only [zb] at u3429 xq2 h3430 xq12 h3435 xq14 a3441 u3442 h3443 h3444 h3445 h3446 a3510 h3511 h3565 w3566 w3567 f3568 r3569 r3570 r3571 h3572 w3573 a3575 ⊢) <;> first | omega | ((try simp (disch := omega) only [zb] at u3429 xq2 h3430 xq12 h3435 xq14 a3441 u3442 h3443 h3444 h3445 h3446 a3510 h3511 h3565 w3566 w3567 f3568 r3569 r3570 r3571 h3572 w3573 a3575 ⊢) <;> omega))⟩
                  · refine sw_ite (fun h3576 => ?_) (fun h3576 => ?_)
                    · refine sw_ite (fun h3577 => ?_) (fun h3577 => ?_)
                      · have w3578 : mm_I s11 p0 0 = mm_I q2.2 p0 0 := by rw [← es11]; exact rd_k t_p0 tq5 (by decide)
                        have a3580 := zi_and p2 8 (by decide)
                        exact sw_some ⟨cs11, fs11, (by (try simp only [zp, zo, zq] at u3429 xq2 h3430 xq12 h3435 xq14 a3441 u3442 h3443 h3444 h3445 h3446 a3510 h3511 h3565 w3566 w3567 f3568 r3569 r3570 r3571 h3572 h3576 h3577 w3578 a3580 ⊢) <;> (try simp only [zz, Int32.reduceToInt, ne_eq] at u3429 xq2 h3430 xq12 h3435 xq14 a3441 u3442 h3443 h3444 h3445 h3446 a3510 h3511 h3565 w3566 w3567 f3568 r3569 r3570 r3571 h3572 h3576 h3577 w3578 a3580 ⊢) <;> (try simp (disch := omega) only [zb] at u3429 xq2 h3430 xq12 h3435 xq14 a3441 u3442 h3443 h3444 h3445 h3446 a3510 h3511 h3565 w3566 w3567 f3568 r3569 r3570 r3571 h3572 h3576 h3577 w3578 a3580 ⊢) <;> first | omega | ((try simp (disch := omega) only [zb] at u3429 xq2 h3430 xq12 h3435 xq14 a3441 u3442 h3443 h3444 h3445 h3446 a3510 h3511 h3565 w3566 w3567 f3568 r3569 r3570 r3571 h3572 h3576 h3577 w3578 a3580 ⊢) <;> omega))⟩
                      · unfold fX9_pair_250
                        refine sw_ite (fun h3581 => ?_) (fun h3581 => ?_)
                        · unfold fX9_pair_264
                          refine sw_ite (fun h3582 => ?_) (fun h3582 => ?_)
                          · have w3583 : mm_I s11 p0 0 = mm_I q2.2 p0 0 := by rw [← es11]; exact rd_k t_p0 tq5 (by decide)
                            have a3585 := zi_and p2 8 (by decide)
                            exact sw_some ⟨cs11, fs11, (by (try simp only [zp, zo, zq] at u3429 xq2 h3430 xq12 h3435 xq14 a3441 u3442 h3443 h3444 h3445 h3446 a3510 h3511 h3565 w3566 w3567 f3568 r3569 r3570 r3571 h3572 h3576 h3577 h3581 h3582 w3583 a3585 ⊢) <;> (try simp only [zz, Int32.reduceToInt, ne_eq] at u3429 xq2 h3430 xq12 h3435 xq14 a3441 u3442 h3443 h3444 h3445 h3446 a3510 h3511 h3565 w3566 w3567 f3568 r3569 r3570 r3571 h3572 h3576 h3577 h3581 h3582 w3583 a3585 ⊢) <;> (try simp (disch := omega) only [zb] at u3429 xq2 h3430 xq12 h3435 xq14 a3441 u3442 h3443 h3444 h3445 h3446 a3510 h3511 h3565 w3566 w3567 f3568 r3569 r3570 r3571 h3572 h3576 h3577 h3581 h3582 w3583 a3585 ⊢) <;> first | omega | ((try simp (disch := omega) only [zb] at u3429 xq2 h3430 xq12 h3435 xq14 a3441 u3442 h3443 h3444 h3445 h3446 a3510 h3511 h3565 w3566 w3567 f3568 r3569 r3570 r3571 h3572 h3576 h3577 h3581 h3582 w3583 a3585 ⊢) <;> omega))⟩
                          · refine sw_sh (ci_sh cs11 t_p0 rfl) ?_
                            refine sw_on (sX9_put cs11 t_p0 (by (try simp only [zp, zo, zq] at u3429 xq2 h3430 xq12 h3435 xq14 a3441 u3442 h3443 h3444 h3445 h3446 a3510 h3511 h3565 w3566 w3567 f3568 r3569 r3570 r3571 h3572 h3576 h3577 h3581 h3582 ⊢) <;> (try simp only [zz, Int32.reduceToInt, ne_eq] at u3429 xq2 h3430 xq12 h3435 xq14 a3441 u3442 h3443 h3444 h3445 h3446 a3510 h3511 h3565 w3566 w3567 f3568 r3569 r3570 r3571 h3572 h3576 h3577 h3581 h3582 ⊢) <;> (try simp (disch := omega) only [zb] at u3429 xq2 h3430 xq12 h3435 xq14 a3441 u3442 h3443 h3444 h3445 h3446 a3510 h3511 h3565 w3566 w3567 f3568 r3569 r3570 r3571 h3572 h3576 h3577 h3581 h3582 ⊢) <;> first | omega | ((try simp (disch := omega) only [zb] at u3429 xq2 h3430 xq12 h3435 xq14 a3441 u3442 h3443 h3444 h3445 h3446 a3510 h3511 h3565 w3566 w3567 f3568 r3569 r3570 r3571 h3572 h3576 h3577 h3581 h3582 ⊢) <;> omega)) ) ?_
                            intro q28 hqq28
                            obtain ⟨cq28, gq28, xq28⟩ := hqq28
                            have fq28 := fr_trans fs11 gq28 rfl
                            have w3586 := (gq28.2.2 _ _ t_p0 0 rfl).1
                            have w3587 : mm_I s11 p0 0 = mm_I q2.2 p0 0 := by rw [← es11]; exact rd_k t_p0 tq5 (by decide)
                            have a3589 := zi_and p2 8 (by decide)
                            exact sw_some ⟨cq28, fq28, (by (try simp only [zp, zo, zq] at u3429 xq2 h3430 xq12 h3435 xq14 a3441 u3442 h3443 h3444 h3445 h3446 a3510 h3511 h3565 w3566 w3567 f3568 r3569 r3570 r3571 h3572 h3576 h3577 h3581 h3582 w3586 w3587 a3589 ⊢) <;> (try simp only [zz, Int32.reduceToInt, ne_eq] at u3429 xq2 h3430 xq12 h3435 xq14 a3441 u3442 h3443 h3444 h3445 h3446 a3510 h3511 h3565 w3566 w3567 f3568 r3569 r3570 r3571 h3572 h3576 h3577 h3581 h3582 w3586 w3587 a3589 ⊢) <;> (try simp (disch := omega) only [zb] at u3429 xq2 h3430 xq12 h3435 xq14 a3441 u3442 h3443 h3444 h3445 h3446 a3510 h3511 h3565 w3566 w3567 f3568 r3569 r3570 r3571 h3572 h3576 h3577 h3581 h3582 w3586 w3587 a3589 ⊢) <;> first | omega | ((try simp (disch := omega) only [zb] at u3429 xq2 h3430 xq12 h3435 xq14 a3441 u3442 h3443 h3444 h3445 h3446 a3510 h3511 h3565 w3566 w3567 f3568 r3569 r3570 r3571 h3572 h3576 h3577 h3581 h3582 w3586 w3587 a3589 ⊢) <;> omega))⟩
                        · refine sw_sh (ci_sh cs11 t_p0 rfl) ?_
                          refine sw_on (sX9_put cs11 t_p0 (by (try simp only [zp, zo, zq] at u3429 xq2 h3430 xq12 h3435 xq14 a3441 u3442 h3443 h3444 h3445 h3446 a3510 h3511 h3565 w3566 w3567 f3568 r3569 r3570 r3571 h3572 h3576 h3577 h3581 ⊢) <;> (try simp only [zz, Int32.reduceToInt, ne_eq] at u3429 xq2 h3430 xq12 h3435 xq14 a3441 u3442 h3443 h3444 h3445 h3446 a3510 h3511 h3565 w3566 w3567 f3568 r3569 r3570 r3571 h3572 h3576 h3577 h3581 ⊢) <;> (try simp (disch := omega) only [zb] at u3429 xq2 h3430 xq12 h3435 xq14 a3441 u3442 h3443 h3444 h3445 h3446 a3510 h3511 h3565 w3566 w3567 f3568 r3569 r3570 r3571 h3572 h3576 h3577 h3581 ⊢) <;> first | omega | ((try simp (disch := omega) only [zb] at u3429 xq2 h3430 xq12 h3435 xq14 a3441 u3442 h3443 h3444 h3445 h3446 a3510 h3511 h3565 w3566 w3567 f3568 r3569 r3570 r3571 h3572 h3576 h3577 h3581 ⊢) <;> omega)) ) ?_
                          intro q30 hqq30
                          obtain ⟨cq30, gq30, xq30⟩ := hqq30
                          have fq30 := fr_trans fs11 gq30 rfl
                          unfold fX9_pair_264
                          refine sw_ite (fun h3590 => ?_) (fun h3590 => ?_)
                          · have w3591 := (gq30.2.2 _ _ t_p0 0 rfl).1
                            have w3592 : mm_I s11 p0 0 = mm_I q2.2 p0 0 := by rw [← es11]; exact rd_k t_p0 tq5 (by decide)
                            have a3594 := zi_and p2 8 (by decide)
                            exact sw_some ⟨cq30, fq30, (by (try simp only [zp, zo, zq] at u3429 xq2 h3430 xq12 h3435 xq14 a3441 u3442 h3443 h3444 h3445 h3446 a3510 h3511 h3565 w3566 w3567 f3568 r3569 r3570 r3571 h3572 h3576 h3577 h3581 h3590 w3591 w3592 a3594 ⊢) <;> (try simp only [zz, Int32.reduceToInt, ne_eq] at u3429 xq2 h3430 xq12 h3435 xq14 a3441 u3442 h3443 h3444 h3445 h3446 a3510 h3511 h3565 w3566 w3567 f3568 r3569 r3570 r3571 h3572 h3576 h3577 h3581 h3590 w3591 w3592 a3594 ⊢) <;> (try simp (disch := omega) only [zb] at u3429 xq2 h3430 xq12 h3435 xq14 a3441 u3442 h3443 h3444 h3445 h3446 a3510 h3511 h3565 w3566 w3567 f3568 r3569 r3570 r3571 h3572 h3576 h3577 h3581 h3590 w3591 w3592 a3594 ⊢) <;> first | omega | ((try simp (disch := omega) only [zb] at u3429 xq2 h3430 xq12 h3435 xq14 a3441 u3442 h3443 h3444 h3445 h3446 a3510 h3511 h3565 w3566 w3567 f3568 r3569 r3570 r3571 h3572 h3576 h3577 h3581 h3590 w3591 w3592 a3594 ⊢) <;> omega))⟩
                          · refine sw_sh (ci_sh cq30 t_p0 rfl) ?_
                            refine sw_on (sX9_put cq30 t_p0 (by (try simp only [zp, zo, zq] at u3429 xq2 h3430 xq12 h3435 xq14 a3441 u3442 h3443 h3444 h3445 h3446 a3510 h3511 h3565 w3566 w3567 f3568 r3569 r3570 r3571 h3572 h3576 h3577 h3581 h3590 ⊢) <;> (try simp only [zz, Int32.reduceToInt, ne_eq] at u3429 xq2 h3430 xq12 h3435 xq14 a3441 u3442 h3443 h3444 h3445 h3446 a3510 h3511 h3565 w3566 w3567 f3568 r3569 r3570 r3571 h3572 h3576 h3577 h3581 h3590 ⊢) <;> (try simp (disch := omega) only [zb] at u3429 xq2 h3430 xq12 h3435 xq14 a3441 u3442 h3443 h3444 h3445 h3446 a3510 h3511 h3565 w3566 w3567 f3568 r3569 r3570 r3571 h3572 h3576 h3577 h3581 h3590 ⊢) <;> first | omega | ((try simp (disch := omega) only [zb] at u3429 xq2 h3430 xq12 h3435 xq14 a3441 u3442 h3443 h3444 h3445 h3446 a3510 h3511 h3565 w3566 w3567 f3568 r3569 r3570 r3571 h3572 h3576 h3577 h3581 h3590 ⊢) <;> omega)) ) ?_
                            intro q28 hqq28
                            obtain ⟨cq28, gq28, xq28⟩ := hqq28
                            have fq28 := fr_trans fq30 gq28 rfl
                            have w3595 := (gq28.2.2 _ _ t_p0 0 rfl).1
                            have w3596 := (gq30.2.2 _ _ t_p0 0 rfl).1
                            have w3597 : mm_I s11 p0 0 = mm_I q2.2 p0 0 := by rw [← es11]; exact rd_k t_p0 tq5 (by decide)
                            have a3599 := zi_and p2 8 (by decide)
                            exact sw_some ⟨cq28, fq28, (by (try simp only [zp, zo, zq] at u3429 xq2 h3430 xq12 h3435 xq14 a3441 u3442 h3443 h3444 h3445 h3446 a3510 h3511 h3565 w3566 w3567 f3568 r3569 r3570 r3571 h3572 h3576 h3577 h3581 h3590 w3595 w3596 w3597 a3599 ⊢) <;> (try simp only [zz, Int32.reduceToInt, ne_eq] at u3429 xq2 h3430 xq12 h3435 xq14 a3441 u3442 h3443 h3444 h3445 h3446 a3510 h3511 h3565 w3566 w3567 f3568 r3569 r3570 r3571 h3572 h3576 h3577 h3581 h3590 w3595 w3596 w3597 a3599 ⊢) <;> (try simp (disch := omega) only [zb] at u3429 xq2 h3430 xq12 h3435 xq14 a3441 u3442 h3443 h3444 h3445 h3446 a3510 h3511 h3565 w3566 w3567 f3568 r3569 r3570 r3571 h3572 h3576 h3577 h3581 h3590 w3595 w3596 w3597 a3599 ⊢) <;> first | omega | ((try simp (disch := omega) only [zb] at u3429 xq2 h3430 xq12 h3435 xq14 a3441 u3442 h3443 h3444 h3445 h3446 a3510 h3511 h3565 w3566 w3567 f3568 r3569 r3570 r3571 h3572 h3576 h3577 h3581 h3590 w3595 w3596 w3597 a3599 ⊢) <;> omega))⟩
                    · unfold fX9_pair_250
                      refine sw_ite (fun h3600 => ?_) (fun h3600 => ?_)
                      · unfold fX9_pair_264
                        refine sw_ite (fun h3601 => ?_) (fun h3601 => ?_)
                        · have w3602 : mm_I s11 p0 0 = mm_I q2.2 p0 0 := by rw [← es11]; exact rd_k t_p0 tq5 (by decide)
                          have a3604 := zi_and p2 8 (by decide)
                          exact sw_some ⟨cs11, fs11, (by (try simp only [zp, zo, zq] at u3429 xq2 h3430 xq12 h3435 xq14 a3441 u3442 h3443 h3444 h3445 h3446 a3510 h3511 h3565 w3566 w3567 f3568 r3569 r3570 r3571 h3572 h3576 h3600 h3601 w3602 a3604 ⊢) <;> (try simp only [zz, Int32.reduceToInt, ne_eq] at u3429 xq2 h3430 xq12 h3435 xq14 a3441 u3442 h3443 h3444 h3445 h3446 a3510 h3511 h3565 w3566 w3567 f3568 r3569 r3570 r3571 h3572 h3576 h3600 h3601 w3602 a3604 ⊢) <;> (try simp (disch := omega) only [zb] at u3429 xq2 h3430 xq12 h3435 xq14 a3441 u3442 h3443 h3444 h3445 h3446 a3510 h3511 h3565 w3566 w3567 f3568 r3569 r3570 r3571 h3572 h3576 h3600 h3601 w3602 a3604 ⊢) <;> first | omega | ((try simp (disch := omega) only [zb] at u3429 xq2 h3430 xq12 h3435 xq14 a3441 u3442 h3443 h3444 h3445 h3446 a3510 h3511 h3565 w3566 w3567 f3568 r3569 r3570 r3571 h3572 h3576 h3600 h3601 w3602 a3604 ⊢) <;> omega))⟩
                        · refine sw_sh (ci_sh cs11 t_p0 rfl) ?_
                          refine sw_on (sX9_put cs11 t_p0 (by (try simp only [zp, zo, zq] at u3429 xq2 h3430 xq12 h3435 xq14 a3441 u3442 h3443 h3444 h3445 h3446 a3510 h3511 h3565 w3566 w3567 f3568 r3569 r3570 r3571 h3572 h3576 h3600 h3601 ⊢) <;> (try simp only [zz, Int32.reduceToInt, ne_eq] at u3429 xq2 h3430 xq12 h3435 xq14 a3441 u3442 h3443 h3444 h3445 h3446 a3510 h3511 h3565 w3566 w3567 f3568 r3569 r3570 r3571 h3572 h3576 h3600 h3601 ⊢) <;> (try simp (disch := omega) only [zb] at u3429 xq2 h3430 xq12 h3435 xq14 a3441 u3442 h3443 h3444 h3445 h3446 a3510 h3511 h3565 w3566 w3567 f3568 r3569 r3570 r3571 h3572 h3576 h3600 h3601 ⊢) <;> first | omega | ((try simp (disch := omega) only [zb] at u3429 xq2 h3430 xq12 h3435 xq14 a3441 u3442 h3443 h3444 h3445 h3446 a3510 h3511 h3565 w3566 w3567 f3568 r3569 r3570 r3571 h3572 h3576 h3600 h3601 ⊢) <;> omega)) ) ?_
                          intro q28 hqq28
                          obtain ⟨cq28, gq28, xq28⟩ := hqq28
                          have fq28 := fr_trans fs11 gq28 rfl
                          have w3605 := (gq28.2.2 _ _ t_p0 0 rfl).1
                          have w3606 : mm_I s11 p0 0 = mm_I q2.2 p0 0 := by rw [← es11]; exact rd_k t_p0 tq5 (by decide)
                          have a3608 := zi_and p2 8 (by decide)
                          exact sw_some ⟨cq28, fq28, (by (try simp only [zp, zo, zq] at u3429 xq2 h3430 xq12 h3435 xq14 a3441 u3442 h3443 h3444 h3445 h3446 a3510 h3511 h3565 w3566 w3567 f3568 r3569 r3570 r3571 h3572 h3576 h3600 h3601 w3605 w3606 a3608 ⊢) <;> (try simp only [zz, Int32.reduceToInt, ne_eq] at u3429 xq2 h3430 xq12 h3435 xq14 a3441 u3442 h3443 h3444 h3445 h3446 a3510 h3511 h3565 w3566 w3567 f3568 r3569 r3570 r3571 h3572 h3576 h3600 h3601 w3605 w3606 a3608 ⊢) <;> (try simp (disch := omega) only [zb] at u3429 xq2 h3430 xq12 h3435 xq14 a3441 u3442 h3443 h3444 h3445 h3446 a3510 h3511 h3565 w3566 w3567 f3568 r3569 r3570 r3571 h3572 h3576 h3600 h3601 w3605 w3606 a3608 ⊢) <;> first | omega | ((try simp (disch := omega) only [zb] at u3429 xq2 h3430 xq12 h3435 xq14 a3441 u3442 h3443 h3444 h3445 h3446 a3510 h3511 h3565 w3566 w3567 f3568 r3569 r3570 r3571 h3572 h3576 h3600 h3601 w3605 w3606 a3608 ⊢) <;> omega))⟩
                      · refine sw_sh (ci_sh cs11 t_p0 rfl) ?_
                        refine sw_on (sX9_put cs11 t_p0 (by (try simp only [zp, zo, zq] at u3429 xq2 h3430 xq12 h3435 xq14 a3441 u3442 h3443 h3444 h3445 h3446 a3510 h3511 h3565 w3566 w3567 f3568 r3569 r3570 r3571 h3572 h3576 h3600 ⊢) <;> (try simp only [zz, Int32.reduceToInt, ne_eq] at u3429 xq2 h3430 xq12 h3435 xq14 a3441 u3442 h3443 h3444 h3445 h3446 a3510 h3511 h3565 w3566 w3567 f3568 r3569 r3570 r3571 h3572 h3576 h3600 ⊢) <;> (try simp (disch := omega) only [zb] at u3429 xq2 h3430 xq12 h3435 xq14 a3441 u3442 h3443 h3444 h3445 h3446 a3510 h3511 h3565 w3566 w3567 f3568 r3569 r3570 r3571 h3572 h3576 h3600 ⊢) <;> first | omega | ((try simp (disch := omega) only [zb] at u3429 xq2 h3430 xq12 h3435 xq14 a3441 u3442 h3443 h3444 h3445 h3446 a3510 h3511 h3565 w3566 w3567 f3568 r3569 r3570 r3571 h3572 h3576 h3600 ⊢) <;> omega)) ) ?_
                        intro q30 hqq30
                        obtain ⟨cq30, gq30, xq30⟩ := hqq30
                        have fq30 := fr_trans fs11 gq30 rfl
                        unfold fX9_pair_264
                        refine sw_ite (fun h3609 => ?_) (fun h3609 => ?_)
                        · have w3610 := (gq30.2.2 _ _ t_p0 0 rfl).1
                          have w3611 : mm_I s11 p0 0 = mm_I q2.2 p0 0 := by rw [← es11]; exact rd_k t_p0 tq5 (by decide)
                          have a3613 := zi_and p2 8 (by decide)
                          exact sw_some ⟨cq30, fq30, (by (try simp only [zp, zo, zq] at u3429 xq2 h3430 xq12 h3435 xq14 a3441 u3442 h3443 h3444 h3445 h3446 a3510 h3511 h3565 w3566 w3567 f3568 r3569 r3570 r3571 h3572 h3576 h3600 h3609 w3610 w3611 a3613 ⊢) <;> (try simp only [zz, Int32.reduceToInt, ne_eq] at u3429 xq2 h3430 xq12 h3435 xq14 a3441 u3442 h3443 h3444 h3445 h3446 a3510 h3511 h3565 w3566 w3567 f3568 r3569 r3570 r3571 h3572 h3576 h3600 h3609 w3610 w3611 a3613 ⊢) <;> (try simp (disch := omega) only [zb] at u3429 xq2 h3430 xq12 h3435 xq14 a3441 u3442 h3443 h3444 h3445 h3446 a3510 h3511 h3565 w3566 w3567 f3568 r3569 r3570 r3571 h3572 h3576 h3600 h3609 w3610 w3611 a3613 ⊢) <;> first | omega | ((try simp (disch := omega) only [zb] at u3429 xq2 h3430 xq12 h3435 xq14 a3441 u3442 h3443 h3444 h3445 h3446 a3510 h3511 h3565 w3566 w3567 f3568 r3569 r3570 r3571 h3572 h3576 h3600 h3609 w3610 w3611 a3613 ⊢) <;> omega))⟩
                        · refine sw_sh (ci_sh cq30 t_p0 rfl) ?_
                          refine sw_on (sX9_put cq30 t_p0 (by (try simp only [zp, zo, zq] at u3429 xq2 h3430 xq12 h3435 xq14 a3441 u3442 h3443 h3444 h3445 h3446 a3510 h3511 h3565 w3566 w3567 f3568 r3569 r3570 r3571 h3572 h3576 h3600 h3609 ⊢) <;> (try simp only [zz, Int32.reduceToInt, ne_eq] at u3429 xq2 h3430 xq12 h3435 xq14 a3441 u3442 h3443 h3444 h3445 h3446 a3510 h3511 h3565 w3566 w3567 f3568 r3569 r3570 r3571 h3572 h3576 h3600 h3609 ⊢) <;> (try simp (disch := omega) only [zb] at u3429 xq2 h3430 xq12 h3435 xq14 a3441 u3442 h3443 h3444 h3445 h3446 a3510 h3511 h3565 w3566 w3567 f3568 r3569 r3570 r3571 h3572 h3576 h3600 h3609 ⊢) <;> first | omega | ((try simp (disch := omega) only [zb] at u3429 xq2 h3430 xq12 h3435 xq14 a3441 u3442 h3443 h3444 h3445 h3446 a3510 h3511 h3565 w3566 w3567 f3568 r3569 r3570 r3571 h3572 h3576 h3600 h3609 ⊢) <;> omega)) ) ?_
                          intro q28 hqq28
                          obtain ⟨cq28, gq28, xq28⟩ := hqq28
                          have fq28 := fr_trans fq30 gq28 rfl
                          have w3614 := (gq28.2.2 _ _ t_p0 0 rfl).1
                          have w3615 := (gq30.2.2 _ _ t_p0 0 rfl).1
                          have w3616 : mm_I s11 p0 0 = mm_I q2.2 p0 0 := by rw [← es11]; exact rd_k t_p0 tq5 (by decide)
                          have a3618 := zi_and p2 8 (by decide)
                          exact sw_some ⟨cq28, fq28, (by (try simp only [zp, zo, zq] at u3429 xq2 h3430 xq12 h3435 xq14 a3441 u3442 h3443 h3444 h3445 h3446 a3510 h3511 h3565 w3566 w3567 f3568 r3569 r3570 r3571 h3572 h3576 h3600 h3609 w3614 w3615 w3616 a3618 ⊢) <;> (try simp only [zz, Int32.reduceToInt, ne_eq] at u3429 xq2 h3430 xq12 h3435 xq14 a3441 u3442 h3443 h3444 h3445 h3446 a3510 h3511 h3565 w3566 w3567 f3568 r3569 r3570 r3571 h3572 h3576 h3600 h3609 w3614 w3615 w3616 a3618 ⊢) <;> (try simp (disch := omega) only [zb] at u3429 xq2 h3430 xq12 h3435 xq14 a3441 u3442 h3443 h3444 h3445 h3446 a3510 h3511 h3565 w3566 w3567 f3568 r3569 r3570 r3571 h3572 h3576 h3600 h3609 w3614 w3615 w3616 a3618 ⊢) <;> first | omega | ((try simp (disch := omega) only [zb] at u3429 xq2 h3430 xq12 h3435 xq14 a3441 u3442 h3443 h3444 h3445 h3446 a3510 h3511 h3565 w3566 w3567 f3568 r3569 r3570 r3571 h3572 h3576 h3600 h3609 w3614 w3615 w3616 a3618 ⊢) <;> omega))⟩
                · refine sw_ite (fun h3619 => ?_) (fun h3619 => ?_)
                  · unfold fX9_pair_222
                    unfold fX9_pair_228
                    have w3620 : mm_I s11 q17 p1.toNatClampNeg = mm_I q2.2 q17 p1.toNatClampNeg := by rw [← es11]; exact rd_k tq17 tq5 (by decide)
                    have w3621 := (gq2.2.2 _ _ tq17 p1.toNatClampNeg rfl).1
                    have f3622 : mm_I σ0 q17 p1.toNatClampNeg = -1 := hv q17 59 p1.toNatClampNeg tq17 (Or.inr (by decide)) (by (try simp only [zp, zo, zq] at u3429 xq2 h3430 xq12 h3435 xq14 a3441 u3442 h3443 h3444 h3445 h3446 a3510 h3511 h3565 h3619 w3620 w3621 ⊢) <;> (try simp only [zz, Int32.reduceToInt, ne_eq] at u3429 xq2 h3430 xq12 h3435 xq14 a3441 u3442 h3443 h3444 h3445 h3446 a3510 h3511 h3565 h3619 w3620 w3621 ⊢) <;> (try simp (disch := omega) only [zb] at u3429 xq2 h3430 xq12 h3435 xq14 a3441 u3442 h3443 h3444 h3445 h3446 a3510 h3511 h3565 h3619 w3620 w3621 ⊢) <;> first | omega | ((try simp (disch := omega) only [zb] at u3429 xq2 h3430 xq12 h3435 xq14 a3441 u3442 h3443 h3444 h3445 h3446 a3510 h3511 h3565 h3619 w3620 w3621 ⊢) <;> omega))
                    have r3623 := ci_rg c0 tq17 p1.toNatClampNeg (lo := (-1)) (hi := 3) rfl
                    have r3624 := ci_rg cq2 tq17 p1.toNatClampNeg (lo := (-1)) (hi := 3) rfl
                    have r3625 := ci_rg cs11 tq17 p1.toNatClampNeg (lo := (-1)) (hi := 3) rfl
                    refine sw_ite (fun h3626 => ?_) (fun h3626 => ?_)
                    · have w3627 : mm_I s11 p0 0 = mm_I q2.2 p0 0 := by rw [← es11]; exact rd_k t_p0 tq5 (by decide)
                      have a3629 := zi_and p2 8 (by decide)
                      exact sw_some ⟨cs11, fs11, (by (try simp only [zp, zo, zq] at u3429 xq2 h3430 xq12 h3435 xq14 a3441 u3442 h3443 h3444 h3445 h3446 a3510 h3511 h3565 h3619 w3620 w3621 f3622 r3623 r3624 r3625 h3626 w3627 a3629 ⊢) <;> (try simp only [zz, Int32.reduceToInt, ne_eq] at u3429 xq2 h3430 xq12 h3435 xq14 a3441 u3442 h3443 h3444 h3445 h3446 a3510 h3511 h3565 h3619 w3620 w3621 f3622 r3623 r3624 r3625 h3626 w3627 a3629 ⊢) <;> (try simp (disch := omega) only [zb] at u3429 xq2 h3430 xq12 h3435 xq14 a3441 u3442 h3443 h3444 h3445 h3446 a3510 h3511 h3565 h3619 w3620 w3621 f3622 r3623 r3624 r3625 h3626 w3627 a3629 ⊢) <;> first | omega | ((try simp (disch := omega) only [zb] at u3429 xq2 h3430 xq12 h3435 xq14 a3441 u3442 h3443 h3444 h3445 h3446 a3510 h3511 h3565 h3619 w3620 w3621 f3622 r3623 r3624 r3625 h3626 w3627 a3629 ⊢) <;> omega))⟩
                    · refine sw_ite (fun h3630 => ?_) (fun h3630 => ?_)
                      · refine sw_ite (fun h3631 => ?_) (fun h3631 => ?_)
                        · have w3632 : mm_I s11 p0 0 = mm_I q2.2 p0 0 := by rw [← es11]; exact rd_k t_p0 tq5 (by decide)
                          have a3634 := zi_and p2 8 (by decide)
                          exact sw_some ⟨cs11, fs11, (by (try simp only [zp, zo, zq] at u3429 xq2 h3430 xq12 h3435 xq14 a3441 u3442 h3443 h3444 h3445 h3446 a3510 h3511 h3565 h3619 w3620 w3621 f3622 r3623 r3624 r3625 h3626 h3630 h3631 w3632 a3634 ⊢) <;> (try simp only [zz, Int32.reduceToInt, ne_eq] at u3429 xq2 h3430 xq12 h3435 xq14 a3441 u3442 h3443 h3444 h3445 h3446 a3510 h3511 h3565 h3619 w3620 w3621 f3622 r3623 r3624 r3625 h3626 h3630 h3631 w3632 a3634 ⊢) <;> (try simp (disch := omega) only [zb] at u3429 xq2 h3430 xq12 h3435 xq14 a3441 u3442 h3443 h3444 h3445 h3446 a3510 h3511 h3565 h3619 w3620 w3621 f3622 r3623 r3624 r3625 h3626 h3630 h3631 w3632 a3634 ⊢) <;> first | omega | ((try simp (disch := omega) only [zb] at u3429 xq2 h3430 xq12 h3435 xq14 a3441 u3442 h3443 h3444 h3445 h3446 a3510 h3511 h3565 h3619 w3620 w3621 f3622 r3623 r3624 r3625 h3626 h3630 h3631 w3632 a3634 ⊢) <;> omega))⟩
                        · unfold fX9_pair_250
                          refine sw_ite (fun h3635 => ?_) (fun h3635 => ?_)
                          · unfold fX9_pair_264
                            refine sw_ite (fun h3636 => ?_) (fun h3636 => ?_)
                            · have w3637 : mm_I s11 p0 0 = mm_I q2.2 p0 0 := by rw [← es11]; exact rd_k t_p0 tq5 (by decide)
                              have a3639 := zi_and p2 8 (by decide)
                              exact sw_some ⟨cs11, fs11, (by (try simp only [zp, zo, zq] at u3429 xq2 h3430 xq12 h3435 xq14 a3441 u3442 h3443 h3444 h3445 h3446 a3510 h3511 h3565 h3619 w3620 w3621 f3622 r3623 r3624 r3625 h3626 h3630 h3631 h3635 h3636 w3637 a3639 ⊢) <;> (try simp only [zz, Int32.reduceToInt, ne_eq] at u3429 xq2 h3430 xq12 h3435 xq14 a3441 u3442 h3443 h3444 h3445 h3446 a3510 h3511 h3565 h3619 w3620 w3621 f3622 r3623 r3624 r3625 h3626 h3630 h3631 h3635 h3636 w3637 a3639 ⊢) <;> (try simp (disch := omega) only [zb] at u3429 xq2 h3430 xq12 h3435 xq14 a3441 u3442 h3443 h3444 h3445 h3446 a3510 h3511 h3565 h3619 w3620 w3621 f3622 r3623 r3624 r3625 h3626 h3630 h3631 h3635 h3636 w3637 a3639 ⊢) <;> first | omega | ((try simp (disch := omega) only [zb] at u3429 xq2 h3430 xq12 h3435 xq14 a3441 u3442 h3443 h3444 h3445 h3446 a3510 h3511 h3565 h3619 w3620 w3621 f3622 r3623 r3624 r3625 h3626 h3630 h3631 h3635 h3636 w3637 a3639 ⊢) <;> omega))⟩
                            · refine sw_sh (ci_sh cs11 t_p0 rfl) ?_
                              refine sw_on (sX9_put cs11 t_p0 (by (try simp only [zp, zo, zq] at u3429 xq2 h3430 xq12 h3435 xq14 a3441 u3442 h3443 h3444 h3445 h3446 a3510 h3511 h3565 h3619 w3620 w3621 f3622 r3623 r3624 r3625 h3626 h3630 h3631 h3635 h3636 ⊢) <;> (try simp only [zz, Int32.reduceToInt, ne_eq] at u3429 xq2 h3430 xq12 h3435 xq14 a3441 u3442 h3443 h3444 h3445 h3446 a3510 h3511 h3565 h3619 w3620 w3621 f3622 r3623 r3624 r3625 h3626 h3630 h3631 h3635 h3636 ⊢) <;> (try simp (disch := omega) only [zb] at u3429 xq2 h3430 xq12 h3435 xq14 a3441 u3442 h3443 h3444 h3445 h3446 a3510 h3511 h3565 h3619 w3620 w3621 f3622 r3623 r3624 r3625 h3626 h3630 h3631 h3635 h3636 ⊢) <;> first | omega | ((try simp (disch := omega) only [zb] at u3429 xq2 h3430 xq12 h3435 xq14 a3441 u3442 h3443 h3444 h3445 h3446 a3510 h3511 h3565 h3619 w3620 w3621 f3622 r3623 r3624 r3625 h3626 h3630 h3631 h3635 h3636 ⊢) <;> omega)) ) ?_
                              intro q28 hqq28
                              obtain ⟨cq28, gq28, xq28⟩ := hqq28
                              have fq28 := fr_trans fs11 gq28 rfl
                              have w3640 := (gq28.2.2 _ _ t_p0 0 rfl).1
                              have w3641 : mm_I s11 p0 0 = mm_I q2.2 p0 0 := by rw [← es11]; exact rd_k t_p0 tq5 (by decide)
                              have a3643 := zi_and p2 8 (by decide)
                              exact sw_some ⟨cq28, fq28, (by (try simp only [zp, zo, zq] at u3429 xq2 h3430 xq12 h3435 xq14 a3441 u3442 h3443 h3444 h3445 h3446 a3510 h3511 h3565 h3619 w3620 w3621 f3622 r3623 r3624 r3625 h3626 h3630 h3631 h3635 h3636 w3640 w3641 a3643 ⊢) <;> (try simp only [zz, Int32.reduceToInt, ne_eq] at u3429 xq2 h3430 xq12 h3435 xq14 a3441 u3442 h3443 h3444 h3445 h3446 a3510 h3511 h3565 h3619 w3620 w3621 f3622 r3623 r3624 r3625 h3626 h3630 h3631 h3635 h3636 w3640 w3641 a3643 ⊢) <;> (try simp (disch := omega) only [zb] at u3429 xq2 h3430 xq12 h3435 xq14 a3441 u3442 h3443 h3444 h3445 h3446 a3510 h3511 h3565 h3619 w3620 w3621 f3622 r3623 r3624 r3625 h3626 h3630 h3631 h3635 h3636 w3640 w3641 a3643 ⊢) <;> first | omega | ((try simp (disch := omega) only [zb] at u3429 xq2 h3430 xq12 h3435 xq14 a3441 u3442 h3443 h3444 h3445 h3446 a3510 h3511 h3565 h3619 w3620 w3621 f3622 r3623 r3624 r3625 h3626 h3630 h3631 h3635 h3636 w3640 w3641 a3643 ⊢) <;> omega))⟩
                          · refine sw_sh (ci_sh cs11 t_p0 rfl) ?_
                            refine sw_on (sX9_put cs11 t_p0 (by (try simp only [zp, zo, zq] at u3429 xq2 h3430 xq12 h3435 xq14 a3441 u3442 h3443 h3444 h3445 h3446 a3510 h3511 h3565 h3619 w3620 w3621 f3622 r3623 r3624 r3625 h3626 h3630 h3631 h3635 ⊢) <;> (try simp only [zz, Int32.reduceToInt, ne_eq] at u3429 xq2 h3430 xq12 h3435 xq14 a3441 u3442 h3443 h3444 h3445 h3446 a3510 h3511 h3565 h3619 w3620 w3621 f3622 r3623 r3624 r3625 h3626 h3630 h3631 h3635 ⊢) <;> (try simp (disch := omega) only [zb] at u3429 xq2 h3430 xq12 h3435 xq14 a3441 u3442 h3443 h3444 h3445 h3446 a3510 h3511 h3565 h3619 w3620 w3621 f3622 r3623 r3624 r3625 h3626 h3630 h3631 h3635 ⊢) <;> first | omega | ((try simp (disch := omega) only [zb] at u3429 xq2 h3430 xq12 h3435 xq14 a3441 u3442 h3443 h3444 h3445 h3446 a3510 h3511 h3565 h3619 w3620 w3621 f3622 r3623 r3624 r3625 h3626 h3630 h3631 h3635 ⊢) <;> omega)) ) ?_
                            intro q30 hqq30
                            obtain ⟨cq30, gq30, xq30⟩ := hqq30
                            have fq30 := fr_trans fs11 gq30 rfl
                            unfold fX9_pair_264
                            refine sw_ite (fun h3644 => ?_) (fun h3644 => ?_)
                            · have w3645 := (gq30.2.2 _ _ t_p0 0 rfl).1
                              have w3646 : mm_I s11 p0 0 = mm_I q2.2 p0 0 := by rw [← es11]; exact rd_k t_p0 tq5 (by decide)
                              have a3648 := zi_and p2 8 (by decide)
                              exact sw_some ⟨cq30, fq30, (by (try simp only [zp, zo, zq] at u3429 xq2 h3430 xq12 h3435 xq14 a3441 u3442 h3443 h3444 h3445 h3446 a3510 h3511 h3565 h3619 w3620 w3621 f3622 r3623 r3624 r3625 h3626 h3630 h3631 h3635 h3644 w3645 w3646 a3648 ⊢) <;> (try simp only [zz, Int32.reduceToInt, ne_eq] at u3429 xq2 h3430 xq12 h3435 xq14 a3441 u3442 h3443 h3444 h3445 h3446 a3510 h3511 h3565 h3619 w3620 w3621 f3622 r3623 r3624 r3625 h3626 h3630 h3631 h3635 h3644 w3645 w3646 a3648 ⊢) <;> (try simp (disch := omega) only [zb] at u3429 xq2 h3430 xq12 h3435 xq14 a3441 u3442 h3443 h3444 h3445 h3446 a3510 h3511 h3565 h3619 w3620 w3621 f3622 r3623 r3624 r3625 h3626 h3630 h3631 h3635 h3644 w3645 w3646 a3648 ⊢) <;> first | omega | ((try simp (disch := omega) only [zb] at u3429 xq2 h3430 xq12 h3435 xq14 a3441 u3442 h3443 h3444 h3445 h3446 a3510 h3511 h3565 h3619 w3620 w3621 f3622 r3623 r3624 r3625 h3626 h3630 h3631 h3635 h3644 w3645 w3646 a3648 ⊢) <;> omega))⟩
                            · refine sw_sh (ci_sh cq30 t_p0 rfl) ?_
                              refine sw_on (sX9_put cq30 t_p0 (by (try simp only [zp, zo, zq] at u3429 xq2 h3430 xq12 h3435 xq14 a3441 u3442 h3443 h3444 h3445 h3446 a3510 h3511 h3565 h3619 w3620 w3621 f3622 r3623 r3624 r3625 h3626 h3630 h3631 h3635 h3644 ⊢) <;> (try simp only [zz, Int32.reduceToInt, ne_eq] at u3429 xq2 h3430 xq12 h3435 xq14 a3441 u3442 h3443 h3444 h3445 h3446 a3510 h3511 h3565 h3619 w3620 w3621 f3622 r3623 r3624 r3625 h3626 h3630 h3631 h3635 h3644 ⊢) <;> (try simp (disch := omega) only [zb] at u3429 xq2 h3430 xq12 h3435 xq14 a3441 u3442 h3443 h3444 h3445 h3446 a3510 h3511 h3565 h3619 w3620 w3621 f3622 r3623 r3624 r3625 h3626 h3630 h3631 h3635 h3644 ⊢) <;> first | omega | ((try simp (disch := omega) only [zb] at u3429 xq2 h3430 xq12 h3435 xq14 a3441 u3442 h3443 h3444 h3445 h3446 a3510 h3511 h3565 h3619 w3620 w3621 f3622 r3623 r3624 r3625 h3626 h3630 h3631 h3635 h3644 ⊢) <;> omega)) ) ?_
                              intro q28 hqq28
                              obtain ⟨cq28, gq28, xq28⟩ := hqq28
                              have fq28 := fr_trans fq30 gq28 rfl
                              have w3649 := (gq28.2.2 _ _ t_p0 0 rfl).1
                              have w3650 := (gq30.2.2 _ _ t_p0 0 rfl).1
                              have w3651 : mm_I s11 p0 0 = mm_I q2.2 p0 0 := by rw [← es11]; exact rd_k t_p0 tq5 (by decide)
                              have a3653 := zi_and p2 8 (by decide)
                              exact sw_some ⟨cq28, fq28, (by (try simp only [zp, zo, zq] at u3429 xq2 h3430 xq12 h3435 xq14 a3441 u3442 h3443 h3444 h3445 h3446 a3510 h3511 h3565 h3619 w3620 w3621 f3622 r3623 r3624 r3625 h3626 h3630 h3631 h3635 h3644 w3649 w3650 w3651 a3653 ⊢) <;> (try simp only [zz, Int32.reduceToInt, ne_eq] at u3429 xq2 h3430 xq12 h3435 xq14 a3441 u3442 h3443 h3444 h3445 h3446 a3510 h3511 h3565 h3619 w3620 w3621 f3622 r3623 r3624 r3625 h3626 h3630 h3631 h3635 h3644 w3649 w3650 w3651 a3653 ⊢) <;> (try simp (disch := omega) only [zb] at u3429 xq2 h3430 xq12 h3435 xq14 a3441 u3442 h3443 h3444 h3445 h3446 a3510 h3511 h3565 h3619 w3620 w3621 f3622 r3623 r3624 r3625 h3626 h3630 h3631 h3635 h3644 w3649 w3650 w3651 a3653 ⊢) <;> first | omega | ((try simp (disch := omega) only [zb] at u3429 xq2 h3430 xq12 h3435 xq14 a3441 u3442 h3443 h3444 h3445 h3446 a3510 h3511 h3565 h3619 w3620 w3621 f3622 r3623 r3624 r3625 h3626 h3630 h3631 h3635 h3644 w3649 w3650 w3651 a3653 ⊢) <;> omega))⟩
                      · unfold fX9_pair_250
                        refine sw_ite (fun h3654 => ?_) (fun h3654 => ?_)
                        · unfold fX9_pair_264
                          refine sw_ite (fun h3655 => ?_) (fun h3655 => ?_)
                          · have w3656 : mm_I s11 p0 0 = mm_I q2.2 p0 0 := by rw [← es11]; exact rd_k t_p0 tq5 (by decide)
                            have a3658 := zi_and p2 8 (by decide)
                            exact sw_some ⟨cs11, fs11, (by (try simp only [zp, zo, zq] at u3429 xq2 h3430 xq12 h3435 xq14 a3441 u3442 h3443 h3444 h3445 h3446 a3510 h3511 h3565 h3619 w3620 w3621 f3622 r3623 r3624 r3625 h3626 h3630 h3654 h3655 w3656 a3658 ⊢) <;> (try simp only [zz, Int32.reduceToInt, ne_eq] at u3429 xq2 h3430 xq12 h3435 xq14 a3441 u3442 h3443 h3444 h3445 h3446 a3510 h3511 h3565 h3619 w3620 w3621 f3622 r3623 r3624 r3625 h3626 h3630 h3654 h3655 w3656 a3658 ⊢) <;> (try simp (disch := omega) only [zb] at u3429 xq2 h3430 xq12 h3435 xq14 a3441 u3442 h3443 h3444 h3445 h3446 a3510 h3511 h3565 h3619 w3620 w3621 f3622 r3623 r3624 r3625 h3626 h3630 h3654 h3655 w3656 a3658 ⊢) <;> first | omega | ((try simp (disch := omega) only [zb] at u3429 xq2 h3430 xq12 h3435 xq14 a3441 u3442 h3443 h3444 h3445 h3446 a3510 h3511 h3565 h3619 w3620 w3621 f3622 r3623 r3624 r3625 h3626 h3630 h3654 h3655 w3656 a3658 ⊢) <;> omega))⟩
                          · refine sw_sh (ci_sh cs11 t_p0 rfl) ?_
                            refine sw_on (sX9_put cs11 t_p0 (by (try simp only [zp, zo, zq] at u3429 xq2 h3430 xq12 h3435 xq14 a3441 u3442 h3443 h3444 h3445 h3446 a3510 h3511 h3565 h3619 w3620 w3621 f3622 r3623 r3624 r3625 h3626 h3630 h3654 h3655 ⊢) <;> (try simp only [zz, Int32.reduceToInt, ne_eq] at u3429 xq2 h3430 xq12 h3435 xq14 a3441 u3442 h3443 h3444 h3445 h3446 a3510 h3511 h3565 h3619 w3620 w3621 f3622 r3623 r3624 r3625 h3626 h3630 h3654 h3655 ⊢) <;> (try simp (disch := omega) only [zb] at u3429 xq2 h3430 xq12 h3435 xq14 a3441 u3442 h3443 h3444 h3445 h3446 a3510 h3511 h3565 h3619 w3620 w3621 f3622 r3623 r3624 r3625 h3626 h3630 h3654 h3655 ⊢) <;> first | omega | ((try simp (disch := omega) only [zb] at u3429 xq2 h3430 xq12 h3435 xq14 a3441 u3442 h3443 h3444 h3445 h3446 a3510 h3511 h3565 h3619 w3620 w3621 f3622 r3623 r3624 r3625 h3626 h3630 h3654 h3655 ⊢) <;> omega)) ) ?_
                            intro q28 hqq28
                            obtain ⟨cq28, gq28, xq28⟩ := hqq28
                            have fq28 := fr_trans fs11 gq28 rfl
                            have w3659 := (gq28.2.2 _ _ t_p0 0 rfl).1
                            have w3660 : mm_I s11 p0 0 = mm_I q2.2 p0 0 := by rw [← es11]; exact rd_k t_p0 tq5 (by decide)
                            have a3662 := zi_and p2 8 (by decide)
                            exact sw_some ⟨cq28, fq28, (by (try simp only [zp, zo, zq] at u3429 xq2 h3430 xq12 h3435 xq14 a3441 u3442 h3443 h3444 h3445 h3446 a3510 h3511 h3565 h3619 w3620 w3621 f3622 r3623 r3624 r3625 h3626 h3630 h3654 h3655 w3659 w3660 a3662 ⊢) <;> (try simp only [zz, Int32.reduceToInt, ne_eq] at u3429 xq2 h3430 xq12 h3435 xq14 a3441 u3442 h3443 h3444 h3445 h3446 a3510 h3511 h3565 h3619 w3620 w3621 f3622 r3623 r3624 r3625 h3626 h3630 h3654 h3655 w3659 w3660 a3662 ⊢) <;> (try simp (disch := omega) only [zb] at u3429 xq2 h3430 xq12 h3435 xq14 a3441 u3442 h3443 h3444 h3445 h3446 a3510 h3511 h3565 h3619 w3620 w3621 f3622 r3623 r3624 r3625 h3626 h3630 h3654 h3655 w3659 w3660 a3662 ⊢) <;> first | omega | ((try simp (disch := omega) only [zb] at u3429 xq2 h3430 xq12 h3435 xq14 a3441 u3442 h3443 h3444 h3445 h3446 a3510 h3511 h3565 h3619 w3620 w3621 f3622 r3623 r3624 r3625 h3626 h3630 h3654 h3655 w3659 w3660 a3662 ⊢) <;> omega))⟩
                        · refine sw_sh (ci_sh cs11 t_p0 rfl) ?_
                          refine sw_on (sX9_put cs11 t_p0 (by (try simp only [zp, zo, zq] at u3429 xq2 h3430 xq12 h3435 xq14 a3441 u3442 h3443 h3444 h3445 h3446 a3510 h3511 h3565 h3619 w3620 w3621 f3622 r3623 r3624 r3625 h3626 h3630 h3654 ⊢) <;> (try simp only [zz, Int32.reduceToInt, ne_eq] at u3429 xq2 h3430 xq12 h3435 xq14 a3441 u3442 h3443 h3444 h3445 h3446 a3510 h3511 h3565 h3619 w3620 w3621 f3622 r3623 r3624 r3625 h3626 h3630 h3654 ⊢) <;> (try simp (disch := omega) only [zb] at u3429 xq2 h3430 xq12 h3435 xq14 a3441 u3442 h3443 h3444 h3445 h3446 a3510 h3511 h3565 h3619 w3620 w3621 f3622 r3623 r3624 r3625 h3626 h3630 h3654 ⊢) <;> first | omega | ((try simp (disch := omega) only [zb] at u3429 xq2 h3430 xq12 h3435 xq14 a3441 u3442 h3443 h3444 h3445 h3446 a3510 h3511 h3565 h3619 w3620 w3621 f3622 r3623 r3624 r3625 h3626 h3630 h3654 ⊢) <;> omega)) ) ?_
                          intro q30 hqq30
                          obtain ⟨cq30, gq30, xq30⟩ := hqq30
                          have fq30 := fr_trans fs11 gq30 rfl
                          unfold fX9_pair_264
                          refine sw_ite (fun h3663 => ?_) (fun h3663 => ?_)
                          · have w3664 := (gq30.2.2 _ _ t_p0 0 rfl).1
                            have w3665 : mm_I s11 p0 0 = mm_I q2.2 p0 0 := by rw [← es11]; exact rd_k t_p0 tq5 (by decide)
                            have a3667 := zi_and p2 8 (by decide)
                            exact sw_some ⟨cq30, fq30, (by (try simp only [zp, zo, zq] at u3429 xq2 h3430 xq12 h3435 xq14 a3441 u3442 h3443 h3444 h3445 h3446 a3510 h3511 h3565 h3619 w3620 w3621 f3622 r3623 r3624 r3625 h3626 h3630 h3654 h3663 w3664 w3665 a3667 ⊢) <;> (try simp only [zz, Int32.reduceToInt, ne_eq] at u3429 xq2 h3430 xq12 h3435 xq14 a3441 u3442 h3443 h3444 h3445 h3446 a3510 h3511 h3565 h3619 w3620 w3621 f3622 r3623 r3624 r3625 h3626 h3630 h3654 h3663 w3664 w3665 a3667 ⊢) <;> (try simp (disch := omega) only [zb] at u3429 xq2 h3430 xq12 h3435 xq14 a3441 u3442 h3443 h3444 h3445 h3446 a3510 h3511 h3565 h3619 w3620 w3621 f3622 r3623 r3624 r3625 h3626 h3630 h3654 h3663 w3664 w3665 a3667 ⊢) <;> first | omega | ((try simp (disch := omega) only [zb] at u3429 xq2 h3430 xq12 h3435 xq14 a3441 u3442 h3443 h3444 h3445 h3446 a3510 h3511 h3565 h3619 w3620 w3621 f3622 r3623 r3624 r3625 h3626 h3630 h3654 h3663 w3664 w3665 a3667 ⊢) <;> omega))⟩
                          · refine sw_sh (ci_sh cq30 t_p0 rfl) ?_
                            refine sw_on (sX9_put cq30 t_p0 (by (try simp only [zp, zo, zq] at u3429 xq2 h3430 xq12 h3435 xq14 a3441 u3442 h3443 h3444 h3445 h3446 a3510 h3511 h3565 h3619 w3620 w3621 f3622 r3623 r3624 r3625 h3626 h3630 h3654 h3663 ⊢) <;> (try simp only [zz, Int32.reduceToInt, ne_eq] at u3429 xq2 h3430 xq12 h3435 xq14 a3441 u3442 h3443 h3444 h3445 h3446 a3510 h3511 h3565 h3619 w3620 w3621 f3622 r3623 r3624 r3625 h3626 h3630 h3654 h3663 ⊢) <;> (try simp (disch := omega) only [zb] at u3429 xq2 h3430 xq12 h3435 xq14 a3441 u3442 h3443 h3444 h3445 h3446 a3510 h3511 h3565 h3619 w3620 w3621 f3622 r3623 r3624 r3625 h3626 h3630 h3654 h3663 ⊢) <;> first | omega | ((try simp (disch := omega) only [zb] at u3429 xq2 h3430 xq12 h3435 xq14 a3441 u3442 h3443 h3444 h3445 h3446 a3510 h3511 h3565 h3619 w3620 w3621 f3622 r3623 r3624 r3625 h3626 h3630 h3654 h3663 ⊢) <;> omega)) ) ?_
                            intro q28 hqq28
                            obtain ⟨cq28, gq28, xq28⟩ := hqq28
                            have fq28 := fr_trans fq30 gq28 rfl
                            have w3668 := (gq28.2.2 _ _ t_p0 0 rfl).1
                            have w3669 := (gq30.2.2 _ _ t_p0 0 rfl).1
                            have w3670 : mm_I s11 p0 0 = mm_I q2.2 p0 0 := by rw [← es11]; exact rd_k t_p0 tq5 (by decide)
                            have a3672 := zi_and p2 8 (by decide)
                            exact sw_some ⟨cq28, fq28, (by (try simp only [zp, zo, zq] at u3429 xq2 h3430 xq12 h3435 xq14 a3441 u3442 h3443 h3444 h3445 h3446 a3510 h3511 h3565 h3619 w3620 w3621 f3622 r3623 r3624 r3625 h3626 h3630 h3654 h3663 w3668 w3669 w3670 a3672 ⊢) <;> (try simp only [zz, Int32.reduceToInt, ne_eq] at u3429 xq2 h3430 xq12 h3435 xq14 a3441 u3442 h3443 h3444 h3445 h3446 a3510 h3511 h3565 h3619 w3620 w3621 f3622 r3623 r3624 r3625 h3626 h3630 h3654 h3663 w3668 w3669 w3670 a3672 ⊢) <;> (try simp (disch := omega) only [zb] at u3429 xq2 h3430 xq12 h3435 xq14 a3441 u3442 h3443 h3444 h3445 h3446 a3510 h3511 h3565 h3619 w3620 w3621 f3622 r3623 r3624 r3625 h3626 h3630 h3654 h3663 w3668 w3669 w3670 a3672 ⊢) <;> first | omega | ((try simp (disch := omega) only [zb] at u3429 xq2 h3430 xq12 h3435 xq14 a3441 u3442 h3443 h3444 h3445 h3446 a3510 h3511 h3565 h3619 w3620 w3621 f3622 r3623 r3624 r3625 h3626 h3630 h3654 h3663 w3668 w3669 w3670 a3672 ⊢) <;> omega))⟩
                  · unfold fX9_pair_227
                    unfold fX9_pair_228
                    have w3673 : mm_I s11 q17 p1.toNatClampNeg = mm_I q2.2 q17 p1.toNatClampNeg := by rw [← es11]; exact rd_k tq17 tq5 (by decide)
                    have w3674 := (gq2.2.2 _ _ tq17 p1.toNatClampNeg rfl).1
                    have f3675 : mm_I σ0 q17 p1.toNatClampNeg = -1 := hv q17 59 p1.toNatClampNeg tq17 (Or.inr (by decide)) (by (try simp only [zp, zo, zq] at u3429 xq2 h3430 xq12 h3435 xq14 a3441 u3442 h3443 h3444 h3445 h3446 a3510 h3511 h3565 h3619 w3673 w3674 ⊢) <;> (try simp only [zz, Int32.reduceToInt, ne_eq] at u3429 xq2 h3430 xq12 h3435 xq14 a3441 u3442 h3443 h3444 h3445 h3446 a3510 h3511 h3565 h3619 w3673 w3674 ⊢) <;> (try simp (disch := omega) only [zb] at u3429 xq2 h3430 xq12 h3435 xq14 a3441 u3442 h3443 h3444 h3445 h3446 a3510 h3511 h3565 h3619 w3673 w3674 ⊢) <;> first | omega | ((try simp (disch := omega) only [zb] at u3429 xq2 h3430 xq12 h3435 xq14 a3441 u3442 h3443 h3444 h3445 h3446 a3510 h3511 h3565 h3619 w3673 w3674 ⊢) <;> omega))
                    have r3676 := ci_rg c0 tq17 p1.toNatClampNeg (lo := (-1)) (hi := 3) rfl
                    have r3677 := ci_rg cq2 tq17 p1.toNatClampNeg (lo := (-1)) (hi := 3) rfl
                    have r3678 := ci_rg cs11 tq17 p1.toNatClampNeg (lo := (-1)) (hi := 3) rfl
                    refine sw_ite (fun h3679 => ?_) (fun h3679 => ?_)
                    · have w3680 : mm_I s11 p0 0 = mm_I q2.2 p0 0 := by rw [← es11]; exact rd_k t_p0 tq5 (by decide)
                      have a3682 := zi_and p2 8 (by decide)
                      exact sw_some ⟨cs11, fs11, (by (try simp only [zp, zo, zq] at u3429 xq2 h3430 xq12 h3435 xq14 a3441 u3442 h3443 h3444 h3445 h3446 a3510 h3511 h3565 h3619 w3673 w3674 f3675 r3676 r3677 r3678 h3679 w3680 a3682 ⊢) <;> (try simp only [zz, Int32.reduceToInt, ne_eq] at u3429 xq2 h3430 xq12 h3435 xq14 a3441 u3442 h3443 h3444 h3445 h3446 a3510 h3511 h3565 h3619 w3673 w3674 f3675 r3676 r3677 r3678 h3679 w3680 a3682 ⊢) <;> (try simp (disch := omega) only [zb] at u3429 xq2 h3430 xq12 h3435 xq14 a3441 u3442 h3443 h3444 h3445 h3446 a3510 h3511 h3565 h3619 w3673 w3674 f3675 r3676 r3677 r3678 h3679 w3680 a3682 ⊢) <;> first | omega | ((try simp (disch := omega) only [zb] at u3429 xq2 h3430 xq12 h3435 xq14 a3441 u3442 h3443 h3444 h3445 h3446 a3510 h3511 h3565 h3619 w3673 w3674 f3675 r3676 r3677 r3678 h3679 w3680 a3682 ⊢) <;> omega))⟩
                    · refine sw_ite (fun h3683 => ?_) (fun h3683 => ?_)
                      · refine sw_ite (fun h3684 => ?_) (fun h3684 => ?_)
                        · have w3685 : mm_I s11 p0 0 = mm_I q2.2 p0 0 := by rw [← es11]; exact rd_k t_p0 tq5 (by decide)
                          have a3687 := zi_and p2 8 (by decide)
                          exact sw_some ⟨cs11, fs11, (by (try simp only [zp, zo, zq] at u3429 xq2 h3430 xq12 h3435 xq14 a3441 u3442 h3443 h3444 h3445 h3446 a3510 h3511 h3565 h3619 w3673 w3674 f3675 r3676 r3677 r3678 h3679 h3683 h3684 w3685 a3687 ⊢) <;> (try simp only [zz, Int32.reduceToInt, ne_eq] at u3429 xq2 h3430 xq12 h3435 xq14 a3441 u3442 h3443 h3444 h3445 h3446 a3510 h3511 h3565 h3619 w3673 w3674 f3675 r3676 r3677 r3678 h3679 h3683 h3684 w3685 a3687 ⊢) <;> (try simp (disch := omega) only [zb] at u3429 xq2 h3430 xq12 h3435 xq14 a3441 u3442 h3443 h3444 h3445 h3446 a3510 h3511 h3565 h3619 w3673 w3674 f3675 r3676 r3677 r3678 h3679 h3683 h3684 w3685 a3687 ⊢) <;> first | omega | ((try simp (disch := omega) only [zb] at u3429 xq2 h3430 xq12 h3435 xq14 a3441 u3442 h3443 h3444 h3445 h3446 a3510 h3511 h3565 h3619 w3673 w3674 f3675 r3676 r3677 r3678 h3679 h3683 h3684 w3685 a3687 ⊢) <;> omega))⟩
                        · unfold fX9_pair_250
                          refine sw_ite (fun h3688 => ?_) (fun h3688 => ?_)
                          · unfold fX9_pair_264
                            refine sw_ite (fun h3689 => ?_) (fun h3689 => ?_)
                            · have w3690 : mm_I s11 p0 0 = mm_I q2.2 p0 0 := by rw [← es11]; exact rd_k t_p0 tq5 (by decide)
                              have a3692 := zi_and p2 8 (by decide)
                              exact sw_some ⟨cs11, fs11, (by (try simp only [zp, zo, zq] at u3429 xq2 h3430 xq12 h3435 xq14 a3441 u3442 h3443 h3444 h3445 h3446 a3510 h3511 h3565 h3619 w3673 w3674 f3675 r3676 r3677 r3678 h3679 h3683 h3684 h3688 h3689 w3690 a3692 ⊢) <;> (try simp only [zz, Int32.reduceToInt, ne_eq] at u3429 xq2 h3430 xq12 h3435 xq14 a3441 u3442 h3443 h3444 h3445 h3446 a3510 h3511 h3565 h3619 w3673 w3674 f3675 r3676 r3677 r3678 h3679 h3683 h3684 h3688 h3689 w3690 a3692 ⊢) <;> (try simp (disch := omega) only [zb] at u3429 xq2 h3430 xq12 h3435 xq14 a3441 u3442 h3443 h3444 h3445 h3446 a3510 h3511 h3565 h3619 w3673 w3674 f3675 r3676 r3677 r3678 h3679 h3683 h3684 h3688 h3689 w3690 a3692 ⊢) <;> first | omega | ((try simp (disch := omega) only [zb] at u3429 xq2 h3430 xq12 h3435 xq14 a3441 u3442 h3443 h3444 h3445 h3446 a3510 h3511 h3565 h3619 w3673 w3674 f3675 r3676 r3677 r3678 h3679 h3683 h3684 h3688 h3689 w3690 a3692 ⊢) <;> omega))⟩
                            · refine sw_sh (ci_sh cs11 t_p0 rfl) ?_
                              refine sw_on (sX9_put cs11 t_p0 (by (try simp only [zp, zo, zq] at u3429 xq2 h3430 xq12 h3435 xq14 a3441 u3442 h3443 h3444 h3445 h3446 a3510 h3511 h3565 h3619 w3673 w3674 f3675 r3676 r3677 r3678 h3679 h3683 h3684 h3688 h3689 ⊢) <;> (try simp only [zz, Int32.reduceToInt, ne_eq] at u3429 xq2 h3430 xq12 h3435 xq14 a3441 u3442 h3443 h3444 h3445 h3446 a3510 h3511 h3565 h3619 w3673 w3674 f3675 r3676 r3677 r3678 h3679 h3683 h3684 h3688 h3689 ⊢) <;> (try simp (disch := omega) only [zb] at u3429 xq2 h3430 xq12 h3435 xq14 a3441 u3442 h3443 h3444 h3445 h3446 a3510 h3511 h3565 h3619 w3673 w3674 f3675 r3676 r3677 r3678 h3679 h3683 h3684 h3688 h3689 ⊢) <;> first | omega | ((try simp (disch := omega) only [zb] at u3429 xq2 h3430 xq12 h3435 xq14 a3441 u3442 h3443 h3444 h3445 h3446 a3510 h3511 h3565 h3619 w3673 w3674 f3675 r3676 r3677 r3678 h3679 h3683 h3684 h3688 h3689 ⊢) <;> omega)) ) ?_
                              intro q28 hqq28
                              obtain ⟨cq28, gq28, xq28⟩ := hqq28
                              have fq28 := fr_trans fs11 gq28 rfl
                              have w3693 := (gq28.2.2 _ _ t_p0 0 rfl).1
                              have w3694 : mm_I s11 p0 0 = mm_I q2.2 p0 0 := by rw [← es11]; exact rd_k t_p0 tq5 (by decide)
                              have a3696 := zi_and p2 8 (by decide)
                              exact sw_some ⟨cq28, fq28, (by (try simp only [zp, zo, zq] at u3429 xq2 h3430 xq12 h3435 xq14 a3441 u3442 h3443 h3444 h3445 h3446 a3510 h3511 h3565 h3619 w3673 w3674 f3675 r3676 r3677 r3678 h3679 h3683 h3684 h3688 h3689 w3693 w3694 a3696 ⊢) <;> (try simp only [zz, Int32.reduceToInt, ne_eq] at u3429 xq2 h3430 xq12 h3435 xq14 a3441 u3442 h3443 h3444 h3445 h3446 a3510 h3511 h3565 h3619 w3673 w3674 f3675 r3676 r3677 r3678 h3679 h3683 h3684 h3688 h3689 w3693 w3694 a3696 ⊢) <;> (try simp (disch := omega) only [zb] at u3429 xq2 h3430 xq12 h3435 xq14 a3441 u3442 h3443 h3444 h3445 h3446 a3510 h3511 h3565 h3619 w3673 w3674 f3675 r3676 r3677 r3678 h3679 h3683 h3684 h3688 h3689 w3693 w3694 a3696 ⊢) <;> first | omega | ((try simp (disch := omega) only [zb] at u3429 xq2 h3430 xq12 h3435 xq14 a3441 u3442 h3443 h3444 h3445 h3446 a3510 h3511 h3565 h3619 w3673 w3674 f3675 r3676 r3677 r3678 h3679 h3683 h3684 h3688 h3689 w3693 w3694 a3696 ⊢) <;> omega))⟩
                          · refine sw_sh (ci_sh cs11 t_p0 rfl) ?_
                            refine sw_on (sX9_put cs11 t_p0 (by (try simp only [zp, zo, zq] at u3429 xq2 h3430 xq12 h3435 xq14 a3441 u3442 h3443 h3444 h3445 h3446 a3510 h3511 h3565 h3619 w3673 w3674 f3675 r3676 r3677 r3678 h3679 h3683 h3684 h3688 ⊢) <;> (try simp only [zz, Int32.reduceToInt, ne_eq] at u3429 xq2 h3430 xq12 h3435 xq14 a3441 u3442 h3443 h3444 h3445 h3446 a3510 h3511 h3565 h3619 w3673 w3674 f3675 r3676 r3677 r3678 h3679 h3683 h3684 h3688 ⊢) <;> (try simp (disch := omega) only [zb] at u3429 xq2 h3430 xq12 h3435 xq14 a3441 u3442 h3443 h3444 h3445 h3446 a3510 h3511 h3565 h3619 w3673 w3674 f3675 r3676 r3677 r3678 h3679 h3683 h3684 h3688 ⊢) <;> first | omega | ((try simp (disch := omega) only [zb] at u3429 xq2 h3430 xq12 h3435 xq14 a3441 u3442 h3443 h3444 h3445 h3446 a3510 h3511 h3565 h3619 w3673 w3674 f3675 r3676 r3677 r3678 h3679 h3683 h3684 h3688 ⊢) <;> omega)) ) ?_
                            intro q30 hqq30
                            obtain ⟨cq30, gq30, xq30⟩ := hqq30
                            have fq30 := fr_trans fs11 gq30 rfl
                            unfold fX9_pair_264
                            refine sw_ite (fun h3697 => ?_) (fun h3697 => ?_)
                            · have w3698 := (gq30.2.2 _ _ t_p0 0 rfl).1
                              have w3699 : mm_I s11 p0 0 = mm_I q2.2 p0 0 := by rw [← es11]; exact rd_k t_p0 tq5 (by decide)
                              have a3701 := zi_and p2 8 (by decide)
                              exact sw_some ⟨cq30, fq30, (by (try simp only [zp, zo, zq] at u3429 xq2 h3430 xq12 h3435 xq14 a3441 u3442 h3443 h3444 h3445 h3446 a3510 h3511 h3565 h3619 w3673 w3674 f3675 r3676 r3677 r3678 h3679 h3683 h3684 h3688 h3697 w3698 w3699 a3701 ⊢) <;> (try simp only [zz, Int32.reduceToInt, ne_eq] at u3429 xq2 h3430 xq12 h3435 xq14 a3441 u3442 h3443 h3444 h3445 h3446 a3510 h3511 h3565 h3619 w3673 w3674 f3675 r3676 r3677 r3678 h3679 h3683 h3684 h3688 h3697 w3698 w3699 a3701 ⊢) <;> (try simp (disch := omega) only [zb] at u3429 xq2 h3430 xq12 h3435 xq14 a3441 u3442 h3443 h3444 h3445 h3446 a3510 h3511 h3565 h3619 w3673 w3674 f3675 r3676 r3677 r3678 h3679 h3683 h3684 h3688 h3697 w3698 w3699 a3701 ⊢) <;> first | omega | ((try simp (disch := omega) only [zb] at u3429 xq2 h3430 xq12 h3435 xq14 a3441 u3442 h3443 h3444 h3445 h3446 a3510 h3511 h3565 h3619 w3673 w3674 f3675 r3676 r3677 r3678 h3679 h3683 h3684 h3688 h3697 w3698 w3699 a3701 ⊢) <;> omega))⟩
                            · refine sw_sh (ci_sh cq30 t_p0 rfl) ?_
                              refine sw_on (sX9_put cq30 t_p0 (by (try simp only [zp, zo, zq] at u3429 xq2 h3430 xq12 h3435 xq14 a3441 u3442 h3443 h3444 h3445 h3446 a3510 h3511 h3565 h3619 w3673 w3674 f3675 r3676 r3677 r3678 h3679 h3683 h3684 h3688 h3697 ⊢) <;> (try simp only [zz, Int32.reduceToInt, ne_eq] at u3429 xq2 h3430 xq12 h3435 xq14 a3441 u3442 h3443 h3444 h3445 h3446 a3510 h3511 h3565 h3619 w3673 w3674 f3675 r3676 r3677 r3678 h3679 h3683 h3684 h3688 h3697 ⊢) <;> (try simp (disch := omega) only [zb] at u3429 xq2 h3430 xq12 h3435 xq14 a3441 u3442 h3443 h3444 h3445 h3446 a3510 h3511 h3565 h3619 w3673 w3674 f3675 r3676 r3677 r3678 h3679 h3683 h3684 h3688 h3697 ⊢) <;> first | omega | ((try simp (disch := omega) only [zb] at u3429 xq2 h3430 xq12 h3435 xq14 a3441 u3442 h3443 h3444 h3445 h3446 a3510 h3511 h3565 h3619 w3673 w3674 f3675 r3676 r3677 r3678 h3679 h3683 h3684 h3688 h3697 ⊢) <;> omega)) ) ?_
                              intro q28 hqq28
                              obtain ⟨cq28, gq28, xq28⟩ := hqq28
                              have fq28 := fr_trans fq30 gq28 rfl
                              have w3702 := (gq28.2.2 _ _ t_p0 0 rfl).1
                              have w3703 := (gq30.2.2 _ _ t_p0 0 rfl).1
                              have w3704 : mm_I s11 p0 0 = mm_I q2.2 p0 0 := by rw [← es11]; exact rd_k t_p0 tq5 (by decide)
                              have a3706 := zi_and p2 8 (by decide)
                              exact sw_some ⟨cq28, fq28, (by (try simp only [zp, zo, zq] at u3429 xq2 h3430 xq12 h3435 xq14 a3441 u3442 h3443 h3444 h3445 h3446 a3510 h3511 h3565 h3619 w3673 w3674 f3675 r3676 r3677 r3678 h3679 h3683 h3684 h3688 h3697 w3702 w3703 w3704 a3706 ⊢) <;> (try simp only [zz, Int32.reduceToInt, ne_eq] at u3429 xq2 h3430 xq12 h3435 xq14 a3441 u3442 h3443 h3444 h3445 h3446 a3510 h3511 h3565 h3619 w3673 w3674 f3675 r3676 r3677 r3678 h3679 h3683 h3684 h3688 h3697 w3702 w3703 w3704 a3706 ⊢) <;> (try simp (disch := omega) only [zb] at u3429 xq2 h3430 xq12 h3435 xq14 a3441 u3442 h3443 h3444 h3445 h3446 a3510 h3511 h3565 h3619 w3673 w3674 f3675 r3676 r3677 r3678 h3679 h3683 h3684 h3688 h3697 w3702 w3703 w3704 a3706 ⊢) <;> first | omega | ((try simp (disch := omega) only [zb] at u3429 xq2 h3430 xq12 h3435 xq14 a3441 u3442 h3443 h3444 h3445 h3446 a3510 h3511 h3565 h3619 w3673 w3674 f3675 r3676 r3677 r3678 h3679 h3683 h3684 h3688 h3697 w3702 w3703 w3704 a3706 ⊢) <;> omega))⟩
                      · unfold fX9_pair_250
                        refine sw_ite (fun h3707 => ?_) (fun h3707 => ?_)
                        · unfold fX9_pair_264
                          refine sw_ite (fun h3708 => ?_) (fun h3708 => ?_)
                          · have w3709 : mm_I s11 p0 0 = mm_I q2.2 p0 0 := by rw [← es11]; exact rd_k t_p0 tq5 (by decide)
                            have a3711 := zi_and p2 8 (by decide)
                            exact sw_some ⟨cs11, fs11, (by (try simp only [zp, zo, zq] at u3429 xq2 h3430 xq12 h3435 xq14 a3441 u3442 h3443 h3444 h3445 h3446 a3510 h3511 h3565 h3619 w3673 w3674 f3675 r3676 r3677 r3678 h3679 h3683 h3707 h3708 w3709 a3711 ⊢) <;> (try simp only [zz, Int32.reduceToInt, ne_eq] at u3429 xq2 h3430 xq12 h3435 xq14 a3441 u3442 h3443 h3444 h3445 h3446 a3510 h3511 h3565 h3619 w3673 w3674 f3675 r3676 r3677 r3678 h3679 h3683 h3707 h3708 w3709 a3711 ⊢) <;> (try simp (disch := omega) only [zb] at u3429 xq2 h3430 xq12 h3435 xq14 a3441 u3442 h3443 h3444 h3445 h3446 a3510 h3511 h3565 h3619 w3673 w3674 f3675 r3676 r3677 r3678 h3679 h3683 h3707 h3708 w3709 a3711 ⊢) <;> first | omega | ((try simp (disch := omega) only [zb] at u3429 xq2 h3430 xq12 h3435 xq14 a3441 u3442 h3443 h3444 h3445 h3446 a3510 h3511 h3565 h3619 w3673 w3674 f3675 r3676 r3677 r3678 h3679 h3683 h3707 h3708 w3709 a3711 ⊢) <;> omega))⟩
                          · refine sw_sh (ci_sh cs11 t_p0 rfl) ?_
                            refine sw_on (sX9_put cs11 t_p0 (by (try simp only [zp, zo, zq] at u3429 xq2 h3430 xq12 h3435 xq14 a3441 u3442 h3443 h3444 h3445 h3446 a3510 h3511 h3565 h3619 w3673 w3674 f3675 r3676 r3677 r3678 h3679 h3683 h3707 h3708 ⊢) <;> (try simp only [zz, Int32.reduceToInt, ne_eq] at u3429 xq2 h3430 xq12 h3435 xq14 a3441 u3442 h3443 h3444 h3445 h3446 a3510 h3511 h3565 h3619 w3673 w3674 f3675 r3676 r3677 r3678 h3679 h3683 h3707 h3708 ⊢) <;> (try simp (disch := omega) only [zb] at u3429 xq2 h3430 xq12 h3435 xq14 a3441 u3442 h3443 h3444 h3445 h3446 a3510 h3511 h3565 h3619 w3673 w3674 f3675 r3676 r3677 r3678 h3679 h3683 h3707 h3708 ⊢) <;> first | omega | ((try simp (disch := omega) only [zb] at u3429 xq2 h3430 xq12 h3435 xq14 a3441 u3442 h3443 h3444 h3445 h3446 a3510 h3511 h3565 h3619 w3673 w3674 f3675 r3676 r3677 r3678 h3679 h3683 h3707 h3708 ⊢) <;> omega)) ) ?_
                            intro q28 hqq28
                            obtain ⟨cq28, gq28, xq28⟩ := hqq28
                            have fq28 := fr_trans fs11 gq28 rfl
                            have w3712 := (gq28.2.2 _ _ t_p0 0 rfl).1
                            have w3713 : mm_I s11 p0 0 = mm_I q2.2 p0 0 := by rw [← es11]; exact rd_k t_p0 tq5 (by decide)
                            have a3715 := zi_and p2 8 (by decide)
                            exact sw_some ⟨cq28, fq28, (by (try simp only [zp, zo, zq] at u3429 xq2 h3430 xq12 h3435 xq14 a3441 u3442 h3443 h3444 h3445 h3446 a3510 h3511 h3565 h3619 w3673 w3674 f3675 r3676 r3677 r3678 h3679 h3683 h3707 h3708 w3712 w3713 a3715 ⊢) <;> (try simp only [zz, Int32.reduceToInt, ne_eq] at u3429 xq2 h3430 xq12 h3435 xq14 a3441 u3442 h3443 h3444 h3445 h3446 a3510 h3511 h3565 h3619 w3673 w3674 f3675 r3676 r3677 r3678 h3679 h3683 h3707 h3708 w3712 w3713 a3715 ⊢) <;> (try simp (disch := omega) only [zb] at u3429 xq2 h3430 xq12 h3435 xq14 a3441 u3442 h3443 h3444 h3445 h3446 a3510 h3511 h3565 h3619 w3673 w3674 f3675 r3676 r3677 r3678 h3679 h3683 h3707 h3708 w3712 w3713 a3715 ⊢) <;> first | omega | ((try simp (disch := omega) only [zb] at u3429 xq2 h3430 xq12 h3435 xq14 a3441 u3442 h3443 h3444 h3445 h3446 a3510 h3511 h3565 h3619 w3673 w3674 f3675 r3676 r3677 r3678 h3679 h3683 h3707 h3708 w3712 w3713 a3715 ⊢) <;> omega))⟩
                        · refine sw_sh (ci_sh cs11 t_p0 rfl) ?_
                          refine sw_on (sX9_put cs11 t_p0 (by (try simp only [zp, zo, zq] at u3429 xq2 h3430 xq12 h3435 xq14 a3441 u3442 h3443 h3444 h3445 h3446 a3510 h3511 h3565 h3619 w3673 w3674 f3675 r3676 r3677 r3678 h3679 h3683 h3707 ⊢) <;> (try simp only [zz, Int32.reduceToInt, ne_eq] at u3429 xq2 h3430 xq12 h3435 xq14 a3441 u3442 h3443 h3444 h3445 h3446 a3510 h3511 h3565 h3619 w3673 w3674 f3675 r3676 r3677 r3678 h3679 h3683 h3707 ⊢) <;> (try simp (disch := omega) only [zb] at u3429 xq2 h3430 xq12 h3435 xq14 a3441 u3442 h3443 h3444 h3445 h3446 a3510 h3511 h3565 h3619 w3673 w3674 f3675 r3676 r3677 r3678 h3679 h3683 h3707 ⊢) <;> first | omega | ((try simp (disch := omega) only [zb] at u3429 xq2 h3430 xq12 h3435 xq14 a3441 u3442 h3443 h3444 h3445 h3446 a3510 h3511 h3565 h3619 w3673 w3674 f3675 r3676 r3677 r3678 h3679 h3683 h3707 ⊢) <;> omega)) ) ?_
                          intro q30 hqq30
                          obtain ⟨cq30, gq30, xq30⟩ := hqq30
                          have fq30 := fr_trans fs11 gq30 rfl
                          unfold fX9_pair_264
                          refine sw_ite (fun h3716 => ?_) (fun h3716 => ?_)
                          · have w3717 := (gq30.2.2 _ _ t_p0 0 rfl).1
                            have w3718 : mm_I s11 p0 0 = mm_I q2.2 p0 0 := by rw [← es11]; exact rd_k t_p0 tq5 (by decide)
                            have a3720 := zi_and p2 8 (by decide)
                            exact sw_some ⟨cq30, fq30, (by (try simp only [zp, zo, zq] at u3429 xq2 h3430 xq12 h3435 xq14 a3441 u3442 h3443 h3444 h3445 h3446 a3510 h3511 h3565 h3619 w3673 w3674 f3675 r3676 r3677 r3678 h3679 h3683 h3707 h3716 w3717 w3718 a3720 ⊢) <;> (try simp only [zz, Int32.reduceToInt, ne_eq] at u3429 xq2 h3430 xq12 h3435 xq14 a3441 u3442 h3443 h3444 h3445 h3446 a3510 h3511 h3565 h3619 w3673 w3674 f3675 r3676 r3677 r3678 h3679 h3683 h3707 h3716 w3717 w3718 a3720 ⊢) <;> (try simp (disch := omega) only [zb] at u3429 xq2 h3430 xq12 h3435 xq14 a3441 u3442 h3443 h3444 h3445 h3446 a3510 h3511 h3565 h3619 w3673 w3674 f3675 r3676 r3677 r3678 h3679 h3683 h3707 h3716 w3717 w3718 a3720 ⊢) <;> first | omega | ((try simp (disch := omega) only [zb] at u3429 xq2 h3430 xq12 h3435 xq14 a3441 u3442 h3443 h3444 h3445 h3446 a3510 h3511 h3565 h3619 w3673 w3674 f3675 r3676 r3677 r3678 h3679 h3683 h3707 h3716 w3717 w3718 a3720 ⊢) <;> omega))⟩
                          · refine sw_sh (ci_sh cq30 t_p0 rfl) ?_
                            refine sw_on (sX9_put cq30 t_p0 (by (try simp only [zp, zo, zq] at u3429 xq2 h3430 xq12 h3435 xq14 a3441 u3442 h3443 h3444 h3445 h3446 a3510 h3511 h3565 h3619 w3673 w3674 f3675 r3676 r3677 r3678 h3679 h3683 h3707 h3716 ⊢) <;> (try simp only [zz, Int32.reduceToInt, ne_eq] at u3429 xq2 h3430 xq12 h3435 xq14 a3441 u3442 h3443 h3444 h3445 h3446 a3510 h3511 h3565 h3619 w3673 w3674 f3675 r3676 r3677 r3678 h3679 h3683 h3707 h3716 ⊢) <;> (try simp (disch := omega) only [zb] at u3429 xq2 h3430 xq12 h3435 xq14 a3441 u3442 h3443 h3444 h3445 h3446 a3510 h3511 h3565 h3619 w3673 w3674 f3675 r3676 r3677 r3678 h3679 h3683 h3707 h3716 ⊢) <;> first | omega | ((try simp (disch := omega) only [zb] at u3429 xq2 h3430 xq12 h3435 xq14 a3441 u3442 h3443 h3444 h3445 h3446 a3510 h3511 h3565 h3619 w3673 w3674 f3675 r3676 r3677 r3678 h3679 h3683 h3707 h3716 ⊢) <;> omega)) ) ?_
                            intro q28 hqq28
                            obtain ⟨cq28, gq28, xq28⟩ := hqq28
                            have fq28 := fr_trans fq30 gq28 rfl
                            have w3721 := (gq28.2.2 _ _ t_p0 0 rfl).1
                            have w3722 := (gq30.2.2 _ _ t_p0 0 rfl).1
                            have w3723 : mm_I s11 p0 0 = mm_I q2.2 p0 0 := by rw [← es11]; exact rd_k t_p0 tq5 (by decide)
                            have a3725 := zi_and p2 8 (by decide)
                            exact sw_some ⟨cq28, fq28, (by (try simp only [zp, zo, zq] at u3429 xq2 h3430 xq12 h3435 xq14 a3441 u3442 h3443 h3444 h3445 h3446 a3510 h3511 h3565 h3619 w3673 w3674 f3675 r3676 r3677 r3678 h3679 h3683 h3707 h3716 w3721 w3722 w3723 a3725 ⊢) <;> (try simp only [zz, Int32.reduceToInt, ne_eq] at u3429 xq2 h3430 xq12 h3435 xq14 a3441 u3442 h3443 h3444 h3445 h3446 a3510 h3511 h3565 h3619 w3673 w3674 f3675 r3676 r3677 r3678 h3679 h3683 h3707 h3716 w3721 w3722 w3723 a3725 ⊢) <;> (try simp (disch := omega) only [zb] at u3429 xq2 h3430 xq12 h3435 xq14 a3441 u3442 h3443 h3444 h3445 h3446 a3510 h3511 h3565 h3619 w3673 w3674 f3675 r3676 r3677 r3678 h3679 h3683 h3707 h3716 w3721 w3722 w3723 a3725 ⊢) <;> first | omega | ((try simp (disch := omega) only [zb] at u3429 xq2 h3430 xq12 h3435 xq14 a3441 u3442 h3443 h3444 h3445 h3446 a3510 h3511 h3565 h3619 w3673 w3674 f3675 r3676 r3677 r3678 h3679 h3683 h3707 h3716 w3721 w3722 w3723 a3725 ⊢) <;> omega))⟩
          · refine sw_ite (fun h3726 => ?_) (fun h3726 => ?_)
            · unfold fX9_pair_228
              have w3727 : mm_I s11 q17 p1.toNatClampNeg = mm_I q2.2 q17 p1.toNatClampNeg := by rw [← es11]; exact rd_k tq17 tq5 (by decide)
              have w3728 := (gq2.2.2 _ _ tq17 p1.toNatClampNeg rfl).1
              have f3729 : mm_I σ0 q17 p1.toNatClampNeg = -1 := hv q17 59 p1.toNatClampNeg tq17 (Or.inr (by decide)) (by (try simp only [zp, zo, zq] at u3429 xq2 h3430 xq12 h3435 xq14 a3441 u3442 h3443 h3444 h3445 h3726 w3727 w3728 ⊢) <;> (try simp only [zz, Int32.reduceToInt, ne_eq] at u3429 xq2 h3430 xq12 h3435 xq14 a3441 u3442 h3443 h3444 h3445 h3726 w3727 w3728 ⊢) <;> (try simp (disch := omega) only [zb] at u3429 xq2 h3430 xq12 h3435 xq14 a3441 u3442 h3443 h3444 h3445 h3726 w3727 w3728 ⊢) <;> first | omega | ((try simp (disch := omega) only [zb] at u3429 xq2 h3430 xq12 h3435 xq14 a3441 u3442 h3443 h3444 h3445 h3726 w3727 w3728 ⊢) <;> omega))
              have r3730 := ci_rg c0 tq17 p1.toNatClampNeg (lo := (-1)) (hi := 3) rfl
              have r3731 := ci_rg cq2 tq17 p1.toNatClampNeg (lo := (-1)) (hi := 3) rfl
              have r3732 := ci_rg cs11 tq17 p1.toNatClampNeg (lo := (-1)) (hi := 3) rfl
              refine sw_ite (fun h3733 => ?_) (fun h3733 => ?_)
              · have w3734 : mm_I s11 p0 0 = mm_I q2.2 p0 0 := by rw [← es11]; exact rd_k t_p0 tq5 (by decide)
                have a3736 := zi_and p3 127 (by decide)
                have a3737 := zi_and p2 8 (by decide)
                exact sw_some ⟨cs11, fs11, (by (try simp only [zp, zo, zq] at u3429 xq2 h3430 xq12 h3435 xq14 a3441 u3442 h3443 h3444 h3445 h3726 w3727 w3728 f3729 r3730 r3731 r3732 h3733 w3734 a3736 a3737 ⊢) <;> (try simp only [zz, Int32.reduceToInt, ne_eq] at u3429 xq2 h3430 xq12 h3435 xq14 a3441 u3442 h3443 h3444 h3445 h3726 w3727 w3728 f3729 r3730 r3731 r3732 h3733 w3734 a3736 a3737 ⊢) <;> (try simp (disch := omega) only [zb] at u3429 xq2 h3430 xq12 h3435 xq14 a3441 u3442 h3443 h3444 h3445 h3726 w3727 w3728 f3729 r3730 r3731 r3732 h3733 w3734 a3736 a3737 ⊢) <;> first | omega | ((try simp (disch := omega) only [zb] at u3429 xq2 h3430 xq12 h3435 xq14 a3441 u3442 h3443 h3444 h3445 h3726 w3727 w3728 f3729 r3730 r3731 r3732 h3733 w3734 a3736 a3737 ⊢) <;> omega))⟩
              · refine sw_ite (fun h3738 => ?_) (fun h3738 => ?_)
                · refine sw_ite (fun h3739 => ?_) (fun h3739 => ?_)
                  · have w3740 : mm_I s11 p0 0 = mm_I q2.2 p0 0 := by rw [← es11]; exact rd_k t_p0 tq5 (by decide)
                    have a3742 := zi_and p3 127 (by decide)
                    have a3743 := zi_and p2 8 (by decide)
                    exact sw_some ⟨cs11, fs11, (by (try simp only [zp, zo, zq] at u3429 xq2 h3430 xq12 h3435 xq14 a3441 u3442 h3443 h3444 h3445 h3726 w3727 w3728 f3729 r3730 r3731 r3732 h3733 h3738 h3739 w3740 a3742 a3743 ⊢) <;> (try simp only [zz, Int32.reduceToInt, ne_eq] at u3429 xq2 h3430 xq12 h3435 xq14 a3441 u3442 h3443 h3444 h3445 h3726 w3727 w3728 f3729 r3730 r3731 r3732 h3733 h3738 h3739 w3740 a3742 a3743 ⊢) <;> (try simp (disch := omega) only [zb] at u3429 xq2 h3430 xq12 h3435 xq14 a3441 u3442 h3443 h3444 h3445 h3726 w3727 w3728 f3729 r3730 r3731 r3732 h3733 h3738 h3739 w3740 a3742 a3743 ⊢) <;> first | omega | ((try simp (disch := omega) only [zb] at u3429 xq2 h3430 xq12 h3435 xq14 a3441 u3442 h3443 h3444 h3445 h3726 w3727 w3728 f3729 r3730 r3731 r3732 h3733 h3738 h3739 w3740 a3742 a3743 ⊢) <;> omega))⟩
                  · unfold fX9_pair_250
                    refine sw_ite (fun h3744 => ?_) (fun h3744 => ?_)
                    · unfold fX9_pair_264
                      refine sw_ite (fun h3745 => ?_) (fun h3745 => ?_)
                      · have w3746 : mm_I s11 p0 0 = mm_I q2.2 p0 0 := by rw [← es11]; exact rd_k t_p0 tq5 (by decide)
                        have a3748 := zi_and p3 127 (by decide)
                        have a3749 := zi_and p2 8 (by decide)
                        exact sw_some ⟨cs11, fs11, (by (try simp only [zp, zo, zq] at u3429 xq2 h3430 xq12 h3435 xq14 a3441 u3442 h3443 h3444 h3445 h3726 w3727 w3728 f3729 r3730 r3731 r3732 h3733 h3738 h3739 h3744 h3745 w3746 a3748 a3749 ⊢) <;> (try simp only [zz, Int32.reduceToInt, ne_eq] at u3429 xq2 h3430 xq12 h3435 xq14 a3441 u3442 h3443 h3444 h3445 h3726 w3727 w3728 f3729 r3730 r3731 r3732 h3733 h3738 h3739 h3744 h3745 w3746 a3748 a3749 ⊢) <;> (try simp (disch := omega) only [zb] at u3429 xq2 h3430 xq12 h3435 xq14 a3441 u3442 h3443 h3444 h3445 h3726 w3727 w3728 f3729 r3730 r3731 r3732 h3733 h3738 h3739 h3744 h3745 w3746 a3748 a3749 ⊢) <;> first | omega | ((try simp (disch := omega) only [zb] at u3429 xq2 h3430 xq12 h3435 xq14 a3441 u3442 h3443 h3444 h3445 h3726 w3727 w3728 f3729 r3730 r3731 r3732 h3733 h3738 h3739 h3744 h3745 w3746 a3748 a3749 ⊢) <;> omega))⟩
                      · refine sw_sh (ci_sh cs11 t_p0 rfl) ?_
                        refine sw_on (sX9_put cs11 t_p0 (by (try simp only [zp, zo, zq] at u3429 xq2 h3430 xq12 h3435 xq14 a3441 u3442 h3443 h3444 h3445 h3726 w3727 w3728 f3729 r3730 r3731 r3732 h3733 h3738 h3739 h3744 h3745 ⊢) <;> (try simp only [zz, Int32.reduceToInt, ne_eq] at u3429 xq2 h3430 xq12 h3435 xq14 a3441 u3442 h3443 h3444 h3445 h3726 w3727 w3728 f3729 r3730 r3731 r3732 h3733 h3738 h3739 h3744 h3745 ⊢) <;> (try simp (disch := omega) only [zb] at u3429 xq2 h3430 xq12 h3435 xq14 a3441 u3442 h3443 h3444 h3445 h3726 w3727 w3728 f3729 r3730 r3731 r3732 h3733 h3738 h3739 h3744 h3745 ⊢) <;> first | omega | ((try simp (disch := omega) only [zb] at u3429 xq2 h3430 xq12 h3435 xq14 a3441 u3442 h3443 h3444 h3445 h3726 w3727 w3728 f3729 r3730 r3731 r3732 h3733 h3738 h3739 h3744 h3745 ⊢) <;> omega)) ) ?_
                        intro q28 hqq28
                        obtain ⟨cq28, gq28, xq28⟩ := hqq28
                        have fq28 := fr_trans fs11 gq28 rfl
                        have w3750 := (gq28.2.2 _ _ t_p0 0 rfl).1
                        have w3751 : mm_I s11 p0 0 = mm_I q2.2 p0 0 := by rw [← es11]; exact rd_k t_p0 tq5 (by decide)
                        have a3753 := zi_and p3 127 (by decide)
                        have a3754 := zi_and p2 8 (by decide)
                        exact sw_some ⟨cq28, fq28, (by (try simp only [zp, zo, zq] at u3429 xq2 h3430 xq12 h3435 xq14 a3441 u3442 h3443 h3444 h3445 h3726 w3727 w3728 f3729 r3730 r3731 r3732 h3733 h3738 h3739 h3744 h3745 w3750 w3751 a3753 a3754 ⊢) <;> (try simp only [zz, Int32.reduceToInt, ne_eq] at u3429 xq2 h3430 xq12 h3435 xq14 a3441 u3442 h3443 h3444 h3445 h3726 w3727 w3728 f3729 r3730 r3731 r3732 h3733 h3738 h3739 h3744 h3745 w3750 w3751 a3753 a3754 ⊢) <;> (try simp (disch := omega) only [zb] at u3429 xq2 h3430 xq12 h3435 xq14 a3441 u3442 h3443 h3444 h3445 h3726 w3727 w3728 f3729 r3730 r3731 r3732 h3733 h3738 h3739 h3744 h3745 w3750 w3751 a3753 a3754 ⊢) <;> first | omega | ((try simp (disch := omega) only [zb] at u3429 xq2 h3430 xq12 h3435 xq14 a3441 u3442 h3443 h3444 h3445 h3726 w3727 w3728 f3729 r3730 r3731 r3732 h3733 h3738 h3739 h3744 h3745 w3750 w3751 a3753 a3754 ⊢) <;> omega))⟩
                    · refine sw_sh (ci_sh cs11 t_p0 rfl) ?_
                      refine sw_on (sX9_put cs11 t_p0 (by (try simp only [zp, zo, zq] at u3429 xq2 h3430 xq12 h3435 xq14 a3441 u3442 h3443 h3444 h3445 h3726 w3727 w3728 f3729 r3730 r3731 r3732 h3733 h3738 h3739 h3744 ⊢) <;> (try simp only [zz, Int32.reduceToInt, ne_eq] at u3429 xq2 h3430 xq12 h3435 xq14 a3441 u3442 h3443 h3444 h3445 h3726 w3727 w3728 f3729 r3730 r3731 r3732 h3733 h3738 h3739 h3744 ⊢) <;> (try simp (disch := omega) only [zb] at u3429 xq2 h3430 xq12 h3435 xq14 a3441 u3442 h3443 h3444 h3445 h3726 w3727 w3728 f3729 r3730 r3731 r3732 h3733 h3738 h3739 h3744 ⊢) <;> first | omega | ((try simp (disch := omega) only [zb] at u3429 xq2 h3430 xq12 h3435 xq14 a3441 u3442 h3443 h3444 h3445 h3726 w3727 w3728 f3729 r3730 r3731 r3732 h3733 h3738 h3739 h3744 ⊢) <;> omega)) ) ?_
                      intro q30 hqq30
                      obtain ⟨cq30, gq30, xq30⟩ := hqq30
                      have fq30 := fr_trans fs11 gq30 rfl
                      unfold fX9_pair_264
                      refine sw_ite (fun h3755 => ?_) (fun h3755 => ?_)
                      · have w3756 := (gq30.2.2 _ _ t_p0 0 rfl).1
                        have w3757 : mm_I s11 p0 0 = mm_I q2.2 p0 0 := by rw [← es11]; exact rd_k t_p0 tq5 (by decide)
                        have a3759 := zi_and p3 127 (by decide)
                        have a3760 := zi_and p2 8 (by decide)
                        exact sw_some ⟨cq30, fq30, (by (try simp only [zp, zo, zq] at u3429 xq2 h3430 xq12 h3435 xq14 a3441 u3442 h3443 h3444 h3445 h3726 w3727 w3728 f3729 r3730 r3731 r3732 h3733 h3738 h3739 h3744 h3755 w3756 w3757 a3759 a3760 ⊢) <;> (try simp only [zz, Int32.reduceToInt, ne_eq] at u3429 xq2 h3430 xq12 h3435 xq14 a3441 u3442 h3443 h3444 h3445 h3726 w3727 w3728 f3729 r3730 r3731 r3732 h3733 h3738 h3739 h3744 h3755 w3756 w3757 a3759 a3760 ⊢) <;> (try simp (disch := omega) only [zb] at u3429 xq2 h3430 xq12 h3435 xq14 a3441 u3442 h3443 h3444 h3445 h3726 w3727 w3728 f3729 r3730 r3731 r3732 h3733 h3738 h3739 h3744 h3755 w3756 w3757 a3759 a3760 ⊢) <;> first | omega | ((try simp (disch := omega) only [zb] at u3429 xq2 h3430 xq12 h3435 xq14 a3441 u3442 h3443 h3444 h3445 h3726 w3727 w3728 f3729 r3730 r3731 r3732 h3733 h3738 h3739 h3744 h3755 w3756 w3757 a3759 a3760 ⊢) <;> omega))⟩
                      · refine sw_sh (ci_sh cq30 t_p0 rfl) ?_
                        refine sw_on (sX9_put cq30 t_p0 (by (try simp only [zp, zo, zq] at u3429 xq2 h3430 xq12 h3435 xq14 a3441 u3442 h3443 h3444 h3445 h3726 w3727 w3728 f3729 r3730 r3731 r3732 h3733 h3738 h3739 h3744 h3755 ⊢) <;> (try simp only [zz, Int32.reduceToInt, ne_eq] at u3429 xq2 h3430 xq12 h3435 xq14 a3441 u3442 h3443 h3444 h3445 h3726 w3727 w3728 f3729 r3730 r3731 r3732 h3733 h3738 h3739 h3744 h3755 ⊢) <;> (try simp (disch := omega) only [zb] at u3429 xq2 h3430 xq12 h3435 xq14 a3441 u3442 h3443 h3444 h3445 h3726 w3727 w3728 f3729 r3730 r3731 r3732 h3733 h3738 h3739 h3744 h3755 ⊢) <;> first | omega | ((try simp (disch := omega) only [zb] at u3429 xq2 h3430 xq12 h3435 xq14 a3441 u3442 h3443 h3444 h3445 h3726 w3727 w3728 f3729 r3730 r3731 r3732 h3733 h3738 h3739 h3744 h3755 ⊢) <;> omega)) ) ?_
                        intro q28 hqq28
                        obtain ⟨cq28, gq28, xq28⟩ := hqq28
                        have fq28 := fr_trans fq30 gq28 rfl
                        have w3761 := (gq28.2.2 _ _ t_p0 0 rfl).1
                        have w3762 := (gq30.2.2 _ _ t_p0 0 rfl).1
                        have w3763 : mm_I s11 p0 0 = mm_I q2.2 p0 0 := by rw [← es11]; exact rd_k t_p0 tq5 (by decide)
                        have a3765 := zi_and p3 127 (by decide)
                        have a3766 := zi_and p2 8 (by decide)
                        exact sw_some ⟨cq28, fq28, (by (try simp only [zp, zo, zq] at u3429 xq2 h3430 xq12 h3435 xq14 a3441 u3442 h3443 h3444 h3445 h3726 w3727 w3728 f3729 r3730 r3731 r3732 h3733 h3738 h3739 h3744 h3755 w3761 w3762 w3763 a3765 a3766 ⊢) <;> (try simp only [zz, Int32.reduceToInt, ne_eq] at u3429 xq2 h3430 xq12 h3435 xq14 a3441 u3442 h3443 h3444 h3445 h3726 w3727 w3728 f3729 r3730 r3731 r3732 h3733 h3738 h3739 h3744 h3755 w3761 w3762 w3763 a3765 a3766 ⊢) <;> (try simp (disch := omega) only [zb] at u3429 xq2 h3430 xq12 h3435 xq14 a3441 u3442 h3443 h3444 h3445 h3726 w3727 w3728 f3729 r3730 r3731 r3732 h3733 h3738 h3739 h3744 h3755 w3761 w3762 w3763 a3765 a3766 ⊢) <;> first | omega | ((try simp (disch := omega) only [zb] at u3429 xq2 h3430 xq12 h3435 xq14 a3441 u3442 h3443 h3444 h3445 h3726 w3727 w3728 f3729 r3730 r3731 r3732 h3733 h3738 h3739 h3744 h3755 w3761 w3762 w3763 a3765 a3766 ⊢) <;> omega))⟩
                · unfold fX9_pair_250
                  refine sw_ite (fun h3767 => ?_) (fun h3767 => ?_)
                  · unfold fX9_pair_264
                    refine sw_ite (fun h3768 => ?_) (fun h3768 => ?_)
                    · have w3769 : mm_I s11 p0 0 = mm_I q2.2 p0 0 := by rw [← es11]; exact rd_k t_p0 tq5 (by decide)
                      have a3771 := zi_and p3 127 (by decide)
                      have a3772 := zi_and p2 8 (by decide)
                      exact sw_some ⟨cs11, fs11, (by (try simp only [zp, zo, zq] at u3429 xq2 h3430 xq12 h3435 xq14 a3441 u3442 h3443 h3444 h3445 h3726 w3727 w3728 f3729 r3730 r3731 r3732 h3733 h3738 h3767 h3768 w3769 a3771 a3772 ⊢) <;> (try simp only [zz, Int32.reduceToInt, ne_eq] at u3429 xq2 h3430 xq12 h3435 xq14 a3441 u3442 h3443 h3444 h3445 h3726 w3727 w3728 f3729 r3730 r3731 r3732 h3733 h3738 h3767 h3768 w3769 a3771 a3772 ⊢) <;> (try simp (disch := omega) only [zb] at u3429 xq2 h3430 xq12 h3435 xq14 a3441 u3442 h3443 h3444 h3445 h3726 w3727 w3728 f3729 r3730 r3731 r3732 h3733 h3738 h3767 h3768 w3769 a3771 a3772 ⊢) <;> first | omega | ((try simp (disch := omega) only [zb] at u3429 xq2 h3430 xq12 h3435 xq14 a3441 u3442 h3443 h3444 h3445 h3726 w3727 w3728 f3729 r3730 r3731 r3732 h3733 h3738 h3767 h3768 w3769 a3771 a3772 ⊢) <;> omega))⟩
                    · refine sw_sh (ci_sh cs11 t_p0 rfl) ?_
                      refine sw_on (sX9_put cs11 t_p0 (by (try simp only [zp, zo, zq] at u3429 xq2 h3430 xq12 h3435 xq14 a3441 u3442 h3443 h3444 h3445 h3726 w3727 w3728 f3729 r3730 r3731 r3732 h3733 h3738 h3767 h3768 ⊢) <;> (try simp only [zz, Int32.reduceToInt, ne_eq] at u3429 xq2 h3430 xq12 h3435 xq14 a3441 u3442 h3443 h3444 h3445 h3726 w3727 w3728 f3729 r3730 r3731 r3732 h3733 h3738 h3767 h3768 ⊢) <;> (try simp (disch := omega) only [zb] at u3429 xq2 h3430 xq12 h3435 xq14 a3441 u3442 h3443 h3444 h3445 h3726 w3727 w3728 f3729 r3730 r3731 r3732 h3733 h3738 h3767 h3768 ⊢) <;> first | omega | ((try simp (disch := omega) only [zb] at u3429 xq2 h3430 xq12 h3435 xq14 a3441 u3442 h3443 h3444 h3445 h3726 w3727 w3728 f3729 r3730 r3731 r3732 h3733 h3738 h3767 h3768 ⊢) <;> omega)) ) ?_
                      intro q28 hqq28
                      obtain ⟨cq28, gq28, xq28⟩ := hqq28
                      have fq28 := fr_trans fs11 gq28 rfl
                      have w3773 := (gq28.2.2 _ _ t_p0 0 rfl).1
                      have w3774 : mm_I s11 p0 0 = mm_I q2.2 p0 0 := by rw [← es11]; exact rd_k t_p0 tq5 (by decide)
                      have a3776 := zi_and p3 127 (by decide)
                      have a3777 := zi_and p2 8 (by decide)
                      exact sw_some ⟨cq28, fq28, (by (try simp only [zp, zo, zq] at u3429 xq2 h3430 xq12 h3435 xq14 a3441 u3442 h3443 h3444 h3445 h3726 w3727 w3728 f3729 r3730 r3731 r3732 h3733 h3738 h3767 h3768 w3773 w3774 a3776 a3777 ⊢) <;> (try simp only [zz, Int32.reduceToInt, ne_eq] at u3429 xq2 h3430 xq12 h3435 xq14 a3441 u3442 h3443 h3444 h3445 h3726 w3727 w3728 f3729 r3730 r3731 r3732 h3733 h3738 h3767 h3768 w3773 w3774 a3776 a3777 ⊢) <;> (try simp (disch := omega) only [zb] at u3429 xq2 h3430 xq12 h3435 xq14 a3441 u3442 h3443 h3444 h3445 h3726 w3727 w3728 f3729 r3730 r3731 r3732 h3733 h3738 h3767 h3768 w3773 w3774 a3776 a3777 ⊢) <;> first | omega | ((try simp (disch := omega) only [zb] at u3429 xq2 h3430 xq12 h3435 xq14 a3441 u3442 h3443 h3444 h3445 h3726 w3727 w3728 f3729 r3730 r3731 r3732 h3733 h3738 h3767 h3768 w3773 w3774 a3776 a3777 ⊢) <;> omega))⟩
                  · refine sw_sh (ci_sh cs11 t_p0 rfl) ?_
                    refine sw_on (sX9_put cs11 t_p0 (by (try simp only [zp, zo, zq] at u3429 xq2 h3430 xq12 h3435 xq14 a3441 u3442 h3443 h3444 h3445 h3726 w3727 w3728 f3729 r3730 r3731 r3732 h3733 h3738 h3767 ⊢) <;> (try simp only [zz, Int32.reduceToInt, ne_eq] at u3429 xq2 h3430 xq12 h3435 xq14 a3441 u3442 h3443 h3444 h3445 h3726 w3727 w3728 f3729 r3730 r3731 r3732 h3733 h3738 h3767 ⊢) <;> (try simp (disch := omega) only [zb] at u3429 xq2 h3430 xq12 h3435 xq14 a3441 u3442 h3443 h3444 h3445 h3726 w3727 w3728 f3729 r3730 r3731 r3732 h3733 h3738 h3767 ⊢) <;> first | omega | ((try simp (disch := omega) only [zb] at u3429 xq2 h3430 xq12 h3435 xq14 a3441 u3442 h3443 h3444 h3445 h3726 w3727 w3728 f3729 r3730 r3731 r3732 h3733 h3738 h3767 ⊢) <;> omega)) ) ?_
                    intro q30 hqq30
                    obtain ⟨cq30, gq30, xq30⟩ := hqq30
                    have fq30 := fr_trans fs11 gq30 rfl
                    unfold fX9_pair_264
                    refine sw_ite (fun h3778 => ?_) (fun h3778 => ?_)
                    · have w3779 := (gq30.2.2 _ _ t_p0 0 rfl).1
                      have w3780 : mm_I s11 p0 0 = mm_I q2.2 p0 0 := by rw [← es11]; exact rd_k t_p0 tq5 (by decide)
                      have a3782 := zi_and p3 127 (by decide)
                      have a3783 := zi_and p2 8 (by decide)
                      exact sw_some ⟨cq30, fq30, (by (try simp only [zp, zo, zq] at u3429 xq2 h3430 xq12 h3435 xq14 a3441 u3442 h3443 h3444 h3445 h3726 w3727 w3728 f3729 r3730 r3731 r3732 h3733 h3738 h3767 h3778 w3779 w3780 a3782 a3783 ⊢) <;> (try simp only [zz, Int32.reduceToInt, ne_eq] at u3429 xq2 h3430 xq12 h3435 xq14 a3441 u3442 h3443 h3444 h3445 h3726 w3727 w3728 f3729 r3730 r3731 r3732 h3733 h3738 h3767 h3778 w3779 w3780 a3782 a3783 ⊢) <;> (try simp (disch := omega) only [zb] at u3429 xq2 h3430 xq12 h3435 xq14 a3441 u3442 h3443 h3444 h3445 h3726 w3727 w3728 f3729 r3730 r3731 r3732 h3733 h3738 h3767 h3778 w3779 w3780 a3782 a3783 ⊢) <;> first | omega | ((try simp (disch := omega) only [zb] at u3429 xq2 h3430 xq12 h3435 xq14 a3441 u3442 h3443 h3444 h3445 h3726 w3727 w3728 f3729 r3730 r3731 r3732 h3733 h3738 h3767 h3778 w3779 w3780 a3782 a3783 ⊢) <;> omega))⟩
                    · refine sw_sh (ci_sh cq30 t_p0 rfl) ?_
                      refine sw_on (sX9_put cq30 t_p0 (by (try simp only [zp, zo, zq] at u3429 xq2 h3430 xq12 h3435 xq14 a3441 u3442 h3443 h3444 h3445 h3726 w3727 w3728 f3729 r3730 r3731 r3732 h3733 h3738 h3767 h3778 ⊢) <;> (try simp only [zz, Int32.reduceToInt, ne_eq] at u3429 xq2 h3430 xq12 h3435 xq14 a3441 u3442 h3443 h3444 h3445 h3726 w3727 w3728 f3729 r3730 r3731 r3732 h3733 h3738 h3767 h3778 ⊢) <;> (try simp (disch := omega) only [zb] at u3429 xq2 h3430 xq12 h3435 xq14 a3441 u3442 h3443 h3444 h3445 h3726 w3727 w3728 f3729 r3730 r3731 r3732 h3733 h3738 h3767 h3778 ⊢) <;> first | omega | ((try simp (disch := omega) only [zb] at u3429 xq2 h3430 xq12 h3435 xq14 a3441 u3442 h3443 h3444 h3445 h3726 w3727 w3728 f3729 r3730 r3731 r3732 h3733 h3738 h3767 h3778 ⊢) <;> omega)) ) ?_
                      intro q28 hqq28
                      obtain ⟨cq28, gq28, xq28⟩ := hqq28
                      have fq28 := fr_trans fq30 gq28 rfl
                      have w3784 := (gq28.2.2 _ _ t_p0 0 rfl).1
                      have w3785 := (gq30.2.2 _ _ t_p0 0 rfl).1
                      have w3786 : mm_I s11 p0 0 = mm_I q2.2 p0 0 := by rw [← es11]; exact rd_k t_p0 tq5 (by decide)
                      have a3788 := zi_and p3 127 (by decide)
                      have a3789 := zi_and p2 8 (by decide)
                      exact sw_some ⟨cq28, fq28, (by (try simp only [zp, zo, zq] at u3429 xq2 h3430 xq12 h3435 xq14 a3441 u3442 h3443 h3444 h3445 h3726 w3727 w3728 f3729 r3730 r3731 r3732 h3733 h3738 h3767 h3778 w3784 w3785 w3786 a3788 a3789 ⊢) <;> (try simp only [zz, Int32.reduceToInt, ne_eq] at u3429 xq2 h3430 xq12 h3435 xq14 a3441 u3442 h3443 h3444 h3445 h3726 w3727 w3728 f3729 r3730 r3731 r3732 h3733 h3738 h3767 h3778 w3784 w3785 w3786 a3788 a3789 ⊢) <;> (try simp (disch := omega) only [zb] at u3429 xq2 h3430 xq12 h3435 xq14 a3441 u3442 h3443 h3444 h3445 h3726 w3727 w3728 f3729 r3730 r3731 r3732 h3733 h3738 h3767 h3778 w3784 w3785 w3786 a3788 a3789 ⊢) <;> first | omega | ((try simp (disch := omega) only [zb] at u3429 xq2 h3430 xq12 h3435 xq14 a3441 u3442 h3443 h3444 h3445 h3726 w3727 w3728 f3729 r3730 r3731 r3732 h3733 h3738 h3767 h3778 w3784 w3785 w3786 a3788 a3789 ⊢) <;> omega))⟩
            · unfold fX9_pair_198
              refine sw_ite (fun h3790 => ?_) (fun h3790 => ?_)
              · unfold fX9_pair_227
                unfold fX9_pair_228
                have w3791 : mm_I s11 q17 p1.toNatClampNeg = mm_I q2.2 q17 p1.toNatClampNeg := by rw [← es11]; exact rd_k tq17 tq5 (by decide)
                have w3792 := (gq2.2.2 _ _ tq17 p1.toNatClampNeg rfl).1
                have f3793 : mm_I σ0 q17 p1.toNatClampNeg = -1 := hv q17 59 p1.toNatClampNeg tq17 (Or.inr (by decide)) (by (try simp only [zp, zo, zq] at u3429 xq2 h3430 xq12 h3435 xq14 a3441 u3442 h3443 h3444 h3445 h3726 h3790 w3791 w3792 ⊢) <;> (try simp only [zz, Int32.reduceToInt, ne_eq] at u3429 xq2 h3430 xq12 h3435 xq14 a3441 u3442 h3443 h3444 h3445 h3726 h3790 w3791 w3792 ⊢) <;> (try simp (disch := omega) only [zb] at u3429 xq2 h3430 xq12 h3435 xq14 a3441 u3442 h3443 h3444 h3445 h3726 h3790 w3791 w3792 ⊢) <;> first | omega | ((try simp (disch := omega) only [zb] at u3429 xq2 h3430 xq12 h3435 xq14 a3441 u3442 h3443 h3444 h3445 h3726 h3790 w3791 w3792 ⊢) <;> omega))
                have r3794 := ci_rg c0 tq17 p1.toNatClampNeg (lo := (-1)) (hi := 3) rfl
                have r3795 := ci_rg cq2 tq17 p1.toNatClampNeg (lo := (-1)) (hi := 3) rfl
                have r3796 := ci_rg cs11 tq17 p1.toNatClampNeg (lo := (-1)) (hi := 3) rfl
                refine sw_ite (fun h3797 => ?_) (fun h3797 => ?_)
                · have w3798 : mm_I s11 p0 0 = mm_I q2.2 p0 0 := by rw [← es11]; exact rd_k t_p0 tq5 (by decide)
                  have a3800 := zi_and p3 127 (by decide)
                  have a3801 := zi_and p2 8 (by decide)
                  exact sw_some ⟨cs11, fs11, (by (try simp only [zp, zo, zq] at u3429 xq2 h3430 xq12 h3435 xq14 a3441 u3442 h3443 h3444 h3445 h3726 h3790 w3791 w3792 f3793 r3794 r3795 r3796 h3797 w3798 a3800 a3801 ⊢) <;> (try simp only [zz, Int32.reduceToInt, ne_eq] at u3429 xq2 h3430 xq12 h3435 xq14 a3441 u3442 h3443 h3444 h3445 h3726 h3790 w3791 w3792 f3793 r3794 r3795 r3796 h3797 w3798 a3800 a3801 ⊢) <;> (try simp (disch := omega) only [zb] at u3429 xq2 h3430 xq12 h3435 xq14 a3441 u3442 h3443 h3444 h3445 h3726 h3790 w3791 w3792 f3793 r3794 r3795 r3796 h3797 w3798 a3800 a3801 ⊢) <;> first | omega | ((try simp (disch := omega) only [zb] at u3429 xq2 h3430 xq12 h3435 xq14 a3441 u3442 h3443 h3444 h3445 h3726 h3790 w3791 w3792 f3793 r3794 r3795 r3796 h3797 w3798 a3800 a3801 ⊢) <;> omega))⟩
                · refine sw_ite (fun h3802 => ?_) (fun h3802 => ?_)
                  · refine sw_ite (fun h3803 => ?_) (fun h3803 => ?_)
                    · have w3804 : mm_I s11 p0 0 = mm_I q2.2 p0 0 := by rw [← es11]; exact rd_k t_p0 tq5 (by decide)
                      have a3806 := zi_and p3 127 (by decide)
                      have a3807 := zi_and p2 8 (by decide)
                      exact sw_some ⟨cs11, fs11, (by (try simp only [zp, zo, zq] at u3429 xq2 h3430 xq12 h3435 xq14 a3441 u3442 h3443 h3444 h3445 h3726 h3790 w3791 w3792 f3793 r3794 r3795 r3796 h3797 h3802 h3803 w3804 a3806 a3807 ⊢) <;> (try simp only [zz, Int32.reduceToInt, ne_eq] at u3429 xq2 h3430 xq12 h3435 xq14 a3441 u3442 h3443 h3444 h3445 h3726 h3790 w3791 w3792 f3793 r3794 r3795 r3796 h3797 h3802 h3803 w3804 a3806 a3807 ⊢) <;> (try simp (disch := omega) only [zb] at u3429 xq2 h3430 xq12 h3435 xq14 a3441 u3442 h3443 h3444 h3445 h3726 h3790 w3791 w3792 f3793 r3794 r3795 r3796 h3797 h3802 h3803 w3804 a3806 a3807 ⊢) <;> first | omega | ((try simp (disch := omega) only [zb] at u3429 xq2 h3430 xq12 h3435 xq14 a3441 u3442 h3443 h3444 h3445 h3726 h3790 w3791 w3792 f3793 r3794 r3795 r3796 h3797 h3802 h3803 w3804 a3806 a3807 ⊢) <;> omega))⟩
                    · unfold fX9_pair_250
                      refine sw_ite (fun h3808 => ?_) (fun h3808 => ?_)
                      · unfold fX9_pair_264
                        refine sw_ite (fun h3809 => ?_) (fun h3809 => ?_)
                        · have w3810 : mm_I s11 p0 0 = mm_I q2.2 p0 0 := by rw [← es11]; exact rd_k t_p0 tq5 (by decide)
                          have a3812 := zi_and p3 127 (by decide)
                          have a3813 := zi_and p2 8 (by decide)
                          exact sw_some ⟨cs11, fs11, (by (try simp only [zp, zo, zq] at u3429 xq2 h3430 xq12 h3435 xq14 a3441 u3442 h3443 h3444 h3445 h3726 h3790 w3791 w3792 f3793 r3794 r3795 r3796 h3797 h3802 h3803 h3808 h3809 w3810 a3812 a3813 ⊢) <;> (try simp only [zz, Int32.reduceToInt, ne_eq] at u3429 xq2 h3430 xq12 h3435 xq14 a3441 u3442 h3443 h3444 h3445 h3726 h3790 w3791 w3792 f3793 r3794 r3795 r3796 h3797 h3802 h3803 h3808 h3809 w3810 a3812 a3813 ⊢) <;> (try simp (disch := omega) only [zb] at u3429 xq2 h3430 xq12 h3435 xq14 a3441 u3442 h3443 h3444 h3445 h3726 h3790 w3791 w3792 f3793 r3794 r3795 r3796 h3797 h3802 h3803 h3808 h3809 w3810 a3812 a3813 ⊢) <;> first | omega | ((try simp (disch := omega) only [zb] at u3429 xq2 h3430 xq12 h3435 xq14 a3441 u3442 h3443 h3444 h3445 h3726 h3790 w3791 w3792 f3793 r3794 r3795 r3796 h3797 h3802 h3803 h3808 h3809 w3810 a3812 a3813 ⊢) <;> omega))⟩
                        · refine sw_sh (ci_sh cs11 t_p0 rfl) ?_
                          refine sw_on (sX9_put cs11 t_p0 (by (try simp only [zp, zo, zq] at u3429 xq2 h3430 xq12 h3435 xq14 a3441 u3442 h3443 h3444 h3445 h3726 h3790 w3791 w3792 f3793 r3794 r3795 r3796 h3797 h3802 h3803 h3808 h3809 ⊢) <;> (try simp only [zz, Int32.reduceToInt, ne_eq] at u3429 xq2 h3430 xq12 h3435 xq14 a3441 u3442 h3443 h3444 h3445 h3726 h3790 w3791 w3792 f3793 r3794 r3795 r3796 h3797 h3802 h3803 h3808 h3809 ⊢) <;> (try simp (disch := omega) only [zb] at u3429 xq2 h3430 xq12 h3435 xq14 a3441 u3442 h3443 h3444 h3445 h3726 h3790 w3791 w3792 f3793 r3794 r3795 r3796 h3797 h3802 h3803 h3808 h3809 ⊢) <;> first | omega | ((try simp (disch := omega) only [zb] at u3429 xq2 h3430 xq12 h3435 xq14 a3441 u3442 h3443 h3444 h3445 h3726 h3790 w3791 w3792 f3793 r3794 r3795 r3796 h3797 h3802 h3803 h3808 h3809 ⊢) <;> omega)) ) ?_
                          intro q28 hqq28
                          obtain ⟨cq28, gq28, xq28⟩ := hqq28
                          have fq28 := fr_trans fs11 gq28 rfl
                          have w3814 := (gq28.2.2 _ _ t_p0 0 rfl).1
                          have w3815 : mm_I s11 p0 0 = mm_I q2.2 p0 0 := by rw [← es11]; exact rd_k t_p0 tq5 (by decide)
                          have a3817 := zi_and p3 127 (by decide)
                          have a3818 := zi_and p2 8 (by decide)
                          exact sw_some ⟨cq28, fq28, (by (try simp only [zp, zo, zq] at u3429 xq2 h3430 xq12 h3435 xq14 a3441 u3442 h3443 h3444 h3445 h3726 h3790 w3791 w3792 f3793 r3794 r3795 r3796 h3797 h3802 h3803 h3808 h3809 w3814 w3815 a3817 a3818 ⊢) <;> (try simp only [zz, Int32.reduceToInt, ne_eq] at u3429 xq2 h3430 xq12 h3435 xq14 a3441 u3442 h3443 h3444 h3445 h3726 h3790 w3791 w3792 f3793 r3794 r3795 r3796 h3797 h3802 h3803 h3808 h3809 w3814 w3815 a3817 a3818 ⊢) <;> (try simp (disch := omega) only [zb] at u3429 xq2 h3430 xq12 h3435 xq14 a3441 u3442 h3443 h3444 h3445 h3726 h3790 w3791 w3792 f3793 r3794 r3795 r3796 h3797 h3802 h3803 h3808 h3809 w3814 w3815 a3817 a3818 ⊢) <;> first | omega | ((try simp (disch := omega) only [zb] at u3429 xq2 h3430 xq12 h3435 xq14 a3441 u3442 h3443 h3444 h3445 h3726 h3790 w3791 w3792 f3793 r3794 r3795 r3796 h3797 h3802 h3803 h3808 h3809 w3814 w3815 a3817 a3818 ⊢) <;> omega))⟩
                      · refine sw_sh (ci_sh cs11 t_p0 rfl) ?_
                        refine sw_on (sX9_put cs11 t_p0 (by (try simp only [zp, zo, zq] at u3429 xq2 h3430 xq12 h3435 xq14 a3441 u3442 h3443 h3444 h3445 h3726 h3790 w3791 w3792 f3793 r3794 r3795 r3796 h3797 h3802 h3803 h3808 ⊢) <;> (try simp only [zz, Int32.reduceToInt, ne_eq] at u3429 xq2 h3430 xq12 h3435 xq14 a3441 u3442 h3443 h3444 h3445 h3726 h3790 w3791 w3792 f3793 r3794 r3795 r3796 h3797 h3802 h3803 h3808 ⊢) <;> (try simp (disch := omega) only [zb] at u3429 xq2 h3430 xq12 h3435 xq14 a3441 u3442 h3443 h3444 h3445 h3726 h3790 w3791 w3792 f3793 r3794 r3795 r3796 h3797 h3802 h3803 h3808 ⊢) <;> first | omega | ((try simp (disch := omega) only [zb] at u3429 xq2 h3430 xq12 h3435 xq14 a3441 u3442 h3443 h3444 h3445 h3726 h3790 w3791 w3792 f3793 r3794 r3795 r3796 h3797 h3802 h3803 h3808 ⊢) <;> omega)) ) ?_
                        intro q30 hqq30
                        obtain ⟨cq30, gq30, xq30⟩ := hqq30
                        have fq30 := fr_trans fs11 gq30 rfl
                        unfold fX9_pair_264
                        refine sw_ite (fun h3819 => ?_) (fun h3819 => ?_)
                        · have w3820 := (gq30.2.2 _ _ t_p0 0 rfl).1
                          have w3821 : mm_I s11 p0 0 = mm_I q2.2 p0 0 := by rw [← es11]; exact rd_k t_p0 tq5 (by decide)
                          have a3823 := zi_and p3 127 (by decide)
                          have a3824 := zi_and p2 8 (by decide)
                          exact sw_some ⟨cq30, fq30, (by (try simp only [zp, zo, zq] at u3429 xq2 h3430 xq12 h3435 xq14 a3441 u3442 h3443 h3444 h3445 h3726 h3790 w3791 w3792 f3793 r3794 r3795 r3796 h3797 h3802 h3803 h3808 h3819 w3820 w3821 a3823 a3824 ⊢) <;> (try simp only [zz, Int32.reduceToInt, ne_eq] at u3429 xq2 h3430 xq12 h3435 xq14 a3441 u3442 h3443 h3444 h3445 h3726 h3790 w3791 w3792 f3793 r3794 r3795 r3796 h3797 h3802 h3803 h3808 h3819 w3820 w3821 a3823 a3824 ⊢) <;> (try simp (disch := omega) only [zb] at u3429 xq2 h3430 xq12 h3435 xq14 a3441 u3442 h3443 h3444 h3445 h3726 h3790 w3791 w3792 f3793 r3794 r3795 r3796 h3797 h3802 h3803 h3808 h3819 w3820 w3821 a3823 a3824 ⊢) <;> first | omega | ((try simp (disch := omega) only [zb] at u3429 xq2 h3430 xq12 h3435 xq14 a3441 u3442 h3443 h3444 h3445 h3726 h3790 w3791 w3792 f3793 r3794 r3795 r3796 h3797 h3802 h3803 h3808 h3819 w3820 w3821 a3823 a3824 ⊢) <;> omega))⟩
                        · refine sw_sh (ci_sh cq30 t_p0 rfl) ?_
                          refine sw_on (sX9_put cq30 t_p0 (by (try simp only [zp, zo, zq] at u3429 xq2 h3430 xq12 h3435 xq14 a3441 u3442 h3443 h3444 h3445 h3726 h3790 w3791 w3792 f3793 r3794 r3795 r3796 h3797 h3802 h3803 h3808 h3819 ⊢) <;> (try simp only [zz, Int32.reduceToInt, ne_eq] at u3429 xq2 h3430 xq12 h3435 xq14 a3441 u3442 h3443 h3444 h3445 h3726 h3790 w3791 w3792 f3793 r3794 r3795 r3796 h3797 h3802 h3803 h3808 h3819 ⊢) <;> (try simp (disch := omega) only [zb] at u3429 xq2 h3430 xq12 h3435 xq14 a3441 u3442 h3443 h3444 h3445 h3726 h3790 w3791 w3792 f3793 r3794 r3795 r3796 h3797 h3802 h3803 h3808 h3819 ⊢) <;> first | omega | ((try simp (disch := omega) only [zb] at u3429 xq2 h3430 xq12 h3435 xq14 a3441 u3442 h3443 h3444 h3445 h3726 h3790 w3791 w3792 f3793 r3794 r3795 r3796 h3797 h3802 h3803 h3808 h3819 ⊢) <;> omega)) ) ?_
                          intro q28 hqq28
                          obtain ⟨cq28, gq28, xq28⟩ := hqq28
                          have fq28 := fr_trans fq30 gq28 rfl
                          have w3825 := (gq28.2.2 _ _ t_p0 0 rfl).1
                          have w3826 := (gq30.2.2 _ _ t_p0 0 rfl).1
                          have w3827 : mm_I s11 p0 0 = mm_I q2.2 p0 0 := by rw [← es11]; exact rd_k t_p0 tq5 (by decide)
                          have a3829 := zi_and p3 127 (by decide)
                          have a3830 := zi_and p2 8 (by decide)
                          exact sw_some ⟨cq28, fq28, (by (try simp only [zp, zo, zq] at u3429 xq2 h3430 xq12 h3435 xq14 a3441 u3442 h3443 h3444 h3445 h3726 h3790 w3791 w3792 f3793 r3794 r3795 r3796 h3797 h3802 h3803 h3808 h3819 w3825 w3826 w3827 a3829 a3830 ⊢) <;> (try simp only [zz, Int32.reduceToInt, ne_eq] at u3429 xq2 h3430 xq12 h3435 xq14 a3441 u3442 h3443 h3444 h3445 h3726 h3790 w3791 w3792 f3793 r3794 r3795 r3796 h3797 h3802 h3803 h3808 h3819 w3825 w3826 w3827 a3829 a3830 ⊢) <;> (try simp (disch := omega) only [zb] at u3429 xq2 h3430 xq12 h3435 xq14 a3441 u3442 h3443 h3444 h3445 h3726 h3790 w3791 w3792 f3793 r3794 r3795 r3796 h3797 h3802 h3803 h3808 h3819 w3825 w3826 w3827 a3829 a3830 ⊢) <;> first | omega | ((try simp (disch := omega) only [zb] at u3429 xq2 h3430 xq12 h3435 xq14 a3441 u3442 h3443 h3444 h3445 h3726 h3790 w3791 w3792 f3793 r3794 r3795 r3796 h3797 h3802 h3803 h3808 h3819 w3825 w3826 w3827 a3829 a3830 ⊢) <;> omega))⟩
                  · unfold fX9_pair_250
                    refine sw_ite (fun h3831 => ?_) (fun h3831 => ?_)
                    · unfold fX9_pair_264
                      refine sw_ite (fun h3832 => ?_) (fun h3832 => ?_)
                      · have w3833 : mm_I s11 p0 0 = mm_I q2.2 p0 0 := by rw [← es11]; exact rd_k t_p0 tq5 (by decide)
                        have a3835 := zi_and p3 127 (by decide)
                        have a3836 := zi_and p2 8 (by decide)
                        exact sw_some ⟨cs11, fs11, (by (try simp only [zp, zo, zq] at u3429 xq2 h3430 xq12 h3435 xq14 a3441 u3442 h3443 h3444 h3445 h3726 h3790 w3791 w3792 f3793 r3794 r3795 r3796 h3797 h3802 h3831 h3832 w3833 a3835 a3836 ⊢) <;> (try simp only [zz, Int32.reduceToInt, ne_eq] at u3429 xq2 h3430 xq12 h3435 xq14 a3441 u3442 h3443 h3444 h3445 h3726 h3790 w3791 w3792 f3793 r3794 r3795 r3796 h3797 h3802 h3831 h3832 w3833 a3835 a3836 ⊢) <;> (try simp (disch := omega) only [zb] at u3429 xq2 h3430 xq12 h3435 xq14 a3441 u3442 h3443 h3444 h3445 h3726 h3790 w3791 w3792 f3793 r3794 r3795 r3796 h3797 h3802 h3831 h3832 w3833 a3835 a3836 ⊢) <;> first | omega | ((try simp (disch := omega) only [zb] at u3429 xq2 h3430 xq12 h3435 xq14 a3441 u3442 h3443 h3444 h3445 h3726 h3790 w3791 w3792 f3793 r3794 r3795 r3796 h3797 h3802 h3831 h3832 w3833 a3835 a3836 ⊢) <;> omega))⟩
                      · refine sw_sh (ci_sh cs11 t_p0 rfl) ?_
                        refine sw_on (sX9_put cs11 t_p0 (by (try simp only [zp, zo, zq] at u3429 xq2 h3430 xq12 h3435 xq14 a3441 u3442 h3443 h3444 h3445 h3726 h3790 w3791 w3792 f3793 r3794 r3795 r3796 h3797 h3802 h3831 h3832 ⊢) <;> (try simp only [zz, Int32.reduceToInt, ne_eq] at u3429 xq2 h3430 xq12 h3435 xq14 a3441 u3442 h3443 h3444 h3445 h3726 h3790 w3791 w3792 f3793 r3794 r3795 r3796 h3797 h3802 h3831 h3832 ⊢) <;> (try simp (disch := omega) only [zb] at u3429 xq2 h3430 xq12 h3435 xq14 a3441 u3442 h3443 h3444 h3445 h3726 h3790 w3791 w3792 f3793 r3794 r3795 r3796 h3797 h3802 h3831 h3832 ⊢) <;> first | omega | ((try simp (disch := omega) only [zb] at u3429 xq2 h3430 xq12 h3435 xq14 a3441 u3442 h3443 h3444 h3445 h3726 h3790 w3791 w3792 f3793 r3794 r3795 r3796 h3797 h3802 h3831 h3832 ⊢) <;> omega)) ) ?_
                        intro q28 hqq28
                        obtain ⟨cq28, gq28, xq28⟩ := hqq28
                        have fq28 := fr_trans fs11 gq28 rfl
                        have w3837 := (gq28.2.2 _ _ t_p0 0 rfl).1
                        have w3838 : mm_I s11 p0 0 = mm_I q2.2 p0 0 := by rw [← es11]; exact rd_k t_p0 tq5 (by decide)
                        have a3840 := zi_and p3 127 (by decide)
                        have a3841 := zi_and p2 8 (by decide)
                        exact sw_some ⟨cq28, fq28, (by (try simp only [zp, zo, zq] at u3429 xq2 h3430 xq12 h3435 xq14 a3441 u3442 h3443 h3444 h3445 h3726 h3790 w3791 w3792 f3793 r3794 r3795 r3796 h3797 h3802 h3831 h3832 w3837 w3838 a3840 a3841 ⊢) <;> (try simp only [zz, Int32.reduceToInt, ne_eq] at u3429 xq2 h3430 xq12 h3435 xq14 a3441 u3442 h3443 h3444 h3445 h3726 h3790 w3791 w3792 f3793 r3794 r3795 r3796 h3797 h3802 h3831 h3832 w3837 w3838 a3840 a3841 ⊢) <;> (try simp (disch := omega) only [zb] at u3429 xq2 h3430 xq12 h3435 xq14 a3441 u3442 h3443 h3444 h3445 h3726 h3790 w3791 w3792 f3793 r3794 r3795 r3796 h3797 h3802 h3831 h3832 w3837 w3838 a3840 a3841 ⊢) <;> first | omega | ((try simp (disch := omega) only [zb] at u3429 xq2 h3430 xq12 h3435 xq14 a3441 u3442 h3443 h3444 h3445 h3726 h3790 w3791 w3792 f3793 r3794 r3795 r3796 h3797 h3802 h3831 h3832 w3837 w3838 a3840 a3841 ⊢) <;> omega))⟩
                    · refine sw_sh (ci_sh cs11 t_p0 rfl) ?_
                      refine sw_on (sX9_put cs11 t_p0 (by (try simp only [zp, zo, zq] at u3429 xq2 h3430 xq12 h3435 xq14 a3441 u3442 h3443 h3444 h3445 h3726 h3790 w3791 w3792 f3793 r3794 r3795 r3796 h3797 h3802 h3831 ⊢) <;> (try simp only [zz, Int32.reduceToInt, ne_eq] at u3429 xq2 h3430 xq12 h3435 xq14 a3441 u3442 h3443 h3444 h3445 h3726 h3790 w3791 w3792 f3793 r3794 r3795 r3796 h3797 h3802 h3831 ⊢) <;> (try simp (disch := omega) only [zb] at u3429 xq2 h3430 xq12 h3435 xq14 a3441 u3442 h3443 h3444 h3445 h3726 h3790 w3791 w3792 f3793 r3794 r3795 r3796 h3797 h3802 h3831 ⊢) <;> first | omega | ((try simp (disch := omega) only [zb] at u3429 xq2 h3430 xq12 h3435 xq14 a3441 u3442 h3443 h3444 h3445 h3726 h3790 w3791 w3792 f3793 r3794 r3795 r3796 h3797 h3802 h3831 ⊢) <;> omega)) ) ?_
                      intro q30 hqq30
                      obtain ⟨cq30, gq30, xq30⟩ := hqq30
                      have fq30 := fr_trans fs11 gq30 rfl
                      unfold fX9_pair_264
                      refine sw_ite (fun h3842 => ?_) (fun h3842 => ?_)
                      · have w3843 := (gq30.2.2 _ _ t_p0 0 rfl).1
                        have w3844 : mm_I s11 p0 0 = mm_I q2.2 p0 0 := by rw [← es11]; exact rd_k t_p0 tq5 (by decide)
                        have a3846 := zi_and p3 127 (by decide)
                        have a3847 := zi_and p2 8 (by decide)
                        exact sw_some ⟨cq30, fq30, (by (try simp only [zp, zo, zq] at u3429 xq2 h3430 xq12 h3435 xq14 a3441 u3442 h3443 h3444 h3445 h3726 h3790 w3791 w3792 f3793 r3794 r3795 r3796 h3797 h3802 h3831 h3842 w3843 w3844 a3846 a3847 ⊢) <;> (try simp only [zz, Int32.reduceToInt, ne_eq] at u3429 xq2 h3430 xq12 h3435 xq14 a3441 u3442 h3443 h3444 h3445 h3726 h3790 w3791 w3792 f3793 r3794 r3795 r3796 h3797 h3802 h3831 h3842 w3843 w3844 a3846 a3847 ⊢) <;> (try simp (disch := omega) only [zb] at u3429 xq2 h3430 xq12 h3435 xq14 a3441 u3442 h3443 h3444 h3445 h3726 h3790 w3791 w3792 f3793 r3794 r3795 r3796 h3797 h3802 h3831 h3842 w3843 w3844 a3846 a3847 ⊢) <;> first | omega | ((try simp (disch := omega) only [zb] at u3429 xq2 h3430 xq12 h3435 xq14 a3441 u3442 h3443 h3444 h3445 h3726 h3790 w3791 w3792 f3793 r3794 r3795 r3796 h3797 h3802 h3831 h3842 w3843 w3844 a3846 a3847 ⊢) <;> omega))⟩
                      · refine sw_sh (ci_sh cq30 t_p0 rfl) ?_
                        refine sw_on (sX9_put cq30 t_p0 (by (try simp only [zp, zo, zq] at u3429 xq2 h3430 xq12 h3435 xq14 a3441 u3442 h3443 h3444 h3445 h3726 h3790 w3791 w3792 f3793 r3794 r3795 r3796 h3797 h3802 h3831 h3842 ⊢) <;> (try simp only [zz, Int32.reduceToInt, ne_eq] at u3429 xq2 h3430 xq12 h3435 xq14 a3441 u3442 h3443 h3444 h3445 h3726 h3790 w3791 w3792 f3793 r3794 r3795 r3796 h3797 h3802 h3831 h3842 ⊢) <;> (try simp (disch := omega) only [zb] at u3429 xq2 h3430 xq12 h3435 xq14 a3441 u3442 h3443 h3444 h3445 h3726 h3790 w3791 w3792 f3793 r3794 r3795 r3796 h3797 h3802 h3831 h3842 ⊢) <;> first | omega | ((try simp (disch := omega) only [zb] at u3429 xq2 h3430 xq12 h3435 xq14 a3441 u3442 h3443 h3444 h3445 h3726 h3790 w3791 w3792 f3793 r3794 r3795 r3796 h3797 h3802 h3831 h3842 ⊢) <;> omega)) ) ?_
                        intro q28 hqq28
                        obtain ⟨cq28, gq28, xq28⟩ := hqq28
                        have fq28 := fr_trans fq30 gq28 rfl
                        have w3848 := (gq28.2.2 _ _ t_p0 0 rfl).1
                        have w3849 := (gq30.2.2 _ _ t_p0 0 rfl).1
                        have w3850 : mm_I s11 p0 0 = mm_I q2.2 p0 0 := by rw [← es11]; exact rd_k t_p0 tq5 (by decide)
                        have a3852 := zi_and p3 127 (by decide)
                        have a3853 := zi_and p2 8 (by decide)
                        exact sw_some ⟨cq28, fq28, (by (try simp only [zp, zo, zq] at u3429 xq2 h3430 xq12 h3435 xq14 a3441 u3442 h3443 h3444 h3445 h3726 h3790 w3791 w3792 f3793 r3794 r3795 r3796 h3797 h3802 h3831 h3842 w3848 w3849 w3850 a3852 a3853 ⊢) <;> (try simp only [zz, Int32.reduceToInt, ne_eq] at u3429 xq2 h3430 xq12 h3435 xq14 a3441 u3442 h3443 h3444 h3445 h3726 h3790 w3791 w3792 f3793 r3794 r3795 r3796 h3797 h3802 h3831 h3842 w3848 w3849 w3850 a3852 a3853 ⊢) <;> (try simp (disch := omega) only [zb] at u3429 xq2 h3430 xq12 h3435 xq14 a3441 u3442 h3443 h3444 h3445 h3726 h3790 w3791 w3792 f3793 r3794 r3795 r3796 h3797 h3802 h3831 h3842 w3848 w3849 w3850 a3852 a3853 ⊢) <;> first | omega | ((try simp (disch := omega) only [zb] at u3429 xq2 h3430 xq12 h3435 xq14 a3441 u3442 h3443 h3444 h3445 h3726 h3790 w3791 w3792 f3793 r3794 r3795 r3796 h3797 h3802 h3831 h3842 w3848 w3849 w3850 a3852 a3853 ⊢) <;> omega))⟩
              · have a3854 := zi_and p3 127 (by decide)
                refine sw_ite (fun h3855 => ?_) (fun h3855 => ?_)
                · unfold fX9_pair_227
                  unfold fX9_pair_228
                  have w3856 : mm_I s11 q17 p1.toNatClampNeg = mm_I q2.2 q17 p1.toNatClampNeg := by rw [← es11]; exact rd_k tq17 tq5 (by decide)
                  have w3857 := (gq2.2.2 _ _ tq17 p1.toNatClampNeg rfl).1
                  have f3858 : mm_I σ0 q17 p1.toNatClampNeg = -1 := hv q17 59 p1.toNatClampNeg tq17 (Or.inr (by decide)) (by (try simp only [zp, zo, zq] at u3429 xq2 h3430 xq12 h3435 xq14 a3441 u3442 h3443 h3444 h3445 h3726 h3790 a3854 h3855 w3856 w3857 ⊢) <;> (try simp only [zz, Int32.reduceToInt, ne_eq] at u3429 xq2 h3430 xq12 h3435 xq14 a3441 u3442 h3443 h3444 h3445 h3726 h3790 a3854 h3855 w3856 w3857 ⊢) <;> (try simp (disch := omega) only [zb] at u3429 xq2 h3430 xq12 h3435 xq14 a3441 u3442 h3443 h3444 h3445 h3726 h3790 a3854 h3855 w3856 w3857 ⊢) <;> first | omega | ((try simp (disch := omega) only [zb] at u3429 xq2 h3430 xq12 h3435 xq14 a3441 u3442 h3443 h3444 h3445 h3726 h3790 a3854 h3855 w3856 w3857 ⊢) <;> omega))
                  have r3859 := ci_rg c0 tq17 p1.toNatClampNeg (lo := (-1)) (hi := 3) rfl
                  have r3860 := ci_rg cq2 tq17 p1.toNatClampNeg (lo := (-1)) (hi := 3) rfl
                  have r3861 := ci_rg cs11 tq17 p1.toNatClampNeg (lo := (-1)) (hi := 3) rfl
                  refine sw_ite (fun h3862 => ?_) (fun h3862 => ?_)
                  · have w3863 : mm_I s11 p0 0 = mm_I q2.2 p0 0 := by rw [← es11]; exact rd_k t_p0 tq5 (by decide)
                    have a3865 := zi_and p2 8 (by decide)
                    exact sw_some ⟨cs11, fs11, (by (try simp only [zp, zo, zq] at u3429 xq2 h3430 xq12 h3435 xq14 a3441 u3442 h3443 h3444 h3445 h3726 h3790 a3854 h3855 w3856 w3857 f3858 r3859 r3860 r3861 h3862 w3863 a3865 ⊢) <;> (try simp only [zz, Int32.reduceToInt, ne_eq] at u3429 xq2 h3430 xq12 h3435 xq14 a3441 u3442 h3443 h3444 h3445 h3726 h3790 a3854 h3855 w3856 w3857 f3858 r3859 r3860 r3861 h3862 w3863 a3865 ⊢) <;> (try simp (disch := omega) only [zb] at u3429 xq2 h3430 xq12 h3435 xq14 a3441 u3442 h3443 h3444 h3445 h3726 h3790 a3854 h3855 w3856 w3857 f3858 r3859 r3860 r3861 h3862 w3863 a3865 ⊢) <;> first | omega | ((try simp (disch := omega) only [zb] at u3429 xq2 h3430 xq12 h3435 xq14 a3441 u3442 h3443 h3444 h3445 h3726 h3790 a3854 h3855 w3856 w3857 f3858 r3859 r3860 r3861 h3862 w3863 a3865 ⊢) <;> omega))⟩
                  · refine sw_ite (fun h3866 => ?_) (fun h3866 => ?_)
                    · refine sw_ite (fun h3867 => ?_) (fun h3867 => ?_)
                      · have w3868 : mm_I s11 p0 0 = mm_I q2.2 p0 0 := by rw [← es11]; exact rd_k t_p0 tq5 (by decide)
                        have a3870 := zi_and p2 8 (by decide)
                        exact sw_some ⟨cs11, fs11, (by (try simp only [zp, zo, zq] at u3429 xq2 h3430 xq12 h3435 xq14 a3441 u3442 h3443 h3444 h3445 h3726 h3790 a3854 h3855 w3856 w3857 f3858 r3859 r3860 r3861 h3862 h3866 h3867 w3868 a3870 ⊢) <;> (try simp only [zz, Int32.reduceToInt, ne_eq] at u3429 xq2 h3430 xq12 h3435 xq14 a3441 u3442 h3443 h3444 h3445 h3726 h3790 a3854 h3855 w3856 w3857 f3858 r3859 r3860 r3861 h3862 h3866 h3867 w3868 a3870 ⊢) <;> (try simp (disch := omega) only [zb] at u3429 xq2 h3430 xq12 h3435 xq14 a3441 u3442 h3443 h3444 h3445 h3726 h3790 a3854 h3855 w3856 w3857 f3858 r3859 r3860 r3861 h3862 h3866 h3867 w3868 a3870 ⊢) <;> first | omega | ((try simp (disch := omega) only [zb] at u3429 xq2 h3430 xq12 h3435 xq14 a3441 u3442 h3443 h3444 h3445 h3726 h3790 a3854 h3855 w3856 w3857 f3858 r3859 r3860 r3861 h3862 h3866 h3867 w3868 a3870 ⊢) <;> omega))⟩
                      · unfold fX9_pair_250
                        refine sw_ite (fun h3871 => ?_) (fun h3871 => ?_)
                        · unfold fX9_pair_264
                          refine sw_ite (fun h3872 => ?_) (fun h3872 => ?_)
                          · have w3873 : mm_I s11 p0 0 = mm_I q2.2 p0 0 := by rw [← es11]; exact rd_k t_p0 tq5 (by decide)
                            have a3875 := zi_and p2 8 (by decide)
                            exact sw_some ⟨cs11, fs11, (by (try simp only [zp, zo, zq] at u3429 xq2 h3430 xq12 h3435 xq14 a3441 u3442 h3443 h3444 h3445 h3726 h3790 a3854 h3855 w3856 w3857 f3858 r3859 r3860 r3861 h3862 h3866 h3867 h3871 h3872 w3873 a3875 ⊢) <;> (try simp only [zz, Int32.reduceToInt, ne_eq] at u3429 xq2 h3430 xq12 h3435 xq14 a3441 u3442 h3443 h3444 h3445 h3726 h3790 a3854 h3855 w3856 w3857 f3858 r3859 r3860 r3861 h3862 h3866 h3867 h3871 h3872 w3873 a3875 ⊢) <;> (try simp (disch := omega) only [zb] at u3429 xq2 h3430 xq12 h3435 xq14 a3441 u3442 h3443 h3444 h3445 h3726 h3790 a3854 h3855 w3856 w3857 f3858 r3859 r3860 r3861 h3862 h3866 h3867 h3871 h3872 w3873 a3875 ⊢) <;> first | omega | ((try simp (disch := omega) only [zb] at u3429 xq2 h3430 xq12 h3435 xq14 a3441 u3442 h3443 h3444 h3445 h3726 h3790 a3854 h3855 w3856 w3857 f3858 r3859 r3860 r3861 h3862 h3866 h3867 h3871 h3872 w3873 a3875 ⊢) <;> omega))⟩
                          · refine sw_sh (ci_sh cs11 t_p0 rfl) ?_
                            refine sw_on (sX9_put cs11 t_p0 (by (try simp only [zp, zo, zq] at u3429 xq2 h3430 xq12 h3435 xq14 a3441 u3442 h3443 h3444 h3445 h3726 h3790 a3854 h3855 w3856 w3857 f3858 r3859 r3860 r3861 h3862 h3866 h3867 h3871 h3872 ⊢) <;> (try simp only [zz, Int32.reduceToInt, ne_eq] at u3429 xq2 h3430 xq12 h3435 xq14 a3441 u3442 h3443 h3444 h3445 h3726 h3790 a3854 h3855 w3856 w3857 f3858 r3859 r3860 r3861 h3862 h3866 h3867 h3871 h3872 ⊢) <;> (try simp (disch := omega) only [zb] at u3429 xq2 h3430 xq12 h3435 xq14 a3441 u3442 h3443 h3444 h3445 h3726 h3790 a3854 h3855 w3856 w3857 f3858 r3859 r3860 r3861 h3862 h3866 h3867 h3871 h3872 ⊢) <;> first | omega | ((try simp (disch := omega) only [zb] at u3429 xq2 h3430 xq12 h3435 xq14 a3441 u3442 h3443 h3444 h3445 h3726 h3790 a3854 h3855 w3856 w3857 f3858 r3859 r3860 r3861 h3862 h3866 h3867 h3871 h3872 ⊢) <;> omega)) ) ?_
                            intro q28 hqq28
                            obtain ⟨cq28, gq28, xq28⟩ := hqq28
                            have fq28 := fr_trans fs11 gq28 rfl
                            have w3876 := (gq28.2.2 _ _ t_p0 0 rfl).1
                            have w3877 : mm_I s11 p0 0 = mm_I q2.2 p0 0 := by rw [← es11]; exact rd_k t_p0 tq5 (by decide)
                            have a3879 := zi_and p2 8 (by decide)
                            exact sw_some ⟨cq28, fq28, (by (try simp only [zp, zo, zq] at u3429 xq2 h3430 xq12 h3435 xq14 a3441 u3442 h3443 h3444 h3445 h3726 h3790 a3854 h3855 w3856 w3857 f3858 r3859 r3860 r3861 h3862 h3866 h3867 h3871 h3872 w3876 w3877 a3879 ⊢) <;> (try simp only [zz, Int32.reduceToInt, ne_eq] at u3429 xq2 h3430 xq12 h3435 xq14 a3441 u3442 h3443 h3444 h3445 h3726 h3790 a3854 h3855 w3856 w3857 f3858 r3859 r3860 r3861 h3862 h3866 h3867 h3871 h3872 w3876 w3877 a3879 ⊢) <;> (try simp (disch := omega) only [zb] at u3429 xq2 h3430 xq12 h3435 xq14 a3441 u3442 h3443 h3444 h3445 h3726 h3790 a3854 h3855 w3856 w3857 f3858 r3859 r3860 r3861 h3862 h3866 h3867 h3871 h3872 w3876 w3877 a3879 ⊢) <;> first | omega | ((try simp (disch := omega) only [zb] at u3429 xq2 h3430 xq12 h3435 xq14 a3441 u3442 h3443 h3444 h3445 h3726 h3790 a3854 h3855 w3856 w3857 f3858 r3859 r3860 r3861 h3862 h3866 h3867 h3871 h3872 w3876 w3877 a3879 ⊢) <;> omega))⟩
                        · refine sw_sh (ci_sh cs11 t_p0 rfl) ?_
                          refine sw_on (sX9_put cs11 t_p0 (by (try simp only [zp, zo, zq] at u3429 xq2 h3430 xq12 h3435 xq14 a3441 u3442 h3443 h3444 h3445 h3726 h3790 a3854 h3855 w3856 w3857 f3858 r3859 r3860 r3861 h3862 h3866 h3867 h3871 ⊢) <;> (try simp only [zz, Int32.reduceToInt, ne_eq] at u3429 xq2 h3430 xq12 h3435 xq14 a3441 u3442 h3443 h3444 h3445 h3726 h3790 a3854 h3855 w3856 w3857 f3858 r3859 r3860 r3861 h3862 h3866 h3867 h3871 ⊢) <;> (try simp (disch := omega) only [zb] at u3429 xq2 h3430 xq12 h3435 xq14 a3441 u3442 h3443 h3444 h3445 h3726 h3790 a3854 h3855 w3856 w3857 f3858 r3859 r3860 r3861 h3862 h3866 h3867 h3871 ⊢) <;> first | omega | ((try simp (disch := omega) only [zb] at u3429 xq2 h3430 xq12 h3435 xq14 a3441 u3442 h3443 h3444 h3445 h3726 h3790 a3854 h3855 w3856 w3857 f3858 r3859 r3860 r3861 h3862 h3866 h3867 h3871 ⊢) <;> omega)) ) ?_
                          intro q30 hqq30
                          obtain ⟨cq30, gq30, xq30⟩ := hqq30
                          have fq30 := fr_trans fs11 gq30 rfl
                          unfold fX9_pair_264
                          refine sw_ite (fun h3880 => ?_) (fun h3880 => ?_)
                          · have w3881 := (gq30.2.2 _ _ t_p0 0 rfl).1
                            have w3882 : mm_I s11 p0 0 = mm_I q2.2 p0 0 := by rw [← es11]; exact rd_k t_p0 tq5 (by decide)
                            have a3884 := zi_and p2 8 (by decide)
                            exact sw_some ⟨cq30, fq30, (by (try simp only [zp, zo, zq] at u3429 xq2 h3430 xq12 h3435 xq14 a3441 u3442 h3443 h3444 h3445 h3726 h3790 a3854 h3855 w3856 w3857 f3858 r3859 r3860 r3861 h3862 h3866 h3867 h3871 h3880 w3881 w3882 a3884 ⊢) <;> (try simp only [zz, Int32.reduceToInt, ne_eq] at u3429 xq2 h3430 xq12 h3435 xq14 a3441 u3442 h3443 h3444 h3445 h3726 h3790 a3854 h3855 w3856 w3857 f3858 r3859 r3860 r3861 h3862 h3866 h3867 h3871 h3880 w3881 w3882 a3884 ⊢) <;> (try simp (disch := omega) only [zb] at u3429 xq2 h3430 xq12 h3435 xq14 a3441 u3442 h3443 h3444 h3445 h3726 h3790 a3854 h3855 w3856 w3857 f3858 r3859 r3860 r3861 h3862 h3866 h3867 h3871 h3880 w3881 w3882 a3884 ⊢) <;> first | omega | ((try simp (disch := omega) only [zb] at u3429 xq2 h3430 xq12 h3435 xq14 a3441 u3442 h3443 h3444 h3445 h3726 h3790 a3854 h3855 w3856 w3857 f3858 r3859 r3860 r3861 h3862 h3866 h3867 h3871 h3880 w3881 w3882 a3884 ⊢) <;> omega))⟩
                          · refine sw_sh (ci_sh cq30 t_p0 rfl) ?_
                            refine sw_on (sX9_put cq30 t_p0 (by (try simp only [zp, zo, zq] at u3429 xq2 h3430 xq12 h3435 xq14 a3441 u3442 h3443 h3444 h3445 h3726 h3790 a3854 h3855 w3856 w3857 f3858 r3859 r3860 r3861 h3862 h3866 h3867 h3871 h3880 ⊢) <;> (try simp only [zz, Int32.reduceToInt, ne_eq] at u3429 xq2 h3430 xq12 h3435 xq14 a3441 u3442 h3443 h3444 h3445 h3726 h3790 a3854 h3855 w3856 w3857 f3858 r3859 r3860 r3861 h3862 h3866 h3867 h3871 h3880 ⊢) <;> (try simp (disch := omega) only [zb] at u3429 xq2 h3430 xq12 h3435 xq14 a3441 u3442 h3443 h3444 h3445 h3726 h3790 a3854 h3855 w3856 w3857 f3858 r3859 r3860 r3861 h3862 h3866 h3867 h3871 h3880 ⊢) <;> first | omega | ((try simp (disch := omega) only [zb] at u3429 xq2 h3430 xq12 h3435 xq14 a3441 u3442 h3443 h3444 h3445 h3726 h3790 a3854 h3855 w3856 w3857 f3858 r3859 r3860 r3861 h3862 h3866 h3867 h3871 h3880 ⊢) <;> omega)) ) ?_
                            intro q28 hqq28
                            obtain ⟨cq28, gq28, xq28⟩ := hqq28
                            have fq28 := fr_trans fq30 gq28 rfl
                            have w3885 := (gq28.2.2 _ _ t_p0 0 rfl).1
                            have w3886 := (gq30.2.2 _ _ t_p0 0 rfl).1
                            have w3887 : mm_I s11 p0 0 = mm_I q2.2 p0 0 := by rw [← es11]; exact rd_k t_p0 tq5 (by decide)
                            have a3889 := zi_and p2 8 (by decide)
                            exact sw_some ⟨cq28, fq28, (by (try simp only [zp, zo, zq] at u3429 xq2 h3430 xq12 h3435 xq14 a3441 u3442 h3443 h3444 h3445 h3726 h3790 a3854 h3855 w3856 w3857 f3858 r3859 r3860 r3861 h3862 h3866 h3867 h3871 h3880 w3885 w3886 w3887 a3889 ⊢) <;> (try simp only [zz, Int32.reduceToInt, ne_eq] at u3429 xq2 h3430 xq12 h3435 xq14 a3441 u3442 h3443 h3444 h3445 h3726 h3790 a3854 h3855 w3856 w3857 f3858 r3859 r3860 r3861 h3862 h3866 h3867 h3871 h3880 w3885 w3886 w3887 a3889 ⊢) <;> (try simp (disch := omega) only [zb] at u3429 xq2 h3430 xq12 h3435 xq14 a3441 u3442 h3443 h3444 h3445 h3726 h3790 a3854 h3855 w3856 w3857 f3858 r3859 r3860 r3861 h3862 h3866 h3867 h3871 h3880 w3885 w3886 w3887 a3889 ⊢) <;> first | omega | ((try simp (disch := omega) only [zb] at u3429 xq2 h3430 xq12 h3435 xq14 a3441 u3442 h3443 h3444 h3445 h3726 h3790 a3854 h3855 w3856 w3857 f3858 r3859 r3860 r3861 h3862 h3866 h3867 h3871 h3880 w3885 w3886 w3887 a3889 ⊢) <;> omega))⟩
                    · unfold fX9_pair_250
                      refine sw_ite (fun h3890 => ?_) (fun h3890 => ?_)
                      · unfold fX9_pair_264
                        refine sw_ite (fun h3891 => ?_) (fun h3891 => ?_)
                        · have w3892 : mm_I s11 p0 0 = mm_I q2.2 p0 0 := by rw [← es11]; exact rd_k t_p0 tq5 (by decide)
                          have a3894 := zi_and p2 8 (by decide)
                          exact sw_some ⟨cs11, fs11, (by (try simp only [zp, zo, zq] at u3429 xq2 h3430 xq12 h3435 xq14 a3441 u3442 h3443 h3444 h3445 h3726 h3790 a3854 h3855 w3856 w3857 f3858 r3859 r3860 r3861 h3862 h3866 h3890 h3891 w3892 a3894 ⊢) <;> (try simp only [zz, Int32.reduceToInt, ne_eq] at u3429 xq2 h3430 xq12 h3435 xq14 a3441 u3442 h3443 h3444 h3445 h3726 h3790 a3854 h3855 w3856 w3857 f3858 r3859 r3860 r3861 h3862 h3866 h3890 h3891 w3892 a3894 ⊢) <;> (try simp (disch := omega) only [zb] at u3429 xq2 h3430 xq12 h3435 xq14 a3441 u3442 h3443 h3444 h3445 h3726 h3790 a3854 h3855 w3856 w3857 f3858 r3859 r3860 r3861 h3862 h3866 h3890 h3891 w3892 a3894 ⊢) <;> first | omega | ((try simp (disch := omega) only [zb] at u3429 xq2 h3430 xq12 h3435 xq14 a3441 u3442 h3443 h3444 h3445 h3726 h3790 a3854 h3855 w3856 w3857 f3858 r3859 r3860 r3861 h3862 h3866 h3890 h3891 w3892 a3894 ⊢) <;> omega))⟩
                        · refine sw_sh (ci_sh cs11 t_p0 rfl) ?_
                          refine sw_on (sX9_put cs11 t_p0 (by (try simp only [zp, zo, zq] at u3429 xq2 h3430 xq12 h3435 xq14 a3441 u3442 h3443 h3444 h3445 h3726 h3790 a3854 h3855 w3856 w3857 f3858 r3859 r3860 r3861 h3862 h3866 h3890 h3891 ⊢) <;> (try simp only [zz, Int32.reduceToInt, ne_eq] at u3429 xq2 h3430 xq12 h3435 xq14 a3441 u3442 h3443 h3444 h3445 h3726 h3790 a3854 h3855 w3856 w3857 f3858 r3859 r3860 r3861 h3862 h3866 h3890 h3891 ⊢) <;> (try simp (disch := omega) only [zb] at u3429 xq2 h3430 xq12 h3435 xq14 a3441 u3442 h3443 h3444 h3445 h3726 h3790 a3854 h3855 w3856 w3857 f3858 r3859 r3860 r3861 h3862 h3866 h3890 h3891 ⊢) <;> first | omega | ((try simp (disch := omega) only [zb] at u3429 xq2 h3430 xq12 h3435 xq14 a3441 u3442 h3443 h3444 h3445 h3726 h3790 a3854 h3855 w3856 w3857 f3858 r3859 r3860 r3861 h3862 h3866 h3890 h3891 ⊢) <;> omega)) ) ?_
                          intro q28 hqq28
                          obtain ⟨cq28, gq28, xq28⟩ := hqq28
                          have fq28 := fr_trans fs11 gq28 rfl
                          have w3895 := (gq28.2.2 _ _ t_p0 0 rfl).1
                          have w3896 : mm_I s11 p0 0 = mm_I q2.2 p0 0 := by rw [← es11]; exact rd_k t_p0 tq5 (by decide)
                          have a3898 := zi_and p2 8 (by decide)
                          exact sw_some ⟨cq28, fq28, (by (try simp only [zp, zo, zq] at u3429 xq2 h3430 xq12 h3435 xq14 a3441 u3442 h3443 h3444 h3445 h3726 h3790 a3854 h3855 w3856 w3857 f3858 r3859 r3860 r3861 h3862 h3866 h3890 h3891 w3895 w3896 a3898 ⊢) <;> (try simp only [zz, Int32.reduceToInt, ne_eq] at u3429 xq2 h3430 xq12 h3435 xq14 a3441 u3442 h3443 h3444 h3445 h3726 h3790 a3854 h3855 w3856 w3857 f3858 r3859 r3860 r3861 h3862 h3866 h3890 h3891 w3895 w3896 a3898 ⊢) <;> (try simp (disch := omega) only [zb] at u3429 xq2 h3430 xq12 h3435 xq14 a3441 u3442 h3443 h3444 h3445 h3726 h3790 a3854 h3855 w3856 w3857 f3858 r3859 r3860 r3861 h3862 h3866 h3890 h3891 w3895 w3896 a3898 ⊢) <;> first | omega | ((try simp (disch := omega) only [zb] at u3429 xq2 h3430 xq12 h3435 xq14 a3441 u3442 h3443 h3444 h3445 h3726 h3790 a3854 h3855 w3856 w3857 f3858 r3859 r3860 r3861 h3862 h3866 h3890 h3891 w3895 w3896 a3898 ⊢) <;> omega))⟩
                      · refine sw_sh (ci_sh cs11 t_p0 rfl) ?_
                        refine sw_on (sX9_put cs11 t_p0 (by (try simp only [zp, zo, zq] at u3429 xq2 h3430 xq12 h3435 xq14 a3441 u3442 h3443 h3444 h3445 h3726 h3790 a3854 h3855 w3856 w3857 f3858 r3859 r3860 r3861 h3862 h3866 h3890 ⊢) <;> (try simp only [zz, Int32.reduceToInt, ne_eq] at u3429 xq2 h3430 xq12 h3435 xq14 a3441 u3442 h3443 h3444 h3445 h3726 h3790 a3854 h3855 w3856 w3857 f3858 r3859 r3860 r3861 h3862 h3866 h3890 ⊢) <;> (try simp (disch := omega) only [zb] at u3429 xq2 h3430 xq12 h3435 xq14 a3441 u3442 h3443 h3444 h3445 h3726 h3790 a3854 h3855 w3856 w3857 f3858 r3859 r3860 r3861 h3862 h3866 h3890 ⊢) <;> first | omega | ((try simp (disch := omega) only [zb] at u3429 xq2 h3430 xq12 h3435 xq14 a3441 u3442 h3443 h3444 h3445 h3726 h3790 a3854 h3855 w3856 w3857 f3858 r3859 r3860 r3861 h3862 h3866 h3890 ⊢) <;> omega)) ) ?_
                        intro q30 hqq30
                        obtain ⟨cq30, gq30, xq30⟩ := hqq30
                        have fq30 := fr_trans fs11 gq30 rfl
                        unfold fX9_pair_264
                        refine sw_ite (fun h3899 => ?_) (fun h3899 => ?_)
                        · have w3900 := (gq30.2.2 _ _ t_p0 0 rfl).1
                          have w3901 : mm_I s11 p0 0 = mm_I q2.2 p0 0 := by rw [← es11]; exact rd_k t_p0 tq5 (by decide)
                          have a3903 := zi_and p2 8 (by decide)
                          exact sw_some ⟨cq30, fq30, (by (try simp only [zp, zo, zq] at u3429 xq2 h3430 xq12 h3435 xq14 a3441 u3442 h3443 h3444 h3445 h3726 h3790 a3854 h3855 w3856 w3857 f3858 r3859 r3860 r3861 h3862 h3866 h3890 h3899 w3900 w3901 a3903 ⊢) <;> (try simp only [zz, Int32.reduceToInt, ne_eq] at u3429 xq2 h3430 xq12 h3435 xq14 a3441 u3442 h3443 h3444 h3445 h3726 h3790 a3854 h3855 w3856 w3857 f3858 r3859 r3860 r3861 h3862 h3866 h3890 h3899 w3900 w3901 a3903 ⊢) <;> (try simp (disch := omega) only [zb] at u3429 xq2 h3430 xq12 h3435 xq14 a3441 u3442 h3443 h3444 h3445 h3726 h3790 a3854 h3855 w3856 w3857 f3858 r3859 r3860 r3861 h3862 h3866 h3890 h3899 w3900 w3901 a3903 ⊢) <;> first | omega | ((try simp (disch := omega) only [zb] at u3429 xq2 h3430 xq12 h3435 xq14 a3441 u3442 h3443 h3444 h3445 h3726 h3790 a3854 h3855 w3856 w3857 f3858 r3859 r3860 r3861 h3862 h3866 h3890 h3899 w3900 w3901 a3903 ⊢) <;> omega))⟩
                        · refine sw_sh (ci_sh cq30 t_p0 rfl) ?_
                          refine sw_on (sX9_put cq30 t_p0 (by (try simp only [zp, zo, zq] at u3429 xq2 h3430 xq12 h3435 xq14 a3441 u3442 h3443 h3444 h3445 h3726 h3790 a3854 h3855 w3856 w3857 f3858 r3859 r3860 r3861 h3862 h3866 h3890 h3899 ⊢) <;> (try simp only [zz, Int32.reduceToInt, ne_eq] at u3429 xq2 h3430 xq12 h3435 xq14 a3441 u3442 h3443 h3444 h3445 h3726 h3790 a3854 h3855 w3856 w3857 f3858 r3859 r3860 r3861 h3862 h3866 h3890 h3899 ⊢) <;> (try simp (disch := omega) only [zb] at u3429 xq2 h3430 xq12 h3435 xq14 a3441 u3442 h3443 h3444 h3445 h3726 h3790 a3854 h3855 w3856 w3857 f3858 r3859 r3860 r3861 h3862 h3866 h3890 h3899 ⊢) <;> first | omega | ((try simp (disch := omega) only [zb] at u3429 xq2 h3430 xq12 h3435 xq14 a3441 u3442 h3443 h3444 h3445 h3726 h3790 a3854 h3855 w3856 w3857 f3858 r3859 r3860 r3861 h3862 h3866 h3890 h3899 ⊢) <;> omega)) ) ?_
                          intro q28 hqq28
                          obtain ⟨cq28, gq28, xq28⟩ := hqq28
                          have fq28 := fr_trans fq30 gq28 rfl
                          have w3904 := (gq28.2.2 _ _ t_p0 0 rfl).1
                          have w3905 := (gq30.2.2 _ _ t_p0 0 rfl).1
                          have w3906 : mm_I s11 p0 0 = mm_I q2.2 p0 0 := by rw [← es11]; exact rd_k t_p0 tq5 (by decide)
                          have a3908 := zi_and p2 8 (by decide)
                          exact sw_some ⟨cq28, fq28, (by (try simp only [zp, zo, zq] at u3429 xq2 h3430 xq12 h3435 xq14 a3441 u3442 h3443 h3444 h3445 h3726 h3790 a3854 h3855 w3856 w3857 f3858 r3859 r3860 r3861 h3862 h3866 h3890 h3899 w3904 w3905 w3906 a3908 ⊢) <;> (try simp only [zz, Int32.reduceToInt, ne_eq] at u3429 xq2 h3430 xq12 h3435 xq14 a3441 u3442 h3443 h3444 h3445 h3726 h3790 a3854 h3855 w3856 w3857 f3858 r3859 r3860 r3861 h3862 h3866 h3890 h3899 w3904 w3905 w3906 a3908 ⊢) <;> (try simp (disch := omega) only [zb] at u3429 xq2 h3430 xq12 h3435 xq14 a3441 u3442 h3443 h3444 h3445 h3726 h3790 a3854 h3855 w3856 w3857 f3858 r3859 r3860 r3861 h3862 h3866 h3890 h3899 w3904 w3905 w3906 a3908 ⊢) <;> first | omega | ((try simp (disch := omega) only [zb] at u3429 xq2 h3430 xq12 h3435 xq14 a3441 u3442 h3443 h3444 h3445 h3726 h3790 a3854 h3855 w3856 w3857 f3858 r3859 r3860 r3861 h3862 h3866 h3890 h3899 w3904 w3905 w3906 a3908 ⊢) <;> omega))⟩
                · refine sw_ite (fun h3909 => ?_) (fun h3909 => ?_)
                  · unfold fX9_pair_222
                    unfold fX9_pair_228
                    have w3910 : mm_I s11 q17 p1.toNatClampNeg = mm_I q2.2 q17 p1.toNatClampNeg := by rw [← es11]; exact rd_k tq17 tq5 (by decide)
                    have w3911 := (gq2.2.2 _ _ tq17 p1.toNatClampNeg rfl).1
                    have f3912 : mm_I σ0 q17 p1.toNatClampNeg = -1 := hv q17 59 p1.toNatClampNeg tq17 (Or.inr (by decide)) (by (try simp only [zp, zo, zq] at u3429 xq2 h3430 xq12 h3435 xq14 a3441 u3442 h3443 h3444 h3445 h3726 h3790 a3854 h3855 h3909 w3910 w3911 ⊢) <;> (try simp only [zz, Int32.reduceToInt, ne_eq] at u3429 xq2 h3430 xq12 h3435 xq14 a3441 u3442 h3443 h3444 h3445 h3726 h3790 a3854 h3855 h3909 w3910 w3911 ⊢) <;> (try simp (disch := omega) only [zb] at u3429 xq2 h3430 xq12 h3435 xq14 a3441 u3442 h3443 h3444 h3445 h3726 h3790 a3854 h3855 h3909 w3910 w3911 ⊢) <;> first | omega | ((try simp (disch := omega) only [zb] at u3429 xq2 h3430 xq12 h3435 xq14 a3441 u3442 h3443 h3444 h3445 h3726 h3790 a3854 h3855 h3909 w3910 w3911 ⊢) <;> omega))
                    have r3913 := ci_rg c0 tq17 p1.toNatClampNeg (lo := (-1)) (hi := 3) rfl
                    have r3914 := ci_rg cq2 tq17 p1.toNatClampNeg (lo := (-1)) (hi := 3) rfl
                    have r3915 := ci_rg cs11 tq17 p1.toNatClampNeg (lo := (-1)) (hi := 3) rfl
                    refine sw_ite (fun h3916 => ?_) (fun h3916 => ?_)
                    · have w3917 : mm_I s11 p0 0 = mm_I q2.2 p0 0 := by rw [← es11]; exact rd_k t_p0 tq5 (by decide)
                      have a3919 := zi_and p2 8 (by decide)
                      exact sw_some ⟨cs11, fs11, (by (try simp only [zp, zo, zq] at u3429 xq2 h3430 xq12 h3435 xq14 a3441 u3442 h3443 h3444 h3445 h3726 h3790 a3854 h3855 h3909 w3910 w3911 f3912 r3913 r3914 r3915 h3916 w3917 a3919 ⊢) <;> (try simp only [zz, Int32.reduceToInt, ne_eq] at u3429 xq2 h3430 xq12 h3435 xq14 a3441 u3442 h3443 h3444 h3445 h3726 h3790 a3854 h3855 h3909 w3910 w3911 f3912 r3913 r3914 r3915 h3916 w3917 a3919 ⊢) <;> (try simp (disch := omega) only [zb] at u3429 xq2 h3430 xq12 h3435 xq14 a3441 u3442 h3443 h3444 h3445 h3726 h3790 a3854 h3855 h3909 w3910 w3911 f3912 r3913 r3914 r3915 h3916 w3917 a3919 ⊢) <;> first | omega | ((try simp (disch := omega) only [zb] at u3429 xq2 h3430 xq12 h3435 xq14 a3441 u3442 h3443 h3444 h3445 h3726 h3790 a3854 h3855 h3909 w3910 w3911 f3912 r3913 r3914 r3915 h3916 w3917 a3919 ⊢) <;> omega))⟩
                    · refine sw_ite (fun h3920 => ?_) (fun h3920 => ?_)
                      · refine sw_ite (fun h3921 => ?_) (fun h3921 => ?_)
                        · have w3922 : mm_I s11 p0 0 = mm_I q2.2 p0 0 := by rw [← es11]; exact rd_k t_p0 tq5 (by decide)
                          have a3924 := zi_and p2 8 (by decide)
                          exact sw_some ⟨cs11, fs11, (by (try simp only [zp, zo, zq] at u3429 xq2 h3430 xq12 h3435 xq14 a3441 u3442 h3443 h3444 h3445 h3726 h3790 a3854 h3855 h3909 w3910 w3911 f3912 r3913 r3914 r3915 h3916 h3920 h3921 w3922 a3924 ⊢) <;> (try simp only [zz, Int32.reduceToInt, ne_eq] at u3429 xq2 h3430 xq12 h3435 xq14 a3441 u3442 h3443 h3444 h3445 h3726 h3790 a3854 h3855 h3909 w3910 w3911 f3912 r3913 r3914 r3915 h3916 h3920 h3921 w3922 a3924 ⊢) <;> (try simp (disch := omega) only [zb] at u3429 xq2 h3430 xq12 h3435 xq14 a3441 u3442 h3443 h3444 h3445 h3726 h3790 a3854 h3855 h3909 w3910 w3911 f3912 r3913 r3914 r3915 h3916 h3920 h3921 w3922 a3924 ⊢) <;> first | omega | ((try simp (disch := omega) only [zb] at u3429 xq2 h3430 xq12 h3435 xq14 a3441 u3442 h3443 h3444 h3445 h3726 h3790 a3854 h3855 h3909 w3910 w3911 f3912 r3913 r3914 r3915 h3916 h3920 h3921 w3922 a3924 ⊢) <;> omega))⟩
                        · unfold fX9_pair_250
                          refine sw_ite (fun h3925 => ?_) (fun h3925 => ?_)
                          · unfold fX9_pair_264
                            refine sw_ite (fun h3926 => ?_) (fun h3926 => ?_)
                            · have w3927 : mm_I s11 p0 0 = mm_I q2.2 p0 0 := by rw [← es11]; exact rd_k t_p0 tq5 (by decide)
                              have a3929 := zi_and p2 8 (by decide)
                              exact sw_some ⟨cs11, fs11, (by (try simp only [zp, zo, zq] at u3429 xq2 h3430 xq12 h3435 xq14 a3441 u3442 h3443 h3444 h3445 h3726 h3790 a3854 h3855 h3909 w3910 w3911 f3912 r3913 r3914 r3915 h3916 h3920 h3921 h3925 h3926 w3927 a3929 ⊢) <;> (try simp only [zz, Int32.reduceToInt, ne_eq] at u3429 xq2 h3430 xq12 h3435 xq14 a3441 u3442 h3443 h3444 h3445 h3726 h3790 a3854 h3855 h3909 w3910 w3911 f3912 r3913 r3914 r3915 h3916 h3920 h3921 h3925 h3926 w3927 a3929 ⊢) <;> (try simp (disch := omega) only [zb] at u3429 xq2 h3430 xq12 h3435 xq14 a3441 u3442 h3443 h3444 h3445 h3726 h3790 a3854 h3855 h3909 w3910 w3911 f3912 r3913 r3914 r3915 h3916 h3920 h3921 h3925 h3926 w3927 a3929 ⊢) <;> first | omega | ((try simp (disch := omega) only [zb] at u3429 xq2 h3430 xq12 h3435 xq14 a3441 u3442 h3443 h3444 h3445 h3726 h3790 a3854 h3855 h3909 w3910 w3911 f3912 r3913 r3914 r3915 h3916 h3920 h3921 h3925 h3926 w3927 a3929 ⊢) <;> omega))⟩
                            · refine sw_sh (ci_sh cs11 t_p0 rfl) ?_
                              refine sw_on (sX9_put cs11 t_p0 (by (try simp only [zp, zo, zq] at u3429 xq2 h3430 xq12 h3435 xq14 a3441 u3442 h3443 h3444 h3445 h3726 h3790 a3854 h3855 h3909 w3910 w3911 f3912 r3913 r3914 r3915 h3916 h3920 h3921 h3925 h3926 ⊢) <;> (try simp only [zz, Int32.reduceToInt, ne_eq] at u3429 xq2 h3430 xq12 h3435 xq14 a3441 u3442 h3443 h3444 h3445 h3726 h3790 a3854 h3855 h3909 w3910 w3911 f3912 r3913 r3914 r3915 h3916 h3920 h3921 h3925 h3926 ⊢) <;> (try simp (disch := omega) only [zb] at u3429 xq2 h3430 xq12 h3435 xq14 a3441 u3442 h3443 h3444 h3445 h3726 h3790 a3854 h3855 h3909 w3910 w3911 f3912 r3913 r3914 r3915 h3916 h3920 h3921 h3925 h3926 ⊢) <;> first | omega | ((try simp (disch := omega) only [zb] at u3429 xq2 h3430 xq12 h3435 xq14 a3441 u3442 h3443 h3444 h3445 h3726 h3790 a3854 h3855 h3909 w3910 w3911 f3912 r3913 r3914 r3915 h3916 h3920 h3921 h3925 h3926 ⊢) <;> omega)) ) ?_
                              intro q28 hqq28
                              obtain ⟨cq28, gq28, xq28⟩ := hqq28
                              have fq28 := fr_trans fs11 gq28 rfl
                              have w3930 := (gq28.2.2 _ _ t_p0 0 rfl).1
                              have w3931 : mm_I s11 p0 0 = mm_I q2.2 p0 0 := by rw [← es11]; exact rd_k t_p0 tq5 (by decide)
                              have a3933 := zi_and p2 8 (by decide)
                              exact sw_some ⟨cq28, fq28, (by (try simp only [zp, zo, zq] at u3429 xq2 h3430 xq12 h3435 xq14 a3441 u3442 h3443 h3444 h3445 h3726 h3790 a3854 h3855 h3909 w3910 w3911 f3912 r3913 r3914 r3915 h3916 h3920 h3921 h3925 h3926 w3930 w3931 a3933 ⊢) <;> (try simp only [zz, Int32.reduceToInt, ne_eq] at u3429 xq2 h3430 xq12 h3435 xq14 a3441 u3442 h3443 h3444 h3445 h3726 h3790 a3854 h3855 h3909 w3910 w3911 f3912 r3913 r3914 r3915 h3916 h3920 h3921 h3925 h3926 w3930 w3931 a3933 ⊢) <;> (try simp (disch := omega) only [zb] at u3429 xq2 h3430 xq12 h3435 xq14 a3441 u3442 h3443 h3444 h3445 h3726 h3790 a3854 h3855 h3909 w3910 w3911 f3912 r3913 r3914 r3915 h3916 h3920 h3921 h3925 h3926 w3930 w3931 a3933 ⊢) <;> first | omega | ((try simp (disch := omega) only [zb] at u3429 xq2 h3430 xq12 h3435 xq14 a3441 u3442 h3443 h3444 h3445 h3726 h3790 a3854 h3855 h3909 w3910 w3911 f3912 r3913 r3914 r3915 h3916 h3920 h3921 h3925 h3926 w3930 w3931 a3933 ⊢) <;> omega))⟩
                          · refine sw_sh (ci_sh cs11 t_p0 rfl) ?_
                            refine sw_on (sX9_put cs11 t_p0 (by (try simp only [zp, zo, zq] at u3429 xq2 h3430 xq12 h3435 xq14 a3441 u3442 h3443 h3444 h3445 h3726 h3790 a3854 h3855 h3909 w3910 w3911 f3912 r3913 r3914 r3915 h3916 h3920 h3921 h3925 ⊢) <;> (try simp only [zz, Int32.reduceToInt, ne_eq] at u3429 xq2 h3430 xq12 h3435 xq14 a3441 u3442 h3443 h3444 h3445 h3726 h3790 a3854 h3855 h3909 w3910 w3911 f3912 r3913 r3914 r3915 h3916 h3920 h3921 h3925 ⊢) <;> (try simp (disch := omega) only [zb] at u3429 xq2 h3430 xq12 h3435 xq14 a3441 u3442 h3443 h3444 h3445 h3726 h3790 a3854 h3855 h3909 w3910 w3911 f3912 r3913 r3914 r3915 h3916 h3920 h3921 h3925 ⊢) <;> first | omega | ((try simp (disch := omega) only [zb] at u3429 xq2 h3430 xq12 h3435 xq14 a3441 u3442 h3443 h3444 h3445 h3726 h3790 a3854 h3855 h3909 w3910 w3911 f3912 r3913 r3914 r3915 h3916 h3920 h3921 h3925 ⊢) <;> omega)) ) ?_
                            intro q30 hqq30
                            obtain ⟨cq30, gq30, xq30⟩ := hqq30
                            have fq30 := fr_trans fs11 gq30 rfl
                            unfold fX9_pair_264
                            refine sw_ite (fun h3934 => ?_) (fun h3934 => ?_)
                            · have w3935 := (gq30.2.2 _ _ t_p0 0 rfl).1
                              have w3936 : mm_I s11 p0 0 = mm_I q2.2 p0 0 := by rw [← es11]; exact rd_k t_p0 tq5 (by decide)
                              have a3938 := zi_and p2 8 (by decide)
                              exact sw_some ⟨cq30, fq30, (by (try simp only [zp, zo, zq] at u3429 xq2 h3430 xq12 h3435 xq14 a3441 u3442 h3443 h3444 h3445 h3726 h3790 a3854 h3855 h3909 w3910 w3911 f3912 r3913 r3914 r3915 h3916 h3920 h3921 h3925 h3934 w3935 w3936 a3938 ⊢) <;> (try simp only [zz, Int32.reduceToInt, ne_eq] at u3429 xq2 h3430 xq12 h3435 xq14 a3441 u3442 h3443 h3444 h3445 h3726 h3790 a3854 h3855 h3909 w3910 w3911 f3912 r3913 r3914 r3915 h3916 h3920 h3921 h3925 h3934 w3935 w3936 a3938 ⊢) <;> (try simp (disch := omega) only [zb] at u3429 xq2 h3430 xq12 h3435 xq14 a3441 u3442 h3443 h3444 h3445 h3726 h3790 a3854 h3855 h3909 w3910 w3911 f3912 r3913 r3914 r3915 h3916 h3920 h3921 h3925 h3934 w3935 w3936 a3938 ⊢) <;> first | omega | ((try simp (disch := omega) only [zb] at u3429 xq2 h3430 xq12 h3435 xq14 a3441 u3442 h3443 h3444 h3445 h3726 h3790 a3854 h3855 h3909 w3910 w3911 f3912 r3913 r3914 r3915 h3916 h3920 h3921 h3925 h3934 w3935 w3936 a3938 ⊢) <;> omega))⟩
                            · refine sw_sh (ci_sh cq30 t_p0 rfl) ?_
                              refine sw_on (sX9_put cq30 t_p0 (by (try simp only [zp, zo, zq] at u3429 xq2 h3430 xq12 h3435 xq14 a3441 u3442 h3443 h3444 h3445 h3726 h3790 a3854 h3855 h3909 w3910 w3911 f3912 r3913 r3914 r3915 h3916 h3920 h3921 h3925 h3934 ⊢) <;> (try simp only [zz, Int32.reduceToInt, ne_eq] at u3429 xq2 h3430 xq12 h3435 xq14 a3441 u3442 h3443 h3444 h3445 h3726 h3790 a3854 h3855 h3909 w3910 w3911 f3912 r3913 r3914 r3915 h3916 h3920 h3921 h3925 h3934 ⊢) <;> (try simp (disch := omega) only [zb] at u3429 xq2 h3430 xq12 h3435 xq14 a3441 u3442 h3443 h3444 h3445 h3726 h3790 a3854 h3855 h3909 w3910 w3911 f3912 r3913 r3914 r3915 h3916 h3920 h3921 h3925 h3934 ⊢) <;> first | omega | ((try simp (disch := omega) only [zb] at u3429 xq2 h3430 xq12 h3435 xq14 a3441 u3442 h3443 h3444 h3445 h3726 h3790 a3854 h3855 h3909 w3910 w3911 f3912 r3913 r3914 r3915 h3916 h3920 h3921 h3925 h3934 ⊢) <;> omega)) ) ?_
                              intro q28 hqq28
                              obtain ⟨cq28, gq28, xq28⟩ := hqq28
                              have fq28 := fr_trans fq30 gq28 rfl
                              have w3939 := (gq28.2.2 _ _ t_p0 0 rfl).1
                              have w3940 := (gq30.2.2 _ _ t_p0 0 rfl).1
                              have w3941 : mm_I s11 p0 0 = mm_I q2.2 p0 0 := by rw [← es11]; exact rd_k t_p0 tq5 (by decide)
                              have a3943 := zi_and p2 8 (by decide)
                              exact sw_some ⟨cq28, fq28, (by (try simp only [zp, zo, zq] at u3429 xq2 h3430 xq12 h3435 xq14 a3441 u3442 h3443 h3444 h3445 h3726 h3790 a3854 h3855 h3909 w3910 w3911 f3912 r3913 r3914 r3915 h3916 h3920 h3921 h3925 h3934 w3939 w3940 w3941 a3943 ⊢) <;> (try simp only [zz, Int32.reduceToInt, ne_eq] at u3429 xq2 h3430 xq12 h3435 xq14 a3441 u3442 h3443 h3444 h3445 h3726 h3790 a3854 h3855 h3909 w3910 w3911 f3912 r3913 r3914 r3915 h3916 h3920 h3921 h3925 h3934 w3939 w3940 w3941 a3943 ⊢) <;> (try simp (disch := omega) only [zb] at u3429 xq2 h3430 xq12 h3435 xq14 a3441 u3442 h3443 h3444 h3445 h3726 h3790 a3854 h3855 h3909 w3910 w3911 f3912 r3913 r3914 r3915 h3916 h3920 h3921 h3925 h3934 w3939 w3940 w3941 a3943 ⊢) <;> first | omega | ((try simp (disch := omega) only [zb] at u3429 xq2 h3430 xq12 h3435 xq14 a3441 u3442 h3443 h3444 h3445 h3726 h3790 a3854 h3855 h3909 w3910 w3911 f3912 r3913 r3914 r3915 h3916 h3920 h3921 h3925 h3934 w3939 w3940 w3941 a3943 ⊢) <;> omega))⟩
                      · unfold fX9_pair_250
                        refine sw_ite (fun h3944 => ?_) (fun h3944 => ?_)
                        · unfold fX9_pair_264
                          refine sw_ite (fun h3945 => ?_) (fun h3945 => ?_)
                          · have w3946 : mm_I s11 p0 0 = mm_I q2.2 p0 0 := by rw [← es11]; exact rd_k t_p0 tq5 (by decide)
                            have a3948 := zi_and p2 8 (by decide)
                            exact sw_some ⟨cs11, fs11, (by (try simp only [zp, zo, zq] at u3429 xq2 h3430 xq12 h3435 xq14 a3441 u3442 h3443 h3444 h3445 h3726 h3790 a3854 h3855 h3909 w3910 w3911 f3912 r3913 r3914 r3915 h3916 h3920 h3944 h3945 w3946 a3948 ⊢) <;> (try simp only [zz, Int32.reduceToInt, ne_eq] at u3429 xq2 h3430 xq12 h3435 xq14 a3441 u3442 h3443 h3444 h3445 h3726 h3790 a3854 h3855 h3909 w3910 w3911 f3912 r3913 r3914 r3915 h3916 h3920 h3944 h3945 w3946 a3948 ⊢) <;> (try simp (disch := omega) only [zb] at u3429 xq2 h3430 xq12 h3435 xq14 a3441 u3442 h3443 h3444 h3445 h3726 h3790 a3854 h3855 h3909 w3910 w3911 f3912 r3913 r3914 r3915 h3916 h3920 h3944 h3945 w3946 a3948 ⊢) <;> first | omega | ((try simp (disch := omega) only [zb] at u3429 xq2 h3430 xq12 h3435 xq14 a3441 u3442 h3443 h3444 h3445 h3726 h3790 a3854 h3855 h3909 w3910 w3911 f3912 r3913 r3914 r3915 h3916 h3920 h3944 h3945 w3946 a3948 ⊢) <;> omega))⟩
                          · refine sw_sh (ci_sh cs11 t_p0 rfl) ?_
                            refine sw_on (sX9_put cs11 t_p0 (by (try simp only [zp, zo, zq] at u3429 xq2 h3430 xq12 h3435 xq14 a3441 u3442 h3443 h3444 h3445 h3726 h3790 a3854 h3855 h3909 w3910 w3911 f3912 r3913 r3914 r3915 h3916 h3920 h3944 h3945 ⊢) <;> (try simp only [zz, Int32.reduceToInt, ne_eq] at u3429 xq2 h3430 xq12 h3435 xq14 a3441 u3442 h3443 h3444 h3445 h3726 h3790 a3854 h3855 h3909 w3910 w3911 f3912 r3913 r3914 r3915 h3916 h3920 h3944 h3945 ⊢) <;> (try simp (disch := omega) only [zb] at u3429 xq2 h3430 xq12 h3435 xq14 a3441 u3442 h3443 h3444 h3445 h3726 h3790 a3854 h3855 h3909 w3910 w3911 f3912 r3913 r3914 r3915 h3916 h3920 h3944 h3945 ⊢) <;> first | omega | ((try simp (disch := omega) only [zb] at u3429 xq2 h3430 xq12 h3435 xq14 a3441 u3442 h3443 h3444 h3445 h3726 h3790 a3854 h3855 h3909 w3910 w3911 f3912 r3913 r3914 r3915 h3916 h3920 h3944 h3945 ⊢) <;> omega)) ) ?_
                            intro q28 hqq28
                            obtain ⟨cq28, gq28, xq28⟩ := hqq28
                            have fq28 := fr_trans fs11 gq28 rfl
                            have w3949 := (gq28.2.2 _ _ t_p0 0 rfl).1
                            have w3950 : mm_I s11 p0 0 = mm_I q2.2 p0 0 := by rw [← es11]; exact rd_k t_p0 tq5 (by decide)
                            have a3952 := zi_and p2 8 (by decide)
                            exact sw_some ⟨cq28, fq28, (by (try simp only [zp, zo, zq] at u3429 xq2 h3430 xq12 h3435 xq14 a3441 u3442 h3443 h3444 h3445 h3726 h3790 a3854 h3855 h3909 w3910 w3911 f3912 r3913 r3914 r3915 h3916 h3920 h3944 h3945 w3949 w3950 a3952 ⊢) <;> (try simp only [zz, Int32.reduceToInt, ne_eq] at u3429 xq2 h3430 xq12 h3435 xq14 a3441 u3442 h3443 h3444 h3445 h3726 h3790 a3854 h3855 h3909 w3910 w3911 f3912 r3913 r3914 r3915 h3916 h3920 h3944 h3945 w3949 w3950 a3952 ⊢) <;> (try simp (disch := omega) only [zb] at u3429 xq2 h3430 xq12 h3435 xq14 a3441 u3442 h3443 h3444 h3445 h3726 h3790 a3854 h3855 h3909 w3910 w3911 f3912 r3913 r3914 r3915 h3916 h3920 h3944 h3945 w3949 w3950 a3952 ⊢) <;> first | omega | ((try simp (disch := omega) only [zb] at u3429 xq2 h3430 xq12 h3435 xq14 a3441 u3442 h3443 h3444 h3445 h3726 h3790 a3854 h3855 h3909 w3910 w3911 f3912 r3913 r3914 r3915 h3916 h3920 h3944 h3945 w3949 w3950 a3952 ⊢) <;> omega))⟩
                        · refine sw_sh (ci_sh cs11 t_p0 rfl) ?_
                          refine sw_on (sX9_put cs11 t_p0 (by (try simp only [zp, zo, zq] at u3429 xq2 h3430 xq12 h3435 xq14 a3441 u3442 h3443 h3444 h3445 h3726 h3790 a3854 h3855 h3909 w3910 w3911 f3912 r3913 r3914 r3915 h3916 h3920 h3944 ⊢) <;> (try simp only [zz, Int32.reduceToInt, ne_eq] at u3429 xq2 h3430 xq12 h3435 xq14 a3441 u3442 h3443 h3444 h3445 h3726 h3790 a3854 h3855 h3909 w3910 w3911 f3912 r3913 r3914 r3915 h3916 h3920 h3944 ⊢) <;> (try simp (disch := omega) only [zb] at u3429 xq2 h3430 xq12 h3435 xq14 a3441 u3442 h3443 h3444 h3445 h3726 h3790 a3854 h3855 h3909 w3910 w3911 f3912 r3913 r3914 r3915 h3916 h3920 h3944 ⊢) <;> first | omega | ((try simp (disch := omega) only [zb] at u3429 xq2 h3430 xq12 h3435 xq14 a3441 u3442 h3443 h3444 h3445 h3726 h3790 a3854 h3855 h3909 w3910 w3911 f3912 r3913 r3914 r3915 h3916 h3920 h3944 ⊢) <;> omega)) ) ?_
                          intro q30 hqq30
                          obtain ⟨cq30, gq30, xq30⟩ := hqq30
                          have fq30 := fr_trans fs11 gq30 rfl
                          unfold fX9_pair_264
                          refine sw_ite (fun h3953 => ?_) (fun h3953 => ?_)
                          · have w3954 := (gq30.2.2 _ _ t_p0 0 rfl).1
                            have w3955 : mm_I s11 p0 0 = mm_I q2.2 p0 0 := by rw [← es11]; exact rd_k t_p0 tq5 (by decide)
                            have a3957 := zi_and p2 8 (by decide)
                            exact sw_some ⟨cq30, fq30, (by (try simp only [zp, zo, zq] at u3429 xq2 h3430 xq12 h3435 xq14 a3441 u3442 h3443 h3444 h3445 h3726 h3790 a3854 h3855 h3909 w3910 w3911 f3912 r3913 r3914 r3915 h3916 h3920 h3944 h3953 w3954 w3955 a3957 ⊢) <;> (try simp only [zz, Int32.reduceToInt, ne_eq] at u3429 xq2 h3430 xq12 h3435 xq14 a3441 u3442 h3443 h3444 h3445 h3726 h3790 a3854 h3855 h3909 w3910 w3911 f3912 r3913 r3914 r3915 h3916 h3920 h3944 h3953 w3954 w3955 a3957 ⊢) <;> (try simp (disch := omega) only [zb] at u3429 xq2 h3430 xq12 h3435 xq14 a3441 u3442 h3443 h3444 h3445 h3726 h3790 a3854 h3855 h3909 w3910 w3911 f3912 r3913 r3914 r3915 h3916 h3920 h3944 h3953 w3954 w3955 a3957 ⊢) <;> first | omega | ((try simp (disch := omega) only [zb] at u3429 xq2 h3430 xq12 h3435 xq14 a3441 u3442 h3443 h3444 h3445 h3726 h3790 a3854 h3855 h3909 w3910 w3911 f3912 r3913 r3914 r3915 h3916 h3920 h3944 h3953 w3954 w3955 a3957 ⊢) <;> omega))⟩
                          · refine sw_sh (ci_sh cq30 t_p0 rfl) ?_
                            refine sw_on (sX9_put cq30 t_p0 (by (try simp only [zp, zo, zq] at u3429 xq2 h3430 xq12 h3435 xq14 a3441 u3442 h3443 h3444 h3445 h3726 h3790 a3854 h3855 h3909 w3910 w3911 f3912 r3913 r3914 r3915 h3916 h3920 h3944 h3953 ⊢) <;> (try simp only [zz, Int32.reduceToInt, ne_eq] at u3429 xq2 h3430 xq12 h3435 xq14 a3441 u3442 h3443 h3444 h3445 h3726 h3790 a3854 h3855 h3909 w3910 w3911 f3912 r3913 r3914 r3915 h3916 h3920 h3944 h3953 ⊢) <;> (try simp (disch := omega) only [zb] at u3429 xq2 h3430 xq12 h3435 xq14 a3441 u3442 h3443 h3444 h3445 h3726 h3790 a3854 h3855 h3909 w3910 w3911 f3912 r3913 r3914 r3915 h3916 h3920 h3944 h3953 ⊢) <;> first | omega | ((try simp (disch := omega) only [zb] at u3429 xq2 h3430 xq12 h3435 xq14 a3441 u3442 h3443 h3444 h3445 h3726 h3790 a3854 h3855 h3909 w3910 w3911 f3912 r3913 r3914 r3915 h3916 h3920 h3944 h3953 ⊢) <;> omega)) ) ?_
                            intro q28 hqq28
                            obtain ⟨cq28, gq28, xq28⟩ := hqq28
                            have fq28 := fr_trans fq30 gq28 rfl
                            have w3958 := (gq28.2.2 _ _ t_p0 0 rfl).1
                            have w3959 := (gq30.2.2 _ _ t_p0 0 rfl).1
                            have w3960 : mm_I s11 p0 0 = mm_I q2.2 p0 0 := by rw [← es11]; exact rd_k t_p0 tq5 (by decide)
                            have a3962 := zi_and p2 8 (by decide)
                            exact sw_some ⟨cq28, fq28, (by (try simp only [zp, zo, zq] at u3429 xq2 h3430 xq12 h3435 xq14 a3441 u3442 h3443 h3444 h3445 h3726 h3790 a3854 h3855 h3909 w3910 w3911 f3912 r3913 r3914 r3915 h3916 h3920 h3944 h3953 w3958 w3959 w3960 a3962 ⊢) <;> (try simp only [zz, Int32.reduceToInt, ne_eq] at u3429 xq2 h3430 xq12 h3435 xq14 a3441 u3442 h3443 h3444 h3445 h3726 h3790 a3854 h3855 h3909 w3910 w3911 f3912 r3913 r3914 r3915 h3916 h3920 h3944 h3953 w3958 w3959 w3960 a3962 ⊢) <;> (try simp (disch := omega) only [zb] at u3429 xq2 h3430 xq12 h3435 xq14 a3441 u3442 h3443 h3444 h3445 h3726 h3790 a3854 h3855 h3909 w3910 w3911 f3912 r3913 r3914 r3915 h3916 h3920 h3944 h3953 w3958 w3959 w3960 a3962 ⊢) <;> first | omega | ((try simp (disch := omega) only [zb] at u3429 xq2 h3430 xq12 h3435 xq14 a3441 u3442 h3443 h3444 h3445 h3726 h3790 a3854 h3855 h3909 w3910 w3911 f3912 r3913 r3914 r3915 h3916 h3920 h3944 h3953 w3958 w3959 w3960 a3962 ⊢) <;> omega))⟩
                  · refine sw_ite (fun h3963 => ?_) (fun h3963 => ?_)
                    · unfold fX9_pair_222
                      unfold fX9_pair_228
                      have w3964 : mm_I s11 q17 p1.toNatClampNeg = mm_I q2.2 q17 p1.toNatClampNeg := by rw [← es11]; exact rd_k tq17 tq5 (by decide)
                      have w3965 := (gq2.2.2 _ _ tq17 p1.toNatClampNeg rfl).1
                      have f3966 : mm_I σ0 q17 p1.toNatClampNeg = -1 := hv q17 59 p1.toNatClampNeg tq17 (Or.inr (by decide)) (by (try simp only [zp, zo, zq] at u3429 xq2 h3430 xq12 h3435 xq14 a3441 u3442 h3443 h3444 h3445 h3726 h3790 a3854 h3855 h3909 h3963 w3964 w3965 ⊢) <;> (try simp only [zz, Int32.reduceToInt, ne_eq] at u3429 xq2 h3430 xq12 h3435 xq14 a3441 u3442 h3443 h3444 h3445 h3726 h3790 a3854 h3855 h3909 h3963 w3964 w3965 ⊢) <;> (try simp (disch := omega) only [zb] at u3429 xq2 h3430 xq12 h3435 xq14 a3441 u3442 h3443 h3444 h3445 h3726 h3790 a3854 h3855 h3909 h3963 w3964 w3965 ⊢) <;> first | omega | ((try simp (disch := omega) only [zb] at u3429 xq2 h3430 xq12 h3435 xq14 a3441 u3442 h3443 h3444 h3445 h3726 h3790 a3854 h3855 h3909 h3963 w3964 w3965 ⊢) <;> omega))
                      have r3967 := ci_rg c0 tq17 p1.toNatClampNeg (lo := (-1)) (hi := 3) rfl
                      have r3968 := ci_rg cq2 tq17 p1.toNatClampNeg (lo := (-1)) (hi := 3) rfl
                      have r3969 := ci_rg cs11 tq17 p1.toNatClampNeg (lo := (-1)) (hi := 3) rfl
                      refine sw_ite (fun h3970 => ?_) (fun h3970 => ?_)
                      · have w3971 : mm_I s11 p0 0 = mm_I q2.2 p0 0 := by rw [← es11]; exact rd_k t_p0 tq5 (by decide)
                        have a3973 := zi_and p2 8 (by decide)
                        exact sw_some ⟨cs11, fs11, (by (try simp only [zp, zo, zq] at u3429 xq2 h3430 xq12 h3435 xq14 a3441 u3442 h3443 h3444 h3445 h3726 h3790 a3854 h3855 h3909 h3963 w3964 w3965 f3966 r3967 r3968 r3969 h3970 w3971 a3973 ⊢) <;> (try simp only [zz, Int32.reduceToInt, ne_eq] at u3429 xq2 h3430 xq12 h3435 xq14 a3441 u3442 h3443 h3444 h3445 h3726 h3790 a3854 h3855 h3909 h3963 w3964 w3965 f3966 r3967 r3968 r3969 h3970 w3971 a3973 ⊢) <;> (try simp (disch := omega) only [zb] at u3429 xq2 h3430 xq12 h3435 xq14 a3441 u3442 h3443 h3444 h3445 h3726 h3790 a3854 h3855 h3909 h3963 w3964 w3965 f3966 r3967 r3968 r3969 h3970 w3971 a3973 ⊢) <;> first | omega | ((try simp (disch := omega) only [zb] at u3429 xq2 h3430 xq12 h3435 xq14 a3441 u3442 h3443 h3444 h3445 h3726 h3790 a3854 h3855 h3909 h3963 w3964 w3965 f3966 r3967 r3968 r3969 h3970 w3971 a3973 ⊢) <;> omega))⟩
                      · refine sw_ite (fun h3974 => ?_) (fun h3974 => ?_)
                        · refine sw_ite (fun h3975 => ?_) (fun h3975 => ?_)
                          · have w3976 : mm_I s11 p0 0 = mm_I q2.2 p0 0 := by rw [← es11]; exact rd_k t_p0 tq5 (by decide)
                            have a3978 := zi_and p2 8 (by decide)
                            exact sw_some ⟨cs11, fs11, (by (try simp only [zp, zo, zq] at u3429 xq2 h3430 xq12 h3435 xq14 a3441 u3442 h3443 h3444 h3445 h3726 h3790 a3854 h3855 h3909 h3963 w3964 w3965 f3966 r3967 r3968 r3969 h3970 h3974 h3975 w3976 a3978 ⊢) <;> (try simp only [zz, Int32.reduceToInt, ne_eq] at u3429 xq2 h3430 xq12 h3435 xq14 a3441 u3442 h3443 h3444 h3445 h3726 h3790 a3854 h3855 h3909 h3963 w3964 w3965 f3966 r3967 r3968 r3969 h3970 h3974 h3975 w3976 a3978 ⊢) <;> (try simp (disch := omega) only [zb] at u3429 xq2 h3430 xq12 h3435 xq14 a3441 u3442 h3443 h3444 h3445 h3726 h3790 a3854 h3855 h3909 h3963 w3964 w3965 f3966 r3967 r3968 r3969 h3970 h3974 h3975 w3976 a3978 ⊢) <;> first | omega | ((try simp (disch := omega) only [zb] at u3429 xq2 h3430 xq12 h3435 xq14 a3441 u3442 h3443 h3444 h3445 h3726 h3790 a3854 h3855 h3909 h3963 w3964 w3965 f3966 r3967 r3968 r3969 h3970 h3974 h3975 w3976 a3978 ⊢) <;> omega))⟩
                          · unfold fX9_pair_250
                            refine sw_ite (fun h3979 => ?_) (fun h3979 => ?_)
                            · unfold fX9_pair_264
                              refine sw_ite (fun h3980 => ?_) (fun h3980 => ?_)
                              · have w3981 : mm_I s11 p0 0 = mm_I q2.2 p0 0 := by rw [← es11]; exact rd_k t_p0 tq5 (by decide)
                                have a3983 := zi_and p2 8 (by decide)
                                exact sw_some ⟨cs11, fs11, (by (try simp only [zp, zo, zq] at u3429 xq2 h3430 xq12 h3435 xq14 a3441 u3442 h3443 h3444 h3445 h3726 h3790 a3854 h3855 h3909 h3963 w3964 w3965 f3966 r3967 r3968 r3969 h3970 h3974 h3975 h3979 h3980 w3981 a3983 ⊢) <;> (try simp only [zz, Int32.reduceToInt, ne_eq] at u3429 xq2 h3430 xq12 h3435 xq14 a3441 u3442 h3443 h3444 h3445 h3726 h3790 a3854 h3855 h3909 h3963 w3964 w3965 f3966 r3967 r3968 r3969 h3970 h3974 h3975 h3979 h3980 w3981 a3983 ⊢) <;> (try simp (disch := omega) only [zb] at u3429 xq2 h3430 xq12 h3435 xq14 a3441 u3442 h3443 h3444 h3445 h3726 h3790 a3854 h3855 h3909 h3963 w3964 w3965 f3966 r3967 r3968 r3969 h3970 h3974 h3975 h3979 h3980 w3981 a3983 ⊢) <;> first | omega | ((try simp (disch := omega) only [zb] at u3429 xq2 h3430 xq12 h3435 xq14 a3441 u3442 h3443 h3444 h3445 h3726 h3790 a3854 h3855 h3909 h3963 w3964 w3965 f3966 r3967 r3968 r3969 h3970 h3974 h3975 h3979 h3980 w3981 a3983 ⊢) <;> omega))⟩
                              · refine sw_sh (ci_sh cs11 t_p0 rfl) ?_
                                refine sw_on (sX9_put cs11 t_p0 (by (try simp only [zp, zo, zq] at u3429 xq2 h3430 xq12 h3435 xq14 a3441 u3442 h3443 h3444 h3445 h3726 h3790 a3854 h3855 h3909 h3963 w3964 w3965 f3966 r3967 r3968 r3969 h3970 h3974 h3975 h3979 h3980 ⊢) <;> (try simp only [zz, Int32.reduceToInt, ne_eq] at u3429 xq2 h3430 xq12 h3435 xq14 a3441 u3442 h3443 h3444 h3445 h3726 h3790 a3854 h3855 h3909 h3963 w3964 w3965 f3966 r3967 r3968 r3969 h3970 h3974 h3975 h3979 h3980 ⊢) <;> (try simp (disch := omega) only [zb] at u3429 xq2 h3430 xq12 h3435 xq14 a3441 u3442 h3443 h3444 h3445 h3726 h3790 a3854 h3855 h3909 h3963 w3964 w3965 f3966 r3967 r3968 r3969 h3970 h3974 h3975 h3979 h3980 ⊢) <;> first | omega | ((try simp (disch := omega) only [zb] at u3429 xq2 h3430 xq12 h3435 xq14 a3441 u3442 h3443 h3444 h3445 h3726 h3790 a3854 h3855 h3909 h3963 w3964 w3965 f3966 r3967 r3968 r3969 h3970 h3974 h3975 h3979 h3980 ⊢) <;> omega)) ) ?_
                                intro q28 hqq28
                                obtain ⟨cq28, gq28, xq28⟩ := hqq28
                                have fq28 := fr_trans fs11 gq28 rfl
                                have w3984 := (gq28.2.2 _ _ t_p0 0 rfl).1
                                have w3985 : mm_I s11 p0 0 = mm_I q2.2 p0 0 := by rw [← es11]; exact rd_k t_p0 tq5 (by decide)
                                have a3987 := zi_and p2 8 (by decide)
                                exact sw_some ⟨cq28, fq28, (by (try simp only [zp, zo, zq] at u3429 xq2 h3430 xq12 h3435 xq14 a3441 u3442 h3443 h3444 h3445 h3726 h3790 a3854 h3855 h3909 h3963 w3964 w3965 f3966 r3967 r3968 r3969 h3970 h3974 h3975 h3979 h3980 w3984 w3985 a3987 ⊢) <;> (try simp only [zz, Int32.reduceToInt, ne_eq] at u3429 xq2 h3430 xq12 h3435 xq14 a3441 u3442 h3443 h3444 h3445 h3726 h3790 a3854 h3855 h3909 h3963 w3964 w3965 f3966 r3967 r3968 r3969 h3970 h3974 h3975 h3979 h3980 w3984 w3985 a3987 ⊢) <;> (try simp (disch := omega) only [zb] at u3429 xq2 h3430 xq12 h3435 xq14 a3441 u3442 h3443 h3444 h3445 h3726 h3790 a3854 h3855 h3909 h3963 w3964 w3965 f3966 r3967 r3968 r3969 h3970 h3974 h3975 h3979 h3980 w3984 w3985 a3987 ⊢) <;> first | omega | ((try simp (disch := omega) only [zb] at u3429 xq2 h3430 xq12 h3435 xq14 a3441 u3442 h3443 h3444 h3445 h3726 h3790 a3854 h3855 h3909 h3963 w3964 w3965 f3966 r3967 r3968 r3969 h3970 h3974 h3975 h3979 h3980 w3984 w3985 a3987 ⊢) <;> omega))⟩
                            · refine sw_sh (ci_sh cs11 t_p0 rfl) ?_
                              refine sw_on (sX9_put cs11 t_p0 (by (try simp only [zp, zo, zq] at u3429 xq2 h3430 xq12 h3435 xq14 a3441 u3442 h3443 h3444 h3445 h3726 h3790 a3854 h3855 h3909 h3963 w3964 w3965 f3966 r3967 r3968 r3969 h3970 h3974 h3975 h3979 ⊢) <;> (try simp only [zz, Int32.reduceToInt, ne_eq] at u3429 xq2 h3430 xq12 h3435 xq14 a3441 u3442 h3443 h3444 h3445 h3726 h3790 a3854 h3855 h3909 h3963 w3964 w3965 f3966 r3967 r3968 r3969 h3970 h3974 h3975 h3979 ⊢) <;> (try simp (disch := omega) only [zb] at u3429 xq2 h3430 xq12 h3435 xq14 a3441 u3442 h3443 h3444 h3445 h3726 h3790 a3854 h3855 h3909 h3963 w3964 w3965 f3966 r3967 r3968 r3969 h3970 h3974 h3975 h3979 ⊢) <;> first | omega | ((try simp (disch := omega) only [zb] at u3429 xq2 h3430 xq12 h3435 xq14 a3441 u3442 h3443 h3444 h3445 h3726 h3790 a3854 h3855 h3909 h3963 w3964 w3965 f3966 r3967 r3968 r3969 h3970 h3974 h3975 h3979 ⊢) <;> omega)) ) ?_
                              intro q30 hqq30
                              obtain ⟨cq30, gq30, xq30⟩ := hqq30
                              have fq30 := fr_trans fs11 gq30 rfl
                              unfold fX9_pair_264
                              refine sw_ite (fun h3988 => ?_) (fun h3988 => ?_)
                              · have w3989 := (gq30.2.2 _ _ t_p0 0 rfl).1
                                have w3990 : mm_I s11 p0 0 = mm_I q2.2 p0 0 := by rw [← es11]; exact rd_k t_p0 tq5 (by decide)
                                have a3992 := zi_and p2 8 (by decide)
                                exact sw_some ⟨cq30, fq30, (by (try simp only [zp, zo, zq] at u3429 xq2 h3430 xq12 h3435 xq14 a3441 u3442 h3443 h3444 h3445 h3726 h3790 a3854 h3855 h3909 h3963 w3964 w3965 f3966 r3967 r3968 r3969 h3970 h3974 h3975 h3979 h3988 w3989 w3990 a3992 ⊢) <;> (try simp only [zz, Int32.reduceToInt, ne_eq] at u3429 xq2 h3430 xq12 h3435 xq14 a3441 u3442 h3443 h3444 h3445 h3726 h3790 a3854 h3855 h3909 h3963 w3964 w3965 f3966 r3967 r3968 r3969 h3970 h3974 h3975 h3979 h3988 w3989 w3990 a3992 ⊢) <;> (try simp (disch := omega) only [zb] at u3429 xq2 h3430 xq12 h3435 xq14 a3441 u3442 h3443 h3444 h3445 h3726 h3790 a3854 h3855 h3909 h3963 w3964 w3965 f3966 r3967 r3968 r3969 h3970 h3974 h3975 h3979 h3988 w3989 w3990 a3992 ⊢) <;> first | omega | ((try simp (disch := omega) only [zb] at u3429 xq2 h3430 xq12 h3435 xq14 a3441 u3442 h3443 h3444 h3445 h3726 h3790 a3854 h3855 h3909 h3963 w3964 w3965 f3966 r3967 r3968 r3969 h3970 h3974 h3975 h3979 h3988 w3989 w3990 a3992 ⊢) <;> omega))⟩
                              · refine sw_sh (ci_sh cq30 t_p0 rfl) ?_
                                refine sw_on (sX9_put cq30 t_p0 (by (try simp only [zp, zo, zq] at u3429 xq2 h3430 xq12 h3435 xq14 a3441 u3442 h3443 h3444 h3445 h3726 h3790 a3854 h3855 h3909 h3963 w3964 w3965 f3966 r3967 r3968 r3969 h3970 h3974 h3975 h3979 h3988 ⊢) <;> (try simp only [zz, Int32.reduceToInt, ne_eq] at u3429 xq2 h3430 xq12 h3435 xq14 a3441 u3442 h3443 h3444 h3445 h3726 h3790 a3854 h3855 h3909 h3963 w3964 w3965 f3966 r3967 r3968 r3969 h3970 h3974 h3975 h3979 h3988 ⊢) <;> (try simp (disch := omega) only [zb] at u3429 xq2 h3430 xq12 h3435 xq14 a3441 u3442 h3443 h3444 h3445 h3726 h3790 a3854 h3855 h3909 h3963 w3964 w3965 f3966 r3967 r3968 r3969 h3970 h3974 h3975 h3979 h3988 ⊢) <;> first | omega | ((try simp (disch := omega) only [zb] at u3429 xq2 h3430 xq12 h3435 xq14 a3441 u3442 h3443 h3444 h3445 h3726 h3790 a3854 h3855 h3909 h3963 w3964 w3965 f3966 r3967 r3968 r3969 h3970 h3974 h3975 h3979 h3988 ⊢) <;> omega)) ) ?_
                                intro q28 hqq28
                                obtain ⟨cq28, gq28, xq28⟩ := hqq28
                                have fq28 := fr_trans fq30 gq28 rfl
                                have w3993 := (gq28.2.2 _ _ t_p0 0 rfl).1
                                have w3994 := (gq30.2.2 _ _ t_p0 0 rfl).1
                                have w3995 : mm_I s11 p0 0 = mm_I q2.2 p0 0 := by rw [← es11]; exact rd_k t_p0 tq5 (by decide)
                                have a3997 := zi_and p2 8 (by decide)
                                exact sw_some ⟨cq28, fq28, (by (try simp only [zp, zo, zq] at u3429 xq2 h3430 xq12 h3435 xq14 a3441 u3442 h3443 h3444 h3445 h3726 h3790 a3854 h3855 h3909 h3963 w3964 w3965 f3966 r3967 r3968 r3969 h3970 h3974 h3975 h3979 h3988 w3993 w3994 w3995 a3997 ⊢) <;> (try simp only [zz, Int32.reduceToInt, ne_eq] at u3429 xq2 h3430 xq12 h3435 xq14 a3441 u3442 h3443 h3444 h3445 h3726 h3790 a3854 h3855 h3909 h3963 w3964 w3965 f3966 r3967 r3968 r3969 h3970 h3974 h3975 h3979 h3988 w3993 w3994 w3995 a3997 ⊢) <;> (try simp (disch := omega) only [zb] at u3429 xq2 h3430 xq12 h3435 xq14 a3441 u3442 h3443 h3444 h3445 h3726 h3790 a3854 h3855 h3909 h3963 w3964 w3965 f3966 r3967 r3968 r3969 h3970 h3974 h3975 h3979 h3988 w3993 w3994 w3995 a3997 ⊢) <;> first | omega | ((try simp (disch := omega) only [zb] at u3429 xq2 h3430 xq12 h3435 xq14 a3441 u3442 h3443 h3444 h3445 h3726 h3790 a3854 h3855 h3909 h3963 w3964 w3965 f3966 r3967 r3968 r3969 h3970 h3974 h3975 h3979 h3988 w3993 w3994 w3995 a3997 ⊢) <;> omega))⟩
                        · unfold fX9_pair_250
                          refine sw_ite (fun h3998 => ?_) (fun h3998 => ?_)
                          · unfold fX9_pair_264
                            refine sw_ite (fun h3999 => ?_) (fun h3999 => ?_)
                            · have w4000 : mm_I s11 p0 0 = mm_I q2.2 p0 0 := by rw [← es11]; exact rd_k t_p0 tq5 (by decide)
                              have a4002 := zi_and p2 8 (by decide)
                              exact sw_some ⟨cs11, fs11, (by (try simp only [zp, zo, zq] at u3429 xq2 h3430 xq12 h3435 xq14 a3441 u3442 h3443 h3444 h3445 h3726 h3790 a3854 h3855 h3909 h3963 w3964 w3965 f3966 r3967 r3968 r3969 h3970 h3974 h3998 h3999 w4000 a4002 ⊢) <;> (try simp only [zz, Int32.reduceToInt, ne_eq] at u3429 xq2 h3430 xq12 h3435 xq14 a3441 u3442 h3443 h3444 h3445 h3726 h3790 a3854 h3855 h3909 h3963 w3964 w3965 f3966 r3967 r3968 r3969 h3970 h3974 h3998 h3999 w4000 a4002 ⊢) <;> (try simp (disch := omega) only [zb] at u3429 xq2 h3430 xq12 h3435 xq14 a3441 u3442 h3443 h3444 h3445 h3726 h3790 a3854 h3855 h3909 h3963 w3964 w3965 f3966 r3967 r3968 r3969 h3970 h3974 h3998 h3999 w4000 a4002 ⊢) <;> first | omega | ((try simp (disch := omega) only [zb] at u3429 xq2 h3430 xq12 h3435 xq14 a3441 u3442 h3443 h3444 h3445 h3726 h3790 a3854 h3855 h3909 h3963 w3964 w3965 f3966 r3967 r3968 r3969 h3970 h3974 h3998 h3999 w4000 a4002 ⊢) <;> omega))⟩
                            · refine sw_sh (ci_sh cs11 t_p0 rfl) ?_
                              refine sw_on (sX9_put cs11 t_p0 (by (try simp only [zp, zo, zq] at u3429 xq2 h3430 xq12 h3435 xq14 a3441 u3442 h3443 h3444 h3445 h3726 h3790 a3854 h3855 h3909 h3963 w3964 w3965 f3966 r3967 r3968 r3969 h3970 h3974 h3998 h3999 ⊢) <;> (try simp only [zz, Int32.reduceToInt, ne_eq] at u3429 xq2 h3430 xq12 h3435 xq14 a3441 u3442 h3443 h3444 h3445 h3726 h3790 a3854 h3855 h3909 h3963 w3964 w3965 f3966 r3967 r3968 r3969 h3970 h3974 h3998 h3999 ⊢) <;> (try simp (disch := omega) only [zb] at u3429 xq2 h3430 xq12 h3435 xq14 a3441 u3442 h3443 h3444 h3445 h3726 h3790 a3854 h3855 h3909 h3963 w3964 w3965 f3966 r3967 r3968 r3969 h3970 h3974 h3998 h3999 ⊢) <;> first | omega | ((try simp (disch := omega) only [zb] at u3429 xq2 h3430 xq12 h3435 xq14 a3441 u3442 h3443 h3444 h3445 h3726 h3790 a3854 h3855 h3909 h3963 w3964 w3965 f3966 r3967 r3968 r3969 h3970 h3974 h3998 h3999 ⊢) <;> omega)) ) ?_
                              intro q28 hqq28
                              obtain ⟨cq28, gq28, xq28⟩ := hqq28
                              have fq28 := fr_trans fs11 gq28 rfl
                              have w4003 := (gq28.2.2 _ _ t_p0 0 rfl).1
                              have w4004 : mm_I s11 p0 0 = mm_I q2.2 p0 0 := by rw [← es11]; exact rd_k t_p0 tq5 (by decide)
                              have a4006 := zi_and p2 8 (by decide)
                              exact sw_some ⟨cq28, fq28, (by (try simp only [zp, zo, zq] at u3429 xq2 h3430 xq12 h3435 xq14 a3441 u3442 h3443 h3444 h3445 h3726 h3790 a3854 h3855 h3909 h3963 w3964 w3965 f3966 r3967 r3968 r3969 h3970 h3974 h3998 h3999 w4003 w4004 a4006 ⊢) <;> (try simp only [zz, Int32.reduceToInt, ne_eq] at u3429 xq2 h3430 xq12 h3435 xq14 a3441 u3442 h3443 h3444 h3445 h3726 h3790 a3854 h3855 h3909 h3963 w3964 w3965 f3966 r3967 r3968 r3969 h3970 h3974 h3998 h3999 w4003 w4004 a4006 ⊢) <;> (try simp (disch := omega) only [zb] at u3429 xq2 h3430 xq12 h3435 xq14 a3441 u3442 h3443 h3444 h3445 h3726 h3790 a3854 h3855 h3909 h3963 w3964 w3965 f3966 r3967 r3968 r3969 h3970 h3974 h3998 h3999 w4003 w4004 a4006 ⊢) <;> first | omega | ((try simp (disch := omega) only [zb] at u3429 xq2 h3430 xq12 h3435 xq14 a3441 u3442 h3443 h3444 h3445 h3726 h3790 a3854 h3855 h3909 h3963 w3964 w3965 f3966 r3967 r3968 r3969 h3970 h3974 h3998 h3999 w4003 w4004 a4006 ⊢) <;> omega))⟩
                          · refine sw_sh (ci_sh cs11 t_p0 rfl) ?_
                            refine sw_on (sX9_put cs11 t_p0 (by (try simp only [zp, zo, zq] at u3429 xq2 h3430 xq12 h3435 xq14 a3441 u3442 h3443 h3444 h3445 h3726 h3790 a3854 h3855 h3909 h3963 w3964 w3965 f3966 r3967 r3968 r3969 h3970 h3974 h3998 ⊢) <;> (try simp only [zz, Int32.reduceToInt, ne_eq] at u3429 xq2 h3430 xq12 h3435 xq14 a3441 u3442 h3443 h3444 h3445 h3726 h3790 a3854 h3855 h3909 h3963 w3964 w3965 f3966 r3967 r3968 r3969 h3970 h3974 h3998 ⊢) <;> (try simp (disch := omega) only [zb] at u3429 xq2 h3430 xq12 h3435 xq14 a3441 u3442 h3443 h3444 h3445 h3726 h3790 a3854 h3855 h3909 h3963 w3964 w3965 f3966 r3967 r3968 r3969 h3970 h3974 h3998 ⊢) <;> first | omega | ((try simp (disch := omega) only [zb] at u3429 xq2 h3430 xq12 h3435 xq14 a3441 u3442 h3443 h3444 h3445 h3726 h3790 a3854 h3855 h3909 h3963 w3964 w3965 f3966 r3967 r3968 r3969 h3970 h3974 h3998 ⊢) <;> omega)) ) ?_
                            intro q30 hqq30
                            obtain ⟨cq30, gq30, xq30⟩ := hqq30
                            have fq30 := fr_trans fs11 gq30 rfl
                            unfold fX9_pair_264
                            refine sw_ite (fun h4007 => ?_) (fun h4007 => ?_)
                            · have w4008 := (gq30.2.2 _ _ t_p0 0 rfl).1
                              have w4009 : mm_I s11 p0 0 = mm_I q2.2 p0 0 := by rw [← es11]; exact rd_k t_p0 tq5 (by decide)
                              have a4011 := zi_and p2 8 (by decide)
                              exact sw_some ⟨cq30, fq30, (by (try simp only [zp, zo, zq] at u3429 xq2 h3430 xq12 h3435 xq14 a3441 u3442 h3443 h3444 h3445 h3726 h3790 a3854 h3855 h3909 h3963 w3964 w3965 f3966 r3967 r3968 r3969 h3970 h3974 h3998 h4007 w4008 w4009 a4011 ⊢) <;> (try simp only [zz, Int32.reduceToInt, ne_eq] at u3429 xq2 h3430 xq12 h3435 xq14 a3441 u3442 h3443 h3444 h3445 h3726 h3790 a3854 h3855 h3909 h3963 w3964 w3965 f3966 r3967 r3968 r3969 h3970 h3974 h3998 h4007 w4008 w4009 a4011 ⊢) <;> (try simp (disch := omega) only [zb] at u3429 xq2 h3430 xq12 h3435 xq14 a3441 u3442 h3443 h3444 h3445 h3726 h3790 a3854 h3855 h3909 h3963 w3964 w3965 f3966 r3967 r3968 r3969 h3970 h3974 h3998 h4007 w4008 w4009 a4011 ⊢) <;> first | omega | ((try simp (disch := omega) only [zb] at u3429 xq2 h3430 xq12 h3435 xq14 a3441 u3442 h3443 h3444 h3445 h3726 h3790 a3854 h3855 h3909 h3963 w3964 w3965 f3966 r3967 r3968 r3969 h3970 h3974 h3998 h4007 w4008 w4009 a4011 ⊢) <;> omega))⟩
                            · refine sw_sh (ci_sh cq30 t_p0 rfl) ?_
                              refine sw_on (sX9_put cq30 t_p0 (by (try simp only [zp, zo, zq] at u3429 xq2 h3430 xq12 h3435 xq14 a3441 u3442 h3443 h3444 h3445 h3726 h3790 a3854 h3855 h3909 h3963 w3964 w3965 f3966 r3967 r3968 r3969 h3970 h3974 h3998 h4007 ⊢) <;> (try simp only [zz, Int32.reduceToInt, ne_eq] at u3429 xq2 h3430 xq12 h3435 xq14 a3441 u3442 h3443 h3444 h3445 h3726 h3790 a3854 h3855 h3909 h3963 w3964 w3965 f3966 r3967 r3968 r3969 h3970 h3974 h3998 h4007 ⊢) <;> (try simp (disch := omega) only [zb] at u3429 xq2 h3430 xq12 h3435 xq14 a3441 u3442 h3443 h3444 h3445 h3726 h3790 a3854 h3855 h3909 h3963 w3964 w3965 f3966 r3967 r3968 r3969 h3970 h3974 h3998 h4007 ⊢) <;> first | omega | ((try simp (disch := omega) only [zb] at u3429 xq2 h3430 xq12 h3435 xq14 a3441 u3442 h3443 h3444 h3445 h3726 h3790 a3854 h3855 h3909 h3963 w3964 w3965 f3966 r3967 r3968 r3969 h3970 h3974 h3998 h4007 ⊢) <;> omega)) ) ?_
                              intro q28 hqq28
                              obtain ⟨cq28, gq28, xq28⟩ := hqq28
                              have fq28 := fr_trans fq30 gq28 rfl
                              have w4012 := (gq28.2.2 _ _ t_p0 0 rfl).1
                              have w4013 := (gq30.2.2 _ _ t_p0 0 rfl).1
                              have w4014 : mm_I s11 p0 0 = mm_I q2.2 p0 0 := by rw [← es11]; exact rd_k t_p0 tq5 (by decide)
                              have a4016 := zi_and p2 8 (by decide)
                              exact sw_some ⟨cq28, fq28, (by (try simp only [zp, zo, zq] at u3429 xq2 h3430 xq12 h3435 xq14 a3441 u3442 h3443 h3444 h3445 h3726 h3790 a3854 h3855 h3909 h3963 w3964 w3965 f3966 r3967 r3968 r3969 h3970 h3974 h3998 h4007 w4012 w4013 w4014 a4016 ⊢) <;> (try simp only [zz, Int32.reduceToInt, ne_eq] at u3429 xq2 h3430 xq12 h3435 xq14 a3441 u3442 h3443 h3444 h3445 h3726 h3790 a3854 h3855 h3909 h3963 w3964 w3965 f3966 r3967 r3968 r3969 h3970 h3974 h3998 h4007 w4012 w4013 w4014 a4016 ⊢) <;> (try simp (disch := omega) only [zb] at u3429 xq2 h3430 xq12 h3435 xq14 a3441 u3442 h3443 h3444 h3445 h3726 h3790 a3854 h3855 h3909 h3963 w3964 w3965 f3966 r3967 r3968 r3969 h3970 h3974 h3998 h4007 w4012 w4013 w4014 a4016 ⊢) <;> first | omega | ((try simp (disch := omega) only [zb] at u3429 xq2 h3430 xq12 h3435 xq14 a3441 u3442 h3443 h3444 h3445 h3726 h3790 a3854 h3855 h3909 h3963 w3964 w3965 f3966 r3967 r3968 r3969 h3970 h3974 h3998 h4007 w4012 w4013 w4014 a4016 ⊢) <;> omega))⟩
                    · unfold fX9_pair_227
                      unfold fX9_pair_228
                      have w4017 : mm_I s11 q17 p1.toNatClampNeg = mm_I q2.2 q17 p1.toNatClampNeg := by rw [← es11]; exact rd_k tq17 tq5 (by decide)
                      have w4018 := (gq2.2.2 _ _ tq17 p1.toNatClampNeg rfl).1
                      have f4019 : mm_I σ0 q17 p1.toNatClampNeg = -1 := hv q17 59 p1.toNatClampNeg tq17 (Or.inr (by decide)) (by (try simp only [zp, zo, zq] at u3429 xq2 h3430 xq12 h3435 xq14 a3441 u3442 h3443 h3444 h3445 h3726 h3790 a3854 h3855 h3909 h3963 w4017 w4018 ⊢) <;> (try simp only [zz, Int32.reduceToInt, ne_eq] at u3429 xq2 h3430 xq12 h3435 xq14 a3441 u3442 h3443 h3444 h3445 h3726 h3790 a3854 h3855 h3909 h3963 w4017 w4018 ⊢) <;> (try simp (disch := omega) only [zb] at u3429 xq2 h3430 xq12 h3435 xq14 a3441 u3442 h3443 h3444 h3445 h3726 h3790 a3854 h3855 h3909 h3963 w4017 w4018 ⊢) <;> first | omega | ((try simp (disch := omega) only [zb] at u3429 xq2 h3430 xq12 h3435 xq14 a3441 u3442 h3443 h3444 h3445 h3726 h3790 a3854 h3855 h3909 h3963 w4017 w4018 ⊢) <;> omega))
                      have r4020 := ci_rg c0 tq17 p1.toNatClampNeg (lo := (-1)) (hi := 3) rfl
                      have r4021 := ci_rg cq2 tq17 p1.toNatClampNeg (lo := (-1)) (hi := 3) rfl
                      have r4022 := ci_rg cs11 tq17 p1.toNatClampNeg (lo := (-1)) (hi := 3) rfl
                      refine sw_ite (fun h4023 => ?_) (fun h4023 => ?_)
                      · have w4024 : mm_I s11 p0 0 = mm_I q2.2 p0 0 := by rw [← es11]; exact rd_k t_p0 tq5 (by decide)
                        have a4026 := zi_and p2 8 (by decide)
                        exact sw_some ⟨cs11, fs11, (by (try simp only [zp, zo, zq] at u3429 xq2 h3430 xq12 h3435 xq14 a3441 u3442 h3443 h3444 h3445 h3726 h3790 a3854 h3855 h3909 h3963 w4017 w4018 f4019 r4020 r4021 r4022 h4023 w4024 a4026 ⊢) <;> (try simp only [zz, Int32.reduceToInt, ne_eq] at u3429 xq2 h3430 xq12 h3435 xq14 a3441 u3442 h3443 h3444 h3445 h3726 h3790 a3854 h3855 h3909 h3963 w4017 w4018 f4019 r4020 r4021 r4022 h4023 w4024 a4026 ⊢) <;> (try simp (disch := omega) only [zb] at u3429 xq2 h3430 xq12 h3435 xq14 a3441 u3442 h3443 h3444 h3445 h3726 h3790 a3854 h3855 h3909 h3963 w4017 w4018 f4019 r4020 r4021 r4022 h4023 w4024 a4026 ⊢) <;> first | omega | ((try simp (disch := omega) only [zb] at u3429 xq2 h3430 xq12 h3435 xq14 a3441 u3442 h3443 h3444 h3445 h3726 h3790 a3854 h3855 h3909 h3963 w4017 w4018 f4019 r4020 r4021 r4022 h4023 w4024 a4026 ⊢) <;> omega))⟩
                      · refine sw_ite (fun h4027 => ?_) (fun h4027 => ?_)
                        · refine sw_ite (fun h4028 => ?_) (fun h4028 => ?_)
                          · have w4029 : mm_I s11 p0 0 = mm_I q2.2 p0 0 := by rw [← es11]; exact rd_k t_p0 tq5 (by decide)
                            have a4031 := zi_and p2 8 (by decide)
                            exact sw_some ⟨cs11, fs11, (by (try simp only [zp, zo, zq] at u3429 xq2 h3430 xq12 h3435 xq14 a3441 u3442 h3443 h3444 h3445 h3726 h3790 a3854 h3855 h3909 h3963 w4017 w4018 f4019 r4020 r4021 r4022 h4023 h4027 h4028 w4029 a4031 ⊢) <;> (try simp only [zz, Int32.reduceToInt, ne_eq] at u3429 xq2 h3430 xq12 h3435 xq14 a3441 u3442 h3443 h3444 h3445 h3726 h3790 a3854 h3855 h3909 h3963 w4017 w4018 f4019 r4020 r4021 r4022 h4023 h4027 h4028 w4029 a4031 ⊢) <;> (try simp (disch := omega) only [zb] at u3429 xq2 h3430 xq12 h3435 xq14 a3441 u3442 h3443 h3444 h3445 h3726 h3790 a3854 h3855 h3909 h3963 w4017 w4018 f4019 r4020 r4021 r4022 h4023 h4027 h4028 w4029 a4031 ⊢) <;> first | omega | ((try simp (disch := omega) only [zb] at u3429 xq2 h3430 xq12 h3435 xq14 a3441 u3442 h3443 h3444 h3445 h3726 h3790 a3854 h3855 h3909 h3963 w4017 w4018 f4019 r4020 r4021 r4022 h4023 h4027 h4028 w4029 a4031 ⊢) <;> omega))⟩
                          · unfold fX9_pair_250
                            refine sw_ite (fun h4032 => ?_) (fun h4032 => ?_)
                            · unfold fX9_pair_264
                              refine sw_ite (fun h4033 => ?_) (fun h4033 => ?_)
                              · have w4034 : mm_I s11 p0 0 = mm_I q2.2 p0 0 := by rw [← es11]; exact rd_k t_p0 tq5 (by decide)
                                have a4036 := zi_and p2 8 (by decide)
                                exact sw_some ⟨cs11, fs11, (by (try simp only [zp, zo, zq] at u3429 xq2 h3430 xq12 h3435 xq14 a3441 u3442 h3443 h3444 h3445 h3726 h3790 a3854 h3855 h3909 h3963 w4017 w4018 f4019 r4020 r4021 r4022 h4023 h4027 h4028 h4032 h4033 w4034 a4036 ⊢) <;> (try simp only [zz, Int32.reduceToInt, ne_eq] at u3429 xq2 h3430 xq12 h3435 xq14 a3441 u3442 h3443 h3444 h3445 h3726 h3790 a3854 h3855 h3909 h3963 w4017 w4018 f4019 r4020 r4021 r4022 h4023 h4027 h4028 h4032 h4033 w4034 a4036 ⊢) <;> (try simp (disch := omega) only [zb] at u3429 xq2 h3430 xq12 h3435 xq14 a3441 u3442 h3443 h3444 h3445 h3726 h3790 a3854 h3855 h3909 h3963 w4017 w4018 f4019 r4020 r4021 r4022 h4023 h4027 h4028 h4032 h4033 w4034 a4036 ⊢) <;> first | omega | ((try simp (disch := omega) only [zb] at u3429 xq2 h3430 xq12 h3435 xq14 a3441 u3442 h3443 h3444 h3445 h3726 h3790 a3854 h3855 h3909 h3963 w4017 w4018 f4019 r4020 r4021 r4022 h4023 h4027 h4028 h4032 h4033 w4034 a4036 ⊢) <;> omega))⟩
                              · refine sw_sh (ci_sh cs11 t_p0 rfl) ?_
                                refine sw_on (sX9_put cs11 t_p0 (by (try simp only [zp, zo, zq] at u3429 xq2 h3430 xq12 h3435 xq14 a3441 u3442 h3443 h3444 h3445 h3726 h3790 a3854 h3855 h3909 h3963 w4017 w4018 f4019 r4020 r4021 r4022 h4023 h4027 h4028 h4032 h4033 ⊢) <;> (try simp only [zz, Int32.reduceToInt, ne_eq] at u3429 xq2 h3430 xq12 h3435 xq14 a3441 u3442 h3443 h3444 h3445 h3726 h3790 a3854 h3855 h3909 h3963 w4017 w4018 f4019 r4020 r4021 r4022 h4023 h4027 h4028 h4032 h4033 ⊢) <;> (try simp (disch := omega) only [zb] at u3429 xq2 h3430 xq12 h3435 xq14 a3441 u3442 h3443 h3444 h3445 h3726 h3790 a3854 h3855 h3909 h3963 w4017 w4018 f4019 r4020 r4021 r4022 h4023 h4027 h4028 h4032 h4033 ⊢) <;> first | omega | ((try simp (disch := omega) only [zb] at u3429 xq2 h3430 xq12 h3435 xq14 a3441 u3442 h3443 h3444 h3445 h3726 h3790 a3854 h3855 h3909 h3963 w4017 w4018 f4019 r4020 r4021 r4022 h4023 h4027 h4028 h4032 h4033 ⊢) <;> omega)) ) ?_
                                intro q28 hqq28
                                obtain ⟨cq28, gq28, xq28⟩ := hqq28
                                have fq28 := fr_trans fs11 gq28 rfl
                                have w4037 := (gq28.2.2 _ _ t_p0 0 rfl).1
                                have w4038 : mm_I s11 p0 0 = mm_I q2.2 p0 0 := by rw [← es11]; exact rd_k t_p0 tq5 (by decide)
                                have a4040 := zi_and p2 8 (by decide)
                                exact sw_some ⟨cq28, fq28, (by (try simp only [zp, zo, zq] at u3429 xq2 h3430 xq12 h3435 xq14 a3441 u3442 h3443 h3444 h3445 h3726 h3790 a3854 h3855 h3909 h3963 w4017 w4018 f4019 r4020 r4021 r4022 h4023 h4027 h4028 h4032 h4033 w4037 w4038 a4040 ⊢) <;> (try simp only [zz, Int32.reduceToInt, ne_eq] at u3429 xq2 h3430 xq12 h3435 xq14 a3441 u3442 h3443 h3444 h3445 h3726 h3790 a3854 h3855 h3909 h3963 w4017 w4018 f4019 r4020 r4021 r4022 h4023 h4027 h4028 h4032 h4033 w4037 w4038 a4040 ⊢) <;> (try simp (disch := omega) only [zb] at u3429 xq2 h3430 xq12 h3435 xq14 a3441 u3442 h3443 h3444 h3445 h3726 h3790 a3854 h3855 h3909 h3963 w4017 w4018 f4019 r4020 r4021 r4022 h4023 h4027 h4028 h4032 h4033 w4037 w4038 a4040 ⊢) <;> first | omega | ((try simp (disch := omega) only [zb] at u3429 xq2 h3430 xq12 h3435 xq14 a3441 u3442 h3443 h3444 h3445 h3726 h3790 a3854 h3855 h3909 h3963 w4017 w4018 f4019 r4020 r4021 r4022 h4023 h4027 h4028 h4032 h4033 w4037 w4038 a4040 ⊢) <;> omega))⟩
                            · refine sw_sh (ci_sh cs11 t_p0 rfl) ?_
                              refine sw_on (sX9_put cs11 t_p0 (by (try simp only [zp, zo, zq] at u3429 xq2 h3430 xq12 h3435 xq14 a3441 u3442 h3443 h3444 h3445 h3726 h3790 a3854 h3855 h3909 h3963 w4017 w4018 f4019 r4020 r4021 r4022 h4023 h4027 h4028 h4032 ⊢) <;> (try simp only [zz, Int32.reduceToInt, ne_eq] at u3429 xq2 h3430 xq12 h3435 xq14 a3441 u3442 h3443 h3444 h3445 h3726 h3790 a3854 h3855 h3909 h3963 w4017 w4018 f4019 r4020 r4021 r4022 h4023 h4027 h4028 h4032 ⊢) <;> (try simp (disch := omega) only [zb] at u3429 xq2 h3430 xq12 h3435 xq14 a3441 u3442 h3443 h3444 h3445 h3726 h3790 a3854 h3855 h3909 h3963 w4017 w4018 f4019 r4020 r4021 r4022 h4023 h4027 h4028 h4032 ⊢) <;> first | omega | ((try simp (disch := omega) only [zb] at u3429 xq2 h3430 xq12 h3435 xq14 a3441 u3442 h3443 h3444 h3445 h3726 h3790 a3854 h3855 h3909 h3963 w4017 w4018 f4019 r4020 r4021 r4022 h4023 h4027 h4028 h4032 ⊢) <;> omega)) ) ?_
                              intro q30 hqq30
                              obtain ⟨cq30, gq30, xq30⟩ := hqq30
                              have fq30 := fr_trans fs11 gq30 rfl
                              unfold fX9_pair_264
                              refine sw_ite (fun h4041 => ?_) (fun h4041 => ?_)
                              · have w4042 := (gq30.2.2 _ _ t_p0 0 rfl).1
                                have w4043 : mm_I s11 p0 0 = mm_I q2.2 p0 0 := by rw [← es11]; exact rd_k t_p0 tq5 (by decide)
                                have a4045 := zi_and p2 8 (by decide)
                                exact sw_some ⟨cq30, fq30, (by (try simp only [zp, zo, zq] at u3429 xq2 h3430 xq12 h3435 xq14 a3441 u3442 h3443 h3444 h3445 h3726 h3790 a3854 h3855 h3909 h3963 w4017 w4018 f4019 r4020 r4021 r4022 h4023 h4027 h4028 h4032 h4041 w4042 w4043 a4045 ⊢) <;> (try simp only [zz, Int32.reduceToInt, ne_eq] at u3429 xq2 h3430 xq12 h3435 xq14 a3441 u3442 h3443 h3444 h3445 h3726 h3790 a3854 h3855 h3909 h3963 w4017 w4018 f4019 r4020 r4021 r4022 h4023 h4027 h4028 h4032 h4041 w4042 w4043 a4045 ⊢) <;> (try simp (disch := omega) only [zb] at u3429 xq2 h3430 xq12 h3435 xq14 a3441 u3442 h3443 h3444 h3445 h3726 h3790 a3854 h3855 h3909 h3963 w4017 w4018 f4019 r4020 r4021 r4022 h4023 h4027 h4028 h4032 h4041 w4042 w4043 a4045 ⊢) <;> first | omega | ((try simp (disch := omega) only [zb] at u3429 xq2 h3430 xq12 h3435 xq14 a3441 u3442 h3443 h3444 h3445 h3726 h3790 a3854 h3855 h3909 h3963 w4017 w4018 f4019 r4020 r4021 r4022 h4023 h4027 h4028 h4032 h4041 w4042 w4043 a4045 ⊢) <;> omega))⟩
                              · refine sw_sh (ci_sh cq30 t_p0 rfl) ?_
                                refine sw_on (sX9_put cq30 t_p0 (by (try simp only [zp, zo, zq] at u3429 xq2 h3430 xq12 h3435 xq14 a3441 u3442 h3443 h3444 h3445 h3726 h3790 a3854 h3855 h3909 h3963 w4017 w4018 f4019 r4020 r4021 r4022 h4023 h4027 h4028 h4032 h4041 ⊢) <;> (try simp only [zz, Int32.reduceToInt, ne_eq] at u3429 xq2 h3430 xq12 h3435 xq14 a3441 u3442 h3443 h3444 h3445 h3726 h3790 a3854 h3855 h3909 h3963 w4017 w4018 f4019 r4020 r4021 r4022 h4023 h4027 h4028 h4032 h4041 ⊢) <;> (try simp (disch := omega) only [zb] at u3429 xq2 h3430 xq12 h3435 xq14 a3441 u3442 h3443 h3444 h3445 h3726 h3790 a3854 h3855 h3909 h3963 w4017 w4018 f4019 r4020 r4021 r4022 h4023 h4027 h4028 h4032 h4041 ⊢) <;> first | omega | ((try simp (disch := omega) only [zb] at u3429 xq2 h3430 xq12 h3435 xq14 a3441 u3442 h3443 h3444 h3445 h3726 h3790 a3854 h3855 h3909 h3963 w4017 w4018 f4019 r4020 r4021 r4022 h4023 h4027 h4028 h4032 h4041 ⊢) <;> omega)) ) ?_
                                intro q28 hqq28
                                obtain ⟨cq28, gq28, xq28⟩ := hqq28
                                have fq28 := fr_trans fq30 gq28 rfl
                                have w4046 := (gq28.2.2 _ _ t_p0 0 rfl).1
                                have w4047 := (gq30.2.2 _ _ t_p0 0 rfl).1
                                have w4048 : mm_I s11 p0 0 = mm_I q2.2 p0 0 := by rw [← es11]; exact rd_k t_p0 tq5 (by decide)
                                have a4050 := zi_and p2 8 (by decide)
                                exact sw_some ⟨cq28, fq28, (by (try simp only [zp, zo, zq] at u3429 xq2 h3430 xq12 h3435 xq14 a3441 u3442 h3443 h3444 h3445 h3726 h3790 a3854 h3855 h3909 h3963 w4017 w4018 f4019 r4020 r4021 r4022 h4023 h4027 h4028 h4032 h4041 w4046 w4047 w4048 a4050 ⊢) <;> (try simp only [zz, Int32.reduceToInt, ne_eq] at u3429 xq2 h3430 xq12 h3435 xq14 a3441 u3442 h3443 h3444 h3445 h3726 h3790 a3854 h3855 h3909 h3963 w4017 w4018 f4019 r4020 r4021 r4022 h4023 h4027 h4028 h4032 h4041 w4046 w4047 w4048 a4050 ⊢) <;> (try simp (disch := omega) only [zb] at u3429 xq2 h3430 xq12 h3435 xq14 a3441 u3442 h3443 h3444 h3445 h3726 h3790 a3854 h3855 h3909 h3963 w4017 w4018 f4019 r4020 r4021 r4022 h4023 h4027 h4028 h4032 h4041 w4046 w4047 w4048 a4050 ⊢) <;> first | omega | ((try simp (disch := omega) only [zb] at u3429 xq2 h3430 xq12 h3435 xq14 a3441 u3442 h3443 h3444 h3445 h3726 h3790 a3854 h3855 h3909 h3963 w4017 w4018 f4019 r4020 r4021 r4022 h4023 h4027 h4028 h4032 h4041 w4046 w4047 w4048 a4050 ⊢) <;> omega))⟩
                        · unfold fX9_pair_250
                          refine sw_ite (fun h4051 => ?_) (fun h4051 => ?_)
                          · unfold fX9_pair_264
                            refine sw_ite (fun h4052 => ?_) (fun h4052 => ?_)
                            · have w4053 : mm_I s11 p0 0 = mm_I q2.2 p0 0 := by rw [← es11]; exact rd_k t_p0 tq5 (by decide)
                              have a4055 := zi_and p2 8 (by decide)
                              exact sw_some ⟨cs11, fs11, (by (try simp only [zp, zo, zq] at u3429 xq2 h3430 xq12 h3435 xq14 a3441 u3442 h3443 h3444 h3445 h3726 h3790 a3854 h3855 h3909 h3963 w4017 w4018 f4019 r4020 r4021 r4022 h4023 h4027 h4051 h4052 w4053 a4055 ⊢) <;> (try simp only [zz, Int32.reduceToInt, ne_eq] at u3429 xq2 h3430 xq12 h3435 xq14 a3441 u3442 h3443 h3444 h3445 h3726 h3790 a3854 h3855 h3909 h3963 w4017 w4018 f4019 r4020 r4021 r4022 h4023 h4027 h4051 h4052 w4053 a4055 ⊢) <;> (try simp (disch := omega) only [zb] at u3429 xq2 h3430 xq12 h3435 xq14 a3441 u3442 h3443 h3444 h3445 h3726 h3790 a3854 h3855 h3909 h3963 w4017 w4018 f4019 r4020 r4021 r4022 h4023 h4027 h4051 h4052 w4053 a4055 ⊢) <;> first | omega | ((try simp (disch := omega) only [zb] at u3429 xq2 h3430 xq12 h3435 xq14 a3441 u3442 h3443 h3444 h3445 h3726 h3790 a3854 h3855 h3909 h3963 w4017 w4018 f4019 r4020 r4021 r4022 h4023 h4027 h4051 h4052 w4053 a4055 ⊢) <;> omega))⟩
                            · refine sw_sh (ci_sh cs11 t_p0 rfl) ?_
                              refine sw_on (sX9_put cs11 t_p0 (by (try simp only [zp, zo, zq] at u3429 xq2 h3430 xq12 h3435 xq14 a3441 u3442 h3443 h3444 h3445 h3726 h3790 a3854 h3855 h3909 h3963 w4017 w4018 f4019 r4020 r4021 r4022 h4023 h4027 h4051 h4052 ⊢) <;> (try simp only [zz, Int32.reduceToInt, ne_eq] at u3429 xq2 h3430 xq12 h3435 xq14 a3441 u3442 h3443 h3444 h3445 h3726 h3790 a3854 h3855 h3909 h3963 w4017 w4018 f4019 r4020 r4021 r4022 h4023 h4027 h4051 h4052 ⊢) <;> (try simp (disch := omega) only [zb] at u3429 xq2 h3430 xq12 h3435 xq14 a3441 u3442 h3443 h3444 h3445 h3726 h3790 a3854 h3855 h3909 h3963 w4017 w4018 f4019 r4020 r4021 r4022 h4023 h4027 h4051 h4052 ⊢) <;> first | omega | ((try simp (disch := omega) only [zb] at u3429 xq2 h3430 xq12 h3435 xq14 a3441 u3442 h3443 h3444 h3445 h3726 h3790 a3854 h3855 h3909 h3963 w4017 w4018 f4019 r4020 r4021 r4022 h4023 h4027 h4051 h4052 ⊢) <;> omega)) ) ?_
                              intro q28 hqq28
                              obtain ⟨cq28, gq28, xq28⟩ := hqq28
                              have fq28 := fr_trans fs11 gq28 rfl
                              have w4056 := (gq28.2.2 _ _ t_p0 0 rfl).1
                              have w4057 : mm_I s11 p0 0 = mm_I q2.2 p0 0 := by rw [← es11]; exact rd_k t_p0 tq5 (by decide)
                              have a4059 := zi_and p2 8 (by decide)
                              exact sw_some ⟨cq28, fq28, (by (try simp only [zp, zo, zq] at u3429 xq2 h3430 xq12 h3435 xq14 a3441 u3442 h3443 h3444 h3445 h3726 h3790 a3854 h3855 h3909 h3963 w4017 w4018 f4019 r4020 r4021 r4022 h4023 h4027 h4051 h4052 w4056 w4057 a4059 ⊢) <;> (try simp only [zz, Int32.reduceToInt, ne_eq] at u3429 xq2 h3430 xq12 h3435 xq14 a3441 u3442 h3443 h3444 h3445 h3726 h3790 a3854 h3855 h3909 h3963 w4017 w4018 f4019 r4020 r4021 r4022 h4023 h4027 h4051 h4052 w4056 w4057 a4059 ⊢) <;> (try simp (disch := omega) only [zb] at u3429 xq2 h3430 xq12 h3435 xq14 a3441 u3442 h3443 h3444 h3445 h3726 h3790 a3854 h3855 h3909 h3963 w4017 w4018 f4019 r4020 r4021 r4022 h4023 h4027 h4051 h4052 w4056 w4057 a4059 ⊢) <;> first | omega | ((try simp (disch := omega) only [zb] at u3429 xq2 h3430 xq12 h3435 xq14 a3441 u3442 h3443 h3444 h3445 h3726 h3790 a3854 h3855 h3909 h3963 w4017 w4018 f4019 r4020 r4021 r4022 h4023 h4027 h4051 h4052 w4056 w4057 a4059 ⊢) <;> omega))⟩
                          · refine sw_sh (ci_sh cs11 t_p0 rfl) ?_
                            refine sw_on (sX9_put cs11 t_p0 (by (try simp only [zp, zo, zq] at u3429 xq2 h3430 xq12 h3435 xq14 a3441 u3442 h3443 h3444 h3445 h3726 h3790 a3854 h3855 h3909 h3963 w4017 w4018 f4019 r4020 r4021 r4022 h4023 h4027 h4051 ⊢) <;> (try simp only [zz, Int32.reduceToInt, ne_eq] at u3429 xq2 h3430 xq12 h3435 xq14 a3441 u3442 h3443 h3444 h3445 h3726 h3790 a3854 h3855 h3909 h3963 w4017 w4018 f4019 r4020 r4021 r4022 h4023 h4027 h4051 ⊢) <;> (try simp (disch := omega) only [zb] at u3429 xq2 h3430 xq12 h3435 xq14 a3441 u3442 h3443 h3444 h3445 h3726 h3790 a3854 h3855 h3909 h3963 w4017 w4018 f4019 r4020 r4021 r4022 h4023 h4027 h4051 ⊢) <;> first | omega | ((try simp (disch := omega) only [zb] at u3429 xq2 h3430 xq12 h3435 xq14 a3441 u3442 h3443 h3444 h3445 h3726 h3790 a3854 h3855 h3909 h3963 w4017 w4018 f4019 r4020 r4021 r4022 h4023 h4027 h4051 ⊢) <;> omega)) ) ?_
                            intro q30 hqq30
                            obtain ⟨cq30, gq30, xq30⟩ := hqq30
                            have fq30 := fr_trans fs11 gq30 rfl
                            unfold fX9_pair_264
                            refine sw_ite (fun h4060 => ?_) (fun h4060 => ?_)
                            · have w4061 := (gq30.2.2 _ _ t_p0 0 rfl).1
                              have w4062 : mm_I s11 p0 0 = mm_I q2.2 p0 0 := by rw [← es11]; exact rd_k t_p0 tq5 (by decide)
                              have a4064 := zi_and p2 8 (by decide)
                              exact sw_some ⟨cq30, fq30, (by (try simp only [zp, zo, zq] at u3429 xq2 h3430 xq12 h3435 xq14 a3441 u3442 h3443 h3444 h3445 h3726 h3790 a3854 h3855 h3909 h3963 w4017 w4018 f4019 r4020 r4021 r4022 h4023 h4027 h4051 h4060 w4061 w4062 a4064 ⊢) <;> (try simp only [zz, Int32.reduceToInt, ne_eq] at u3429 xq2 h3430 xq12 h3435 xq14 a3441 u3442 h3443 h3444 h3445 h3726 h3790 a3854 h3855 h3909 h3963 w4017 w4018 f4019 r4020 r4021 r4022 h4023 h4027 h4051 h4060 w4061 w4062 a4064 ⊢) <;> (try simp (disch := omega) only [zb] at u3429 xq2 h3430 xq12 h3435 xq14 a3441 u3442 h3443 h3444 h3445 h3726 h3790 a3854 h3855 h3909 h3963 w4017 w4018 f4019 r4020 r4021 r4022 h4023 h4027 h4051 h4060 w4061 w4062 a4064 ⊢) <;> first | omega | ((try simp (disch := omega) only [zb] at u3429 xq2 h3430 xq12 h3435 xq14 a3441 u3442 h3443 h3444 h3445 h3726 h3790 a3854 h3855 h3909 h3963 w4017 w4018 f4019 r4020 r4021 r4022 h4023 h4027 h4051 h4060 w4061 w4062 a4064 ⊢) <;> omega))⟩
                            · refine sw_sh (ci_sh cq30 t_p0 rfl) ?_
                              refine sw_on (sX9_put cq30 t_p0 (by (try simp only [zp, zo, zq] at u3429 xq2 h3430 xq12 h3435 xq14 a3441 u3442 h3443 h3444 h3445 h3726 h3790 a3854 h3855 h3909 h3963 w4017 w4018 f4019 r4020 r4021 r4022 h4023 h4027 h4051 h4060 ⊢) <;> (try simp only [zz, Int32.reduceToInt, ne_eq] at u3429 xq2 h3430 xq12 h3435 xq14 a3441 u3442 h3443 h3444 h3445 h3726 h3790 a3854 h3855 h3909 h3963 w4017 w4018 f4019 r4020 r4021 r4022 h4023 h4027 h4051 h4060 ⊢) <;> (try simp (disch := omega) only [zb] at u3429 xq2 h3430 xq12 h3435 xq14 a3441 u3442 h3443 h3444 h3445 h3726 h3790 a3854 h3855 h3909 h3963 w4017 w4018 f4019 r4020 r4021 r4022 h4023 h4027 h4051 h4060 ⊢) <;> first | omega | ((try simp (disch := omega) only [zb] at u3429 xq2 h3430 xq12 h3435 xq14 a3441 u3442 h3443 h3444 h3445 h3726 h3790 a3854 h3855 h3909 h3963 w4017 w4018 f4019 r4020 r4021 r4022 h4023 h4027 h4051 h4060 ⊢) <;> omega)) ) ?_
                              intro q28 hqq28
                              obtain ⟨cq28, gq28, xq28⟩ := hqq28
                              have fq28 := fr_trans fq30 gq28 rfl
                              have w4065 := (gq28.2.2 _ _ t_p0 0 rfl).1
                              have w4066 := (gq30.2.2 _ _ t_p0 0 rfl).1
                              have w4067 : mm_I s11 p0 0 = mm_I q2.2 p0 0 := by rw [← es11]; exact rd_k t_p0 tq5 (by decide)
                              have a4069 := zi_and p2 8 (by decide)
                              exact sw_some ⟨cq28, fq28, (by (try simp only [zp, zo, zq] at u3429 xq2 h3430 xq12 h3435 xq14 a3441 u3442 h3443 h3444 h3445 h3726 h3790 a3854 h3855 h3909 h3963 w4017 w4018 f4019 r4020 r4021 r4022 h4023 h4027 h4051 h4060 w4065 w4066 w4067 a4069 ⊢) <;> (try simp only [zz, Int32.reduceToInt, ne_eq] at u3429 xq2 h3430 xq12 h3435 xq14 a3441 u3442 h3443 h3444 h3445 h3726 h3790 a3854 h3855 h3909 h3963 w4017 w4018 f4019 r4020 r4021 r4022 h4023 h4027 h4051 h4060 w4065 w4066 w4067 a4069 ⊢) <;> (try simp (disch := omega) only [zb] at u3429 xq2 h3430 xq12 h3435 xq14 a3441 u3442 h3443 h3444 h3445 h3726 h3790 a3854 h3855 h3909 h3963 w4017 w4018 f4019 r4020 r4021 r4022 h4023 h4027 h4051 h4060 w4065 w4066 w4067 a4069 ⊢) <;> first | omega | ((try simp (disch := omega) only [zb] at u3429 xq2 h3430 xq12 h3435 xq14 a3441 u3442 h3443 h3444 h3445 h3726 h3790 a3854 h3855 h3909 h3963 w4017 w4018 f4019 r4020 r4021 r4022 h4023 h4027 h4051 h4060 w4065 w4066 w4067 a4069 ⊢) <;> omega))⟩
        · unfold fX9_pair_179
          refine sw_ite (fun h4070 => ?_) (fun h4070 => ?_)
          · unfold fX9_pair_198
            refine sw_ite (fun h4071 => ?_) (fun h4071 => ?_)
            · unfold fX9_pair_227
              unfold fX9_pair_228
              have w4072 : mm_I s11 q17 p1.toNatClampNeg = mm_I q2.2 q17 p1.toNatClampNeg := by rw [← es11]; exact rd_k tq17 tq5 (by decide)
              have w4073 := (gq2.2.2 _ _ tq17 p1.toNatClampNeg rfl).1
              have f4074 : mm_I σ0 q17 p1.toNatClampNeg = -1 := hv q17 59 p1.toNatClampNeg tq17 (Or.inr (by decide)) (by (try simp only [zp, zo, zq] at u3429 xq2 h3430 xq12 h3435 xq14 a3441 u3442 h3443 h3444 h4070 h4071 w4072 w4073 ⊢) <;> (try simp only [zz, Int32.reduceToInt, ne_eq] at u3429 xq2 h3430 xq12 h3435 xq14 a3441 u3442 h3443 h3444 h4070 h4071 w4072 w4073 ⊢) <;> (try simp (disch := omega) only [zb] at u3429 xq2 h3430 xq12 h3435 xq14 a3441 u3442 h3443 h3444 h4070 h4071 w4072 w4073 ⊢) <;> first | omega | ((try simp (disch := omega) only [zb] at u3429 xq2 h3430 xq12 h3435 xq14 a3441 u3442 h3443 h3444 h4070 h4071 w4072 w4073 ⊢) <;> omega))
              have r4075 := ci_rg c0 tq17 p1.toNatClampNeg (lo := (-1)) (hi := 3) rfl
              have r4076 := ci_rg cq2 tq17 p1.toNatClampNeg (lo := (-1)) (hi := 3) rfl
              have r4077 := ci_rg cs11 tq17 p1.toNatClampNeg (lo := (-1)) (hi := 3) rfl
              refine sw_ite (fun h4078 => ?_) (fun h4078 => ?_)
              · have w4079 : mm_I s11 p0 0 = mm_I q2.2 p0 0 := by rw [← es11]; exact rd_k t_p0 tq5 (by decide)
                have a4081 := zi_and p3 127 (by decide)
                have a4082 := zi_and p2 8 (by decide)
                exact sw_some ⟨cs11, fs11, (by (try simp only [zp, zo, zq] at u3429 xq2 h3430 xq12 h3435 xq14 a3441 u3442 h3443 h3444 h4070 h4071 w4072 w4073 f4074 r4075 r4076 r4077 h4078 w4079 a4081 a4082 ⊢) <;> (try simp only [zz, Int32.reduceToInt, ne_eq] at u3429 xq2 h3430 xq12 h3435 xq14 a3441 u3442 h3443 h3444 h4070 h4071 w4072 w4073 f4074 r4075 r4076 r4077 h4078 w4079 a4081 a4082 ⊢) <;> (try simp (disch := omega) only [zb] at u3429 xq2 h3430 xq12 h3435 xq14 a3441 u3442 h3443 h3444 h4070 h4071 w4072 w4073 f4074 r4075 r4076 r4077 h4078 w4079 a4081 a4082 ⊢) <;> first | omega | ((try simp (disch := omega) only [zb] at u3429 xq2 h3430 xq12 h3435 xq14 a3441 u3442 h3443 h3444 h4070 h4071 w4072 w4073 f4074 r4075 r4076 r4077 h4078 w4079 a4081 a4082 ⊢) <;> omega))⟩
              · refine sw_ite (fun h4083 => ?_) (fun h4083 => ?_)
                · refine sw_ite (fun h4084 => ?_) (fun h4084 => ?_)
                  · have w4085 : mm_I s11 p0 0 = mm_I q2.2 p0 0 := by rw [← es11]; exact rd_k t_p0 tq5 (by decide)
                    have a4087 := zi_and p3 127 (by decide)
                    have a4088 := zi_and p2 8 (by decide)
                    exact sw_some ⟨cs11, fs11, (by (try simp only [zp, zo, zq] at u3429 xq2 h3430 xq12 h3435 xq14 a3441 u3442 h3443 h3444 h4070 h4071 w4072 w4073 f4074 r4075 r4076 r4077 h4078 h4083 h4084 w4085 a4087 a4088 ⊢) <;> (try simp only [zz, Int32.reduceToInt, ne_eq] at u3429 xq2 h3430 xq12 h3435 xq14 a3441 u3442 h3443 h3444 h4070 h4071 w4072 w4073 f4074 r4075 r4076 r4077 h4078 h4083 h4084 w4085 a4087 a4088 ⊢) <;> (try simp (disch := omega) only [zb] at u3429 xq2 h3430 xq12 h3435 xq14 a3441 u3442 h3443 h3444 h4070 h4071 w4072 w4073 f4074 r4075 r4076 r4077 h4078 h4083 h4084 w4085 a4087 a4088 ⊢) <;> first | omega | ((try simp (disch := omega) only [zb] at u3429 xq2 h3430 xq12 h3435 xq14 a3441 u3442 h3443 h3444 h4070 h4071 w4072 w4073 f4074 r4075 r4076 r4077 h4078 h4083 h4084 w4085 a4087 a4088 ⊢) <;> omega))⟩
                  · unfold fX9_pair_250
                    refine sw_ite (fun h4089 => ?_) (fun h4089 => ?_)
                    · unfold fX9_pair_264
                      refine sw_ite (fun h4090 => ?_) (fun h4090 => ?_)
                      · have w4091 : mm_I s11 p0 0 = mm_I q2.2 p0 0 := by rw [← es11]; exact rd_k t_p0 tq5 (by decide)
                        have a4093 := zi_and p3 127 (by decide)
                        have a4094 := zi_and p2 8 (by decide)
                        exact sw_some ⟨cs11, fs11, (by (try simp only [zp, zo, zq] at u3429 xq2 h3430 xq12 h3435 xq14 a3441 u3442 h3443 h3444 h4070 h4071 w4072 w4073 f4074 r4075 r4076 r4077 h4078 h4083 h4084 h4089 h4090 w4091 a4093 a4094 ⊢) <;> (try simp only [zz, Int32.reduceToInt, ne_eq] at u3429 xq2 h3430 xq12 h3435 xq14 a3441 u3442 h3443 h3444 h4070 h4071 w4072 w4073 f4074 r4075 r4076 r4077 h4078 h4083 h4084 h4089 h4090 w4091 a4093 a4094 ⊢) <;> (try simp (disch := omega) only [zb] at u3429 xq2 h3430 xq12 h3435 xq14 a3441 u3442 h3443 h3444 h4070 h4071 w4072 w4073 f4074 r4075 r4076 r4077 h4078 h4083 h4084 h4089 h4090 w4091 a4093 a4094 ⊢) <;> first | omega | ((try simp (disch := omega) only [zb] at u3429 xq2 h3430 xq12 h3435 xq14 a3441 u3442 h3443 h3444 h4070 h4071 w4072 w4073 f4074 r4075 r4076 r4077 h4078 h4083 h4084 h4089 h4090 w4091 a4093 a4094 ⊢) <;> omega))⟩
                      · refine sw_sh (ci_sh cs11 t_p0 rfl) ?_
                        refine sw_on (sX9_put cs11 t_p0 (by (try simp only [zp, zo, zq] at u3429 xq2 h3430 xq12 h3435 xq14 a3441 u3442 h3443 h3444 h4070 h4071 w4072 w4073 f4074 r4075 r4076 r4077 h4078 h4083 h4084 h4089 h4090 ⊢) <;> (try simp only [zz, Int32.reduceToInt, ne_eq] at u3429 xq2 h3430 xq12 h3435 xq14 a3441 u3442 h3443 h3444 h4070 h4071 w4072 w4073 f4074 r4075 r4076 r4077 h4078 h4083 h4084 h4089 h4090 ⊢) <;> (try simp (disch := omega) only [zb] at u3429 xq2 h3430 xq12 h3435 xq14 a3441 u3442 h3443 h3444 h4070 h4071 w4072 w4073 f4074 r4075 r4076 r4077 h4078 h4083 h4084 h4089 h4090 ⊢) <;> first | omega | ((try simp (disch := omega) only [zb] at u3429 xq2 h3430 xq12 h3435 xq14 a3441 u3442 h3443 h3444 h4070 h4071 w4072 w4073 f4074 r4075 r4076 r4077 h4078 h4083 h4084 h4089 h4090 ⊢) <;> omega)) ) ?_
                        intro q28 hqq28
                        obtain ⟨cq28, gq28, xq28⟩ := hqq28
                        have fq28 := fr_trans fs11 gq28 rfl
                        have w4095 := (gq28.2.2 _ _ t_p0 0 rfl).1
                        have w4096 : mm_I s11 p0 0 = mm_I q2.2 p0 0 := by rw [← es11]; exact rd_k t_p0 tq5 (by decide)
                        have a4098 := zi_and p3 127 (by decide)
                        have a4099 := zi_and p2 8 (by decide)
                        exact sw_some ⟨cq28, fq28, (by (try simp only [zp, zo, zq] at u3429 xq2 h3430 xq12 h3435 xq14 a3441 u3442 h3443 h3444 h4070 h4071 w4072 w4073 f4074 r4075 r4076 r4077 h4078 h4083 h4084 h4089 h4090 w4095 w4096 a4098 a4099 ⊢) <;> (try simp only [zz, Int32.reduceToInt, ne_eq] at u3429 xq2 h3430 xq12 h3435 xq14 a3441 u3442 h3443 h3444 h4070 h4071 w4072 w4073 f4074 r4075 r4076 r4077 h4078 h4083 h4084 h4089 h4090 w4095 w4096 a4098 a4099 ⊢) <;> (try simp (disch := omega) only [zb] at u3429 xq2 h3430 xq12 h3435 xq14 a3441 u3442 h3443 h3444 h4070 h4071 w4072 w4073 f4074 r4075 r4076 r4077 h4078 h4083 h4084 h4089 h4090 w4095 w4096 a4098 a4099 ⊢) <;> first | omega | ((try simp (disch := omega) only [zb] at u3429 xq2 h3430 xq12 h3435 xq14 a3441 u3442 h3443 h3444 h4070 h4071 w4072 w4073 f4074 r4075 r4076 r4077 h4078 h4083 h4084 h4089 h4090 w4095 w4096 a4098 a4099 ⊢) <;> omega))⟩
                    · refine sw_sh (ci_sh cs11 t_p0 rfl) ?_
                      refine sw_on (sX9_put cs11 t_p0 (by (try simp only [zp, zo, zq] at u3429 xq2 h3430 xq12 h3435 xq14 a3441 u3442 h3443 h3444 h4070 h4071 w4072 w4073 f4074 r4075 r4076 r4077 h4078 h4083 h4084 h4089 ⊢) <;> (try simp only [zz, Int32.reduceToInt, ne_eq] at u3429 xq2 h3430 xq12 h3435 xq14 a3441 u3442 h3443 h3444 h4070 h4071 w4072 w4073 f4074 r4075 r4076 r4077 h4078 h4083 h4084 h4089 ⊢) <;> (try simp (disch := omega) only [zb] at u3429 xq2 h3430 xq12 h3435 xq14 a3441 u3442 h3443 h3444 h4070 h4071 w4072 w4073 f4074 r4075 r4076 r4077 h4078 h4083 h4084 h4089 ⊢) <;> first | omega | ((try simp (disch := omega) only [zb] at u3429 xq2 h3430 xq12 h3435 xq14 a3441 u3442 h3443 h3444 h4070 h4071 w4072 w4073 f4074 r4075 r4076 r4077 h4078 h4083 h4084 h4089 ⊢) <;> omega)) ) ?_
                      intro q30 hqq30
                      obtain ⟨cq30, gq30, xq30⟩ := hqq30
                      have fq30 := fr_trans fs11 gq30 rfl
                      unfold fX9_pair_264
                      refine sw_ite (fun h4100 => ?_) (fun h4100 => ?_)
                      · have w4101 := (gq30.2.2 _ _ t_p0 0 rfl).1
                        have w4102 : mm_I s11 p0 0 = mm_I q2.2 p0 0 := by rw [← es11]; exact rd_k t_p0 tq5 (by decide)
                        have a4104 := zi_and p3 127 (by decide)
                        have a4105 := zi_and p2 8 (by decide)
                        exact sw_some ⟨cq30, fq30, (by (try simp only [zp, zo, zq] at u3429 xq2 h3430 xq12 h3435 xq14 a3441 u3442 h3443 h3444 h4070 h4071 w4072 w4073 f4074 r4075 r4076 r4077 h4078 h4083 h4084 h4089 h4100 w4101 w4102 a4104 a4105 ⊢) <;> (try simp only [zz, Int32.reduceToInt, ne_eq] at u3429 xq2 h3430 xq12 h3435 xq14 a3441 u3442 h3443 h3444 h4070 h4071 w4072 w4073 f4074 r4075 r4076 r4077 h4078 h4083 h4084 h4089 h4100 w4101 w4102 a4104 a4105 ⊢) <;> (try simp (disch := omega) only [zb] at u3429 xq2 h3430 xq12 h3435 xq14 a3441 u3442 h3443 h3444 h4070 h4071 w4072 w4073 f4074 r4075 r4076 r4077 h4078 h4083 h4084 h4089 h4100 w4101 w4102 a4104 a4105 ⊢) <;> first | omega | ((try simp (disch := omega) only [zb] at u3429 xq2 h3430 xq12 h3435 xq14 a3441 u3442 h3443 h3444 h4070 h4071 w4072 w4073 f4074 r4075 r4076 r4077 h4078 h4083 h4084 h4089 h4100 w4101 w4102 a4104 a4105 ⊢) <;> omega))⟩
                      · refine sw_sh (ci_sh cq30 t_p0 rfl) ?_
                        refine sw_on (sX9_put cq30 t_p0 (by (try simp only [zp, zo, zq] at u3429 xq2 h3430 xq12 h3435 xq14 a3441 u3442 h3443 h3444 h4070 h4071 w4072 w4073 f4074 r4075 r4076 r4077 h4078 h4083 h4084 h4089 h4100 ⊢) <;> (try simp only [zz, Int32.reduceToInt, ne_eq] at u3429 xq2 h3430 xq12 h3435 xq14 a3441 u3442 h3443 h3444 h4070 h4071 w4072 w4073 f4074 r4075 r4076 r4077 h4078 h4083 h4084 h4089 h4100 ⊢) <;> (try simp (disch := omega) only [zb] at u3429 xq2 h3430 xq12 h3435 xq14 a3441 u3442 h3443 h3444 h4070 h4071 w4072 w4073 f4074 r4075 r4076 r4077 h4078 h4083 h4084 h4089 h4100 ⊢) <;> first | omega | ((try simp (disch := omega) only [zb] at u3429 xq2 h3430 xq12 h3435 xq14 a3441 u3442 h3443 h3444 h4070 h4071 w4072 w4073 f4074 r4075 r4076 r4077 h4078 h4083 h4084 h4089 h4100 ⊢) <;> omega)) ) ?_
                        intro q28 hqq28
                        obtain ⟨cq28, gq28, xq28⟩ := hqq28
                        have fq28 := fr_trans fq30 gq28 rfl
                        have w4106 := (gq28.2.2 _ _ t_p0 0 rfl).1
                        have w4107 := (gq30.2.2 _ _ t_p0 0 rfl).1
                        have w4108 : mm_I s11 p0 0 = mm_I q2.2 p0 0 := by rw [← es11]; exact rd_k t_p0 tq5 (by decide)
                        have a4110 := zi_and p3 127 (by decide)
                        have a4111 := zi_and p2 8 (by decide)
                        exact sw_some ⟨cq28, fq28, (by (try simp only [zp, zo, zq] at u3429 xq2 h3430 xq12 h3435 xq14 a3441 u3442 h3443 h3444 h4070 h4071 w4072 w4073 f4074 r4075 r4076 r4077 h4078 h4083 h4084 h4089 h4100 w4106 w4107 w4108 a4110 a4111 ⊢) <;> (try simp only [zz, Int32.reduceToInt, ne_eq] at u3429 xq2 h3430 xq12 h3435 xq14 a3441 u3442 h3443 h3444 h4070 h4071 w4072 w4073 f4074 r4075 r4076 r4077 h4078 h4083 h4084 h4089 h4100 w4106 w4107 w4108 a4110 a4111 ⊢) <;> (try simp (disch := omega) only [zb] at u3429 xq2 h3430 xq12 h3435 xq14 a3441 u3442 h3443 h3444 h4070 h4071 w4072 w4073 f4074 r4075 r4076 r4077 h4078 h4083 h4084 h4089 h4100 w4106 w4107 w4108 a4110 a4111 ⊢) <;> first | omega | ((try simp (disch := omega) only [zb] at u3429 xq2 h3430 xq12 h3435 xq14 a3441 u3442 h3443 h3444 h4070 h4071 w4072 w4073 f4074 r4075 r4076 r4077 h4078 h4083 h4084 h4089 h4100 w4106 w4107 w4108 a4110 a4111 ⊢) <;> omega))⟩
                · unfold fX9_pair_250
                  refine sw_ite (fun h4112 => ?_) (fun h4112 => ?_)
                  · unfold fX9_pair_264
                    refine sw_ite (fun h4113 => ?_) (fun h4113 => ?_)
                    · have w4114 : mm_I s11 p0 0 = mm_I q2.2 p0 0 := by rw [← es11]; exact rd_k t_p0 tq5 (by decide)
                      have a4116 := zi_and p3 127 (by decide)
                      have a4117 := zi_and p2 8 (by decide)
                      exact sw_some ⟨cs11, fs11, (by (try simp only [zp, zo, zq] at u3429 xq2 h3430 xq12 h3435 xq14 a3441 u3442 h3443 h3444 h4070 h4071 w4072 w4073 f4074 r4075 r4076 r4077 h4078 h4083 h4112 h4113 w4114 a4116 a4117 ⊢) <;> (try simp only [zz, Int32.reduceToInt, ne_eq] at u3429 xq2 h3430 xq12 h3435 xq14 a3441 u3442 h3443 h3444 h4070 h4071 w4072 w4073 f4074 r4075 r4076 r4077 h4078 h4083 h4112 h4113 w4114 a4116 a4117 ⊢) <;> (try simp (disch := omega) only [zb] at u3429 xq2 h3430 xq12 h3435 xq14 a3441 u3442 h3443 h3444 h4070 h4071 w4072 w4073 f4074 r4075 r4076 r4077 h4078 h4083 h4112 h4113 w4114 a4116 a4117 ⊢) <;> first | omega | ((try simp (disch := omega) only [zb] at u3429 xq2 h3430 xq12 h3435 xq14 a3441 u3442 h3443 h3444 h4070 h4071 w4072 w4073 f4074 r4075 r4076 r4077 h4078 h4083 h4112 h4113 w4114 a4116 a4117 ⊢) <;> omega))⟩
                    · refine sw_sh (ci_sh cs11 t_p0 rfl) ?_
                      refine sw_on (sX9_put cs11 t_p0 (by (try simp only [zp, zo, zq] at u3429 xq2 h3430 xq12 h3435 xq14 a3441 u3442 h3443 h3444 h4070 h4071 w4072 w4073 f4074 r4075 r4076 r4077 h4078 h4083 h4112 h4113 ⊢) <;> (try simp only [zz, Int32.reduceToInt, ne_eq] at u3429 xq2 h3430 xq12 h3435 xq14 a3441 u3442 h3443 h3444 h4070 h4071 w4072 w4073 f4074 r4075 r4076 r4077 h4078 h4083 h4112 h4113 ⊢) <;> (try simp (disch := omega) only [zb] at u3429 xq2 h3430 xq12 h3435 xq14 a3441 u3442 h3443 h3444 h4070 h4071 w4072 w4073 f4074 r4075 r4076 r4077 h4078 h4083 h4112 h4113 ⊢) <;> first | omega | ((try simp (disch := omega) only [zb] at u3429 xq2 h3430 xq12 h3435 xq14 a3441 u3442 h3443 h3444 h4070 h4071 w4072 w4073 f4074 r4075 r4076 r4077 h4078 h4083 h4112 h4113 ⊢) <;> omega)) ) ?_
                      intro q28 hqq28
                      obtain ⟨cq28, gq28, xq28⟩ := hqq28
                      have fq28 := fr_trans fs11 gq28 rfl
                      have w4118 := (gq28.2.2 _ _ t_p0 0 rfl).1
                      have w4119 : mm_I s11 p0 0 = mm_I q2.2 p0 0 := by rw [← es11]; exact rd_k t_p0 tq5 (by decide)
                      have a4121 := zi_and p3 127 (by decide)
                      have a4122 := zi_and p2 8 (by decide)
                      exact sw_some ⟨cq28, fq28, (by (try simp only [zp, zo, zq] at u3429 xq2 h3430 xq12 h3435 xq14 a3441 u3442 h3443 h3444 h4070 h4071 w4072 w4073 f4074 r4075 r4076 r4077 h4078 h4083 h4112 h4113 w4118 w4119 a4121 a4122 ⊢) <;> (try simp only [zz, Int32.reduceToInt, ne_eq] at u3429 xq2 h3430 xq12 h3435 xq14 a3441 u3442 h3443 h3444 h4070 h4071 w4072 w4073 f4074 r4075 r4076 r4077 h4078 h4083 h4112 h4113 w4118 w4119 a4121 a4122 ⊢) <;> (try simp (disch := omega) only [zb] at u3429 xq2 h3430 xq12 h3435 xq14 a3441 u3442 h3443 h3444 h4070 h4071 w4072 w4073 f4074 r4075 r4076 r4077 h4078 h4083 h4112 h4113 w4118 w4119 a4121 a4122 ⊢) <;> first | omega | ((try simp (disch := omega) only [zb] at u3429 xq2 h3430 xq12 h3435 xq14 a3441 u3442 h3443 h3444 h4070 h4071 w4072 w4073 f4074 r4075 r4076 r4077 h4078 h4083 h4112 h4113 w4118 w4119 a4121 a4122 ⊢) <;> omega))⟩
                  · refine sw_sh (ci_sh cs11 t_p0 rfl) ?_
                    refine sw_on (sX9_put cs11 t_p0 (by (try simp only [zp, zo, zq] at u3429 xq2 h3430 xq12 h3435 xq14 a3441 u3442 h3443 h3444 h4070 h4071 w4072 w4073 f4074 r4075 r4076 r4077 h4078 h4083 h4112 ⊢) <;> (try simp only [zz, Int32.reduceToInt, ne_eq] at u3429 xq2 h3430 xq12 h3435 xq14 a3441 u3442 h3443 h3444 h4070 h4071 w4072 w4073 f4074 r4075 r4076 r4077 h4078 h4083 h4112 ⊢) <;> (try simp (disch := omega) only [zb] at u3429 xq2 h3430 xq12 h3435 xq14 a3441 u3442 h3443 h3444 h4070 h4071 w4072 w4073 f4074 r4075 r4076 r4077 h4078 h4083 h4112 ⊢) <;> first | omega | ((try simp (disch := omega) only [zb] at u3429 xq2 h3430 xq12 h3435 xq14 a3441 u3442 h3443 h3444 h4070 h4071 w4072 w4073 f4074 r4075 r4076 r4077 h4078 h4083 h4112 ⊢) <;> omega)) ) ?_
                    intro q30 hqq30
                    obtain ⟨cq30, gq30, xq30⟩ := hqq30
                    have fq30 := fr_trans fs11 gq30 rfl
                    unfold fX9_pair_264
                    refine sw_ite (fun h4123 => ?_) (fun h4123 => ?_)
                    · have w4124 := (gq30.2.2 _ _ t_p0 0 rfl).1
                      have w4125 : mm_I s11 p0 0 = mm_I q2.2 p0 0 := by rw [← es11]; exact rd_k t_p0 tq5 (by decide)
                      have a4127 := zi_and p3 127 (by decide)
                      have a4128 := zi_and p2 8 (by decide)
                      exact sw_some ⟨cq30, fq30, (by (try simp only [zp, zo, zq] at u3429 xq2 h3430 xq12 h3435 xq14 a3441 u3442 h3443 h3444 h4070 h4071 w4072 w4073 f4074 r4075 r4076 r4077 h4078 h4083 h4112 h4123 w4124 w4125 a4127 a4128 ⊢) <;> (try simp only [zz, Int32.reduceToInt, ne_eq] at u3429 xq2 h3430 xq12 h3435 xq14 a3441 u3442 h3443 h3444 h4070 h4071 w4072 w4073 f4074 r4075 r4076 r4077 h4078 h4083 h4112 h4123 w4124 w4125 a4127 a4128 ⊢) <;> (try simp (disch := omega) only [zb] at u3429 xq2 h3430 xq12 h3435 xq14 a3441 u3442 h3443 h3444 h4070 h4071 w4072 w4073 f4074 r4075 r4076 r4077 h4078 h4083 h4112 h4123 w4124 w4125 a4127 a4128 ⊢) <;> first | omega | ((try simp (disch := omega) only [zb] at u3429 xq2 h3430 xq12 h3435 xq14 a3441 u3442 h3443 h3444 h4070 h4071 w4072 w4073 f4074 r4075 r4076 r4077 h4078 h4083 h4112 h4123 w4124 w4125 a4127 a4128 ⊢) <;> omega))⟩
                    · refine sw_sh (ci_sh cq30 t_p0 rfl) ?_
                      refine sw_on (sX9_put cq30 t_p0 (by (try simp only [zp, zo, zq] at u3429 xq2 h3430 xq12 h3435 xq14 a3441 u3442 h3443 h3444 h4070 h4071 w4072 w4073 f4074 r4075 r4076 r4077 h4078 h4083 h4112 h4123 ⊢) <;> (try simp only [zz, Int32.reduceToInt, ne_eq] at u3429 xq2 h3430 xq12 h3435 xq14 a3441 u3442 h3443 h3444 h4070 h4071 w4072 w4073 f4074 r4075 r4076 r4077 h4078 h4083 h4112 h4123 ⊢) <;> (try simp (disch := omega) only [zb] at u3429 xq2 h3430 xq12 h3435 xq14 a3441 u3442 h3443 h3444 h4070 h4071 w4072 w4073 f4074 r4075 r4076 r4077 h4078 h4083 h4112 h4123 ⊢) <;> first | omega | ((try simp (disch := omega) only [zb] at u3429 xq2 h3430 xq12 h3435 xq14 a3441 u3442 h3443 h3444 h4070 h4071 w4072 w4073 f4074 r4075 r4076 r4077 h4078 h4083 h4112 h4123 ⊢) <;> omega)) ) ?_
                      intro q28 hqq28
                      obtain ⟨cq28, gq28, xq28⟩ := hqq28
                      have fq28 := fr_trans fq30 gq28 rfl
                      have w4129 := (gq28.2.2 _ _ t_p0 0 rfl).1
                      have w4130 := (gq30.2.2 _ _ t_p0 0 rfl).1
                      have w4131 : mm_I s11 p0 0 = mm_I q2.2 p0 0 := by rw [← es11]; exact rd_k t_p0 tq5 (by decide)
                      have a4133 := zi_and p3 127 (by decide)
                      have a4134 := zi_and p2 8 (by decide)
                      exact sw_some ⟨cq28, fq28, (by (try simp only [zp, zo, zq] at u3429 xq2 h3430 xq12 h3435 xq14 a3441 u3442 h3443 h3444 h4070 h4071 w4072 w4073 f4074 r4075 r4076 r4077 h4078 h4083 h4112 h4123 w4129 w4130 w4131 a4133 a4134 ⊢) <;> (try simp only [zz, Int32.reduceToInt, ne_eq] at u3429 xq2 h3430 xq12 h3435 xq14 a3441 u3442 h3443 h3444 h4070 h4071 w4072 w4073 f4074 r4075 r4076 r4077 h4078 h4083 h4112 h4123 w4129 w4130 w4131 a4133 a4134 ⊢) <;> (try simp (disch := omega) only [zb] at u3429 xq2 h3430 xq12 h3435 xq14 a3441 u3442 h3443 h3444 h4070 h4071 w4072 w4073 f4074 r4075 r4076 r4077 h4078 h4083 h4112 h4123 w4129 w4130 w4131 a4133 a4134 ⊢) <;> first | omega | ((try simp (disch := omega) only [zb] at u3429 xq2 h3430 xq12 h3435 xq14 a3441 u3442 h3443 h3444 h4070 h4071 w4072 w4073 f4074 r4075 r4076 r4077 h4078 h4083 h4112 h4123 w4129 w4130 w4131 a4133 a4134 ⊢) <;> omega))⟩
            · have a4135 := zi_and p3 127 (by decide)
              refine sw_ite (fun h4136 => ?_) (fun h4136 => ?_)
              · unfold fX9_pair_227
                unfold fX9_pair_228
                have w4137 : mm_I s11 q17 p1.toNatClampNeg = mm_I q2.2 q17 p1.toNatClampNeg := by rw [← es11]; exact rd_k tq17 tq5 (by decide)
                have w4138 := (gq2.2.2 _ _ tq17 p1.toNatClampNeg rfl).1
                have f4139 : mm_I σ0 q17 p1.toNatClampNeg = -1 := hv q17 59 p1.toNatClampNeg tq17 (Or.inr (by decide)) (by (try simp only [zp, zo, zq] at u3429 xq2 h3430 xq12 h3435 xq14 a3441 u3442 h3443 h3444 h4070 h4071 a4135 h4136 w4137 w4138 ⊢) <;> (try simp only [zz, Int32.reduceToInt, ne_eq] at u3429 xq2 h3430 xq12 h3435 xq14 a3441 u3442 h3443 h3444 h4070 h4071 a4135 h4136 w4137 w4138 ⊢) <;> (try simp (disch := omega) only [zb] at u3429 xq2 h3430 xq12 h3435 xq14 a3441 u3442 h3443 h3444 h4070 h4071 a4135 h4136 w4137 w4138 ⊢) <;> first | omega | ((try simp (disch := omega) only [zb] at u3429 xq2 h3430 xq12 h3435 xq14 a3441 u3442 h3443 h3444 h4070 h4071 a4135 h4136 w4137 w4138 ⊢) <;> omega))
                have r4140 := ci_rg c0 tq17 p1.toNatClampNeg (lo := (-1)) (hi := 3) rfl
                have r4141 := ci_rg cq2 tq17 p1.toNatClampNeg (lo := (-1)) (hi := 3) rfl
                have r4142 := ci_rg cs11 tq17 p1.toNatClampNeg (lo := (-1)) (hi := 3) rfl
                refine sw_ite (fun h4143 => ?_) (fun h4143 => ?_)
                · have w4144 : mm_I s11 p0 0 = mm_I q2.2 p0 0 := by rw [← es11]; exact rd_k t_p0 tq5 (by decide)
                  have a4146 := zi_and p2 8 (by decide)
                  exact sw_some ⟨cs11, fs11, (by (try simp only [zp, zo, zq] at u3429 xq2 h3430 xq12 h3435 xq14 a3441 u3442 h3443 h3444 h4070 h4071 a4135 h4136 w4137 w4138 f4139 r4140 r4141 r4142 h4143 w4144 a4146 ⊢) <;> (try simp only [zz, Int32.reduceToInt, ne_eq] at u3429 xq2 h3430 xq12 h3435 xq14 a3441 u3442 h3443 h3444 h4070 h4071 a4135 h4136 w4137 w4138 f4139 r4140 r4141 r4142 h4143 w4144 a4146 ⊢) <;> (try simp (disch := omega) only [zb] at u3429 xq2 h3430 xq12 h3435 xq14 a3441 u3442 h3443 h3444 h4070 h4071 a4135 h4136 w4137 w4138 f4139 r4140 r4141 r4142 h4143 w4144 a4146 ⊢) <;> first | omega | ((try simp (disch := omega) only [zb] at u3429 xq2 h3430 xq12 h3435 xq14 a3441 u3442 h3443 h3444 h4070 h4071 a4135 h4136 w4137 w4138 f4139 r4140 r4141 r4142 h4143 w4144 a4146 ⊢) <;> omega))⟩
                · refine sw_ite (fun h4147 => ?_) (fun h4147 => ?_)
                  · refine sw_ite (fun h4148 => ?_) (fun h4148 => ?_)
                    · have w4149 : mm_I s11 p0 0 = mm_I q2.2 p0 0 := by rw [← es11]; exact rd_k t_p0 tq5 (by decide)
                      have a4151 := zi_and p2 8 (by decide)
                      exact sw_some ⟨cs11, fs11, (by (try simp only [zp, zo, zq] at u3429 xq2 h3430 xq12 h3435 xq14 a3441 u3442 h3443 h3444 h4070 h4071 a4135 h4136 w4137 w4138 f4139 r4140 r4141 r4142 h4143 h4147 h4148 w4149 a4151 ⊢) <;> (try simp only [zz, Int32.reduceToInt, ne_eq] at u3429 xq2 h3430 xq12 h3435 xq14 a3441 u3442 h3443 h3444 h4070 h4071 a4135 h4136 w4137 w4138 f4139 r4140 r4141 r4142 h4143 h4147 h4148 w4149 a4151 ⊢) <;> (try simp (disch := omega) only [zb] at u3429 xq2 h3430 xq12 h3435 xq14 a3441 u3442 h3443 h3444 h4070 h4071 a4135 h4136 w4137 w4138 f4139 r4140 r4141 r4142 h4143 h4147 h4148 w4149 a4151 ⊢) <;> first | omega | ((try simp (disch := omega) only [zb] at u3429 xq2 h3430 xq12 h3435 xq14 a3441 u3442 h3443 h3444 h4070 h4071 a4135 h4136 w4137 w4138 f4139 r4140 r4141 r4142 h4143 h4147 h4148 w4149 a4151 ⊢) <;> omega))⟩
                    · unfold fX9_pair_250
                      refine sw_ite (fun h4152 => ?_) (fun h4152 => ?_)
                      · unfold fX9_pair_264
                        refine sw_ite (fun h4153 => ?_) (fun h4153 => ?_)
                        · have w4154 : mm_I s11 p0 0 = mm_I q2.2 p0 0 := by rw [← es11]; exact rd_k t_p0 tq5 (by decide)
                          have a4156 := zi_and p2 8 (by decide)
                          exact sw_some ⟨cs11, fs11, (by (try simp only [zp, zo, zq] at u3429 xq2 h3430 xq12 h3435 xq14 a3441 u3442 h3443 h3444 h4070 h4071 a4135 h4136 w4137 w4138 f4139 r4140 r4141 r4142 h4143 h4147 h4148 h4152 h4153 w4154 a4156 ⊢) <;> (try simp only [zz, Int32.reduceToInt, ne_eq] at u3429 xq2 h3430 xq12 h3435 xq14 a3441 u3442 h3443 h3444 h4070 h4071 a4135 h4136 w4137 w4138 f4139 r4140 r4141 r4142 h4143 h4147 h4148 h4152 h4153 w4154 a4156 ⊢) <;> (try simp (disch := omega) only [zb] at u3429 xq2 h3430 xq12 h3435 xq14 a3441 u3442 h3443 h3444 h4070 h4071 a4135 h4136 w4137 w4138 f4139 r4140 r4141 r4142 h4143 h4147 h4148 h4152 h4153 w4154 a4156 ⊢) <;> first | omega | ((try simp (disch := omega) only [zb] at u3429 xq2 h3430 xq12 h3435 xq14 a3441 u3442 h3443 h3444 h4070 h4071 a4135 h4136 w4137 w4138 f4139 r4140 r4141 r4142 h4143 h4147 h4148 h4152 h4153 w4154 a4156 ⊢) <;> omega))⟩
                        · refine sw_sh (ci_sh cs11 t_p0 rfl) ?_
                          refine sw_on (sX9_put cs11 t_p0 (by (try simp only [zp, zo, zq] at u3429 xq2 h3430 xq12 h3435 xq14 a3441 u3442 h3443 h3444 h4070 h4071 a4135 h4136 w4137 w4138 f4139 r4140 r4141 r4142 h4143 h4147 h4148 h4152 h4153 ⊢) <;> (try simp only [zz, Int32.reduceToInt, ne_eq] at u3429 xq2 h3430 xq12 h3435 xq14 a3441 u3442 h3443 h3444 h4070 h4071 a4135 h4136 w4137 w4138 f4139 r4140 r4141 r4142 h4143 h4147 h4148 h4152 h4153 ⊢) <;> (try simp (disch := omega) only [zb] at u3429 xq2 h3430 xq12 h3435 xq14 a3441 u3442 h3443 h3444 h4070 h4071 a4135 h4136 w4137 w4138 f4139 r4140 r4141 r4142 h4143 h4147 h4148 h4152 h4153 ⊢) <;> first | omega | ((try simp (disch := omega) only [zb] at u3429 xq2 h3430 xq12 h3435 xq14 a3441 u3442 h3443 h3444 h4070 h4071 a4135 h4136 w4137 w4138 f4139 r4140 r4141 r4142 h4143 h4147 h4148 h4152 h4153 ⊢) <;> omega)) ) ?_
                          intro q28 hqq28
                          obtain ⟨cq28, gq28, xq28⟩ := hqq28
                          have fq28 := fr_trans fs11 gq28 rfl
                          have w4157 := (gq28.2.2 _ _ t_p0 0 rfl).1
                          have w4158 : mm_I s11 p0 0 = mm_I q2.2 p0 0 := by rw [← es11]; exact rd_k t_p0 tq5 (by decide)
                          have a4160 := zi_and p2 8 (by decide)
                          exact sw_some ⟨cq28, fq28, (by (try simp only [zp, zo, zq] at u3429 xq2 h3430 xq12 h3435 xq14 a3441 u3442 h3443 h3444 h4070 h4071 a4135 h4136 w4137 w4138 f4139 r4140 r4141 r4142 h4143 h4147 h4148 h4152 h4153 w4157 w4158 a4160 ⊢) <;> (try simp only [zz, Int32.reduceToInt, ne_eq] at u3429 xq2 h3430 xq12 h3435 xq14 a3441 u3442 h3443 h3444 h4070 h4071 a4135 h4136 w4137 w4138 f4139 r4140 r4141 r4142 h4143 h4147 h4148 h4152 h4153 w4157 w4158 a4160 ⊢) <;> (try simp (disch := omega) only [zb] at u3429 xq2 h3430 xq12 h3435 xq14 a3441 u3442 h3443 h3444 h4070 h4071 a4135 h4136 w4137 w4138 f4139 r4140 r4141 r4142 h4143 h4147 h4148 h4152 h4153 w4157 w4158 a4160 ⊢) <;> first | omega | ((try simp (disch := omega) only [zb] at u3429 xq2 h3430 xq12 h3435 xq14 a3441 u3442 h3443 h3444 h4070 h4071 a4135 h4136 w4137 w4138 f4139 r4140 r4141 r4142 h4143 h4147 h4148 h4152 h4153 w4157 w4158 a4160 ⊢) <;> omega))⟩
                      · refine sw_sh (ci_sh cs11 t_p0 rfl) ?_
                        refine sw_on (sX9_put cs11 t_p0 (by (try simp only [zp, zo, zq] at u3429 xq2 h3430 xq12 h3435 xq14 a3441 u3442 h3443 h3444 h4070 h4071 a4135 h4136 w4137 w4138 f4139 r4140 r4141 r4142 h4143 h4147 h4148 h4152 ⊢) <;> (try simp only [zz, Int32.reduceToInt, ne_eq] at u3429 xq2 h3430 xq12 h3435 xq14 a3441 u3442 h3443 h3444 h4070 h4071 a4135 h4136 w4137 w4138 f4139 r4140 r4141 r4142 h4143 h4147 h4148 h4152 ⊢) <;> (try simp (disch := omega) only [zb] at u3429 xq2 h3430 xq12 h3435 xq14 a3441 u3442 h3443 h3444 h4070 h4071 a4135 h4136 w4137 w4138 f4139 r4140 r4141 r4142 h4143 h4147 h4148 h4152 ⊢) <;> first | omega | ((try simp (disch := omega) only [zb] at u3429 xq2 h3430 xq12 h3435 xq14 a3441 u3442 h3443 h3444 h4070 h4071 a4135 h4136 w4137 w4138 f4139 r4140 r4141 r4142 h4143 h4147 h4148 h4152 ⊢) <;> omega)) ) ?_
                        intro q30 hqq30
                        obtain ⟨cq30, gq30, xq30⟩ := hqq30
                        have fq30 := fr_trans fs11 gq30 rfl
                        unfold fX9_pair_264
                        refine sw_ite (fun h4161 => ?_) (fun h4161 => ?_)
                        · have w4162 := (gq30.2.2 _ _ t_p0 0 rfl).1
                          have w4163 : mm_I s11 p0 0 = mm_I q2.2 p0 0 := by rw [← es11]; exact rd_k t_p0 tq5 (by decide)
                          have a4165 := zi_and p2 8 (by decide)
                          exact sw_some ⟨cq30, fq30, (by (try simp only [zp, zo, zq] at u3429 xq2 h3430 xq12 h3435 xq14 a3441 u3442 h3443 h3444 h4070 h4071 a4135 h4136 w4137 w4138 f4139 r4140 r4141 r4142 h4143 h4147 h4148 h4152 h4161 w4162 w4163 a4165 ⊢) <;> (try simp only [zz, Int32.reduceToInt, ne_eq] at u3429 xq2 h3430 xq12 h3435 xq14 a3441 u3442 h3443 h3444 h4070 h4071 a4135 h4136 w4137 w4138 f4139 r4140 r4141 r4142 h4143 h4147 h4148 h4152 h4161 w4162 w4163 a4165 ⊢) <;> (try simp (disch := omega) only [zb] at u3429 xq2 h3430 xq12 h3435 xq14 a3441 u3442 h3443 h3444 h4070 h4071 a4135 h4136 w4137 w4138 f4139 r4140 r4141 r4142 h4143 h4147 h4148 h4152 h4161 w4162 w4163 a4165 ⊢) <;> first | omega | ((try simp (disch := omega) only [zb] at u3429 xq2 h3430 xq12 h3435 xq14 a3441 u3442 h3443 h3444 h4070 h4071 a4135 h4136 w4137 w4138 f4139 r4140 r4141 r4142 h4143 h4147 h4148 h4152 h4161 w4162 w4163 a4165 ⊢) <;> omega))⟩
                        · refine sw_sh (ci_sh cq30 t_p0 rfl) ?_
                          refine sw_on (sX9_put cq30 t_p0 (by (try simp only [zp, zo, zq] at u3429 xq2 h3430 xq12 h3435 xq14 a3441 u3442 h3443 h3444 h4070 h4071 a4135 h4136 w4137 w4138 f4139 r4140 r4141 r4142 h4143 h4147 h4148 h4152 h4161 ⊢) <;> (try simp only [zz, Int32.reduceToInt, ne_eq] at u3429 xq2 h3430 xq12 h3435 xq14 a3441 u3442 h3443 h3444 h4070 h4071 a4135 h4136 w4137 w4138 f4139 r4140 r4141 r4142 h4143 h4147 h4148 h4152 h4161 ⊢) <;> (try simp (disch := omega) only [zb] at u3429 xq2 h3430 xq12 h3435 xq14 a3441 u3442 h3443 h3444 h4070 h4071 a4135 h4136 w4137 w4138 f4139 r4140 r4141 r4142 h4143 h4147 h4148 h4152 h4161 ⊢) <;> first | omega | ((try simp (disch := omega) only [zb] at u3429 xq2 h3430 xq12 h3435 xq14 a3441 u3442 h3443 h3444 h4070 h4071 a4135 h4136 w4137 w4138 f4139 r4140 r4141 r4142 h4143 h4147 h4148 h4152 h4161 ⊢) <;> omega)) ) ?_
                          intro q28 hqq28
                          obtain ⟨cq28, gq28, xq28⟩ := hqq28
                          have fq28 := fr_trans fq30 gq28 rfl
                          have w4166 := (gq28.2.2 _ _ t_p0 0 rfl).1
                          have w4167 := (gq30.2.2 _ _ t_p0 0 rfl).1
                          have w4168 : mm_I s11 p0 0 = mm_I q2.2 p0 0 := by rw [← es11]; exact rd_k t_p0 tq5 (by decide)
                          have a4170 := zi_and p2 8 (by decide)
                          exact sw_some ⟨cq28, fq28, (by (try simp only [zp, zo, zq] at u3429 xq2 h3430 xq12 h3435 xq14 a3441 u3442 h3443 h3444 h4070 h4071 a4135 h4136 w4137 w4138 f4139 r4140 r4141 r4142 h4143 h4147 h4148 h4152 h4161 w4166 w4167 w4168 a4170 ⊢) <;> (try simp only [zz, Int32.reduceToInt, ne_eq] at u3429 xq2 h3430 xq12 h3435 xq14 a3441 u3442 h3443 h3444 h4070 h4071 a4135 h4136 w4137 w4138 f4139 r4140 r4141 r4142 h4143 h4147 h4148 h4152 h4161 w4166 w4167 w4168 a4170 ⊢) <;> (try simp (disch := omega) only [zb] at u3429 xq2 h3430 xq12 h3435 xq14 a3441 u3442 h3443 h3444 h4070 h4071 a4135 h4136 w4137 w4138 f4139 r4140 r4141 r4142 h4143 h4147 h4148 h4152 h4161 w4166 w4167 w4168 a4170 ⊢) <;> first | omega | ((try simp (disch := omega) only [zb] at u3429 xq2 h3430 xq12 h3435 xq14 a3441 u3442 h3443 h3444 h4070 h4071 a4135 h4136 w4137 w4138 f4139 r4140 r4141 r4142 h4143 h4147 h4148 h4152 h4161 w4166 w4167 w4168 a4170 ⊢) <;> omega))⟩
                  · unfold fX9_pair_250
                    refine sw_ite (fun h4171 => ?_) (fun h4171 => ?_)
                    · unfold fX9_pair_264
                      refine sw_ite (fun h4172 => ?_) (fun h4172 => ?_)
                      · have w4173 : mm_I s11 p0 0 = mm_I q2.2 p0 0 := by rw [← es11]; exact rd_k t_p0 tq5 (by decide)
                        have a4175 := zi_and p2 8 (by decide)
                        exact sw_some ⟨cs11, fs11, (by (try simp only [zp, zo, zq] at u3429 xq2 h3430 xq12 h3435 xq14 a3441 u3442 h3443 h3444 h4070 h4071 a4135 h4136 w4137 w4138 f4139 r4140 r4141 r4142 h4143 h4147 h4171 h4172 w4173 a4175 ⊢) <;> (try simp only [zz, Int32.reduceToInt, ne_eq] at u3429 xq2 h3430 xq12 h3435 xq14 a3441 u3442 h3443 h3444 h4070 h4071 a4135 h4136 w4137 w4138 f4139 r4140 r4141 r4142 h4143 h4147 h4171 h4172 w4173 a4175 ⊢) <;> (try simp (disch := omega) only [zb] at u3429 xq2 h3430 xq12 h3435 xq14 a3441 u3442 h3443 h3444 h4070 h4071 a4135 h4136 w4137 w4138 f4139 r4140 r4141 r4142 h4143 h4147 h4171 h4172 w4173 a4175 ⊢) <;> first | omega | ((try simp (disch := omega) only [zb] at u3429 xq2 h3430 xq12 h3435 xq14 a3441 u3442 h3443 h3444 h4070 h4071 a4135 h4136 w4137 w4138 f4139 r4140 r4141 r4142 h4143 h4147 h4171 h4172 w4173 a4175 ⊢) <;> omega))⟩
                      · refine sw_sh (ci_sh cs11 t_p0 rfl) ?_
                        refine sw_on (sX9_put cs11 t_p0 (by (try simp only [zp, zo, zq] at u3429 xq2 h3430 xq12 h3435 xq14 a3441 u3442 h3443 h3444 h4070 h4071 a4135 h4136 w4137 w4138 f4139 r4140 r4141 r4142 h4143 h4147 h4171 h4172 ⊢) <;> (try simp only [zz, Int32.reduceToInt, ne_eq] at u3429 xq2 h3430 xq12 h3435 xq14 a3441 u3442 h3443 h3444 h4070 h4071 a4135 h4136 w4137 w4138 f4139 r4140 r4141 r4142 h4143 h4147 h4171 h4172 ⊢) <;> (try simp (disch := omega) only [zb] at u3429 xq2 h3430 xq12 h3435 xq14 a3441 u3442 h3443 h3444 h4070 h4071 a4135 h4136 w4137 w4138 f4139 r4140 r4141 r4142 h4143 h4147 h4171 h4172 ⊢) <;> first | omega | ((try simp (disch := omega) only [zb] at u3429 xq2 h3430 xq12 h3435 xq14 a3441 u3442 h3443 h3444 h4070 h4071 a4135 h4136 w4137 w4138 f4139 r4140 r4141 r4142 h4143 h4147 h4171 h4172 ⊢) <;> omega)) ) ?_
                        intro q28 hqq28
                        obtain ⟨cq28, gq28, xq28⟩ := hqq28
                        have fq28 := fr_trans fs11 gq28 rfl
                        have w4176 := (gq28.2.2 _ _ t_p0 0 rfl).1
                        have w4177 : mm_I s11 p0 0 = mm_I q2.2 p0 0 := by rw [← es11]; exact rd_k t_p0 tq5 (by decide)
                        have a4179 := zi_and p2 8 (by decide)
                        exact sw_some ⟨cq28, fq28, (by (try simp only [zp, zo, zq] at u3429 xq2 h3430 xq12 h3435 xq14 a3441 u3442 h3443 h3444 h4070 h4071 a4135 h4136 w4137 w4138 f4139 r4140 r4141 r4142 h4143 h4147 h4171 h4172 w4176 w4177 a4179 ⊢) <;> (try simp only [zz, Int32.reduceToInt, ne_eq] at u3429 xq2 h3430 xq12 h3435 xq14 a3441 u3442 h3443 h3444 h4070 h4071 a4135 h4136 w4137 w4138 f4139 r4140 r4141 r4142 h4143 h4147 h4171 h4172 w4176 w4177 a4179 ⊢) <;> (try simp (disch := omega) only [zb] at u3429 xq2 h3430 xq12 h3435 xq14 a3441 u3442 h3443 h3444 h4070 h4071 a4135 h4136 w4137 w4138 f4139 r4140 r4141 r4142 h4143 h4147 h4171 h4172 w4176 w4177 a4179 ⊢) <;> first | omega | ((try simp (disch := omega) only [zb] at u3429 xq2 h3430 xq12 h3435 xq14 a3441 u3442 h3443 h3444 h4070 h4071 a4135 h4136 w4137 w4138 f4139 r4140 r4141 r4142 h4143 h4147 h4171 h4172 w4176 w4177 a4179 ⊢) <;> omega))⟩
                    · refine sw_sh (ci_sh cs11 t_p0 rfl) ?_
                      refine sw_on (sX9_put cs11 t_p0 (by (try simp only [zp, zo, zq] at u3429 xq2 h3430 xq12 h3435 xq14 a3441 u3442 h3443 h3444 h4070 h4071 a4135 h4136 w4137 w4138 f4139 r4140 r4141 r4142 h4143 h4147 h4171 ⊢) <;> (try simp only [zz, Int32.reduceToInt, ne_eq] at u3429 xq2 h3430 xq12 h3435 xq14 a3441 u3442 h3443 h3444 h4070 h4071 a4135 h4136 w4137 w4138 f4139 r4140 r4141 r4142 h4143 h4147 h4171 ⊢) <;> (try simp (disch := omega) only [zb] at u3429 xq2 h3430 xq12 h3435 xq14 a3441 u3442 h3443 h3444 h4070 h4071 a4135 h4136 w4137 w4138 f4139 r4140 r4141 r4142 h4143 h4147 h4171 ⊢) <;> first | omega | ((try simp (disch := omega) only [zb] at u3429 xq2 h3430 xq12 h3435 xq14 a3441 u3442 h3443 h3444 h4070 h4071 a4135 h4136 w4137 w4138 f4139 r4140 r4141 r4142 h4143 h4147 h4171 ⊢) <;> omega)) ) ?_
                      intro q30 hqq30
                      obtain ⟨cq30, gq30, xq30⟩ := hqq30
                      have fq30 := fr_trans fs11 gq30 rfl
                      unfold fX9_pair_264
                      refine sw_ite (fun h4180 => ?_) (fun h4180 => ?_)
                      · have w4181 := (gq30.2.2 _ _ t_p0 0 rfl).1
                        have w4182 : mm_I s11 p0 0 = mm_I q2.2 p0 0 := by rw [← es11]; exact rd_k t_p0 tq5 (by decide)
                        have a4184 := zi_and p2 8 (by decide)
                        exact sw_some ⟨cq30, fq30, (by (try simp only [zp, zo, zq] at u3429 xq2 h3430 xq12 h3435 xq14 a3441 u3442 h3443 h3444 h4070 h4071 a4135 h4136 w4137 w4138 f4139 r4140 r4141 r4142 h4143 h4147 h4171 h4180 w4181 w4182 a4184 ⊢) <;> (try simp only [zz, Int32.reduceToInt, ne_eq] at u3429 xq2 h3430 xq12 h3435 xq14 a3441 u3442 h3443 h3444 h4070 h4071 a4135 h4136 w4137 w4138 f4139 r4140 r4141 r4142 h4143 h4147 h4171 h4180 w4181 w4182 a4184 ⊢) <;> (try simp (disch := omega) only [zb] at u3429 xq2 h3430 xq12 h3435 xq14 a3441 u3442 h3443 h3444 h4070 h4071 a4135 h4136 w4137 w4138 f4139 r4140 r4141 r4142 h4143 h4147 h4171 h4180 w4181 w4182 a4184 ⊢) <;> first | omega | ((try simp (disch := omega) only [zb] at u3429 xq2 h3430 xq12 h3435 xq14 a3441 u3442 h3443 h3444 h4070 h4071 a4135 h4136 w4137 w4138 f4139 r4140 r4141 r4142 h4143 h4147 h4171 h4180 w4181 w4182 a4184 ⊢) <;> omega))⟩
                      · refine sw_sh (ci_sh cq30 t_p0 rfl) ?_
                        refine sw_on (sX9_put cq30 t_p0 (by (try simp only [zp, zo, zq] at u3429 xq2 h3430 xq12 h3435 xq14 a3441 u3442 h3443 h3444 h4070 h4071 a4135 h4136 w4137 w4138 f4139 r4140 r4141 r4142 h4143 h4147 h4171 h4180 ⊢) <;> (try simp only [zz, Int32.reduceToInt, ne_eq] at u3429 xq2 h3430 xq12 h3435 xq14 a3441 u3442 h3443 h3444 h4070 h4071 a4135 h4136 w4137 w4138 f4139 r4140 r4141 r4142 h4143 h4147 h4171 h4180 ⊢) <;> (try simp (disch := omega) only [zb] at u3429 xq2 h3430 xq12 h3435 xq14 a3441 u3442 h3443 h3444 h4070 h4071 a4135 h4136 w4137 w4138 f4139 r4140 r4141 r4142 h4143 h4147 h4171 h4180 ⊢) <;> first | omega | ((try simp (disch := omega) only [zb] at u3429 xq2 h3430 xq12 h3435 xq14 a3441 u3442 h3443 h3444 h4070 h4071 a4135 h4136 w4137 w4138 f4139 r4140 r4141 r4142 h4143 h4147 h4171 h4180 ⊢) <;> omega)) ) ?_
                        intro q28 hqq28
                        obtain ⟨cq28, gq28, xq28⟩ := hqq28
                        have fq28 := fr_trans fq30 gq28 rfl
                        have w4185 := (gq28.2.2 _ _ t_p0 0 rfl).1
                        have w4186 := (gq30.2.2 _ _ t_p0 0 rfl).1
                        have w4187 : mm_I s11 p0 0 = mm_I q2.2 p0 0 := by rw [← es11]; exact rd_k t_p0 tq5 (by decide)
                        have a4189 := zi_and p2 8 (by decide)
                        exact sw_some ⟨cq28, fq28, (by (try simp only [zp, zo, zq] at u3429 xq2 h3430 xq12 h3435 xq14 a3441 u3442 h3443 h3444 h4070 h4071 a4135 h4136 w4137 w4138 f4139 r4140 r4141 r4142 h4143 h4147 h4171 h4180 w4185 w4186 w4187 a4189 ⊢) <;> (try simp only [zz, Int32.reduceToInt, ne_eq] at u3429 xq2 h3430 xq12 h3435 xq14 a3441 u3442 h3443 h3444 h4070 h4071 a4135 h4136 w4137 w4138 f4139 r4140 r4141 r4142 h4143 h4147 h4171 h4180 w4185 w4186 w4187 a4189 ⊢) <;> (try simp (disch := omega) only [zb] at u3429 xq2 h3430 xq12 h3435 xq14 a3441 u3442 h3443 h3444 h4070 h4071 a4135 h4136 w4137 w4138 f4139 r4140 r4141 r4142 h4143 h4147 h4171 h4180 w4185 w4186 w4187 a4189 ⊢) <;> first | omega | ((try simp (disch := omega) only [zb] at u3429 xq2 h3430 xq12 h3435 xq14 a3441 u3442 h3443 h3444 h4070 h4071 a4135 h4136 w4137 w4138 f4139 r4140 r4141 r4142 h4143 h4147 h4171 h4180 w4185 w4186 w4187 a4189 ⊢) <;> omega))⟩
              · refine sw_ite (fun h4190 => ?_) (fun h4190 => ?_)
                · unfold fX9_pair_222
                  unfold fX9_pair_228
                  have w4191 : mm_I s11 q17 p1.toNatClampNeg = mm_I q2.2 q17 p1.toNatClampNeg := by rw [← es11]; exact rd_k tq17 tq5 (by decide)
                  have w4192 := (gq2.2.2 _ _ tq17 p1.toNatClampNeg rfl).1
                  have f4193 : mm_I σ0 q17 p1.toNatClampNeg = -1 := hv q17 59 p1.toNatClampNeg tq17 (Or.inr (by decide)) (by (try simp only [zp, zo, zq] at u3429 xq2 h3430 xq12 h3435 xq14 a3441 u3442 h3443 h3444 h4070 h4071 a4135 h4136 h4190 w4191 w4192 ⊢) <;> (try simp only [zz, Int32.reduceToInt, ne_eq] at u3429 xq2 h3430 xq12 h3435 xq14 a3441 u3442 h3443 h3444 h4070 h4071 a4135 h4136 h4190 w4191 w4192 ⊢) <;> (try simp (disch := omega) only [zb] at u3429 xq2 h3430 xq12 h3435 xq14 a3441 u3442 h3443 h3444 h4070 h4071 a4135 h4136 h4190 w4191 w4192 ⊢) <;> first | omega | ((try simp (disch := omega) only [zb] at u3429 xq2 h3430 xq12 h3435 xq14 a3441 u3442 h3443 h3444 h4070 h4071 a4135 h4136 h4190 w4191 w4192 ⊢) <;> omega))
                  have r4194 := ci_rg c0 tq17 p1.toNatClampNeg (lo := (-1)) (hi := 3) rfl
                  have r4195 := ci_rg cq2 tq17 p1.toNatClampNeg (lo := (-1)) (hi := 3) rfl
                  have r4196 := ci_rg cs11 tq17 p1.toNatClampNeg (lo := (-1)) (hi := 3) rfl
                  refine sw_ite (fun h4197 => ?_) (fun h4197 => ?_)
                  · have w4198 : mm_I s11 p0 0 = mm_I q2.2 p0 0 := by rw [← es11]; exact rd_k t_p0 tq5 (by decide)
                    have a4200 := zi_and p2 8 (by decide)
                    exact sw_some ⟨cs11, fs11, (by (try simp only [zp, zo, zq] at u3429 xq2 h3430 xq12 h3435 xq14 a3441 u3442 h3443 h3444 h4070 h4071 a4135 h4136 h4190 w4191 w4192 f4193 r4194 r4195 r4196 h4197 w4198 a4200 ⊢) <;> (try simp only [zz, Int32.reduceToInt, ne_eq] at u3429 xq2 h3430 xq12 h3435 xq14 a3441 u3442 h3443 h3444 h4070 h4071 a4135 h4136 h4190 w4191 w4192 f4193 r4194 r4195 r4196 h4197 w4198 a4200 ⊢) <;> (try simp (disch := omega) only [zb] at u3429 xq2 h3430 xq12 h3435 xq14 a3441 u3442 h3443 h3444 h4070 h4071 a4135 h4136 h4190 w4191 w4192 f4193 r4194 r4195 r4196 h4197 w4198 a4200 ⊢) <;> first | omega | ((try simp (disch := omega) only [zb] at u3429 xq2 h3430 xq12 h3435 xq14 a3441 u3442 h3443 h3444 h4070 h4071 a4135 h4136 h4190 w4191 w4192 f4193 r4194 r4195 r4196 h4197 w4198 a4200 ⊢) <;> omega))⟩
                  · refine sw_ite (fun h4201 => ?_) (fun h4201 => ?_)
                    · refine sw_ite (fun h4202 => ?_) (fun h4202 => ?_)
                      · have w4203 : mm_I s11 p0 0 = mm_I q2.2 p0 0 := by rw [← es11]; exact rd_k t_p0 tq5 (by decide)
                        have a4205 := zi_and p2 8 (by decide)
                        exact sw_some ⟨cs11, fs11, (by (try simp only [zp, zo, zq] at u3429 xq2 h3430 xq12 h3435 xq14 a3441 u3442 h3443 h3444 h4070 h4071 a4135 h4136 h4190 w4191 w4192 f4193 r4194 r4195 r4196 h4197 h4201 h4202 w4203 a4205 ⊢) <;> (try simp only [zz, Int32.reduceToInt, ne_eq] at u3429 xq2 h3430 xq12 h3435 xq14 a3441 u3442 h3443 h3444 h4070 h4071 a4135 h4136 h4190 w4191 w4192 f4193 r4194 r4195 r4196 h4197 h4201 h4202 w4203 a4205 ⊢) <;> (try simp (disch := omega) only [zb] at u3429 xq2 h3430 xq12 h3435 xq14 a3441 u3442 h3443 h3444 h4070 h4071 a4135 h4136 h4190 w4191 w4192 f4193 r4194 r4195 r4196 h4197 h4201 h4202 w4203 a4205 ⊢) <;> first | omega | ((try simp (disch := omega) only [zb] at u3429 xq2 h3430 xq12 h3435 xq14 a3441 u3442 h3443 h3444 h4070 h4071 a4135 h4136 h4190 w4191 w4192 f4193 r4194 r4195 r4196 h4197 h4201 h4202 w4203 a4205 ⊢) <;> omega))⟩
                      · unfold fX9_pair_250
                        refine sw_ite (fun h4206 => ?_) (fun h4206 => ?_)
                        · unfold fX9_pair_264
                          refine sw_ite (fun h4207 => ?_) (fun h4207 => ?_)
                          · have w4208 : mm_I s11 p0 0 = mm_I q2.2 p0 0 := by rw [← es11]; exact rd_k t_p0 tq5 (by decide)
                            have a4210 := zi_and p2 8 (by decide)
                            exact sw_some ⟨cs11, fs11, (by (try simp only [zp, zo, zq] at u3429 xq2 h3430 xq12 h3435 xq14 a3441 u3442 h3443 h3444 h4070 h4071 a4135 h4136 h4190 w4191 w4192 f4193 r4194 r4195 r4196 h4197 h4201 h4202 h4206 h4207 w4208 a4210 ⊢) <;> (try simp only [zz, Int32.reduceToInt, ne_eq] at u3429 xq2 h3430 xq12 h3435 xq14 a3441 u3442 h3443 h3444 h4070 h4071 a4135 h4136 h4190 w4191 w4192 f4193 r4194 r4195 r4196 h4197 h4201 h4202 h4206 h4207 w4208 a4210 ⊢) <;> (try simp (disch := omega) only [zb] at u3429 xq2 h3430 xq12 h3435 xq14 a3441 u3442 h3443 h3444 h4070 h4071 a4135 h4136 h4190 w4191 w4192 f4193 r4194 r4195 r4196 h4197 h4201 h4202 h4206 h4207 w4208 a4210 ⊢) <;> first | omega | ((try simp (disch := omega) only [zb] at u3429 xq2 h3430 xq12 h3435 xq14 a3441 u3442 h3443 h3444 h4070 h4071 a4135 h4136 h4190 w4191 w4192 f4193 r4194 r4195 r4196 h4197 h4201 h4202 h4206 h4207 w4208 a4210 ⊢) <;> omega))⟩
                          · refine sw_sh (ci_sh cs11 t_p0 rfl) ?_
                            refine sw_on (sX9_put cs11 t_p0 (by (try simp only [zp, zo, zq] at u3429 xq2 h3430 xq12 h3435 xq14 a3441 u3442 h3443 h3444 h4070 h4071 a4135 h4136 h4190 w4191 w4192 f4193 r4194 r4195 r4196 h4197 h4201 h4202 h4206 h4207 ⊢) <;> (try simp only [zz, Int32.reduceToInt, ne_eq] at u3429 xq2 h3430 xq12 h3435 xq14 a3441 u3442 h3443 h3444 h4070 h4071 a4135 h4136 h4190 w4191 w4192 f4193 r4194 r4195 r4196 h4197 h4201 h4202 h4206 h4207 ⊢) <;> (try simp (disch := omega) only [zb] at u3429 xq2 h3430 xq12 h3435 xq14 a3441 u3442 h3443 h3444 h4070 h4071 a4135 h4136 h4190 w4191 w4192 f4193 r4194 r4195 r4196 h4197 h4201 h4202 h4206 h4207 ⊢) <;> first | omega | ((try simp (disch := omega) only [zb] at u3429 xq2 h3430 xq12 h3435 xq14 a3441 u3442 h3443 h3444 h4070 h4071 a4135 h4136 h4190 w4191 w4192 f4193 r4194 r4195 r4196 h4197 h4201 h4202 h4206 h4207 ⊢) <;> omega)) ) ?_
                            intro q28 hqq28
                            obtain ⟨cq28, gq28, xq28⟩ := hqq28
                            have fq28 := fr_trans fs11 gq28 rfl
                            have w4211 := (gq28.2.2 _ _ t_p0 0 rfl).1
                            have w4212 : mm_I s11 p0 0 = mm_I q2.2 p0 0 := by rw [← es11]; exact rd_k t_p0 tq5 (by decide)
                            have a4214 := zi_and p2 8 (by decide)
                            exact sw_some ⟨cq28, fq28, (by (try simp only [zp, zo, zq] at u3429 xq2 h3430 xq12 h3435 xq14 a3441 u3442 h3443 h3444 h4070 h4071 a4135 h4136 h4190 w4191 w4192 f4193 r4194 r4195 r4196 h4197 h4201 h4202 h4206 h4207 w4211 w4212 a4214 ⊢) <;> (try simp only [zz, Int32.reduceToInt, ne_eq] at u3429 xq2 h3430 xq12 h3435 xq14 a3441 u3442 h3443 h3444 h4070 h4071 a4135 h4136 h4190 w4191 w4192 f4193 r4194 r4195 r4196 h4197 h4201 h4202 h4206 h4207 w4211 w4212 a4214 ⊢) <;> (try simp (disch := omega) only [zb] at u3429 xq2 h3430 xq12 h3435 xq14 a3441 u3442 h3443 h3444 h4070 h4071 a4135 h4136 h4190 w4191 w4192 f4193 r4194 r4195 r4196 h4197 h4201 h4202 h4206 h4207 w4211 w4212 a4214 ⊢) <;> first | omega | ((try simp (disch := omega) only [zb] at u3429 xq2 h3430 xq12 h3435 xq14 a3441 u3442 h3443 h3444 h4070 h4071 a4135 h4136 h4190 w4191 w4192 f4193 r4194 r4195 r4196 h4197 h4201 h4202 h4206 h4207 w4211 w4212 a4214 ⊢) <;> omega))⟩
                        · refine sw_sh (ci_sh cs11 t_p0 rfl) ?_
                          refine sw_on (sX9_put cs11 t_p0 (by (try simp only [zp, zo, zq] at u3429 xq2 h3430 xq12 h3435 xq14 a3441 u3442 h3443 h3444 h4070 h4071 a4135 h4136 h4190 w4191 w4192 f4193 r4194 r4195 r4196 h4197 h4201 h4202 h4206 ⊢) <;> (try simp only [zz, Int32.reduceToInt, ne_eq] at u3429 xq2 h3430 xq12 h3435 xq14 a3441 u3442 h3443 h3444 h4070 h4071 a4135 h4136 h4190 w4191 w4192 f4193 r4194 r4195 r4196 h4197 h4201 h4202 h4206 ⊢) <;> (try simp (disch := omega) only [zb] at u3429 xq2 h3430 xq12 h3435 xq14 a3441 u3442 h3443 h3444 h4070 h4071 a4135 h4136 h4190 w4191 w4192 f4193 r4194 r4195 r4196 h4197 h4201 h4202 h4206 ⊢) <;> first | omega | ((try simp (disch := omega) only [zb] at u3429 xq2 h3430 xq12 h3435 xq14 a3441 u3442 h3443 h3444 h4070 h4071 a4135 h4136 h4190 w4191 w4192 f4193 r4194 r4195 r4196 h4197 h4201 h4202 h4206 ⊢) <;> omega)) ) ?_
                          intro q30 hqq30
                          obtain ⟨cq30, gq30, xq30⟩ := hqq30
                          have fq30 := fr_trans fs11 gq30 rfl
                          unfold fX9_pair_264
                          refine sw_ite (fun h4215 => ?_) (fun h4215 => ?_)
                          · have w4216 := (gq30.2.2 _ _ t_p0 0 rfl).1
                            have w4217 : mm_I s11 p0 0 = mm_I q2.2 p0 0 := by rw [← es11]; exact rd_k t_p0 tq5 (by decide)
                            have a4219 := zi_and p2 8 (by decide)
                            exact sw_some ⟨cq30, fq30, (by (try simp only [zp, zo, zq] at u3429 xq2 h3430 xq12 h3435 xq14 a3441 u3442 h3443 h3444 h4070 h4071 a4135 h4136 h4190 w4191 w4192 f4193 r4194 r4195 r4196 h4197 h4201 h4202 h4206 h4215 w4216 w4217 a4219 ⊢) <;> (try simp only [zz, Int32.reduceToInt, ne_eq] at u3429 xq2 h3430 xq12 h3435 xq14 a3441 u3442 h3443 h3444 h4070 h4071 a4135 h4136 h4190 w4191 w4192 f4193 r4194 r4195 r4196 h4197 h4201 h4202 h4206 h4215 w4216 w4217 a4219 ⊢) <;> (try simp (disch := omega) only [zb] at u3429 xq2 h3430 xq12 h3435 xq14 a3441 u3442 h3443 h3444 h4070 h4071 a4135 h4136 h4190 w4191 w4192 f4193 r4194 r4195 r4196 h4197 h4201 h4202 h4206 h4215 w4216 w4217 a4219 ⊢) <;> first | omega | ((try simp (disch := omega) only [zb] at u3429 xq2 h3430 xq12 h3435 xq14 a3441 u3442 h3443 h3444 h4070 h4071 a4135 h4136 h4190 w4191 w4192 f4193 r4194 r4195 r4196 h4197 h4201 h4202 h4206 h4215 w4216 w4217 a4219 ⊢) <;> omega))⟩
                          · refine sw_sh (ci_sh cq30 t_p0 rfl) ?_
                            refine sw_on (sX9_put cq30 t_p0 (by (try simp only [zp, zo, zq] at u3429 xq2 h3430 xq12 h3435 xq14 a3441 u3442 h3443 h3444 h4070 h4071 a4135 h4136 h4190 w4191 w4192 f4193 r4194 r4195 r4196 h4197 h4201 h4202 h4206 h4215 ⊢) <;> (try simp only [zz, Int32.reduceToInt, ne_eq] at u3429 xq2 h3430 xq12 h3435 xq14 a3441 u3442 h3443 h3444 h4070 h4071 a4135 h4136 h4190 w4191 w4192 f4193 r4194 r4195 r4196 h4197 h4201 h4202 h4206 h4215 ⊢) <;> (try simp (disch := omega) only [zb] at u3429 xq2 h3430 xq12 h3435 xq14 a3441 u3442 h3443 h3444 h4070 h4071 a4135 h4136 h4190 w4191 w4192 f4193 r4194 r4195 r4196 h4197 h4201 h4202 h4206 h4215 ⊢) <;> first | omega | ((try simp (disch := omega) only [zb] at u3429 xq2 h3430 xq12 h3435 xq14 a3441 u3442 h3443 h3444 h4070 h4071 a4135 h4136 h4190 w4191 w4192 f4193 r4194 r4195 r4196 h4197 h4201 h4202 h4206 h4215 ⊢) <;> omega)) ) ?_
                            intro q28 hqq28
                            obtain ⟨cq28, gq28, xq28⟩ := hqq28
                            have fq28 := fr_trans fq30 gq28 rfl
                            have w4220 := (gq28.2.2 _ _ t_p0 0 rfl).1
                            have w4221 := (gq30.2.2 _ _ t_p0 0 rfl).1
                            have w4222 : mm_I s11 p0 0 = mm_I q2.2 p0 0 := by rw [← es11]; exact rd_k t_p0 tq5 (by decide)
                            have a4224 := zi_and p2 8 (by decide)
                            exact sw_some ⟨cq28, fq28, (by (try simp only [zp, zo, zq] at u3429 xq2 h3430 xq12 h3435 xq14 a3441 u3442 h3443 h3444 h4070 h4071 a4135 h4136 h4190 w4191 w4192 f4193 r4194 r4195 r4196 h4197 h4201 h4202 h4206 h4215 w4220 w4221 w4222 a4224 ⊢) <;> (try simp only [zz, Int32.reduceToInt, ne_eq] at u3429 xq2 h3430 xq12 h3435 xq14 a3441 u3442 h3443 h3444 h4070 h4071 a4135 h4136 h4190 w4191 w4192 f4193 r4194 r4195 r4196 h4197 h4201 h4202 h4206 h4215 w4220 w4221 w4222 a4224 ⊢) <;> (try simp (disch := omega) only [zb] at u3429 xq2 h3430 xq12 h3435 xq14 a3441 u3442 h3443 h3444 h4070 h4071 a4135 h4136 h4190 w4191 w4192 f4193 r4194 r4195 r4196 h4197 h4201 h4202 h4206 h4215 w4220 w4221 w4222 a4224 ⊢) <;> first | omega | ((try simp (disch := omega) only [zb] at u3429 xq2 h3430 xq12 h3435 xq14 a3441 u3442 h3443 h3444 h4070 h4071 a4135 h4136 h4190 w4191 w4192 f4193 r4194 r4195 r4196 h4197 h4201 h4202 h4206 h4215 w4220 w4221 w4222 a4224 ⊢) <;> omega))⟩
                    · unfold fX9_pair_250
                      refine sw_ite (fun h4225 => ?_) (fun h4225 => ?_)
                      · unfold fX9_pair_264
                        refine sw_ite (fun h4226 => ?_) (fun h4226 => ?_)
                        · have w4227 : mm_I s11 p0 0 = mm_I q2.2 p0 0 := by rw [← es11]; exact rd_k t_p0 tq5 (by decide)
                          have a4229 := zi_and p2 8 (by decide)
                          exact sw_some ⟨cs11, fs11, (by (try simp only [zp, zo, zq] at u3429 xq2 h3430 xq12 h3435 xq14 a3441 u3442 h3443 h3444 h4070 h4071 a4135 h4136 h4190 w4191 w4192 f4193 r4194 r4195 r4196 h4197 h4201 h4225 h4226 w4227 a4229 ⊢) <;> (try simp only [zz, Int32.reduceToInt, ne_eq] at u3429 xq2 h3430 xq12 h3435 xq14 a3441 u3442 h3443 h3444 h4070 h4071 a4135 h4136 h4190 w4191 w4192 f4193 r4194 r4195 r4196 h4197 h4201 h4225 h4226 w4227 a4229 ⊢) <;> (try simp (disch := omega) only [zb] at u3429 xq2 h3430 xq12 h3435 xq14 a3441 u3442 h3443 h3444 h4070 h4071 a4135 h4136 h4190 w4191 w4192 f4193 r4194 r4195 r4196 h4197 h4201 h4225 h4226 w4227 a4229 ⊢) <;> first | omega | ((try simp (disch := omega) only [zb] at u3429 xq2 h3430 xq12 h3435 xq14 a3441 u3442 h3443 h3444 h4070 h4071 a4135 h4136 h4190 w4191 w4192 f4193 r4194 r4195 r4196 h4197 h4201 h4225 h4226 w4227 a4229 ⊢) <;> omega))⟩
                        · refine sw_sh (ci_sh cs11 t_p0 rfl) ?_
                          refine sw_on (sX9_put cs11 t_p0 (by (try simp only [zp, zo, zq] at u3429 xq2 h3430 xq12 h3435 xq14 a3441 u3442 h3443 h3444 h4070 h4071 a4135 h4136 h4190 w4191 w4192 f4193 r4194 r4195 r4196 h4197 h4201 h4225 h4226 ⊢) <;> (try simp only [zz, Int32.reduceToInt, ne_eq] at u3429 xq2 h3430 xq12 h3435 xq14 a3441 u3442 h3443 h3444 h4070 h4071 a4135 h4136 h4190 w4191 w4192 f4193 r4194 r4195 r4196 h4197 h4201 h4225 h4226 ⊢) <;> (try simp (disch := omega) only [zb] at u3429 xq2 h3430 xq12 h3435 xq14 a3441 u3442 h3443 h3444 h4070 h4071 a4135 h4136 h4190 w4191 w4192 f4193 r4194 r4195 r4196 h4197 h4201 h4225 h4226 ⊢) <;> first | omega | ((try simp (disch := omega) only [zb] at u3429 xq2 h3430 xq12 h3435 xq14 a3441 u3442 h3443 h3444 h4070 h4071 a4135 h4136 h4190 w4191 w4192 f4193 r4194 r4195 r4196 h4197 h4201 h4225 h4226 ⊢) <;> omega)) ) ?_
                          intro q28 hqq28
                          obtain ⟨cq28, gq28, xq28⟩ := hqq28
                          have fq28 := fr_trans fs11 gq28 rfl
                          have w4230 := (gq28.2.2 _ _ t_p0 0 rfl).1
                          have w4231 : mm_I s11 p0 0 = mm_I q2.2 p0 0 := by rw [← es11]; exact rd_k t_p0 tq5 (by decide)
                          have a4233 := zi_and p2 8 (by decide)
                          exact sw_some ⟨cq28, fq28, (by (try simp only [zp, zo, zq] at u3429 xq2 h3430 xq12 h3435 xq14 a3441 u3442 h3443 h3444 h4070 h4071 a4135 h4136 h4190 w4191 w4192 f4193 r4194 r4195 r4196 h4197 h4201 h4225 h4226 w4230 w4231 a4233 ⊢) <;> (try simp only [zz, Int32.reduceToInt, ne_eq] at u3429 xq2 h3430 xq12 h3435 xq14 a3441 u3442 h3443 h3444 h4070 h4071 a4135 h4136 h4190 w4191 w4192 f4193 r4194 r4195 r4196 h4197 h4201 h4225 h4226 w4230 w4231 a4233 ⊢) <;> (try simp (disch := omega) only [zb] at u3429 xq2 h3430 xq12 h3435 xq14 a3441 u3442 h3443 h3444 h4070 h4071 a4135 h4136 h4190 w4191 w4192 f4193 r4194 r4195 r4196 h4197 h4201 h4225 h4226 w4230 w4231 a4233 ⊢) <;> first | omega | ((try simp (disch := omega) only [zb] at u3429 xq2 h3430 xq12 h3435 xq14 a3441 u3442 h3443 h3444 h4070 h4071 a4135 h4136 h4190 w4191 w4192 f4193 r4194 r4195 r4196 h4197 h4201 h4225 h4226 w4230 w4231 a4233 ⊢) <;> omega))⟩
                      · refine sw_sh (ci_sh cs11 t_p0 rfl) ?_
                        refine sw_on (sX9_put cs11 t_p0 (by (try simp only [zp, zo, zq] at u3429 xq2 h3430 xq12 h3435 xq14 a3441 u3442 h3443 h3444 h4070 h4071 a4135 h4136 h4190 w4191 w4192 f4193 r4194 r4195 r4196 h4197 h4201 h4225 ⊢) <;> (try simp only [zz, Int32.reduceToInt, ne_eq] at u3429 xq2 h3430 xq12 h3435 xq14 a3441 u3442 h3443 h3444 h4070 h4071 a4135 h4136 h4190 w4191 w4192 f4193 r4194 r4195 r4196 h4197 h4201 h4225 ⊢) <;> (try simp (disch := omega) only [zb] at u3429 xq2 h3430 xq12 h3435 xq14 a3441 u3442 h3443 h3444 h4070 h4071 a4135 h4136 h4190 w4191 w4192 f4193 r4194 r4195 r4196 h4197 h4201 h4225 ⊢) <;> first | omega | ((try simp (disch := omega) only [zb] at u3429 xq2 h3430 xq12 h3435 xq14 a3441 u3442 h3443 h3444 h4070 h4071 a4135 h4136 h4190 w4191 w4192 f4193 r4194 r4195 r4196 h4197 h4201 h4225 ⊢) <;> omega)) ) ?_
                        intro q30 hqq30
                        obtain ⟨cq30, gq30, xq30⟩ := hqq30
                        have fq30 := fr_trans fs11 gq30 rfl
                        unfold fX9_pair_264
                        refine sw_ite (fun h4234 => ?_) (fun h4234 => ?_)
                        · have w4235 := (gq30.2.2 _ _ t_p0 0 rfl).1
                          have w4236 : mm_I s11 p0 0 = mm_I q2.2 p0 0 := by rw [← es11]; exact rd_k t_p0 tq5 (by decide)
                          have a4238 := zi_and p2 8 (by decide)
                          exact sw_some ⟨cq30, fq30, (by (try simp only [zp, zo, zq] at u3429 xq2 h3430 xq12 h3435 xq14 a3441 u3442 h3443 h3444 h4070 h4071 a4135 h4136 h4190 w4191 w4192 f4193 r4194 r4195 r4196 h4197 h4201 h4225 h4234 w4235 w4236 a4238 ⊢) <;> (try simp only [zz, Int32.reduceToInt, ne_eq] at u3429 xq2 h3430 xq12 h3435 xq14 a3441 u3442 h3443 h3444 h4070 h4071 a4135 h4136 h4190 w4191 w4192 f4193 r4194 r4195 r4196 h4197 h4201 h4225 h4234 w4235 w4236 a4238 ⊢) <;> (try simp (disch := omega) only [zb] at u3429 xq2 h3430 xq12 h3435 xq14 a3441 u3442 h3443 h3444 h4070 h4071 a4135 h4136 h4190 w4191 w4192 f4193 r4194 r4195 r4196 h4197 h4201 h4225 h4234 w4235 w4236 a4238 ⊢) <;> first | omega | ((try simp (disch := omega) only [zb] at u3429 xq2 h3430 xq12 h3435 xq14 a3441 u3442 h3443 h3444 h4070 h4071 a4135 h4136 h4190 w4191 w4192 f4193 r4194 r4195 r4196 h4197 h4201 h4225 h4234 w4235 w4236 a4238 ⊢) <;> omega))⟩
                        · refine sw_sh (ci_sh cq30 t_p0 rfl) ?_
                          refine sw_on (sX9_put cq30 t_p0 (by (try simp only [zp, zo, zq] at u3429 xq2 h3430 xq12 h3435 xq14 a3441 u3442 h3443 h3444 h4070 h4071 a4135 h4136 h4190 w4191 w4192 f4193 r4194 r4195 r4196 h4197 h4201 h4225 h4234 ⊢) <;> (try simp only [zz, Int32.reduceToInt, ne_eq] at u3429 xq2 h3430 xq12 h3435 xq14 a3441 u3442 h3443 h3444 h4070 h4071 a4135 h4136 h4190 w4191 w4192 f4193 r4194 r4195 r4196 h4197 h4201 h4225 h4234 ⊢) <;> (try simp (disch := omega) only [zb] at u3429 xq2 h3430 xq12 h3435 xq14 a3441 u3442 h3443 h3444 h4070 h4071 a4135 h4136 h4190 w4191 w4192 f4193 r4194 r4195 r4196 h4197 h4201 h4225 h4234 ⊢) <;> first | omega | ((try simp (disch := omega) only [zb] at u3429 xq2 h3430 xq12 h3435 xq14 a3441 u3442 h3443 h3444 h4070 h4071 a4135 h4136 h4190 w4191 w4192 f4193 r4194 r4195 r4196 h4197 h4201 h4225 h4234 ⊢) <;> omega)) ) ?_
                          intro q28 hqq28
                          obtain ⟨cq28, gq28, xq28⟩ := hqq28
                          have fq28 := fr_trans fq30 gq28 rfl
                          have w4239 := (gq28.2.2 _ _ t_p0 0 rfl).1
                          have w4240 := (gq30.2.2 _ _ t_p0 0 rfl).1
                          have w4241 : mm_I s11 p0 0 = mm_I q2.2 p0 0 := by rw [← es11]; exact rd_k t_p0 tq5 (by decide)
                          have a4243 := zi_and p2 8 (by decide)
                          exact sw_some ⟨cq28, fq28, (by (try simp only [zp, zo, zq] at u3429 xq2 h3430 xq12 h3435 xq14 a3441 u3442 h3443 h3444 h4070 h4071 a4135 h4136 h4190 w4191 w4192 f4193 r4194 r4195 r4196 h4197 h4201 h4225 h4234 w4239 w4240 w4241 a4243 ⊢) <;> (try simp only [zz, Int32.reduceToInt, ne_eq] at u3429 xq2 h3430 xq12 h3435 xq14 a3441 u3442 h3443 h3444 h4070 h4071 a4135 h4136 h4190 w4191 w4192 f4193 r4194 r4195 r4196 h4197 h4201 h4225 h4234 w4239 w4240 w4241 a4243 ⊢) <;> (try simp (disch := omega) only [zb] at u3429 xq2 h3430 xq12 h3435 xq14 a3441 u3442 h3443 h3444 h4070 h4071 a4135 h4136 h4190 w4191 w4192 f4193 r4194 r4195 r4196 h4197 h4201 h4225 h4234 w4239 w4240 w4241 a4243 ⊢) <;> first | omega | ((try simp (disch := omega) only [zb] at u3429 xq2 h3430 xq12 h3435 xq14 a3441 u3442 h3443 h3444 h4070 h4071 a4135 h4136 h4190 w4191 w4192 f4193 r4194 r4195 r4196 h4197 h4201 h4225 h4234 w4239 w4240 w4241 a4243 ⊢) <;> omega))⟩
                · refine sw_ite (fun h4244 => ?_) (fun h4244 => ?_)
                  · unfold fX9_pair_222
                    unfold fX9_pair_228
                    have w4245 : mm_I s11 q17 p1.toNatClampNeg = mm_I q2.2 q17 p1.toNatClampNeg := by rw [← es11]; exact rd_k tq17 tq5 (by decide)
                    have w4246 := (gq2.2.2 _ _ tq17 p1.toNatClampNeg rfl).1
                    have f4247 : mm_I σ0 q17 p1.toNatClampNeg = -1 := hv q17 59 p1.toNatClampNeg tq17 (Or.inr (by decide)) (by (try simp only [zp, zo, zq] at u3429 xq2 h3430 xq12 h3435 xq14 a3441 u3442 h3443 h3444 h4070 h4071 a4135 h4136 h4190 h4244 w4245 w4246 ⊢) <;> (try simp only [zz, Int32.reduceToInt, ne_eq] at u3429 xq2 h3430 xq12 h3435 xq14 a3441 u3442 h3443 h3444 h4070 h4071 a4135 h4136 h4190 h4244 w4245 w4246 ⊢) <;> (try simp (disch := omega) only [zb] at u3429 xq2 h3430 xq12 h3435 xq14 a3441 u3442 h3443 h3444 h4070 h4071 a4135 h4136 h4190 h4244 w4245 w4246 ⊢) <;> first | omega | ((try simp (disch := omega) only [zb] at u3429 xq2 h3430 xq12 h3435 xq14 a3441 u3442 h3443 h3444 h4070 h4071 a4135 h4136 h4190 h4244 w4245 w4246 ⊢) <;> omega))
                    have r4248 := ci_rg c0 tq17 p1.toNatClampNeg (lo := (-1)) (hi := 3) rfl
                    have r4249 := ci_rg cq2 tq17 p1.toNatClampNeg (lo := (-1)) (hi := 3) rfl
                    have r4250 := ci_rg cs11 tq17 p1.toNatClampNeg (lo := (-1)) (hi := 3) rfl
                    refine sw_ite (fun h4251 => ?_) (fun h4251 => ?_)
                    · have w4252 : mm_I s11 p0 0 = mm_I q2.2 p0 0 := by rw [← es11]; exact rd_k t_p0 tq5 (by decide)
                      have a4254 := zi_and p2 8 (by decide)
                      exact sw_some ⟨cs11, fs11, (by (try simp only [zp, zo, zq] at u3429 xq2 h3430 xq12 h3435 xq14 a3441 u3442 h3443 h3444 h4070 h4071 a4135 h4136 h4190 h4244 w4245 w4246 f4247 r4248 r4249 r4250 h4251 w4252 a4254 ⊢) <;> (try simp only [zz, Int32.reduceToInt, ne_eq] at u3429 xq2 h3430 xq12 h3435 xq14 a3441 u3442 h3443 h3444 h4070 h4071 a4135 h4136 h4190 h4244 w4245 w4246 f4247 r4248 r4249 r4250 h4251 w4252 a4254 ⊢) <;> (try simp (disch := omega) only [zb] at u3429 xq2 h3430 xq12 h3435 xq14 a3441 u3442 h3443 h3444 h4070 h4071 a4135 h4136 h4190 h4244 w4245 w4246 f4247 r4248 r4249 r4250 h4251 w4252 a4254 ⊢) <;> first | omega | ((try simp (disch := omega) only [zb] at u3429 xq2 h3430 xq12 h3435 xq14 a3441 u3442 h3443 h3444 h4070 h4071 a4135 h4136 h4190 h4244 w4245 w4246 f4247 r4248 r4249 r4250 h4251 w4252 a4254 ⊢) <;> omega))⟩
                    · refine sw_ite (fun h4255 => ?_) (fun h4255 => ?_)
                      · refine sw_ite (fun h4256 => ?_) (fun h4256 => ?_)
                        · have w4257 : mm_I s11 p0 0 = mm_I q2.2 p0 0 := by rw [← es11]; exact rd_k t_p0 tq5 (by decide)
                          have a4259 := zi_and p2 8 (by decide)
                          exact sw_some ⟨cs11, fs11, (by (try simp only [zp, zo, zq] at u3429 xq2 h3430 xq12 h3435 xq14 a3441 u3442 h3443 h3444 h4070 h4071 a4135 h4136 h4190 h4244 w4245 w4246 f4247 r4248 r4249 r4250 h4251 h4255 h4256 w4257 a4259 ⊢) <;> (try simp only [zz, Int32.reduceToInt, ne_eq] at u3429 xq2 h3430 xq12 h3435 xq14 a3441 u3442 h3443 h3444 h4070 h4071 a4135 h4136 h4190 h4244 w4245 w4246 f4247 r4248 r4249 r4250 h4251 h4255 h4256 w4257 a4259 ⊢) <;> (try simp (disch := omega) only [zb] at u3429 xq2 h3430 xq12 h3435 xq14 a3441 u3442 h3443 h3444 h4070 h4071 a4135 h4136 h4190 h4244 w4245 w4246 f4247 r4248 r4249 r4250 h4251 h4255 h4256 w4257 a4259 ⊢) <;> first | omega | ((try simp (disch := omega) only [zb] at u3429 xq2 h3430 xq12 h3435 xq14 a3441 u3442 h3443 h3444 h4070 h4071 a4135 h4136 h4190 h4244 w4245 w4246 f4247 r4248 r4249 r4250 h4251 h4255 h4256 w4257 a4259 ⊢) <;> omega))⟩
                        · unfold fX9_pair_250
                          refine sw_ite (fun h4260 => ?_) (fun h4260 => ?_)
                          · unfold fX9_pair_264
                            refine sw_ite (fun h4261 => ?_) (fun h4261 => ?_)
                            · have w4262 : mm_I s11 p0 0 = mm_I q2.2 p0 0 := by rw [← es11]; exact rd_k t_p0 tq5 (by decide)
                              have a4264 := zi_and p2 8 (by decide)
                              exact sw_some ⟨cs11, fs11, (by (try simp only [zp, zo, zq] at u3429 xq2 h3430 xq12 h3435 xq14 a3441 u3442 h3443 h3444 h4070 h4071 a4135 h4136 h4190 h4244 w4245 w4246 f4247 r4248 r4249 r4250 h4251 h4255 h4256 h4260 h4261 w4262 a4264 ⊢) <;> (try simp only [zz, Int32.reduceToInt, ne_eq] at u3429 xq2 h3430 xq12 h3435 xq14 a3441 u3442 h3443 h3444 h4070 h4071 a4135 h4136 h4190 h4244 w4245 w4246 f4247 r4248 r4249 r4250 h4251 h4255 h4256 h4260 h4261 w4262 a4264 ⊢) <;> (try simp (disch := omega) only [zb] at u3429 xq2 h3430 xq12 h3435 xq14 a3441 u3442 h3443 h3444 h4070 h4071 a4135 h4136 h4190 h4244 w4245 w4246 f4247 r4248 r4249 r4250 h4251 h4255 h4256 h4260 h4261 w4262 a4264 ⊢) <;> first | omega | ((try simp (disch := omega) only [zb] at u3429 xq2 h3430 xq12 h3435 xq14 a3441 u3442 h3443 h3444 h4070 h4071 a4135 h4136 h4190 h4244 w4245 w4246 f4247 r4248 r4249 r4250 h4251 h4255 h4256 h4260 h4261 w4262 a4264 ⊢) <;> omega))⟩
                            · refine sw_sh (ci_sh cs11 t_p0 rfl) ?_
                              refine sw_on (sX9_put cs11 t_p0 (by (try simp only [zp, zo, zq] at u3429 xq2 h3430 xq12 h3435 xq14 a3441 u3442 h3443 h3444 h4070 h4071 a4135 h4136 h4190 h4244 w4245 w4246 f4247 r4248 r4249 r4250 h4251 h4255 h4256 h4260 h4261 ⊢) <;> (try simp only [zz, Int32.reduceToInt, ne_eq] at u3429 xq2 h3430 xq12 h3435 xq14 a3441 u3442 h3443 h3444 h4070 h4071 a4135 h4136 h4190 h4244 w4245 w4246 f4247 r4248 r4249 r4250 h4251 h4255 h4256 h4260 h4261 ⊢) <;> (try simp (disch := omega) only [zb] at u3429 xq2 h3430 xq12 h3435 xq14 a3441 u3442 h3443 h3444 h4070 h4071 a4135 h4136 h4190 h4244 w4245 w4246 f4247 r4248 r4249 r4250 h4251 h4255 h4256 h4260 h4261 ⊢) <;> first | omega | ((try simp (disch := omega) only [zb] at u3429 xq2 h3430 xq12 h3435 xq14 a3441 u3442 h3443 h3444 h4070 h4071 a4135 h4136 h4190 h4244 w4245 w4246 f4247 r4248 r4249 r4250 h4251 h4255 h4256 h4260 h4261 ⊢) <;> omega)) ) ?_
                              intro q28 hqq28
                              obtain ⟨cq28, gq28, xq28⟩ := hqq28
                              have fq28 := fr_trans fs11 gq28 rfl
                              have w4265 := (gq28.2.2 _ _ t_p0 0 rfl).1
                              have w4266 : mm_I s11 p0 0 = mm_I q2.2 p0 0 := by rw [← es11]; exact rd_k t_p0 tq5 (by decide)
                              have a4268 := zi_and p2 8 (by decide)
                              exact sw_some ⟨cq28, fq28, (by (try simp only [zp, zo, zq] at u3429 xq2 h3430 xq12 h3435 xq14 a3441 u3442 h3443 h3444 h4070 h4071 a4135 h4136 h4190 h4244 w4245 w4246 f4247 r4248 r4249 r4250 h4251 h4255 h4256 h4260 h4261 w4265 w4266 a4268 ⊢) <;> (try simp only [zz, Int32.reduceToInt, ne_eq] at u3429 xq2 h3430 xq12 h3435 xq14 a3441 u3442 h3443 h3444 h4070 h4071 a4135 h4136 h4190 h4244 w4245 w4246 f4247 r4248 r4249 r4250 h4251 h4255 h4256 h4260 h4261 w4265 w4266 a4268 ⊢) <;> (try simp (disch := omega) only [zb] at u3429 xq2 h3430 xq12 h3435 xq14 a3441 u3442 h3443 h3444 h4070 h4071 a4135 h4136 h4190 h4244 w4245 w4246 f4247 r4248 r4249 r4250 h4251 h4255 h4256 h4260 h4261 w4265 w4266 a4268 ⊢) <;> first | omega | ((try simp (disch := omega) only [zb] at u3429 xq2 h3430 xq12 h3435 xq14 a3441 u3442 h3443 h3444 h4070 h4071 a4135 h4136 h4190 h4244 w4245 w4246 f4247 r4248 r4249 r4250 h4251 h4255 h4256 h4260 h4261 w4265 w4266 a4268 ⊢) <;> omega))⟩
                          · refine sw_sh (ci_sh cs11 t_p0 rfl) ?_
                            refine sw_on (sX9_put cs11 t_p0 (by (try simp only [zp, zo, zq] at u3429 xq2 h3430 xq12 h3435 xq14 a3441 u3442 h3443 h3444 h4070 h4071 a4135 h4136 h4190 h4244 w4245 w4246 f4247 r4248 r4249 r4250 h4251 h4255 h4256 h4260 ⊢) <;> (try simp only [zz, Int32.reduceToInt, ne_eq] at u3429 xq2 h3430 xq12 h3435 xq14 a3441 u3442 h3443 h3444 h4070 h4071 a4135 h4136 h4190 h4244 w4245 w4246 f4247 r4248 r4249 r4250 h4251 h4255 h4256 h4260 ⊢) <;> (try simp (disch := omega) only [zb] at u3429 xq2 h3430 xq12 h3435 xq14 a3441 u3442 h3443 h3444 h4070 h4071 a4135 h4136 h4190 h4244 w4245 w4246 f4247 r4248 r4249 r4250 h4251 h4255 h4256 h4260 ⊢) <;> first | omega | ((try simp (disch := omega) only [zb] at u3429 xq2 h3430 xq12 h3435 xq14 a3441 u3442 h3443 h3444 h4070 h4071 a4135 h4136 h4190 h4244 w4245 w4246 f4247 r4248 r4249 r4250 h4251 h4255 h4256 h4260 ⊢) <;> omega)) ) ?_
                            intro q30 hqq30
                            obtain ⟨cq30, gq30, xq30⟩ := hqq30
                            have fq30 := fr_trans fs11 gq30 rfl
                            unfold fX9_pair_264
                            refine sw_ite (fun h4269 => ?_) (fun h4269 => ?_)
                            · have w4270 := (gq30.2.2 _ _ t_p0 0 rfl).1
                              have w4271 : mm_I s11 p0 0 = mm_I q2.2 p0 0 := by rw [← es11]; exact rd_k t_p0 tq5 (by decide)
                              have a4273 := zi_and p2 8 (by decide)
                              exact sw_some ⟨cq30, fq30, (by (try simp only [zp, zo, zq] at u3429 xq2 h3430 xq12 h3435 xq14 a3441 u3442 h3443 h3444 h4070 h4071 a4135 h4136 h4190 h4244 w4245 w4246 f4247 r4248 r4249 r4250 h4251 h4255 h4256 h4260 h4269 w4270 w4271 a4273 ⊢) <;> (try simp only [zz, Int32.reduceToInt, ne_eq] at u3429 xq2 h3430 xq12 h3435 xq14 a3441 u3442 h3443 h3444 h4070 h4071 a4135 h4136 h4190 h4244 w4245 w4246 f4247 r4248 r4249 r4250 h4251 h4255 h4256 h4260 h4269 w4270 w4271 a4273 ⊢) <;> (try simp (disch := omega) only [zb] at u3429 xq2 h3430 xq12 h3435 xq14 a3441 u3442 h3443 h3444 h4070 h4071 a4135 h4136 h4190 h4244 w4245 w4246 f4247 r4248 r4249 r4250 h4251 h4255 h4256 h4260 h4269 w4270 w4271 a4273 ⊢) <;> first | omega | ((try simp (disch := omega) only [zb] at u3429 xq2 h3430 xq12 h3435 xq14 a3441 u3442 h3443 h3444 h4070 h4071 a4135 h4136 h4190 h4244 w4245 w4246 f4247 r4248 r4249 r4250 h4251 h4255 h4256 h4260 h4269 w4270 w4271 a4273 ⊢) <;> omega))⟩
                            · refine sw_sh (ci_sh cq30 t_p0 rfl) ?_
                              refine sw_on (sX9_put cq30 t_p0 (by (try simp only [zp, zo, zq] at u3429 xq2 h3430 xq12 h3435 xq14 a3441 u3442 h3443 h3444 h4070 h4071 a4135 h4136 h4190 h4244 w4245 w4246 f4247 r4248 r4249 r4250 h4251 h4255 h4256 h4260 h4269 ⊢) <;> (try simp only [zz, Int32.reduceToInt, ne_eq] at u3429 xq2 h3430 xq12 h3435 xq14 a3441 u3442 h3443 h3444 h4070 h4071 a4135 h4136 h4190 h4244 w4245 w4246 f4247 r4248 r4249 r4250 h4251 h4255 h4256 h4260 h4269 ⊢) <;> (try simp (disch := omega) only [zb] at u3429 xq2 h3430 xq12 h3435 xq14 a3441 u3442 h3443 h3444 h4070 h4071 a4135 h4136 h4190 h4244 w4245 w4246 f4247 r4248 r4249 r4250 h4251 h4255 h4256 h4260 h4269 ⊢) <;> first | omega | ((try simp (disch := omega) only [zb] at u3429 xq2 h3430 xq12 h3435 xq14 a3441 u3442 h3443 h3444 h4070 h4071 a4135 h4136 h4190 h4244 w4245 w4246 f4247 r4248 r4249 r4250 h4251 h4255 h4256 h4260 h4269 ⊢) <;> omega)) ) ?_
                              intro q28 hqq28
                              obtain ⟨cq28, gq28, xq28⟩ := hqq28
                              have fq28 := fr_trans fq30 gq28 rfl
                              have w4274 := (gq28.2.2 _ _ t_p0 0 rfl).1
                              have w4275 := (gq30.2.2 _ _ t_p0 0 rfl).1
                              have w4276 : mm_I s11 p0 0 = mm_I q2.2 p0 0 := by rw [← es11]; exact rd_k t_p0 tq5 (by decide)
                              have a4278 := zi_and p2 8 (by decide)
                              exact sw_some ⟨cq28, fq28, (by (try simp only [zp, zo, zq] at u3429 xq2 h3430 xq12 h3435 xq14 a3441 u3442 h3443 h3444 h4070 h4071 a4135 h4136 h4190 h4244 w4245 w4246 f4247 r4248 r4249 r4250 h4251 h4255 h4256 h4260 h4269 w4274 w4275 w4276 a4278 ⊢) <;> (try simp only [zz, Int32.reduceToInt, ne_eq] at u3429 xq2 h3430 xq12 h3435 xq14 a3441 u3442 h3443 h3444 h4070 h4071 a4135 h4136 h4190 h4244 w4245 w4246 f4247 r4248 r4249 r4250 h4251 h4255 h4256 h4260 h4269 w4274 w4275 w4276 a4278 ⊢) <;> (try simp (disch := omega) only [zb] at u3429 xq2 h3430 xq12 h3435 xq14 a3441 u3442 h3443 h3444 h4070 h4071 a4135 h4136 h4190 h4244 w4245 w4246 f4247 r4248 r4249 r4250 h4251 h4255 h4256 h4260 h4269 w4274 w4275 w4276 a4278 ⊢) <;> first | omega | ((try simp (disch := omega) only [zb] at u3429 xq2 h3430 xq12 h3435 xq14 a3441 u3442 h3443 h3444 h4070 h4071 a4135 h4136 h4190 h4244 w4245 w4246 f4247 r4248 r4249 r4250 h4251 h4255 h4256 h4260 h4269 w4274 w4275 w4276 a4278 ⊢) <;> omega))⟩
                      · unfold fX9_pair_250
                        refine sw_ite (fun h4279 => ?_) (fun h4279 => ?_)
                        · unfold fX9_pair_264
                          refine sw_ite (fun h4280 => ?_) (fun h4280 => ?_)
                          · have w4281 : mm_I s11 p0 0 = mm_I q2.2 p0 0 := by rw [← es11]; exact rd_k t_p0 tq5 (by decide)
                            have a4283 := zi_and p2 8 (by decide)
                            exact sw_some ⟨cs11, fs11, (by (try simp only [zp, zo, zq] at u3429 xq2 h3430 xq12 h3435 xq14 a3441 u3442 h3443 h3444 h4070 h4071 a4135 h4136 h4190 h4244 w4245 w4246 f4247 r4248 r4249 r4250 h4251 h4255 h4279 h4280 w4281 a4283 ⊢) <;> (try simp only [zz, Int32.reduceToInt, ne_eq] at u3429 xq2 h3430 xq12 h3435 xq14 a3441 u3442 h3443 h3444 h4070 h4071 a4135 h4136 h4190 h4244 w4245 w4246 f4247 r4248 r4249 r4250 h4251 h4255 h4279 h4280 w4281 a4283 ⊢) <;> (try simp (disch := omega) only [zb] at u3429 xq2 h3430 xq12 h3435 xq14 a3441 u3442 h3443 h3444 h4070 h4071 a4135 h4136 h4190 h4244 w4245 w4246 f4247 r4248 r4249 r4250 h4251 h4255 h4279 h4280 w4281 a4283 ⊢) <;> first | omega | ((try simp (disch := omega) only [zb] at u3429 xq2 h3430 xq12 h3435 xq14 a3441 u3442 h3443 h3444 h4070 h4071 a4135 h4136 h4190 h4244 w4245 w4246 f4247 r4248 r4249 r4250 h4251 h4255 h4279 h4280 w4281 a4283 ⊢) <;> omega))⟩
                          · refine sw_sh (ci_sh cs11 t_p0 rfl) ?_
                            refine sw_on (sX9_put cs11 t_p0 (by (try simp only [zp, zo, zq] at u3429 xq2 h3430 xq12 h3435 xq14 a3441 u3442 h3443 h3444 h4070 h4071 a4135 h4136 h4190 h4244 w4245 w4246 f4247 r4248 r4249 r4250 h4251 h4255 h4279 h4280 ⊢) <;> (try simp only [zz, Int32.reduceToInt, ne_eq] at u3429 xq2 h3430 xq12 h3435 xq14 a3441 u3442 h3443 h3444 h4070 h4071 a4135 h4136 h4190 h4244 w4245 w4246 f4247 r4248 r4249 r4250 h4251 h4255 h4279 h4280 ⊢) <;> (try simp (disch := omega) only [zb] at u3429 xq2 h3430 xq12 h3435 xq14 a3441 u3442 h3443 h3444 h4070 h4071 a4135 h4136 h4190 h4244 w4245 w4246 f4247 r4248 r4249 r4250 h4251 h4255 h4279 h4280 ⊢) <;> first | omega | ((try simp (disch := omega) only [zb] at u3429 xq2 h3430 xq12 h3435 xq14 a3441 u3442 h3443 h3444 h4070 h4071 a4135 h4136 h4190 h4244 w4245 w4246 f4247 r4248 r4249 r4250 h4251 h4255 h4279 h4280 ⊢) <;> omega)) ) ?_
                            intro q28 hqq28
                            obtain ⟨cq28, gq28, xq28⟩ := hqq28
                            have fq28 := fr_trans fs11 gq28 rfl
                            have w4284 := (gq28.2.2 _ _ t_p0 0 rfl).1
                            have w4285 : mm_I s11 p0 0 = mm_I q2.2 p0 0 := by rw [← es11]; exact rd_k t_p0 tq5 (by decide)
                            have a4287 := zi_and p2 8 (by decide)
                            exact sw_some ⟨cq28, fq28, (by (try simp only [zp, zo, zq] at u3429 xq2 h3430 xq12 h3435 xq14 a3441 u3442 h3443 h3444 h4070 h4071 a4135 h4136 h4190 h4244 w4245 w4246 f4247 r4248 r4249 r4250 h4251 h4255 h4279 h4280 w4284 w4285 a4287 ⊢) <;> (try simp only [zz, Int32.reduceToInt, ne_eq] at u3429 xq2 h3430 xq12 h3435 xq14 a3441 u3442 h3443 h3444 h4070 h4071 a4135 h4136 h4190 h4244 w4245 w4246 f4247 r4248 r4249 r4250 h4251 h4255 h4279 h4280 w4284 w4285 a4287 ⊢) <;> (try simp (disch := omega) only [zb] at u3429 xq2 h3430 xq12 h3435 xq14 a3441 u3442 h3443 h3444 h4070 h4071 a4135 h4136 h4190 h4244 w4245 w4246 f4247 r4248 r4249 r4250 h4251 h4255 h4279 h4280 w4284 w4285 a4287 ⊢) <;> first | omega | ((try simp (disch := omega) only [zb] at u3429 xq2 h3430 xq12 h3435 xq14 a3441 u3442 h3443 h3444 h4070 h4071 a4135 h4136 h4190 h4244 w4245 w4246 f4247 r4248 r4249 r4250 h4251 h4255 h4279 h4280 w4284 w4285 a4287 ⊢) <;> omega))⟩
                        · refine sw_sh (ci_sh cs11 t_p0 rfl) ?_
                          refine sw_on (sX9_put cs11 t_p0 (by (try simp only [zp, zo, zq] at u3429 xq2 h3430 xq12 h3435 xq14 a3441 u3442 h3443 h3444 h4070 h4071 a4135 h4136 h4190 h4244 w4245 w4246 f4247 r4248 r4249 r4250 h4251 h4255 h4279 ⊢) <;> (try simp only [zz, Int32.reduceToInt, ne_eq] at u3429 xq2 h3430 xq12 h3435 xq14 a3441 u3442 h3443 h3444 h4070 h4071 a4135 h4136 h4190 h4244 w4245 w4246 f4247 r4248 r4249 r4250 h4251 h4255 h4279 ⊢) <;> (try simp (disch := omega) only [zb] at u3429 xq2 h3430 xq12 h3435 xq14 a3441 u3442 h3443 h3444 h4070 h4071 a4135 h4136 h4190 h4244 w4245 w4246 f4247 r4248 r4249 r4250 h4251 h4255 h4279 ⊢) <;> first | omega | ((try simp (disch := omega) only [zb] at u3429 xq2 h3430 xq12 h3435 xq14 a3441 u3442 h3443 h3444 h4070 h4071 a4135 h4136 h4190 h4244 w4245 w4246 f4247 r4248 r4249 r4250 h4251 h4255 h4279 ⊢) <;> omega)) ) ?_
                          intro q30 hqq30
                          obtain ⟨cq30, gq30, xq30⟩ := hqq30
                          have fq30 := fr_trans fs11 gq30 rfl
                          unfold fX9_pair_264
                          refine sw_ite (fun h4288 => ?_) (fun h4288 => ?_)
                          · have w4289 := (gq30.2.2 _ _ t_p0 0 rfl).1
                            have w4290 : mm_I s11 p0 0 = mm_I q2.2 p0 0 := by rw [← es11]; exact rd_k t_p0 tq5 (by decide)
                            have a4292 := zi_and p2 8 (by decide)
                            exact sw_some ⟨cq30, fq30, (by (try simp only [zp, zo, zq] at u3429 xq2 h3430 xq12 h3435 xq14 a3441 u3442 h3443 h3444 h4070 h4071 a4135 h4136 h4190 h4244 w4245 w4246 f4247 r4248 r4249 r4250 h4251 h4255 h4279 h4288 w4289 w4290 a4292 ⊢) <;> (try simp only [zz, Int32.reduceToInt, ne_eq] at u3429 xq2 h3430 xq12 h3435 xq14 a3441 u3442 h3443 h3444 h4070 h4071 a4135 h4136 h4190 h4244 w4245 w4246 f4247 r4248 r4249 r4250 h4251 h4255 h4279 h4288 w4289 w4290 a4292 ⊢) <;> (try simp (disch := omega) only [zb] at u3429 xq2 h3430 xq12 h3435 xq14 a3441 u3442 h3443 h3444 h4070 h4071 a4135 h4136 h4190 h4244 w4245 w4246 f4247 r4248 r4249 r4250 h4251 h4255 h4279 h4288 w4289 w4290 a4292 ⊢) <;> first | omega | ((try simp (disch := omega) only [zb] at u3429 xq2 h3430 xq12 h3435 xq14 a3441 u3442 h3443 h3444 h4070 h4071 a4135 h4136 h4190 h4244 w4245 w4246 f4247 r4248 r4249 r4250 h4251 h4255 h4279 h4288 w4289 w4290 a4292 ⊢) <;> omega))⟩
                          · refine sw_sh (ci_sh cq30 t_p0 rfl) ?_
                            refine sw_on (sX9_put cq30 t_p0 (by (try simp only [zp, zo, zq] at u3429 xq2 h3430 xq12 h3435 xq14 a3441 u3442 h3443 h3444 h4070 h4071 a4135 h4136 h4190 h4244 w4245 w4246 f4247 r4248 r4249 r4250 h4251 h4255 h4279 h4288 ⊢) <;> (try simp only [zz, Int32.reduceToInt, ne_eq] at u3429 xq2 h3430 xq12 h3435 xq14 a3441 u3442 h3443 h3444 h4070 h4071 a4135 h4136 h4190 h4244 w4245 w4246 f4247 r4248 r4249 r4250 h4251 h4255 h4279 h4288 ⊢) <;> (try simp (disch := omega) only [zb] at u3429 xq2 h3430 xq12 h3435 xq14 a3441 u3442 h3443 h3444 h4070 h4071 a4135 h4136 h4190 h4244 w4245 w4246 f4247 r4248 r4249 r4250 h4251 h4255 h4279 h4288 ⊢) <;> first | omega | ((try simp (disch := omega) only [zb] at u3429 xq2 h3430 xq12 h3435 xq14 a3441 u3442 h3443 h3444 h4070 h4071 a4135 h4136 h4190 h4244 w4245 w4246 f4247 r4248 r4249 r4250 h4251 h4255 h4279 h4288 ⊢) <;> omega)) ) ?_
                            intro q28 hqq28
                            obtain ⟨cq28, gq28, xq28⟩ := hqq28
                            have fq28 := fr_trans fq30 gq28 rfl
                            have w4293 := (gq28.2.2 _ _ t_p0 0 rfl).1
                            have w4294 := (gq30.2.2 _ _ t_p0 0 rfl).1
                            have w4295 : mm_I s11 p0 0 = mm_I q2.2 p0 0 := by rw [← es11]; exact rd_k t_p0 tq5 (by decide)
                            have a4297 := zi_and p2 8 (by decide)
                            exact sw_some ⟨cq28, fq28, (by (try simp only [zp, zo, zq] at u3429 xq2 h3430 xq12 h3435 xq14 a3441 u3442 h3443 h3444 h4070 h4071 a4135 h4136 h4190 h4244 w4245 w4246 f4247 r4248 r4249 r4250 h4251 h4255 h4279 h4288 w4293 w4294 w4295 a4297 ⊢) <;> (try simp only [zz, Int32.reduceToInt, ne_eq] at u3429 xq2 h3430 xq12 h3435 xq14 a3441 u3442 h3443 h3444 h4070 h4071 a4135 h4136 h4190 h4244 w4245 w4246 f4247 r4248 r4249 r4250 h4251 h4255 h4279 h4288 w4293 w4294 w4295 a4297 ⊢) <;> (try simp (disch := omega) only [zb] at u3429 xq2 h3430 xq12 h3435 xq14 a3441 u3442 h3443 h3444 h4070 h4071 a4135 h4136 h4190 h4244 w4245 w4246 f4247 r4248 r4249 r4250 h4251 h4255 h4279 h4288 w4293 w4294 w4295 a4297 ⊢) <;> first | omega | ((try simp (disch := omega) only [zb] at u3429 xq2 h3430 xq12 h3435 xq14 a3441 u3442 h3443 h3444 h4070 h4071 a4135 h4136 h4190 h4244 w4245 w4246 f4247 r4248 r4249 r4250 h4251 h4255 h4279 h4288 w4293 w4294 w4295 a4297 ⊢) <;> omega))⟩
                  · unfold fX9_pair_227
                    unfold fX9_pair_228
                    have w4298 : mm_I s11 q17 p1.toNatClampNeg = mm_I q2.2 q17 p1.toNatClampNeg := by rw [← es11]; exact rd_k tq17 tq5 (by decide)
                    have w4299 := (gq2.2.2 _ _ tq17 p1.toNatClampNeg rfl).1
                    have f4300 : mm_I σ0 q17 p1.toNatClampNeg = -1 := hv q17 59 p1.toNatClampNeg tq17 (Or.inr (by decide)) (by (try simp only [zp, zo, zq] at u3429 xq2 h3430 xq12 h3435 xq14 a3441 u3442 h3443 h3444 h4070 h4071 a4135 h4136 h4190 h4244 w4298 w4299 ⊢) <;> (try simp only [zz, Int32.reduceToInt, ne_eq] at u3429 xq2 h3430 xq12 h3435 xq14 a3441 u3442 h3443 h3444 h4070 h4071 a4135 h4136 h4190 h4244 w4298 w4299 ⊢) <;> (try simp (disch := omega) only [zb] at u3429 xq2 h3430 xq12 h3435 xq14 a3441 u3442 h3443 h3444 h4070 h4071 a4135 h4136 h4190 h4244 w4298 w4299 ⊢) <;> first | omega | ((try simp (disch := omega) only [zb] at u3429 xq2 h3430 xq12 h3435 xq14 a3441 u3442 h3443 h3444 h4070 h4071 a4135 h4136 h4190 h4244 w4298 w4299 ⊢) <;> omega))
                    have r4301 := ci_rg c0 tq17 p1.toNatClampNeg (lo := (-1)) (hi := 3) rfl
                    have r4302 := ci_rg cq2 tq17 p1.toNatClampNeg (lo := (-1)) (hi := 3) rfl
                    have r4303 := ci_rg cs11 tq17 p1.toNatClampNeg (lo := (-1)) (hi := 3) rfl
                    refine sw_ite (fun h4304 => ?_) (fun h4304 => ?_)
                    · have w4305 : mm_I s11 p0 0 = mm_I q2.2 p0 0 := by rw [← es11]; exact rd_k t_p0 tq5 (by decide)
                      have a4307 := zi_and p2 8 (by decide)
                      exact sw_some ⟨cs11, fs11, (by (try simp only [zp, zo, zq] at u3429 xq2 h3430 xq12 h3435 xq14 a3441 u3442 h3443 h3444 h4070 h4071 a4135 h4136 h4190 h4244 w4298 w4299 f4300 r4301 r4302 r4303 h4304 w4305 a4307 ⊢) <;> (try simp only [zz, Int32.reduceToInt, ne_eq] at u3429 xq2 h3430 xq12 h3435 xq14 a3441 u3442 h3443 h3444 h4070 h4071 a4135 h4136 h4190 h4244 w4298 w4299 f4300 r4301 r4302 r4303 h4304 w4305 a4307 ⊢) <;> (try simp (disch := omega) only [zb] at u3429 xq2 h3430 xq12 h3435 xq14 a3441 u3442 h3443 h3444 h4070 h4071 a4135 h4136 h4190 h4244 w4298 w4299 f4300 r4301 r4302 r4303 h4304 w4305 a4307 ⊢) <;> first | omega | ((try simp (disch := omega) only [zb] at u3429 xq2 h3430 xq12 h3435 xq14 a3441 u3442 h3443 h3444 h4070 h4071 a4135 h4136 h4190 h4244 w4298 w4299 f4300 r4301 r4302 r4303 h4304 w4305 a4307 ⊢) <;> omega))⟩
                    · refine sw_ite (fun h4308 => ?_) (fun h4308 => ?_)
                      · refine sw_ite (fun h4309 => ?_) (fun h4309 => ?_)
                        · have w4310 : mm_I s11 p0 0 = mm_I q2.2 p0 0 := by rw [← es11]; exact rd_k t_p0 tq5 (by decide)
                          have a4312 := zi_and p2 8 (by decide)
                          exact sw_some ⟨cs11, fs11, (by (try simp only [zp, zo, zq] at u3429 xq2 h3430 xq12 h3435 xq14 a3441 u3442 h3443 h3444 h4070 h4071 a4135 h4136 h4190 h4244 w4298 w4299 f4300 r4301 r4302 r4303 h4304 h4308 h4309 w4310 a4312 ⊢) <;> (try simp only [zz, Int32.reduceToInt, ne_eq] at u3429 xq2 h3430 xq12 h3435 xq14 a3441 u3442 h3443 h3444 h4070 h4071 a4135 h4136 h4190 h4244 w4298 w4299 f4300 r4301 r4302 r4303 h4304 h4308 h4309 w4310 a4312 ⊢) <;> (try simp (disch := omega) only [zb] at u3429 xq2 h3430 xq12 h3435 xq14 a3441 u3442 h3443 h3444 h4070 h4071 a4135 h4136 h4190 h4244 w4298 w4299 f4300 r4301 r4302 r4303 h4304 h4308 h4309 w4310 a4312 ⊢) <;> first | omega | ((try simp (disch := omega) only [zb] at u3429 xq2 h3430 xq12 h3435 xq14 a3441 u3442 h3443 h3444 h4070 h4071 a4135 h4136 h4190 h4244 w4298 w4299 f4300 r4301 r4302 r4303 h4304 h4308 h4309 w4310 a4312 ⊢) <;> omega))⟩
                        · unfold fX9_pair_250
                          refine sw_ite (fun h4313 => ?_) (fun h4313 => ?_)
                          · unfold fX9_pair_264
                            refine sw_ite (fun h4314 => ?_) (fun h4314 => ?_)
                            · have w4315 : mm_I s11 p0 0 = mm_I q2.2 p0 0 := by rw [← es11]; exact rd_k t_p0 tq5 (by decide)
                              have a4317 := zi_and p2 8 (by decide)
                              exact sw_some ⟨cs11, fs11, (by (try simp only [zp, zo, zq] at u3429 xq2 h3430 xq12 h3435 xq14 a3441 u3442 h3443 h3444 h4070 h4071 a4135 h4136 h4190 h4244 w4298 w4299 f4300 r4301 r4302 r4303 h4304 h4308 h4309 h4313 h4314 w4315 a4317 ⊢) <;> (try simp only [zz, Int32.reduceToInt, ne_eq] at u3429 xq2 h3430 xq12 h3435 xq14 a3441 u3442 h3443 h3444 h4070 h4071 a4135 h4136 h4190 h4244 w4298 w4299 f4300 r4301 r4302 r4303 h4304 h4308 h4309 h4313 h4314 w4315 a4317 ⊢) <;> (try simp (disch := omega) only [zb] at u3429 xq2 h3430 xq12 h3435 xq14 a3441 u3442 h3443 h3444 h4070 h4071 a4135 h4136 h4190 h4244 w4298 w4299 f4300 r4301 r4302 r4303 h4304 h4308 h4309 h4313 h4314 w4315 a4317 ⊢) <;> first | omega | ((try simp (disch := omega) only [zb] at u3429 xq2 h3430 xq12 h3435 xq14 a3441 u3442 h3443 h3444 h4070 h4071 a4135 h4136 h4190 h4244 w4298 w4299 f4300 r4301 r4302 r4303 h4304 h4308 h4309 h4313 h4314 w4315 a4317 ⊢) <;> omega))⟩
                            · refine sw_sh (ci_sh cs11 t_p0 rfl) ?_
                              refine sw_on (sX9_put cs11 t_p0 (by (try simp only [zp, zo, zq] at u3429 xq2 h3430 xq12 h3435 xq14 a3441 u3442 h3443 h3444 h4070 h4071 a4135 h4136 h4190 h4244 w4298 w4299 f4300 r4301 r4302 r4303 h4304 h4308 h4309 h4313 h4314 ⊢) <;> (try simp only [zz, Int32.reduceToInt, ne_eq] at u3429 xq2 h3430 xq12 h3435 xq14 a3441 u3442 h3443 h3444 h4070 h4071 a4135 h4136 h4190 h4244 w4298 w4299 f4300 r4301 r4302 r4303 h4304 h4308 h4309 h4313 h4314 ⊢) <;> (try simp (disch := omega) only [zb] at u3429 xq2 h3430 xq12 h3435 xq14 a3441 u3442 h3443 h3444 h4070 h4071 a4135 h4136 h4190 h4244 w4298 w4299 f4300 r4301 r4302 r4303 h4304 h4308 h4309 h4313 h4314 ⊢) <;> first | omega | ((try simp (disch := omega) only [zb] at u3429 xq2 h3430 xq12 h3435 xq14 a3441 u3442 h3443 h3444 h4070 h4071 a4135 h4136 h4190 h4244 w4298 w4299 f4300 r4301 r4302 r4303 h4304 h4308 h4309 h4313 h4314 ⊢) <;> omega)) ) ?_
                              intro q28 hqq28
                              obtain ⟨cq28, gq28, xq28⟩ := hqq28
                              have fq28 := fr_trans fs11 gq28 rfl
                              have w4318 := (gq28.2.2 _ _ t_p0 0 rfl).1
                              have w4319 : mm_I s11 p0 0 = mm_I q2.2 p0 0 := by rw [← es11]; exact rd_k t_p0 tq5 (by decide)
                              have a4321 := zi_and p2 8 (by decide)
                              exact sw_some ⟨cq28, fq28, (by (try simp only [zp, zo, zq] at u3429 xq2 h3430 xq12 h3435 xq14 a3441 u3442 h3443 h3444 h4070 h4071 a4135 h4136 h4190 h4244 w4298 w4299 f4300 r4301 r4302 r4303 h4304 h4308 h4309 h4313 h4314 w4318 w4319 a4321 ⊢) <;> (try simp only [zz, Int32.reduceToInt, ne_eq] at u3429 xq2 h3430 xq12 h3435 xq14 a3441 u3442 h3443 h3444 h4070 h4071 a4135 h4136 h4190 h4244 w4298 w4299 f4300 r4301 r4302 r4303 h4304 h4308 h4309 h4313 h4314 w4318 w4319 a4321 ⊢) <;> (try simp (disch := omega) only [zb] at u3429 xq2 h3430 xq12 h3435 xq14 a3441 u3442 h3443 h3444 h4070 h4071 a4135 h4136 h4190 h4244 w4298 w4299 f4300 r4301 r4302 r4303 h4304 h4308 h4309 h4313 h4314 w4318 w4319 a4321 ⊢) <;> first | omega | ((try simp (disch := omega) only [zb] at u3429 xq2 h3430 xq12 h3435 xq14 a3441 u3442 h3443 h3444 h4070 h4071 a4135 h4136 h4190 h4244 w4298 w4299 f4300 r4301 r4302 r4303 h4304 h4308 h4309 h4313 h4314 w4318 w4319 a4321 ⊢) <;> omega))⟩
                          · refine sw_sh (ci_sh cs11 t_p0 rfl) ?_
                            refine sw_on (sX9_put cs11 t_p0 (by (try simp only [zp, zo, zq] at u3429 xq2 h3430 xq12 h3435 xq14 a3441 u3442 h3443 h3444 h4070 h4071 a4135 h4136 h4190 h4244 w4298 w4299 f4300 r4301 r4302 r4303 h4304 h4308 h4309 h4313 ⊢) <;> (try simp only [zz, Int32.reduceToInt, ne_eq] at u3429 xq2 h3430 xq12 h3435 xq14 a3441 u3442 h3443 h3444 h4070 h4071 a4135 h4136 h4190 h4244 w4298 w4299 f4300 r4301 r4302 r4303 h4304 h4308 h4309 h4313 ⊢) <;> (try simp (disch := omega) only [zb] at u3429 xq2 h3430 xq12 h3435 xq14 a3441 u3442 h3443 h3444 h4070 h4071 a4135 h4136 h4190 h4244 w4298 w4299 f4300 r4301 r4302 r4303 h4304 h4308 h4309 h4313 ⊢) <;> first | omega | ((try simp (disch := omega) only [zb] at u3429 xq2 h3430 xq12 h3435 xq14 a3441 u3442 h3443 h3444 h4070 h4071 a4135 h4136 h4190 h4244 w4298 w4299 f4300 r4301 r4302 r4303 h4304 h4308 h4309 h4313 ⊢) <;> omega)) ) ?_
                            intro q30 hqq30
                            obtain ⟨cq30, gq30, xq30⟩ := hqq30
                            have fq30 := fr_trans fs11 gq30 rfl
                            unfold fX9_pair_264
                            refine sw_ite (fun h4322 => ?_) (fun h4322 => ?_)
                            · have w4323 := (gq30.2.2 _ _ t_p0 0 rfl).1
                              have w4324 : mm_I s11 p0 0 = mm_I q2.2 p0 0 := by rw [← es11]; exact rd_k t_p0 tq5 (by decide)
                              have a4326 := zi_and p2 8 (by decide)
                              exact sw_some ⟨cq30, fq30, (by (try simp only [zp, zo, zq] at u3429 xq2 h3430 xq12 h3435 xq14 a3441 u3442 h3443 h3444 h4070 h4071 a4135 h4136 h4190 h4244 w4298 w4299 f4300 r4301 r4302 r4303 h4304 h4308 h4309 h4313 h4322 w4323 w4324 a4326 ⊢) <;> (try simp only [zz, Int32.reduceToInt, ne_eq] at u3429 xq2 h3430 xq12 h3435 xq14 a3441 u3442 h3443 h3444 h4070 h4071 a4135 h4136 h4190 h4244 w4298 w4299 f4300 r4301 r4302 r4303 h4304 h4308 h4309 h4313 h4322 w4323 w4324 a4326 ⊢) <;> (try simp (disch := omega) only [zb] at u3429 xq2 h3430 xq12 h3435 xq14 a3441 u3442 h3443 h3444 h4070 h4071 a4135 h4136 h4190 h4244 w4298 w4299 f4300 r4301 r4302 r4303 h4304 h4308 h4309 h4313 h4322 w4323 w4324 a4326 ⊢) <;> first | omega | ((try simp (disch := omega) only [zb] at u3429 xq2 h3430 xq12 h3435 xq14 a3441 u3442 h3443 h3444 h4070 h4071 a4135 h4136 h4190 h4244 w4298 w4299 f4300 r4301 r4302 r4303 h4304 h4308 h4309 h4313 h4322 w4323 w4324 a4326 ⊢) <;> omega))⟩
                            · refine sw_sh (ci_sh cq30 t_p0 rfl) ?_
                              refine sw_on (sX9_put cq30 t_p0 (by (try simp only [zp, zo, zq] at u3429 xq2 h3430 xq12 h3435 xq14 a3441 u3442 h3443 h3444 h4070 h4071 a4135 h4136 h4190 h4244 w4298 w4299 f4300 r4301 r4302 r4303 h4304 h4308 h4309 h4313 h4322 ⊢) <;> (try simp only [zz, Int32.reduceToInt, ne_eq] at u3429 xq2 h3430 xq12 h3435 xq14 a3441 u3442 h3443 h3444 h4070 h4071 a4135 h4136 h4190 h4244 w4298 w4299 f4300 r4301 r4302 r4303 h4304 h4308 h4309 h4313 h4322 ⊢) <;> (try simp (disch := omega) only [zb] at u3429 xq2 h3430 xq12 h3435 xq14 a3441 u3442 h3443 h3444 h4070 h4071 a4135 h4136 h4190 h4244 w4298 w4299 f4300 r4301 r4302 r4303 h4304 h4308 h4309 h4313 h4322 ⊢) <;> first | omega | ((try simp (disch := omega) only [zb] at u3429 xq2 h3430 xq12 h3435 xq14 a3441 u3442 h3443 h3444 h4070 h4071 a4135 h4136 h4190 h4244 w4298 w4299 f4300 r4301 r4302 r4303 h4304 h4308 h4309 h4313 h4322 ⊢) <;> omega)) ) ?_
                              intro q28 hqq28
                              obtain ⟨cq28, gq28, xq28⟩ := hqq28
                              have fq28 := fr_trans fq30 gq28 rfl
                              have w4327 := (gq28.2.2 _ _ t_p0 0 rfl).1
                              have w4328 := (gq30.2.2 _ _ t_p0 0 rfl).1
                              have w4329 : mm_I s11 p0 0 = mm_I q2.2 p0 0 := by rw [← es11]; exact rd_k t_p0 tq5 (by decide)
                              have a4331 := zi_and p2 8 (by decide)
                              exact sw_some ⟨cq28, fq28, (by (try simp only [zp, zo, zq] at u3429 xq2 h3430 xq12 h3435 xq14 a3441 u3442 h3443 h3444 h4070 h4071 a4135 h4136 h4190 h4244 w4298 w4299 f4300 r4301 r4302 r4303 h4304 h4308 h4309 h4313 h4322 w4327 w4328 w4329 a4331 ⊢) <;> (try simp only [zz, Int32.reduceToInt, ne_eq] at u3429 xq2 h3430 xq12 h3435 xq14 a3441 u3442 h3443 h3444 h4070 h4071 a4135 h4136 h4190 h4244 w4298 w4299 f4300 r4301 r4302 r4303 h4304 h4308 h4309 h4313 h4322 w4327 w4328 w4329 a4331 ⊢) <;> (try simp (disch := omega) only [zb] at u3429 xq2 h3430 xq12 h3435 xq14 a3441 u3442 h3443 h3444 h4070 h4071 a4135 h4136 h4190 h4244 w4298 w4299 f4300 r4301 r4302 r4303 h4304 h4308 h4309 h4313 h4322 w4327 w4328 w4329 a4331 ⊢) <;> first | omega | ((try simp (disch := omega) only [zb] at u3429 xq2 h3430 xq12 h3435 xq14 a3441 u3442 h3443 h3444 h4070 h4071 a4135 h4136 h4190 h4244 w4298 w4299 f4300 r4301 r4302 r4303 h4304 h4308 h4309 h4313 h4322 w4327 w4328 w4329 a4331 ⊢) <;> omega))⟩
                      · unfold fX9_pair_250
                        refine sw_ite (fun h4332 => ?_) (fun h4332 => ?_)
                        · unfold fX9_pair_264
                          refine sw_ite (fun h4333 => ?_) (fun h4333 => ?_)
                          · have w4334 : mm_I s11 p0 0 = mm_I q2.2 p0 0 := by rw [← es11]; exact rd_k t_p0 tq5 (by decide)
                            have a4336 := zi_and p2 8 (by decide)
                            exact sw_some ⟨cs11, fs11, (by (try simp only [zp, zo, zq] at u3429 xq2 h3430 xq12 h3435 xq14 a3441 u3442 h3443 h3444 h4070 h4071 a4135 h4136 h4190 h4244 w4298 w4299 f4300 r4301 r4302 r4303 h4304 h4308 h4332 h4333 w4334 a4336 ⊢) <;> (try simp only [zz, Int32.reduceToInt, ne_eq] at u3429 xq2 h3430 xq12 h3435 xq14 a3441 u3442 h3443 h3444 h4070 h4071 a4135 h4136 h4190 h4244 w4298 w4299 f4300 r4301 r4302 r4303 h4304 h4308 h4332 h4333 w4334 a4336 ⊢) <;> (try simp (disch := omega) only [zb] at u3429 xq2 h3430 xq12 h3435 xq14 a3441 u3442 h3443 h3444 h4070 h4071 a4135 h4136 h4190 h4244 w4298 w4299 f4300 r4301 r4302 r4303 h4304 h4308 h4332 h4333 w4334 a4336 ⊢) <;> first | omega | ((try simp (disch := omega) only [zb] at u3429 xq2 h3430 xq12 h3435 xq14 a3441 u3442 h3443 h3444 h4070 h4071 a4135 h4136 h4190 h4244 w4298 w4299 f4300 r4301 r4302 r4303 h4304 h4308 h4332 h4333 w4334 a4336 ⊢) <;> omega))⟩
                          · refine sw_sh (ci_sh cs11 t_p0 rfl) ?_
                            refine sw_on (sX9_put cs11 t_p0 (by (try simp only [zp, zo, zq] at u3429 xq2 h3430 xq12 h3435 xq14 a3441 u3442 h3443 h3444 h4070 h4071 a4135 h4136 h4190 h4244 w4298 w4299 f4300 r4301 r4302 r4303 h4304 h4308 h4332 h4333 ⊢) <;> (try simp only [zz, Int32.reduceToInt, ne_eq] at u3429 xq2 h3430 xq12 h3435 xq14 a3441 u3442 h3443 h3444 h4070 h4071 a4135 h4136 h4190 h4244 w4298 w4299 f4300 r4301 r4302 r4303 h4304 h4308 h4332 h4333 ⊢) <;> (try simp (disch := omega) only [zb] at u3429 xq2 h3430 xq12 h3435 xq14 a3441 u3442 h3443 h3444 h4070 h4071 a4135 h4136 h4190 h4244 w4298 w4299 f4300 r4301 r4302 r4303 h4304 h4308 h4332 h4333 ⊢) <;> first | omega | ((try simp (disch := omega) only [zb] at u3429 xq2 h3430 xq12 h3435 xq14 a3441 u3442 h3443 h3444 h4070 h4071 a4135 h4136 h4190 h4244 w4298 w4299 f4300 r4301 r4302 r4303 h4304 h4308 h4332 h4333 ⊢) <;> omega)) ) ?_
                            intro q28 hqq28
                            obtain ⟨cq28, gq28, xq28⟩ := hqq28
                            have fq28 := fr_trans fs11 gq28 rfl
                            have w4337 := (gq28.2.2 _ _ t_p0 0 rfl).1
                            have w4338 : mm_I s11 p0 0 = mm_I q2.2 p0 0 := by rw [← es11]; exact rd_k t_p0 tq5 (by decide)
                            have a4340 := zi_and p2 8 (by decide)
                            exact sw_some ⟨cq28, fq28, (by (try simp only [zp, zo, zq] at u3429 xq2 h3430 xq12 h3435 xq14 a3441 u3442 h3443 h3444 h4070 h4071 a4135 h4136 h4190 h4244 w4298 w4299 f4300 r4301 r4302 r4303 h4304 h4308 h4332 h4333 w4337 w4338 a4340 ⊢) <;> (try simp only [zz, Int32.reduceToInt, ne_eq] at u3429 xq2 h3430 xq12 h3435 xq14 a3441 u3442 h3443 h3444 h4070 h4071 a4135 h4136 h4190 h4244 w4298 w4299 f4300 r4301 r4302 r4303 h4304 h4308 h4332 h4333 w4337 w4338 a4340 ⊢) <;> (try simp (disch := omega) only [zb] at u3429 xq2 h3430 xq12 h3435 xq14 a3441 u3442 h3443 h3444 h4070 h4071 a4135 h4136 h4190 h4244 w4298 w4299 f4300 r4301 r4302 r4303 h4304 h4308 h4332 h4333 w4337 w4338 a4340 ⊢) <;> first | omega | ((try simp (disch := omega) only [zb] at u3429 xq2 h3430 xq12 h3435 xq14 a3441 u3442 h3443 h3444 h4070 h4071 a4135 h4136 h4190 h4244 w4298 w4299 f4300 r4301 r4302 r4303 h4304 h4308 h4332 h4333 w4337 w4338 a4340 ⊢) <;> omega))⟩
                        · refine sw_sh (ci_sh cs11 t_p0 rfl) ?_
                          refine sw_on (sX9_put cs11 t_p0 (by (try simp only [zp, zo, zq] at u3429 xq2 h3430 xq12 h3435 xq14 a3441 u3442 h3443 h3444 h4070 h4071 a4135 h4136 h4190 h4244 w4298 w4299 f4300 r4301 r4302 r4303 h4304 h4308 h4332 ⊢) <;> (try simp only [zz, Int32.reduceToInt, ne_eq] at u3429 xq2 h3430 xq12 h3435 xq14 a3441 u3442 h3443 h3444 h4070 h4071 a4135 h4136 h4190 h4244 w4298 w4299 f4300 r4301 r4302 r4303 h4304 h4308 h4332 ⊢) <;> (try simp (disch := omega) only [zb] at u3429 xq2 h3430 xq12 h3435 xq14 a3441 u3442 h3443 h3444 h4070 h4071 a4135 h4136 h4190 h4244 w4298 w4299 f4300 r4301 r4302 r4303 h4304 h4308 h4332 ⊢) <;> first | omega | ((try simp (disch := omega) only [zb] at u3429 xq2 h3430 xq12 h3435 xq14 a3441 u3442 h3443 h3444 h4070 h4071 a4135 h4136 h4190 h4244 w4298 w4299 f4300 r4301 r4302 r4303 h4304 h4308 h4332 ⊢) <;> omega)) ) ?_
                          intro q30 hqq30
                          obtain ⟨cq30, gq30, xq30⟩ := hqq30
                          have fq30 := fr_trans fs11 gq30 rfl
                          unfold fX9_pair_264
                          refine sw_ite (fun h4341 => ?_) (fun h4341 => ?_)
                          · have w4342 := (gq30.2.2 _ _ t_p0 0 rfl).1
                            have w4343 : mm_I s11 p0 0 = mm_I q2.2 p0 0 := by rw [← es11]; exact rd_k t_p0 tq5 (by decide)
                            have a4345 := zi_and p2 8 (by decide)
                            exact sw_some ⟨cq30, fq30, (by (try simp only [zp, zo, zq] at u3429 xq2 h3430 xq12 h3435 xq14 a3441 u3442 h3443 h3444 h4070 h4071 a4135 h4136 h4190 h4244 w4298 w4299 f4300 r4301 r4302 r4303 h4304 h4308 h4332 h4341 w4342 w4343 a4345 ⊢) <;> (try simp only [zz, Int32.reduceToInt, ne_eq] at u3429 xq2 h3430 xq12 h3435 xq14 a3441 u3442 h3443 h3444 h4070 h4071 a4135 h4136 h4190 h4244 w4298 w4299 f4300 r4301 r4302 r4303 h4304 h4308 h4332 h4341 w4342 w4343 a4345 ⊢) <;> (try simp (disch := omega) only [zb] at u3429 xq2 h3430 xq12 h3435 xq14 a3441 u3442 h3443 h3444 h4070 h4071 a4135 h4136 h4190 h4244 w4298 w4299 f4300 r4301 r4302 r4303 h4304 h4308 h4332 h4341 w4342 w4343 a4345 ⊢) <;> first | omega | ((try simp (disch := omega) only [zb] at u3429 xq2 h3430 xq12 h3435 xq14 a3441 u3442 h3443 h3444 h4070 h4071 a4135 h4136 h4190 h4244 w4298 w4299 f4300 r4301 r4302 r4303 h4304 h4308 h4332 h4341 w4342 w4343 a4345 ⊢) <;> omega))⟩
                          · refine sw_sh (ci_sh cq30 t_p0 rfl) ?_
                            refine sw_on (sX9_put cq30 t_p0 (by (try simp only [zp, zo, zq] at u3429 xq2 h3430 xq12 h3435 xq14 a3441 u3442 h3443 h3444 h4070 h4071 a4135 h4136 h4190 h4244 w4298 w4299 f4300 r4301 r4302 r4303 h4304 h4308 h4332 h4341 ⊢) <;> (try simp only [zz, Int32.reduceToInt, ne_eq] at u3429 xq2 h3430 xq12 h3435 xq14 a3441 u3442 h3443 h3444 h4070 h4071 a4135 h4136 h4190 h4244 w4298 w4299 f4300 r4301 r4302 r4303 h4304 h4308 h4332 h4341 ⊢) <;> (try simp (disch := omega) only [zb] at u3429 xq2 h3430 xq12 h3435 xq14 a3441 u3442 h3443 h3444 h4070 h4071 a4135 h4136 h4190 h4244 w4298 w4299 f4300 r4301 r4302 r4303 h4304 h4308 h4332 h4341 ⊢) <;> first | omega | ((try simp (disch := omega) only [zb] at u3429 xq2 h3430 xq12 h3435 xq14 a3441 u3442 h3443 h3444 h4070 h4071 a4135 h4136 h4190 h4244 w4298 w4299 f4300 r4301 r4302 r4303 h4304 h4308 h4332 h4341 ⊢) <;> omega)) ) ?_
                            intro q28 hqq28
                            obtain ⟨cq28, gq28, xq28⟩ := hqq28
                            have fq28 := fr_trans fq30 gq28 rfl
                            have w4346 := (gq28.2.2 _ _ t_p0 0 rfl).1
                            have w4347 := (gq30.2.2 _ _ t_p0 0 rfl).1
                            have w4348 : mm_I s11 p0 0 = mm_I q2.2 p0 0 := by rw [← es11]; exact rd_k t_p0 tq5 (by decide)
                            have a4350 := zi_and p2 8 (by decide)
                            exact sw_some ⟨cq28, fq28, (by (try simp only [zp, zo, zq] at u3429 xq2 h3430 xq12 h3435 xq14 a3441 u3442 h3443 h3444 h4070 h4071 a4135 h4136 h4190 h4244 w4298 w4299 f4300 r4301 r4302 r4303 h4304 h4308 h4332 h4341 w4346 w4347 w4348 a4350 ⊢) <;> (try simp only [zz, Int32.reduceToInt, ne_eq] at u3429 xq2 h3430 xq12 h3435 xq14 a3441 u3442 h3443 h3444 h4070 h4071 a4135 h4136 h4190 h4244 w4298 w4299 f4300 r4301 r4302 r4303 h4304 h4308 h4332 h4341 w4346 w4347 w4348 a4350 ⊢) <;> (try simp (disch := omega) only [zb] at u3429 xq2 h3430 xq12 h3435 xq14 a3441 u3442 h3443 h3444 h4070 h4071 a4135 h4136 h4190 h4244 w4298 w4299 f4300 r4301 r4302 r4303 h4304 h4308 h4332 h4341 w4346 w4347 w4348 a4350 ⊢) <;> first | omega | ((try simp (disch := omega) only [zb] at u3429 xq2 h3430 xq12 h3435 xq14 a3441 u3442 h3443 h3444 h4070 h4071 a4135 h4136 h4190 h4244 w4298 w4299 f4300 r4301 r4302 r4303 h4304 h4308 h4332 h4341 w4346 w4347 w4348 a4350 ⊢) <;> omega))⟩
          · refine sw_ite (fun h4351 => ?_) (fun h4351 => ?_)
            · unfold fX9_pair_228
              have w4352 : mm_I s11 q17 p1.toNatClampNeg = mm_I q2.2 q17 p1.toNatClampNeg := by rw [← es11]; exact rd_k tq17 tq5 (by decide)
              have w4353 := (gq2.2.2 _ _ tq17 p1.toNatClampNeg rfl).1
              have f4354 : mm_I σ0 q17 p1.toNatClampNeg = -1 := hv q17 59 p1.toNatClampNeg tq17 (Or.inr (by decide)) (by (try simp only [zp, zo, zq] at u3429 xq2 h3430 xq12 h3435 xq14 a3441 u3442 h3443 h3444 h4070 h4351 w4352 w4353 ⊢) <;> (try simp only [zz, Int32.reduceToInt, ne_eq] at u3429 xq2 h3430 xq12 h3435 xq14 a3441 u3442 h3443 h3444 h4070 h4351 w4352 w4353 ⊢) <;> (try simp (disch := omega) only [zb] at u3429 xq2 h3430 xq12 h3435 xq14 a3441 u3442 h3443 h3444 h4070 h4351 w4352 w4353 ⊢) <;> first | omega | ((try simp (disch := omega) only [zb] at u3429 xq2 h3430 xq12 h3435 xq14 a3441 u3442 h3443 h3444 h4070 h4351 w4352 w4353 ⊢) <;> omega))
              have r4355 := ci_rg c0 tq17 p1.toNatClampNeg (lo := (-1)) (hi := 3) rfl
              have r4356 := ci_rg cq2 tq17 p1.toNatClampNeg (lo := (-1)) (hi := 3) rfl
              have r4357 := ci_rg cs11 tq17 p1.toNatClampNeg (lo := (-1)) (hi := 3) rfl
              refine sw_ite (fun h4358 => ?_) (fun h4358 => ?_)
              · have w4359 : mm_I s11 p0 0 = mm_I q2.2 p0 0 := by rw [← es11]; exact rd_k t_p0 tq5 (by decide)
                have a4361 := zi_and p3 127 (by decide)
                have a4362 := zi_and p2 8 (by decide)
                exact sw_some ⟨cs11, fs11, (by (try simp only [zp, zo, zq] at u3429 xq2 h3430 xq12 h3435 xq14 a3441 u3442 h3443 h3444 h4070 h4351 w4352 w4353 f4354 r4355 r4356 r4357 h4358 w4359 a4361 a4362 ⊢) <;> (try simp only [zz, Int32.reduceToInt, ne_eq] at u3429 xq2 h3430 xq12 h3435 xq14 a3441 u3442 h3443 h3444 h4070 h4351 w4352 w4353 f4354 r4355 r4356 r4357 h4358 w4359 a4361 a4362 ⊢) <;> (try simp (disch := omega) only [zb] at u3429 xq2 h3430 xq12 h3435 xq14 a3441 u3442 h3443 h3444 h4070 h4351 w4352 w4353 f4354 r4355 r4356 r4357 h4358 w4359 a4361 a4362 ⊢) <;> first | omega | ((try simp (disch := omega) only [zb] at u3429 xq2 h3430 xq12 h3435 xq14 a3441 u3442 h3443 h3444 h4070 h4351 w4352 w4353 f4354 r4355 r4356 r4357 h4358 w4359 a4361 a4362 ⊢) <;> omega))⟩
              · refine sw_ite (fun h4363 => ?_) (fun h4363 => ?_)
                · refine sw_ite (fun h4364 => ?_) (fun h4364 => ?_)
                  · have w4365 : mm_I s11 p0 0 = mm_I q2.2 p0 0 := by rw [← es11]; exact rd_k t_p0 tq5 (by decide)
                    have a4367 := zi_and p3 127 (by decide)
                    have a4368 := zi_and p2 8 (by decide)
                    exact sw_some ⟨cs11, fs11, (by (try simp only [zp, zo, zq] at u3429 xq2 h3430 xq12 h3435 xq14 a3441 u3442 h3443 h3444 h4070 h4351 w4352 w4353 f4354 r4355 r4356 r4357 h4358 h4363 h4364 w4365 a4367 a4368 ⊢) <;> (try simp only [zz, Int32.reduceToInt, ne_eq] at u3429 xq2 h3430 xq12 h3435 xq14 a3441 u3442 h3443 h3444 h4070 h4351 w4352 w4353 f4354 r4355 r4356 r4357 h4358 h4363 h4364 w4365 a4367 a4368 ⊢) <;> (try simp (disch := omega) only [zb] at u3429 xq2 h3430 xq12 h3435 xq14 a3441 u3442 h3443 h3444 h4070 h4351 w4352 w4353 f4354 r4355 r4356 r4357 h4358 h4363 h4364 w4365 a4367 a4368 ⊢) <;> first | omega | ((try simp (disch := omega) only [zb] at u3429 xq2 h3430 xq12 h3435 xq14 a3441 u3442 h3443 h3444 h4070 h4351 w4352 w4353 f4354 r4355 r4356 r4357 h4358 h4363 h4364 w4365 a4367 a4368 ⊢) <;> omega))⟩
                  · unfold fX9_pair_250
                    refine sw_ite (fun h4369 => ?_) (fun h4369 => ?_)
                    · unfold fX9_pair_264
                      refine sw_ite (fun h4370 => ?_) (fun h4370 => ?_)
                      · have w4371 : mm_I s11 p0 0 = mm_I q2.2 p0 0 := by rw [← es11]; exact rd_k t_p0 tq5 (by decide)
                        have a4373 := zi_and p3 127 (by decide)
                        have a4374 := zi_and p2 8 (by decide)
                        exact sw_some ⟨cs11, fs11, (by (try simp only [zp, zo, zq] at u3429 xq2 h3430 xq12 h3435 xq14 a3441 u3442 h3443 h3444 h4070 h4351 w4352 w4353 f4354 r4355 r4356 r4357 h4358 h4363 h4364 h4369 h4370 w4371 a4373 a4374 ⊢) <;> (try simp only [zz, Int32.reduceToInt, ne_eq] at u3429 xq2 h3430 xq12 h3435 xq14 a3441 u3442 h3443 h3444 h4070 h4351 w4352 w4353 f4354 r4355 r4356 r4357 h4358 h4363 h4364 h4369 h4370 w4371 a4373 a4374 ⊢) <;> (try simp (disch := omega) only [zb] at u3429 xq2 h3430 xq12 h3435 xq14 a3441 u3442 h3443 h3444 h4070 h4351 w4352 w4353 f4354 r4355 r4356 r4357 h4358 h4363 h4364 h4369 h4370 w4371 a4373 a4374 ⊢) <;> first | omega | ((try simp (disch := omega) only [zb] at u3429 xq2 h3430 xq12 h3435 xq14 a3441 u3442 h3443 h3444 h4070 h4351 w4352 w4353 f4354 r4355 r4356 r4357 h4358 h4363 h4364 h4369 h4370 w4371 a4373 a4374 ⊢) <;> omega))⟩
                      · refine sw_sh (ci_sh cs11 t_p0 rfl) ?_
                        refine sw_on (sX9_put cs11 t_p0 (by (try simp only [zp, zo, zq] at u3429 xq2 h3430 xq12 h3435 xq14 a3441 u3442 h3443 h3444 h4070 h4351 w4352 w4353 f4354 r4355 r4356 r4357 h4358 h4363 h4364 h4369 h4370 ⊢) <;> (try simp only [zz, Int32.reduceToInt, ne_eq] at u3429 xq2 h3430 xq12 h3435 xq14 a3441 u3442 h3443 h3444 h4070 h4351 w4352 w4353 f4354 r4355 r4356 r4357 h4358 h4363 h4364 h4369 h4370 ⊢) <;> (try simp (disch := omega) only [zb] at u3429 xq2 h3430 xq12 h3435 xq14 a3441 u3442 h3443 h3444 h4070 h4351 w4352 w4353 f4354 r4355 r4356 r4357 h4358 h4363 h4364 h4369 h4370 ⊢) <;> first | omega | ((try simp (disch := omega) only [zb] at u3429 xq2 h3430 xq12 h3435 xq14 a3441 u3442 h3443 h3444 h4070 h4351 w4352 w4353 f4354 r4355 r4356 r4357 h4358 h4363 h4364 h4369 h4370 ⊢) <;> omega)) ) ?_
                        intro q28 hqq28
                        obtain ⟨cq28, gq28, xq28⟩ := hqq28
                        have fq28 := fr_trans fs11 gq28 rfl
                        have w4375 := (gq28.2.2 _ _ t_p0 0 rfl).1
                        have w4376 : mm_I s11 p0 0 = mm_I q2.2 p0 0 := by rw [← es11]; exact rd_k t_p0 tq5 (by decide)
                        have a4378 := zi_and p3 127 (by decide)
                        have a4379 := zi_and p2 8 (by decide)
                        exact sw_some ⟨cq28, fq28, (by (try simp only [zp, zo, zq] at u3429 xq2 h3430 xq12 h3435 xq14 a3441 u3442 h3443 h3444 h4070 h4351 w4352 w4353 f4354 r4355 r4356 r4357 h4358 h4363 h4364 h4369 h4370 w4375 w4376 a4378 a4379 ⊢) <;> (try simp only [zz, Int32.reduceToInt, ne_eq] at u3429 xq2 h3430 xq12 h3435 xq14 a3441 u3442 h3443 h3444 h4070 h4351 w4352 w4353 f4354 r4355 r4356 r4357 h4358 h4363 h4364 h4369 h4370 w4375 w4376 a4378 a4379 ⊢) <;> (try simp (disch := omega) only [zb] at u3429 xq2 h3430 xq12 h3435 xq14 a3441 u3442 h3443 h3444 h4070 h4351 w4352 w4353 f4354 r4355 r4356 r4357 h4358 h4363 h4364 h4369 h4370 w4375 w4376 a4378 a4379 ⊢) <;> first | omega | ((try simp (disch := omega) only [zb] at u3429 xq2 h3430 xq12 h3435 xq14 a3441 u3442 h3443 h3444 h4070 h4351 w4352 w4353 f4354 r4355 r4356 r4357 h4358 h4363 h4364 h4369 h4370 w4375 w4376 a4378 a4379 ⊢) <;> omega))⟩
                    · refine sw_sh (ci_sh cs11 t_p0 rfl) ?_
                      refine sw_on (sX9_put cs11 t_p0 (by (try simp only [zp, zo, zq] at u3429 xq2 h3430 xq12 h3435 xq14 a3441 u3442 h3443 h3444 h4070 h4351 w4352 w4353 f4354 r4355 r4356 r4357 h4358 h4363 h4364 h4369 ⊢) <;> (try simp only [zz, Int32.reduceToInt, ne_eq] at u3429 xq2 h3430 xq12 h3435 xq14 a3441 u3442 h3443 h3444 h4070 h4351 w4352 w4353 f4354 r4355 r4356 r4357 h4358 h4363 h4364 h4369 ⊢) <;> (try simp (disch := omega) only [zb] at u3429 xq2 h3430 xq12 h3435 xq14 a3441 u3442 h3443 h3444 h4070 h4351 w4352 w4353 f4354 r4355 r4356 r4357 h4358 h4363 h4364 h4369 ⊢) <;> first | omega | ((try simp (disch := omega) only [zb] at u3429 xq2 h3430 xq12 h3435 xq14 a3441 u3442 h3443 h3444 h4070 h4351 w4352 w4353 f4354 r4355 r4356 r4357 h4358 h4363 h4364 h4369 ⊢) <;> omega)) ) ?_
                      intro q30 hqq30
                      obtain ⟨cq30, gq30, xq30⟩ := hqq30
                      have fq30 := fr_trans fs11 gq30 rfl
                      unfold fX9_pair_264
                      refine sw_ite (fun h4380 => ?_) (fun h4380 => ?_)
                      · have w4381 := (gq30.2.2 _ _ t_p0 0 rfl).1
                        have w4382 : mm_I s11 p0 0 = mm_I q2.2 p0 0 := by rw [← es11]; exact rd_k t_p0 tq5 (by decide)
                        have a4384 := zi_and p3 127 (by decide)
                        have a4385 := zi_and p2 8 (by decide)
                        exact sw_some ⟨cq30, fq30, (by (try simp only [zp, zo, zq] at u3429 xq2 h3430 xq12 h3435 xq14 a3441 u3442 h3443 h3444 h4070 h4351 w4352 w4353 f4354 r4355 r4356 r4357 h4358 h4363 h4364 h4369 h4380 w4381 w4382 a4384 a4385 ⊢) <;> (try simp only [zz, Int32.reduceToInt, ne_eq] at u3429 xq2 h3430 xq12 h3435 xq14 a3441 u3442 h3443 h3444 h4070 h4351 w4352 w4353 f4354 r4355 r4356 r4357 h4358 h4363 h4364 h4369 h4380 w4381 w4382 a4384 a4385 ⊢) <;> (try simp (disch := omega) only [zb] at u3429 xq2 h3430 xq12 h3435 xq14 a3441 u3442 h3443 h3444 h4070 h4351 w4352 w4353 f4354 r4355 r4356 r4357 h4358 h4363 h4364 h4369 h4380 w4381 w4382 a4384 a4385 ⊢) <;> first | omega | ((try simp (disch := omega) only [zb] at u3429 xq2 h3430 xq12 h3435 xq14 a3441 u3442 h3443 h3444 h4070 h4351 w4352 w4353 f4354 r4355 r4356 r4357 h4358 h4363 h4364 h4369 h4380 w4381 w4382 a4384 a4385 ⊢) <;> omega))⟩
                      · refine sw_sh (ci_sh cq30 t_p0 rfl) ?_
                        refine sw_on (sX9_put cq30 t_p0 (by (try simp only [zp, zo, zq] at u3429 xq2 h3430 xq12 h3435 xq14 a3441 u3442 h3443 h3444 h4070 h4351 w4352 w4353 f4354 r4355 r4356 r4357 h4358 h4363 h4364 h4369 h4380 ⊢) <;> (try simp only [zz, Int32.reduceToInt, ne_eq] at u3429 xq2 h3430 xq12 h3435 xq14 a3441 u3442 h3443 h3444 h4070 h4351 w4352 w4353 f4354 r4355 r4356 r4357 h4358 h4363 h4364 h4369 h4380 ⊢) <;> (try simp (disch := omega) only [zb] at u3429 xq2 h3430 xq12 h3435 xq14 a3441 u3442 h3443 h3444 h4070 h4351 w4352 w4353 f4354 r4355 r4356 r4357 h4358 h4363 h4364 h4369 h4380 ⊢) <;> first | omega | ((try simp (disch := omega) only [zb] at u3429 xq2 h3430 xq12 h3435 xq14 a3441 u3442 h3443 h3444 h4070 h4351 w4352 w4353 f4354 r4355 r4356 r4357 h4358 h4363 h4364 h4369 h4380 ⊢) <;> omega)) ) ?_
                        intro q28 hqq28
                        obtain ⟨cq28, gq28, xq28⟩ := hqq28
                        have fq28 := fr_trans fq30 gq28 rfl
                        have w4386 := (gq28.2.2 _ _ t_p0 0 rfl).1
                        have w4387 := (gq30.2.2 _ _ t_p0 0 rfl).1
                        have w4388 : mm_I s11 p0 0 = mm_I q2.2 p0 0 := by rw [← es11]; exact rd_k t_p0 tq5 (by decide)
                        have a4390 := zi_and p3 127 (by decide)
                        have a4391 := zi_and p2 8 (by decide)
                        exact sw_some ⟨cq28, fq28, (by (try simp only [zp, zo, zq] at u3429 xq2 h3430 xq12 h3435 xq14 a3441 u3442 h3443 h3444 h4070 h4351 w4352 w4353 f4354 r4355 r4356 r4357 h4358 h4363 h4364 h4369 h4380 w4386 w4387 w4388 a4390 a4391 ⊢) <;> (try simp only [zz, Int32.reduceToInt, ne_eq] at u3429 xq2 h3430 xq12 h3435 xq14 a3441 u3442 h3443 h3444 h4070 h4351 w4352 w4353 f4354 r4355 r4356 r4357 h4358 h4363 h4364 h4369 h4380 w4386 w4387 w4388 a4390 a4391 ⊢) <;> (try simp (disch := omega) only [zb] at u3429 xq2 h3430 xq12 h3435 xq14 a3441 u3442 h3443 h3444 h4070 h4351 w4352 w4353 f4354 r4355 r4356 r4357 h4358 h4363 h4364 h4369 h4380 w4386 w4387 w4388 a4390 a4391 ⊢) <;> first | omega | ((try simp (disch := omega) only [zb] at u3429 xq2 h3430 xq12 h3435 xq14 a3441 u3442 h3443 h3444 h4070 h4351 w4352 w4353 f4354 r4355 r4356 r4357 h4358 h4363 h4364 h4369 h4380 w4386 w4387 w4388 a4390 a4391 ⊢) <;> omega))⟩
                · unfold fX9_pair_250
                  refine sw_ite (fun h4392 => ?_) (fun h4392 => ?_)
                  · unfold fX9_pair_264
                    refine sw_ite (fun h4393 => ?_) (fun h4393 => ?_)
                    · have w4394 : mm_I s11 p0 0 = mm_I q2.2 p0 0 := by rw [← es11]; exact rd_k t_p0 tq5 (by decide)
                      have a4396 := zi_and p3 127 (by decide)
                      have a4397 := zi_and p2 8 (by decide)
                      exact sw_some ⟨cs11, fs11, (by (try simp only [zp, zo, zq] at u3429 xq2 h3430 xq12 h3435 xq14 a3441 u3442 h3443 h3444 h4070 h4351 w4352 w4353 f4354 r4355 r4356 r4357 h4358 h4363 h4392 h4393 w4394 a4396 a4397 ⊢) <;> (try simp only [zz, Int32.reduceToInt, ne_eq] at u3429 xq2 h3430 xq12 h3435 xq14 a3441 u3442 h3443 h3444 h4070 h4351 w4352 w4353 f4354 r4355 r4356 r4357 h4358 h4363 h4392 h4393 w4394 a4396 a4397 ⊢) <;> (try simp (disch := omega) only [zb] at u3429 xq2 h3430 xq12 h3435 xq14 a3441 u3442 h3443 h3444 h4070 h4351 w4352 w4353 f4354 r4355 r4356 r4357 h4358 h4363 h4392 h4393 w4394 a4396 a4397 ⊢) <;> first | omega | ((try simp (disch := omega) only [zb] at u3429 xq2 h3430 xq12 h3435 xq14 a3441 u3442 h3443 h3444 h4070 h4351 w4352 w4353 f4354 r4355 r4356 r4357 h4358 h4363 h4392 h4393 w4394 a4396 a4397 ⊢) <;> omega))⟩
                    · refine sw_sh (ci_sh cs11 t_p0 rfl) ?_
                      refine sw_on (sX9_put cs11 t_p0 (by (try simp only [zp, zo, zq] at u3429 xq2 h3430 xq12 h3435 xq14 a3441 u3442 h3443 h3444 h4070 h4351 w4352 w4353 f4354 r4355 r4356 r4357 h4358 h4363 h4392 h4393 ⊢) <;> (try simp only [zz, Int32.reduceToInt, ne_eq] at u3429 xq2 h3430 xq12 h3435 xq14 a3441 u3442 h3443 h3444 h4070 h4351 w4352 w4353 f4354 r4355 r4356 r4357 h4358 h4363 h4392 h4393 ⊢) <;> (try simp (disch := omega) only [zb] at u3429 xq2 h3430 xq12 h3435 xq14 a3441 u3442 h3443 h3444 h4070 h4351 w4352 w4353 f4354 r4355 r4356 r4357 h4358 h4363 h4392 h4393 ⊢) <;> first | omega | ((try simp (disch := omega) only [zb] at u3429 xq2 h3430 xq12 h3435 xq14 a3441 u3442 h3443 h3444 h4070 h4351 w4352 w4353 f4354 r4355 r4356 r4357 h4358 h4363 h4392 h4393 ⊢) <;> omega)) ) ?_
                      intro q28 hqq28
                      obtain ⟨cq28, gq28, xq28⟩ := hqq28
                      have fq28 := fr_trans fs11 gq28 rfl
                      have w4398 := (gq28.2.2 _ _ t_p0 0 rfl).1
                      have w4399 : mm_I s11 p0 0 = mm_I q2.2 p0 0 := by rw [← es11]; exact rd_k t_p0 tq5 (by decide)
                      have a4401 := zi_and p3 127 (by decide)
                      have a4402 := zi_and p2 8 (by decide)
                      exact sw_some ⟨cq28, fq28, (by (try simp only [zp, zo, zq] at u3429 xq2 h3430 xq12 h3435 xq14 a3441 u3442 h3443 h3444 h4070 h4351 w4352 w4353 f4354 r4355 r4356 r4357 h4358 h4363 h4392 h4393 w4398 w4399 a4401 a4402 ⊢) <;> (try simp only [zz, Int32.reduceToInt, ne_eq] at u3429 xq2 h3430 xq12 h3435 xq14 a3441 u3442 h3443 h3444 h4070 h4351 w4352 w4353 f4354 r4355 r4356 r4357 h4358 h4363 h4392 h4393 w4398 w4399 a4401 a4402 ⊢) <;> (try simp (disch := omega) only [zb] at u3429 xq2 h3430 xq12 h3435 xq14 a3441 u3442 h3443 h3444 h4070 h4351 w4352 w4353 f4354 r4355 r4356 r4357 h4358 h4363 h4392 h4393 w4398 w4399 a4401 a4402 ⊢) <;> first | omega | ((try simp (disch := omega) only [zb] at u3429 xq2 h3430 xq12 h3435 xq14 a3441 u3442 h3443 h3444 h4070 h4351 w4352 w4353 f4354 r4355 r4356 r4357 h4358 h4363 h4392 h4393 w4398 w4399 a4401 a4402 ⊢) <;> omega))⟩
                  · refine sw_sh (ci_sh cs11 t_p0 rfl) ?_
                    refine sw_on (sX9_put cs11 t_p0 (by (try simp only [zp, zo, zq] at u3429 xq2 h3430 xq12 h3435 xq14 a3441 u3442 h3443 h3444 h4070 h4351 w4352 w4353 f4354 r4355 r4356 r4357 h4358 h4363 h4392 ⊢) <;> (try simp only [zz, Int32.reduceToInt, ne_eq] at u3429 xq2 h3430 xq12 h3435 xq14 a3441 u3442 h3443 h3444 h4070 h4351 w4352 w4353 f4354 r4355 r4356 r4357 h4358 h4363 h4392 ⊢) <;> (try simp (disch := omega) only [zb] at u3429 xq2 h3430 xq12 h3435 xq14 a3441 u3442 h3443 h3444 h4070 h4351 w4352 w4353 f4354 r4355 r4356 r4357 h4358 h4363 h4392 ⊢) <;> first | omega | ((try simp (disch := omega) only [zb] at u3429 xq2 h3430 xq12 h3435 xq14 a3441 u3442 h3443 h3444 h4070 h4351 w4352 w4353 f4354 r4355 r4356 r4357 h4358 h4363 h4392 ⊢) <;> omega)) ) ?_
                    intro q30 hqq30
                    obtain ⟨cq30, gq30, xq30⟩ := hqq30
                    have fq30 := fr_trans fs11 gq30 rfl
                    unfold fX9_pair_264
                    refine sw_ite (fun h4403 => ?_) (fun h4403 => ?_)
                    · have w4404 := (gq30.2.2 _ _ t_p0 0 rfl).1
                      have w4405 : mm_I s11 p0 0 = mm_I q2.2 p0 0 := by rw [← es11]; exact rd_k t_p0 tq5 (by decide)
                      have a4407 := zi_and p3 127 (by decide)
                      have a4408 := zi_and p2 8 (by decide)
                      exact sw_some ⟨cq30, fq30, (by (try simp only [zp, zo, zq] at u3429 xq2 h3430 xq12 h3435 xq14 a3441 u3442 h3443 h3444 h4070 h4351 w4352 w4353 f4354 r4355 r4356 r4357 h4358 h4363 h4392 h4403 w4404 w4405 a4407 a4408 ⊢) <;> (try simp only [zz, Int32.reduceToInt, ne_eq] at u3429 xq2 h3430 xq12 h3435 xq14 a3441 u3442 h3443 h3444 h4070 h4351 w4352 w4353 f4354 r4355 r4356 r4357 h4358 h4363 h4392 h4403 w4404 w4405 a4407 a4408 ⊢) <;> (try simp (disch := omega) only [zb] at u3429 xq2 h3430 xq12 h3435 xq14 a3441 u3442 h3443 h3444 h4070 h4351 w4352 w4353 f4354 r4355 r4356 r4357 h4358 h4363 h4392 h4403 w4404 w4405 a4407 a4408 ⊢) <;> first | omega | ((try simp (disch := omega) only [zb] at u3429 xq2 h3430 xq12 h3435 xq14 a3441 u3442 h3443 h3444 h4070 h4351 w4352 w4353 f4354 r4355 r4356 r4357 h4358 h4363 h4392 h4403 w4404 w4405 a4407 a4408 ⊢) <;> omega))⟩
                    · refine sw_sh (ci_sh cq30 t_p0 rfl) ?_
                      refine sw_on (sX9_put cq30 t_p0 (by (try simp only [zp, zo, zq] at u3429 xq2 h3430 xq12 h3435 xq14 a3441 u3442 h3443 h3444 h4070 h4351 w4352 w4353 f4354 r4355 r4356 r4357 h4358 h4363 h4392 h4403 ⊢) <;> (try simp only [zz, Int32.reduceToInt, ne_eq] at u3429 xq2 h3430 xq12 h3435 xq14 a3441 u3442 h3443 h3444 h4070 h4351 w4352 w4353 f4354 r4355 r4356 r4357 h4358 h4363 h4392 h4403 ⊢) <;> (try simp (disch := omega) only [zb] at u3429 xq2 h3430 xq12 h3435 xq14 a3441 u3442 h3443 h3444 h4070 h4351 w4352 w4353 f4354 r4355 r4356 r4357 h4358 h4363 h4392 h4403 ⊢) <;> first | omega | ((try simp (disch := omega) only [zb] at u3429 xq2 h3430 xq12 h3435 xq14 a3441 u3442 h3443 h3444 h4070 h4351 w4352 w4353 f4354 r4355 r4356 r4357 h4358 h4363 h4392 h4403 ⊢) <;> omega)) ) ?_
                      intro q28 hqq28
                      obtain ⟨cq28, gq28, xq28⟩ := hqq28
                      have fq28 := fr_trans fq30 gq28 rfl
                      have w4409 := (gq28.2.2 _ _ t_p0 0 rfl).1
                      have w4410 := (gq30.2.2 _ _ t_p0 0 rfl).1
                      have w4411 : mm_I s11 p0 0 = mm_I q2.2 p0 0 := by rw [← es11]; exact rd_k t_p0 tq5 (by decide)
                      have a4413 := zi_and p3 127 (by decide)
                      have a4414 := zi_and p2 8 (by decide)
                      exact sw_some ⟨cq28, fq28, (by (try simp only [zp, zo, zq] at u3429 xq2 h3430 xq12 h3435 xq14 a3441 u3442 h3443 h3444 h4070 h4351 w4352 w4353 f4354 r4355 r4356 r4357 h4358 h4363 h4392 h4403 w4409 w4410 w4411 a4413 a4414 ⊢) <;> (try simp only [zz, Int32.reduceToInt, ne_eq] at u3429 xq2 h3430 xq12 h3435 xq14 a3441 u3442 h3443 h3444 h4070 h4351 w4352 w4353 f4354 r4355 r4356 r4357 h4358 h4363 h4392 h4403 w4409 w4410 w4411 a4413 a4414 ⊢) <;> (try simp (disch := omega) only [zb] at u3429 xq2 h3430 xq12 h3435 xq14 a3441 u3442 h3443 h3444 h4070 h4351 w4352 w4353 f4354 r4355 r4356 r4357 h4358 h4363 h4392 h4403 w4409 w4410 w4411 a4413 a4414 ⊢) <;> first | omega | ((try simp (disch := omega) only [zb] at u3429 xq2 h3430 xq12 h3435 xq14 a3441 u3442 h3443 h3444 h4070 h4351 w4352 w4353 f4354 r4355 r4356 r4357 h4358 h4363 h4392 h4403 w4409 w4410 w4411 a4413 a4414 ⊢) <;> omega))⟩
            · unfold fX9_pair_198
              refine sw_ite (fun h4415 => ?_) (fun h4415 => ?_)
              · unfold fX9_pair_227
                unfold fX9_pair_228
                have w4416 : mm_I s11 q17 p1.toNatClampNeg = mm_I q2.2 q17 p1.toNatClampNeg := by rw [← es11]; exact rd_k tq17 tq5 (by decide)
                have w4417 := (gq2.2.2 _ _ tq17 p1.toNatClampNeg rfl).1
                have f4418 : mm_I σ0 q17 p1.toNatClampNeg = -1 := hv q17 59 p1.toNatClampNeg tq17 (Or.inr (by decide)) (by (try simp only [zp, zo, zq] at u3429 xq2 h3430 xq12 h3435 xq14 a3441 u3442 h3443 h3444 h4070 h4351 h4415 w4416 w4417 ⊢) <;> (try simp only [zz, Int32.reduceToInt, ne_eq] at u3429 xq2 h3430 xq12 h3435 xq14 a3441 u3442 h3443 h3444 h4070 h4351 h4415 w4416 w4417 ⊢) <;> (try simp (disch := omega) only [zb] at u3429 xq2 h3430 xq12 h3435 xq14 a3441 u3442 h3443 h3444 h4070 h4351 h4415 w4416 w4417 ⊢) <;> first | omega | ((try simp (disch := omega) only [zb] at u3429 xq2 h3430 xq12 h3435 xq14 a3441 u3442 h3443 h3444 h4070 h4351 h4415 w4416 w4417 ⊢) <;> omega))
                have r4419 := ci_rg c0 tq17 p1.toNatClampNeg (lo := (-1)) (hi := 3) rfl
                have r4420 := ci_rg cq2 tq17 p1.toNatClampNeg (lo := (-1)) (hi := 3) rfl
                have r4421 := ci_rg cs11 tq17 p1.toNatClampNeg (lo := (-1)) (hi := 3) rfl
                refine sw_ite (fun h4422 => ?_) (fun h4422 => ?_)
                · have w4423 : mm_I s11 p0 0 = mm_I q2.2 p0 0 := by rw [← es11]; exact rd_k t_p0 tq5 (by decide)
                  have a4425 := zi_and p3 127 (by decide)
                  have a4426 := zi_and p2 8 (by decide)
                  exact sw_some ⟨cs11, fs11, (by (try simp only [zp, zo, zq] at u3429 xq2 h3430 xq12 h3435 xq14 a3441 u3442 h3443 h3444 h4070 h4351 h4415 w4416 w4417 f4418 r4419 r4420 r4421 h4422 w4423 a4425 a4426 ⊢) <;> (try simp only [zz, Int32.reduceToInt, ne_eq] at u3429 xq2 h3430 xq12 h3435 xq14 a3441 u3442 h3443 h3444 h4070 h4351 h4415 w4416 w4417 f4418 r4419 r4420 r4421 h4422 w4423 a4425 a4426 ⊢) <;> (try simp (disch := omega) only [zb] at u3429 xq2 h3430 xq12 h3435 xq14 a3441 u3442 h3443 h3444 h4070 h4351 h4415 w4416 w4417 f4418 r4419 r4420 r4421 h4422 w4423 a4425 a4426 ⊢) <;> first | omega | ((try simp (disch := omega) only [zb] at u3429 xq2 h3430 xq12 h3435 xq14 a3441 u3442 h3443 h3444 h4070 h4351 h4415 w4416 w4417 f4418 r4419 r4420 r4421 h4422 w4423 a4425 a4426 ⊢) <;> omega))⟩
                · refine sw_ite (fun h4427 => ?_) (fun h4427 => ?_)
                  · refine sw_ite (fun h4428 => ?_) (fun h4428 => ?_)
                    · have w4429 : mm_I s11 p0 0 = mm_I q2.2 p0 0 := by rw [← es11]; exact rd_k t_p0 tq5 (by decide)
                      have a4431 := zi_and p3 127 (by decide)
                      have a4432 := zi_and p2 8 (by decide)
                      exact sw_some ⟨cs11, fs11, (by (try simp only [zp, zo, zq] at u3429 xq2 h3430 xq12 h3435 xq14 a3441 u3442 h3443 h3444 h4070 h4351 h4415 w4416 w4417 f4418 r4419 r4420 r4421 h4422 h4427 h4428 w4429 a4431 a4432 ⊢) <;> (try simp only [zz, Int32.reduceToInt, ne_eq] at u3429 xq2 h3430 xq12 h3435 xq14 a3441 u3442 h3443 h3444 h4070 h4351 h4415 w4416 w4417 f4418 r4419 r4420 r4421 h4422 h4427 h4428 w4429 a4431 a4432 ⊢) <;> (try simp (disch := omega) only [zb] at u3429 xq2 h3430 xq12 h3435 xq14 a3441 u3442 h3443 h3444 h4070 h4351 h4415 w4416 w4417 f4418 r4419 r4420 r4421 h4422 h4427 h4428 w4429 a4431 a4432 ⊢) <;> first | omega | ((try simp (disch := omega) only [zb] at u3429 xq2 h3430 xq12 h3435 xq14 a3441 u3442 h3443 h3444 h4070 h4351 h4415 w4416 w4417 f4418 r4419 r4420 r4421 h4422 h4427 h4428 w4429 a4431 a4432 ⊢) <;> omega))⟩
                    · unfold fX9_pair_250
                      refine sw_ite (fun h4433 => ?_) (fun h4433 => ?_)
                      · unfold fX9_pair_264
                        refine sw_ite (fun h4434 => ?_) (fun h4434 => ?_)
                        · have w4435 : mm_I s11 p0 0 = mm_I q2.2 p0 0 := by rw [← es11]; exact rd_k t_p0 tq5 (by decide)
                          have a4437 := zi_and p3 127 (by decide)
                          have a4438 := zi_and p2 8 (by decide)
                          exact sw_some ⟨cs11, fs11, (by (try simp only [zp, zo, zq] at u3429 xq2 h3430 xq12 h3435 xq14 a3441 u3442 h3443 h3444 h4070 h4351 h4415 w4416 w4417 f4418 r4419 r4420 r4421 h4422 h4427 h4428 h4433 h4434 w4435 a4437 a4438 ⊢) <;> (try simp only [zz, Int32.reduceToInt, ne_eq] at u3429 xq2 h3430 xq12 h3435 xq14 a3441 u3442 h3443 h3444 h4070 h4351 h4415 w4416 w4417 f4418 r4419 r4420 r4421 h4422 h4427 h4428 h4433 h4434 w4435 a4437 a4438 ⊢) <;> (try simp (disch := omega) only [zb] at u3429 xq2 h3430 xq12 h3435 xq14 a3441 u3442 h3443 h3444 h4070 h4351 h4415 w4416 w4417 f4418 r4419 r4420 r4421 h4422 h4427 h4428 h4433 h4434 w4435 a4437 a4438 ⊢) <;> first | omega | ((try simp (disch := omega) only [zb] at u3429 xq2 h3430 xq12 h3435 xq14 a3441 u3442 h3443 h3444 h4070 h4351 h4415 w4416 w4417 f4418 r4419 r4420 r4421 h4422 h4427 h4428 h4433 h4434 w4435 a4437 a4438 ⊢) <;> omega))⟩
                        · refine sw_sh (ci_sh cs11 t_p0 rfl) ?_
                          refine sw_on (sX9_put cs11 t_p0 (by (try simp only [zp, zo, zq] at u3429 xq2 h3430 xq12 h3435 xq14 a3441 u3442 h3443 h3444 h4070 h4351 h4415 w4416 w4417 f4418 r4419 r4420 r4421 h4422 h4427 h4428 h4433 h4434 ⊢) <;> (try simp only [zz, Int32.reduceToInt, ne_eq] at u3429 xq2 h3430 xq12 h3435 xq14 a3441 u3442 h3443 h3444 h4070 h4351 h4415 w4416 w4417 f4418 r4419 r4420 r4421 h4422 h4427 h4428 h4433 h4434 ⊢) <;> (try simp (disch := omega) only [zb] at u3429 xq2 h3430 xq12 h3435 xq14 a3441 u3442 h3443 h3444 h4070 h4351 h4415 w4416 w4417 f4418 r4419 r4420 r4421 h4422 h4427 h4428 h4433 h4434 ⊢) <;> first | omega | ((try simp (disch := omega) only [zb] at u3429 xq2 h3430 xq12 h3435 xq14 a3441 u3442 h3443 h3444 h4070 h4351 h4415 w4416 w4417 f4418 r4419 r4420 r4421 h4422 h4427 h4428 h4433 h4434 ⊢) <;> omega)) ) ?_
                          intro q28 hqq28
                          obtain ⟨cq28, gq28, xq28⟩ := hqq28
                          have fq28 := fr_trans fs11 gq28 rfl
                          have w4439 := (gq28.2.2 _ _ t_p0 0 rfl).1
                          have w4440 : mm_I s11 p0 0 = mm_I q2.2 p0 0 := by rw [← es11]; exact rd_k t_p0 tq5 (by decide)
                          have a4442 := zi_and p3 127 (by decide)
                          have a4443 := zi_and p2 8 (by decide)
                          exact sw_some ⟨cq28, fq28, (by (try simp only [zp, zo, zq] at u3429 xq2 h3430 xq12 h3435 xq14 a3441 u3442 h3443 h3444 h4070 h4351 h4415 w4416 w4417 f4418 r4419 r4420 r4421 h4422 h4427 h4428 h4433 h4434 w4439 w4440 a4442 a4443 ⊢) <;> (try simp only [zz, Int32.reduceToInt, ne_eq] at u3429 xq2 h3430 xq12 h3435 xq14 a3441 u3442 h3443 h3444 h4070 h4351 h4415 w4416 w4417 f4418 r4419 r4420 r4421 h4422 h4427 h4428 h4433 h4434 w4439 w4440 a4442 a4443 ⊢) <;> (try simp (disch := omega) only [zb] at u3429 xq2 h3430 xq12 h3435 xq14 a3441 u3442 h3443 h3444 h4070 h4351 h4415 w4416 w4417 f4418 r4419 r4420 r4421 h4422 h4427 h4428 h4433 h4434 w4439 w4440 a4442 a4443 ⊢) <;> first | omega | ((try simp (disch := omega) only [zb] at u3429 xq2 h3430 xq12 h3435 xq14 a3441 u3442 h3443 h3444 h4070 h4351 h4415 w4416 w4417 f4418 r4419 r4420 r4421 h4422 h4427 h4428 h4433 h4434 w4439 w4440 a4442 a4443 ⊢) <;> omega))⟩
                      · refine sw_sh (ci_sh cs11 t_p0 rfl) ?_
                        refine sw_on (sX9_put cs11 t_p0 (by (try simp only [zp, zo, zq] at u3429 xq2 h3430 xq12 h3435 xq14 a3441 u3442 h3443 h3444 h4070 h4351 h4415 w4416 w4417 f4418 r4419 r4420 r4421 h4422 h4427 h4428 h4433 ⊢) <;> (try simp only [zz, Int32.reduceToInt, ne_eq] at u3429 xq2 h3430 xq12 h3435 xq14 a3441 u3442 h3443 h3444 h4070 h4351 h4415 w4416 w4417 f4418 r4419 r4420 r4421 h4422 h4427 h4428 h4433 ⊢) <;> (try simp (disch := omega) only [zb] at u3429 xq2 h3430 xq12 h3435 xq14 a3441 u3442 h3443 h3444 h4070 h4351 h4415 w4416 w4417 f4418 r4419 r4420 r4421 h4422 h4427 h4428 h4433 ⊢) <;> first | omega | ((try simp (disch := omega) only [zb] at u3429 xq2 h3430 xq12 h3435 xq14 a3441 u3442 h3443 h3444 h4070 h4351 h4415 w4416 w4417 f4418 r4419 r4420 r4421 h4422 h4427 h4428 h4433 ⊢) <;> omega)) ) ?_
                        intro q30 hqq30
                        obtain ⟨cq30, gq30, xq30⟩ := hqq30
                        have fq30 := fr_trans fs11 gq30 rfl
                        unfold fX9_pair_264
                        refine sw_ite (fun h4444 => ?_) (fun h4444 => ?_)
                        · have w4445 := (gq30.2.2 _ _ t_p0 0 rfl).1
                          have w4446 : mm_I s11 p0 0 = mm_I q2.2 p0 0 := by rw [← es11]; exact rd_k t_p0 tq5 (by decide)
                          have a4448 := zi_and p3 127 (by decide)
                          have a4449 := zi_and p2 8 (by decide)
                          exact sw_some ⟨cq30, fq30, (by (try simp only [zp, zo, zq] at u3429 xq2 h3430 xq12 h3435 xq14 a3441 u3442 h3443 h3444 h4070 h4351 h4415 w4416 w4417 f4418 r4419 r4420 r4421 h4422 h4427 h4428 h4433 h4444 w4445 w4446 a4448 a4449 ⊢) <;> (try simp only [zz, Int32.reduceToInt, ne_eq] at u3429 xq2 h3430 xq12 h3435 xq14 a3441 u3442 h3443 h3444 h4070 h4351 h4415 w4416 w4417 f4418 r4419 r4420 r4421 h4422 h4427 h4428 h4433 h4444 w4445 w4446 a4448 a4449 ⊢) <;> (try simp (disch := omega) only [zb] at u3429 xq2 h3430 xq12 h3435 xq14 a3441 u3442 h3443 h3444 h4070 h4351 h4415 w4416 w4417 f4418 r4419 r4420 r4421 h4422 h4427 h4428 h4433 h4444 w4445 w4446 a4448 a4449 ⊢) <;> first | omega | ((try simp (disch := omega) only [zb] at u3429 xq2 h3430 xq12 h3435 xq14 a3441 u3442 h3443 h3444 h4070 h4351 h4415 w4416 w4417 f4418 r4419 r4420 r4421 h4422 h4427 h4428 h4433 h4444 w4445 w4446 a4448 a4449 ⊢) <;> omega))⟩
                        · refine sw_sh (ci_sh cq30 t_p0 rfl) ?_
                          refine sw_on (sX9_put cq30 t_p0 (by (try simp only [zp, zo, zq] at u3429 xq2 h3430 xq12 h3435 xq14 a3441 u3442 h3443 h3444 h4070 h4351 h4415 w4416 w4417 f4418 r4419 r4420 r4421 h4422 h4427 h4428 h4433 h4444 ⊢) <;> (try simp only [zz, Int32.reduceToInt, ne_eq] at u3429 xq2 h3430 xq12 h3435 xq14 a3441 u3442 h3443 h3444 h4070 h4351 h4415 w4416 w4417 f4418 r4419 r4420 r4421 h4422 h4427 h4428 h4433 h4444 ⊢) <;> (try simp (disch := omega) only [zb] at u3429 xq2 h3430 xq12 h3435 xq14 a3441 u3442 h3443 h3444 h4070 h4351 h4415 w4416 w4417 f4418 r4419 r4420 r4421 h4422 h4427 h4428 h4433 h4444 ⊢) <;> first | omega | ((try simp (disch := omega) only [zb] at u3429 xq2 h3430 xq12 h3435 xq14 a3441 u3442 h3443 h3444 h4070 h4351 h4415 w4416 w4417 f4418 r4419 r4420 r4421 h4422 h4427 h4428 h4433 h4444 ⊢) <;> omega)) ) ?_
                          intro q28 hqq28
                          obtain ⟨cq28, gq28, xq28⟩ := hqq28
                          have fq28 := fr_trans fq30 gq28 rfl
                          have w4450 := (gq28.2.2 _ _ t_p0 0 rfl).1
                          have w4451 := (gq30.2.2 _ _ t_p0 0 rfl).1
                          have w4452 : mm_I s11 p0 0 = mm_I q2.2 p0 0 := by rw [← es11]; exact rd_k t_p0 tq5 (by decide)
                          have a4454 := zi_and p3 127 (by decide)
                          have a4455 := zi_and p2 8 (by decide)
                          exact sw_some ⟨cq28, fq28, (by (try simp only [zp, zo, zq] at u3429 xq2 h3430 xq12 h3435 xq14 a3441 u3442 h3443 h3444 h4070 h4351 h4415 w4416 w4417 f4418 r4419 r4420 r4421 h4422 h4427 h4428 h4433 h4444 w4450 w4451 w4452 a4454 a4455 ⊢) <;> (try simp only [zz, Int32.reduceToInt, ne_eq] at u3429 xq2 h3430 xq12 h3435 xq14 a3441 u3442 h3443 h3444 h4070 h4351 h4415 w4416 w4417 f4418 r4419 r4420 r4421 h4422 h4427 h4428 h4433 h4444 w4450 w4451 w4452 a4454 a4455 ⊢) <;> (try simp (disch := omega) only [zb] at u3429 xq2 h3430 xq12 h3435 xq14 a3441 u3442 h3443 h3444 h4070 h4351 h4415 w4416 w4417 f4418 r4419 r4420 r4421 h4422 h4427 h4428 h4433 h4444 w4450 w4451 w4452 a4454 a4455 ⊢) <;> first | omega | ((try simp (disch := omega) only [zb] at u3429 xq2 h3430 xq12 h3435 xq14 a3441 u3442 h3443 h3444 h4070 h4351 h4415 w4416 w4417 f4418 r4419 r4420 r4421 h4422 h4427 h4428 h4433 h4444 w4450 w4451 w4452 a4454 a4455 ⊢) <;> omega))⟩
                  · unfold fX9_pair_250
                    refine sw_ite (fun h4456 => ?_) (fun h4456 => ?_)
                    · unfold fX9_pair_264
                      refine sw_ite (fun h4457 => ?_) (fun h4457 => ?_)
                      · have w4458 : mm_I s11 p0 0 = mm_I q2.2 p0 0 := by rw [← es11]; exact rd_k t_p0 tq5 (by decide)
                        have a4460 := zi_and p3 127 (by decide)
                        have a4461 := zi_and p2 8 (by decide)
                        exact sw_some ⟨cs11, fs11, (by (try simp only [zp, zo, zq] at u3429 xq2 h3430 xq12 h3435 xq14 a3441 u3442 h3443 h3444 h4070 h4351 h4415 w4416 w4417 f4418 r4419 r4420 r4421 h4422 h4427 h4456 h4457 w4458 a4460 a4461 ⊢) <;> (try simp only [zz, Int32.reduceToInt, ne_eq] at u3429 xq2 h3430 xq12 h3435 xq14 a3441 u3442 h3443 h3444 h4070 h4351 h4415 w4416 w4417 f4418 r4419 r4420 r4421 h4422 h4427 h4456 h4457 w4458 a4460 a4461 ⊢) <;> (try simp (disch := omega) only [zb] at u3429 xq2 h3430 xq12 h3435 xq14 a3441 u3442 h3443 h3444 h4070 h4351 h4415 w4416 w4417 f4418 r4419 r4420 r4421 h4422 h4427 h4456 h4457 w4458 a4460 a4461 ⊢) <;> first | omega | ((try simp (disch := omega) only [zb] at u3429 xq2 h3430 xq12 h3435 xq14 a3441 u3442 h3443 h3444 h4070 h4351 h4415 w4416 w4417 f4418 r4419 r4420 r4421 h4422 h4427 h4456 h4457 w4458 a4460 a4461 ⊢) <;> omega))⟩
                      · refine sw_sh (ci_sh cs11 t_p0 rfl) ?_
                        refine sw_on (sX9_put cs11 t_p0 (by (try simp only [zp, zo, zq] at u3429 xq2 h3430 xq12 h3435 xq14 a3441 u3442 h3443 h3444 h4070 h4351 h4415 w4416 w4417 f4418 r4419 r4420 r4421 h4422 h4427 h4456 h4457 ⊢) <;> (try simp only [zz, Int32.reduceToInt, ne_eq] at u3429 xq2 h3430 xq12 h3435 xq14 a3441 u3442 h3443 h3444 h4070 h4351 h4415 w4416 w4417 f4418 r4419 r4420 r4421 h4422 h4427 h4456 h4457 ⊢) <;> (try simp (disch := omega) only [zb] at u3429 xq2 h3430 xq12 h3435 xq14 a3441 u3442 h3443 h3444 h4070 h4351 h4415 w4416 w4417 f4418 r4419 r4420 r4421 h4422 h4427 h4456 h4457 ⊢) <;> first | omega | ((try simp (disch := omega) only [zb] at u3429 xq2 h3430 xq12 h3435 xq14 a3441 u3442 h3443 h3444 h4070 h4351 h4415 w4416 w4417 f4418 r4419 r4420 r4421 h4422 h4427 h4456 h4457 ⊢) <;> omega)) ) ?_
                        intro q28 hqq28
                        obtain ⟨cq28, gq28, xq28⟩ := hqq28
                        have fq28 := fr_trans fs11 gq28 rfl
                        have w4462 := (gq28.2.2 _ _ t_p0 0 rfl).1
                        have w4463 : mm_I s11 p0 0 = mm_I q2.2 p0 0 := by rw [← es11]; exact rd_k t_p0 tq5 (by decide)
                        have a4465 := zi_and p3 127 (by decide)
                        have a4466 := zi_and p2 8 (by decide)
                        exact sw_some ⟨cq28, fq28, (by (try simp only [zp, zo, zq] at u3429 xq2 h3430 xq12 h3435 xq14 a3441 u3442 h3443 h3444 h4070 h4351 h4415 w4416 w4417 f4418 r4419 r4420 r4421 h4422 h4427 h4456 h4457 w4462 w4463 a4465 a4466 ⊢) <;> (try simp only [zz, Int32.reduceToInt, ne_eq] at u3429 xq2 h3430 xq12 h3435 xq14 a3441 u3442 h3443 h3444 h4070 h4351 h4415 w4416 w4417 f4418 r4419 r4420 r4421 h4422 h4427 h4456 h4457 w4462 w4463 a4465 a4466 ⊢) <;> (try simp (disch := omega) only [zb] at u3429 xq2 h3430 xq12 h3435 xq14 a3441 u3442 h3443 h3444 h4070 h4351 h4415 w4416 w4417 f4418 r4419 r4420 r4421 h4422 h4427 h4456 h4457 w4462 w4463 a4465 a4466 ⊢) <;> first | omega | ((try simp (disch := omega) only [zb] at u3429 xq2 h3430 xq12 h3435 xq14 a3441 u3442 h3443 h3444 h4070 h4351 h4415 w4416 w4417 f4418 r4419 r4420 r4421 h4422 h4427 h4456 h4457 w4462 w4463 a4465 a4466 ⊢) <;> omega))⟩
                    · refine sw_sh (ci_sh cs11 t_p0 rfl) ?_
                      refine sw_on (sX9_put cs11 t_p0 (by (try simp only [zp, zo, zq] at u3429 xq2 h3430 xq12 h3435 xq14 a3441 u3442 h3443 h3444 h4070 h4351 h4415 w4416 w4417 f4418 r4419 r4420 r4421 h4422 h4427 h4456 ⊢) <;> (try simp only [zz, Int32.reduceToInt, ne_eq] at u3429 xq2 h3430 xq12 h3435 xq14 a3441 u3442 h3443 h3444 h4070 h4351 h4415 w4416 w4417 f4418 r4419 r4420 r4421 h4422 h4427 h4456 ⊢) <;> (try simp (disch := omega) only [zb] at u3429 xq2 h3430 xq12 h3435 xq14 a3441 u3442 h3443 h3444 h4070 h4351 h4415 w4416 w4417 f4418 r4419 r4420 r4421 h4422 h4427 h4456 ⊢) <;> first | omega | ((try simp (disch := omega) only [zb] at u3429 xq2 h3430 xq12 h3435 xq14 a3441 u3442 h3443 h3444 h4070 h4351 h4415 w4416 w4417 f4418 r4419 r4420 r4421 h4422 h4427 h4456 ⊢) <;> omega)) ) ?_
                      intro q30 hqq30
                      obtain ⟨cq30, gq30, xq30⟩ := hqq30
                      have fq30 := fr_trans fs11 gq30 rfl
                      unfold fX9_pair_264
                      refine sw_ite (fun h4467 => ?_) (fun h4467 => ?_)
                      · have w4468 := (gq30.2.2 _ _ t_p0 0 rfl).1
                        have w4469 : mm_I s11 p0 0 = mm_I q2.2 p0 0 := by rw [← es11]; exact rd_k t_p0 tq5 (by decide)
                        have a4471 := zi_and p3 127 (by decide)
                        have a4472 := zi_and p2 8 (by decide)
                        exact sw_some ⟨cq30, fq30, (by (try simp only [zp, zo, zq] at u3429 xq2 h3430 xq12 h3435 xq14 a3441 u3442 h3443 h3444 h4070 h4351 h4415 w4416 w4417 f4418 r4419 r4420 r4421 h4422 h4427 h4456 h4467 w4468 w4469 a4471 a4472 ⊢) <;> (try simp only [zz, Int32.reduceToInt, ne_eq] at u3429 xq2 h3430 xq12 h3435 xq14 a3441 u3442 h3443 h3444 h4070 h4351 h4415 w4416 w4417 f4418 r4419 r4420 r4421 h4422 h4427 h4456 h4467 w4468 w4469 a4471 a4472 ⊢) <;> (try simp (disch := omega) only [zb] at u3429 xq2 h3430 xq12 h3435 xq14 a3441 u3442 h3443 h3444 h4070 h4351 h4415 w4416 w4417 f4418 r4419 r4420 r4421 h4422 h4427 h4456 h4467 w4468 w4469 a4471 a4472 ⊢) <;> first | omega | ((try simp (disch := omega) only [zb] at u3429 xq2 h3430 xq12 h3435 xq14 a3441 u3442 h3443 h3444 h4070 h4351 h4415 w4416 w4417 f4418 r4419 r4420 r4421 h4422 h4427 h4456 h4467 w4468 w4469 a4471 a4472 ⊢) <;> omega))⟩
                      · refine sw_sh (ci_sh cq30 t_p0 rfl) ?_
                        refine sw_on (sX9_put cq30 t_p0 (by (try simp only [zp, zo, zq] at u3429 xq2 h3430 xq12 h3435 xq14 a3441 u3442 h3443 h3444 h4070 h4351 h4415 w4416 w4417 f4418 r4419 r4420 r4421 h4422 h4427 h4456 h4467 ⊢) <;> (try simp only [zz, Int32.reduceToInt, ne_eq] at u3429 xq2 h3430 xq12 h3435 xq14 a3441 u3442 h3443 h3444 h4070 h4351 h4415 w4416 w4417 f4418 r4419 r4420 r4421 h4422 h4427 h4456 h4467 ⊢) <;> (try simp (disch := omega) only [zb] at u3429 xq2 h3430 xq12 h3435 xq14 a3441 u3442 h3443 h3444 h4070 h4351 h4415 w4416 w4417 f4418 r4419 r4420 r4421 h4422 h4427 h4456 h4467 ⊢) <;> first | omega | ((try simp (disch := omega) only [zb] at u3429 xq2 h3430 xq12 h3435 xq14 a3441 u3442 h3443 h3444 h4070 h4351 h4415 w4416 w4417 f4418 r4419 r4420 r4421 h4422 h4427 h4456 h4467 ⊢) <;> omega)) ) ?_
                        intro q28 hqq28
                        obtain ⟨cq28, gq28, xq28⟩ := hqq28
                        have fq28 := fr_trans fq30 gq28 rfl
                        have w4473 := (gq28.2.2 _ _ t_p0 0 rfl).1
                        have w4474 := (gq30.2.2 _ _ t_p0 0 rfl).1
                        have w4475 : mm_I s11 p0 0 = mm_I q2.2 p0 0 := by rw [← es11]; exact rd_k t_p0 tq5 (by decide)
                        have a4477 := zi_and p3 127 (by decide)
                        have a4478 := zi_and p2 8 (by decide)
                        exact sw_some ⟨cq28, fq28, (by (try simp only [zp, zo, zq] at u3429 xq2 h3430 xq12 h3435 xq14 a3441 u3442 h3443 h3444 h4070 h4351 h4415 w4416 w4417 f4418 r4419 r4420 r4421 h4422 h4427 h4456 h4467 w4473 w4474 w4475 a4477 a4478 ⊢) <;> (try simp only [zz, Int32.reduceToInt, ne_eq] at u3429 xq2 h3430 xq12 h3435 xq14 a3441 u3442 h3443 h3444 h4070 h4351 h4415 w4416 w4417 f4418 r4419 r4420 r4421 h4422 h4427 h4456 h4467 w4473 w4474 w4475 a4477 a4478 ⊢) <;> (try simp (disch := omega) only [zb] at u3429 xq2 h3430 xq12 h3435 xq14 a3441 u3442 h3443 h3444 h4070 h4351 h4415 w4416 w4417 f4418 r4419 r4420 r4421 h4422 h4427 h4456 h4467 w4473 w4474 w4475 a4477 a4478 ⊢) <;> first | omega | ((try simp (disch := omega) only [zb] at u3429 xq2 h3430 xq12 h3435 xq14 a3441 u3442 h3443 h3444 h4070 h4351 h4415 w4416 w4417 f4418 r4419 r4420 r4421 h4422 h4427 h4456 h4467 w4473 w4474 w4475 a4477 a4478 ⊢) <;> omega))⟩
              · have a4479 := zi_and p3 127 (by decide)
                refine sw_ite (fun h4480 => ?_) (fun h4480 => ?_)
                · unfold fX9_pair_227
                  unfold fX9_pair_228
                  have w4481 : mm_I s11 q17 p1.toNatClampNeg = mm_I q2.2 q17 p1.toNatClampNeg := by rw [← es11]; exact rd_k tq17 tq5 (by decide)
                  have w4482 := (gq2.2.2 _ _ tq17 p1.toNatClampNeg rfl).1
                  have f4483 : mm_I σ0 q17 p1.toNatClampNeg = -1 := hv q17 59 p1.toNatClampNeg tq17 (Or.inr (by decide)) (by (try simp only [zp, zo, zq] at u3429 xq2 h3430 xq12 h3435 xq14 a3441 u3442 h3443 h3444 h4070 h4351 h4415 a4479 h4480 w4481 w4482 ⊢) <;> (try simp only [zz, Int32.reduceToInt, ne_eq] at u3429 xq2 h3430 xq12 h3435 xq14 a3441 u3442 h3443 h3444 h4070 h4351 h4415 a4479 h4480 w4481 w4482 ⊢) <;> (try simp (disch := omega) only [zb] at u3429 xq2 h3430 xq12 h3435 xq14 a3441 u3442 h3443 h3444 h4070 h4351 h4415 a4479 h4480 w4481 w4482 ⊢) <;> first | omega | ((try simp (disch := omega) only [zb] at u3429 xq2 h3430 xq12 h3435 xq14 a3441 u3442 h3443 h3444 h4070 h4351 h4415 a4479 h4480 w4481 w4482 ⊢) <;> omega))
                  have r4484 := ci_rg c0 tq17 p1.toNatClampNeg (lo := (-1)) (hi := 3) rfl
                  have r4485 := ci_rg cq2 tq17 p1.toNatClampNeg (lo := (-1)) (hi := 3) rfl
                  have r4486 := ci_rg cs11 tq17 p1.toNatClampNeg (lo := (-1)) (hi := 3) rfl
                  refine sw_ite (fun h4487 => ?_) (fun h4487 => ?_)
                  · have w4488 : mm_I s11 p0 0 = mm_I q2.2 p0 0 := by rw [← es11]; exact rd_k t_p0 tq5 (by decide)
                    have a4490 := zi_and p2 8 (by decide)
                    exact sw_some ⟨cs11, fs11, (by (try simp only [zp, zo, zq] at u3429 xq2 h3430 xq12 h3435 xq14 a3441 u3442 h3443 h3444 h4070 h4351 h4415 a4479 h4480 w4481 w4482 f4483 r4484 r4485 r4486 h4487 w4488 a4490 ⊢) <;> (try simp only [zz, Int32.reduceToInt, ne_eq] at u3429 xq2 h3430 xq12 h3435 xq14 a3441 u3442 h3443 h3444 h4070 h4351 h4415 a4479 h4480 w4481 w4482 f4483 r4484 r4485 r4486 h4487 w4488 a4490 ⊢) <;> (try simp (disch := omega) only [zb] at u3429 xq2 h3430 xq12 h3435 xq14 a3441 u3442 h3443 h3444 h4070 h4351 h4415 a4479 h4480 w4481 w4482 f4483 r4484 r4485 r4486 h4487 w4488 a4490 ⊢) <;> first | omega | ((try simp (disch := omega) only [zb] at u3429 xq2 h3430 xq12 h3435 xq14 a3441 u3442 h3443 h3444 h4070 h4351 h4415 a4479 h4480 w4481 w4482 f4483 r4484 r4485 r4486 h4487 w4488 a4490 ⊢) <;> omega))⟩
                  · refine sw_ite (fun h4491 => ?_) (fun h4491 => ?_)
                    · refine sw_ite (fun h4492 => ?_) (fun h4492 => ?_)
                      · have w4493 : mm_I s11 p0 0 = mm_I q2.2 p0 0 := by rw [← es11]; exact rd_k t_p0 tq5 (by decide)
                        have a4495 := zi_and p2 8 (by decide)
                        exact sw_some ⟨cs11, fs11, (by (try simp only [zp, zo, zq] at u3429 xq2 h3430 xq12 h3435 xq14 a3441 u3442 h3443 h3444 h4070 h4351 h4415 a4479 h4480 w4481 w4482 f4483 r4484 r4485 r4486 h4487 h4491 h4492 w4493 a4495 ⊢) <;> (try simp only [zz, Int32.reduceToInt, ne_eq] at u3429 xq2 h3430 xq12 h3435 xq14 a3441 u3442 h3443 h3444 h4070 h4351 h4415 a4479 h4480 w4481 w4482 f4483 r4484 r4485 r4486 h4487 h4491 h4492 w4493 a4495 ⊢) <;> (try simp (disch := omega) only [zb] at u3429 xq2 h3430 xq12 h3435 xq14 a3441 u3442 h3443 h3444 h4070 h4351 h4415 a4479 h4480 w4481 w4482 f4483 r4484 r4485 r4486 h4487 h4491 h4492 w4493 a4495 ⊢) <;> first | omega | ((try simp (disch := omega) only [zb] at u3429 xq2 h3430 xq12 h3435 xq14 a3441 u3442 h3443 h3444 h4070 h4351 h4415 a4479 h4480 w4481 w4482 f4483 r4484 r4485 r4486 h4487 h4491 h4492 w4493 a4495 ⊢) <;> omega))⟩
                      · unfold fX9_pair_250
                        refine sw_ite (fun h4496 => ?_) (fun h4496 => ?_)
                        · unfold fX9_pair_264
                          refine sw_ite (fun h4497 => ?_) (fun h4497 => ?_)
                          · have w4498 : mm_I s11 p0 0 = mm_I q2.2 p0 0 := by rw [← es11]; exact rd_k t_p0 tq5 (by decide)
                            have a4500 := zi_and p2 8 (by decide)
                            exact sw_some ⟨cs11, fs11, (by (try simp only [zp, zo, zq] at u3429 xq2 h3430 xq12 h3435 xq14 a3441 u3442 h3443 h3444 h4070 h4351 h4415 a4479 h4480 w4481 w4482 f4483 r4484 r4485 r4486 h4487 h4491 h4492 h4496 h4497 w4498 a4500 ⊢) <;> (try simp only [zz, Int32.reduceToInt, ne_eq] at u3429 xq2 h3430 xq12 h3435 xq14 a3441 u3442 h3443 h3444 h4070 h4351 h4415 a4479 h4480 w4481 w4482 f4483 r4484 r4485 r4486 h4487 h4491 h4492 h4496 h4497 w4498 a4500 ⊢) <;> (try simp (disch := omega) only [zb] at u3429 xq2 h3430 xq12 h3435 xq14 a3441 u3442 h3443 h3444 h4070 h4351 h4415 a4479 h4480 w4481 w4482 f4483 r4484 r4485 r4486 h4487 h4491 h4492 h4496 h4497 w4498 a4500 ⊢) <;> first | omega | ((try simp (disch := omega) only [zb] at u3429 xq2 h3430 xq12 h3435 xq14 a3441 u3442 h3443 h3444 h4070 h4351 h4415 a4479 h4480 w4481 w4482 f4483 r4484 r4485 r4486 h4487 h4491 h4492 h4496 h4497 w4498 a4500 ⊢) <;> omega))⟩
                          · refine sw_sh (ci_sh cs11 t_p0 rfl) ?_
                            refine sw_on (sX9_put cs11 t_p0 (by (try simp only [zp, zo, zq] at u3429 xq2 h3430 xq12 h3435 xq14 a3441 u3442 h3443 h3444 h4070 h4351 h4415 a4479 h4480 w4481 w4482 f4483 r4484 r4485 r4486 h4487 h4491 h4492 h4496 h4497 ⊢) <;> (try simp only [zz, Int32.reduceToInt, ne_eq] at u3429 xq2 h3430 xq12 h3435 xq14 a3441 u3442 h3443 h3444 h4070 h4351 h4415 a4479 h4480 w4481 w4482 f4483 r4484 r4485 r4486 h4487 h4491 h4492 h4496 h4497 ⊢) <;> (try simp (disch := omega) only [zb] at u3429 xq2 h3430 xq12 h3435 xq14 a3441 u3442 h3443 h3444 h4070 h4351 h4415 a4479 h4480 w4481 w4482 f4483 r4484 r4485 r4486 h4487 h4491 h4492 h4496 h4497 ⊢) <;> first | omega | ((try simp (disch := omega) only [zb] at u3429 xq2 h3430 xq12 h3435 xq14 a3441 u3442 h3443 h3444 h4070 h4351 h4415 a4479 h4480 w4481 w4482 f4483 r4484 r4485 r4486 h4487 h4491 h4492 h4496 h4497 ⊢) <;> omega)) ) ?_
                            intro q28 hqq28
                            obtain ⟨cq28, gq28, xq28⟩ := hqq28
                            have fq28 := fr_trans fs11 gq28 rfl
                            have w4501 := (gq28.2.2 _ _ t_p0 0 rfl).1
                            have w4502 : mm_I s11 p0 0 = mm_I q2.2 p0 0 := by rw [← es11]; exact rd_k t_p0 tq5 (by decide)
                            have a4504 := zi_and p2 8 (by decide)
                            exact sw_some ⟨cq28, fq28, (by (try simp only [zp, zo, zq] at u3429 xq2 h3430 xq12 h3435 xq14 a3441 u3442 h3443 h3444 h4070 h4351 h4415 a4479 h4480 w4481 w4482 f4483 r4484 r4485 r4486 h4487 h4491 h4492 h4496 h4497 w4501 w4502 a4504 ⊢) <;> (try simp only [zz, Int32.reduceToInt, ne_eq] at u3429 xq2 h3430 xq12 h3435 xq14 a3441 u3442 h3443 h3444 h4070 h4351 h4415 a4479 h4480 w4481 w4482 f4483 r4484 r4485 r4486 h4487 h4491 h4492 h4496 h4497 w4501 w4502 a4504 ⊢) <;> (try simp (disch := omega) only [zb] at u3429 xq2 h3430 xq12 h3435 xq14 a3441 u3442 h3443 h3444 h4070 h4351 h4415 a4479 h4480 w4481 w4482 f4483 r4484 r4485 r4486 h4487 h4491 h4492 h4496 h4497 w4501 w4502 a4504 ⊢) <;> first | omega | ((try simp (disch := omega) only [zb] at u3429 xq2 h3430 xq12 h3435 xq14 a3441 u3442 h3443 h3444 h4070 h4351 h4415 a4479 h4480 w4481 w4482 f4483 r4484 r4485 r4486 h4487 h4491 h4492 h4496 h4497 w4501 w4502 a4504 ⊢) <;> omega))⟩
                        · refine sw_sh (ci_sh cs11 t_p0 rfl) ?_
                          refine sw_on (sX9_put cs11 t_p0 (by (try simp only [zp, zo, zq] at u3429 xq2 h3430 xq12 h3435 xq14 a3441 u3442 h3443 h3444 h4070 h4351 h4415 a4479 h4480 w4481 w4482 f4483 r4484 r4485 r4486 h4487 h4491 h4492 h4496 ⊢) <;> (try simp only [zz, Int32.reduceToInt, ne_eq] at u3429 xq2 h3430 xq12 h3435 xq14 a3441 u3442 h3443 h3444 h4070 h4351 h4415 a4479 h4480 w4481 w4482 f4483 r4484 r4485 r4486 h4487 h4491 h4492 h4496 ⊢) <;> (try simp (disch := omega) only [zb] at u3429 xq2 h3430 xq12 h3435 xq14 a3441 u3442 h3443 h3444 h4070 h4351 h4415 a4479 h4480 w4481 w4482 f4483 r4484 r4485 r4486 h4487 h4491 h4492 h4496 ⊢) <;> first | omega | ((try simp (disch := omega) only [zb] at u3429 xq2 h3430 xq12 h3435 xq14 a3441 u3442 h3443 h3444 h4070 h4351 h4415 a4479 h4480 w4481 w4482 f4483 r4484 r4485 r4486 h4487 h4491 h4492 h4496 ⊢) <;> omega)) ) ?_
                          intro q30 hqq30
                          obtain ⟨cq30, gq30, xq30⟩ := hqq30
                          have fq30 := fr_trans fs11 gq30 rfl
                          unfold fX9_pair_264
                          refine sw_ite (fun h4505 => ?_) (fun h4505 => ?_)
                          · have w4506 := (gq30.2.2 _ _ t_p0 0 rfl).1
                            have w4507 : mm_I s11 p0 0 = mm_I q2.2 p0 0 := by rw [← es11]; exact rd_k t_p0 tq5 (by decide)
                            have a4509 := zi_and p2 8 (by decide)
                            exact sw_some ⟨cq30, fq30, (by (try simp only [zp, zo, zq] at u3429 xq2 h3430 xq12 h3435 xq14 a3441 u3442 h3443 h3444 h4070 h4351 h4415 a4479 h4480 w4481 w4482 f4483 r4484 r4485 r4486 h4487 h4491 h4492 h4496 h4505 w4506 w4507 a4509 ⊢) <;> (try simp only [zz, Int32.reduceToInt, ne_eq] at u3429 xq2 h3430 xq12 h3435 xq14 a3441 u3442 h3443 h3444 h4070 h4351 h4415 a4479 h4480 w4481 w4482 f4483 r4484 r4485 r4486 h4487 h4491 h4492 h4496 h4505 w4506 w4507 a4509 ⊢) <;> (try simp (disch := omega) only [zb] at u3429 xq2 h3430 xq12 h3435 xq14 a3441 u3442 h3443 h3444 h4070 h4351 h4415 a4479 h4480 w4481 w4482 f4483 r4484 r4485 r4486 h4487 h4491 h4492 h4496 h4505 w4506 w4507 a4509 ⊢) <;> first | omega | ((try simp (disch := omega) only [zb] at u3429 xq2 h3430 xq12 h3435 xq14 a3441 u3442 h3443 h3444 h4070 h4351 h4415 a4479 h4480 w4481 w4482 f4483 r4484 r4485 r4486 h4487 h4491 h4492 h4496 h4505 w4506 w4507 a4509 ⊢) <;> omega))⟩
                          · refine sw_sh (ci_sh cq30 t_p0 rfl) ?_
                            refine sw_on (sX9_put cq30 t_p0 (by (try simp only [zp, zo, zq] at u3429 xq2 h3430 xq12 h3435 xq14 a3441 u3442 h3443 h3444 h4070 h4351 h4415 a4479 h4480 w4481 w4482 f4483 r4484 r4485 r4486 h4487 h4491 h4492 h4496 h4505 ⊢) <;> (try simp only [zz, Int32.reduceToInt, ne_eq] at u3429 xq2 h3430 xq12 h3435 xq14 a3441 u3442 h3443 h3444 h4070 h4351 h4415 a4479 h4480 w4481 w4482 f4483 r4484 r4485 r4486 h4487 h4491 h4492 h4496 h4505 ⊢) <;> (try simp (disch := omega) only [zb] at u3429 xq2 h3430 xq12 h3435 xq14 a3441 u3442 h3443 h3444 h4070 h4351 h4415 a4479 h4480 w4481 w4482 f4483 r4484 r4485 r4486 h4487 h4491 h4492 h4496 h4505 ⊢) <;> first | omega | ((try simp (disch := omega) only [zb] at u3429 xq2 h3430 xq12 h3435 xq14 a3441 u3442 h3443 h3444 h4070 h4351 h4415 a4479 h4480 w4481 w4482 f4483 r4484 r4485 r4486 h4487 h4491 h4492 h4496 h4505 ⊢) <;> omega)) ) ?_
                            intro q28 hqq28
                            obtain ⟨cq28, gq28, xq28⟩ := hqq28
                            have fq28 := fr_trans fq30 gq28 rfl
                            have w4510 := (gq28.2.2 _ _ t_p0 0 rfl).1
                            have w4511 := (gq30.2.2 _ _ t_p0 0 rfl).1
                            have w4512 : mm_I s11 p0 0 = mm_I q2.2 p0 0 := by rw [← es11]; exact rd_k t_p0 tq5 (by decide)
                            have a4514 := zi_and p2 8 (by decide)
                            exact sw_some ⟨cq28, fq28, (by (try simp only [zp, zo, zq] at u3429 xq2 h3430 xq12 h3435 xq14 a3441 u3442 h3443 h3444 h4070 h4351 h4415 a4479 h4480 w4481 w4482 f4483 r4484 r4485 r4486 h4487 h4491 h4492 h4496 h4505 w4510 w4511 w4512 a4514 ⊢) <;> (try simp only [zz, Int32.reduceToInt, ne_eq] at u3429 xq2 h3430 xq12 h3435 xq14 a3441 u3442 h3443 h3444 h4070 h4351 h4415 a4479 h4480 w4481 w4482 f4483 r4484 r4485 r4486 h4487 h4491 h4492 h4496 h4505 w4510 w4511 w4512 a4514 ⊢) <;> (try simp (disch := omega) only [zb] at u3429 xq2 h3430 xq12 h3435 xq14 a3441 u3442 h3443 h3444 h4070 h4351 h4415 a4479 h4480 w4481 w4482 f4483 r4484 r4485 r4486 h4487 h4491 h4492 h4496 h4505 w4510 w4511 w4512 a4514 ⊢) <;> first | omega | ((try simp (disch := omega) only [zb] at u3429 xq2 h3430 xq12 h3435 xq14 a3441 u3442 h3443 h3444 h4070 h4351 h4415 a4479 h4480 w4481 w4482 f4483 r4484 r4485 r4486 h4487 h4491 h4492 h4496 h4505 w4510 w4511 w4512 a4514 ⊢) <;> omega))⟩
                    · unfold fX9_pair_250
                      refine sw_ite (fun h4515 => ?_) (fun h4515 => ?_)
                      · unfold fX9_pair_264
                        refine sw_ite (fun h4516 => ?_) (fun h4516 => ?_)
                        · have w4517 : mm_I s11 p0 0 = mm_I q2.2 p0 0 := by rw [← es11]; exact rd_k t_p0 tq5 (by decide)
                          have a4519 := zi_and p2 8 (by decide)
                          exact sw_some ⟨cs11, fs11, (by (try simp only [zp, zo, zq] at u3429 xq2 h3430 xq12 h3435 xq14 a3441 u3442 h3443 h3444 h4070 h4351 h4415 a4479 h4480 w4481 w4482 f4483 r4484 r4485 r4486 h4487 h4491 h4515 h4516 w4517 a4519 ⊢) <;> (try simp only [zz, Int32.reduceToInt, ne_eq] at u3429 xq2 h3430 xq12 h3435 xq14 a3441 u3442 h3443 h3444 h4070 h4351 h4415 a4479 h4480 w4481 w4482 f4483 r4484 r4485 r4486 h4487 h4491 h4515 h4516 w4517 a4519 ⊢) <;> (try simp (disch := omega) only [zb] at u3429 xq2 h3430 xq12 h3435 xq14 a3441 u3442 h3443 h3444 h4070 h4351 h4415 a4479 h4480 w4481 w4482 f4483 r4484 r4485 r4486 h4487 h4491 h4515 h4516 w4517 a4519 ⊢) <;> first | omega | ((try simp (disch := omega) only [zb] at u3429 xq2 h3430 xq12 h3435 xq14 a3441 u3442 h3443 h3444 h4070 h4351 h4415 a4479 h4480 w4481 w4482 f4483 r4484 r4485 r4486 h4487 h4491 h4515 h4516 w4517 a4519 ⊢) <;> omega))⟩
                        · refine sw_sh (ci_sh cs11 t_p0 rfl) ?_
                          refine sw_on (sX9_put cs11 t_p0 (by (try simp only [zp, zo, zq] at u3429 xq2 h3430 xq12 h3435 xq14 a3441 u3442 h3443 h3444 h4070 h4351 h4415 a4479 h4480 w4481 w4482 f4483 r4484 r4485 r4486 h4487 h4491 h4515 h4516 ⊢) <;> (try simp only [zz, Int32.reduceToInt, ne_eq] at u3429 xq2 h3430 xq12 h3435 xq14 a3441 u3442 h3443 h3444 h4070 h4351 h4415 a4479 h4480 w4481 w4482 f4483 r4484 r4485 r4486 h4487 h4491 h4515 h4516 ⊢) <;> (try simp (disch := omega) only [zb] at u3429 xq2 h3430 xq12 h3435 xq14 a3441 u3442 h3443 h3444 h4070 h4351 h4415 a4479 h4480 w4481 w4482 f4483 r4484 r4485 r4486 h4487 h4491 h4515 h4516 ⊢) <;> first | omega | ((try simp (disch := omega) only [zb] at u3429 xq2 h3430 xq12 h3435 xq14 a3441 u3442 h3443 h3444 h4070 h4351 h4415 a4479 h4480 w4481 w4482 f4483 r4484 r4485 r4486 h4487 h4491 h4515 h4516 ⊢) <;> omega)) ) ?_
                          intro q28 hqq28
                          obtain ⟨cq28, gq28, xq28⟩ := hqq28
                          have fq28 := fr_trans fs11 gq28 rfl
                          have w4520 := (gq28.2.2 _ _ t_p0 0 rfl).1
                          have w4521 : mm_I s11 p0 0 = mm_I q2.2 p0 0 := by rw [← es11]; exact rd_k t_p0 tq5 (by decide)
                          have a4523 := zi_and p2 8 (by decide)
                          exact sw_some ⟨cq28, fq28, (by (try simp only [zp, zo, zq] at u3429 xq2 h3430 xq12 h3435 xq14 a3441 u3442 h3443 h3444 h4070 h4351 h4415 a4479 h4480 w4481 w4482 f4483 r4484 r4485 r4486 h4487 h4491 h4515 h4516 w4520 w4521 a4523 ⊢) <;> (try simp only [zz, Int32.reduceToInt, ne_eq] at u3429 xq2 h3430 xq12 h3435 xq14 a3441 u3442 h3443 h3444 h4070 h4351 h4415 a4479 h4480 w4481 w4482 f4483 r4484 r4485 r4486 h4487 h4491 h4515 h4516 w4520 w4521 a4523 ⊢) <;> (try simp (disch := omega) only [zb] at u3429 xq2 h3430 xq12 h3435 xq14 a3441 u3442 h3443 h3444 h4070 h4351 h4415 a4479 h4480 w4481 w4482 f4483 r4484 r4485 r4486 h4487 h4491 h4515 h4516 w4520 w4521 a4523 ⊢) <;> first | omega | ((try simp (disch := omega) only [zb] at u3429 xq2 h3430 xq12 h3435 xq14 a3441 u3442 h3443 h3444 h4070 h4351 h4415 a4479 h4480 w4481 w4482 f4483 r4484 r4485 r4486 h4487 h4491 h4515 h4516 w4520 w4521 a4523 ⊢) <;> omega))⟩
                      · refine sw_sh (ci_sh cs11 t_p0 rfl) ?_
                        refine sw_on (sX9_put cs11 t_p0 (by (try simp only [zp, zo, zq] at u3429 xq2 h3430 xq12 h3435 xq14 a3441 u3442 h3443 h3444 h4070 h4351 h4415 a4479 h4480 w4481 w4482 f4483 r4484 r4485 r4486 h4487 h4491 h4515 ⊢) <;> (try simp only [zz, Int32.reduceToInt, ne_eq] at u3429 xq2 h3430 xq12 h3435 xq14 a3441 u3442 h3443 h3444 h4070 h4351 h4415 a4479 h4480 w4481 w4482 f4483 r4484 r4485 r4486 h4487 h4491 h4515 ⊢) <;> (try simp (disch := omega) only [zb] at u3429 xq2 h3430 xq12 h3435 xq14 a3441 u3442 h3443 h3444 h4070 h4351 h4415 a4479 h4480 w4481 w4482 f4483 r4484 r4485 r4486 h4487 h4491 h4515 ⊢) <;> first | omega | ((try simp (disch := omega) only [zb] at u3429 xq2 h3430 xq12 h3435 xq14 a3441 u3442 h3443 h3444 h4070 h4351 h4415 a4479 h4480 w4481 w4482 f4483 r4484 r4485 r4486 h4487 h4491 h4515 ⊢) <;> omega)) ) ?_
                        intro q30 hqq30
                        obtain ⟨cq30, gq30, xq30⟩ := hqq30
                        have fq30 := fr_trans fs11 gq30 rfl
                        unfold fX9_pair_264
                        refine sw_ite (fun h4524 => ?_) (fun h4524 => ?_)
                        · have w4525 := (gq30.2.2 _ _ t_p0 0 rfl).1
                          have w4526 : mm_I s11 p0 0 = mm_I q2.2 p0 0 := by rw [← es11]; exact rd_k t_p0 tq5 (by decide)
                          have a4528 := zi_and p2 8 (by decide)
                          exact sw_some ⟨cq30, fq30, (by (try simp only [zp, zo, zq] at u3429 xq2 h3430 xq12 h3435 xq14 a3441 u3442 h3443 h3444 h4070 h4351 h4415 a4479 h4480 w4481 w4482 f4483 r4484 r4485 r4486 h4487 h4491 h4515 h4524 w4525 w4526 a4528 ⊢) <;> (try simp only [zz, Int32.reduceToInt, ne_eq] at u3429 xq2 h3430 xq12 h3435 xq14 a3441 u3442 h3443 h3444 h4070 h4351 h4415 a4479 h4480 w4481 w4482 f4483 r4484 r4485 r4486 h4487 h4491 h4515 h4524 w4525 w4526 a4528 ⊢) <;> (try simp (disch := omega) only [zb] at u3429 xq2 h3430 xq12 h3435 xq14 a3441 u3442 h3443 h3444 h4070 h4351 h4415 a4479 h4480 w4481 w4482 f4483 r4484 r4485 r4486 h4487 h4491 h4515 h4524 w4525 w4526 a4528 ⊢) <;> first | omega | ((try simp (disch := omega) only [zb] at u3429 xq2 h3430 xq12 h3435 xq14 a3441 u3442 h3443 h3444 h4070 h4351 h4415 a4479 h4480 w4481 w4482 f4483 r4484 r4485 r4486 h4487 h4491 h4515 h4524 w4525 w4526 a4528 ⊢) <;> omega))⟩
                        · refine sw_sh (ci_sh cq30 t_p0 rfl) ?_
                          refine sw_on (sX9_put cq30 t_p0 (by (try simp only [zp, zo, zq] at u3429 xq2 h3430 xq12 h3435 xq14 a3441 u3442 h3443 h3444 h4070 h4351 h4415 a4479 h4480 w4481 w4482 f4483 r4484 r4485 r4486 h4487 h4491 h4515 h4524 ⊢) <;> (try simp only [zz, Int32.reduceToInt, ne_eq] at u3429 xq2 h3430 xq12 h3435 xq14 a3441 u3442 h3443 h3444 h4070 h4351 h4415 a4479 h4480 w4481 w4482 f4483 r4484 r4485 r4486 h4487 h4491 h4515 h4524 ⊢) <;> (try simp (disch := omega) only [zb] at u3429 xq2 h3430 xq12 h3435 xq14 a3441 u3442 h3443 h3444 h4070 h4351 h4415 a4479 h4480 w4481 w4482 f4483 r4484 r4485 r4486 h4487 h4491 h4515 h4524 ⊢) <;> first | omega | ((try simp (disch := omega) only [zb] at u3429 xq2 h3430 xq12 h3435 xq14 a3441 u3442 h3443 h3444 h4070 h4351 h4415 a4479 h4480 w4481 w4482 f4483 r4484 r4485 r4486 h4487 h4491 h4515 h4524 ⊢) <;> omega)) ) ?_
                          intro q28 hqq28
                          obtain ⟨cq28, gq28, xq28⟩ := hqq28
                          have fq28 := fr_trans fq30 gq28 rfl
                          have w4529 := (gq28.2.2 _ _ t_p0 0 rfl).1
                          have w4530 := (gq30.2.2 _ _ t_p0 0 rfl).1
                          have w4531 : mm_I s11 p0 0 = mm_I q2.2 p0 0 := by rw [← es11]; exact rd_k t_p0 tq5 (by decide)
                          have a4533 := zi_and p2 8 (by decide)
                          exact sw_some ⟨cq28, fq28, (by (try simp only [zp, zo, zq] at u3429 xq2 h3430 xq12 h3435 xq14 a3441 u3442 h3443 h3444 h4070 h4351 h4415 a4479 h4480 w4481 w4482 f4483 r4484 r4485 r4486 h4487 h4491 h4515 h4524 w4529 w4530 w4531 a4533 ⊢) <;> (try simp only [zz, Int32.reduceToInt, ne_eq] at u3429 xq2 h3430 xq12 h3435 xq14 a3441 u3442 h3443 h3444 h4070 h4351 h4415 a4479 h4480 w4481 w4482 f4483 r4484 r4485 r4486 h4487 h4491 h4515 h4524 w4529 w4530 w4531 a4533 ⊢) <;> (try simp (disch := omega) only [zb] at u3429 xq2 h3430 xq12 h3435 xq14 a3441 u3442 h3443 h3444 h4070 h4351 h4415 a4479 h4480 w4481 w4482 f4483 r4484 r4485 r4486 h4487 h4491 h4515 h4524 w4529 w4530 w4531 a4533 ⊢) <;> first | omega | ((try simp (disch := omega) only [zb] at u3429 xq2 h3430 xq12 h3435 xq14 a3441 u3442 h3443 h3444 h4070 h4351 h4415 a4479 h4480 w4481 w4482 f4483 r4484 r4485 r4486 h4487 h4491 h4515 h4524 w4529 w4530 w4531 a4533 ⊢) <;> omega))⟩
                · refine sw_ite (fun h4534 => ?_) (fun h4534 => ?_)
                  · unfold fX9_pair_222
                    unfold fX9_pair_228
                    have w4535 : mm_I s11 q17 p1.toNatClampNeg = mm_I q2.2 q17 p1.toNatClampNeg := by rw [← es11]; exact rd_k tq17 tq5 (by decide)
                    have w4536 := (gq2.2.2 _ _ tq17 p1.toNatClampNeg rfl).1
                    have f4537 : mm_I σ0 q17 p1.toNatClampNeg = -1 := hv q17 59 p1.toNatClampNeg tq17 (Or.inr (by decide)) (by (try simp only [zp, zo, zq] at u3429 xq2 h3430 xq12 h3435 xq14 a3441 u3442 h3443 h3444 h4070 h4351 h4415 a4479 h4480 h4534 w4535 w4536 ⊢) <;> (try simp only [zz, Int32.reduceToInt, ne_eq] at u3429 xq2 h3430 xq12 h3435 xq14 a3441 u3442 h3443 h3444 h4070 h4351 h4415 a4479 h4480 h4534 w4535 w4536 ⊢) <;> (try simp (disch := omega) only [zb] at u3429 xq2 h3430 xq12 h3435 xq14 a3441 u3442 h3443 h3444 h4070 h4351 h4415 a4479 h4480 h4534 w4535 w4536 ⊢) <;> first | omega | ((try simp (disch := omega) only [zb] at u3429 xq2 h3430 xq12 h3435 xq14 a3441 u3442 h3443 h3444 h4070 h4351 h4415 a4479 h4480 h4534 w4535 w4536 ⊢) <;> omega))
                    have r4538 := ci_rg c0 tq17 p1.toNatClampNeg (lo := (-1)) (hi := 3) rfl
                    have r4539 := ci_rg cq2 tq17 p1.toNatClampNeg (lo := (-1)) (hi := 3) rfl
                    have r4540 := ci_rg cs11 tq17 p1.toNatClampNeg (lo := (-1)) (hi := 3) rfl
                    refine sw_ite (fun h4541 => ?_) (fun h4541 => ?_)
                    · have w4542 : mm_I s11 p0 0 = mm_I q2.2 p0 0 := by rw [← es11]; exact rd_k t_p0 tq5 (by decide)
                      have a4544 := zi_and p2 8 (by decide)
                      exact sw_some ⟨cs11, fs11, (by (try simp only [zp, zo, zq] at u3429 xq2 h3430 xq12 h3435 xq14 a3441 u3442 h3443 h3444 h4070 h4351 h4415 a4479 h4480 h4534 w4535 w4536 f4537 r4538 r4539 r4540 h4541 w4542 a4544 ⊢) <;> (try simp only [zz, Int32.reduceToInt, ne_eq] at u3429 xq2 h3430 xq12 h3435 xq14 a3441 u3442 h3443 h3444 h4070 h4351 h4415 a4479 h4480 h4534 w4535 w4536 f4537 r4538 r4539 r4540 h4541 w4542 a4544 ⊢) <;> (try simp (disch := omega) only [zb] at u3429 xq2 h3430 xq12 h3435 xq14 a3441 u3442 h3443 h3444 h4070 h4351 h4415 a4479 h4480 h4534 w4535 w4536 f4537 r4538 r4539 r4540 h4541 w4542 a4544 ⊢) <;> first | omega | ((try simp (disch := omega) only [zb] at u3429 xq2 h3430 xq12 h3435 xq14 a3441 u3442 h3443 h3444 h4070 h4351 h4415 a4479 h4480 h4534 w4535 w4536 f4537 r4538 r4539 r4540 h4541 w4542 a4544 ⊢) <;> omega))⟩
                    · refine sw_ite (fun h4545 => ?_) (fun h4545 => ?_)
                      · refine sw_ite (fun h4546 => ?_) (fun h4546 => ?_)
                        · have w4547 : mm_I s11 p0 0 = mm_I q2.2 p0 0 := by rw [← es11]; exact rd_k t_p0 tq5 (by decide)
                          have a4549 := zi_and p2 8 (by decide)
                          exact sw_some ⟨cs11, fs11, (by (try simp only [zp, zo, zq] at u3429 xq2 h3430 xq12 h3435 xq14 a3441 u3442 h3443 h3444 h4070 h4351 h4415 a4479 h4480 h4534 w4535 w4536 f4537 r4538 r4539 r4540 h4541 h4545 h4546 w4547 a4549 ⊢) <;> (try simp only [zz, Int32.reduceToInt, ne_eq] at u3429 xq2 h3430 xq12 h3435 xq14 a3441 u3442 h3443 h3444 h4070 h4351 h4415 a4479 h4480 h4534 w4535 w4536 f4537 r4538 r4539 r4540 h4541 h4545 h4546 w4547 a4549 ⊢) <;> (try simp (disch := omega) only [zb] at u3429 xq2 h3430 xq12 h3435 xq14 a3441 u3442 h3443 h3444 h4070 h4351 h4415 a4479 h4480 h4534 w4535 w4536 f4537 r4538 r4539 r4540 h4541 h4545 h4546 w4547 a4549 ⊢) <;> first | omega | ((try simp (disch := omega) only [zb] at u3429 xq2 h3430 xq12 h3435 xq14 a3441 u3442 h3443 h3444 h4070 h4351 h4415 a4479 h4480 h4534 w4535 w4536 f4537 r4538 r4539 r4540 h4541 h4545 h4546 w4547 a4549 ⊢) <;> omega))⟩
                        · unfold fX9_pair_250
                          refine sw_ite (fun h4550 => ?_) (fun h4550 => ?_)
                          · unfold fX9_pair_264
                            refine sw_ite (fun h4551 => ?_) (fun h4551 => ?_)
                            · have w4552 : mm_I s11 p0 0 = mm_I q2.2 p0 0 := by rw [← es11]; exact rd_k t_p0 tq5 (by decide)
                              have a4554 := zi_and p2 8 (by decide)
                              exact sw_some ⟨cs11, fs11, (by (try simp only [zp, zo, zq] at u3429 xq2 h3430 xq12 h3435 xq14 a3441 u3442 h3443 h3444 h4070 h4351 h4415 a4479 h4480 h4534 w4535 w4536 f4537 r4538 r4539 r4540 h4541 h4545 h4546 h4550 h4551 w4552 a4554 ⊢) <;> (try simp only [zz, Int32.reduceToInt, ne_eq] at u3429 xq2 h3430 xq12 h3435 xq14 a3441 u3442 h3443 h3444 h4070 h4351 h4415 a4479 h4480 h4534 w4535 w4536 f4537 r4538 r4539 r4540 h4541 h4545 h4546 h4550 h4551 w4552 a4554 ⊢) <;> (try simp (disch := omega) only [zb] at u3429 xq2 h3430 xq12 h3435 xq14 a3441 u3442 h3443 h3444 h4070 h4351 h4415 a4479 h4480 h4534 w4535 w4536 f4537 r4538 r4539 r4540 h4541 h4545 h4546 h4550 h4551 w4552 a4554 ⊢) <;> first | omega | ((try simp (disch := omega) only [zb] at u3429 xq2 h3430 xq12 h3435 xq14 a3441 u3442 h3443 h3444 h4070 h4351 h4415 a4479 h4480 h4534 w4535 w4536 f4537 r4538 r4539 r4540 h4541 h4545 h4546 h4550 h4551 w4552 a4554 ⊢) <;> omega))⟩
                            · refine sw_sh (ci_sh cs11 t_p0 rfl) ?_
                              refine sw_on (sX9_put cs11 t_p0 (by (try simp only [zp, zo, zq] at u3429 xq2 h3430 xq12 h3435 xq14 a3441 u3442 h3443 h3444 h4070 h4351 h4415 a4479 h4480 h4534 w4535 w4536 f4537 r4538 r4539 r4540 h4541 h4545 h4546 h4550 h4551 ⊢) <;> (try simp only [zz, Int32.reduceToInt, ne_eq] at u3429 xq2 h3430 xq12 h3435 xq14 a3441 u3442 h3443 h3444 h4070 h4351 h4415 a4479 h4480 h4534 w4535 w4536 f4537 r4538 r4539 r4540 h4541 h4545 h4546 h4550 h4551 ⊢) <;> (try simp (disch := omega) only [zb] at u3429 xq2 h3430 xq12 h3435 xq14 a3441 u3442 h3443 h3444 h4070 h4351 h4415 a4479 h4480 h4534 w4535 w4536 f4537 r4538 r4539 r4540 h4541 h4545 h4546 h4550 h4551 ⊢) <;> first | omega | ((try simp (disch := omega) only [zb] at u3429 xq2 h3430 xq12 h3435 xq14 a3441 u3442 h3443 h3444 h4070 h4351 h4415 a4479 h4480 h4534 w4535 w4536 f4537 r4538 r4539 r4540 h4541 h4545 h4546 h4550 h4551 ⊢) <;> omega)) ) ?_
                              intro q28 hqq28
                              obtain ⟨cq28, gq28, xq28⟩ := hqq28
                              have fq28 := fr_trans fs11 gq28 rfl
                              have w4555 := (gq28.2.2 _ _ t_p0 0 rfl).1
                              have w4556 : mm_I s11 p0 0 = mm_I q2.2 p0 0 := by rw [← es11]; exact rd_k t_p0 tq5 (by decide)
                              have a4558 := zi_and p2 8 (by decide)
                              exact sw_some ⟨cq28, fq28, (by (try simp only [zp, zo, zq] at u3429 xq2 h3430 xq12 h3435 xq14 a3441 u3442 h3443 h3444 h4070 h4351 h4415 a4479 h4480 h4534 w4535 w4536 f4537 r4538 r4539 r4540 h4541 h4545 h4546 h4550 h4551 w4555 w4556 a4558 ⊢) <;> (try simp only [zz, Int32.reduceToInt, ne_eq] at u3429 xq2 h3430 xq12 h3435 xq14 a3441 u3442 h3443 h3444 h4070 h4351 h4415 a4479 h4480 h4534 w4535 w4536 f4537 r4538 r4539 r4540 h4541 h4545 h4546 h4550 h4551 w4555 w4556 a4558 ⊢) <;> (try simp (disch := omega) only [zb] at u3429 xq2 h3430 xq12 h3435 xq14 a3441 u3442 h3443 h3444 h4070 h4351 h4415 a4479 h4480 h4534 w4535 w4536 f4537 r4538 r4539 r4540 h4541 h4545 h4546 h4550 h4551 w4555 w4556 a4558 ⊢) <;> first | omega | ((try simp (disch := omega) only [zb] at u3429 xq2 h3430 xq12 h3435 xq14 a3441 u3442 h3443 h3444 h4070 h4351 h4415 a4479 h4480 h4534 w4535 w4536 f4537 r4538 r4539 r4540 h4541 h4545 h4546 h4550 h4551 w4555 w4556 a4558 ⊢) <;> omega))⟩
                          · refine sw_sh (ci_sh cs11 t_p0 rfl) ?_
                            refine sw_on (sX9_put cs11 t_p0 (by (try simp only [zp, zo, zq] at u3429 xq2 h3430 xq12 h3435 xq14 a3441 u3442 h3443 h3444 h4070 h4351 h4415 a4479 h4480 h4534 w4535 w4536 f4537 r4538 r4539 r4540 h4541 h4545 h4546 h4550 ⊢) <;> (try simp only [zz, Int32.reduceToInt, ne_eq] at u3429 xq2 h3430 xq12 h3435 xq14 a3441 u3442 h3443 h3444 h4070 h4351 h4415 a4479 h4480 h4534 w4535 w4536 f4537 r4538 r4539 r4540 h4541 h4545 h4546 h4550 ⊢) <;> (try simp (disch := omega) only [zb] at u3429 xq2 h3430 xq12 h3435 xq14 a3441 u3442 h3443 h3444 h4070 h4351 h4415 a4479 h4480 h4534 w4535 w4536 f4537 r4538 r4539 r4540 h4541 h4545 h4546 h4550 ⊢) <;> first | omega | ((try simp (disch := omega) only [zb] at u3429 xq2 h3430 xq12 h3435 xq14 a3441 u3442 h3443 h3444 h4070 h4351 h4415 a4479 h4480 h4534 w4535 w4536 f4537 r4538 r4539 r4540 h4541 h4545 h4546 h4550 ⊢) <;> omega)) ) ?_
                            intro q30 hqq30
                            obtain ⟨cq30, gq30, xq30⟩ := hqq30
                            have fq30 := fr_trans fs11 gq30 rfl
                            unfold fX9_pair_264
                            refine sw_ite (fun h4559 => ?_) (fun h4559 => ?_)
                            · have w4560 := (gq30.2.2 _ _ t_p0 0 rfl).1
                              have w4561 : mm_I s11 p0 0 = mm_I q2.2 p0 0 := by rw [← es11]; exact rd_k t_p0 tq5 (by decide)
                              have a4563 := zi_and p2 8 (by decide)
                              exact sw_some ⟨cq30, fq30, (by (try simp only [zp, zo, zq] at u3429 xq2 h3430 xq12 h3435 xq14 a3441 u3442 h3443 h3444 h4070 h4351 h4415 a4479 h4480 h4534 w4535 w4536 f4537 r4538 r4539 r4540 h4541 h4545 h4546 h4550 h4559 w4560 w4561 a4563 ⊢) <;> (try simp only [zz, Int32.reduceToInt, ne_eq] at u3429 xq2 h3430 xq12 h3435 xq14 a3441 u3442 h3443 h3444 h4070 h4351 h4415 a4479 h4480 h4534 w4535 w4536 f4537 r4538 r4539 r4540 h4541 h4545 h4546 h4550 h4559 w4560 w4561 a4563 ⊢) <;> (try simp (disch := omega) only [zb] at u3429 xq2 h3430 xq12 h3435 xq14 a3441 u3442 h3443 h3444 h4070 h4351 h4415 a4479 h4480 h4534 w4535 w4536 f4537 r4538 r4539 r4540 h4541 h4545 h4546 h4550 h4559 w4560 w4561 a4563 ⊢) <;> first | omega | ((try simp (disch := omega) only [zb] at u3429 xq2 h3430 xq12 h3435 xq14 a3441 u3442 h3443 h3444 h4070 h4351 h4415 a4479 h4480 h4534 w4535 w4536 f4537 r4538 r4539 r4540 h4541 h4545 h4546 h4550 h4559 w4560 w4561 a4563 ⊢) <;> omega))⟩
                            · refine sw_sh (ci_sh cq30 t_p0 rfl) ?_
                              refine sw_on (sX9_put cq30 t_p0 (by (try simp only [zp, zo, zq] at u3429 xq2 h3430 xq12 h3435 xq14 a3441 u3442 h3443 h3444 h4070 h4351 h4415 a4479 h4480 h4534 w4535 w4536 f4537 r4538 r4539 r4540 h4541 h4545 h4546 h4550 h4559 ⊢) <;> (try simp only [zz, Int32.reduceToInt, ne_eq] at u3429 xq2 h3430 xq12 h3435 xq14 a3441 u3442 h3443 h3444 h4070 h4351 h4415 a4479 h4480 h4534 w4535 w4536 f4537 r4538 r4539 r4540 h4541 h4545 h4546 h4550 h4559 ⊢) <;> (try simp (disch := omega) only [zb] at u3429 xq2 h3430 xq12 h3435 xq14 a3441 u3442 h3443 h3444 h4070 h4351 h4415 a4479 h4480 h4534 w4535 w4536 f4537 r4538 r4539 r4540 h4541 h4545 h4546 h4550 h4559 ⊢) <;> first | omega | ((try simp (disch := omega) only [zb] at u3429 xq2 h3430 xq12 h3435 xq14 a3441 u3442 h3443 h3444 h4070 h4351 h4415 a4479 h4480 h4534 w4535 w4536 f4537 r4538 r4539 r4540 h4541 h4545 h4546 h4550 h4559 ⊢) <;> omega)) ) ?_
                              intro q28 hqq28
                              obtain ⟨cq28, gq28, xq28⟩ := hqq28
                              have fq28 := fr_trans fq30 gq28 rfl
                              have w4564 := (gq28.2.2 _ _ t_p0 0 rfl).1
                              have w4565 := (gq30.2.2 _ _ t_p0 0 rfl).1
                              have w4566 : mm_I s11 p0 0 = mm_I q2.2 p0 0 := by rw [← es11]; exact rd_k t_p0 tq5 (by decide)
                              have a4568 := zi_and p2 8 (by decide)
                              exact sw_some ⟨cq28, fq28, (by (try simp only [zp, zo, zq] at u3429 xq2 h3430 xq12 h3435 xq14 a3441 u3442 h3443 h3444 h4070 h4351 h4415 a4479 h4480 h4534 w4535 w4536 f4537 r4538 r4539 r4540 h4541 h4545 h4546 h4550 h4559 w4564 w4565 w4566 a4568 ⊢) <;> (try simp only [zz, Int32.reduceToInt, ne_eq] at u3429 xq2 h3430 xq12 h3435 xq14 a3441 u3442 h3443 h3444 h4070 h4351 h4415 a4479 h4480 h4534 w4535 w4536 f4537 r4538 r4539 r4540 h4541 h4545 h4546 h4550 h4559 w4564 w4565 w4566 a4568 ⊢) <;> (try simp (disch := omega) only [zb] at u3429 xq2 h3430 xq12 h3435 xq14 a3441 u3442 h3443 h3444 h4070 h4351 h4415 a4479 h4480 h4534 w4535 w4536 f4537 r4538 r4539 r4540 h4541 h4545 h4546 h4550 h4559 w4564 w4565 w4566 a4568 ⊢) <;> first | omega | ((try simp (disch := omega) only [zb] at u3429 xq2 h3430 xq12 h3435 xq14 a3441 u3442 h3443 h3444 h4070 h4351 h4415 a4479 h4480 h4534 w4535 w4536 f4537 r4538 r4539 r4540 h4541 h4545 h4546 h4550 h4559 w4564 w4565 w4566 a4568 ⊢) <;> omega))⟩
                      · unfold fX9_pair_250
                        refine sw_ite (fun h4569 => ?_) (fun h4569 => ?_)
                        · unfold fX9_pair_264
                          refine sw_ite (fun h4570 => ?_) (fun h4570 => ?_)
                          · have w4571 : mm_I s11 p0 0 = mm_I q2.2 p0 0 := by rw [← es11]; exact rd_k t_p0 tq5 (by decide)
                            have a4573 := zi_and p2 8 (by decide)
                            exact sw_some ⟨cs11, fs11, (by (try simp only [zp, zo, zq] at u3429 xq2 h3430 xq12 h3435 xq14 a3441 u3442 h3443 h3444 h4070 h4351 h4415 a4479 h4480 h4534 w4535 w4536 f4537 r4538 r4539 r4540 h4541 h4545 h4569 h4570 w4571 a4573 ⊢) <;> (try simp only [zz, Int32.reduceToInt, ne_eq] at u3429 xq2 h3430 xq12 h3435 xq14 a3441 u3442 h3443 h3444 h4070 h4351 h4415 a4479 h4480 h4534 w4535 w4536 f4537 r4538 r4539 r4540 h4541 h4545 h4569 h4570 w4571 a4573 ⊢) <;> (try simp (disch := omega) only [zb] at u3429 xq2 h3430 xq12 h3435 xq14 a3441 u3442 h3443 h3444 h4070 h4351 h4415 a4479 h4480 h4534 w4535 w4536 f4537 r4538 r4539 r4540 h4541 h4545 h4569 h4570 w4571 a4573 ⊢) <;> first | omega | ((try simp (disch := omega) only [zb] at u3429 xq2 h3430 xq12 h3435 xq14 a3441 u3442 h3443 h3444 h4070 h4351 h4415 a4479 h4480 h4534 w4535 w4536 f4537 r4538 r4539 r4540 h4541 h4545 h4569 h4570 w4571 a4573 ⊢) <;> omega))⟩
                          · refine sw_sh (ci_sh cs11 t_p0 rfl) ?_
                            refine sw_on (sX9_put cs11 t_p0 (by (try simp only [zp, zo, zq] at u3429 xq2 h3430 xq12 h3435 xq14 a3441 u3442 h3443 h3444 h4070 h4351 h4415 a4479 h4480 h4534 w4535 w4536 f4537 r4538 r4539 r4540 h4541 h4545 h4569 h4570 ⊢) <;> (try simp only [zz, Int32.reduceToInt, ne_eq] at u3429 xq2 h3430 xq12 h3435 xq14 a3441 u3442 h3443 h3444 h4070 h4351 h4415 a4479 h4480 h4534 w4535 w4536 f4537 r4538 r4539 r4540 h4541 h4545 h4569 h4570 ⊢) <;> (try simp (disch := omega) only [zb] at u3429 xq2 h3430 xq12 h3435 xq14 a3441 u3442 h3443 h3444 h4070 h4351 h4415 a4479 h4480 h4534 w4535 w4536 f4537 r4538 r4539 r4540 h4541 h4545 h4569 h4570 ⊢) <;> first | omega | ((try simp (disch := omega) only [zb] at u3429 xq2 h3430 xq12 h3435 xq14 a3441 u3442 h3443 h3444 h4070 h4351 h4415 a4479 h4480 h4534 w4535 w4536 f4537 r4538 r4539 r4540 h4541 h4545 h4569 h4570 ⊢) <;> omega)) ) ?_
                            intro q28 hqq28
                            obtain ⟨cq28, gq28, xq28⟩ := hqq28
                            have fq28 := fr_trans fs11 gq28 rfl
                            have w4574 := (gq28.2.2 _ _ t_p0 0 rfl).1
                            have w4575 : mm_I s11 p0 0 = mm_I q2.2 p0 0 := by rw [← es11]; exact rd_k t_p0 tq5 (by decide)
                            have a4577 := zi_and p2 8 (by decide)
                            exact sw_some ⟨cq28, fq28, (by (try simp only [zp, zo, zq] at u3429 xq2 h3430 xq12 h3435 xq14 a3441 u3442 h3443 h3444 h4070 h4351 h4415 a4479 h4480 h4534 w4535 w4536 f4537 r4538 r4539 r4540 h4541 h4545 h4569 h4570 w4574 w4575 a4577 ⊢) <;> (try simp only [zz, Int32.reduceToInt, ne_eq] at u3429 xq2 h3430 xq12 h3435 xq14 a3441 u3442 h3443 h3444 h4070 h4351 h4415 a4479 h4480 h4534 w4535 w4536 f4537 r4538 r4539 r4540 h4541 h4545 h4569 h4570 w4574 w4575 a4577 ⊢) <;> (try simp (disch := omega) only [zb] at u3429 xq2 h3430 xq12 h3435 xq14 a3441 u3442 h3443 h3444 h4070 h4351 h4415 a4479 h4480 h4534 w4535 w4536 f4537 r4538 r4539 r4540 h4541 h4545 h4569 h4570 w4574 w4575 a4577 ⊢) <;> first | omega | ((try simp (disch := omega) only [zb] at u3429 xq2 h3430 xq12 h3435 xq14 a3441 u3442 h3443 h3444 h4070 h4351 h4415 a4479 h4480 h4534 w4535 w4536 f4537 r4538 r4539 r4540 h4541 h4545 h4569 h4570 w4574 w4575 a4577 ⊢) <;> omega))⟩
                        · refine sw_sh (ci_sh cs11 t_p0 rfl) ?_
                          refine sw_on (sX9_put cs11 t_p0 (by (try simp only [zp, zo, zq] at u3429 xq2 h3430 xq12 h3435 xq14 a3441 u3442 h3443 h3444 h4070 h4351 h4415 a4479 h4480 h4534 w4535 w4536 f4537 r4538 r4539 r4540 h4541 h4545 h4569 ⊢) <;> (try simp only [zz, Int32.reduceToInt, ne_eq] at u3429 xq2 h3430 xq12 h3435 xq14 a3441 u3442 h3443 h3444 h4070 h4351 h4415 a4479 h4480 h4534 w4535 w4536 f4537 r4538 r4539 r4540 h4541 h4545 h4569 ⊢) <;> (try simp (disch := omega) only [zb] at u3429 xq2 h3430 xq12 h3435 xq14 a3441 u3442 h3443 h3444 h4070 h4351 h4415 a4479 h4480 h4534 w4535 w4536 f4537 r4538 r4539 r4540 h4541 h4545 h4569 ⊢) <;> first | omega | ((try simp (disch := omega) only [zb] at u3429 xq2 h3430 xq12 h3435 xq14 a3441 u3442 h3443 h3444 h4070 h4351 h4415 a4479 h4480 h4534 w4535 w4536 f4537 r4538 r4539 r4540 h4541 h4545 h4569 ⊢) <;> omega)) ) ?_
                          intro q30 hqq30
                          obtain ⟨cq30, gq30, xq30⟩ := hqq30
                          have fq30 := fr_trans fs11 gq30 rfl
                          unfold fX9_pair_264
                          refine sw_ite (fun h4578 => ?_) (fun h4578 => ?_)
                          · have w4579 := (gq30.2.2 _ _ t_p0 0 rfl).1
                            have w4580 : mm_I s11 p0 0 = mm_I q2.2 p0 0 := by rw [← es11]; exact rd_k t_p0 tq5 (by decide)
                            have a4582 := zi_and p2 8 (by decide)
                            exact sw_some ⟨cq30, fq30, (by (try simp only [zp, zo, zq] at u3429 xq2 h3430 xq12 h3435 xq14 a3441 u3442 h3443 h3444 h4070 h4351 h4415 a4479 h4480 h4534 w4535 w4536 f4537 r4538 r4539 r4540 h4541 h4545 h4569 h4578 w4579 w4580 a4582 ⊢) <;> (try simp only [zz, Int32.reduceToInt, ne_eq] at u3429 xq2 h3430 xq12 h3435 xq14 a3441 u3442 h3443 h3444 h4070 h4351 h4415 a4479 h4480 h4534 w4535 w4536 f4537 r4538 r4539 r4540 h4541 h4545 h4569 h4578 w4579 w4580 a4582 ⊢) <;> (try simp (disch := omega) only [zb] at u3429 xq2 h3430 xq12 h3435 xq14 a3441 u3442 h3443 h3444 h4070 h4351 h4415 a4479 h4480 h4534 w4535 w4536 f4537 r4538 r4539 r4540 h4541 h4545 h4569 h4578 w4579 w4580 a4582 ⊢) <;> first | omega | ((try simp (disch := omega) only [zb] at u3429 xq2 h3430 xq12 h3435 xq14 a3441 u3442 h3443 h3444 h4070 h4351 h4415 a4479 h4480 h4534 w4535 w4536 f4537 r4538 r4539 r4540 h4541 h4545 h4569 h4578 w4579 w4580 a4582 ⊢) <;> omega))⟩
                          · refine sw_sh (ci_sh cq30 t_p0 rfl) ?_
                            refine sw_on (sX9_put cq30 t_p0 (by (try simp only [zp, zo, zq] at u3429 xq2 h3430 xq12 h3435 xq14 a3441 u3442 h3443 h3444 h4070 h4351 h4415 a4479 h4480 h4534 w4535 w4536 f4537 r4538 r4539 r4540 h4541 h4545 h4569 h4578 ⊢) <;> (try simp only [zz, Int32.reduceToInt, ne_eq] at u3429 xq2 h3430 xq12 h3435 xq14 a3441 u3442 h3443 h3444 h4070 h4351 h4415 a4479 h4480 h4534 w4535 w4536 f4537 r4538 r4539 r4540 h4541 h4545 h4569 h4578 ⊢) <;> (try simp (disch := omega) only [zb] at u3429 xq2 h3430 xq12 h3435 xq14 a3441 u3442 h3443 h3444 h4070 h4351 h4415 a4479 h4480 h4534 w4535 w4536 f4537 r4538 r4539 r4540 h4541 h4545 h4569 h4578 ⊢) <;> first | omega | ((try simp (disch := omega) only [zb] at u3429 xq2 h3430 xq12 h3435 xq14 a3441 u3442 h3443 h3444 h4070 h4351 h4415 a4479 h4480 h4534 w4535 w4536 f4537 r4538 r4539 r4540 h4541 h4545 h4569 h4578 ⊢) <;> omega)) ) ?_
                            intro q28 hqq28
                            obtain ⟨cq28, gq28, xq28⟩ := hqq28
                            have fq28 := fr_trans fq30 gq28 rfl
                            have w4583 := (gq28.2.2 _ _ t_p0 0 rfl).1
                            have w4584 := (gq30.2.2 _ _ t_p0 0 rfl).1
                            have w4585 : mm_I s11 p0 0 = mm_I q2.2 p0 0 := by rw [← es11]; exact rd_k t_p0 tq5 (by decide)
                            have a4587 := zi_and p2 8 (by decide)
                            exact sw_some ⟨cq28, fq28, (by (try simp only [zp, zo, zq] at u3429 xq2 h3430 xq12 h3435 xq14 a3441 u3442 h3443 h3444 h4070 h4351 h4415 a4479 h4480 h4534 w4535 w4536 f4537 r4538 r4539 r4540 h4541 h4545 h4569 h4578 w4583 w4584 w4585 a4587 ⊢) <;> (try simp only [zz, Int32.reduceToInt, ne_eq] at u3429 xq2 h3430 xq12 h3435 xq14 a3441 u3442 h3443 h3444 h4070 h4351 h4415 a4479 h4480 h4534 w4535 w4536 f4537 r4538 r4539 r4540 h4541 h4545 h4569 h4578 w4583 w4584 w4585 a4587 ⊢) <;> (try simp (disch := omega) only [zb] at u3429 xq2 h3430 xq12 h3435 xq14 a3441 u3442 h3443 h3444 h4070 h4351 h4415 a4479 h4480 h4534 w4535 w4536 f4537 r4538 r4539 r4540 h4541 h4545 h4569 h4578 w4583 w4584 w4585 a4587 ⊢) <;> first | omega | ((try simp (disch := omega) only [zb] at u3429 xq2 h3430 xq12 h3435 xq14 a3441 u3442 h3443 h3444 h4070 h4351 h4415 a4479 h4480 h4534 w4535 w4536 f4537 r4538 r4539 r4540 h4541 h4545 h4569 h4578 w4583 w4584 w4585 a4587 ⊢) <;> omega))⟩
                  · refine sw_ite (fun h4588 => ?_) (fun h4588 => ?_)
                    · unfold fX9_pair_222
                      unfold fX9_pair_228
                      have w4589 : mm_I s11 q17 p1.toNatClampNeg = mm_I q2.2 q17 p1.toNatClampNeg := by rw [← es11]; exact rd_k tq17 tq5 (by decide)
                      have w4590 := (gq2.2.2 _ _ tq17 p1.toNatClampNeg rfl).1
                      have f4591 : mm_I σ0 q17 p1.toNatClampNeg = -1 := hv q17 59 p1.toNatClampNeg tq17 (Or.inr (by decide)) (by (try simp only [zp, zo, zq] at u3429 xq2 h3430 xq12 h3435 xq14 a3441 u3442 h3443 h3444 h4070 h4351 h4415 a4479 h4480 h4534 h4588 w4589 w4590 ⊢) <;> (try simp only [zz, Int32.reduceToInt, ne_eq] at u3429 xq2 h3430 xq12 h3435 xq14 a3441 u3442 h3443 h3444 h4070 h4351 h4415 a4479 h4480 h4534 h4588 w4589 w4590 ⊢) <;> (try simp (disch := omega) only [zb] at u3429 xq2 h3430 xq12 h3435 xq14 a3441 u3442 h3443 h3444 h4070 h4351 h4415 a4479 h4480 h4534 h4588 w4589 w4590 ⊢) <;> first | omega | ((try simp (disch := omega) only [zb] at u3429 xq2 h3430 xq12 h3435 xq14 a3441 u3442 h3443 h3444 h4070 h4351 h4415 a4479 h4480 h4534 h4588 w4589 w4590 ⊢) <;> omega))
                      have r4592 := ci_rg c0 tq17 p1.toNatClampNeg (lo := (-1)) (hi := 3) rfl
                      have r4593 := ci_rg cq2 tq17 p1.toNatClampNeg (lo := (-1)) (hi := 3) rfl
                      have r4594 := ci_rg cs11 tq17 p1.toNatClampNeg (lo := (-1)) (hi := 3) rfl
                      refine sw_ite (fun h4595 => ?_) (fun h4595 => ?_)
                      · have w4596 : mm_I s11 p0 0 = mm_I q2.2 p0 0 := by rw [← es11]; exact rd_k t_p0 tq5 (by decide)
                        have a4598 := zi_and p2 8 (by decide)
                        exact sw_some ⟨cs11, fs11, (by (try simp only [zp, zo, zq] at u3429 xq2 h3430 xq12 h3435 xq14 a3441 u3442 h3443 h3444 h4070 h4351 h4415 a4479 h4480 h4534 h4588 w4589 w4590 f4591 r4592 r4593 r4594 h4595 w4596 a4598 ⊢) <;> (try simp only [zz, Int32.reduceToInt, ne_eq] at u3429 xq2 h3430 xq12 h3435 xq14 a3441 u3442 h3443 h3444 h4070 h4351 h4415 a4479 h4480 h4534 h4588 w4589 w4590 f4591 r4592 r4593 r4594 h4595 w4596 a4598 ⊢) <;> (try simp (disch := omega) only [zb] at u3429 xq2 h3430 xq12 h3435 xq14 a3441 u3442 h3443 h3444 h4070 h4351 h4415 a4479 h4480 h4534 h4588 w4589 w4590 f4591 r4592 r4593 r4594 h4595 w4596 a4598 ⊢) <;> first | omega | ((try simp (disch := omega) only [zb] at u3429 xq2 h3430 xq12 h3435 xq14 a3441 u3442 h3443 h3444 h4070 h4351 h4415 a4479 h4480 h4534 h4588 w4589 w4590 f4591 r4592 r4593 r4594 h4595 w4596 a4598 ⊢) <;> omega))⟩
                      · refine sw_ite (fun h4599 => ?_) (fun h4599 => ?_)
                        · refine sw_ite (fun h4600 => ?_) (fun h4600 => ?_)
                          · have w4601 : mm_I s11 p0 0 = mm_I q2.2 p0 0 := by rw [← es11]; exact rd_k t_p0 tq5 (by decide)
                            have a4603 := zi_and p2 8 (by decide)
                            exact sw_some ⟨cs11, fs11, (by (try simp only [zp, zo, zq] at u3429 xq2 h3430 xq12 h3435 xq14 a3441 u3442 h3443 h3444 h4070 h4351 h4415 a4479 h4480 h4534 h4588 w4589 w4590 f4591 r4592 r4593 r4594 h4595 h4599 h4600 w4601 a4603 ⊢) <;> (try simp only [zz, Int32.reduceToInt, ne_eq] at u3429 xq2 h3430 xq12 h3435 xq14 a3441 u3442 h3443 h3444 h4070 h4351 h4415 a4479 h4480 h4534 h4588 w4589 w4590 f4591 r4592 r4593 r4594 h4595 h4599 h4600 w4601 a4603 ⊢) <;> (try simp (disch := omega) only [zb] at u3429 xq2 h3430 xq12 h3435 xq14 a3441 u3442 h3443 h3444 h4070 h4351 h4415 a4479 h4480 h4534 h4588 w4589 w4590 f4591 r4592 r4593 r4594 h4595 h4599 h4600 w4601 a4603 ⊢) <;> first | omega | ((try simp (disch := omega) only [zb] at u3429 xq2 h3430 xq12 h3435 xq14 a3441 u3442 h3443 h3444 h4070 h4351 h4415 a4479 h4480 h4534 h4588 w4589 w4590 f4591 r4592 r4593 r4594 h4595 h4599 h4600 w4601 a4603 ⊢) <;> omega))⟩
                          · unfold fX9_pair_250
                            refine sw_ite (fun h4604 => ?_) (fun h4604 => ?_)
                            · unfold fX9_pair_264
                              refine sw_ite (fun h4605 => ?_) (fun h4605 => ?_)
                              · have w4606 : mm_I s11 p0 0 = mm_I q2.2 p0 0 := by rw [← es11]; exact rd_k t_p0 tq5 (by decide)
                                have a4608 := zi_and p2 8 (by decide)
                                exact sw_some ⟨cs11, fs11, (by (try simp only [zp, zo, zq] at u3429 xq2 h3430 xq12 h3435 xq14 a3441 u3442 h3443 h3444 h4070 h4351 h4415 a4479 h4480 h4534 h4588 w4589 w4590 f4591 r4592 r4593 r4594 h4595 h4599 h4600 h4604 h4605 w4606 a4608 ⊢) <;> (try simp only [zz, Int32.reduceToInt, ne_eq] at u3429 xq2 h3430 xq12 h3435 xq14 a3441 u3442 h3443 h3444 h4070 h4351 h4415 a4479 h4480 h4534 h4588 w4589 w4590 f4591 r4592 r4593 r4594 h4595 h4599 h4600 h4604 h4605 w4606 a4608 ⊢) <;> (try simp (disch := omega) only [zb] at u3429 xq2 h3430 xq12 h3435 xq14 a3441 u3442 h3443 h3444 h4070 h4351 h4415 a4479 h4480 h4534 h4588 w4589 w4590 f4591 r4592 r4593 r4594 h4595 h4599 h4600 h4604 h4605 w4606 a4608 ⊢) <;> first | omega | ((try simp (disch := omega) only [zb] at u3429 xq2 h3430 xq12 h3435 xq14 a3441 u3442 h3443 h3444 h4070 h4351 h4415 a4479 h4480 h4534 h4588 w4589 w4590 f4591 r4592 r4593 r4594 h4595 h4599 h4600 h4604 h4605 w4606 a4608 ⊢) <;> omega))⟩
                              · refine sw_sh (ci_sh cs11 t_p0 rfl) ?_
                                refine sw_on (sX9_put cs11 t_p0 (by (try simp only [zp, zo, zq] at u3429 xq2 h3430 xq12 h3435 xq14 a3441 u3442 h3443 h3444 h4070 h4351 h4415 a4479 h4480 h4534 h4588 w4589 w4590 f4591 r4592 r4593 r4594 h4595 h4599 h4600 h4604 h4605 ⊢) <;> (try simp only [zz, Int32.reduceToInt, ne_eq] at u3429 xq2 h3430 xq12 h3435 xq14 a3441 u3442 h3443 h3444 h4070 h4351 h4415 a4479 h4480 h4534 h4588 w4589 w4590 f4591 r4592 r4593 r4594 h4595 h4599 h4600 h4604 h4605 ⊢) <;> (try simp (disch := omega) only [zb] at u3429 xq2 h3430 xq12 h3435 xq14 a3441 u3442 h3443 h3444 h4070 h4351 h4415 a4479 h4480 h4534 h4588 w4589 w4590 f4591 r4592 r4593 r4594 h4595 h4599 h4600 h4604 h4605 ⊢) <;> first | omega | ((try simp (disch := omega) only [zb] at u3429 xq2 h3430 xq12 h3435 xq14 a3441 u3442 h3443 h3444 h4070 h4351 h4415 a4479 h4480 h4534 h4588 w4589 w4590 f4591 r4592 r4593 r4594 h4595 h4599 h4600 h4604 h4605 ⊢) <;> omega)) ) ?_
                                intro q28 hqq28
                                obtain ⟨cq28, gq28, xq28⟩ := hqq28
                                have fq28 := fr_trans fs11 gq28 rfl
                                have w4609 := (gq28.2.2 _ _ t_p0 0 rfl).1
                                have w4610 : mm_I s11 p0 0 = mm_I q2.2 p0 0 := by rw [← es11]; exact rd_k t_p0 tq5 (by decide)
                                have a4612 := zi_and p2 8 (by decide)
                                exact sw_some ⟨cq28, fq28, (by (try simp only [zp, zo, zq] at u3429 xq2 h3430 xq12 h3435 xq14 a3441 u3442 h3443 h3444 h4070 h4351 h4415 a4479 h4480 h4534 h4588 w4589 w4590 f4591 r4592 r4593 r4594 h4595 h4599 h4600 h4604 h4605 w4609 w4610 a4612 ⊢) <;> (try simp only [zz, Int32.reduceToInt, ne_eq] at u3429 xq2 h3430 xq12 h3435 xq14 a3441 u3442 h3443 h3444 h4070 h4351 h4415 a4479 h4480 h4534 h4588 w4589 w4590 f4591 r4592 r4593 r4594 h4595 h4599 h4600 h4604 h4605 w4609 w4610 a4612 ⊢) <;> (try simp (disch := omega) only [zb] at u3429 xq2 h3430 xq12 h3435 xq14 a3441 u3442 h3443 h3444 h4070 h4351 h4415 a4479 h4480 h4534 h4588 w4589 w4590 f4591 r4592 r4593 r4594 h4595 h4599 h4600 h4604 h4605 w4609 w4610 a4612 ⊢) <;> first | omega | ((try simp (disch := omega) only [zb] at u3429 xq2 h3430 xq12 h3435 xq14 a3441 u3442 h3443 h3444 h4070 h4351 h4415 a4479 h4480 h4534 h4588 w4589 w4590 f4591 r4592 r4593 r4594 h4595 h4599 h4600 h4604 h4605 w4609 w4610 a4612 ⊢) <;> omega))⟩
                            · refine sw_sh (ci_sh cs11 t_p0 rfl) ?_
                              refine sw_on (sX9_put cs11 t_p0 (by (try simp only [zp, zo, zq] at u3429 xq2 h3430 xq12 h3435 xq14 a3441 u3442 h3443 h3444 h4070 h4351 h4415 a4479 h4480 h4534 h4588 w4589 w4590 f4591 r4592 r4593 r4594 h4595 h4599 h4600 h4604 ⊢) <;> (try simp only [zz, Int32.reduceToInt, ne_eq] at u3429 xq2 h3430 xq12 h3435 xq14 a3441 u3442 h3443 h3444 h4070 h4351 h4415 a4479 h4480 h4534 h4588 w4589 w4590 f4591 r4592 r4593 r4594 h4595 h4599 h4600 h4604 ⊢) <;> (try simp (disch := omega) only [zb] at u3429 xq2 h3430 xq12 h3435 xq14 a3441 u3442 h3443 h3444 h4070 h4351 h4415 a4479 h4480 h4534 h4588 w4589 w4590 f4591 r4592 r4593 r4594 h4595 h4599 h4600 h4604 ⊢) <;> first | omega | ((try simp (disch := omega) only [zb] at u3429 xq2 h3430 xq12 h3435 xq14 a3441 u3442 h3443 h3444 h4070 h4351 h4415 a4479 h4480 h4534 h4588 w4589 w4590 f4591 r4592 r4593 r4594 h4595 h4599 h4600 h4604 ⊢) <;> omega)) ) ?_
                              intro q30 hqq30
                              obtain ⟨cq30, gq30, xq30⟩ := hqq30
                              have fq30 := fr_trans fs11 gq30 rfl
                              unfold fX9_pair_264
                              refine sw_ite (fun h4613 => ?_) (fun h4613 => ?_)
                              · have w4614 := (gq30.2.2 _ _ t_p0 0 rfl).1
                                have w4615 : mm_I s11 p0 0 = mm_I q2.2 p0 0 := by rw [← es11]; exact rd_k t_p0 tq5 (by decide)
                                have a4617 := zi_and p2 8 (by decide)
                                exact sw_some ⟨cq30, fq30, (by (try simp only [zp, zo, zq] at u3429 xq2 h3430 xq12 h3435 xq14 a3441 u3442 h3443 h3444 h4070 h4351 h4415 a4479 h4480 h4534 h4588 w4589 w4590 f4591 r4592 r4593 r4594 h4595 h4599 h4600 h4604 h4613 w4614 w4615 a4617 ⊢) <;> (try simp only [zz, Int32.reduceToInt, ne_eq] at u3429 xq2 h3430 xq12 h3435 xq14 a3441 u3442 h3443 h3444 h4070 h4351 h4415 a4479 h4480 h4534 h4588 w4589 w4590 f4591 r4592 r4593 r4594 h4595 h4599 h4600 h4604 h4613 w4614 w4615 a4617 ⊢) <;> (try simp (disch := omega) only [zb] at u3429 xq2 h3430 xq12 h3435 xq14 a3441 u3442 h3443 h3444 h4070 h4351 h4415 a4479 h4480 h4534 h4588 w4589 w4590 f4591 r4592 r4593 r4594 h4595 h4599 h4600 h4604 h4613 w4614 w4615 a4617 ⊢) <;> first | omega | ((try simp (disch := omega) only [zb] at u3429 xq2 h3430 xq12 h3435 xq14 a3441 u3442 h3443 h3444 h4070 h4351 h4415 a4479 h4480 h4534 h4588 w4589 w4590 f4591 r4592 r4593 r4594 h4595 h4599 h4600 h4604 h4613 w4614 w4615 a4617 ⊢) <;> omega))⟩
                              · refine sw_sh (ci_sh cq30 t_p0 rfl) ?_
                                refine sw_on (sX9_put cq30 t_p0 (by (try simp only [zp, zo, zq] at u3429 xq2 h3430 xq12 h3435 xq14 a3441 u3442 h3443 h3444 h4070 h4351 h4415 a4479 h4480 h4534 h4588 w4589 w4590 f4591 r4592 r4593 r4594 h4595 h4599 h4600 h4604 h4613 ⊢) <;> (try simp only [zz, Int32.reduceToInt, ne_eq] at u3429 xq2 h3430 xq12 h3435 xq14 a3441 u3442 h3443 h3444 h4070 h4351 h4415 a4479 h4480 h4534 h4588 w4589 w4590 f4591 r4592 r4593 r4594 h4595 h4599 h4600 h4604 h4613 ⊢) <;> (try simp (disch := omega) only [zb] at u3429 xq2 h3430 xq12 h3435 xq14 a3441 u3442 h3443 h3444 h4070 h4351 h4415 a4479 h4480 h4534 h4588 w4589 w4590 f4591 r4592 r4593 r4594 h4595 h4599 h4600 h4604 h4613 ⊢) <;> first | omega | ((try simp (disch := omega) only [zb] at u3429 xq2 h3430 xq12 h3435 xq14 a3441 u3442 h3443 h3444 h4070 h4351 h4415 a4479 h4480 h4534 h4588 w4589 w4590 f4591 r4592 r4593 r4594 h4595 h4599 h4600 h4604 h4613 ⊢) <;> omega)) ) ?_
                                intro q28 hqq28
                                obtain ⟨cq28, gq28, xq28⟩ := hqq28
                                have fq28 := fr_trans fq30 gq28 rfl
                                have w4618 := (gq28.2.2 _ _ t_p0 0 rfl).1
                                have w4619 := (gq30.2.2 _ _ t_p0 0 rfl).1
                                have w4620 : mm_I s11 p0 0 = mm_I q2.2 p0 0 := by rw [← es11]; exact rd_k t_p0 tq5 (by decide)
                                have a4622 := zi_and p2 8 (by decide)
                                exact sw_some ⟨cq28, fq28, (by (try simp only [zp, zo, zq] at u3429 xq2 h3430 xq12 h3435 xq14 a3441 u3442 h3443 h3444 h4070 h4351 h4415 a4479 h4480 h4534 h4588 w4589 w4590 f4591 r4592 r4593 r4594 h4595 h4599 h4600 h4604 h4613 w4618 w4619 w4620 a4622 ⊢) <;> (try simp only [zz, Int32.reduceToInt, ne_eq] at u3429 xq2 h3430 xq12 h3435 xq14 a3441 u3442 h3443 h3444 h4070 h4351 h4415 a4479 h4480 h4534 h4588 w4589 w4590 f4591 r4592 r4593 r4594 h4595 h4599 h4600 h4604 h4613 w4618 w4619 w4620 a4622 ⊢) <;> (try simp (disch := omega) only [zb] at u3429 xq2 h3430 xq12 h3435 xq14 a3441 u3442 h3443 h3444 h4070 h4351 h4415 a4479 h4480 h4534 h4588 w4589 w4590 f4591 r4592 r4593 r4594 h4595 h4599 h4600 h4604 h4613 w4618 w4619 w4620 a4622 ⊢) <;> first | omega | ((try simp (disch := omega) only [zb] at u3429 xq2 h3430 xq12 h3435 xq14 a3441 u3442 h3443 h3444 h4070 h4351 h4415 a4479 h4480 h4534 h4588 w4589 w4590 f4591 r4592 r4593 r4594 h4595 h4599 h4600 h4604 h4613 w4618 w4619 w4620 a4622 ⊢) <;> omega))⟩
                        · unfold fX9_pair_250
                          refine sw_ite (fun h4623 => ?_) (fun h4623 => ?_)
                          · unfold fX9_pair_264
                            refine sw_ite (fun h4624 => ?_) (fun h4624 => ?_)
                            · have w4625 : mm_I s11 p0 0 = mm_I q2.2 p0 0 := by rw [← es11]; exact rd_k t_p0 tq5 (by decide)
                              have a4627 := zi_and p2 8 (by decide)
                              exact sw_some ⟨cs11, fs11, (by (try simp only [zp, zo, zq] at u3429 xq2 h3430 xq12 h3435 xq14 a3441 u3442 h3443 h3444 h4070 h4351 h4415 a4479 h4480 h4534 h4588 w4589 w4590 f4591 r4592 r4593 r4594 h4595 h4599 h4623 h4624 w4625 a4627 ⊢) <;> (try simp only [zz, Int32.reduceToInt, ne_eq] at u3429 xq2 h3430 xq12 h3435 xq14 a3441 u3442 h3443 h3444 h4070 h4351 h4415 a4479 h4480 h4534 h4588 w4589 w4590 f4591 r4592 r4593 r4594 h4595 h4599 h4623 h4624 w4625 a4627 ⊢) <;> (try simp (disch := omega) only [zb] at u3429 xq2 h3430 xq12 h3435 xq14 a3441 u3442 h3443 h3444 h4070 h4351 h4415 a4479 h4480 h4534 h4588 w4589 w4590 f4591 r4592 r4593 r4594 h4595 h4599 h4623 h4624 w4625 a4627 ⊢) <;> first | omega | ((try simp (disch := omega) only [zb] at u3429 xq2 h3430 xq12 h3435 xq14 a3441 u3442 h3443 h3444 h4070 h4351 h4415 a4479 h4480 h4534 h4588 w4589 w4590 f4591 r4592 r4593 r4594 h4595 h4599 h4623 h4624 w4625 a4627 ⊢) <;> omega))⟩
                            · refine sw_sh (ci_sh cs11 t_p0 rfl) ?_
                              refine sw_on (sX9_put cs11 t_p0 (by (try simp only [zp, zo, zq] at u3429 xq2 h3430 xq12 h3435 xq14 a3441 u3442 h3443 h3444 h4070 h4351 h4415 a4479 h4480 h4534 h4588 w4589 w4590 f4591 r4592 r4593 r4594 h4595 h4599 h4623 h4624 ⊢) <;> (try simp only [zz, Int32.reduceToInt, ne_eq] at u3429 xq2 h3430 xq12 h3435 xq14 a3441 u3442 h3443 h3444 h4070 h4351 h4415 a4479 h4480 h4534 h4588 w4589 w4590 f4591 r4592 r4593 r4594 h4595 h4599 h4623 h4624 ⊢) <;> (try simp (disch := omega) only [zb] at u3429 xq2 h3430 xq12 h3435 xq14 a3441 u3442 h3443 h3444 h4070 h4351 h4415 a4479 h4480 h4534 h4588 w4589 w4590 f4591 r4592 r4593 r4594 h4595 h4599 h4623 h4624 ⊢) <;> first | omega | ((try simp (disch := omega) only [zb] at u3429 xq2 h3430 xq12 h3435 xq14 a3441 u3442 h3443 h3444 h4070 h4351 h4415 a4479 h4480 h4534 h4588 w4589 w4590 f4591 r4592 r4593 r4594 h4595 h4599 h4623 h4624 ⊢) <;> omega)) ) ?_
                              intro q28 hqq28
                              obtain ⟨cq28, gq28, xq28⟩ := hqq28
                              have fq28 := fr_trans fs11 gq28 rfl
                              have w4628 := (gq28.2.2 _ _ t_p0 0 rfl).1
                              have w4629 : mm_I s11 p0 0 = mm_I q2.2 p0 0 := by rw [← es11]; exact rd_k t_p0 tq5 (by decide)
                              have a4631 := zi_and p2 8 (by decide)
                              exact sw_some ⟨cq28, fq28, (by (try simp only [zp, zo, zq] at u3429 xq2 h3430 xq12 h3435 xq14 a3441 u3442 h3443 h3444 h4070 h4351 h4415 a4479 h4480 h4534 h4588 w4589 w4590 f4591 r4592 r4593 r4594 h4595 h4599 h4623 h4624 w4628 w4629 a4631 ⊢) <;> (try simp only [zz, Int32.reduceToInt, ne_eq] at u3429 xq2 h3430 xq12 h3435 xq14 a3441 u3442 h3443 h3444 h4070 h4351 h4415 a4479 h4480 h4534 h4588 w4589 w4590 f4591 r4592 r4593 r4594 h4595 h4599 h4623 h4624 w4628 w4629 a4631 ⊢) <;> (try simp (disch := omega) only [zb] at u3429 xq2 h3430 xq12 h3435 xq14 a3441 u3442 h3443 h3444 h4070 h4351 h4415 a4479 h4480 h4534 h4588 w4589 w4590 f4591 r4592 r4593 r4594 h4595 h4599 h4623 h4624 w4628 w4629 a4631 ⊢) <;> first | omega | ((try simp (disch := omega) only [zb] at u3429 xq2 h3430 xq12 h3435 xq14 a3441 u3442 h3443 h3444 h4070 h4351 h4415 a4479 h4480 h4534 h4588 w4589 w4590 f4591 r4592 r4593 r4594 h4595 h4599 h4623 h4624 w4628 w4629 a4631 ⊢) <;> omega))⟩
                          · refine sw_sh (ci_sh cs11 t_p0 rfl) ?_
                            refine sw_on (sX9_put cs11 t_p0 (by (try simp only [zp, zo, zq] at u3429 xq2 h3430 xq12 h3435 xq14 a3441 u3442 h3443 h3444 h4070 h4351 h4415 a4479 h4480 h4534 h4588 w4589 w4590 f4591 r4592 r4593 r4594 h4595 h4599 h4623 ⊢) <;> (try simp only [zz, Int32.reduceToInt, ne_eq] at u3429 xq2 h3430 xq12 h3435 xq14 a3441 u3442 h3443 h3444 h4070 h4351 h4415 a4479 h4480 h4534 h4588 w4589 w4590 f4591 r4592 r4593 r4594 h4595 h4599 h4623 ⊢) <;> (try simp (disch := omega) only [zb] at u3429 xq2 h3430 xq12 h3435 xq14 a3441 u3442 h3443 h3444 h4070 h4351 h4415 a4479 h4480 h4534 h4588 w4589 w4590 f4591 r4592 r4593 r4594 h4595 h4599 h4623 ⊢) <;> first | omega | ((try simp (disch := omega) only [zb] at u3429 xq2 h3430 xq12 h3435 xq14 a3441 u3442 h3443 h3444 h4070 h4351 h4415 a4479 h4480 h4534 h4588 w4589 w4590 f4591 r4592 r4593 r4594 h4595 h4599 h4623 ⊢) <;> omega)) ) ?_
                            intro q30 hqq30
                            obtain ⟨cq30, gq30, xq30⟩ := hqq30
                            have fq30 := fr_trans fs11 gq30 rfl
                            unfold fX9_pair_264
                            refine sw_ite (fun h4632 => ?_) (fun h4632 => ?_)
                            · have w4633 := (gq30.2.2 _ _ t_p0 0 rfl).1
                              have w4634 : mm_I s11 p0 0 = mm_I q2.2 p0 0 := by rw [← es11]; exact rd_k t_p0 tq5 (by decide)
                              have a4636 := zi_and p2 8 (by decide)
                              exact sw_some ⟨cq30, fq30, (by (try simp only [zp, zo, zq] at u3429 xq2 h3430 xq12 h3435 xq14 a3441 u3442 h3443 h3444 h4070 h4351 h4415 a4479 h4480 h4534 h4588 w4589 w4590 f4591 r4592 r4593 r4594 h4595 h4599 h4623 h4632 w4633 w4634 a4636 ⊢) <;> (try simp only [zz, Int32.reduceToInt, ne_eq] at u3429 xq2 h3430 xq12 h3435 xq14 a3441 u3442 h3443 h3444 h4070 h4351 h4415 a4479 h4480 h4534 h4588 w4589 w4590 f4591 r4592 r4593 r4594 h4595 h4599 h4623 h4632 w4633 w4634 a4636 ⊢) <;> (try simp (disch := omega) only [zb] at u3429 xq2 h3430 xq12 h3435 xq14 a3441 u3442 h3443 h3444 h4070 h4351 h4415 a4479 h4480 h4534 h4588 w4589 w4590 f4591 r4592 r4593 r4594 h4595 h4599 h4623 h4632 w4633 w4634 a4636 ⊢) <;> first | omega | ((try simp (disch := omega) only [zb] at u3429 xq2 h3430 xq12 h3435 xq14 a3441 u3442 h3443 h3444 h4070 h4351 h4415 a4479 h4480 h4534 h4588 w4589 w4590 f4591 r4592 r4593 r4594 h4595 h4599 h4623 h4632 w4633 w4634 a4636 ⊢) <;> omega))⟩
                            · refine sw_sh (ci_sh cq30 t_p0 rfl) ?_
                              refine sw_on (sX9_put cq30 t_p0 (by (try simp only [zp, zo, zq] at u3429 xq2 h3430 xq12 h3435 xq14 a3441 u3442 h3443 h3444 h4070 h4351 h4415 a4479 h4480 h4534 h4588 w4589 w4590 f4591 r4592 r4593 r4594 h4595 h4599 h4623 h4632 ⊢) <;> (try simp only [zz, Int32.reduceToInt, ne_eq] at u3429 xq2 h3430 xq12 h3435 xq14 a3441 u3442 h3443 h3444 h4070 h4351 h4415 a4479 h4480 h4534 h4588 w4589 w4590 f4591 r4592 r4593 r4594 h4595 h4599 h4623 h4632 ⊢) <;> (try simp (disch := omega) only [zb] at u3429 xq2 h3430 xq12 h3435 xq14 a3441 u3442 h3443 h3444 h4070 h4351 h4415 a4479 h4480 h4534 h4588 w4589 w4590 f4591 r4592 r4593 r4594 h4595 h4599 h4623 h4632 ⊢) <;> first | omega | ((try simp (disch := omega) only [zb] at u3429 xq2 h3430 xq12 h3435 xq14 a3441 u3442 h3443 h3444 h4070 h4351 h4415 a4479 h4480 h4534 h4588 w4589 w4590 f4591 r4592 r4593 r4594 h4595 h4599 h4623 h4632 ⊢) <;> omega)) ) ?_
                              intro q28 hqq28
                              obtain ⟨cq28, gq28, xq28⟩ := hqq28
                              have fq28 := fr_trans fq30 gq28 rfl
                              have w4637 := (gq28.2.2 _ _ t_p0 0 rfl).1
                              have w4638 := (gq30.2.2 _ _ t_p0 0 rfl).1
                              have w4639 : mm_I s11 p0 0 = mm_I q2.2 p0 0 := by rw [← es11]; exact rd_k t_p0 tq5 (by decide)
                              have a4641 := zi_and p2 8 (by decide)
                              exact sw_some ⟨cq28, fq28, (by (try simp only [zp, zo, zq] at u3429 xq2 h3430 xq12 h3435 xq14 a3441 u3442 h3443 h3444 h4070 h4351 h4415 a4479 h4480 h4534 h4588 w4589 w4590 f4591 r4592 r4593 r4594 h4595 h4599 h4623 h4632 w4637 w4638 w4639 a4641 ⊢) <;> (try simp only [zz, Int32.reduceToInt, ne_eq] at u3429 xq2 h3430 xq12 h3435 xq14 a3441 u3442 h3443 h3444 h4070 h4351 h4415 a4479 h4480 h4534 h4588 w4589 w4590 f4591 r4592 r4593 r4594 h4595 h4599 h4623 h4632 w4637 w4638 w4639 a4641 ⊢) <;> (try simp (disch := omega) only [zb] at u3429 xq2 h3430 xq12 h3435 xq14 a3441 u3442 h3443 h3444 h4070 h4351 h4415 a4479 h4480 h4534 h4588 w4589 w4590 f4591 r4592 r4593 r4594 h4595 h4599 h4623 h4632 w4637 w4638 w4639 a4641 ⊢) <;> first | omega | ((try simp (disch := omega) only [zb] at u3429 xq2 h3430 xq12 h3435 xq14 a3441 u3442 h3443 h3444 h4070 h4351 h4415 a4479 h4480 h4534 h4588 w4589 w4590 f4591 r4592 r4593 r4594 h4595 h4599 h4623 h4632 w4637 w4638 w4639 a4641 ⊢) <;> omega))⟩
                    · unfold fX9_pair_227
                      unfold fX9_pair_228
                      have w4642 : mm_I s11 q17 p1.toNatClampNeg = mm_I q2.2 q17 p1.toNatClampNeg := by rw [← es11]; exact rd_k tq17 tq5 (by decide)
                      have w4643 := (gq2.2.2 _ _ tq17 p1.toNatClampNeg rfl).1
                      have f4644 : mm_I σ0 q17 p1.toNatClampNeg = -1 := hv q17 59 p1.toNatClampNeg tq17 (Or.inr (by decide)) (by (try simp only [zp, zo, zq] at u3429 xq2 h3430 xq12 h3435 xq14 a3441 u3442 h3443 h3444 h4070 h4351 h4415 a4479 h4480 h4534 h4588 w4642 w4643 ⊢) <;> (try simp only [zz, Int32.reduceToInt, ne_eq] at u3429 xq2 h3430 xq12 h3435 xq14 a3441 u3442 h3443 h3444 h4070 h4351 h4415 a4479 h4480 h4534 h4588 w4642 w4643 ⊢) <;> (try simp (disch := omega) only [zb] at u3429 xq2 h3430 xq12 h3435 xq14 a3441 u3442 h3443 h3444 h4070 h4351 h4415 a4479 h4480 h4534 h4588 w4642 w4643 ⊢) <;> first | omega | ((try simp (disch := omega) only [zb] at u3429 xq2 h3430 xq12 h3435 xq14 a3441 u3442 h3443 h3444 h4070 h4351 h4415 a4479 h4480 h4534 h4588 w4642 w4643 ⊢) <;> omega))
                      have r4645 := ci_rg c0 tq17 p1.toNatClampNeg (lo := (-1)) (hi := 3) rfl
                      have r4646 := ci_rg cq2 tq17 p1.toNatClampNeg (lo := (-1)) (hi := 3) rfl
                      have r4647 := ci_rg cs11 tq17 p1.toNatClampNeg (lo := (-1)) (hi := 3) rfl
                      refine sw_ite (fun h4648 => ?_) (fun h4648 => ?_)
                      · have w4649 : mm_I s11 p0 0 = mm_I q2.2 p0 0 := by rw [← es11]; exact rd_k t_p0 tq5 (by decide)
                        have a4651 := zi_and p2 8 (by decide)
                        exact sw_some ⟨cs11, fs11, (by (try simp only [zp, zo, zq] at u3429 xq2 h3430 xq12 h3435 xq14 a3441 u3442 h3443 h3444 h4070 h4351 h4415 a4479 h4480 h4534 h4588 w4642 w4643 f4644 r4645 r4646 r4647 h4648 w4649 a4651 ⊢) <;> (try simp only [zz, Int32.reduceToInt, ne_eq] at u3429 xq2 h3430 xq12 h3435 xq14 a3441 u3442 h3443 h3444 h4070 h4351 h4415 a4479 h4480 h4534 h4588 w4642 w4643 f4644 r4645 r4646 r4647 h4648 w4649 a4651 ⊢) <;> (try simp (disch := omega) only [zb] at u3429 xq2 h3430 xq12 h3435 xq14 a3441 u3442 h3443 h3444 h4070 h4351 h4415 a4479 h4480 h4534 h4588 w4642 w4643 f4644 r4645 r4646 r4647 h4648 w4649 a4651 ⊢) <;> first | omega | ((try simp (disch := omega) only [zb] at u3429 xq2 h3430 xq12 h3435 xq14 a3441 u3442 h3443 h3444 h4070 h4351 h4415 a4479 h4480 h4534 h4588 w4642 w4643 f4644 r4645 r4646 r4647 h4648 w4649 a4651 ⊢) <;> omega))⟩
                      · refine sw_ite (fun h4652 => ?_) (fun h4652 => ?_)
                        · refine sw_ite (fun h4653 => ?_) (fun h4653 => ?_)
                          · have w4654 : mm_I s11 p0 0 = mm_I q2.2 p0 0 := by rw [← es11]; exact rd_k t_p0 tq5 (by decide)
                            have a4656 := zi_and p2 8 (by decide)
                            exact sw_some ⟨cs11, fs11, (by (try simp only [zp, zo, zq] at u3429 xq2 h3430 xq12 h3435 xq14 a3441 u3442 h3443 h3444 h4070 h4351 h4415 a4479 h4480 h4534 h4588 w4642 w4643 f4644 r4645 r4646 r4647 h4648 h4652 h4653 w4654 a4656 ⊢) <;> (try simp only [zz, Int32.reduceToInt, ne_eq] at u3429 xq2 h3430 xq12 h3435 xq14 a3441 u3442 h3443 h3444 h4070 h4351 h4415 a4479 h4480 h4534 h4588 w4642 w4643 f4644 r4645 r4646 r4647 h4648 h4652 h4653 w4654 a4656 ⊢) <;> (try simp (disch := omega) only [zb] at u3429 xq2 h3430 xq12 h3435 xq14 a3441 u3442 h3443 h3444 h4070 h4351 h4415 a4479 h4480 h4534 h4588 w4642 w4643 f4644 r4645 r4646 r4647 h4648 h4652 h4653 w4654 a4656 ⊢) <;> first | omega | ((try simp (disch := omega) only [zb] at u3429 xq2 h3430 xq12 h3435 xq14 a3441 u3442 h3443 h3444 h4070 h4351 h4415 a4479 h4480 h4534 h4588 w4642 w4643 f4644 r4645 r4646 r4647 h4648 h4652 h4653 w4654 a4656 ⊢) <;> omega))⟩
                          · unfold fX9_pair_250
                            refine sw_ite (fun h4657 => ?_) (fun h4657 => ?_)
                            · unfold fX9_pair_264
                              refine sw_ite (fun h4658 => ?_) (fun h4658 => ?_)
                              · have w4659 : mm_I s11 p0 0 = mm_I q2.2 p0 0 := by rw [← es11]; exact rd_k t_p0 tq5 (by decide)
                                have a4661 := zi_and p2 8 (by decide)
                                exact sw_some ⟨cs11, fs11, (by (try simp only [zp, zo, zq] at u3429 xq2 h3430 xq12 h3435 xq14 a3441 u3442 h3443 h3444 h4070 h4351 h4415 a4479 h4480 h4534 h4588 w4642 w4643 f4644 r4645 r4646 r4647 h4648 h4652 h4653 h4657 h4658 w4659 a4661 ⊢) <;> (try simp only [zz, Int32.reduceToInt, ne_eq] at u3429 xq2 h3430 xq12 h3435 xq14 a3441 u3442 h3443 h3444 h4070 h4351 h4415 a4479 h4480 h4534 h4588 w4642 w4643 f4644 r4645 r4646 r4647 h4648 h4652 h4653 h4657 h4658 w4659 a4661 ⊢) <;> (try simp (disch := omega) only [zb] at u3429 xq2 h3430 xq12 h3435 xq14 a3441 u3442 h3443 h3444 h4070 h4351 h4415 a4479 h4480 h4534 h4588 w4642 w4643 f4644 r4645 r4646 r4647 h4648 h4652 h4653 h4657 h4658 w4659 a4661 ⊢) <;> first | omega | ((try simp (disch := omega) only [zb] at u3429 xq2 h3430 xq12 h3435 xq14 a3441 u3442 h3443 h3444 h4070 h4351 h4415 a4479 h4480 h4534 h4588 w4642 w4643 f4644 r4645 r4646 r4647 h4648 h4652 h4653 h4657 h4658 w4659 a4661 ⊢) <;> omega))⟩
                              · refine sw_sh (ci_sh cs11 t_p0 rfl) ?_
                                refine sw_on (sX9_put cs11 t_p0 (by (try simp only [zp, zo, zq] at u3429 xq2 h3430 xq12 h3435 xq14 a3441 u3442 h3443 h3444 h4070 h4351 h4415 a4479 h4480 h4534 h4588 w4642 w4643 f4644 r4645 r4646 r4647 h4648 h4652 h4653 h4657 h4658 ⊢) <;> (try simp only [zz, Int32.reduceToInt, ne_eq] at u3429 xq2 h3430 xq12 h3435 xq14 a3441 u3442 h3443 h3444 h4070 h4351 h4415 a4479 h4480 h4534 h4588 w4642 w4643 f4644 r4645 r4646 r4647 h4648 h4652 h4653 h4657 h4658 ⊢) <;> (try simp (disch := omega) only [zb] at u3429 xq2 h3430 xq12 h3435 xq14 a3441 u3442 h3443 h3444 h4070 h4351 h4415 a4479 h4480 h4534 h4588 w4642 w4643 f4644 r4645 r4646 r4647 h4648 h4652 h4653 h4657 h4658 ⊢) <;> first | omega | ((try simp (disch := omega) only [zb] at u3429 xq2 h3430 xq12 h3435 xq14 a3441 u3442 h3443 h3444 h4070 h4351 h4415 a4479 h4480 h4534 h4588 w4642 w4643 f4644 r4645 r4646 r4647 h4648 h4652 h4653 h4657 h4658 ⊢) <;> omega)) ) ?_
                                intro q28 hqq28
                                obtain ⟨cq28, gq28, xq28⟩ := hqq28
                                have fq28 := fr_trans fs11 gq28 rfl
                                have w4662 := (gq28.2.2 _ _ t_p0 0 rfl).1
                                have w4663 : mm_I s11 p0 0 = mm_I q2.2 p0 0 := by rw [← es11]; exact rd_k t_p0 tq5 (by decide)
                                have a4665 := zi_and p2 8 (by decide)
                                exact sw_some ⟨cq28, fq28, (by (try simp only [zp, zo, zq] at u3429 xq2 h3430 xq12 h3435 xq14 a3441 u3442 h3443 h3444 h4070 h4351 h4415 a4479 h4480 h4534 h4588 w4642 w4643 f4644 r4645 r4646 r4647 h4648 h4652 h4653 h4657 h4658 w4662 w4663 a4665 ⊢) <;> (try simp only [zz, Int32.reduceToInt, ne_eq] at u3429 xq2 h3430 xq12 h3435 xq14 a3441 u3442 h3443 h3444 h4070 h4351 h4415 a4479 h4480 h4534 h4588 w4642 w4643 f4644 r4645 r4646 r4647 h4648 h4652 h4653 h4657 h4658 w4662 w4663 a4665 ⊢) <;> (try simp (disch := omega) only [zb] at u3429 xq2 h3430 xq12 h3435 xq14 a3441 u3442 h3443 h3444 h4070 h4351 h4415 a4479 h4480 h4534 h4588 w4642 w4643 f4644 r4645 r4646 r4647 h4648 h4652 h4653 h4657 h4658 w4662 w4663 a4665 ⊢) <;> first | omega | ((try simp (disch := omega) only [zb] at u3429 xq2 h3430 xq12 h3435 xq14 a3441 u3442 h3443 h3444 h4070 h4351 h4415 a4479 h4480 h4534 h4588 w4642 w4643 f4644 r4645 r4646 r4647 h4648 h4652 h4653 h4657 h4658 w4662 w4663 a4665 ⊢) <;> omega))⟩
                            · refine sw_sh (ci_sh cs11 t_p0 rfl) ?_
                              refine sw_on (sX9_put cs11 t_p0 (by (try simp only [zp, zo, zq] at u3429 xq2 h3430 xq12 h3435 xq14 a3441 u3442 h3443 h3444 h4070 h4351 h4415 a4479 h4480 h4534 h4588 w4642 w4643 f4644 r4645 r4646 r4647 h4648 h4652 h4653 h4657 ⊢) <;> (try simp only [zz, Int32.reduceToInt, ne_eq] at u3429 xq2 h3430 xq12 h3435 xq14 a3441 u3442 h3443 h3444 h4070 h4351 h4415 a4479 h4480 h4534 h4588 w4642 w4643 f4644 r4645 r4646 r4647 h4648 h4652 h4653 h4657 ⊢) <;> (try simp (disch := omega) only [zb] at u3429 xq2 h3430 xq12 h3435 xq14 a3441 u3442 h3443 h3444 h4070 h4351 h4415 a4479 h4480 h4534 h4588 w4642 w4643 f4644 r4645 r4646 r4647 h4648 h4652 h4653 h4657 ⊢) <;> first | omega | ((try simp (disch := omega) only [zb] at u3429 xq2 h3430 xq12 h3435 xq14 a3441 u3442 h3443 h3444 h4070 h4351 h4415 a4479 h4480 h4534 h4588 w4642 w4643 f4644 r4645 r4646 r4647 h4648 h4652 h4653 h4657 ⊢) <;> omega)) ) ?_
                              intro q30 hqq30
                              obtain ⟨cq30, gq30, xq30⟩ := hqq30
                              have fq30 := fr_trans fs11 gq30 rfl
                              unfold fX9_pair_264
                              refine sw_ite (fun h4666 => ?_) (fun h4666 => ?_)
                              · have w4667 := (gq30.2.2 _ _ t_p0 0 rfl).1
                                have w4668 : mm_I s11 p0 0 = mm_I q2.2 p0 0 := by rw [← es11]; exact rd_k t_p0 tq5 (by decide)
                                have a4670 := zi_and p2 8 (by decide)
                                exact sw_some ⟨cq30, fq30, (by (try simp only [zp, zo, zq] at u3429 xq2 h3430 xq12 h3435 xq14 a3441 u3442 h3443 h3444 h4070 h4351 h4415 a4479 h4480 h4534 h4588 w4642 w4643 f4644 r4645 r4646 r4647 h4648 h4652 h4653 h4657 h4666 w4667 w4668 a4670 ⊢) <;> (try simp only [zz, Int32.reduceToInt, ne_eq] at u3429 xq2 h3430 xq12 h3435 xq14 a3441 u3442 h3443 h3444 h4070 h4351 h4415 a4479 h4480 h4534 h4588 w4642 w4643 f4644 r4645 r4646 r4647 h4648 h4652 h4653 h4657 h4666 w4667 w4668 a4670 ⊢) <;> (try simp (disch := omega) only [zb] at u3429 xq2 h3430 xq12 h3435 xq14 a3441 u3442 h3443 h3444 h4070 h4351 h4415 a4479 h4480 h4534 h4588 w4642 w4643 f4644 r4645 r4646 r4647 h4648 h4652 h4653 h4657 h4666 w4667 w4668 a4670 ⊢) <;> first | omega | ((try simp (disch := omega) only [zb] at u3429 xq2 h3430 xq12 h3435 xq14 a3441 u3442 h3443 h3444 h4070 h4351 h4415 a4479 h4480 h4534 h4588 w4642 w4643 f4644 r4645 r4646 r4647 h4648 h4652 h4653 h4657 h4666 w4667 w4668 a4670 ⊢) <;> omega))⟩
                              · refine sw_sh (ci_sh cq30 t_p0 rfl) ?_
                                refine sw_on (sX9_put cq30 t_p0 (by (try simp only [zp, zo, zq] at u3429 xq2 h3430 xq12 h3435 xq14 a3441 u3442 h3443 h3444 h4070 h4351 h4415 a4479 h4480 h4534 h4588 w4642 w4643 f4644 r4645 r4646 r4647 h4648 h4652 h4653 h4657 h4666 ⊢) <;> (try simp only [zz, Int32.reduceToInt, ne_eq] at u3429 xq2 h3430 xq12 h3435 xq14 a3441 u3442 h3443 h3444 h4070 h4351 h4415 a4479 h4480 h4534 h4588 w4642 w4643 f4644 r4645 r4646 r4647 h4648 h4652 h4653 h4657 h4666 ⊢) <;> (try simp (disch := omega) only [zb] at u3429 xq2 h3430 xq12 h3435 xq14 a3441 u3442 h3443 h3444 h4070 h4351 h4415 a4479 h4480 h4534 h4588 w4642 w4643 f4644 r4645 r4646 r4647 h4648 h4652 h4653 h4657 h4666 ⊢) <;> first | omega | ((try simp (disch := omega) only [zb] at u3429 xq2 h3430 xq12 h3435 xq14 a3441 u3442 h3443 h3444 h4070 h4351 h4415 a4479 h4480 h4534 h4588 w4642 w4643 f4644 r4645 r4646 r4647 h4648 h4652 h4653 h4657 h4666 ⊢) <;> omega)) ) ?_
                                intro q28 hqq28
                                obtain ⟨cq28, gq28, xq28⟩ := hqq28
                                have fq28 := fr_trans fq30 gq28 rfl
                                have w4671 := (gq28.2.2 _ _ t_p0 0 rfl).1
                                have w4672 := (gq30.2.2 _ _ t_p0 0 rfl).1
                                have w4673 : mm_I s11 p0 0 = mm_I q2.2 p0 0 := by rw [← es11]; exact rd_k t_p0 tq5 (by decide)
                                have a4675 := zi_and p2 8 (by decide)
                                exact sw_some ⟨cq28, fq28, (by (try simp only [zp, zo, zq] at u3429 xq2 h3430 xq12 h3435 xq14 a3441 u3442 h3443 h3444 h4070 h4351 h4415 a4479 h4480 h4534 h4588 w4642 w4643 f4644 r4645 r4646 r4647 h4648 h4652 h4653 h4657 h4666 w4671 w4672 w4673 a4675 ⊢) <;> (try simp only [zz, Int32.reduceToInt, ne_eq] at u3429 xq2 h3430 xq12 h3435 xq14 a3441 u3442 h3443 h3444 h4070 h4351 h4415 a4479 h4480 h4534 h4588 w4642 w4643 f4644 r4645 r4646 r4647 h4648 h4652 h4653 h4657 h4666 w4671 w4672 w4673 a4675 ⊢) <;> (try simp (disch := omega) only [zb] at u3429 xq2 h3430 xq12 h3435 xq14 a3441 u3442 h3443 h3444 h4070 h4351 h4415 a4479 h4480 h4534 h4588 w4642 w4643 f4644 r4645 r4646 r4647 h4648 h4652 h4653 h4657 h4666 w4671 w4672 w4673 a4675 ⊢) <;> first | omega | ((try simp (disch := omega) only [zb] at u3429 xq2 h3430 xq12 h3435 xq14 a3441 u3442 h3443 h3444 h4070 h4351 h4415 a4479 h4480 h4534 h4588 w4642 w4643 f4644 r4645 r4646 r4647 h4648 h4652 h4653 h4657 h4666 w4671 w4672 w4673 a4675 ⊢) <;> omega))⟩
                        · unfold fX9_pair_250
                          refine sw_ite (fun h4676 => ?_) (fun h4676 => ?_)
                          · unfold fX9_pair_264
                            refine sw_ite (fun h4677 => ?_) (fun h4677 => ?_)
                            · have w4678 : mm_I s11 p0 0 = mm_I q2.2 p0 0 := by rw [← es11]; exact rd_k t_p0 tq5 (by decide)
                              have a4680 := zi_and p2 8 (by decide)
                              exact sw_some ⟨cs11, fs11, (by (try simp only [zp, zo, zq] at u3429 xq2 h3430 xq12 h3435 xq14 a3441 u3442 h3443 h3444 h4070 h4351 h4415 a4479 h4480 h4534 h4588 w4642 w4643 f4644 r4645 r4646 r4647 h4648 h4652 h4676 h4677 w4678 a4680 ⊢) <;> (try simp only [zz, Int32.reduceToInt, ne_eq] at u3429 xq2 h3430 xq12 h3435 xq14 a3441 u3442 h3443 h3444 h4070 h4351 h4415 a4479 h4480 h4534 h4588 w4642 w4643 f4644 r4645 r4646 r4647 h4648 h4652 h4676 h4677 w4678 a4680 ⊢) <;> (try simp (disch := omega) only [zb] at u3429 xq2 h3430 xq12 h3435 xq14 a3441 u3442 h3443 h3444 h4070 h4351 h4415 a4479 h4480 h4534 h4588 w4642 w4643 f4644 r4645 r4646 r4647 h4648 h4652 h4676 h4677 w4678 a4680 ⊢) <;> first | omega | ((try simp (disch := omega) only [zb] at u3429 xq2 h3430 xq12 h3435 xq14 a3441 u3442 h3443 h3444 h4070 h4351 h4415 a4479 h4480 h4534 h4588 w4642 w4643 f4644 r4645 r4646 r4647 h4648 h4652 h4676 h4677 w4678 a4680 ⊢) <;> omega))⟩
                            · refine sw_sh (ci_sh cs11 t_p0 rfl) ?_
                              refine sw_on (sX9_put cs11 t_p0 (by (try simp only [zp, zo, zq] at u3429 xq2 h3430 xq12 h3435 xq14 a3441 u3442 h3443 h3444 h4070 h4351 h4415 a4479 h4480 h4534 h4588 w4642 w4643 f4644 r4645 r4646 r4647 h4648 h4652 h4676 h4677 ⊢) <;> (try simp only [zz, Int32.reduceToInt, ne_eq] at u3429 xq2 h3430 xq12 h3435 xq14 a3441 u3442 h3443 h3444 h4070 h4351 h4415 a4479 h4480 h4534 h4588 w4642 w4643 f4644 r4645 r4646 r4647 h4648 h4652 h4676 h4677 ⊢) <;> (try simp (disch := omega) only [zb] at u3429 xq2 h3430 xq12 h3435 xq14 a3441 u3442 h3443 h3444 h4070 h4351 h4415 a4479 h4480 h4534 h4588 w4642 w4643 f4644 r4645 r4646 r4647 h4648 h4652 h4676 h4677 ⊢) <;> first | omega | ((try simp (disch := omega) only [zb] at u3429 xq2 h3430 xq12 h3435 xq14 a3441 u3442 h3443 h3444 h4070 h4351 h4415 a4479 h4480 h4534 h4588 w4642 w4643 f4644 r4645 r4646 r4647 h4648 h4652 h4676 h4677 ⊢) <;> omega)) ) ?_
                              intro q28 hqq28
                              obtain ⟨cq28, gq28, xq28⟩ := hqq28
                              have fq28 := fr_trans fs11 gq28 rfl
                              have w4681 := (gq28.2.2 _ _ t_p0 0 rfl).1
                              have w4682 : mm_I s11 p0 0 = mm_I q2.2 p0 0 := by rw [← es11]; exact rd_k t_p0 tq5 (by decide)
                              have a4684 := zi_and p2 8 (by decide)
                              exact sw_some ⟨cq28, fq28, (by (try simp only [zp, zo, zq] at u3429 xq2 h3430 xq12 h3435 xq14 a3441 u3442 h3443 h3444 h4070 h4351 h4415 a4479 h4480 h4534 h4588 w4642 w4643 f4644 r4645 r4646 r4647 h4648 h4652 h4676 h4677 w4681 w4682 a4684 ⊢) <;> (try simp only [zz, Int32.reduceToInt, ne_eq] at u3429 xq2 h3430 xq12 h3435 xq14 a3441 u3442 h3443 h3444 h4070 h4351 h4415 a4479 h4480 h4534 h4588 w4642 w4643 f4644 r4645 r4646 r4647 h4648 h4652 h4676 h4677 w4681 w4682 a4684 ⊢) <;> (try simp (disch := omega) only [zb] at u3429 xq2 h3430 xq12 h3435 xq14 a3441 u3442 h3443 h3444 h4070 h4351 h4415 a4479 h4480 h4534 h4588 w4642 w4643 f4644 r4645 r4646 r4647 h4648 h4652 h4676 h4677 w4681 w4682 a4684 ⊢) <;> first | omega | ((try simp (disch := omega) only [zb] at u3429 xq2 h3430 xq12 h3435 xq14 a3441 u3442 h3443 h3444 h4070 h4351 h4415 a4479 h4480 h4534 h4588 w4642 w4643 f4644 r4645 r4646 r4647 h4648 h4652 h4676 h4677 w4681 w4682 a4684 ⊢) <;> omega))⟩
                          · refine sw_sh (ci_sh cs11 t_p0 rfl) ?_
                            refine sw_on (sX9_put cs11 t_p0 (by (try simp only [zp, zo, zq] at u3429 xq2 h3430 xq12 h3435 xq14 a3441 u3442 h3443 h3444 h4070 h4351 h4415 a4479 h4480 h4534 h4588 w4642 w4643 f4644 r4645 r4646 r4647 h4648 h4652 h4676 ⊢) <;> (try simp only [zz, Int32.reduceToInt, ne_eq] at u3429 xq2 h3430 xq12 h3435 xq14 a3441 u3442 h3443 h3444 h4070 h4351 h4415 a4479 h4480 h4534 h4588 w4642 w4643 f4644 r4645 r4646 r4647 h4648 h4652 h4676 ⊢) <;> (try simp (disch := omega) only [zb] at u3429 xq2 h3430 xq12 h3435 xq14 a3441 u3442 h3443 h3444 h4070 h4351 h4415 a4479 h4480 h4534 h4588 w4642 w4643 f4644 r4645 r4646 r4647 h4648 h4652 h4676 ⊢) <;> first | omega | ((try simp (disch := omega) only [zb] at u3429 xq2 h3430 xq12 h3435 xq14 a3441 u3442 h3443 h3444 h4070 h4351 h4415 a4479 h4480 h4534 h4588 w4642 w4643 f4644 r4645 r4646 r4647 h4648 h4652 h4676 ⊢) <;> omega)) ) ?_
                            intro q30 hqq30
                            obtain ⟨cq30, gq30, xq30⟩ := hqq30
                            have fq30 := fr_trans fs11 gq30 rfl
                            unfold fX9_pair_264
                            refine sw_ite (fun h4685 => ?_) (fun h4685 => ?_)
                            · have w4686 := (gq30.2.2 _ _ t_p0 0 rfl).1
                              have w4687 : mm_I s11 p0 0 = mm_I q2.2 p0 0 := by rw [← es11]; exact rd_k t_p0 tq5 (by decide)
                              have a4689 := zi_and p2 8 (by decide)
                              exact sw_some ⟨cq30, fq30, (by (try simp only [zp, zo, zq] at u3429 xq2 h3430 xq12 h3435 xq14 a3441 u3442 h3443 h3444 h4070 h4351 h4415 a4479 h4480 h4534 h4588 w4642 w4643 f4644 r4645 r4646 r4647 h4648 h4652 h4676 h4685 w4686 w4687 a4689 ⊢) <;> (try simp only [zz, Int32.reduceToInt, ne_eq] at u3429 xq2 h3430 xq12 h3435 xq14 a3441 u3442 h3443 h3444 h4070 h4351 h4415 a4479 h4480 h4534 h4588 w4642 w4643 f4644 r4645 r4646 r4647 h4648 h4652 h4676 h4685 w4686 w4687 a4689 ⊢) <;> (try simp (disch := omega) only [zb] at u3429 xq2 h3430 xq12 h3435 xq14 a3441 u3442 h3443 h3444 h4070 h4351 h4415 a4479 h4480 h4534 h4588 w4642 w4643 f4644 r4645 r4646 r4647 h4648 h4652 h4676 h4685 w4686 w4687 a4689 ⊢) <;> first | omega | ((try simp (disch := omega) only [zb] at u3429 xq2 h3430 xq12 h3435 xq14 a3441 u3442 h3443 h3444 h4070 h4351 h4415 a4479 h4480 h4534 h4588 w4642 w4643 f4644 r4645 r4646 r4647 h4648 h4652 h4676 h4685 w4686 w4687 a4689 ⊢) <;> omega))⟩
                            · refine sw_sh (ci_sh cq30 t_p0 rfl) ?_
                              refine sw_on (sX9_put cq30 t_p0 (by (try simp only [zp, zo, zq] at u3429 xq2 h3430 xq12 h3435 xq14 a3441 u3442 h3443 h3444 h4070 h4351 h4415 a4479 h4480 h4534 h4588 w4642 w4643 f4644 r4645 r4646 r4647 h4648 h4652 h4676 h4685 ⊢) <;> (try simp only [zz, Int32.reduceToInt, ne_eq] at u3429 xq2 h3430 xq12 h3435 xq14 a3441 u3442 h3443 h3444 h4070 h4351 h4415 a4479 h4480 h4534 h4588 w4642 w4643 f4644 r4645 r4646 r4647 h4648 h4652 h4676 h4685 ⊢) <;> (try simp (disch := omega) only [zb] at u3429 xq2 h3430 xq12 h3435 xq14 a3441 u3442 h3443 h3444 h4070 h4351 h4415 a4479 h4480 h4534 h4588 w4642 w4643 f4644 r4645 r4646 r4647 h4648 h4652 h4676 h4685 ⊢) <;> first | omega | ((try simp (disch := omega) only [zb] at u3429 xq2 h3430 xq12 h3435 xq14 a3441 u3442 h3443 h3444 h4070 h4351 h4415 a4479 h4480 h4534 h4588 w4642 w4643 f4644 r4645 r4646 r4647 h4648 h4652 h4676 h4685 ⊢) <;> omega)) ) ?_
                              intro q28 hqq28
                              obtain ⟨cq28, gq28, xq28⟩ := hqq28
                              have fq28 := fr_trans fq30 gq28 rfl
                              have w4690 := (gq28.2.2 _ _ t_p0 0 rfl).1
                              have w4691 := (gq30.2.2 _ _ t_p0 0 rfl).1
                              have w4692 : mm_I s11 p0 0 = mm_I q2.2 p0 0 := by rw [← es11]; exact rd_k t_p0 tq5 (by decide)
                              have a4694 := zi_and p2 8 (by decide)
                              exact sw_some ⟨cq28, fq28, (by (try simp only [zp, zo, zq] at u3429 xq2 h3430 xq12 h3435 xq14 a3441 u3442 h3443 h3444 h4070 h4351 h4415 a4479 h4480 h4534 h4588 w4642 w4643 f4644 r4645 r4646 r4647 h4648 h4652 h4676 h4685 w4690 w4691 w4692 a4694 ⊢) <;> (try simp only [zz, Int32.reduceToInt, ne_eq] at u3429 xq2 h3430 xq12 h3435 xq14 a3441 u3442 h3443 h3444 h4070 h4351 h4415 a4479 h4480 h4534 h4588 w4642 w4643 f4644 r4645 r4646 r4647 h4648 h4652 h4676 h4685 w4690 w4691 w4692 a4694 ⊢) <;> (try simp (disch := omega) only [zb] at u3429 xq2 h3430 xq12 h3435 xq14 a3441 u3442 h3443 h3444 h4070 h4351 h4415 a4479 h4480 h4534 h4588 w4642 w4643 f4644 r4645 r4646 r4647 h4648 h4652 h4676 h4685 w4690 w4691 w4692 a4694 ⊢) <;> first | omega | ((try simp (disch := omega) only [zb] at u3429 xq2 h3430 xq12 h3435 xq14 a3441 u3442 h3443 h3444 h4070 h4351 h4415 a4479 h4480 h4534 h4588 w4642 w4643 f4644 r4645 r4646 r4647 h4648 h4652 h4676 h4685 w4690 w4691 w4692 a4694 ⊢) <;> omega))⟩
      · refine sw_ite (fun h4695 => ?_) (fun h4695 => ?_)
        · have w4696 : mm_I s11 p0 0 = mm_I q2.2 p0 0 := by rw [← es11]; exact rd_k t_p0 tq5 (by decide)
          have a4698 := zi_and p3 127 (by decide)
          have a4699 := zi_and p2 8 (by decide)
          exact sw_some ⟨cs11, fs11, (by (try simp only [zp, zo, zq] at u3429 xq2 h3430 xq12 h3435 xq14 a3441 u3442 h3443 h4695 w4696 a4698 a4699 ⊢) <;> (try simp only [zz, Int32.reduceToInt, ne_eq] at u3429 xq2 h3430 xq12 h3435 xq14 a3441 u3442 h3443 h4695 w4696 a4698 a4699 ⊢) <;> (try simp (disch := omega) only [zb] at u3429 xq2 h3430 xq12 h3435 xq14 a3441 u3442 h3443 h4695 w4696 a4698 a4699 ⊢) <;> first | omega | ((try simp (disch := omega) only [zb] at u3429 xq2 h3430 xq12 h3435 xq14 a3441 u3442 h3443 h4695 w4696 a4698 a4699 ⊢) <;> omega))⟩
        · have a4700 := zi_and p3 127 (by decide)
          refine sw_ite (fun h4701 => ?_) (fun h4701 => ?_)
          · have w4702 := (gq2.2.2 _ _ tq5 p1.toNatClampNeg rfl).1
            have f4703 : mm_I σ0 q5 p1.toNatClampNeg = -1 := hv q5 60 p1.toNatClampNeg tq5 (Or.inr (by decide)) (by (try simp only [zp, zo, zq] at u3429 xq2 h3430 xq12 h3435 xq14 a3441 u3442 h3443 h4695 a4700 h4701 w4702 ⊢) <;> (try simp only [zz, Int32.reduceToInt, ne_eq] at u3429 xq2 h3430 xq12 h3435 xq14 a3441 u3442 h3443 h4695 a4700 h4701 w4702 ⊢) <;> (try simp (disch := omega) only [zb] at u3429 xq2 h3430 xq12 h3435 xq14 a3441 u3442 h3443 h4695 a4700 h4701 w4702 ⊢) <;> first | omega | ((try simp (disch := omega) only [zb] at u3429 xq2 h3430 xq12 h3435 xq14 a3441 u3442 h3443 h4695 a4700 h4701 w4702 ⊢) <;> omega))
            refine sw_ite (fun h4704 => ?_) (fun h4704 => ?_)
            · have w4705 : mm_I s11 p0 0 = mm_I q2.2 p0 0 := by rw [← es11]; exact rd_k t_p0 tq5 (by decide)
              have a4707 := zi_and p2 8 (by decide)
              exact sw_some ⟨cs11, fs11, (by (try simp only [zp, zo, zq] at u3429 xq2 h3430 xq12 h3435 xq14 a3441 u3442 h3443 h4695 a4700 h4701 w4702 f4703 h4704 w4705 a4707 ⊢) <;> (try simp only [zz, Int32.reduceToInt, ne_eq] at u3429 xq2 h3430 xq12 h3435 xq14 a3441 u3442 h3443 h4695 a4700 h4701 w4702 f4703 h4704 w4705 a4707 ⊢) <;> (try simp (disch := omega) only [zb] at u3429 xq2 h3430 xq12 h3435 xq14 a3441 u3442 h3443 h4695 a4700 h4701 w4702 f4703 h4704 w4705 a4707 ⊢) <;> first | omega | ((try simp (disch := omega) only [zb] at u3429 xq2 h3430 xq12 h3435 xq14 a3441 u3442 h3443 h4695 a4700 h4701 w4702 f4703 h4704 w4705 a4707 ⊢) <;> omega))⟩
            · refine sw_sh (ci_sh cs11 t_p0 rfl) ?_
              have v4708 : mm_R s11 p0 10 = some q5 := (by rw [← es11]; exact eq5)
              refine sw_onS v4708 ?_
              refine sw_ar (ci_sh cs11 tq5 rfl) ?_
              refine sw_ib (by (try simp only [zp, zo, zq] at u3429 xq2 h3430 xq12 h3435 xq14 a3441 u3442 h3443 h4695 a4700 h4701 w4702 f4703 h4704 ⊢) <;> (try simp only [zz, Int32.reduceToInt, ne_eq] at u3429 xq2 h3430 xq12 h3435 xq14 a3441 u3442 h3443 h4695 a4700 h4701 w4702 f4703 h4704 ⊢) <;> (try simp (disch := omega) only [zb] at u3429 xq2 h3430 xq12 h3435 xq14 a3441 u3442 h3443 h4695 a4700 h4701 w4702 f4703 h4704 ⊢) <;> first | omega | ((try simp (disch := omega) only [zb] at u3429 xq2 h3430 xq12 h3435 xq14 a3441 u3442 h3443 h4695 a4700 h4701 w4702 f4703 h4704 ⊢) <;> omega)) ?_
              have cs43 := ci_wI cs11 tq5 (j := p1.toNatClampNeg) (v := (128 * (p2 &&& 127)) + (p3 &&& 127)) (kr_n rfl)
              have fs43 := fr_wI fs11 tq5 (j := p1.toNatClampNeg) (v := (128 * (p2 &&& 127)) + (p3 &&& 127)) rfl
              refine sw_let (fun s43 es43 => ?_)
              rw [es43] at cs43 fs43
              have a4709 := zi_and (p2 &&& 127) 8 (by decide)
              refine sw_ite (fun h4710 => ?_) (fun h4710 => ?_)
              · unfold fX9_pair_131
                refine sw_sh (ci_sh cs43 t_p0 rfl) ?_
                obtain ⟨q46, eq46, tq46⟩ := ci_ref cs43 t_p0 9 (κ' := 59) rfl
                refine sw_onS eq46 ?_
                refine sw_ar (ci_sh cs43 tq46 rfl) ?_
                refine sw_ib (by (try simp only [zp, zo, zq] at u3429 xq2 h3430 xq12 h3435 xq14 a3441 u3442 h3443 h4695 a4700 h4701 w4702 f4703 h4704 a4709 h4710 ⊢) <;> (try simp only [zz, Int32.reduceToInt, ne_eq] at u3429 xq2 h3430 xq12 h3435 xq14 a3441 u3442 h3443 h4695 a4700 h4701 w4702 f4703 h4704 a4709 h4710 ⊢) <;> (try simp (disch := omega) only [zb] at u3429 xq2 h3430 xq12 h3435 xq14 a3441 u3442 h3443 h4695 a4700 h4701 w4702 f4703 h4704 a4709 h4710 ⊢) <;> first | omega | ((try simp (disch := omega) only [zb] at u3429 xq2 h3430 xq12 h3435 xq14 a3441 u3442 h3443 h4695 a4700 h4701 w4702 f4703 h4704 a4709 h4710 ⊢) <;> omega)) ?_
                have cs49 := ci_wI cs43 tq46 (j := p1.toNatClampNeg) (v := (2 * p1) + (0 : Int32)) (kr_s (lo := (-1)) (hi := 3) rfl (by (try simp only [zp, zo, zq] at u3429 xq2 h3430 xq12 h3435 xq14 a3441 u3442 h3443 h4695 a4700 h4701 w4702 f4703 h4704 a4709 h4710 ⊢) <;> (try simp only [zz, Int32.reduceToInt, ne_eq] at u3429 xq2 h3430 xq12 h3435 xq14 a3441 u3442 h3443 h4695 a4700 h4701 w4702 f4703 h4704 a4709 h4710 ⊢) <;> (try simp (disch := omega) only [zb] at u3429 xq2 h3430 xq12 h3435 xq14 a3441 u3442 h3443 h4695 a4700 h4701 w4702 f4703 h4704 a4709 h4710 ⊢) <;> first | omega | ((try simp (disch := omega) only [zb] at u3429 xq2 h3430 xq12 h3435 xq14 a3441 u3442 h3443 h4695 a4700 h4701 w4702 f4703 h4704 a4709 h4710 ⊢) <;> omega)))
                have fs49 := fr_wI fs43 tq46 (j := p1.toNatClampNeg) (v := (2 * p1) + (0 : Int32)) rfl
                refine sw_let (fun s49 es49 => ?_)
                rw [es49] at cs49 fs49
                refine sw_on (sX9_code cs49 t_p0 (by (try simp only [zp, zo, zq] at u3429 xq2 h3430 xq12 h3435 xq14 a3441 u3442 h3443 h4695 a4700 h4701 w4702 f4703 h4704 a4709 h4710 ⊢) <;> (try simp only [zz, Int32.reduceToInt, ne_eq] at u3429 xq2 h3430 xq12 h3435 xq14 a3441 u3442 h3443 h4695 a4700 h4701 w4702 f4703 h4704 a4709 h4710 ⊢) <;> (try simp (disch := omega) only [zb] at u3429 xq2 h3430 xq12 h3435 xq14 a3441 u3442 h3443 h4695 a4700 h4701 w4702 f4703 h4704 a4709 h4710 ⊢) <;> first | omega | ((try simp (disch := omega) only [zb] at u3429 xq2 h3430 xq12 h3435 xq14 a3441 u3442 h3443 h4695 a4700 h4701 w4702 f4703 h4704 a4709 h4710 ⊢) <;> omega)) (by (try simp only [zp, zo, zq] at u3429 xq2 h3430 xq12 h3435 xq14 a3441 u3442 h3443 h4695 a4700 h4701 w4702 f4703 h4704 a4709 h4710 ⊢) <;> (try simp only [zz, Int32.reduceToInt, ne_eq] at u3429 xq2 h3430 xq12 h3435 xq14 a3441 u3442 h3443 h4695 a4700 h4701 w4702 f4703 h4704 a4709 h4710 ⊢) <;> (try simp (disch := omega) only [zb] at u3429 xq2 h3430 xq12 h3435 xq14 a3441 u3442 h3443 h4695 a4700 h4701 w4702 f4703 h4704 a4709 h4710 ⊢) <;> first | omega | ((try simp (disch := omega) only [zb] at u3429 xq2 h3430 xq12 h3435 xq14 a3441 u3442 h3443 h4695 a4700 h4701 w4702 f4703 h4704 a4709 h4710 ⊢) <;> omega)) ) ?_
                intro q50 hqq50
                obtain ⟨cq50, gq50, xq50⟩ := hqq50
                have fq50 := fr_trans fs49 gq50 rfl
                have w4711 := (gq50.2.2 _ _ t_p0 0 rfl).1
                have w4712 : mm_I s49 p0 0 = mm_I s43 p0 0 := by rw [← es49]; exact rd_k t_p0 tq46 (by decide)
                have w4713 : mm_I s43 p0 0 = mm_I s11 p0 0 := by rw [← es43]; exact rd_k t_p0 tq5 (by decide)
                have w4714 : mm_I s11 p0 0 = mm_I q2.2 p0 0 := by rw [← es11]; exact rd_k t_p0 tq5 (by decide)
                have a4716 := zi_and p2 8 (by decide)
                exact sw_some ⟨cq50, fq50, (by (try simp only [zp, zo, zq] at u3429 xq2 h3430 xq12 h3435 xq14 a3441 u3442 h3443 h4695 a4700 h4701 w4702 f4703 h4704 a4709 h4710 w4711 w4712 w4713 w4714 a4716 ⊢) <;> (try simp only [zz, Int32.reduceToInt, ne_eq] at u3429 xq2 h3430 xq12 h3435 xq14 a3441 u3442 h3443 h4695 a4700 h4701 w4702 f4703 h4704 a4709 h4710 w4711 w4712 w4713 w4714 a4716 ⊢) <;> (try simp (disch := omega) only [zb] at u3429 xq2 h3430 xq12 h3435 xq14 a3441 u3442 h3443 h4695 a4700 h4701 w4702 f4703 h4704 a4709 h4710 w4711 w4712 w4713 w4714 a4716 ⊢) <;> first | omega | ((try simp (disch := omega) only [zb] at u3429 xq2 h3430 xq12 h3435 xq14 a3441 u3442 h3443 h4695 a4700 h4701 w4702 f4703 h4704 a4709 h4710 w4711 w4712 w4713 w4714 a4716 ⊢) <;> omega))⟩
              · unfold fX9_pair_131
                refine sw_sh (ci_sh cs43 t_p0 rfl) ?_
                obtain ⟨q46, eq46, tq46⟩ := ci_ref cs43 t_p0 9 (κ' := 59) rfl
                refine sw_onS eq46 ?_
                refine sw_ar (ci_sh cs43 tq46 rfl) ?_
                refine sw_ib (by (try simp only [zp, zo, zq] at u3429 xq2 h3430 xq12 h3435 xq14 a3441 u3442 h3443 h4695 a4700 h4701 w4702 f4703 h4704 a4709 h4710 ⊢) <;> (try simp only [zz, Int32.reduceToInt, ne_eq] at u3429 xq2 h3430 xq12 h3435 xq14 a3441 u3442 h3443 h4695 a4700 h4701 w4702 f4703 h4704 a4709 h4710 ⊢) <;> (try simp (disch := omega) only [zb] at u3429 xq2 h3430 xq12 h3435 xq14 a3441 u3442 h3443 h4695 a4700 h4701 w4702 f4703 h4704 a4709 h4710 ⊢) <;> first | omega | ((try simp (disch := omega) only [zb] at u3429 xq2 h3430 xq12 h3435 xq14 a3441 u3442 h3443 h4695 a4700 h4701 w4702 f4703 h4704 a4709 h4710 ⊢) <;> omega)) ?_
                have cs49 := ci_wI cs43 tq46 (j := p1.toNatClampNeg) (v := (2 * p1) + (1 : Int32)) (kr_s (lo := (-1)) (hi := 3) rfl (by (try simp only [zp, zo, zq] at u3429 xq2 h3430 xq12 h3435 xq14 a3441 u3442 h3443 h4695 a4700 h4701 w4702 f4703 h4704 a4709 h4710 ⊢) <;> (try simp only [zz, Int32.reduceToInt, ne_eq] at u3429 xq2 h3430 xq12 h3435 xq14 a3441 u3442 h3443 h4695 a4700 h4701 w4702 f4703 h4704 a4709 h4710 ⊢) <;> (try simp (disch := omega) only [zb] at u3429 xq2 h3430 xq12 h3435 xq14 a3441 u3442 h3443 h4695 a4700 h4701 w4702 f4703 h4704 a4709 h4710 ⊢) <;> first | omega | ((try simp (disch := omega) only [zb] at u3429 xq2 h3430 xq12 h3435 xq14 a3441 u3442 h3443 h4695 a4700 h4701 w4702 f4703 h4704 a4709 h4710 ⊢) <;> omega)))
                have fs49 := fr_wI fs43 tq46 (j := p1.toNatClampNeg) (v := (2 * p1) + (1 : Int32)) rfl
                refine sw_let (fun s49 es49 => ?_)
                rw [es49] at cs49 fs49
                refine sw_on (sX9_code cs49 t_p0 (by (try simp only [zp, zo, zq] at u3429 xq2 h3430 xq12 h3435 xq14 a3441 u3442 h3443 h4695 a4700 h4701 w4702 f4703 h4704 a4709 h4710 ⊢) <;> (try simp only [zz, Int32.reduceToInt, ne_eq] at u3429 xq2 h3430 xq12 h3435 xq14 a3441 u3442 h3443 h4695 a4700 h4701 w4702 f4703 h4704 a4709 h4710 ⊢) <;> (try simp (disch := omega) only [zb] at u3429 xq2 h3430 xq12 h3435 xq14 a3441 u3442 h3443 h4695 a4700 h4701 w4702 f4703 h4704 a4709 h4710 ⊢) <;> first | omega | ((try simp (disch := omega) only [zb] at u3429 xq2 h3430 xq12 h3435 xq14 a3441 u3442 h3443 h4695 a4700 h4701 w4702 f4703 h4704 a4709 h4710 ⊢) <;> omega)) (by (try simp only [zp, zo, zq] at u3429 xq2 h3430 xq12 h3435 xq14 a3441 u3442 h3443 h4695 a4700 h4701 w4702 f4703 h4704 a4709 h4710 ⊢) <;> (try simp only [zz, Int32.reduceToInt, ne_eq] at u3429 xq2 h3430 xq12 h3435 xq14 a3441 u3442 h3443 h4695 a4700 h4701 w4702 f4703 h4704 a4709 h4710 ⊢) <;> (try simp (disch := omega) only [zb] at u3429 xq2 h3430 xq12 h3435 xq14 a3441 u3442 h3443 h4695 a4700 h4701 w4702 f4703 h4704 a4709 h4710 ⊢) <;> first | omega | ((try simp (disch := omega) only [zb] at u3429 xq2 h3430 xq12 h3435 xq14 a3441 u3442 h3443 h4695 a4700 h4701 w4702 f4703 h4704 a4709 h4710 ⊢) <;> omega)) ) ?_
                intro q50 hqq50
                obtain ⟨cq50, gq50, xq50⟩ := hqq50
                have fq50 := fr_trans fs49 gq50 rfl
                have w4717 := (gq50.2.2 _ _ t_p0 0 rfl).1
                have w4718 : mm_I s49 p0 0 = mm_I s43 p0 0 := by rw [← es49]; exact rd_k t_p0 tq46 (by decide)
                have w4719 : mm_I s43 p0 0 = mm_I s11 p0 0 := by rw [← es43]; exact rd_k t_p0 tq5 (by decide)
                have w4720 : mm_I s11 p0 0 = mm_I q2.2 p0 0 := by rw [← es11]; exact rd_k t_p0 tq5 (by decide)
                have a4722 := zi_and p2 8 (by decide)
                exact sw_some ⟨cq50, fq50, (by (try simp only [zp, zo, zq] at u3429 xq2 h3430 xq12 h3435 xq14 a3441 u3442 h3443 h4695 a4700 h4701 w4702 f4703 h4704 a4709 h4710 w4717 w4718 w4719 w4720 a4722 ⊢) <;> (try simp only [zz, Int32.reduceToInt, ne_eq] at u3429 xq2 h3430 xq12 h3435 xq14 a3441 u3442 h3443 h4695 a4700 h4701 w4702 f4703 h4704 a4709 h4710 w4717 w4718 w4719 w4720 a4722 ⊢) <;> (try simp (disch := omega) only [zb] at u3429 xq2 h3430 xq12 h3435 xq14 a3441 u3442 h3443 h4695 a4700 h4701 w4702 f4703 h4704 a4709 h4710 w4717 w4718 w4719 w4720 a4722 ⊢) <;> first | omega | ((try simp (disch := omega) only [zb] at u3429 xq2 h3430 xq12 h3435 xq14 a3441 u3442 h3443 h4695 a4700 h4701 w4702 f4703 h4704 a4709 h4710 w4717 w4718 w4719 w4720 a4722 ⊢) <;> omega))⟩
          · have w4723 : mm_I s11 p0 0 = mm_I q2.2 p0 0 := by rw [← es11]; exact rd_k t_p0 tq5 (by decide)
            have a4725 := zi_and p2 8 (by decide)
            exact sw_some ⟨cs11, fs11, (by (try simp only [zp, zo, zq] at u3429 xq2 h3430 xq12 h3435 xq14 a3441 u3442 h3443 h4695 a4700 h4701 w4723 a4725 ⊢) <;> (try simp only [zz, Int32.reduceToInt, ne_eq] at u3429 xq2 h3430 xq12 h3435 xq14 a3441 u3442 h3443 h4695 a4700 h4701 w4723 a4725 ⊢) <;> (try simp (disch := omega) only [zb] at u3429 xq2 h3430 xq12 h3435 xq14 a3441 u3442 h3443 h4695 a4700 h4701 w4723 a4725 ⊢) <;> first | omega | ((try simp (disch := omega) only [zb] at u3429 xq2 h3430 xq12 h3435 xq14 a3441 u3442 h3443 h4695 a4700 h4701 w4723 a4725 ⊢) <;> omega))⟩
