/-! The store's places below its count are not null (pn); new pages; cues -/
def pn (σ : mm_M) (a : Nat) : Prop := ∀ q, mm_R σ a 0 = some q → ∀ j : Nat, (j : Int) < (mm_I σ a 1).toInt → ∃ p, mm_R σ q j = some p
theorem pn_ex {σ : mm_M} {a q j : Nat} (h : pn σ a) (e : mm_R σ a 0 = some q) (hj : (j : Int) < (mm_I σ a 1).toInt) : ∃ p, mm_R σ q j = some p := h q e j hj
theorem pn_fr {T : Nat → Option Nat} {K : List Nat} {σ σ' : mm_M} {a : Nat} (h : pn σ a) (f : sFR T K σ σ') (c : sCI T σ) (t : T a = some 6) (h1 : K.contains 6 = false) (h2 : K.contains 25 = false) : pn σ' a := by
  obtain ⟨q, e, tq⟩ := ci_ref c t 0 (κ' := 25) rfl
  intro q' e' j hj
  have e1 : mm_R σ' a 0 = some q := ((f.2.2 a 6 t 0 h1).2).trans e
  rw [e1] at e'; cases e'
  rw [(f.2.2 a 6 t 1 h1).1] at hj
  rw [(f.2.2 q 25 tq j h2).2]
  exact h q e j hj
theorem pn_wR {T : Nat → Option Nat} {σ : mm_M} {a q k p : Nat} (h : pn σ a) (t : T a = some 6) (tq : T q = some 25) : pn (mm_wR σ q k (some p)) a := by
  have hne : a ≠ q := fun e => by subst e; rw [t] at tq; cases tq
  intro q' e' j hj
  have e1 : mm_R σ a 0 = some q' := (mm_up2_ne hne 0).symm.trans e'
  obtain ⟨p', hp⟩ := h q' e1 j hj
  by_cases e : q' = q ∧ j = k
  · obtain ⟨rfl, rfl⟩ := e; exact ⟨p, mm_up2_self⟩
  · refine ⟨p', ?_⟩
    show mm_up2 σ.2.2.2.1 q k (some p) q' j = _
    unfold mm_up2; rw [if_neg e]; exact hp
theorem pn_dec {σ : mm_M} {a : Nat} {v : Int32} (h : pn σ a) (hv : v.toInt ≤ (mm_I σ a 1).toInt) : pn (mm_wI σ a 1 v) a := by
  intro q e j hj
  rw [show mm_I (mm_wI σ a 1 v) a 1 = v from mm_up2_self] at hj
  exact h q e j (by omega)
theorem pn_inc {T : Nat → Option Nat} {σ : mm_M} {a q p : Nat} {c v : Int32} (h : pn σ a) (t : T a = some 6) (tq : T q = some 25) (e0 : mm_R σ a 0 = some q) (hc : mm_I σ a 1 = c) (hr : 0 ≤ c.toInt) (hv : v.toInt = c.toInt + 1) : pn (mm_wI (mm_wR σ q c.toNatClampNeg (some p)) a 1 v) a := by
  have hne : a ≠ q := fun e => by subst e; rw [t] at tq; cases tq
  have h1 := pn_wR (k := c.toNatClampNeg) (p := p) h t tq
  intro q' e' j hj
  rw [show mm_I (mm_wI (mm_wR σ q c.toNatClampNeg (some p)) a 1 v) a 1 = v from mm_up2_self] at hj
  have e1 : mm_R σ a 0 = some q' := (mm_up2_ne hne 0).symm.trans e'
  rw [e0] at e1; cases e1
  by_cases ej : j = c.toNatClampNeg
  · subst ej; exact ⟨p, mm_up2_self⟩
  · refine h1 q e' j ?_
    have : mm_I (mm_wR σ q c.toNatClampNeg (some p)) a 1 = c := hc
    rw [this]
    rw [zi_clamp] at ej
    omega
def pnd (σ : mm_M) (a : Nat) : Prop := ∀ q, mm_R σ a 7 = some q → pn σ q
theorem pnd_fr {T : Nat → Option Nat} {K : List Nat} {σ σ' : mm_M} {a : Nat} (h : pnd σ a) (f : sFR T K σ σ') (c : sCI T σ) (t : T a = some 8) (h0 : K.contains 807 = false) (h1 : K.contains 6 = false) (h2 : K.contains 25 = false) : pnd σ' a := by
  obtain ⟨q, e, tq⟩ := ci_ref c t 7 (κ' := 6) rfl
  intro q' e'
  have e1 : mm_R σ' a 7 = some q := ((f.2.2 a 8 t 7 h0).2).trans e
  rw [e1] at e'; cases e'
  exact pn_fr (h q e) f c tq h1 h2
theorem pnd_of {T : Nat → Option Nat} {K : List Nat} {σ σ' : mm_M} {a q : Nat} (f : sFR T K σ σ') (t : T a = some 8) (h0 : K.contains 807 = false) (e : mm_R σ a 7 = some q) (h : pn σ' q) : pnd σ' a := by
  intro q' e'
  rw [(f.2.2 a 8 t 7 h0).2, e] at e'; cases e'
  exact h
theorem sw_newPage {T : Nat → Option Nat} {σ : mm_M} (c : sCI T σ) : sw (fX3_init σ.1 (mm_new σ (.inl 3))) (fun R => ∃ T', sTX T T' ∧ sCI T' R ∧ sFR T [] σ R ∧ T' σ.1 = some 3) := by
  have := nX3 (F := False) (T := T) (σ := σ) ⟨c, fun h => h.elim⟩
  refine this.mono (fun R h => ?_)
  obtain ⟨T', e, g, t⟩ := h
  exact ⟨T', e.1, g.1, ev_fr e c, t⟩

abbrev KX2_copied : List Nat := [27]
set_option maxHeartbeats 4000000 in
set_option maxRecDepth 10000 in
theorem sX2_copied_13 {T : Nat → Option Nat} {σ0 : mm_M} : ∀ (n : Nat) (a0 : Nat) (r1 : Option Nat) (x2 : Int32) (σ : mm_M), sCI T σ → sFR T KX2_copied σ0 σ → (T a0 = some 2) → (∃ q, r1 = some q ∧ T q = some 27) → (0 ≤ x2.toInt ∧ x2.toInt ≤ 400) → 400 - x2.toInt < (n : Int) → sw (fX2_copied_13 n a0 r1 x2 σ) (fun R => sCI T R.2 ∧ sFR T KX2_copied σ0 R.2 ∧ (∃ q, R.1 = some q ∧ T q = some 27)) := by
  intro n
  induction n with
  | zero => intro a0 r1 x2 σ c0 f0 t_a0 t_r1 p_0 hn; exfalso; exact (by (try simp only [zp] at p_0 hn ⊢) <;> (try simp only [zz, Int32.reduceToInt, ne_eq] at p_0 hn ⊢) <;> (try simp (disch := omega) only [zb] at p_0 hn ⊢) <;> first | omega | ((try simp (disch := omega) only [zb] at p_0 hn ⊢) <;> omega))
  | succ n ih =>
    intro a0 r1 x2 σ c0 f0 t_a0 t_r1 p_0 hn
    unfold fX2_copied_13
    obtain ⟨q4, eq4, tq4⟩ := t_r1
    refine sw_onS eq4 ?_
    obtain ⟨n5, hn396, ehn396⟩ := ci_sh27 c0 tq4
    refine sw_ar ehn396 ?_
    refine sw_ite (fun h397 => ?_) (fun h397 => ?_)
    · exact sw_some ⟨c0, f0, ⟨_, rfl, tq4⟩⟩
    · refine sw_ite (fun h398 => ?_) (fun h398 => ?_)
      · exact sw_some ⟨c0, f0, ⟨_, rfl, tq4⟩⟩
      · refine sw_sh (ci_sh c0 t_a0 rfl) ?_
        obtain ⟨q9, eq9, tq9⟩ := ci_ref c0 t_a0 0 (κ' := 26) rfl
        refine sw_onS eq9 ?_
        refine sw_ar (ci_sh c0 tq9 rfl) ?_
        refine sw_ib (by (try simp only [zp] at p_0 hn hn396 h397 h398 ⊢) <;> (try simp only [zz, Int32.reduceToInt, ne_eq] at p_0 hn hn396 h397 h398 ⊢) <;> (try simp (disch := omega) only [zb] at p_0 hn hn396 h397 h398 ⊢) <;> first | omega | ((try simp (disch := omega) only [zb] at p_0 hn hn396 h397 h398 ⊢) <;> omega)) ?_
        refine sw_ib (by (try simp only [zp] at p_0 hn hn396 h397 h398 ⊢) <;> (try simp only [zz, Int32.reduceToInt, ne_eq] at p_0 hn hn396 h397 h398 ⊢) <;> (try simp (disch := omega) only [zb] at p_0 hn hn396 h397 h398 ⊢) <;> first | omega | ((try simp (disch := omega) only [zb] at p_0 hn hn396 h397 h398 ⊢) <;> omega)) ?_
        have cs13 := ci_wI c0 tq4 (j := x2.toNatClampNeg) (v := mm_I σ q9 x2.toNatClampNeg) (kr_n rfl)
        have fs13 := fr_wI f0 tq4 (j := x2.toNatClampNeg) (v := mm_I σ q9 x2.toNatClampNeg) rfl
        refine sw_let (fun s13 es13 => ?_)
        rw [es13] at cs13 fs13
        exact ih a0 (some q4) (x2 + 1) s13 cs13 fs13 t_a0 ⟨_, rfl, tq4⟩ (by (try simp only [zp] at p_0 hn hn396 h397 h398 ⊢) <;> (try simp only [zz, Int32.reduceToInt, ne_eq] at p_0 hn hn396 h397 h398 ⊢) <;> (try simp (disch := omega) only [zb] at p_0 hn hn396 h397 h398 ⊢) <;> first | omega | ((try simp (disch := omega) only [zb] at p_0 hn hn396 h397 h398 ⊢) <;> omega)) (by (try simp only [zp] at p_0 hn hn396 h397 h398 ⊢) <;> (try simp only [zz, Int32.reduceToInt, ne_eq] at p_0 hn hn396 h397 h398 ⊢) <;> (try simp (disch := omega) only [zb] at p_0 hn hn396 h397 h398 ⊢) <;> first | omega | ((try simp (disch := omega) only [zb] at p_0 hn hn396 h397 h398 ⊢) <;> omega))
/-- a cue's bytes -/
theorem sX2_copied {T : Nat → Option Nat} {σ0 : mm_M} {p0 : Nat} (c0 : sCI T σ0) (t_p0 : T p0 = some 2) : sw (fX2_copied p0 σ0) (fun R => ∃ T', sTX T T' ∧ sCI T' R.2 ∧ sFR T KX2_copied σ0 R.2 ∧ (∃ q, R.1 = some q ∧ T' q = some 27) ∧ ∀ b, b < σ0.1 → T' b = T b) := by
  unfold fX2_copied
  refine sw_sh (ci_sh c0 t_p0 rfl) ?_
  have r1 := ci_rg c0 t_p0 1 (lo := 0) (hi := 400) rfl
  have e1 : (if mm_I σ0 p0 1 < 0 then 0 else mm_I σ0 p0 1) = mm_I σ0 p0 1 := if_neg (by rw [zi_lt]; simp only [Int32.reduceToInt]; omega)
  rw [e1]
  refine sw_ck ⟨by rw [zi_lt]; simp only [Int32.reduceToInt]; omega, by rw [zi_clamp]; omega⟩ ?_
  refine sw_let (fun s3 es3 => ?_)
  have G := gd_new (F := False) (T := T) (σ := σ0) ⟨c0, fun h => h.elim⟩ (.inr (0, (mm_I σ0 p0 1).toNatClampNeg))
  have P := po_new c0 (.inr (0, (mm_I σ0 p0 1).toNatClampNeg))
  have G2 := gd_type (κ := 27) G P ⟨fun sh e => (by cases e), fun _ => ⟨_, (by rw [zi_clamp]; omega), rfl⟩⟩ (fun k κ' e => by cases e) (Or.inr rfl) (fun j => kr_n rfl) (fun j => trivial)
  have E := ev_type (κ := 27) (ev_new (T := T) (σ := σ0) (.inr (0, (mm_I σ0 p0 1).toNatClampNeg))) (Nat.le_refl _) P.1
  rw [es3] at G2 E
  have t1 := E.1 _ _ t_p0
  refine (sX2_copied_13 (T := kup T σ0.1 27) (σ0 := s3) mm_fuel p0 (some σ0.1) 0 s3 G2.1 fr_refl t1 ⟨_, rfl, kup_self⟩ (by decide) (by decide)).mono (fun R h => ?_)
  obtain ⟨c, f, x⟩ := h
  exact ⟨_, E.1, c, fr_trans (K := KX2_copied) (ev_fr E c0) (fr_tx E.1 f) rfl, x, fun b hb => (E.2.2 b hb).1⟩
abbrev KX8_beginCue0 : List Nat := [17, 18, 27]
abbrev KX8_beginCue : List Nat := [17, 18, 27, 811]
theorem sX8_beginCue {T : Nat → Option Nat} {σ0 : mm_M} {p0 : Nat} {p1 : Int32} (c0 : sCI T σ0) (t_p0 : T p0 = some 8) (p_0 : 0 ≤ p1.toInt ∧ p1.toInt ≤ 4) : sw (fX8_beginCue p0 p1 σ0) (fun R => ∃ T', sTX T T' ∧ sCI T' R ∧ sFR T KX8_beginCue σ0 R ∧ True) := by
  unfold fX8_beginCue
  refine sw_sh (ci_sh c0 t_p0 rfl) ?_
  obtain ⟨q2, eq2, tq2⟩ := ci_ref c0 t_p0 12 (κ' := 18) rfl
  refine sw_onS eq2 ?_
  refine sw_ar (ci_sh c0 tq2 rfl) ?_
  refine sw_ib (by omega) ?_
  refine sw_ite (fun h1 => ?_) (fun h1 => sw_some ⟨T, tx_refl, c0, fr_refl, trivial⟩)
  obtain ⟨q6, eq6, tq6⟩ := ci_ref c0 t_p0 9 (κ' := 2) rfl
  refine sw_onS eq6 ?_
  refine sw_sh (ci_sh c0 tq6 rfl) ?_
  refine sw_ite (fun h2 => sw_some ⟨T, tx_refl, c0, fr_refl, trivial⟩) (fun h2 => ?_)
  have r1 := ci_rg c0 t_p0 11 (lo := 0) (hi := 60) rfl
  refine sw_ite (fun h3 => sw_some ⟨T, tx_refl, c0, fr_refl, trivial⟩) (fun h3 => ?_)
  rw [zi_le] at h3
  have e60 : (60 : Int32).toInt = 60 := rfl
  rw [e60] at h3
  refine sw_let (fun s10 es10 => ?_)
  have c10 := ci_new c0 (.inl 1)
  have P := po_new c0 (.inl 1)
  have E10 := ev_new (T := T) (σ := σ0) (.inl 1)
  have f10 := fr_new (K := KX8_beginCue0) fr_refl c0 (.inl 1)
  rw [es10] at c10 P E10 f10
  refine sw_sh (ci_sh c10 t_p0 rfl) ?_
  obtain ⟨q12, eq12, tq12⟩ := ci_ref c10 t_p0 9 (κ' := 2) rfl
  refine sw_onS eq12 ?_
  refine sw_sh (ci_sh c10 tq12 rfl) ?_
  refine sw_on (sX2_copied c10 tq12) ?_
  intro q14 h14
  obtain ⟨T1, x1, c14, g14, ⟨q15, e15, t15⟩, n14⟩ := h14
  have f14 := fr_trans f10 g14 rfl
  refine sw_onS e15 ?_
  have hz : T1 σ0.1 = none := (n14 _ P.2.2.1).trans P.1
  have hs : q14.2.2.1 σ0.1 = some (.inl 1) := (g14.2.1 _ P.2.2.1).1.trans P.2.1
  have hlt : σ0.1 < q14.2.1 := Nat.lt_of_lt_of_le P.2.2.1 g14.1
  have hex : ∃ R, fX1_init σ0.1 p1 (mm_I s10 p0 13) q15 q14.2 = some R ∧ R = mm_wR (mm_wI (mm_wI (mm_wI q14.2 σ0.1 3 (-1)) σ0.1 0 p1) σ0.1 1 (mm_I s10 p0 13)) σ0.1 2 (some q15) := by
    refine ⟨_, ?_, rfl⟩
    unfold fX1_init mm_sh
    rw [if_pos hs]; rfl
  obtain ⟨q16, e16, d16⟩ := hex
  refine sw_onS e16 ?_
  have c16 : sCI T1 q16 := by rw [d16]; exact ci_wR0 (ci_wI0 (ci_wI0 (ci_wI0 c14 hz) hz) hz) hz
  have hsT : sFR T KX8_beginCue0 σ0 q16 := by
    have hzT : T σ0.1 = none := ci_fresh c0 (Nat.le_refl _)
    rw [d16]; exact fr_wR0 (fr_wI0 (fr_wI0 (fr_wI0 f14 hzT) hzT) hzT) hzT
  have hs16 : q16.2.1 σ0.1 = some (.inl 1) := by rw [d16]; exact hs
  have hlt16 : σ0.1 < q16.1 := by rw [d16]; exact hlt
  have hr16 : mm_R q16 σ0.1 2 = some q15 := by rw [d16]; exact mm_up2_self
  have c17 : sCI (kup T1 σ0.1 1) q16 := ci_type c16 hz ⟨fun sh e => by cases e; exact hs16, fun e => by cases e⟩ (fun k κ' e => by
    match k, e with
    | 0, e => cases e
    | 1, e => cases e
    | 2, e => have e2 : some 27 = some κ' := e; cases e2; exact ⟨q15, hr16, t15⟩
    | k + 3, e => cases e) (fun κ' e => by cases e) (fun j => kr_n rfl) hlt16
  have x2 : sTX T (kup T1 σ0.1 1) := tx_trans x1 (kup_tx hz)
  have tp := x2 _ _ t_p0
  obtain ⟨q17, eq17, tq17⟩ := ci_ref c0 t_p0 10 (κ' := 17) rfl
  refine sw_onS eq17 ?_
  have t17 := x2 _ _ tq17
  refine sw_ar (ci_sh c17 t17 rfl) ?_
  refine sw_ib (by omega) ?_
  refine sw_sh hs16 ?_
  have c21 := ci_wR (k := (mm_I σ0 p0 11).toNatClampNeg) (v := some σ0.1) c17 t17 (fun κ' h => by cases h) (fun κ' h => by cases h; exact fun q e => by cases e; exact kup_self)
  have f21 := fr_wRx (k := (mm_I σ0 p0 11).toNatClampNeg) (v := some σ0.1) hsT x2 t17 rfl
  refine sw_let (fun s21 es21 => ?_)
  rw [es21] at c21 f21
  refine sw_sh (ci_sh c21 tp rfl) ?_
  obtain ⟨q23, eq23, tq23⟩ := ci_ref c21 tp 12 (κ' := 18) rfl
  refine sw_onS eq23 ?_
  refine sw_ar (ci_sh c21 tq23 rfl) ?_
  refine sw_ib (by omega) ?_
  have c26 := ci_wI (j := p1.toNatClampNeg) (v := mm_I s21 p0 11) c21 tq23 (kr_n rfl)
  have f26 := fr_wIx (j := p1.toNatClampNeg) (v := mm_I s21 p0 11) f21 x2 tq23 rfl
  refine sw_let (fun s26 es26 => ?_)
  rw [es26] at c26 f26
  have hcnt : mm_I s26 p0 11 = mm_I σ0 p0 11 := (f26.2.2 p0 8 t_p0 11 rfl).1
  have c27 := ci_wI (j := 11) (v := mm_I s26 p0 11 + 1) c26 tp (kr_s (lo := 0) (hi := 60) rfl (by
    rw [hcnt]
    have e1 : (1 : Int32).toInt = 1 := rfl
    rw [zi_add, e1, zi_bm (by omega) (by omega)]; omega))
  have f26f : sFR T KX8_beginCue σ0 s26 := fr_trans fr_refl f26 rfl
  have f27 : sFR T KX8_beginCue σ0 (mm_wI s26 p0 11 (mm_I s26 p0 11 + 1)) := fr_wIx f26f x2 tp rfl
  refine sw_let (fun s27 es27 => ?_)
  rw [es27] at c27 f27
  exact sw_some ⟨_, x2, c27, f27, trivial⟩

abbrev KX6_takeOut : List Nat := [6, 25]
set_option maxHeartbeats 4000000 in
set_option maxRecDepth 10000 in
theorem sX6_takeOut_14 {T : Nat → Option Nat} {σ0 : mm_M} : ∀ (n : Nat) (a0 : Nat) (x1 : Int32) (x2 : Int32) (σ : mm_M), sCI T σ → sFR T KX6_takeOut σ0 σ → (T a0 = some 6) → (0 ≤ x2.toInt ∧ x2.toInt ≤ 20) → (pn σ a0) → (1 ≤ (mm_I σ a0 1).toInt) → 20 - x2.toInt < (n : Int) → sw (fX6_takeOut_14 n a0 x1 x2 σ) (fun R => sCI T R ∧ sFR T KX6_takeOut σ0 R ∧ (pn R a0)) := by
  intro n
  induction n with
  | zero => intro a0 x1 x2 σ c0 f0 t_a0 p_0 w_0 w_1 hn; exfalso; exact (by (try simp only [zp] at p_0 w_1 hn ⊢) <;> (try simp only [zz, Int32.reduceToInt, ne_eq] at p_0 w_1 hn ⊢) <;> (try simp (disch := omega) only [zb] at p_0 w_1 hn ⊢) <;> first | omega | ((try simp (disch := omega) only [zb] at p_0 w_1 hn ⊢) <;> omega))
  | succ n ih =>
    intro a0 x1 x2 σ c0 f0 t_a0 p_0 w_0 w_1 hn
    unfold fX6_takeOut_14
    refine sw_sh (ci_sh c0 t_a0 rfl) ?_
    have r399 := ci_rg c0 t_a0 1 (lo := 0) (hi := 20) rfl
    refine sw_ite (fun h400 => ?_) (fun h400 => ?_)
    · have cs5 := ci_wI c0 t_a0 (j := 1) (v := (mm_I σ a0 1) - 1) (kr_s (lo := 0) (hi := 20) rfl (by (try simp only [zp] at p_0 w_1 hn r399 h400 ⊢) <;> (try simp only [zz, Int32.reduceToInt, ne_eq] at p_0 w_1 hn r399 h400 ⊢) <;> (try simp (disch := omega) only [zb] at p_0 w_1 hn r399 h400 ⊢) <;> first | omega | ((try simp (disch := omega) only [zb] at p_0 w_1 hn r399 h400 ⊢) <;> omega)))
      have fs5 := fr_wI f0 t_a0 (j := 1) (v := (mm_I σ a0 1) - 1) rfl
      refine sw_let (fun s5 es5 => ?_)
      rw [es5] at cs5 fs5
      exact sw_some ⟨cs5, fs5, (by rw [← es5]; exact pn_dec w_0 (by (try simp only [zp] at p_0 w_1 hn r399 h400 ⊢) <;> (try simp only [zz, Int32.reduceToInt, ne_eq] at p_0 w_1 hn r399 h400 ⊢) <;> (try simp (disch := omega) only [zb] at p_0 w_1 hn r399 h400 ⊢) <;> first | omega | ((try simp (disch := omega) only [zb] at p_0 w_1 hn r399 h400 ⊢) <;> omega)))⟩
    · refine sw_ite (fun h401 => ?_) (fun h401 => ?_)
      · have cs7 := ci_wI c0 t_a0 (j := 1) (v := (mm_I σ a0 1) - 1) (kr_s (lo := 0) (hi := 20) rfl (by (try simp only [zp] at p_0 w_1 hn r399 h400 h401 ⊢) <;> (try simp only [zz, Int32.reduceToInt, ne_eq] at p_0 w_1 hn r399 h400 h401 ⊢) <;> (try simp (disch := omega) only [zb] at p_0 w_1 hn r399 h400 h401 ⊢) <;> first | omega | ((try simp (disch := omega) only [zb] at p_0 w_1 hn r399 h400 h401 ⊢) <;> omega)))
        have fs7 := fr_wI f0 t_a0 (j := 1) (v := (mm_I σ a0 1) - 1) rfl
        refine sw_let (fun s7 es7 => ?_)
        rw [es7] at cs7 fs7
        exact sw_some ⟨cs7, fs7, (by rw [← es7]; exact pn_dec w_0 (by (try simp only [zp] at p_0 w_1 hn r399 h400 h401 ⊢) <;> (try simp only [zz, Int32.reduceToInt, ne_eq] at p_0 w_1 hn r399 h400 h401 ⊢) <;> (try simp (disch := omega) only [zb] at p_0 w_1 hn r399 h400 h401 ⊢) <;> first | omega | ((try simp (disch := omega) only [zb] at p_0 w_1 hn r399 h400 h401 ⊢) <;> omega)))⟩
      · obtain ⟨q8, eq8, tq8⟩ := ci_ref c0 t_a0 0 (κ' := 25) rfl
        refine sw_onS eq8 ?_
        refine sw_ar (ci_sh c0 tq8 rfl) ?_
        refine sw_ib (by (try simp only [zp] at p_0 w_1 hn r399 h400 h401 ⊢) <;> (try simp only [zz, Int32.reduceToInt, ne_eq] at p_0 w_1 hn r399 h400 h401 ⊢) <;> (try simp (disch := omega) only [zb] at p_0 w_1 hn r399 h400 h401 ⊢) <;> first | omega | ((try simp (disch := omega) only [zb] at p_0 w_1 hn r399 h400 h401 ⊢) <;> omega)) ?_
        obtain ⟨q11, eq11⟩ := pn_ex (j := (x2 + 1).toNatClampNeg) w_0 eq8 (by (try simp only [zp] at p_0 w_1 hn r399 h400 h401 ⊢) <;> (try simp only [zz, Int32.reduceToInt, ne_eq] at p_0 w_1 hn r399 h400 h401 ⊢) <;> (try simp (disch := omega) only [zb] at p_0 w_1 hn r399 h400 h401 ⊢) <;> first | omega | ((try simp (disch := omega) only [zb] at p_0 w_1 hn r399 h400 h401 ⊢) <;> omega))
        have tq11 := ci_nul c0 tq8 rfl eq11
        refine sw_onS eq11 ?_
        refine sw_ib (by (try simp only [zp] at p_0 w_1 hn r399 h400 h401 ⊢) <;> (try simp only [zz, Int32.reduceToInt, ne_eq] at p_0 w_1 hn r399 h400 h401 ⊢) <;> (try simp (disch := omega) only [zb] at p_0 w_1 hn r399 h400 h401 ⊢) <;> first | omega | ((try simp (disch := omega) only [zb] at p_0 w_1 hn r399 h400 h401 ⊢) <;> omega)) ?_
        refine sw_sh (ci_sh c0 tq11 rfl) ?_
        have cs14 := ci_wR c0 tq8 (k := x2.toNatClampNeg) (v := some q11) (fun κ' h => by cases h) (fun κ' h => by cases h; exact (fun q e => by cases e; exact tq11))
        have fs14 := fr_wR f0 tq8 (k := x2.toNatClampNeg) (v := some q11) rfl
        refine sw_let (fun s14 es14 => ?_)
        rw [es14] at cs14 fs14
        have w402 : mm_I s14 a0 1 = mm_I σ a0 1 := by rw [← es14]; rfl
        have r403 := ci_rg cs14 t_a0 1 (lo := 0) (hi := 20) rfl
        have z1 : mm_I s14 a0 1 = mm_I σ a0 1 := by rw [← es14]; rfl
        exact ih a0 x1 (x2 + 1) s14 cs14 fs14 t_a0 (by (try simp only [zp] at p_0 w_1 hn r399 h400 h401 w402 r403 z1 ⊢) <;> (try simp only [zz, Int32.reduceToInt, ne_eq] at p_0 w_1 hn r399 h400 h401 w402 r403 z1 ⊢) <;> (try simp (disch := omega) only [zb] at p_0 w_1 hn r399 h400 h401 w402 r403 z1 ⊢) <;> first | omega | ((try simp (disch := omega) only [zb] at p_0 w_1 hn r399 h400 h401 w402 r403 z1 ⊢) <;> omega)) (by rw [← es14]; exact pn_wR w_0 t_a0 tq8) (by (try simp only [zp] at p_0 w_1 hn r399 h400 h401 w402 r403 z1 ⊢) <;> (try simp only [zz, Int32.reduceToInt, ne_eq] at p_0 w_1 hn r399 h400 h401 w402 r403 z1 ⊢) <;> (try simp (disch := omega) only [zb] at p_0 w_1 hn r399 h400 h401 w402 r403 z1 ⊢) <;> first | omega | ((try simp (disch := omega) only [zb] at p_0 w_1 hn r399 h400 h401 w402 r403 z1 ⊢) <;> omega)) (by (try simp only [zp] at p_0 w_1 hn r399 h400 h401 w402 r403 z1 ⊢) <;> (try simp only [zz, Int32.reduceToInt, ne_eq] at p_0 w_1 hn r399 h400 h401 w402 r403 z1 ⊢) <;> (try simp (disch := omega) only [zb] at p_0 w_1 hn r399 h400 h401 w402 r403 z1 ⊢) <;> first | omega | ((try simp (disch := omega) only [zb] at p_0 w_1 hn r399 h400 h401 w402 r403 z1 ⊢) <;> omega))
set_option maxHeartbeats 4000000 in
set_option maxRecDepth 10000 in
theorem sX6_takeOut {T : Nat → Option Nat} {σ0 : mm_M} {p0 : Nat} {p1 : Int32} (c0 : sCI T σ0) (t_p0 : T p0 = some 6) (w_0 : pn σ0 p0) : sw (fX6_takeOut p0 p1 σ0) (fun R => sCI T R ∧ sFR T KX6_takeOut σ0 R ∧ (pn R p0)) := by
  have f0 : sFR T KX6_takeOut σ0 σ0 := fr_refl
  unfold fX6_takeOut
  refine sw_sh (ci_sh c0 t_p0 rfl) ?_
  have r404 := ci_rg c0 t_p0 1 (lo := 0) (hi := 20) rfl
  refine sw_ite (fun h405 => ?_) (fun h405 => ?_)
  · exact sX6_takeOut_14 mm_fuel p0 p1 p1 σ0 c0 f0 t_p0 (by (try simp only [zp] at r404 h405 ⊢) <;> (try simp only [zz, Int32.reduceToInt, ne_eq] at r404 h405 ⊢) <;> (try simp (disch := omega) only [zb] at r404 h405 ⊢) <;> first | omega | ((try simp (disch := omega) only [zb] at r404 h405 ⊢) <;> omega)) w_0 (by (try simp only [zp] at r404 h405 ⊢) <;> (try simp only [zz, Int32.reduceToInt, ne_eq] at r404 h405 ⊢) <;> (try simp (disch := omega) only [zb] at r404 h405 ⊢) <;> first | omega | ((try simp (disch := omega) only [zb] at r404 h405 ⊢) <;> omega)) (by have hz : (mm_fuel : Int) = 2000 := rfl; rw [hz]; exact (by (try simp only [zp] at r404 h405 ⊢) <;> (try simp only [zz, Int32.reduceToInt, ne_eq] at r404 h405 ⊢) <;> (try simp (disch := omega) only [zb] at r404 h405 ⊢) <;> first | omega | ((try simp (disch := omega) only [zb] at r404 h405 ⊢) <;> omega)))
  · exact sw_some ⟨c0, f0, w_0⟩
abbrev KX6_addBehind : List Nat := [6, 25]
set_option maxHeartbeats 4000000 in
set_option maxRecDepth 10000 in
theorem sX6_addBehind {T : Nat → Option Nat} {σ0 : mm_M} {p0 : Nat} {p1 : Nat} (c0 : sCI T σ0) (t_p0 : T p0 = some 6) (t_p1 : T p1 = some 3) (w_0 : pn σ0 p0) : sw (fX6_addBehind p0 p1 σ0) (fun R => sCI T R ∧ sFR T KX6_addBehind σ0 R ∧ (pn R p0)) := by
  have f0 : sFR T KX6_addBehind σ0 σ0 := fr_refl
  unfold fX6_addBehind
  refine sw_sh (ci_sh c0 t_p0 rfl) ?_
  have r406 := ci_rg c0 t_p0 1 (lo := 0) (hi := 20) rfl
  refine sw_ite (fun h407 => ?_) (fun h407 => ?_)
  · exact sw_some ⟨c0, f0, w_0⟩
  · obtain ⟨q3, eq3, tq3⟩ := ci_ref c0 t_p0 0 (κ' := 25) rfl
    refine sw_onS eq3 ?_
    refine sw_ar (ci_sh c0 tq3 rfl) ?_
    refine sw_ib (by (try simp only [zp] at r406 h407 ⊢) <;> (try simp only [zz, Int32.reduceToInt, ne_eq] at r406 h407 ⊢) <;> (try simp (disch := omega) only [zb] at r406 h407 ⊢) <;> first | omega | ((try simp (disch := omega) only [zb] at r406 h407 ⊢) <;> omega)) ?_
    refine sw_sh (ci_sh c0 t_p1 rfl) ?_
    have cs7 := ci_wR c0 tq3 (k := (mm_I σ0 p0 1).toNatClampNeg) (v := some p1) (fun κ' h => by cases h) (fun κ' h => by cases h; exact (fun q e => by cases e; exact t_p1))
    have fs7 := fr_wR f0 tq3 (k := (mm_I σ0 p0 1).toNatClampNeg) (v := some p1) rfl
    refine sw_let (fun s7 es7 => ?_)
    rw [es7] at cs7 fs7
    have w408 : mm_I s7 p0 1 = mm_I σ0 p0 1 := by rw [← es7]; rfl
    have r409 := ci_rg cs7 t_p0 1 (lo := 0) (hi := 20) rfl
    have cs8 := ci_wI cs7 t_p0 (j := 1) (v := (mm_I s7 p0 1) + 1) (kr_s (lo := 0) (hi := 20) rfl (by (try simp only [zp] at r406 h407 w408 r409 ⊢) <;> (try simp only [zz, Int32.reduceToInt, ne_eq] at r406 h407 w408 r409 ⊢) <;> (try simp (disch := omega) only [zb] at r406 h407 w408 r409 ⊢) <;> first | omega | ((try simp (disch := omega) only [zb] at r406 h407 w408 r409 ⊢) <;> omega)))
    have fs8 := fr_wI fs7 t_p0 (j := 1) (v := (mm_I s7 p0 1) + 1) rfl
    refine sw_let (fun s8 es8 => ?_)
    rw [es8] at cs8 fs8
    exact sw_some ⟨cs8, fs8, (by have hv : (mm_I σ0 p0 1 + 1).toInt = (mm_I σ0 p0 1).toInt + 1 := (by (try simp only [zp] at r406 h407 w408 r409 ⊢) <;> (try simp only [zz, Int32.reduceToInt, ne_eq] at r406 h407 w408 r409 ⊢) <;> (try simp (disch := omega) only [zb] at r406 h407 w408 r409 ⊢) <;> first | omega | ((try simp (disch := omega) only [zb] at r406 h407 w408 r409 ⊢) <;> omega)); rw [← es8, ← es7]; exact pn_inc (c := mm_I σ0 p0 1) w_0 t_p0 tq3 eq3 rfl (by (try simp only [zp] at r406 h407 w408 r409 ⊢) <;> (try simp only [zz, Int32.reduceToInt, ne_eq] at r406 h407 w408 r409 ⊢) <;> (try simp (disch := omega) only [zb] at r406 h407 w408 r409 ⊢) <;> first | omega | ((try simp (disch := omega) only [zb] at r406 h407 w408 r409 ⊢) <;> omega)) hv)⟩
abbrev KX6_bringToEnd : List Nat := [3, 6, 22, 23, 24, 25]
set_option maxHeartbeats 4000000 in
set_option maxRecDepth 10000 in
theorem sX6_bringToEnd {T : Nat → Option Nat} {σ0 : mm_M} {p0 : Nat} {p1 : Int32} {p2 : Int32} {p3 : Int32} (c0 : sCI T σ0) (t_p0 : T p0 = some 6) (w_0 : pn σ0 p0) : sw (fX6_bringToEnd p0 p1 p2 p3 σ0) (fun R => ∃ T', sTX T T' ∧ sCI T' R.2 ∧ sFR T KX6_bringToEnd σ0 R.2 ∧ ((∃ q, R.1 = some q ∧ T' q = some 3) ∧ pn R.2 p0)) := by
  have f0 : sFR T KX6_bringToEnd σ0 σ0 := fr_refl
  unfold fX6_bringToEnd
  refine sw_sh (ci_sh c0 t_p0 rfl) ?_
  refine sw_on (sX6_placeOf c0 t_p0  ) ?_
  intro q2 hqq2
  obtain ⟨eq2, xq2⟩ := hqq2
  (try rw [eq2])
  refine sw_ite (fun h410 => ?_) (fun h410 => ?_)
  · unfold fX6_bringToEnd_20
    refine sw_ite (fun h411 => ?_) (fun h411 => ?_)
    · refine sw_sh (ci_sh c0 t_p0 rfl) ?_
      have r412 := ci_rg c0 t_p0 1 (lo := 0) (hi := 20) rfl
      refine sw_ite (fun h413 => ?_) (fun h413 => ?_)
      · unfold fX6_bringToEnd_39
        refine sw_sh (ci_sh c0 t_p0 rfl) ?_
        refine sw_on (sX6_pageAt c0 t_p0  ) ?_
        intro q6 hqq6
        obtain ⟨eq6, xq6⟩ := hqq6
        (try rw [eq6])
        refine sw_nu (fun eq7 => ?_) (fun q7 eq7 => ?_)
        · refine sw_let (fun s8 es8 => ?_)
          rw [← es8]
          refine sw_on (sw_newPage c0) ?_
          intro q9 hqq9
          obtain ⟨Tq9, nq9, cq9, gq9, xq9⟩ := hqq9
          have fq9 := fr_trans f0 (fr_tx tx_refl gq9) rfl
          have yq9 := tx_trans tx_refl nq9
          have t414 := nq9 _ _ t_p0
          unfold fX6_bringToEnd_70
          refine sw_ite (fun h415 => ?_) (fun h415 => ?_)
          · refine sw_onS rfl ?_
            refine sw_sh (ci_sh cq9 xq9 rfl) ?_
            refine sw_on (sX3_become cq9 xq9  ) ?_
            intro q16 hqq16
            obtain ⟨cq16, gq16, xq16⟩ := hqq16
            have fq16 := fr_trans fq9 (fr_tx yq9 gq16) rfl
            unfold fX6_bringToEnd_83
            refine sw_onS rfl ?_
            refine sw_sh (ci_sh cq16 t414 rfl) ?_
            refine sw_on (sX6_addBehind cq16 t414 xq9  (pn_fr (pn_fr w_0 gq9 c0 t_p0 rfl rfl) gq16 cq9 t414 rfl rfl)) ?_
            intro q13 hqq13
            obtain ⟨cq13, gq13, xq13⟩ := hqq13
            have fq13 := fr_trans fq16 (fr_tx yq9 gq13) rfl
            exact sw_some ⟨Tq9, yq9, cq13, fq13, ⟨⟨_, rfl, xq9⟩, xq13⟩⟩
          · unfold fX6_bringToEnd_83
            refine sw_onS rfl ?_
            refine sw_sh (ci_sh cq9 t414 rfl) ?_
            refine sw_on (sX6_addBehind cq9 t414 xq9  (pn_fr w_0 gq9 c0 t_p0 rfl rfl)) ?_
            intro q13 hqq13
            obtain ⟨cq13, gq13, xq13⟩ := hqq13
            have fq13 := fr_trans fq9 (fr_tx yq9 gq13) rfl
            exact sw_some ⟨Tq9, yq9, cq13, fq13, ⟨⟨_, rfl, xq9⟩, xq13⟩⟩
        · have tq7 := xq6 q7 eq7
          refine sw_sh (ci_sh c0 t_p0 rfl) ?_
          refine sw_on (sX6_takeOut c0 t_p0  w_0) ?_
          intro q18 hqq18
          obtain ⟨cq18, gq18, xq18⟩ := hqq18
          have fq18 := fr_trans f0 (fr_tx tx_refl gq18) rfl
          unfold fX6_bringToEnd_70
          refine sw_ite (fun h416 => ?_) (fun h416 => ?_)
          · refine sw_onS rfl ?_
            refine sw_sh (ci_sh cq18 tq7 rfl) ?_
            refine sw_on (sX3_become cq18 tq7  ) ?_
            intro q16 hqq16
            obtain ⟨cq16, gq16, xq16⟩ := hqq16
            have fq16 := fr_trans fq18 (fr_tx tx_refl gq16) rfl
            unfold fX6_bringToEnd_83
            refine sw_onS rfl ?_
            refine sw_sh (ci_sh cq16 t_p0 rfl) ?_
            refine sw_on (sX6_addBehind cq16 t_p0 tq7  (pn_fr xq18 gq16 cq18 t_p0 rfl rfl)) ?_
            intro q13 hqq13
            obtain ⟨cq13, gq13, xq13⟩ := hqq13
            have fq13 := fr_trans fq16 (fr_tx tx_refl gq13) rfl
            exact sw_some ⟨T, tx_refl, cq13, fq13, ⟨⟨_, rfl, tq7⟩, xq13⟩⟩
          · unfold fX6_bringToEnd_83
            refine sw_onS rfl ?_
            refine sw_sh (ci_sh cq18 t_p0 rfl) ?_
            refine sw_on (sX6_addBehind cq18 t_p0 tq7  xq18) ?_
            intro q13 hqq13
            obtain ⟨cq13, gq13, xq13⟩ := hqq13
            have fq13 := fr_trans fq18 (fr_tx tx_refl gq13) rfl
            exact sw_some ⟨T, tx_refl, cq13, fq13, ⟨⟨_, rfl, tq7⟩, xq13⟩⟩
      · unfold fX6_bringToEnd_39
        refine sw_sh (ci_sh c0 t_p0 rfl) ?_
        refine sw_on (sX6_pageAt c0 t_p0  ) ?_
        intro q6 hqq6
        obtain ⟨eq6, xq6⟩ := hqq6
        (try rw [eq6])
        refine sw_nu (fun eq7 => ?_) (fun q7 eq7 => ?_)
        · refine sw_let (fun s8 es8 => ?_)
          rw [← es8]
          refine sw_on (sw_newPage c0) ?_
          intro q9 hqq9
          obtain ⟨Tq9, nq9, cq9, gq9, xq9⟩ := hqq9
          have fq9 := fr_trans f0 (fr_tx tx_refl gq9) rfl
          have yq9 := tx_trans tx_refl nq9
          have t417 := nq9 _ _ t_p0
          unfold fX6_bringToEnd_70
          refine sw_ite (fun h418 => ?_) (fun h418 => ?_)
          · refine sw_onS rfl ?_
            refine sw_sh (ci_sh cq9 xq9 rfl) ?_
            refine sw_on (sX3_become cq9 xq9  ) ?_
            intro q16 hqq16
            obtain ⟨cq16, gq16, xq16⟩ := hqq16
            have fq16 := fr_trans fq9 (fr_tx yq9 gq16) rfl
            unfold fX6_bringToEnd_83
            refine sw_onS rfl ?_
            refine sw_sh (ci_sh cq16 t417 rfl) ?_
            refine sw_on (sX6_addBehind cq16 t417 xq9  (pn_fr (pn_fr w_0 gq9 c0 t_p0 rfl rfl) gq16 cq9 t417 rfl rfl)) ?_
            intro q13 hqq13
            obtain ⟨cq13, gq13, xq13⟩ := hqq13
            have fq13 := fr_trans fq16 (fr_tx yq9 gq13) rfl
            exact sw_some ⟨Tq9, yq9, cq13, fq13, ⟨⟨_, rfl, xq9⟩, xq13⟩⟩
          · unfold fX6_bringToEnd_83
            refine sw_onS rfl ?_
            refine sw_sh (ci_sh cq9 t417 rfl) ?_
            refine sw_on (sX6_addBehind cq9 t417 xq9  (pn_fr w_0 gq9 c0 t_p0 rfl rfl)) ?_
            intro q13 hqq13
            obtain ⟨cq13, gq13, xq13⟩ := hqq13
            have fq13 := fr_trans fq9 (fr_tx yq9 gq13) rfl
            exact sw_some ⟨Tq9, yq9, cq13, fq13, ⟨⟨_, rfl, xq9⟩, xq13⟩⟩
        · have tq7 := xq6 q7 eq7
          refine sw_sh (ci_sh c0 t_p0 rfl) ?_
          refine sw_on (sX6_takeOut c0 t_p0  w_0) ?_
          intro q18 hqq18
          obtain ⟨cq18, gq18, xq18⟩ := hqq18
          have fq18 := fr_trans f0 (fr_tx tx_refl gq18) rfl
          unfold fX6_bringToEnd_70
          refine sw_ite (fun h419 => ?_) (fun h419 => ?_)
          · refine sw_onS rfl ?_
            refine sw_sh (ci_sh cq18 tq7 rfl) ?_
            refine sw_on (sX3_become cq18 tq7  ) ?_
            intro q16 hqq16
            obtain ⟨cq16, gq16, xq16⟩ := hqq16
            have fq16 := fr_trans fq18 (fr_tx tx_refl gq16) rfl
            unfold fX6_bringToEnd_83
            refine sw_onS rfl ?_
            refine sw_sh (ci_sh cq16 t_p0 rfl) ?_
            refine sw_on (sX6_addBehind cq16 t_p0 tq7  (pn_fr xq18 gq16 cq18 t_p0 rfl rfl)) ?_
            intro q13 hqq13
            obtain ⟨cq13, gq13, xq13⟩ := hqq13
            have fq13 := fr_trans fq16 (fr_tx tx_refl gq13) rfl
            exact sw_some ⟨T, tx_refl, cq13, fq13, ⟨⟨_, rfl, tq7⟩, xq13⟩⟩
          · unfold fX6_bringToEnd_83
            refine sw_onS rfl ?_
            refine sw_sh (ci_sh cq18 t_p0 rfl) ?_
            refine sw_on (sX6_addBehind cq18 t_p0 tq7  xq18) ?_
            intro q13 hqq13
            obtain ⟨cq13, gq13, xq13⟩ := hqq13
            have fq13 := fr_trans fq18 (fr_tx tx_refl gq13) rfl
            exact sw_some ⟨T, tx_refl, cq13, fq13, ⟨⟨_, rfl, tq7⟩, xq13⟩⟩
    · unfold fX6_bringToEnd_39
      refine sw_sh (ci_sh c0 t_p0 rfl) ?_
      refine sw_on (sX6_pageAt c0 t_p0  ) ?_
      intro q6 hqq6
      obtain ⟨eq6, xq6⟩ := hqq6
      (try rw [eq6])
      refine sw_nu (fun eq7 => ?_) (fun q7 eq7 => ?_)
      · refine sw_let (fun s8 es8 => ?_)
        rw [← es8]
        refine sw_on (sw_newPage c0) ?_
        intro q9 hqq9
        obtain ⟨Tq9, nq9, cq9, gq9, xq9⟩ := hqq9
        have fq9 := fr_trans f0 (fr_tx tx_refl gq9) rfl
        have yq9 := tx_trans tx_refl nq9
        have t420 := nq9 _ _ t_p0
        unfold fX6_bringToEnd_70
        refine sw_ite (fun h421 => ?_) (fun h421 => ?_)
        · refine sw_onS rfl ?_
          refine sw_sh (ci_sh cq9 xq9 rfl) ?_
          refine sw_on (sX3_become cq9 xq9  ) ?_
          intro q16 hqq16
          obtain ⟨cq16, gq16, xq16⟩ := hqq16
          have fq16 := fr_trans fq9 (fr_tx yq9 gq16) rfl
          unfold fX6_bringToEnd_83
          refine sw_onS rfl ?_
          refine sw_sh (ci_sh cq16 t420 rfl) ?_
          refine sw_on (sX6_addBehind cq16 t420 xq9  (pn_fr (pn_fr w_0 gq9 c0 t_p0 rfl rfl) gq16 cq9 t420 rfl rfl)) ?_
          intro q13 hqq13
          obtain ⟨cq13, gq13, xq13⟩ := hqq13
          have fq13 := fr_trans fq16 (fr_tx yq9 gq13) rfl
          exact sw_some ⟨Tq9, yq9, cq13, fq13, ⟨⟨_, rfl, xq9⟩, xq13⟩⟩
        · unfold fX6_bringToEnd_83
          refine sw_onS rfl ?_
          refine sw_sh (ci_sh cq9 t420 rfl) ?_
          refine sw_on (sX6_addBehind cq9 t420 xq9  (pn_fr w_0 gq9 c0 t_p0 rfl rfl)) ?_
          intro q13 hqq13
          obtain ⟨cq13, gq13, xq13⟩ := hqq13
          have fq13 := fr_trans fq9 (fr_tx yq9 gq13) rfl
          exact sw_some ⟨Tq9, yq9, cq13, fq13, ⟨⟨_, rfl, xq9⟩, xq13⟩⟩
      · have tq7 := xq6 q7 eq7
        refine sw_sh (ci_sh c0 t_p0 rfl) ?_
        refine sw_on (sX6_takeOut c0 t_p0  w_0) ?_
        intro q18 hqq18
        obtain ⟨cq18, gq18, xq18⟩ := hqq18
        have fq18 := fr_trans f0 (fr_tx tx_refl gq18) rfl
        unfold fX6_bringToEnd_70
        refine sw_ite (fun h422 => ?_) (fun h422 => ?_)
        · refine sw_onS rfl ?_
          refine sw_sh (ci_sh cq18 tq7 rfl) ?_
          refine sw_on (sX3_become cq18 tq7  ) ?_
          intro q16 hqq16
          obtain ⟨cq16, gq16, xq16⟩ := hqq16
          have fq16 := fr_trans fq18 (fr_tx tx_refl gq16) rfl
          unfold fX6_bringToEnd_83
          refine sw_onS rfl ?_
          refine sw_sh (ci_sh cq16 t_p0 rfl) ?_
          refine sw_on (sX6_addBehind cq16 t_p0 tq7  (pn_fr xq18 gq16 cq18 t_p0 rfl rfl)) ?_
          intro q13 hqq13
          obtain ⟨cq13, gq13, xq13⟩ := hqq13
          have fq13 := fr_trans fq16 (fr_tx tx_refl gq13) rfl
          exact sw_some ⟨T, tx_refl, cq13, fq13, ⟨⟨_, rfl, tq7⟩, xq13⟩⟩
        · unfold fX6_bringToEnd_83
          refine sw_onS rfl ?_
          refine sw_sh (ci_sh cq18 t_p0 rfl) ?_
          refine sw_on (sX6_addBehind cq18 t_p0 tq7  xq18) ?_
          intro q13 hqq13
          obtain ⟨cq13, gq13, xq13⟩ := hqq13
          have fq13 := fr_trans fq18 (fr_tx tx_refl gq13) rfl
          exact sw_some ⟨T, tx_refl, cq13, fq13, ⟨⟨_, rfl, tq7⟩, xq13⟩⟩
  · unfold fX6_bringToEnd_20
    refine sw_ite (fun h423 => ?_) (fun h423 => ?_)
    · refine sw_sh (ci_sh c0 t_p0 rfl) ?_
      have r424 := ci_rg c0 t_p0 1 (lo := 0) (hi := 20) rfl
      refine sw_ite (fun h425 => ?_) (fun h425 => ?_)
      · unfold fX6_bringToEnd_39
        refine sw_sh (ci_sh c0 t_p0 rfl) ?_
        refine sw_on (sX6_pageAt c0 t_p0  ) ?_
        intro q6 hqq6
        obtain ⟨eq6, xq6⟩ := hqq6
        (try rw [eq6])
        refine sw_nu (fun eq7 => ?_) (fun q7 eq7 => ?_)
        · refine sw_let (fun s8 es8 => ?_)
          rw [← es8]
          refine sw_on (sw_newPage c0) ?_
          intro q9 hqq9
          obtain ⟨Tq9, nq9, cq9, gq9, xq9⟩ := hqq9
          have fq9 := fr_trans f0 (fr_tx tx_refl gq9) rfl
          have yq9 := tx_trans tx_refl nq9
          have t426 := nq9 _ _ t_p0
          unfold fX6_bringToEnd_70
          refine sw_ite (fun h427 => ?_) (fun h427 => ?_)
          · refine sw_onS rfl ?_
            refine sw_sh (ci_sh cq9 xq9 rfl) ?_
            refine sw_on (sX3_become cq9 xq9  ) ?_
            intro q16 hqq16
            obtain ⟨cq16, gq16, xq16⟩ := hqq16
            have fq16 := fr_trans fq9 (fr_tx yq9 gq16) rfl
            unfold fX6_bringToEnd_83
            refine sw_onS rfl ?_
            refine sw_sh (ci_sh cq16 t426 rfl) ?_
            refine sw_on (sX6_addBehind cq16 t426 xq9  (pn_fr (pn_fr w_0 gq9 c0 t_p0 rfl rfl) gq16 cq9 t426 rfl rfl)) ?_
            intro q13 hqq13
            obtain ⟨cq13, gq13, xq13⟩ := hqq13
            have fq13 := fr_trans fq16 (fr_tx yq9 gq13) rfl
            exact sw_some ⟨Tq9, yq9, cq13, fq13, ⟨⟨_, rfl, xq9⟩, xq13⟩⟩
          · unfold fX6_bringToEnd_83
            refine sw_onS rfl ?_
            refine sw_sh (ci_sh cq9 t426 rfl) ?_
            refine sw_on (sX6_addBehind cq9 t426 xq9  (pn_fr w_0 gq9 c0 t_p0 rfl rfl)) ?_
            intro q13 hqq13
            obtain ⟨cq13, gq13, xq13⟩ := hqq13
            have fq13 := fr_trans fq9 (fr_tx yq9 gq13) rfl
            exact sw_some ⟨Tq9, yq9, cq13, fq13, ⟨⟨_, rfl, xq9⟩, xq13⟩⟩
        · have tq7 := xq6 q7 eq7
          refine sw_sh (ci_sh c0 t_p0 rfl) ?_
          refine sw_on (sX6_takeOut c0 t_p0  w_0) ?_
          intro q18 hqq18
          obtain ⟨cq18, gq18, xq18⟩ := hqq18
          have fq18 := fr_trans f0 (fr_tx tx_refl gq18) rfl
          unfold fX6_bringToEnd_70
          refine sw_ite (fun h428 => ?_) (fun h428 => ?_)
          · refine sw_onS rfl ?_
            refine sw_sh (ci_sh cq18 tq7 rfl) ?_
            refine sw_on (sX3_become cq18 tq7  ) ?_
            intro q16 hqq16
            obtain ⟨cq16, gq16, xq16⟩ := hqq16
            have fq16 := fr_trans fq18 (fr_tx tx_refl gq16) rfl
            unfold fX6_bringToEnd_83
            refine sw_onS rfl ?_
            refine sw_sh (ci_sh cq16 t_p0 rfl) ?_
            refine sw_on (sX6_addBehind cq16 t_p0 tq7  (pn_fr xq18 gq16 cq18 t_p0 rfl rfl)) ?_
            intro q13 hqq13
            obtain ⟨cq13, gq13, xq13⟩ := hqq13
            have fq13 := fr_trans fq16 (fr_tx tx_refl gq13) rfl
            exact sw_some ⟨T, tx_refl, cq13, fq13, ⟨⟨_, rfl, tq7⟩, xq13⟩⟩
          · unfold fX6_bringToEnd_83
            refine sw_onS rfl ?_
            refine sw_sh (ci_sh cq18 t_p0 rfl) ?_
            refine sw_on (sX6_addBehind cq18 t_p0 tq7  xq18) ?_
            intro q13 hqq13
            obtain ⟨cq13, gq13, xq13⟩ := hqq13
            have fq13 := fr_trans fq18 (fr_tx tx_refl gq13) rfl
            exact sw_some ⟨T, tx_refl, cq13, fq13, ⟨⟨_, rfl, tq7⟩, xq13⟩⟩
      · unfold fX6_bringToEnd_39
        refine sw_sh (ci_sh c0 t_p0 rfl) ?_
        refine sw_on (sX6_pageAt c0 t_p0  ) ?_
        intro q6 hqq6
        obtain ⟨eq6, xq6⟩ := hqq6
        (try rw [eq6])
        refine sw_nu (fun eq7 => ?_) (fun q7 eq7 => ?_)
        · refine sw_let (fun s8 es8 => ?_)
          rw [← es8]
          refine sw_on (sw_newPage c0) ?_
          intro q9 hqq9
          obtain ⟨Tq9, nq9, cq9, gq9, xq9⟩ := hqq9
          have fq9 := fr_trans f0 (fr_tx tx_refl gq9) rfl
          have yq9 := tx_trans tx_refl nq9
          have t429 := nq9 _ _ t_p0
          unfold fX6_bringToEnd_70
          refine sw_ite (fun h430 => ?_) (fun h430 => ?_)
          · refine sw_onS rfl ?_
            refine sw_sh (ci_sh cq9 xq9 rfl) ?_
            refine sw_on (sX3_become cq9 xq9  ) ?_
            intro q16 hqq16
            obtain ⟨cq16, gq16, xq16⟩ := hqq16
            have fq16 := fr_trans fq9 (fr_tx yq9 gq16) rfl
            unfold fX6_bringToEnd_83
            refine sw_onS rfl ?_
            refine sw_sh (ci_sh cq16 t429 rfl) ?_
            refine sw_on (sX6_addBehind cq16 t429 xq9  (pn_fr (pn_fr w_0 gq9 c0 t_p0 rfl rfl) gq16 cq9 t429 rfl rfl)) ?_
            intro q13 hqq13
            obtain ⟨cq13, gq13, xq13⟩ := hqq13
            have fq13 := fr_trans fq16 (fr_tx yq9 gq13) rfl
            exact sw_some ⟨Tq9, yq9, cq13, fq13, ⟨⟨_, rfl, xq9⟩, xq13⟩⟩
          · unfold fX6_bringToEnd_83
            refine sw_onS rfl ?_
            refine sw_sh (ci_sh cq9 t429 rfl) ?_
            refine sw_on (sX6_addBehind cq9 t429 xq9  (pn_fr w_0 gq9 c0 t_p0 rfl rfl)) ?_
            intro q13 hqq13
            obtain ⟨cq13, gq13, xq13⟩ := hqq13
            have fq13 := fr_trans fq9 (fr_tx yq9 gq13) rfl
            exact sw_some ⟨Tq9, yq9, cq13, fq13, ⟨⟨_, rfl, xq9⟩, xq13⟩⟩
        · have tq7 := xq6 q7 eq7
          refine sw_sh (ci_sh c0 t_p0 rfl) ?_
          refine sw_on (sX6_takeOut c0 t_p0  w_0) ?_
          intro q18 hqq18
          obtain ⟨cq18, gq18, xq18⟩ := hqq18
          have fq18 := fr_trans f0 (fr_tx tx_refl gq18) rfl
          unfold fX6_bringToEnd_70
          refine sw_ite (fun h431 => ?_) (fun h431 => ?_)
          · refine sw_onS rfl ?_
            refine sw_sh (ci_sh cq18 tq7 rfl) ?_
            refine sw_on (sX3_become cq18 tq7  ) ?_
            intro q16 hqq16
            obtain ⟨cq16, gq16, xq16⟩ := hqq16
            have fq16 := fr_trans fq18 (fr_tx tx_refl gq16) rfl
            unfold fX6_bringToEnd_83
            refine sw_onS rfl ?_
            refine sw_sh (ci_sh cq16 t_p0 rfl) ?_
            refine sw_on (sX6_addBehind cq16 t_p0 tq7  (pn_fr xq18 gq16 cq18 t_p0 rfl rfl)) ?_
            intro q13 hqq13
            obtain ⟨cq13, gq13, xq13⟩ := hqq13
            have fq13 := fr_trans fq16 (fr_tx tx_refl gq13) rfl
            exact sw_some ⟨T, tx_refl, cq13, fq13, ⟨⟨_, rfl, tq7⟩, xq13⟩⟩
          · unfold fX6_bringToEnd_83
            refine sw_onS rfl ?_
            refine sw_sh (ci_sh cq18 t_p0 rfl) ?_
            refine sw_on (sX6_addBehind cq18 t_p0 tq7  xq18) ?_
            intro q13 hqq13
            obtain ⟨cq13, gq13, xq13⟩ := hqq13
            have fq13 := fr_trans fq18 (fr_tx tx_refl gq13) rfl
            exact sw_some ⟨T, tx_refl, cq13, fq13, ⟨⟨_, rfl, tq7⟩, xq13⟩⟩
    · unfold fX6_bringToEnd_39
      refine sw_sh (ci_sh c0 t_p0 rfl) ?_
      refine sw_on (sX6_pageAt c0 t_p0  ) ?_
      intro q6 hqq6
      obtain ⟨eq6, xq6⟩ := hqq6
      (try rw [eq6])
      refine sw_nu (fun eq7 => ?_) (fun q7 eq7 => ?_)
      · refine sw_let (fun s8 es8 => ?_)
        rw [← es8]
        refine sw_on (sw_newPage c0) ?_
        intro q9 hqq9
        obtain ⟨Tq9, nq9, cq9, gq9, xq9⟩ := hqq9
        have fq9 := fr_trans f0 (fr_tx tx_refl gq9) rfl
        have yq9 := tx_trans tx_refl nq9
        have t432 := nq9 _ _ t_p0
        unfold fX6_bringToEnd_70
        refine sw_ite (fun h433 => ?_) (fun h433 => ?_)
        · refine sw_onS rfl ?_
          refine sw_sh (ci_sh cq9 xq9 rfl) ?_
          refine sw_on (sX3_become cq9 xq9  ) ?_
          intro q16 hqq16
          obtain ⟨cq16, gq16, xq16⟩ := hqq16
          have fq16 := fr_trans fq9 (fr_tx yq9 gq16) rfl
          unfold fX6_bringToEnd_83
          refine sw_onS rfl ?_
          refine sw_sh (ci_sh cq16 t432 rfl) ?_
          refine sw_on (sX6_addBehind cq16 t432 xq9  (pn_fr (pn_fr w_0 gq9 c0 t_p0 rfl rfl) gq16 cq9 t432 rfl rfl)) ?_
          intro q13 hqq13
          obtain ⟨cq13, gq13, xq13⟩ := hqq13
          have fq13 := fr_trans fq16 (fr_tx yq9 gq13) rfl
          exact sw_some ⟨Tq9, yq9, cq13, fq13, ⟨⟨_, rfl, xq9⟩, xq13⟩⟩
        · unfold fX6_bringToEnd_83
          refine sw_onS rfl ?_
          refine sw_sh (ci_sh cq9 t432 rfl) ?_
          refine sw_on (sX6_addBehind cq9 t432 xq9  (pn_fr w_0 gq9 c0 t_p0 rfl rfl)) ?_
          intro q13 hqq13
          obtain ⟨cq13, gq13, xq13⟩ := hqq13
          have fq13 := fr_trans fq9 (fr_tx yq9 gq13) rfl
          exact sw_some ⟨Tq9, yq9, cq13, fq13, ⟨⟨_, rfl, xq9⟩, xq13⟩⟩
      · have tq7 := xq6 q7 eq7
        refine sw_sh (ci_sh c0 t_p0 rfl) ?_
        refine sw_on (sX6_takeOut c0 t_p0  w_0) ?_
        intro q18 hqq18
        obtain ⟨cq18, gq18, xq18⟩ := hqq18
        have fq18 := fr_trans f0 (fr_tx tx_refl gq18) rfl
        unfold fX6_bringToEnd_70
        refine sw_ite (fun h434 => ?_) (fun h434 => ?_)
        · refine sw_onS rfl ?_
          refine sw_sh (ci_sh cq18 tq7 rfl) ?_
          refine sw_on (sX3_become cq18 tq7  ) ?_
          intro q16 hqq16
          obtain ⟨cq16, gq16, xq16⟩ := hqq16
          have fq16 := fr_trans fq18 (fr_tx tx_refl gq16) rfl
          unfold fX6_bringToEnd_83
          refine sw_onS rfl ?_
          refine sw_sh (ci_sh cq16 t_p0 rfl) ?_
          refine sw_on (sX6_addBehind cq16 t_p0 tq7  (pn_fr xq18 gq16 cq18 t_p0 rfl rfl)) ?_
          intro q13 hqq13
          obtain ⟨cq13, gq13, xq13⟩ := hqq13
          have fq13 := fr_trans fq16 (fr_tx tx_refl gq13) rfl
          exact sw_some ⟨T, tx_refl, cq13, fq13, ⟨⟨_, rfl, tq7⟩, xq13⟩⟩
        · unfold fX6_bringToEnd_83
          refine sw_onS rfl ?_
          refine sw_sh (ci_sh cq18 t_p0 rfl) ?_
          refine sw_on (sX6_addBehind cq18 t_p0 tq7  xq18) ?_
          intro q13 hqq13
          obtain ⟨cq13, gq13, xq13⟩ := hqq13
          have fq13 := fr_trans fq18 (fr_tx tx_refl gq13) rfl
          exact sw_some ⟨T, tx_refl, cq13, fq13, ⟨⟨_, rfl, tq7⟩, xq13⟩⟩
abbrev KX8_tick : List Nat := [1, 2, 17, 18, 26, 27, 811, 813]
set_option maxHeartbeats 4000000 in
set_option maxRecDepth 10000 in
theorem sX8_tick {T : Nat → Option Nat} {σ0 : mm_M} {p0 : Nat} {p1 : Int32} (c0 : sCI T σ0) (t_p0 : T p0 = some 8) : sw (fX8_tick p0 p1 σ0) (fun R => ∃ T', sTX T T' ∧ sCI T' R.2 ∧ sFR T KX8_tick σ0 R.2 ∧ (True)) := by
  have f0 : sFR T KX8_tick σ0 σ0 := fr_refl
  unfold fX8_tick
  refine sw_ite (fun h435 => ?_) (fun h435 => ?_)
  · exact sw_some ⟨T, tx_refl, c0, f0, trivial⟩
  · refine sw_ite (fun h436 => ?_) (fun h436 => ?_)
    · refine sw_sh (ci_sh c0 t_p0 rfl) ?_
      have cs4 := ci_wI c0 t_p0 (j := 13) (v := (mm_I σ0 p0 13) + p1) (kr_n rfl)
      have fs4 := fr_wIx f0 tx_refl t_p0 (j := 13) (v := (mm_I σ0 p0 13) + p1) rfl
      refine sw_let (fun s4 es4 => ?_)
      rw [es4] at cs4 fs4
      refine sw_on (sX8_readLines cs4 t_p0 (by (try simp only [zp] at h435 h436 ⊢) <;> (try simp only [zz, Int32.reduceToInt, ne_eq] at h435 h436 ⊢) <;> (try simp (disch := omega) only [zb] at h435 h436 ⊢) <;> first | omega | ((try simp (disch := omega) only [zb] at h435 h436 ⊢) <;> omega)) ) ?_
      intro q6 hqq6
      obtain ⟨cq6, gq6, xq6⟩ := hqq6
      have fq6 := fr_trans fs4 (fr_tx tx_refl gq6) rfl
      refine sw_sh (ci_sh cq6 t_p0 rfl) ?_
      refine sw_on (sX8_endCue cq6 t_p0 (by (try simp only [zp] at h435 h436 ⊢) <;> (try simp only [zz, Int32.reduceToInt, ne_eq] at h435 h436 ⊢) <;> (try simp (disch := omega) only [zb] at h435 h436 ⊢) <;> first | omega | ((try simp (disch := omega) only [zb] at h435 h436 ⊢) <;> omega)) ) ?_
      intro q8 hqq8
      obtain ⟨cq8, gq8, xq8⟩ := hqq8
      have fq8 := fr_trans fq6 (fr_tx tx_refl gq8) rfl
      refine sw_sh (ci_sh cq8 t_p0 rfl) ?_
      refine sw_on (sX8_beginCue cq8 t_p0 (by (try simp only [zp] at h435 h436 ⊢) <;> (try simp only [zz, Int32.reduceToInt, ne_eq] at h435 h436 ⊢) <;> (try simp (disch := omega) only [zb] at h435 h436 ⊢) <;> first | omega | ((try simp (disch := omega) only [zb] at h435 h436 ⊢) <;> omega)) ) ?_
      intro q10 hqq10
      obtain ⟨Tq10, nq10, cq10, gq10, xq10⟩ := hqq10
      have fq10 := fr_trans fq8 (fr_tx tx_refl gq10) rfl
      have yq10 := tx_trans tx_refl nq10
      have t437 := nq10 _ _ t_p0
      refine sw_sh (ci_sh cq10 t437 rfl) ?_
      refine sw_on (sX8_readLines cq10 t437 (by (try simp only [zp] at h435 h436 ⊢) <;> (try simp only [zz, Int32.reduceToInt, ne_eq] at h435 h436 ⊢) <;> (try simp (disch := omega) only [zb] at h435 h436 ⊢) <;> first | omega | ((try simp (disch := omega) only [zb] at h435 h436 ⊢) <;> omega)) ) ?_
      intro q13 hqq13
      obtain ⟨cq13, gq13, xq13⟩ := hqq13
      have fq13 := fr_trans fq10 (fr_tx yq10 gq13) rfl
      refine sw_sh (ci_sh cq13 t437 rfl) ?_
      refine sw_on (sX8_endCue cq13 t437 (by (try simp only [zp] at h435 h436 ⊢) <;> (try simp only [zz, Int32.reduceToInt, ne_eq] at h435 h436 ⊢) <;> (try simp (disch := omega) only [zb] at h435 h436 ⊢) <;> first | omega | ((try simp (disch := omega) only [zb] at h435 h436 ⊢) <;> omega)) ) ?_
      intro q15 hqq15
      obtain ⟨cq15, gq15, xq15⟩ := hqq15
      have fq15 := fr_trans fq13 (fr_tx yq10 gq15) rfl
      refine sw_sh (ci_sh cq15 t437 rfl) ?_
      refine sw_on (sX8_beginCue cq15 t437 (by (try simp only [zp] at h435 h436 ⊢) <;> (try simp only [zz, Int32.reduceToInt, ne_eq] at h435 h436 ⊢) <;> (try simp (disch := omega) only [zb] at h435 h436 ⊢) <;> first | omega | ((try simp (disch := omega) only [zb] at h435 h436 ⊢) <;> omega)) ) ?_
      intro q17 hqq17
      obtain ⟨Tq17, nq17, cq17, gq17, xq17⟩ := hqq17
      have fq17 := fr_trans fq15 (fr_tx yq10 gq17) rfl
      have yq17 := tx_trans yq10 nq17
      have t438 := nq17 _ _ t437
      refine sw_sh (ci_sh cq17 t438 rfl) ?_
      refine sw_on (sX8_readLines cq17 t438 (by (try simp only [zp] at h435 h436 ⊢) <;> (try simp only [zz, Int32.reduceToInt, ne_eq] at h435 h436 ⊢) <;> (try simp (disch := omega) only [zb] at h435 h436 ⊢) <;> first | omega | ((try simp (disch := omega) only [zb] at h435 h436 ⊢) <;> omega)) ) ?_
      intro q20 hqq20
      obtain ⟨cq20, gq20, xq20⟩ := hqq20
      have fq20 := fr_trans fq17 (fr_tx yq17 gq20) rfl
      refine sw_sh (ci_sh cq20 t438 rfl) ?_
      refine sw_on (sX8_endCue cq20 t438 (by (try simp only [zp] at h435 h436 ⊢) <;> (try simp only [zz, Int32.reduceToInt, ne_eq] at h435 h436 ⊢) <;> (try simp (disch := omega) only [zb] at h435 h436 ⊢) <;> first | omega | ((try simp (disch := omega) only [zb] at h435 h436 ⊢) <;> omega)) ) ?_
      intro q22 hqq22
      obtain ⟨cq22, gq22, xq22⟩ := hqq22
      have fq22 := fr_trans fq20 (fr_tx yq17 gq22) rfl
      refine sw_sh (ci_sh cq22 t438 rfl) ?_
      refine sw_on (sX8_beginCue cq22 t438 (by (try simp only [zp] at h435 h436 ⊢) <;> (try simp only [zz, Int32.reduceToInt, ne_eq] at h435 h436 ⊢) <;> (try simp (disch := omega) only [zb] at h435 h436 ⊢) <;> first | omega | ((try simp (disch := omega) only [zb] at h435 h436 ⊢) <;> omega)) ) ?_
      intro q24 hqq24
      obtain ⟨Tq24, nq24, cq24, gq24, xq24⟩ := hqq24
      have fq24 := fr_trans fq22 (fr_tx yq17 gq24) rfl
      have yq24 := tx_trans yq17 nq24
      have t439 := nq24 _ _ t438
      refine sw_sh (ci_sh cq24 t439 rfl) ?_
      refine sw_on (sX8_readLines cq24 t439 (by (try simp only [zp] at h435 h436 ⊢) <;> (try simp only [zz, Int32.reduceToInt, ne_eq] at h435 h436 ⊢) <;> (try simp (disch := omega) only [zb] at h435 h436 ⊢) <;> first | omega | ((try simp (disch := omega) only [zb] at h435 h436 ⊢) <;> omega)) ) ?_
      intro q27 hqq27
      obtain ⟨cq27, gq27, xq27⟩ := hqq27
      have fq27 := fr_trans fq24 (fr_tx yq24 gq27) rfl
      refine sw_sh (ci_sh cq27 t439 rfl) ?_
      refine sw_on (sX8_endCue cq27 t439 (by (try simp only [zp] at h435 h436 ⊢) <;> (try simp only [zz, Int32.reduceToInt, ne_eq] at h435 h436 ⊢) <;> (try simp (disch := omega) only [zb] at h435 h436 ⊢) <;> first | omega | ((try simp (disch := omega) only [zb] at h435 h436 ⊢) <;> omega)) ) ?_
      intro q29 hqq29
      obtain ⟨cq29, gq29, xq29⟩ := hqq29
      have fq29 := fr_trans fq27 (fr_tx yq24 gq29) rfl
      refine sw_sh (ci_sh cq29 t439 rfl) ?_
      refine sw_on (sX8_beginCue cq29 t439 (by (try simp only [zp] at h435 h436 ⊢) <;> (try simp only [zz, Int32.reduceToInt, ne_eq] at h435 h436 ⊢) <;> (try simp (disch := omega) only [zb] at h435 h436 ⊢) <;> first | omega | ((try simp (disch := omega) only [zb] at h435 h436 ⊢) <;> omega)) ) ?_
      intro q31 hqq31
      obtain ⟨Tq31, nq31, cq31, gq31, xq31⟩ := hqq31
      have fq31 := fr_trans fq29 (fr_tx yq24 gq31) rfl
      have yq31 := tx_trans yq24 nq31
      have t440 := nq31 _ _ t439
      refine sw_sh (ci_sh cq31 t440 rfl) ?_
      refine sw_on (sX8_readLines cq31 t440 (by (try simp only [zp] at h435 h436 ⊢) <;> (try simp only [zz, Int32.reduceToInt, ne_eq] at h435 h436 ⊢) <;> (try simp (disch := omega) only [zb] at h435 h436 ⊢) <;> first | omega | ((try simp (disch := omega) only [zb] at h435 h436 ⊢) <;> omega)) ) ?_
      intro q34 hqq34
      obtain ⟨cq34, gq34, xq34⟩ := hqq34
      have fq34 := fr_trans fq31 (fr_tx yq31 gq34) rfl
      refine sw_sh (ci_sh cq34 t440 rfl) ?_
      refine sw_on (sX8_endCue cq34 t440 (by (try simp only [zp] at h435 h436 ⊢) <;> (try simp only [zz, Int32.reduceToInt, ne_eq] at h435 h436 ⊢) <;> (try simp (disch := omega) only [zb] at h435 h436 ⊢) <;> first | omega | ((try simp (disch := omega) only [zb] at h435 h436 ⊢) <;> omega)) ) ?_
      intro q36 hqq36
      obtain ⟨cq36, gq36, xq36⟩ := hqq36
      have fq36 := fr_trans fq34 (fr_tx yq31 gq36) rfl
      refine sw_sh (ci_sh cq36 t440 rfl) ?_
      refine sw_on (sX8_beginCue cq36 t440 (by (try simp only [zp] at h435 h436 ⊢) <;> (try simp only [zz, Int32.reduceToInt, ne_eq] at h435 h436 ⊢) <;> (try simp (disch := omega) only [zb] at h435 h436 ⊢) <;> first | omega | ((try simp (disch := omega) only [zb] at h435 h436 ⊢) <;> omega)) ) ?_
      intro q38 hqq38
      obtain ⟨Tq38, nq38, cq38, gq38, xq38⟩ := hqq38
      have fq38 := fr_trans fq36 (fr_tx yq31 gq38) rfl
      have yq38 := tx_trans yq31 nq38
      have t441 := nq38 _ _ t440
      refine sw_sh (ci_sh cq38 t441 rfl) ?_
      exact sw_some ⟨Tq38, yq38, cq38, fq38, trivial⟩
    · exact sw_some ⟨T, tx_refl, c0, f0, trivial⟩
abbrev KX8_takeHeader : List Nat := [3, 6, 15, 16, 22, 23, 24, 25]
set_option maxHeartbeats 4000000 in
set_option maxRecDepth 10000 in
theorem sX8_takeHeader_42 {T : Nat → Option Nat} {σ0 : mm_M} : ∀ (n : Nat) (a0 : Nat) (x1 : Int32) (x2 : Int32) (x3 : Int32) (σ : mm_M), sCI T σ → sFR T KX8_takeHeader σ0 σ → (T a0 = some 8) → (1 ≤ x3.toInt ∧ x3.toInt ≤ 9) → (pnd σ a0) → 9 - x3.toInt < (n : Int) → sw (fX8_takeHeader_42 n a0 x1 x2 x3 σ) (fun R => ∃ T', sTX T T' ∧ sCI T' R ∧ sFR T KX8_takeHeader σ0 R ∧ (pnd R a0)) := by
  intro n
  induction n with
  | zero => intro a0 x1 x2 x3 σ c0 f0 t_a0 p_0 w_0 hn; exfalso; exact (by (try simp only [zp] at p_0 hn ⊢) <;> (try simp only [zz, Int32.reduceToInt, ne_eq] at p_0 hn ⊢) <;> (try simp (disch := omega) only [zb] at p_0 hn ⊢) <;> first | omega | ((try simp (disch := omega) only [zb] at p_0 hn ⊢) <;> omega))
  | succ n ih =>
    intro a0 x1 x2 x3 σ c0 f0 t_a0 p_0 w_0 hn
    unfold fX8_takeHeader_42
    refine sw_ite (fun h442 => ?_) (fun h442 => ?_)
    · refine sw_sh (ci_sh c0 t_a0 rfl) ?_
      obtain ⟨q11, eq11, tq11⟩ := ci_ref c0 t_a0 5 (κ' := 15) rfl
      refine sw_onS eq11 ?_
      refine sw_ar (ci_sh c0 tq11 rfl) ?_
      refine sw_ib (by (try simp only [zp] at p_0 hn h442 ⊢) <;> (try simp only [zz, Int32.reduceToInt, ne_eq] at p_0 hn h442 ⊢) <;> (try simp (disch := omega) only [zb] at p_0 hn h442 ⊢) <;> first | omega | ((try simp (disch := omega) only [zb] at p_0 hn h442 ⊢) <;> omega)) ?_
      refine sw_onS eq11 ?_
      refine sw_ar (ci_sh c0 tq11 rfl) ?_
      refine sw_ib (by (try simp only [zp] at p_0 hn h442 ⊢) <;> (try simp only [zz, Int32.reduceToInt, ne_eq] at p_0 hn h442 ⊢) <;> (try simp (disch := omega) only [zb] at p_0 hn h442 ⊢) <;> first | omega | ((try simp (disch := omega) only [zb] at p_0 hn h442 ⊢) <;> omega)) ?_
      refine sw_ite (fun h443 => ?_) (fun h443 => ?_)
      · exact sw_some ⟨T, tx_refl, c0, f0, w_0⟩
      · refine sw_onS eq11 ?_
        refine sw_ar (ci_sh c0 tq11 rfl) ?_
        refine sw_ib (by (try simp only [zp] at p_0 hn h442 h443 ⊢) <;> (try simp only [zz, Int32.reduceToInt, ne_eq] at p_0 hn h442 h443 ⊢) <;> (try simp (disch := omega) only [zb] at p_0 hn h442 h443 ⊢) <;> first | omega | ((try simp (disch := omega) only [zb] at p_0 hn h442 h443 ⊢) <;> omega)) ?_
        refine sw_onS eq11 ?_
        refine sw_ar (ci_sh c0 tq11 rfl) ?_
        refine sw_ib (by (try simp only [zp] at p_0 hn h442 h443 ⊢) <;> (try simp only [zz, Int32.reduceToInt, ne_eq] at p_0 hn h442 h443 ⊢) <;> (try simp (disch := omega) only [zb] at p_0 hn h442 h443 ⊢) <;> first | omega | ((try simp (disch := omega) only [zb] at p_0 hn h442 h443 ⊢) <;> omega)) ?_
        refine sw_onS eq11 ?_
        refine sw_ar (ci_sh c0 tq11 rfl) ?_
        refine sw_ib (by (try simp only [zp] at p_0 hn h442 h443 ⊢) <;> (try simp only [zz, Int32.reduceToInt, ne_eq] at p_0 hn h442 h443 ⊢) <;> (try simp (disch := omega) only [zb] at p_0 hn h442 h443 ⊢) <;> first | omega | ((try simp (disch := omega) only [zb] at p_0 hn h442 h443 ⊢) <;> omega)) ?_
        refine sw_onS eq11 ?_
        refine sw_ar (ci_sh c0 tq11 rfl) ?_
        refine sw_ib (by (try simp only [zp] at p_0 hn h442 h443 ⊢) <;> (try simp only [zz, Int32.reduceToInt, ne_eq] at p_0 hn h442 h443 ⊢) <;> (try simp (disch := omega) only [zb] at p_0 hn h442 h443 ⊢) <;> first | omega | ((try simp (disch := omega) only [zb] at p_0 hn h442 h443 ⊢) <;> omega)) ?_
        obtain ⟨q30, eq30, tq30⟩ := ci_ref c0 t_a0 7 (κ' := 6) rfl
        refine sw_onS eq30 ?_
        refine sw_sh (ci_sh c0 tq30 rfl) ?_
        refine sw_on (sX6_bringToEnd c0 tq30  (w_0 _ eq30)) ?_
        intro q32 hqq32
        obtain ⟨Tq32, nq32, cq32, gq32, xq32⟩ := hqq32
        have fq32 := fr_trans f0 (fr_tx tx_refl gq32) rfl
        have yq32 := tx_trans tx_refl nq32
        have t444 := nq32 _ _ t_a0
        have t445 := nq32 _ _ tq11
        have t446 := nq32 _ _ tq30
        obtain ⟨q33, eq33, tq33⟩ := xq32.1
        refine sw_onS eq33 ?_
        refine sw_sh (ci_sh cq32 t444 rfl) ?_
        refine sw_on (sX8_openPage cq32 t444 tq33  ) ?_
        intro q35 hqq35
        obtain ⟨cq35, gq35, xq35⟩ := hqq35
        have fq35 := fr_trans fq32 (fr_tx yq32 gq35) rfl
        exact sw_some ⟨Tq32, yq32, cq35, fq35, (pnd_fr (fun q e => by rw [((gq32.2.2 _ _ t_a0 7 rfl).2.trans eq30)] at e; cases e; exact xq32.2) gq35 cq32 t444 rfl rfl rfl)⟩
    · refine sw_ite (fun h447 => ?_) (fun h447 => ?_)
      · refine sw_ite (fun h448 => ?_) (fun h448 => ?_)
        · unfold fX8_takeHeader_57
          refine sw_sh (ci_sh c0 t_a0 rfl) ?_
          refine sw_on (sX8_closePage c0 t_a0  ) ?_
          intro q38 hqq38
          obtain ⟨cq38, gq38, xq38⟩ := hqq38
          have fq38 := fr_trans f0 (fr_tx tx_refl gq38) rfl
          exact ih a0 x1 x2 (x3 + 1) q38 cq38 fq38 t_a0 (by (try simp only [zp] at p_0 hn h442 h447 h448 ⊢) <;> (try simp only [zz, Int32.reduceToInt, ne_eq] at p_0 hn h442 h447 h448 ⊢) <;> (try simp (disch := omega) only [zb] at p_0 hn h442 h447 h448 ⊢) <;> first | omega | ((try simp (disch := omega) only [zb] at p_0 hn h442 h447 h448 ⊢) <;> omega)) (pnd_fr w_0 gq38 c0 t_a0 rfl rfl rfl) (by (try simp only [zp] at p_0 hn h442 h447 h448 ⊢) <;> (try simp only [zz, Int32.reduceToInt, ne_eq] at p_0 hn h442 h447 h448 ⊢) <;> (try simp (disch := omega) only [zb] at p_0 hn h442 h447 h448 ⊢) <;> first | omega | ((try simp (disch := omega) only [zb] at p_0 hn h442 h447 h448 ⊢) <;> omega))
        · exact ih a0 x1 x2 (x3 + 1) σ c0 f0 t_a0 (by (try simp only [zp] at p_0 hn h442 h447 h448 ⊢) <;> (try simp only [zz, Int32.reduceToInt, ne_eq] at p_0 hn h442 h447 h448 ⊢) <;> (try simp (disch := omega) only [zb] at p_0 hn h442 h447 h448 ⊢) <;> first | omega | ((try simp (disch := omega) only [zb] at p_0 hn h442 h447 h448 ⊢) <;> omega)) w_0 (by (try simp only [zp] at p_0 hn h442 h447 h448 ⊢) <;> (try simp only [zz, Int32.reduceToInt, ne_eq] at p_0 hn h442 h447 h448 ⊢) <;> (try simp (disch := omega) only [zb] at p_0 hn h442 h447 h448 ⊢) <;> first | omega | ((try simp (disch := omega) only [zb] at p_0 hn h442 h447 h448 ⊢) <;> omega))
      · unfold fX8_takeHeader_57
        refine sw_sh (ci_sh c0 t_a0 rfl) ?_
        refine sw_on (sX8_closePage c0 t_a0  ) ?_
        intro q38 hqq38
        obtain ⟨cq38, gq38, xq38⟩ := hqq38
        have fq38 := fr_trans f0 (fr_tx tx_refl gq38) rfl
        exact ih a0 x1 x2 (x3 + 1) q38 cq38 fq38 t_a0 (by (try simp only [zp] at p_0 hn h442 h447 ⊢) <;> (try simp only [zz, Int32.reduceToInt, ne_eq] at p_0 hn h442 h447 ⊢) <;> (try simp (disch := omega) only [zb] at p_0 hn h442 h447 ⊢) <;> first | omega | ((try simp (disch := omega) only [zb] at p_0 hn h442 h447 ⊢) <;> omega)) (pnd_fr w_0 gq38 c0 t_a0 rfl rfl rfl) (by (try simp only [zp] at p_0 hn h442 h447 ⊢) <;> (try simp only [zz, Int32.reduceToInt, ne_eq] at p_0 hn h442 h447 ⊢) <;> (try simp (disch := omega) only [zb] at p_0 hn h442 h447 ⊢) <;> first | omega | ((try simp (disch := omega) only [zb] at p_0 hn h442 h447 ⊢) <;> omega))
set_option maxHeartbeats 4000000 in
set_option maxRecDepth 10000 in
theorem sX8_takeHeader {T : Nat → Option Nat} {σ0 : mm_M} {p0 : Nat} {p1 : Int32} (c0 : sCI T σ0) (t_p0 : T p0 = some 8) (w_0 : pnd σ0 p0) : sw (fX8_takeHeader p0 p1 σ0) (fun R => ∃ T', sTX T T' ∧ sCI T' R ∧ sFR T KX8_takeHeader σ0 R ∧ (pnd R p0)) := by
  have f0 : sFR T KX8_takeHeader σ0 σ0 := fr_refl
  unfold fX8_takeHeader
  refine sw_sh (ci_sh c0 t_p0 rfl) ?_
  refine sw_on (sX8_readValues c0 t_p0  ) ?_
  intro q2 hqq2
  obtain ⟨cq2, gq2, xq2⟩ := hqq2
  have fq2 := fr_trans f0 (fr_tx tx_refl gq2) rfl
  refine sw_ite (fun h449 => ?_) (fun h449 => ?_)
  · refine sw_sh (ci_sh cq2 t_p0 rfl) ?_
    obtain ⟨q41, eq41, tq41⟩ := ci_ref cq2 t_p0 6 (κ' := 16) rfl
    refine sw_onS eq41 ?_
    refine sw_ar (ci_sh cq2 tq41 rfl) ?_
    refine sw_ib (by (try simp only [zp] at xq2 h449 ⊢) <;> (try simp only [zz, Int32.reduceToInt, ne_eq] at xq2 h449 ⊢) <;> (try simp (disch := omega) only [zb] at xq2 h449 ⊢) <;> first | omega | ((try simp (disch := omega) only [zb] at xq2 h449 ⊢) <;> omega)) ?_
    refine sw_ib (by (try simp only [zp] at xq2 h449 ⊢) <;> (try simp only [zz, Int32.reduceToInt, ne_eq] at xq2 h449 ⊢) <;> (try simp (disch := omega) only [zb] at xq2 h449 ⊢) <;> first | omega | ((try simp (disch := omega) only [zb] at xq2 h449 ⊢) <;> omega)) ?_
    have cs45 := ci_wI cq2 tq41 (j := (1 : Int32).toNatClampNeg) (v := (mm_I q2.2 q41 (1 : Int32).toNatClampNeg) + 1) (kr_n rfl)
    have fs45 := fr_wIx fq2 tx_refl tq41 (j := (1 : Int32).toNatClampNeg) (v := (mm_I q2.2 q41 (1 : Int32).toNatClampNeg) + 1) rfl
    refine sw_let (fun s45 es45 => ?_)
    rw [es45] at cs45 fs45
    exact sw_some ⟨T, tx_refl, cs45, fs45, (pnd_fr (pnd_fr w_0 gq2 c0 t_p0 rfl rfl rfl) (show sFR _ [16] q2.2 s45 from es45 ▸ fr_wI fr_refl tq41 rfl) cq2 t_p0 rfl rfl rfl)⟩
  · refine sw_sh (ci_sh cq2 t_p0 rfl) ?_
    obtain ⟨q5, eq5, tq5⟩ := ci_ref cq2 t_p0 5 (κ' := 15) rfl
    refine sw_onS eq5 ?_
    refine sw_ar (ci_sh cq2 tq5 rfl) ?_
    refine sw_ib (by (try simp only [zp] at xq2 h449 ⊢) <;> (try simp only [zz, Int32.reduceToInt, ne_eq] at xq2 h449 ⊢) <;> (try simp (disch := omega) only [zb] at xq2 h449 ⊢) <;> first | omega | ((try simp (disch := omega) only [zb] at xq2 h449 ⊢) <;> omega)) ?_
    have a450 := zi_and (mm_I q2.2 q5 (7 : Int32).toNatClampNeg) 1 (by decide)
    refine sw_ite (fun h451 => ?_) (fun h451 => ?_)
    · exact sX8_takeHeader_42 mm_fuel p0 p1 1 1 q2.2 cq2 fq2 t_p0 (by (try simp only [zp] at xq2 h449 a450 h451 ⊢) <;> (try simp only [zz, Int32.reduceToInt, ne_eq] at xq2 h449 a450 h451 ⊢) <;> (try simp (disch := omega) only [zb] at xq2 h449 a450 h451 ⊢) <;> first | omega | ((try simp (disch := omega) only [zb] at xq2 h449 a450 h451 ⊢) <;> omega)) (pnd_fr w_0 gq2 c0 t_p0 rfl rfl rfl) (by have hz : (mm_fuel : Int) = 2000 := rfl; rw [hz]; exact (by (try simp only [zp] at xq2 h449 a450 h451 ⊢) <;> (try simp only [zz, Int32.reduceToInt, ne_eq] at xq2 h449 a450 h451 ⊢) <;> (try simp (disch := omega) only [zb] at xq2 h449 a450 h451 ⊢) <;> first | omega | ((try simp (disch := omega) only [zb] at xq2 h449 a450 h451 ⊢) <;> omega)))
    · exact sX8_takeHeader_42 mm_fuel p0 p1 0 1 q2.2 cq2 fq2 t_p0 (by (try simp only [zp] at xq2 h449 a450 h451 ⊢) <;> (try simp only [zz, Int32.reduceToInt, ne_eq] at xq2 h449 a450 h451 ⊢) <;> (try simp (disch := omega) only [zb] at xq2 h449 a450 h451 ⊢) <;> first | omega | ((try simp (disch := omega) only [zb] at xq2 h449 a450 h451 ⊢) <;> omega)) (pnd_fr w_0 gq2 c0 t_p0 rfl rfl rfl) (by have hz : (mm_fuel : Int) = 2000 := rfl; rw [hz]; exact (by (try simp only [zp] at xq2 h449 a450 h451 ⊢) <;> (try simp only [zz, Int32.reduceToInt, ne_eq] at xq2 h449 a450 h451 ⊢) <;> (try simp (disch := omega) only [zb] at xq2 h449 a450 h451 ⊢) <;> first | omega | ((try simp (disch := omega) only [zb] at xq2 h449 a450 h451 ⊢) <;> omega)))
abbrev KX8_takeRow : List Nat := [3, 6, 15, 16, 22, 23, 24, 25]
set_option maxHeartbeats 4000000 in
set_option maxRecDepth 10000 in
theorem sX8_takeRow {T : Nat → Option Nat} {σ0 : mm_M} {p0 : Nat} {p1 : Int32} {p2 : Int32} (c0 : sCI T σ0) (t_p0 : T p0 = some 8) (w_0 : pnd σ0 p0) : sw (fX8_takeRow p0 p1 p2 σ0) (fun R => ∃ T', sTX T T' ∧ sCI T' R ∧ sFR T KX8_takeRow σ0 R ∧ (pnd R p0)) := by
  have f0 : sFR T KX8_takeRow σ0 σ0 := fr_refl
  unfold fX8_takeRow
  refine sw_ite (fun h452 => ?_) (fun h452 => ?_)
  · refine sw_sh (ci_sh c0 t_p0 rfl) ?_
    refine sw_on (sX8_takeHeader c0 t_p0  w_0) ?_
    intro q27 hqq27
    obtain ⟨Tq27, nq27, cq27, gq27, xq27⟩ := hqq27
    have fq27 := fr_trans f0 (fr_tx tx_refl gq27) rfl
    have yq27 := tx_trans tx_refl nq27
    have t453 := nq27 _ _ t_p0
    exact sw_some ⟨Tq27, yq27, cq27, fq27, xq27⟩
  · refine sw_ite (fun h454 => ?_) (fun h454 => ?_)
    · unfold fX8_takeRow_23
      refine sw_sh (ci_sh c0 t_p0 rfl) ?_
      obtain ⟨q4, eq4, tq4⟩ := ci_ref c0 t_p0 7 (κ' := 6) rfl
      refine sw_onS eq4 ?_
      refine sw_sh (ci_sh c0 tq4 rfl) ?_
      refine sw_on (sX6_placeOfOpen c0 tq4  ) ?_
      intro q6 hqq6
      obtain ⟨eq6, xq6⟩ := hqq6
      (try rw [eq6])
      refine sw_sh (ci_sh c0 tq4 rfl) ?_
      refine sw_on (sX6_pageAt c0 tq4  ) ?_
      intro q8 hqq8
      obtain ⟨eq8, xq8⟩ := hqq8
      (try rw [eq8])
      refine sw_nu (fun eq9 => ?_) (fun q9 eq9 => ?_)
      · refine sw_sh (ci_sh c0 t_p0 rfl) ?_
        obtain ⟨q11, eq11, tq11⟩ := ci_ref c0 t_p0 6 (κ' := 16) rfl
        refine sw_onS eq11 ?_
        refine sw_ar (ci_sh c0 tq11 rfl) ?_
        refine sw_ib (by (try simp only [zp] at h452 h454 xq6 ⊢) <;> (try simp only [zz, Int32.reduceToInt, ne_eq] at h452 h454 xq6 ⊢) <;> (try simp (disch := omega) only [zb] at h452 h454 xq6 ⊢) <;> first | omega | ((try simp (disch := omega) only [zb] at h452 h454 xq6 ⊢) <;> omega)) ?_
        refine sw_ib (by (try simp only [zp] at h452 h454 xq6 ⊢) <;> (try simp only [zz, Int32.reduceToInt, ne_eq] at h452 h454 xq6 ⊢) <;> (try simp (disch := omega) only [zb] at h452 h454 xq6 ⊢) <;> first | omega | ((try simp (disch := omega) only [zb] at h452 h454 xq6 ⊢) <;> omega)) ?_
        have cs15 := ci_wI c0 tq11 (j := (2 : Int32).toNatClampNeg) (v := (mm_I σ0 q11 (2 : Int32).toNatClampNeg) + 1) (kr_n rfl)
        have fs15 := fr_wIx f0 tx_refl tq11 (j := (2 : Int32).toNatClampNeg) (v := (mm_I σ0 q11 (2 : Int32).toNatClampNeg) + 1) rfl
        refine sw_let (fun s15 es15 => ?_)
        rw [es15] at cs15 fs15
        exact sw_some ⟨T, tx_refl, cs15, fs15, (pnd_fr w_0 (show sFR _ [16] σ0 s15 from es15 ▸ fr_wI fr_refl tq11 rfl) c0 t_p0 rfl rfl rfl)⟩
      · have tq9 := xq8 q9 eq9
        refine sw_ite (fun h455 => ?_) (fun h455 => ?_)
        · refine sw_sh (ci_sh c0 t_p0 rfl) ?_
          refine sw_on (sX8_takeLinks c0 t_p0 tq9  ) ?_
          intro q24 hqq24
          obtain ⟨cq24, gq24, xq24⟩ := hqq24
          have fq24 := fr_trans f0 (fr_tx tx_refl gq24) rfl
          exact sw_some ⟨T, tx_refl, cq24, fq24, (pnd_fr w_0 gq24 c0 t_p0 rfl rfl rfl)⟩
        · refine sw_sh (ci_sh c0 tq9 rfl) ?_
          refine sw_sh (ci_sh c0 t_p0 rfl) ?_
          obtain ⟨q19, eq19, tq19⟩ := ci_ref c0 t_p0 3 (κ' := 13) rfl
          refine sw_onS eq19 ?_
          obtain ⟨q20, eq20, tq20⟩ := ci_ref c0 tq9 0 (κ' := 4) rfl
          refine sw_onS eq20 ?_
          refine sw_sh (ci_sh c0 tq20 rfl) ?_
          refine sw_on (sX4_fill c0 tq20 tq19 (by (try simp only [zp] at h452 h454 xq6 h455 ⊢) <;> (try simp only [zz, Int32.reduceToInt, ne_eq] at h452 h454 xq6 h455 ⊢) <;> (try simp (disch := omega) only [zb] at h452 h454 xq6 h455 ⊢) <;> first | omega | ((try simp (disch := omega) only [zb] at h452 h454 xq6 h455 ⊢) <;> omega)) (by (try simp only [zp] at h452 h454 xq6 h455 ⊢) <;> (try simp only [zz, Int32.reduceToInt, ne_eq] at h452 h454 xq6 h455 ⊢) <;> (try simp (disch := omega) only [zb] at h452 h454 xq6 h455 ⊢) <;> first | omega | ((try simp (disch := omega) only [zb] at h452 h454 xq6 h455 ⊢) <;> omega)) ) ?_
          intro q22 hqq22
          obtain ⟨cq22, gq22, xq22⟩ := hqq22
          have fq22 := fr_trans f0 (fr_tx tx_refl gq22) rfl
          exact sw_some ⟨T, tx_refl, cq22, fq22, (pnd_fr w_0 gq22 c0 t_p0 rfl rfl rfl)⟩
    · refine sw_ite (fun h456 => ?_) (fun h456 => ?_)
      · unfold fX8_takeRow_23
        refine sw_sh (ci_sh c0 t_p0 rfl) ?_
        obtain ⟨q4, eq4, tq4⟩ := ci_ref c0 t_p0 7 (κ' := 6) rfl
        refine sw_onS eq4 ?_
        refine sw_sh (ci_sh c0 tq4 rfl) ?_
        refine sw_on (sX6_placeOfOpen c0 tq4  ) ?_
        intro q6 hqq6
        obtain ⟨eq6, xq6⟩ := hqq6
        (try rw [eq6])
        refine sw_sh (ci_sh c0 tq4 rfl) ?_
        refine sw_on (sX6_pageAt c0 tq4  ) ?_
        intro q8 hqq8
        obtain ⟨eq8, xq8⟩ := hqq8
        (try rw [eq8])
        refine sw_nu (fun eq9 => ?_) (fun q9 eq9 => ?_)
        · refine sw_sh (ci_sh c0 t_p0 rfl) ?_
          obtain ⟨q11, eq11, tq11⟩ := ci_ref c0 t_p0 6 (κ' := 16) rfl
          refine sw_onS eq11 ?_
          refine sw_ar (ci_sh c0 tq11 rfl) ?_
          refine sw_ib (by (try simp only [zp] at h452 h454 h456 xq6 ⊢) <;> (try simp only [zz, Int32.reduceToInt, ne_eq] at h452 h454 h456 xq6 ⊢) <;> (try simp (disch := omega) only [zb] at h452 h454 h456 xq6 ⊢) <;> first | omega | ((try simp (disch := omega) only [zb] at h452 h454 h456 xq6 ⊢) <;> omega)) ?_
          refine sw_ib (by (try simp only [zp] at h452 h454 h456 xq6 ⊢) <;> (try simp only [zz, Int32.reduceToInt, ne_eq] at h452 h454 h456 xq6 ⊢) <;> (try simp (disch := omega) only [zb] at h452 h454 h456 xq6 ⊢) <;> first | omega | ((try simp (disch := omega) only [zb] at h452 h454 h456 xq6 ⊢) <;> omega)) ?_
          have cs15 := ci_wI c0 tq11 (j := (2 : Int32).toNatClampNeg) (v := (mm_I σ0 q11 (2 : Int32).toNatClampNeg) + 1) (kr_n rfl)
          have fs15 := fr_wIx f0 tx_refl tq11 (j := (2 : Int32).toNatClampNeg) (v := (mm_I σ0 q11 (2 : Int32).toNatClampNeg) + 1) rfl
          refine sw_let (fun s15 es15 => ?_)
          rw [es15] at cs15 fs15
          exact sw_some ⟨T, tx_refl, cs15, fs15, (pnd_fr w_0 (show sFR _ [16] σ0 s15 from es15 ▸ fr_wI fr_refl tq11 rfl) c0 t_p0 rfl rfl rfl)⟩
        · have tq9 := xq8 q9 eq9
          refine sw_ite (fun h457 => ?_) (fun h457 => ?_)
          · refine sw_sh (ci_sh c0 t_p0 rfl) ?_
            refine sw_on (sX8_takeLinks c0 t_p0 tq9  ) ?_
            intro q24 hqq24
            obtain ⟨cq24, gq24, xq24⟩ := hqq24
            have fq24 := fr_trans f0 (fr_tx tx_refl gq24) rfl
            exact sw_some ⟨T, tx_refl, cq24, fq24, (pnd_fr w_0 gq24 c0 t_p0 rfl rfl rfl)⟩
          · refine sw_sh (ci_sh c0 tq9 rfl) ?_
            refine sw_sh (ci_sh c0 t_p0 rfl) ?_
            obtain ⟨q19, eq19, tq19⟩ := ci_ref c0 t_p0 3 (κ' := 13) rfl
            refine sw_onS eq19 ?_
            obtain ⟨q20, eq20, tq20⟩ := ci_ref c0 tq9 0 (κ' := 4) rfl
            refine sw_onS eq20 ?_
            refine sw_sh (ci_sh c0 tq20 rfl) ?_
            refine sw_on (sX4_fill c0 tq20 tq19 (by (try simp only [zp] at h452 h454 h456 xq6 h457 ⊢) <;> (try simp only [zz, Int32.reduceToInt, ne_eq] at h452 h454 h456 xq6 h457 ⊢) <;> (try simp (disch := omega) only [zb] at h452 h454 h456 xq6 h457 ⊢) <;> first | omega | ((try simp (disch := omega) only [zb] at h452 h454 h456 xq6 h457 ⊢) <;> omega)) (by (try simp only [zp] at h452 h454 h456 xq6 h457 ⊢) <;> (try simp only [zz, Int32.reduceToInt, ne_eq] at h452 h454 h456 xq6 h457 ⊢) <;> (try simp (disch := omega) only [zb] at h452 h454 h456 xq6 h457 ⊢) <;> first | omega | ((try simp (disch := omega) only [zb] at h452 h454 h456 xq6 h457 ⊢) <;> omega)) ) ?_
            intro q22 hqq22
            obtain ⟨cq22, gq22, xq22⟩ := hqq22
            have fq22 := fr_trans f0 (fr_tx tx_refl gq22) rfl
            exact sw_some ⟨T, tx_refl, cq22, fq22, (pnd_fr w_0 gq22 c0 t_p0 rfl rfl rfl)⟩
      · exact sw_some ⟨T, tx_refl, c0, f0, w_0⟩
abbrev KX8_packet : List Nat := [3, 6, 15, 16, 22, 23, 24, 25, 804]
set_option maxHeartbeats 4000000 in
set_option maxRecDepth 10000 in
theorem sX8_packet {T : Nat → Option Nat} {σ0 : mm_M} {p0 : Nat} (c0 : sCI T σ0) (t_p0 : T p0 = some 8) (w_0 : pnd σ0 p0) : sw (fX8_packet p0 σ0) (fun R => ∃ T', sTX T T' ∧ sCI T' R.2 ∧ sFR T KX8_packet σ0 R.2 ∧ (pnd R.2 p0)) := by
  have f0 : sFR T KX8_packet σ0 σ0 := fr_refl
  unfold fX8_packet
  refine sw_sh (ci_sh c0 t_p0 rfl) ?_
  have r458 := ci_rg c0 t_p0 4 (lo := 0) (hi := 60) rfl
  refine sw_ite (fun h459 => ?_) (fun h459 => ?_)
  · have cs3 := ci_wI c0 t_p0 (j := 4) (v := 0) (kr_s (lo := 0) (hi := 60) rfl (by (try simp only [zp] at r458 h459 ⊢) <;> (try simp only [zz, Int32.reduceToInt, ne_eq] at r458 h459 ⊢) <;> (try simp (disch := omega) only [zb] at r458 h459 ⊢) <;> first | omega | ((try simp (disch := omega) only [zb] at r458 h459 ⊢) <;> omega)))
    have fs3 := fr_wIx f0 tx_refl t_p0 (j := 4) (v := 0) rfl
    refine sw_let (fun s3 es3 => ?_)
    rw [es3] at cs3 fs3
    refine sw_on (sX8_valueAt cs3 t_p0  ) ?_
    intro q4 hqq4
    obtain ⟨eq4, xq4⟩ := hqq4
    (try rw [eq4])
    refine sw_sh (ci_sh cs3 t_p0 rfl) ?_
    refine sw_on (sX8_valueAt cs3 t_p0  ) ?_
    intro q6 hqq6
    obtain ⟨eq6, xq6⟩ := hqq6
    (try rw [eq6])
    refine sw_ite (fun h460 => ?_) (fun h460 => ?_)
    · unfold fX8_packet_46
      refine sw_sh (ci_sh cs3 t_p0 rfl) ?_
      obtain ⟨q9, eq9, tq9⟩ := ci_ref cs3 t_p0 6 (κ' := 16) rfl
      refine sw_onS eq9 ?_
      refine sw_ar (ci_sh cs3 tq9 rfl) ?_
      refine sw_ib (by (try simp only [zp] at r458 h459 xq4 xq6 h460 ⊢) <;> (try simp only [zz, Int32.reduceToInt, ne_eq] at r458 h459 xq4 xq6 h460 ⊢) <;> (try simp (disch := omega) only [zb] at r458 h459 xq4 xq6 h460 ⊢) <;> first | omega | ((try simp (disch := omega) only [zb] at r458 h459 xq4 xq6 h460 ⊢) <;> omega)) ?_
      refine sw_ib (by (try simp only [zp] at r458 h459 xq4 xq6 h460 ⊢) <;> (try simp only [zz, Int32.reduceToInt, ne_eq] at r458 h459 xq4 xq6 h460 ⊢) <;> (try simp (disch := omega) only [zb] at r458 h459 xq4 xq6 h460 ⊢) <;> first | omega | ((try simp (disch := omega) only [zb] at r458 h459 xq4 xq6 h460 ⊢) <;> omega)) ?_
      have cs13 := ci_wI cs3 tq9 (j := (0 : Int32).toNatClampNeg) (v := (mm_I s3 q9 (0 : Int32).toNatClampNeg) + 1) (kr_n rfl)
      have fs13 := fr_wIx fs3 tx_refl tq9 (j := (0 : Int32).toNatClampNeg) (v := (mm_I s3 q9 (0 : Int32).toNatClampNeg) + 1) rfl
      refine sw_let (fun s13 es13 => ?_)
      rw [es13] at cs13 fs13
      exact sw_some ⟨T, tx_refl, cs13, fs13, (pnd_fr (pnd_fr w_0 (show sFR _ [804] σ0 s3 from es3 ▸ fr_wI fr_refl t_p0 rfl) c0 t_p0 rfl rfl rfl) (show sFR _ [16] s3 s13 from es13 ▸ fr_wI fr_refl tq9 rfl) cs3 t_p0 rfl rfl rfl)⟩
    · refine sw_ite (fun h461 => ?_) (fun h461 => ?_)
      · unfold fX8_packet_46
        refine sw_sh (ci_sh cs3 t_p0 rfl) ?_
        obtain ⟨q9, eq9, tq9⟩ := ci_ref cs3 t_p0 6 (κ' := 16) rfl
        refine sw_onS eq9 ?_
        refine sw_ar (ci_sh cs3 tq9 rfl) ?_
        refine sw_ib (by (try simp only [zp] at r458 h459 xq4 xq6 h460 h461 ⊢) <;> (try simp only [zz, Int32.reduceToInt, ne_eq] at r458 h459 xq4 xq6 h460 h461 ⊢) <;> (try simp (disch := omega) only [zb] at r458 h459 xq4 xq6 h460 h461 ⊢) <;> first | omega | ((try simp (disch := omega) only [zb] at r458 h459 xq4 xq6 h460 h461 ⊢) <;> omega)) ?_
        refine sw_ib (by (try simp only [zp] at r458 h459 xq4 xq6 h460 h461 ⊢) <;> (try simp only [zz, Int32.reduceToInt, ne_eq] at r458 h459 xq4 xq6 h460 h461 ⊢) <;> (try simp (disch := omega) only [zb] at r458 h459 xq4 xq6 h460 h461 ⊢) <;> first | omega | ((try simp (disch := omega) only [zb] at r458 h459 xq4 xq6 h460 h461 ⊢) <;> omega)) ?_
        have cs13 := ci_wI cs3 tq9 (j := (0 : Int32).toNatClampNeg) (v := (mm_I s3 q9 (0 : Int32).toNatClampNeg) + 1) (kr_n rfl)
        have fs13 := fr_wIx fs3 tx_refl tq9 (j := (0 : Int32).toNatClampNeg) (v := (mm_I s3 q9 (0 : Int32).toNatClampNeg) + 1) rfl
        refine sw_let (fun s13 es13 => ?_)
        rw [es13] at cs13 fs13
        exact sw_some ⟨T, tx_refl, cs13, fs13, (pnd_fr (pnd_fr w_0 (show sFR _ [804] σ0 s3 from es3 ▸ fr_wI fr_refl t_p0 rfl) c0 t_p0 rfl rfl rfl) (show sFR _ [16] s3 s13 from es13 ▸ fr_wI fr_refl tq9 rfl) cs3 t_p0 rfl rfl rfl)⟩
      · refine sw_sh (ci_sh cs3 t_p0 rfl) ?_
        refine sw_on (sX8_takeRow cs3 t_p0  (pnd_fr w_0 (show sFR _ [804] σ0 s3 from es3 ▸ fr_wI fr_refl t_p0 rfl) c0 t_p0 rfl rfl rfl)) ?_
        intro q16 hqq16
        obtain ⟨Tq16, nq16, cq16, gq16, xq16⟩ := hqq16
        have fq16 := fr_trans fs3 (fr_tx tx_refl gq16) rfl
        have yq16 := tx_trans tx_refl nq16
        have t462 := nq16 _ _ t_p0
        exact sw_some ⟨Tq16, yq16, cq16, fq16, xq16⟩
  · exact sw_some ⟨T, tx_refl, c0, f0, w_0⟩
