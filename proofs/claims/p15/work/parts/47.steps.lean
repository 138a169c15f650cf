/-! The law's one step, without the machine -/
/-- a call of the class and the same call of the reference: answers alike, and N holds behind them -/
def lw_step (f8 : mm_M → Option (Option Int32 × mm_M)) (f9 : mm_M → Option (Int32 × mm_M)) (o9 out : Nat) (σ : mm_M) (N : mm_M → Prop) : Prop :=
  ∃ Rr, f8 σ = some Rr ∧ Rr.2.2.1 out = some (.inr (3, 1)) ∧
    (∀ r, Rr.1 = some r → (mm_wL Rr.2 out (0 : Int32).toNatClampNeg r.toInt64).2.1 o9 = some (.inl 9) ∧ ∃ R9, f9 (mm_wL Rr.2 out (0 : Int32).toNatClampNeg r.toInt64) = some R9 ∧ R9.2.2.1 o9 = some (.inl 9) ∧ mm_I R9.2 o9 0 = 0 ∧ R9.1 = r ∧ R9.2.2.1 out = some (.inr (3, 1)) ∧ R9.2.2.2.2.2 out (0 : Int32).toNatClampNeg = r.toInt64 ∧ N R9.2) ∧
    (Rr.1 = none → ∀ z, (∀ a sh, Rr.2.2.1 a = some sh → a < z) → Rr.2.2.1 o9 = some (.inl 9) ∧ ∃ R9, f9 (z, Rr.2.2) = some R9 ∧ R9.2.2.1 o9 = some (.inl 9) ∧ mm_I R9.2 o9 0 = 1 ∧ N R9.2)
/-- the same for a call that never throws -/
def lw_stepI (f8 : mm_M → Option (Int32 × mm_M)) (f9 : mm_M → Option (Int32 × mm_M)) (o9 : Nat) (σ : mm_M) (N : mm_M → Prop) : Prop :=
  ∃ R8, f8 σ = some R8 ∧ R8.2.2.1 o9 = some (.inl 9) ∧ ∃ R9, f9 R8.2 = some R9 ∧ R9.1 = R8.1 ∧ N R9.2
/-- what the law's first rows leave -/
def lx_Fr (T : Nat → Option Nat) (o8 o9 out : Nat) (σ : mm_M) : Prop := sCI T σ ∧ sFV T σ ∧ T o8 = some 8 ∧ T o9 = some 9 ∧ T out = none ∧ σ.2.1 out = some (.inr (3, 1)) ∧ out < σ.1
theorem fv9_fr {T : Nat → Option Nat} {K : List Nat} {σ σ' : mm_M} (h : sFV9 T σ) (f : sFR T K σ σ') (hK : K.all (fun x => x < 50 && !(x == 9) || (800 ≤ x && x < 900)) = true) : sFV9 T σ' := by
  intro a κ j t hk
  have hc : K.contains (kcode κ j) = false := by
    cases e : K.contains (kcode κ j) with
    | false => rfl
    | true =>
      have h1 := List.all_eq_true.mp hK _ (List.contains_iff_mem.mp e)
      simp only [Bool.or_eq_true, Bool.and_eq_true, decide_eq_true_eq, Bool.not_eq_true', beq_eq_false_iff_ne] at h1
      unfold kcode at h1
      split at h1
      · omega
      · split at h1
        · omega
        · omega
  rw [(f.2.2 a κ t j hc).1]
  exact h a κ j t hk
theorem oi_some {o : Option Int32} {r : Int32} (h : o = some r) : oi o = r.toInt ∧ -2147483648 ≤ r.toInt := by
  subst h; exact ⟨rfl, (zi_rg r).1⟩
theorem oi_none {o : Option Int32} (h : o = none) : oi o = -9999999999 := by
  subst h; rfl
/-- a call that may throw, both sides: P is what is kept of the memory between the two calls -/
theorem st_core {T : Nat → Option Nat} {σ : mm_M} {o8 o9 out : Nat} (F : lx_Fr T o8 o9 out σ) {f8 : mm_M → Option (Option Int32 × mm_M)} {f9 : mm_M → Option (Int32 × mm_M)} {P : mm_M → Prop} {X8 : Option Int32 × mm_M → Prop} {X9 : Int32 × mm_M → Prop}
    (h8 : sw (f8 σ) (fun R => P R.2 ∧ (σ.1 ≤ R.2.1 ∧ ∀ b, b < σ.1 → R.2.2.1 b = σ.2.1 b) ∧ X8 R))
    (hw : ∀ τ k v, P τ → P (mm_wL τ out k v)) (hz : ∀ τ z, P τ → (∀ a sh, τ.2.1 a = some sh → a < z) → P (z, τ.2))
    (h9 : ∀ τ, P τ → sw (f9 τ) (fun R => R.2.2.1 o9 = some (.inl 9) ∧ (∀ b, b < τ.1 → R.2.2.1 b = τ.2.1 b ∧ R.2.2.2.2.2 b = τ.2.2.2.2 b) ∧ X9 R))
    (hx : ∀ R8 R9, X8 R8 → X9 R9 → (∀ r : Int, oi R8.1 = r → -2147483648 ≤ r → (mm_I R9.2 o9 0).toInt = 0 ∧ R9.1.toInt = r) ∧ (oi R8.1 = -9999999999 → (mm_I R9.2 o9 0).toInt = 1)) : lw_step f8 f9 o9 out σ (fun _ => True) := by
  obtain ⟨c, fv, t8, t9, tn, so, lt⟩ := F
  obtain ⟨Rr, e8, P8, ⟨z8, s8⟩, x8⟩ := h8
  have so8 : Rr.2.2.1 out = some (.inr (3, 1)) := (s8 out lt).trans so
  have so9 : Rr.2.2.1 o9 = some (.inl 9) := (s8 o9 (c.2.2.2.2 _ _ t9)).trans (ci_sh c t9 rfl)
  refine ⟨Rr, e8, so8, fun r hr => ?_, fun hr z hlt => ?_⟩
  · obtain ⟨R9, e9, s9, k9, x9⟩ := h9 _ (hw Rr.2 (0 : Int32).toNatClampNeg r.toInt64 P8)
    have hh := (hx Rr R9 x8 x9).1 _ (oi_some hr).1 (oi_some hr).2
    refine ⟨so9, R9, e9, s9, by rw [zi_eq, hh.1]; rfl, by rw [zi_eq]; exact hh.2, (k9 out (Nat.lt_of_lt_of_le lt z8)).1.trans so8, ?_, trivial⟩
    rw [(k9 out (Nat.lt_of_lt_of_le lt z8)).2]
    exact mm_up2_self
  · obtain ⟨R9, e9, s9, k9, x9⟩ := h9 _ (hz Rr.2 z P8 hlt)
    have hh := (hx Rr R9 x8 x9).2 (oi_none hr)
    exact ⟨so9, R9, e9, s9, by rw [zi_eq, hh]; rfl, trivial⟩
theorem st_X {T : Nat → Option Nat} {σ : mm_M} {o8 o9 out : Nat} (F : lx_Fr T o8 o9 out σ) {f8 : mm_M → Option (Option Int32 × mm_M)} {f9 : mm_M → Option (Int32 × mm_M)} {K8 K9 : List Nat} {X8 : Option Int32 × mm_M → Prop} {X9 : Int32 × mm_M → Prop}
    (h8 : sw (f8 σ) (fun R => sCI T R.2 ∧ sFR T K8 σ R.2 ∧ X8 R)) (hK : K8.all (fun x => x < 50 && !(x == 9) || (800 ≤ x && x < 900)) = true)
    (h9 : ∀ τ, sCI T τ → sFV9 T τ → sw (f9 τ) (fun R => sCI T R.2 ∧ sFR T K9 τ R.2 ∧ X9 R))
    (hx : ∀ R8 R9, X8 R8 → X9 R9 → (∀ r : Int, oi R8.1 = r → -2147483648 ≤ r → (mm_I R9.2 o9 0).toInt = 0 ∧ R9.1.toInt = r) ∧ (oi R8.1 = -9999999999 → (mm_I R9.2 o9 0).toInt = 1)) : lw_step f8 f9 o9 out σ (fun _ => True) :=
  st_core (P := fun τ => sCI T τ ∧ sFV9 T τ) F (h8.mono (fun R h => ⟨⟨h.1, fv9_fr F.2.1.nine h.2.1 hK⟩, ⟨h.2.1.1, fun b hb => (h.2.1.2.1 b hb).1⟩, h.2.2⟩)) (fun _ _ _ h => h) (fun _ _ h hz => ⟨ci_z h.1 hz, h.2⟩)
    (fun τ h => (h9 τ h.1 h.2).mono (fun R h => ⟨ci_sh h.1 F.2.2.2.1 rfl, h.2.1.2.1, h.2.2⟩)) hx
theorem st_tick {T : Nat → Option Nat} {σ : mm_M} {o8 o9 out : Nat} (F : lx_Fr T o8 o9 out σ) (n : Int32) : lw_step (fun τ => fX8_tick o8 n τ) (fun τ => fX9_tick o9 n τ) o9 out σ (fun _ => True) := by
  have F' := F
  obtain ⟨c, fv, t8, t9, tn, so, lt⟩ := F'
  have h0 : (mm_I σ o9 34).toInt = 0 := by
    have : mm_I σ o9 34 = 0 := fv o9 9 34 t9
    rw [this]; rfl
  refine st_core (P := fun τ => (∃ T' : Nat → Option Nat, T' o9 = some 9 ∧ sCI T' τ) ∧ (mm_I τ o9 34).toInt = 0) (X8 := fun R => ((1 ≤ n.toInt ∧ n.toInt ≤ 100000) ∧ oi R.1 = n.toInt) ∨ (¬ (1 ≤ n.toInt ∧ n.toInt ≤ 100000) ∧ oi R.1 = -9999999999)) (X9 := fun R => ((1 ≤ n.toInt ∧ n.toInt ≤ 100000) ∧ R.1.toInt = n.toInt ∧ (mm_I R.2 o9 0).toInt = 0) ∨ (¬ (1 ≤ n.toInt ∧ n.toInt ≤ 100000) ∧ (mm_I R.2 o9 0).toInt = 1)) F ((vX8_tick (p1 := n) c fv t8).mono (fun R h => ?_)) (fun _ _ _ h => h) (fun _ _ h hz => ⟨h.1.imp (fun T' h => ⟨h.1, ci_z h.2 hz⟩), h.2⟩) (fun τ h => ?_) (fun R8 R9 x8 x9 => ?_)
  · obtain ⟨T', tx, c8, f8, x⟩ := h
    refine ⟨⟨⟨T', tx _ _ t9, c8⟩, ?_⟩, ⟨f8.1, fun b hb => (f8.2.1 b hb).1⟩, x⟩
    rw [(f8.2.2 o9 9 t9 34 rfl).1]; exact h0
  · obtain ⟨⟨T', t9', c9⟩, h34⟩ := h
    exact (vX9_tick (p1 := n) c9 t9' h34).mono (fun R h => ⟨ci_sh h.1 t9' rfl, h.2.1.2.1, h.2.2⟩)
  · refine ⟨fun r h1 h2 => ?_, fun h1 => ?_⟩ <;> omega
theorem st_guarded {T : Nat → Option Nat} {σ : mm_M} {o8 o9 out : Nat} (F : lx_Fr T o8 o9 out σ) (n : Int32) : lw_stepI (fun τ => fX8_guarded o8 n τ) (fun τ => fX9_guarded o9 n τ) o9 σ (fun _ => True) := by
  obtain ⟨c, fv, t8, t9, tn, so, lt⟩ := F
  obtain ⟨v, e1, e2⟩ := po_guarded n σ (mm_wI σ o9 0 0)
  refine ⟨(v, σ), ?_, ci_sh c t9 rfl, (v, mm_wI σ o9 0 0), ?_, rfl, trivial⟩
  · show fX8_guarded o8 n σ = _
    unfold fX8_guarded
    rw [e1]; rfl
  · show fX9_guarded o9 n σ = _
    unfold fX9_guarded mm_sh
    rw [if_pos (ci_sh c t9 rfl)]
    show mm_on (fX9_guard n (mm_wI σ o9 0 0)) (fun q3 => some (q3.1, q3.2)) = _
    rw [e2]; rfl
theorem st_I {T : Nat → Option Nat} {σ : mm_M} {o8 o9 out : Nat} (F : lx_Fr T o8 o9 out σ) {f8 f9 : mm_M → Option (Int32 × mm_M)} {K9 : List Nat} {v : Int}
    (h8 : sw (f8 σ) (fun R => R.2 = σ ∧ R.1.toInt = v)) (h9 : sw (f9 σ) (fun R => sCI T R.2 ∧ sFR T K9 σ R.2 ∧ R.1.toInt = v)) : lw_stepI f8 f9 o9 σ (fun _ => True) := by
  obtain ⟨R8, e8, s8, v8⟩ := h8
  obtain ⟨R9, e9, -, -, v9⟩ := h9
  have s9 : R8.2.2.1 o9 = some (.inl 9) := by rw [s8]; exact ci_sh F.1 F.2.2.2.1 rfl
  exact ⟨R8, e8, s9, R9, by rw [s8]; exact e9, by rw [zi_eq, v8, v9], trivial⟩
theorem st_pair {T : Nat → Option Nat} {σ : mm_M} {o8 o9 out : Nat} (F : lx_Fr T o8 o9 out σ) (p1 p2 p3 : Int32) : lw_step (fun τ => fX8_pair o8 p1 p2 p3 τ) (fun τ => fX9_pair o9 p1 p2 p3 τ) o9 out σ (fun _ => True) := by
  refine st_X F (vX8_pair (p1 := p1) (p2 := p2) (p3 := p3) F.1 F.2.1 F.2.2.1) (by decide) (fun τ h1 h2 => vX9_pair (p1 := p1) (p2 := p2) (p3 := p3) h1 h2 F.2.2.2.1) (fun R8 R9 x8 x9 => ?_)
  refine ⟨fun r h1 h2 => ?_, fun h1 => ?_⟩ <;> omega
theorem st_cell {T : Nat → Option Nat} {σ : mm_M} {o8 o9 out : Nat} (F : lx_Fr T o8 o9 out σ) (p1 p2 p3 p4 p5 : Int32) : lw_step (fun τ => fX8_cell o8 p1 p2 p3 p4 p5 τ) (fun τ => fX9_cell o9 p1 p2 p3 p4 p5 τ) o9 out σ (fun _ => True) := by
  refine st_X F (vX8_cell (p1 := p1) (p2 := p2) (p3 := p3) (p4 := p4) (p5 := p5) F.1 F.2.1 F.2.2.1) (by decide) (fun τ h1 h2 => vX9_cell (p1 := p1) (p2 := p2) (p3 := p3) (p4 := p4) (p5 := p5) h1 h2 F.2.2.2.1) (fun R8 R9 x8 x9 => ?_)
  refine ⟨fun r h1 h2 => ?_, fun h1 => ?_⟩ <;> omega
theorem st_state {T : Nat → Option Nat} {σ : mm_M} {o8 o9 out : Nat} (F : lx_Fr T o8 o9 out σ) (p1 p2 : Int32) : lw_step (fun τ => fX8_state o8 p1 p2 τ) (fun τ => fX9_state o9 p1 p2 τ) o9 out σ (fun _ => True) := by
  refine st_X F (vX8_state (p1 := p1) (p2 := p2) F.1 F.2.1 F.2.2.1) (by decide) (fun τ h1 h2 => vX9_state (p1 := p1) (p2 := p2) h1 h2 F.2.2.2.1) (fun R8 R9 x8 x9 => ?_)
  refine ⟨fun r h1 h2 => ?_, fun h1 => ?_⟩ <;> omega
theorem st_channel {T : Nat → Option Nat} {σ : mm_M} {o8 o9 out : Nat} (F : lx_Fr T o8 o9 out σ) (p1 : Int32) : lw_step (fun τ => fX8_channel o8 p1 τ) (fun τ => fX9_channel o9 p1 τ) o9 out σ (fun _ => True) := by
  refine st_X F (vX8_channel (p1 := p1) F.1 F.2.1 F.2.2.1) (by decide) (fun τ h1 h2 => vX9_channel (p1 := p1) h1 h2 F.2.2.2.1) (fun R8 R9 x8 x9 => ?_)
  refine ⟨fun r h1 h2 => ?_, fun h1 => ?_⟩ <;> omega
theorem st_feed {T : Nat → Option Nat} {σ : mm_M} {o8 o9 out : Nat} (F : lx_Fr T o8 o9 out σ) (p1 p2 p3 p4 p5 : Int32) : lw_step (fun τ => fX8_feed o8 p1 p2 p3 p4 p5 τ) (fun τ => fX9_feed o9 p1 p2 p3 p4 p5 τ) o9 out σ (fun _ => True) := by
  refine st_X F (vX8_feed (p1 := p1) (p2 := p2) (p3 := p3) (p4 := p4) (p5 := p5) F.1 F.2.1 F.2.2.1) (by decide) (fun τ h1 h2 => vX9_feed (p1 := p1) (p2 := p2) (p3 := p3) (p4 := p4) (p5 := p5) h1 h2 F.2.2.2.1) (fun R8 R9 x8 x9 => ?_)
  refine ⟨fun r h1 h2 => ?_, fun h1 => ?_⟩ <;> omega
theorem st_packet {T : Nat → Option Nat} {σ : mm_M} {o8 o9 out : Nat} (F : lx_Fr T o8 o9 out σ) : lw_step (fun τ => fX8_packet o8  τ) (fun τ => fX9_packet o9  τ) o9 out σ (fun _ => True) := by
  refine st_X F (vX8_packet  F.1 F.2.1 F.2.2.1) (by decide) (fun τ h1 h2 => vX9_packet  h1 h2 F.2.2.2.1) (fun R8 R9 x8 x9 => ?_)
  refine ⟨fun r h1 h2 => ?_, fun h1 => ?_⟩ <;> omega
theorem st_nothing {T : Nat → Option Nat} {σ : mm_M} {o8 o9 out : Nat} (F : lx_Fr T o8 o9 out σ) (p1 : Int32) : lw_step (fun τ => fX8_nothing o8 p1 τ) (fun τ => fX9_nothing o9 p1 τ) o9 out σ (fun _ => True) := by
  refine st_X F (vX8_nothing (p1 := p1) F.1 F.2.1 F.2.2.1) (by decide) (fun τ h1 h2 => vX9_nothing (p1 := p1) h1 h2 F.2.2.2.1) (fun R8 R9 x8 x9 => ?_)
  refine ⟨fun r h1 h2 => ?_, fun h1 => ?_⟩ <;> omega
theorem st_page {T : Nat → Option Nat} {σ : mm_M} {o8 o9 out : Nat} (F : lx_Fr T o8 o9 out σ) (p1 p2 : Int32) : lw_step (fun τ => fX8_page o8 p1 p2 τ) (fun τ => fX9_page o9 p1 p2 τ) o9 out σ (fun _ => True) := by
  refine st_X F (vX8_page (p1 := p1) (p2 := p2) F.1 F.2.1 F.2.2.1) (by decide) (fun τ h1 h2 => vX9_page (p1 := p1) (p2 := p2) h1 h2 F.2.2.2.1) (fun R8 R9 x8 x9 => ?_)
  refine ⟨fun r h1 h2 => ?_, fun h1 => ?_⟩ <;> omega
theorem st_sign {T : Nat → Option Nat} {σ : mm_M} {o8 o9 out : Nat} (F : lx_Fr T o8 o9 out σ) (p1 p2 p3 : Int32) : lw_step (fun τ => fX8_sign o8 p1 p2 p3 τ) (fun τ => fX9_sign o9 p1 p2 p3 τ) o9 out σ (fun _ => True) := by
  refine st_X F (vX8_sign (p1 := p1) (p2 := p2) (p3 := p3) F.1 F.2.1 F.2.2.1) (by decide) (fun τ h1 h2 => vX9_sign (p1 := p1) (p2 := p2) (p3 := p3) h1 h2 F.2.2.2.1) (fun R8 R9 x8 x9 => ?_)
  refine ⟨fun r h1 h2 => ?_, fun h1 => ?_⟩ <;> omega
theorem st_link {T : Nat → Option Nat} {σ : mm_M} {o8 o9 out : Nat} (F : lx_Fr T o8 o9 out σ) (p1 p2 p3 : Int32) : lw_step (fun τ => fX8_link o8 p1 p2 p3 τ) (fun τ => fX9_link o9 p1 p2 p3 τ) o9 out σ (fun _ => True) := by
  refine st_X F (vX8_link (p1 := p1) (p2 := p2) (p3 := p3) F.1 F.2.1 F.2.2.1) (by decide) (fun τ h1 h2 => vX9_link (p1 := p1) (p2 := p2) (p3 := p3) h1 h2 F.2.2.2.1) (fun R8 R9 x8 x9 => ?_)
  refine ⟨fun r h1 h2 => ?_, fun h1 => ?_⟩ <;> omega
theorem st_open {T : Nat → Option Nat} {σ : mm_M} {o8 o9 out : Nat} (F : lx_Fr T o8 o9 out σ) (p1 : Int32) : lw_step (fun τ => fX8_open o8 p1 τ) (fun τ => fX9_open o9 p1 τ) o9 out σ (fun _ => True) := by
  refine st_X F (vX8_open (p1 := p1) F.1 F.2.1 F.2.2.1) (by decide) (fun τ h1 h2 => vX9_open (p1 := p1) h1 h2 F.2.2.2.1) (fun R8 R9 x8 x9 => ?_)
  refine ⟨fun r h1 h2 => ?_, fun h1 => ?_⟩ <;> omega
theorem st_watch {T : Nat → Option Nat} {σ : mm_M} {o8 o9 out : Nat} (F : lx_Fr T o8 o9 out σ) (p1 p2 : Int32) : lw_step (fun τ => fX8_watch o8 p1 p2 τ) (fun τ => fX9_watch o9 p1 p2 τ) o9 out σ (fun _ => True) := by
  refine st_X F (vX8_watch (p1 := p1) (p2 := p2) F.1 F.2.1 F.2.2.1) (by decide) (fun τ h1 h2 => vX9_watch (p1 := p1) (p2 := p2) h1 h2 F.2.2.2.1) (fun R8 R9 x8 x9 => ?_)
  refine ⟨fun r h1 h2 => ?_, fun h1 => ?_⟩ <;> omega
theorem st_cue {T : Nat → Option Nat} {σ : mm_M} {o8 o9 out : Nat} (F : lx_Fr T o8 o9 out σ) (p1 p2 : Int32) : lw_step (fun τ => fX8_cue o8 p1 p2 τ) (fun τ => fX9_cue o9 p1 p2 τ) o9 out σ (fun _ => True) := by
  refine st_X F (vX8_cue (p1 := p1) (p2 := p2) F.1 F.2.1 F.2.2.1) (by decide) (fun τ h1 h2 => vX9_cue (p1 := p1) (p2 := p2) h1 h2 F.2.2.2.1) (fun R8 R9 x8 x9 => ?_)
  refine ⟨fun r h1 h2 => ?_, fun h1 => ?_⟩ <;> omega
theorem st_line {T : Nat → Option Nat} {σ : mm_M} {o8 o9 out : Nat} (F : lx_Fr T o8 o9 out σ) (p1 p2 : Int32) : lw_step (fun τ => fX8_line o8 p1 p2 τ) (fun τ => fX9_line o9 p1 p2 τ) o9 out σ (fun _ => True) := by
  refine st_X F (vX8_line (p1 := p1) (p2 := p2) F.1 F.2.1 F.2.2.1) (by decide) (fun τ h1 h2 => vX9_line (p1 := p1) (p2 := p2) h1 h2 F.2.2.2.1) (fun R8 R9 x8 x9 => ?_)
  refine ⟨fun r h1 h2 => ?_, fun h1 => ?_⟩ <;> omega
theorem st_pages {T : Nat → Option Nat} {σ : mm_M} {o8 o9 out : Nat} (F : lx_Fr T o8 o9 out σ) : lw_stepI (fun τ => fX8_pages o8  τ) (fun τ => fX9_pages o9  τ) o9 σ (fun _ => True) :=
  st_I F (vX8_pages  F.1 F.2.1 F.2.2.1) (vX9_pages  F.1 F.2.1.nine F.2.2.2.1)
theorem st_find {T : Nat → Option Nat} {σ : mm_M} {o8 o9 out : Nat} (F : lx_Fr T o8 o9 out σ) (p1 p2 p3 : Int32) : lw_stepI (fun τ => fX8_find o8 p1 p2 p3 τ) (fun τ => fX9_find o9 p1 p2 p3 τ) o9 σ (fun _ => True) :=
  st_I F (vX8_find (p1 := p1) (p2 := p2) (p3 := p3) F.1 F.2.1 F.2.2.1) (vX9_find (p1 := p1) (p2 := p2) (p3 := p3) F.1 F.2.1.nine F.2.2.2.1)
theorem st_cues {T : Nat → Option Nat} {σ : mm_M} {o8 o9 out : Nat} (F : lx_Fr T o8 o9 out σ) : lw_stepI (fun τ => fX8_cues o8  τ) (fun τ => fX9_cues o9  τ) o9 σ (fun _ => True) :=
  st_I F (vX8_cues  F.1 F.2.1 F.2.2.1) (vX9_cues  F.1 F.2.1.nine F.2.2.2.1)
