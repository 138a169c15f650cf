/-! two memories side by side: a contract of the one is a contract of both (the frame rule, once, for the law) -/
def mm_own (σ : mm_M) : Nat → Prop := fun q => σ.2.1 q ≠ none ∨ σ.1 ≤ q
def mm_dj (σ τ : mm_M) : Prop := ∀ q, τ.2.1 q ≠ none → σ.2.1 q = none
def mm_un (σ τ : mm_M) : mm_M := (σ.1, (fun q => match σ.2.1 q with | some s => some s | none => τ.2.1 q), (fun q => match σ.2.1 q with | some _ => σ.2.2.1 q | none => τ.2.2.1 q), (fun q => match σ.2.1 q with | some _ => σ.2.2.2.1 q | none => τ.2.2.2.1 q), (fun q => match σ.2.1 q with | some _ => σ.2.2.2.2 q | none => τ.2.2.2.2 q))
theorem mm_un_vl {σ τ : mm_M} {q : Nat} {sh : Nat ⊕ Nat × Nat} (h : σ.2.1 q = some sh) (ty : FieldType) (k : Nat) : mm_v (mm_un σ τ) ty q k = mm_v σ ty q k := by
  cases ty <;> simp [mm_v, mm_un, h]
theorem mm_un_vr {σ τ : mm_M} {q : Nat} (h : σ.2.1 q = none) (ty : FieldType) (k : Nat) : mm_v (mm_un σ τ) ty q k = mm_v τ ty q k := by
  cases ty <;> simp [mm_v, mm_un, h]
theorem mm_un_sl {σ τ : mm_M} {q : Nat} {sh : Nat ⊕ Nat × Nat} (h : σ.2.1 q = some sh) : (mm_un σ τ).2.1 q = some sh := by simp [mm_un, h]
theorem mm_un_sr {σ τ : mm_M} {q : Nat} (h : σ.2.1 q = none) : (mm_un σ τ).2.1 q = τ.2.1 q := by simp [mm_un, h]
section MMU
variable {Y : mm_Y} {G : mm_G} {A : Nat → Prop} {σ τ : mm_M} {H H1 : Heap}
theorem mm_K.narrow {B : Nat → Prop} {U : State} (h : mm_K Y G A U) (hAB : ∀ q, B q → A q) : mm_K Y G B U :=
  ⟨h.1, h.2.1, h.2.2.1, fun k C n xs hk => ⟨(h.2.2.2.1 k C n xs hk).1.narrow hAB, (h.2.2.2.1 k C n xs hk).2.narrow hAB⟩, h.2.2.2.2.1.narrow hAB, h.2.2.2.2.2.1.narrow hAB, h.2.2.2.2.2.2⟩
theorem mm_P.left (h : mm_P Y G A (mm_un σ τ) H) : mm_P Y G (mm_own σ) σ H := by
  refine ⟨h.1, fun q hq => Or.inr hq, fun a sh hs => ⟨Or.inl (by rw [hs]; exact fun e => by cases e), ?_⟩⟩
  exact mm_at_congr (h.2.2 a sh (mm_un_sl hs)).2 rfl (fun ty k => (mm_un_vl hs ty k).symm)
theorem mm_P.right (h : mm_P Y G A (mm_un σ τ) H) (hd : mm_dj σ τ) : mm_P Y G (mm_own (σ.1, τ.2)) (σ.1, τ.2) H := by
  refine ⟨h.1, fun q hq => Or.inr hq, fun a sh hs => ?_⟩
  have hs' : τ.2.1 a = some sh := hs
  have hn : σ.2.1 a = none := hd a (by rw [hs']; exact fun e => by cases e)
  refine ⟨Or.inl (by rw [hs]; exact fun e => by cases e), ?_⟩
  exact mm_at_congr (h.2.2 a sh (by rw [mm_un_sr hn]; exact hs')).2 rfl (fun ty k => by rw [mm_un_vr hn]; cases ty <;> rfl)
theorem mm_P.ownA (h : mm_P Y G A (mm_un σ τ) H) : ∀ q, mm_own σ q → A q := by
  intro q hq
  rcases hq with hq | hq
  · cases hs : σ.2.1 q with
    | none => exact absurd hs hq
    | some sh => exact (h.2.2 q sh (mm_un_sl hs)).1
  · exact h.2.1 q hq
theorem mm_P.ownB (h : mm_P Y G A (mm_un σ τ) H) (hd : mm_dj σ τ) : ∀ q, mm_own (σ.1, τ.2) q → A q := by
  intro q hq
  rcases hq with hq | hq
  · cases hs : τ.2.1 q with
    | none => exact absurd hs hq
    | some sh => exact (h.2.2 q sh (by rw [mm_un_sr (hd q (by rw [hs]; exact fun e => by cases e))]; exact hs)).1
  · exact h.2.1 q hq
/-- behind a change of the left one alone -/
theorem mm_P.joinL {σ' : mm_M} (h : mm_P Y G A (mm_un σ τ) H) (hd : mm_dj σ τ) (hk : ∀ q, q < H.size → ¬ mm_own σ q → H1[q]? = H[q]?) (hz : H.size ≤ H1.size) (h1 : mm_P Y G (mm_own σ) σ' H1) : mm_P Y G A (mm_un σ' τ) H1 ∧ mm_dj σ' τ := by
  have hA := h.ownA
  have hr := h.right hd
  have hdj : mm_dj σ' τ := by
    intro q hq
    cases hs : σ'.2.1 q with
    | none => rfl
    | some sh =>
      exfalso
      have ho := (h1.2.2 q sh hs).1
      cases ht : τ.2.1 q with
      | none => exact hq ht
      | some st =>
        rcases ho with ho | ho
        · exact ho (hd q hq)
        · have := hr.lt (a := q) (sh := st) ht
          exact absurd this (Nat.not_lt.mpr ho)
  refine ⟨⟨h1.1, fun q hq => hA q (h1.2.1 q hq), fun a sh hs => ?_⟩, hdj⟩
  cases hs' : σ'.2.1 a with
  | some s2 =>
    rw [mm_un_sl hs'] at hs
    cases hs
    exact ⟨hA a (h1.2.2 a _ hs').1, mm_at_congr (h1.2.2 a _ hs').2 rfl (fun ty k => mm_un_vl hs' ty k)⟩
  | none =>
    rw [mm_un_sr hs'] at hs
    have hn : σ.2.1 a = none := hd a (by rw [hs]; exact fun e => by cases e)
    have hlt : a < H.size := by rw [h.1]; exact hr.lt (a := a) (sh := sh) hs
    have hno : ¬ mm_own σ a := by
      rintro (q | q)
      · exact q hn
      · exact absurd hlt (by rw [h.1]; exact Nat.not_lt.mpr q)
    have hu := h.2.2 a sh (by rw [mm_un_sr hn]; exact hs)
    exact ⟨hu.1, mm_at_congr hu.2 (hk a hlt hno) (fun ty k => by rw [mm_un_vr hs', mm_un_vr hn])⟩
theorem mm_P.joinR {τ' : mm_M} (h : mm_P Y G A (mm_un σ τ) H) (hd : mm_dj σ τ) (hk : ∀ q, q < H.size → ¬ mm_own (σ.1, τ.2) q → H1[q]? = H[q]?) (hz : H.size ≤ H1.size) (h1 : mm_P Y G (mm_own (σ.1, τ.2)) τ' H1) : mm_P Y G A (mm_un (τ'.1, σ.2) τ') H1 ∧ mm_dj (τ'.1, σ.2) τ' := by
  have hB := h.ownB hd
  have hl := h.left
  have hdj : mm_dj (τ'.1, σ.2) τ' := by
    intro q hq
    cases hs : τ'.2.1 q with
    | none => exact absurd hs hq
    | some sh =>
      rcases (h1.2.2 q sh hs).1 with ho | ho
      · exact hd q ho
      · cases hs2 : σ.2.1 q with
        | none => rfl
        | some s2 => exact absurd (hl.lt hs2) (Nat.not_lt.mpr ho)
  refine ⟨⟨h1.1, fun q hq => hB q (h1.2.1 q hq), fun a sh hs => ?_⟩, hdj⟩
  cases hs' : σ.2.1 a with
  | some s2 =>
    have hx : (mm_un (τ'.1, σ.2) τ').2.1 a = some s2 := mm_un_sl (σ := (τ'.1, σ.2)) hs'
    rw [hx] at hs
    cases hs
    have hlt : a < H.size := by rw [h.1]; exact hl.lt hs'
    have hno : ¬ mm_own (σ.1, τ.2) a := by
      rintro (q | q)
      · have := hd a q
        rw [hs'] at this
        cases this
      · exact absurd hlt (by rw [h.1]; exact Nat.not_lt.mpr q)
    have hu := h.2.2 a sh (mm_un_sl hs')
    exact ⟨hu.1, mm_at_congr hu.2 (hk a hlt hno) (fun ty k => by rw [mm_un_vl (σ := (τ'.1, σ.2)) (τ := τ') hs', mm_un_vl hs']; cases ty <;> rfl)⟩
  | none =>
    have hx : (mm_un (τ'.1, σ.2) τ').2.1 a = τ'.2.1 a := mm_un_sr (σ := (τ'.1, σ.2)) hs'
    rw [hx] at hs
    exact ⟨hB a (h1.2.2 a _ hs).1, mm_at_congr (h1.2.2 a _ hs).2 rfl (fun ty k => mm_un_vr (σ := (τ'.1, σ.2)) hs' ty k)⟩
variable {y : MethodName} {cb : ByteArray} {nb : Nat} {rb : Option FieldType} {rm : Room} {As : List Value} {Post : Option Value → mm_M → Prop}
theorem mm_C.left (h : mm_C Y G y cb nb rb rm (mm_own σ) As σ Post) (hd : mm_dj σ τ) : mm_C Y G y cb nb rb rm A As (mm_un σ τ) (fun v s => ∃ σ', Post v σ' ∧ mm_dj σ' τ ∧ s = mm_un σ' τ) := by
  intro l hlt p e ha hc hk s m args below hf happ hP hT
  obtain ⟨hargs, hK, hPu⟩ := hP
  have hA := hPu.ownA
  obtain ⟨s₂, o, h1, h2, h3, ⟨⟨v, σ', hv, hq, hm⟩, hF⟩, Ls, h5, h6⟩ := h l hlt p e ha hc hk s m args below hf happ ⟨hargs, hK.narrow hA, hPu.left⟩ hT
  obtain ⟨hj, hdj⟩ := hPu.joinL hd (fun q a1 a2 => hF.2 q a1 a2) hF.1 hm
  exact ⟨s₂, o, h1, h2, h3, ⟨⟨v, _, hv, ⟨σ', hq, hdj, rfl⟩, hj⟩, hF.1, fun q a1 a2 => hF.2 q a1 (fun b => a2 (hA q b))⟩, Ls, h5, fun q a1 => hA _ (h6 q a1)⟩
theorem mm_C.right (h : mm_C Y G y cb nb rb rm (mm_own (σ.1, τ.2)) As (σ.1, τ.2) Post) (hd : mm_dj σ τ) : mm_C Y G y cb nb rb rm A As (mm_un σ τ) (fun v s => ∃ τ', Post v τ' ∧ mm_dj (τ'.1, σ.2) τ' ∧ s = mm_un (τ'.1, σ.2) τ') := by
  intro l hlt p e ha hc hk s m args below hf happ hP hT
  obtain ⟨hargs, hK, hPu⟩ := hP
  have hA := hPu.ownB hd
  obtain ⟨s₂, o, h1, h2, h3, ⟨⟨v, τ', hv, hq, hm⟩, hF⟩, Ls, h5, h6⟩ := h l hlt p e ha hc hk s m args below hf happ ⟨hargs, hK.narrow hA, hPu.right hd⟩ hT
  obtain ⟨hj, hdj⟩ := hPu.joinR hd (fun q a1 a2 => hF.2 q a1 a2) hF.1 hm
  exact ⟨s₂, o, h1, h2, h3, ⟨⟨v, _, hv, ⟨τ', hq, hdj, rfl⟩, hj⟩, hF.1, fun q a1 a2 => hF.2 q a1 (fun b => a2 (hA q b))⟩, Ls, h5, fun q a1 => hA _ (h6 q a1)⟩
end MMU
