/-! the frame rule for methods with a table -/
theorem mm_CW.left {Y : mm_Y} {G : mm_G} {A : Nat → Prop} {σ τ : mm_M} {y : MethodName} {cb : ByteArray} {nb : Nat} {rb : Option FieldType} {hh : List (Nat × Nat × Nat × Nat)} {rm : Room} {As : List Value} {Post : Option Value → mm_M → Prop} (h : mm_CW Y G y cb nb rb hh rm (mm_own σ) As σ Post) (hd : mm_dj σ τ) : mm_CW Y G y cb nb rb hh rm A As (mm_un σ τ) (fun v s => ∃ σ', Post v σ' ∧ mm_dj σ' τ ∧ s = mm_un σ' τ) := by
  intro l hlt p e ha hc hk s m args below hf happ hP hT
  obtain ⟨hargs, hK, hPu⟩ := hP
  have hA := hPu.ownA
  obtain ⟨s₂, o, h1, h2, h3, ⟨⟨v, σ', hv, hq, hm⟩, hF⟩, Ls, h5, h6⟩ := h l hlt p e ha hc hk s m args below hf happ ⟨hargs, hK.narrow hA, hPu.left⟩ hT
  obtain ⟨hj, hdj⟩ := hPu.joinL hd (fun q a1 a2 => hF.2 q a1 a2) hF.1 hm
  exact ⟨s₂, o, h1, h2, h3, ⟨⟨v, _, hv, ⟨σ', hq, hdj, rfl⟩, hj⟩, hF.1, fun q a1 a2 => hF.2 q a1 (fun b => a2 (hA q b))⟩, Ls, h5, fun q a1 => hA _ (h6 q a1)⟩
