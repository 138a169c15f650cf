/-! The channels together (p4) -/
def a_M (u : Nat → Int32) : Prop := u 2 = 0 ∨ u 2 = 1 ∨ u 2 = 2 ∨ u 2 = 3 ∨ u 2 = 4
section AM
variable {u : Nat → Int32}
theorem a_M.app (h : a_M u) {k : Nat} {v : Int32} (hk : k ≠ 2) : a_M (q_app u k v) := by
  unfold a_M q_app; rw [if_neg (fun e => hk e.symm)]; exact h
theorem a_M.two {v : Int32} (hv : v = 0 ∨ v = 1 ∨ v = 2 ∨ v = 3 ∨ v = 4) : a_M (q_app u 2 v) := by
  unfold a_M q_app; rw [if_pos rfl]; exact hv
theorem a_M.put (h : a_M u) : a_M (a_put u) := by
  unfold a_put; split
  · exact h.app (by decide)
  · exact h
theorem a_M.code (h : a_M u) (x y : Int32) : a_M (a_code u x y) := by
  have m1 : ∀ w : Nat → Int32, a_M (q_app w 2 1) := fun w => a_M.two (Or.inr (Or.inl rfl))
  have m2 : ∀ w : Nat → Int32, a_M (q_app w 2 2) := fun w => a_M.two (Or.inr (Or.inr (Or.inl rfl)))
  have m3 : ∀ w : Nat → Int32, a_M (q_app w 2 3) := fun w => a_M.two (Or.inr (Or.inr (Or.inr (Or.inl rfl))))
  have m4 : ∀ w : Nat → Int32, a_M (q_app w 2 4) := fun w => a_M.two (Or.inr (Or.inr (Or.inr (Or.inr rfl))))
  have mr : ∀ d, a_M (a_roll u d) := fun d => by
    unfold a_roll
    exact ((m2 _).app (k := 4) (by decide)).app (k := 5) (by decide)
  have mc : ∀ p, a_M (a_ctl u p) := by
    intro p
    unfold a_ctl
    by_cases e : p = 0
    · rw [if_pos e]
      exact m1 _
    rw [if_neg e]
    clear e
    by_cases e : p = 1
    · rw [if_pos e]
      split
      · split
        · exact h
        · exact h.app (k := 4) (by decide)
      · exact h
    rw [if_neg e]
    clear e
    by_cases e : p = 4
    · rw [if_pos e]
      exact h
    rw [if_neg e]
    clear e
    by_cases e : p = 5
    · rw [if_pos e]
      exact mr _
    rw [if_neg e]
    clear e
    by_cases e : p = 6
    · rw [if_pos e]
      exact mr _
    rw [if_neg e]
    clear e
    by_cases e : p = 7
    · rw [if_pos e]
      exact mr _
    rw [if_neg e]
    clear e
    by_cases e : p = 9
    · rw [if_pos e]
      exact m3 _
    rw [if_neg e]
    clear e
    by_cases e : p = 10
    · rw [if_pos e]
      exact m4 _
    rw [if_neg e]
    clear e
    by_cases e : p = 11
    · rw [if_pos e]
      exact m4 _
    rw [if_neg e]
    clear e
    by_cases e : p = 12
    · rw [if_pos e]
      exact h
    rw [if_neg e]
    clear e
    by_cases e : p = 13
    · rw [if_pos e]
      split
      · exact (h.app (k := 4) (by decide)).app (k := 5) (by decide)
      · exact h
    rw [if_neg e]
    clear e
    by_cases e : p = 14
    · rw [if_pos e]
      exact h
    rw [if_neg e]
    clear e
    by_cases e : p = 15
    · rw [if_pos e]
      exact m1 _
    rw [if_neg e]
    clear e
    exact h
  have mw : ∀ b, a_M (a_rw u b y) := by
    intro b
    unfold a_rw
    split
    · exact ((h.app (k := 3) (by decide)).app (k := 5) (by decide)).app (k := 4) (by decide)
    · exact h
  have mb : a_M (a_bk u) := (h.app (k := 4) (by decide)).put
  have ms : a_M (a_sp u y) := by
    unfold a_sp; split
    · exact (h.app (k := 5) (by decide)).put
    · exact h.put
  have mk : ∀ p, a_M (a_sk u p) := by
    intro p; unfold a_sk; split
    · exact h
    · exact h.app (k := 4) (by decide)
  unfold a_code
  by_cases e : y < 64
  · rw [if_pos e]
    by_cases e : x = 17
    · rw [if_pos e]
      exact ms
    rw [if_neg e]
    clear e
    by_cases e : x = 18
    · rw [if_pos e]
      exact mb
    rw [if_neg e]
    clear e
    by_cases e : x = 19
    · rw [if_pos e]
      exact mb
    rw [if_neg e]
    clear e
    by_cases e : x = 20
    · rw [if_pos e]
      exact mc _
    rw [if_neg e]
    clear e
    by_cases e : x = 21
    · rw [if_pos e]
      exact mc _
    rw [if_neg e]
    clear e
    by_cases e : x = 23
    · rw [if_pos e]
      split
      · exact h
      · split
        · exact h
        · exact mk _
    rw [if_neg e]
    clear e
    exact h
  · rw [if_neg e]
    split
    · split
      · exact mw _
      · exact h
    · exact mw _
end AM
theorem a_pair_M {w : Nat → Nat → Int32} (h : ∀ i, i < 4 → a_M (w i)) {f ch bf p2 p3 : Int32} (hf : f = 0 ∨ f = 1) : ∀ i, i < 4 → a_M (a_pair w f ch bf p2 p3 i) := by
  intro i hi
  unfold a_pair
  split
  · split
    · rename_i hc
      unfold q_app
      split
      · have hj : ch.toInt.toNat < 4 := by omega
        unfold a_puts
        split
        · exact h _ hj
        · exact (h _ hj).put
        · exact (h _ hj).put.put
      · exact h i hi
    · exact h i hi
  · split
    · exact h i hi
    · have hcc : (2 * f + (if p2 &&& 8 = 0 then 0 else 1)).toInt.toNat < 4 := by
        have : ∀ z : Int32, z = 0 ∨ z = 1 → (2 * f + z).toInt.toNat < 4 := by
          intro z hz
          rcases hf with rfl | rfl <;> rcases hz with rfl | rfl <;> decide
        split
        · exact this 0 (Or.inl rfl)
        · exact this 1 (Or.inr rfl)
      generalize (2 * f + (if p2 &&& 8 = 0 then 0 else 1)).toInt.toNat = cc at hcc
      unfold q_app
      split
      · exact (h _ hcc).code _ _
      · exact h i hi
/-- the channels are alike -/
def c4R (o8 o9 : Nat) (σ : mm_M) : Prop := ∃ w : Nat → Nat → Int32, (∀ i, i < 4 → a_I (w i)) ∧ (∃ ca C, q_C8 o8 ca C σ w) ∧ q_C9 o9 σ w
def cd4 (o8 : Nat) (σ : mm_M) : Prop := ∃ ca, mm_R σ o8 0 = some ca ∧ ∀ i j, i < 4 → j < 4 → mm_R σ ca i = mm_R σ ca j → i = j
def q_ok4 (K : List Nat) : Bool := K.all (fun x => !(x == 0) && !(x == 800) && !(x == 10) && !(54 ≤ x && x ≤ 58) && !(904 ≤ x && x ≤ 908))
section C4
variable {T : Nat → Option Nat} {σ : mm_M} {o8 o9 : Nat}
theorem q_ok4c {K : List Nat} (h : q_ok4 K = true) : (K.contains 0 = false ∧ K.contains 800 = false ∧ K.contains 10 = false) ∧ K.all (fun x => !(54 ≤ x && x ≤ 58) && !(904 ≤ x && x ≤ 908)) = true := by
  have k : ∀ y ∈ K, y ≠ 0 ∧ y ≠ 800 ∧ y ≠ 10 ∧ ¬ (54 ≤ y ∧ y ≤ 58) ∧ ¬ (904 ≤ y ∧ y ≤ 908) := fun y hy => by
    have h1 := List.all_eq_true.mp h y hy
    simp only [Bool.and_eq_true, Bool.not_eq_true', Bool.and_eq_false_iff, decide_eq_false_iff_not, beq_eq_false_iff_ne] at h1
    omega
  refine ⟨⟨q_no fun y hy => (k y hy).1, q_no fun y hy => (k y hy).2.1, q_no fun y hy => (k y hy).2.2.1⟩, List.all_eq_true.mpr fun y hy => ?_⟩
  have := k y hy
  simp only [Bool.and_eq_true, Bool.not_eq_true', Bool.and_eq_false_iff, decide_eq_false_iff_not]
  omega
theorem q_C8.cg {τ ρ : mm_M} {ca : Nat} {C : Nat → Nat} {w : Nat → Nat → Int32} (hI : ∀ a k, mm_I τ a k = mm_I ρ a k) (hR : ∀ a k, mm_R τ a k = mm_R ρ a k) (h : q_C8 o8 ca C ρ w) : q_C8 o8 ca C τ w :=
  ⟨(hR _ _).trans h.1, fun i hi => (hR _ _).trans (h.2.1 i hi), h.2.2.1, fun i hi f f1 f2 => (hI _ _).trans (h.2.2.2 i hi f f1 f2)⟩
theorem q_C9.cg {τ ρ : mm_M} {w : Nat → Nat → Int32} (hI : ∀ a k, mm_I τ a k = mm_I ρ a k) (hR : ∀ a k, mm_R τ a k = mm_R ρ a k) (h : q_C9 o9 ρ w) : q_C9 o9 τ w :=
  fun i hi f f1 f2 => (rdA_congr hI hR o9 (f + 2) i).trans (h i hi f f1 f2)
theorem c4_keep {T' : Nat → Option Nat} {K8 K9 : List Nat} {τ ρ ω : mm_M} (c : sCI T σ) (t8 : T o8 = some 8) (t9 : T o9 = some 9) (hr : c4R o8 o9 σ) (f8 : sFR T K8 σ ρ) (c' : sCI T' τ) (t8' : T' o8 = some 8) (t9' : T' o9 = some 9) (hI : ∀ a k, mm_I τ a k = mm_I ρ a k) (hR : ∀ a k, mm_R τ a k = mm_R ρ a k) (f9 : sFR T' K9 τ ω) (h8 : q_ok4 K8 = true) (h9 : q_ok4 K9 = true) : c4R o8 o9 ω := by
  obtain ⟨w, hw, ⟨ca, C, hC⟩, h⟩ := hr
  obtain ⟨⟨a1, a2, a3⟩, a4⟩ := q_ok4c h8
  obtain ⟨⟨b1, b2, b3⟩, b4⟩ := q_ok4c h9
  exact ⟨w, hw, ⟨ca, C, q_C8.fr (q_C8.cg hI hR (hC.fr c t8 f8 a1 a2 a3)) c' t8' f9 b1 b2 b3⟩, q_C9.fr (q_C9.cg hI hR (h.fr c t9 f8 a4)) c' t9' f9 b4⟩
theorem c4_0 {out : Nat} (F : lx_Fr T o8 o9 out σ) (hd : cd4 o8 σ) : c4R o8 o9 σ := by
  obtain ⟨c, fv, t8, t9, -⟩ := F
  obtain ⟨ca, e1, hd⟩ := hd
  obtain ⟨q, e, tq⟩ := ci_ref c t8 0 (κ' := 10) rfl
  have : q = ca := Option.some.inj (e.symm.trans e1)
  subst this
  have hC : ∀ i, i < 4 → mm_R σ q i = some ((mm_R σ q i).getD 0) ∧ T ((mm_R σ q i).getD 0) = some 0 := fun i hi => by
    obtain ⟨q', e', tq'⟩ := ci_chan c tq hi
    rw [e']; exact ⟨rfl, tq'⟩
  refine ⟨fun _ f => if f = 3 then 1 else if f = 6 then 2 else 0, fun i hi => ⟨Or.inl rfl, by show 0 ≤ (0 : Int32).toInt; decide, by show (0 : Int32).toInt ≤ 32; decide⟩, ⟨q, fun i => (mm_R σ q i).getD 0, e, fun i hi => (hC i hi).1, fun i j hi hj he => hd i j hi hj ?_, fun i hi f f1 f2 => ?_⟩, fun i hi f f1 f2 => ?_⟩
  · rw [(hC i hi).1, (hC j hj).1]; exact congrArg some he
  · have := fv _ 0 f (hC i hi).2
    have hf : f = 2 ∨ f = 3 ∨ f = 4 ∨ f = 5 ∨ f = 6 := by omega
    rcases hf with rfl | rfl | rfl | rfl | rfl <;> exact this
  · have hf : f = 2 ∨ f = 3 ∨ f = 4 ∨ f = 5 ∨ f = 6 := by omega
    rcases hf with rfl | rfl | rfl | rfl | rfl
    · obtain ⟨q', e', tq'⟩ := ci_ref c t9 4 (κ' := 54) rfl
      rw [rdA_eq e']; exact fv q' 54 i tq'
    · obtain ⟨q', e', tq'⟩ := ci_ref c t9 5 (κ' := 55) rfl
      rw [rdA_eq e']; exact fv q' 55 i tq' hi
    · obtain ⟨q', e', tq'⟩ := ci_ref c t9 6 (κ' := 56) rfl
      rw [rdA_eq e']; exact fv q' 56 i tq'
    · obtain ⟨q', e', tq'⟩ := ci_ref c t9 7 (κ' := 57) rfl
      rw [rdA_eq e']; exact fv q' 57 i tq'
    · obtain ⟨q', e', tq'⟩ := ci_ref c t9 8 (κ' := 58) rfl
      rw [rdA_eq e']; exact fv q' 58 i tq' hi
theorem st_state8 {w : Nat → Nat → Int32} {ca : Nat} {C : Nat → Nat} {p1 p2 : Int32} (h : q_C8 o8 ca C σ w) : pw (fX8_state o8 p1 p2 σ) (fun R => ((0 ≤ p1.toInt ∧ p1.toInt ≤ 3 ∧ 0 ≤ p2.toInt ∧ p2.toInt ≤ 4) ∧ oi R.1 = (w p1.toInt.toNat (p2.toInt.toNat + 2)).toInt) ∨ (¬ (0 ≤ p1.toInt ∧ p1.toInt ≤ 3 ∧ 0 ≤ p2.toInt ∧ p2.toInt ≤ 4) ∧ oi R.1 = -9999999999)) := by
  unfold fX8_state
  have h1 : fX8_isOutside p1 4 = 0 ↔ 0 ≤ p1.toInt ∧ p1.toInt ≤ 3 := by rw [zp.1, show (4 : Int32).toInt = 4 from rfl]; omega
  have h2 : fX8_isOutside p2 5 = 0 ↔ 0 ≤ p2.toInt ∧ p2.toInt ≤ 4 := by rw [zp.1, show (5 : Int32).toInt = 5 from rfl]; omega
  refine pw_ite (fun a => pw_ite (fun b => ?_) (fun b => pw_some (Or.inr ⟨fun h => b (h2.mpr h.2.2), oi_none rfl⟩))) (fun a => pw_some (Or.inr ⟨fun h => a (h1.mpr ⟨h.1, h.2.1⟩), oi_none rfl⟩))
  have a' := h1.mp a
  have b' := h2.mp b
  have ok : 0 ≤ p1.toInt ∧ p1.toInt ≤ 3 ∧ 0 ≤ p2.toInt ∧ p2.toInt ≤ 4 := ⟨a'.1, a'.2, b'.1, b'.2⟩
  have hj : p1.toInt.toNat < 4 := by omega
  have ecl : p1.toNatClampNeg = p1.toInt.toNat := zi_clamp p1
  rw [ecl]
  have F := h.2.2.2 _ hj
  have R' := h.2.1 _ hj
  have fin : ∀ k : Nat, p2.toInt = k → k ≤ 4 → ∀ v, v = mm_I σ (C p1.toInt.toNat) (k + 2) → oi (some v) = (w p1.toInt.toNat (p2.toInt.toNat + 2)).toInt := fun k hk hk4 v hv => by
    rw [hv, F (k + 2) (by omega) (by omega), show p2.toInt.toNat = k by omega]; exact (oi_some rfl).1
  refine pw_sh fun _ => pw_onS h.1 (pw_ar fun _ _ => pw_ib fun _ _ => pw_ite (fun d => ?_) (fun d => ?_))
  · exact pw_onS R' (pw_sh fun _ => pw_some (Or.inl ⟨ok, fin 0 (by rw [d]; rfl) (by omega) _ rfl⟩))
  refine pw_ite (fun d1 => ?_) (fun d1 => ?_)
  · exact pw_onS R' (pw_sh fun _ => pw_some (Or.inl ⟨ok, fin 1 (by rw [d1]; rfl) (by omega) _ rfl⟩))
  refine pw_ite (fun d2 => ?_) (fun d2 => ?_)
  · exact pw_onS R' (pw_sh fun _ => pw_some (Or.inl ⟨ok, fin 2 (by rw [d2]; rfl) (by omega) _ rfl⟩))
  refine pw_ite (fun d3 => ?_) (fun d3 => ?_)
  · exact pw_onS R' (pw_sh fun _ => pw_some (Or.inl ⟨ok, fin 3 (by rw [d3]; rfl) (by omega) _ rfl⟩))
  · rw [zi_eq] at d d1 d2 d3
    simp only [Int32.reduceToInt] at d d1 d2 d3
    exact pw_onS R' (pw_sh fun _ => pw_some (Or.inl ⟨ok, fin 4 (by omega) (by omega) _ rfl⟩))
theorem st_state9 {w : Nat → Nat → Int32} {p1 p2 : Int32} (h : q_C9 o9 σ w) (c : sCI T σ) (t9 : T o9 = some 9) : pw (fX9_state o9 p1 p2 σ) (fun R => ((0 ≤ p1.toInt ∧ p1.toInt ≤ 3 ∧ 0 ≤ p2.toInt ∧ p2.toInt ≤ 4) ∧ (mm_I R.2 o9 0).toInt = 0 ∧ R.1.toInt = (w p1.toInt.toNat (p2.toInt.toNat + 2)).toInt) ∨ (¬ (0 ≤ p1.toInt ∧ p1.toInt ≤ 3 ∧ 0 ≤ p2.toInt ∧ p2.toInt ≤ 4) ∧ (mm_I R.2 o9 0).toInt = 1)) := by
  unfold fX9_state
  have h1 : fX9_in p1 0 3 = 0 ↔ ¬ (0 ≤ p1.toInt ∧ p1.toInt ≤ 3) := zp.2.1 p1 0 3
  have h2 : fX9_in p2 0 4 = 0 ↔ ¬ (0 ≤ p2.toInt ∧ p2.toInt ≤ 4) := zp.2.1 p2 0 4
  have bad : ¬ (0 ≤ p1.toInt ∧ p1.toInt ≤ 3 ∧ 0 ≤ p2.toInt ∧ p2.toInt ≤ 4) → pw (fX9_state_23 o9 p1 p2 o9 σ) (fun R => ((0 ≤ p1.toInt ∧ p1.toInt ≤ 3 ∧ 0 ≤ p2.toInt ∧ p2.toInt ≤ 4) ∧ (mm_I R.2 o9 0).toInt = 0 ∧ R.1.toInt = (w p1.toInt.toNat (p2.toInt.toNat + 2)).toInt) ∨ (¬ (0 ≤ p1.toInt ∧ p1.toInt ≤ 3 ∧ 0 ≤ p2.toInt ∧ p2.toInt ≤ 4) ∧ (mm_I R.2 o9 0).toInt = 1)) := by
    intro hb
    unfold fX9_state_23 fX9_state_24
    refine pw_sh fun _ => pw_onP (vX9_goes (p1 := 0) c t9 (by decide)).p fun q4 ⟨c4, f4, r4, r5⟩ => ?_
    rw [if_pos r4]
    exact pw_some (Or.inr ⟨hb, by show (mm_I q4.2 o9 0).toInt = 1; rw [r5]; rfl⟩)
  refine pw_ite (fun a => bad (fun h => (h1.mp a) ⟨h.1, h.2.1⟩)) (fun a => pw_ite (fun b => bad (fun h => (h2.mp b) h.2.2)) (fun b => ?_))
  have a' : 0 ≤ p1.toInt ∧ p1.toInt ≤ 3 := Decidable.byContradiction fun h => a (h1.mpr h)
  have b' : 0 ≤ p2.toInt ∧ p2.toInt ≤ 4 := Decidable.byContradiction fun h => b (h2.mpr h)
  have ok : 0 ≤ p1.toInt ∧ p1.toInt ≤ 3 ∧ 0 ≤ p2.toInt ∧ p2.toInt ≤ 4 := ⟨a'.1, a'.2, b'.1, b'.2⟩
  unfold fX9_state_24
  refine pw_sh fun _ => pw_onP (vX9_goes (p1 := 1) c t9 (by decide)).p fun q4 ⟨c4, f4, r4, r5⟩ => ?_
  rw [if_neg (by rw [r4]; decide)]
  have h4 : q_C9 o9 q4.2 w := h.fr c t9 f4 rfl
  have h0 : (mm_I q4.2 o9 0).toInt = 0 := by rw [r5]; rfl
  have hj : p1.toInt.toNat < 4 := by omega
  have ecl : p1.toNatClampNeg = p1.toInt.toNat := zi_clamp p1
  have fin : ∀ k : Nat, p2.toInt = k → k ≤ 4 → ∀ q, mm_R q4.2 o9 (k + 2 + 2) = some q → (mm_I q4.2 q p1.toNatClampNeg).toInt = (w p1.toInt.toNat (p2.toInt.toNat + 2)).toInt := fun k hk hk4 q e => by
    rw [← rdA_eq e, ecl, h4 _ hj (k + 2) (by omega) (by omega), show p2.toInt.toNat = k by omega]
  refine pw_ite (fun d => ?_) (fun d => ?_)
  · exact pw_sh fun _ => pw_on fun q e => pw_ar fun _ _ => pw_ib fun _ _ => pw_some (Or.inl ⟨ok, h0, fin 0 (by rw [d]; rfl) (by omega) q e⟩)
  refine pw_ite (fun d1 => ?_) (fun d1 => ?_)
  · exact pw_sh fun _ => pw_on fun q e => pw_ar fun _ _ => pw_ib fun _ _ => pw_some (Or.inl ⟨ok, h0, fin 1 (by rw [d1]; rfl) (by omega) q e⟩)
  refine pw_ite (fun d2 => ?_) (fun d2 => ?_)
  · exact pw_sh fun _ => pw_on fun q e => pw_ar fun _ _ => pw_ib fun _ _ => pw_some (Or.inl ⟨ok, h0, fin 2 (by rw [d2]; rfl) (by omega) q e⟩)
  refine pw_ite (fun d3 => ?_) (fun d3 => ?_)
  · exact pw_sh fun _ => pw_on fun q e => pw_ar fun _ _ => pw_ib fun _ _ => pw_some (Or.inl ⟨ok, h0, fin 3 (by rw [d3]; rfl) (by omega) q e⟩)
  · rw [zi_eq] at d d1 d2 d3
    simp only [Int32.reduceToInt] at d d1 d2 d3
    exact pw_sh fun _ => pw_on fun q e => pw_ar fun _ _ => pw_ib fun _ _ => pw_some (Or.inl ⟨ok, h0, fin 4 (by omega) (by omega) q e⟩)
/-- the channels behind a pair on both sides -/
theorem c4_pair {T' : Nat → Option Nat} {K9 : List Nat} {τ ρ ω : mm_M} {f bf ch bf9 ch9 p2 p3 : Int32} (hf : f = 0 ∨ f = 1) (hr : c4R o8 o9 σ) (c : sCI T σ) (t9 : T o9 = some 9) {K8 : List Nat} (f8 : sFR T K8 σ ρ) (h8 : K8.all (fun x => !(54 ≤ x && x ≤ 58) && !(904 ≤ x && x ≤ 908)) = true) (c' : sCI T' τ) (t8' : T' o8 = some 8) (hI : ∀ a k, mm_I τ a k = mm_I ρ a k) (hR : ∀ a k, mm_R τ a k = mm_R ρ a k) (f9 : sFR T' K9 τ ω) (h9 : K9.contains 0 = false ∧ K9.contains 800 = false ∧ K9.contains 10 = false) (e1 : ch9 = ch) (e2 : bf9 = bf)
    (x8 : ∀ w : Nat → Nat → Int32, (∀ i, i < 4 → a_I (w i)) → (∃ ca C, q_C8 o8 ca C σ w) → ∃ ca C, q_C8 o8 ca C ρ (a_pair w f ch bf p2 p3)) (x9 : ∀ w : Nat → Nat → Int32, q_C9 o9 τ w → q_C9 o9 ω (a_pair w f ch9 bf9 p2 p3)) (xr : ∀ i, 0 ≤ (rdA ω o9 6 i).toInt ∧ (rdA ω o9 6 i).toInt ≤ 32) : c4R o8 o9 ω := by
  obtain ⟨w, hw, hC, h⟩ := hr
  subst e1 e2
  obtain ⟨ca, C, y8⟩ := x8 w hw hC
  have y9 := x9 w (q_C9.cg hI hR (h.fr c t9 f8 h8))
  refine ⟨_, fun i hi => ⟨a_pair_M (fun j hj => (hw j hj).1) hf i hi, ?_⟩, ⟨ca, C, (q_C8.cg hI hR y8).fr c' t8' f9 h9.1 h9.2.1 h9.2.2⟩, y9⟩
  rw [← y9 i hi 4 (by omega) (by omega)]
  exact xr i
end C4
/-! the four channels of a new desk lie apart -/
def cdk (p q k : Nat) (s : mm_M) : Prop := mm_R s p 0 = some q ∧ p ≠ q ∧ p < s.1 ∧ q < s.1 ∧ (∀ i, i < k → ∃ a, mm_R s q i = some a ∧ a < s.1) ∧ (∀ i j, i < k → j < k → mm_R s q i = mm_R s q j → i = j)
section CD
variable {p q k : Nat} {s : mm_M}
theorem nw_R {sh : Nat ⊕ Nat × Nat} {b : Nat} (h : b < s.1) (j : Nat) : mm_R (mm_new s sh) b j = mm_R s b j := by
  show (if b = s.1 then fun _ => none else s.2.2.2.1 b) j = _
  rw [if_neg (by omega)]
theorem pX5_init {a : Nat} {σ : mm_M} : pw (fX5_init a σ) (fun R => σ.1 ≤ R.1 ∧ ∀ b, b < σ.1 → b ≠ a → ∀ j, mm_R R b j = mm_R σ b j) := by
  unfold fX5_init
  refine pw_let (pw_sh fun _ => pw_let (pw_let (pw_sh fun _ => pw_let (pw_some ⟨?_, fun b hb ha j => ?_⟩))))
  · show σ.1 ≤ σ.1 + 1 + 1
    omega
  · refine (mm_up2_ne ha j).trans ((nw_R ?_ j).trans ((mm_up2_ne ha j).trans (nw_R hb j)))
    show b < σ.1 + 1
    omega
theorem pX0_init {a : Nat} {σ : mm_M} : pw (fX0_init a σ) (fun R => σ.1 ≤ R.1 ∧ ∀ b, b < σ.1 → b ≠ a → ∀ j, mm_R R b j = mm_R σ b j) := by
  unfold fX0_init
  refine pw_let (pw_onP pX5_init fun q2 ⟨g2, h2⟩ => pw_sh fun _ => pw_let (pw_let (pw_onP pX5_init fun q6 ⟨g6, h6⟩ => pw_sh fun _ => pw_let (pw_let (pw_let (pw_let (pw_let (pw_let (pw_some ⟨?_, fun b hb ha j => ?_⟩)))))))))
  · show σ.1 ≤ q6.1
    have g2' : σ.1 + 1 ≤ q2.1 := g2
    have g6' : q2.1 + 1 ≤ q6.1 := g6
    omega
  · have g2' : σ.1 + 1 ≤ q2.1 := g2
    have h2' := h2 b (by show b < σ.1 + 1; omega) (by omega) j
    have h6' := h6 b (by show b < q2.1 + 1; omega) (by show b ≠ q2.1; omega) j
    show mm_R (mm_wR q6 a 1 _) b j = _
    refine (mm_up2_ne ha j).trans (h6'.trans ((nw_R (by show b < q2.1; omega) j).trans ((mm_up2_ne ha j).trans (h2'.trans (nw_R hb j)))))
theorem cd_step (h : cdk p q k s) : pw (fX0_init s.1 (mm_new s (.inl 0))) (fun R => cdk p q (k + 1) (mm_wR R q k (some s.1)) ∧ mm_R s p 0 = some q) := by
  refine pX0_init.mono (fun R hR => ⟨?_, h.1⟩)
  obtain ⟨g, hr⟩ := hR
  obtain ⟨h1, h2, h3, h4, h5, h6⟩ := h
  have g' : s.1 + 1 ≤ R.1 := g
  have old : ∀ b, b < s.1 → ∀ j, mm_R R b j = mm_R s b j := fun b hb j => (hr b (by show b < s.1 + 1; omega) (by omega) j).trans (nw_R hb j)
  have new : ∀ i, mm_R (mm_wR R q k (some s.1)) q i = if i = k then some s.1 else mm_R s q i := fun i => by
    by_cases e : i = k
    · subst e; rw [if_pos rfl]; exact mm_up2_self
    · rw [if_neg e]; exact (mm_up2_nk _ e).trans (old q h4 i)
  refine ⟨(mm_up2_ne h2 0).trans ((old p h3 0).trans h1), h2, by show p < R.1; omega, by show q < R.1; omega, fun i hi => ?_, fun i j hi hj e => ?_⟩
  · rw [new]
    by_cases e : i = k
    · rw [if_pos e]; exact ⟨_, rfl, by show s.1 < R.1; omega⟩
    · rw [if_neg e]
      obtain ⟨a, ea, la⟩ := h5 i (by omega)
      exact ⟨a, ea, by show a < R.1; omega⟩
  · rw [new, new] at e
    by_cases ei : i = k <;> by_cases ej : j = k
    · omega
    · rw [if_pos ei, if_neg ej] at e
      obtain ⟨a, ea, la⟩ := h5 j (by omega)
      rw [ea] at e
      have := Option.some.inj e
      omega
    · rw [if_neg ei, if_pos ej] at e
      obtain ⟨a, ea, la⟩ := h5 i (by omega)
      rw [ea] at e
      have := Option.some.inj e
      omega
    · rw [if_neg ei, if_neg ej] at e
      exact h6 i j (by omega) (by omega) e
end CD
section CDI
variable {σ : mm_M} {a p q : Nat}
def own (a : Nat) (σ R : mm_M) : Prop := σ.1 ≤ R.1 ∧ ∀ b, b < σ.1 → b ≠ a → ∀ j, mm_R R b j = mm_R σ b j
theorem own_r : own a σ σ := ⟨Nat.le_refl _, fun _ _ _ _ => rfl⟩
theorem own_t {s t : mm_M} (h : own a σ s) (k : own a s t) : own a σ t := ⟨Nat.le_trans h.1 k.1, fun b hb ha j => (k.2 b (Nat.lt_of_lt_of_le hb h.1) ha j).trans (h.2 b hb ha j)⟩
theorem own_n {sh : Nat ⊕ Nat × Nat} : own a σ (mm_new σ sh) := ⟨Nat.le_succ _, fun b hb _ j => nw_R hb j⟩
theorem own_R {k : Nat} {v : Option Nat} : own a σ (mm_wR σ a k v) := ⟨Nat.le_refl _, fun b _ ha j => mm_up2_ne ha j⟩
theorem own_I {b k : Nat} {v : Int32} : own a σ (mm_wI σ b k v) := ⟨Nat.le_refl _, fun _ _ _ _ => rfl⟩
/-- a call that owns a fresh address -/
theorem own_f {s t : mm_M} (h : own a σ s) (k : own s.1 (mm_new s (.inl 0)) t) : own a σ t := by
  refine ⟨Nat.le_trans h.1 (Nat.le_trans (Nat.le_succ _) k.1), fun b hb ha j => ?_⟩
  have hb' : b < s.1 := Nat.lt_of_lt_of_le hb h.1
  exact ((k.2 b (Nat.lt_succ_of_lt hb') (by omega) j).trans (nw_R hb' j)).trans (h.2 b hb ha j)
theorem own_f' {s t : mm_M} {sh : Nat ⊕ Nat × Nat} (h : own a σ s) (k : own s.1 (mm_new s sh) t) : own a σ t := by
  refine ⟨Nat.le_trans h.1 (Nat.le_trans (Nat.le_succ _) k.1), fun b hb ha j => ?_⟩
  have hb' : b < s.1 := Nat.lt_of_lt_of_le hb h.1
  exact ((k.2 b (Nat.lt_succ_of_lt hb') (by omega) j).trans (nw_R hb' j)).trans (h.2 b hb ha j)
theorem ow_X6 : pw (fX6_init a σ) (own a σ) := by
  unfold fX6_init
  exact pw_let (pw_sh fun _ => pw_let (pw_some (own_t own_n own_R)))
theorem ow_X4 : pw (fX4_init a σ) (own a σ) := by
  unfold fX4_init
  exact pw_let (pw_sh fun _ => pw_let (pw_let (pw_sh fun _ => pw_let (pw_some (own_t (own_t (own_t own_n own_R) own_n) own_R)))))
theorem ow_X7 : pw (fX7_init a σ) (own a σ) := by
  unfold fX7_init
  exact pw_let (pw_onP ow_X4 fun q2 h2 => pw_sh fun _ => pw_let (pw_let (pw_let (pw_some (own_t (own_t (own_t (own_f' own_r h2) own_R) own_I) own_I)))))
theorem ow_X2 : pw (fX2_init a σ) (own a σ) := by
  unfold fX2_init
  exact pw_let (pw_sh fun _ => pw_let (pw_some (own_t own_n own_R)))
def jb (p q : Nat) (s : mm_M) : Prop := mm_R s p 0 = some q ∧ p < q ∧ q < s.1
theorem jb_n {sh : Nat ⊕ Nat × Nat} (h : jb p q σ) : jb p q (mm_new σ sh) := ⟨(nw_R (by have := h.2; omega) 0).trans h.1, h.2.1, Nat.lt_succ_of_lt h.2.2⟩
theorem jb_I {b k : Nat} {v : Int32} (h : jb p q σ) : jb p q (mm_wI σ b k v) := h
theorem jb_R {k : Nat} {v : Option Nat} (h : jb p q σ) (hk : 0 ≠ k) : jb p q (mm_wR σ p k v) := ⟨(mm_up2_nk p hk).trans h.1, h.2.1, h.2.2⟩
theorem jb_f {s t : mm_M} {sh : Nat ⊕ Nat × Nat} (h : jb p q s) (k : own s.1 (mm_new s sh) t) : jb p q t := by
  have hp : p < s.1 := by have := h.2; omega
  refine ⟨((k.2 p (Nat.lt_succ_of_lt hp) (by omega) 0).trans (nw_R hp 0)).trans h.1, h.2.1, Nat.lt_of_lt_of_le (Nat.lt_succ_of_lt h.2.2) k.1⟩
set_option maxHeartbeats 4000000 in
set_option maxRecDepth 10000 in
theorem pX8_initd (hp : p < σ.1) : pw (fX8_init p σ) (fun R => cd4 p R) := by
  unfold fX8_init
  refine pw_let (pw_sh fun _ => pw_let ?_)
  have j3 : jb p σ.1 (mm_wR (mm_new σ (.inr (4, 4))) p 0 (some σ.1)) := ⟨mm_up2_self, hp, Nat.lt_succ_self _⟩
  generalize mm_wR (mm_new σ (.inr (4, 4))) p 0 (some σ.1) = s3 at j3 ⊢
  refine pw_let (pw_ar fun _ _ => pw_ib fun _ _ => pw_let (pw_ib fun _ _ => pw_let (pw_sh fun _ => pw_let ?_)))
  have j11 := jb_R (k := 1) (v := some s3.1) (jb_I (b := s3.1) (k := (1 : Int32).toNatClampNeg) (v := -1) (jb_I (b := s3.1) (k := (0 : Int32).toNatClampNeg) (v := -1) (jb_n (sh := .inr (0, 2)) j3))) (by decide)
  generalize mm_wR (mm_wI (mm_wI (mm_new s3 (.inr (0, 2))) s3.1 (0 : Int32).toNatClampNeg (-1)) s3.1 (1 : Int32).toNatClampNeg (-1)) p 1 (some s3.1) = s11 at j11 ⊢
  refine pw_let (pw_ar fun _ _ => pw_ib fun _ _ => pw_let (pw_ib fun _ _ => pw_let (pw_sh fun _ => pw_let ?_)))
  have j19 := jb_R (k := 2) (v := some s11.1) (jb_I (b := s11.1) (k := (1 : Int32).toNatClampNeg) (v := -1) (jb_I (b := s11.1) (k := (0 : Int32).toNatClampNeg) (v := -1) (jb_n (sh := .inr (0, 2)) j11))) (by decide)
  generalize mm_wR (mm_wI (mm_wI (mm_new s11 (.inr (0, 2))) s11.1 (0 : Int32).toNatClampNeg (-1)) s11.1 (1 : Int32).toNatClampNeg (-1)) p 2 (some s11.1) = s19 at j19 ⊢
  refine pw_let (pw_sh fun _ => pw_let (pw_let (pw_sh fun _ => pw_let (pw_let (pw_sh fun _ => pw_let ?_)))))
  have j22 := jb_R (k := 3) (v := some s19.1) (jb_n (sh := .inr (0, 60)) j19) (by decide)
  have j25 := jb_R (k := 5) (v := some (mm_wR (mm_new s19 (.inr (0, 60))) p 3 (some s19.1)).1) (jb_n (sh := .inr (0, 8)) j22) (by decide)
  generalize mm_wR (mm_new (mm_wR (mm_new s19 (.inr (0, 60))) p 3 (some s19.1)) (.inr (0, 8))) p 5 (some (mm_wR (mm_new s19 (.inr (0, 60))) p 3 (some s19.1)).1) = s25 at j25 ⊢
  have j28 := jb_R (k := 6) (v := some s25.1) (jb_n (sh := .inr (0, 3)) j25) (by decide)
  generalize mm_wR (mm_new s25 (.inr (0, 3))) p 6 (some s25.1) = s28 at j28 ⊢
  refine pw_let (pw_onP ow_X6 fun q30 h30 => pw_sh fun _ => pw_let ?_)
  have j32 := jb_R (k := 7) (v := some s28.1) (jb_f j28 h30) (by decide)
  generalize mm_wR q30 p 7 (some s28.1) = s32 at j32 ⊢
  refine pw_let (pw_onP ow_X7 fun q34 h34 => pw_sh fun _ => pw_let ?_)
  have j36 := jb_R (k := 8) (v := some s32.1) (jb_f j32 h34) (by decide)
  generalize mm_wR q34 p 8 (some s32.1) = s36 at j36 ⊢
  refine pw_let (pw_onP ow_X2 fun q38 h38 => pw_sh fun _ => pw_let ?_)
  have j40 := jb_R (k := 9) (v := some s36.1) (jb_f j36 h38) (by decide)
  generalize mm_wR q38 p 9 (some s36.1) = s40 at j40 ⊢
  refine pw_let (pw_sh fun _ => pw_let ?_)
  have j43 := jb_R (k := 10) (v := some s40.1) (jb_n (sh := .inr (6, 60)) j40) (by decide)
  generalize mm_wR (mm_new s40 (.inr (6, 60))) p 10 (some s40.1) = s43 at j43 ⊢
  refine pw_let (pw_ar fun _ _ => pw_ib fun _ _ => pw_let (pw_ib fun _ _ => pw_let (pw_ib fun _ _ => pw_let (pw_ib fun _ _ => pw_let (pw_ib fun _ _ => pw_let (pw_sh fun _ => pw_let ?_))))))
  have j55 : jb p σ.1 (mm_wI (mm_wI (mm_wI (mm_wI (mm_wI (mm_new s43 (.inr (0, 5))) s43.1 (0 : Int32).toNatClampNeg (-1)) s43.1 (1 : Int32).toNatClampNeg (-1)) s43.1 (2 : Int32).toNatClampNeg (-1)) s43.1 (3 : Int32).toNatClampNeg (-1)) s43.1 (4 : Int32).toNatClampNeg (-1)) := jb_n (sh := .inr (0, 5)) j43
  have j57 := jb_R (k := 12) (v := some s43.1) j55 (by decide)
  generalize mm_wR (mm_wI (mm_wI (mm_wI (mm_wI (mm_wI (mm_new s43 (.inr (0, 5))) s43.1 (0 : Int32).toNatClampNeg (-1)) s43.1 (1 : Int32).toNatClampNeg (-1)) s43.1 (2 : Int32).toNatClampNeg (-1)) s43.1 (3 : Int32).toNatClampNeg (-1)) s43.1 (4 : Int32).toNatClampNeg (-1)) p 12 (some s43.1) = s57 at j57 ⊢
  have k0 : cdk p σ.1 0 s57 := ⟨j57.1, by have := j57.2.1; omega, by have := j57.2; omega, j57.2.2, fun i hi => absurd hi (Nat.not_lt_zero _), fun i j hi => absurd hi (Nat.not_lt_zero _)⟩
  refine pw_let (pw_onP (cd_step k0) fun q60 ⟨k1, e1⟩ => pw_onS e1 (pw_ar fun _ _ => pw_ib fun _ _ => pw_sh fun _ => pw_let (pw_sh fun _ => ?_)))
  have k1' : cdk p σ.1 1 (mm_wR q60 σ.1 (0 : Int32).toNatClampNeg (some s57.1)) := k1
  generalize mm_wR q60 σ.1 (0 : Int32).toNatClampNeg (some s57.1) = s65 at k1' ⊢
  refine pw_let (pw_onP (cd_step k1') fun q69 ⟨k2, e2⟩ => pw_onS e2 (pw_ar fun _ _ => pw_ib fun _ _ => pw_sh fun _ => pw_let (pw_sh fun _ => ?_)))
  have k2' : cdk p σ.1 2 (mm_wR q69 σ.1 (1 : Int32).toNatClampNeg (some s65.1)) := k2
  generalize mm_wR q69 σ.1 (1 : Int32).toNatClampNeg (some s65.1) = s74 at k2' ⊢
  refine pw_let (pw_onP (cd_step k2') fun q78 ⟨k3, e3⟩ => pw_onS e3 (pw_ar fun _ _ => pw_ib fun _ _ => pw_sh fun _ => pw_let (pw_sh fun _ => ?_)))
  have k3' : cdk p σ.1 3 (mm_wR q78 σ.1 (2 : Int32).toNatClampNeg (some s74.1)) := k3
  generalize mm_wR q78 σ.1 (2 : Int32).toNatClampNeg (some s74.1) = s83 at k3' ⊢
  refine pw_let (pw_onP (cd_step k3') fun q87 ⟨k4, e4⟩ => pw_onS e4 (pw_ar fun _ _ => pw_ib fun _ _ => pw_sh fun _ => pw_let (pw_some ?_)))
  have k4' : cdk p σ.1 4 (mm_wR q87 σ.1 (3 : Int32).toNatClampNeg (some s83.1)) := k4
  exact ⟨σ.1, k4'.1, k4'.2.2.2.2.2⟩
theorem cd4_ev {T T' : Nat → Option Nat} {R R' : mm_M} (h : cd4 p R) (c : sCI T R) (t8 : T p = some 8) (e : sEV T R T' R') : cd4 p R' := by
  obtain ⟨ca, e1, h2⟩ := h
  obtain ⟨q', e', tq'⟩ := ci_ref c t8 0 (κ' := 10) rfl
  have : q' = ca := Option.some.inj (e'.symm.trans e1)
  subst this
  have r1 := fun j => ((e.2.2 p (c.2.2.2.2 p 8 t8)).2.2 j).2
  have r2 := fun j => ((e.2.2 q' (c.2.2.2.2 q' 10 tq')).2.2 j).2
  exact ⟨q', (r1 0).trans e1, fun i j hi hj he => h2 i j hi hj (by rw [r2, r2] at he; exact he)⟩
end CDI
