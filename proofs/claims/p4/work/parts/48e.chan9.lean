/-! A channel by value: the reference's side (arrays 4 mode, 5 row, 6 column, 7 look, 8 depth, by channel) -/
def ch9 (o9 c : Nat) (σ R : mm_M) (u : Nat → Int32) : Prop := ∀ f i, 2 ≤ f → f ≤ 6 → rdA R o9 (f + 2) i = if i = c then u f else rdA σ o9 (f + 2) i
section CH9
variable {T : Nat → Option Nat} {σ ρ : mm_M} {o9 c : Nat} {u : Nat → Int32}
theorem q_w9 {k k0 q i j : Nat} {v : Int32} (C : sCI T σ) (t9 : T o9 = some 9) (h0 : kref 9 k0 = some (50 + k0)) (e : mm_R σ o9 k0 = some q) (hk : kref 9 k = some (50 + k)) : rdA (mm_wI σ q j v) o9 k i = if k = k0 ∧ i = j then v else rdA σ o9 k i := by
  obtain ⟨q', e', tq⟩ := ci_ref C t9 k0 h0
  have : q' = q := Option.some.inj (e'.symm.trans e)
  subst this
  by_cases hkk : k = k0
  · subst hkk
    by_cases hij : i = j
    · subst hij; rw [if_pos ⟨rfl, rfl⟩]; exact rdA_self e
    · rw [if_neg (fun h => hij h.2)]; exact rdA_j hij
  · rw [if_neg (fun h => hkk h.1)]
    exact rdA_k C t9 hk tq (by omega)
theorem c9_k {f : Nat} (h1 : 2 ≤ f) (h2 : f ≤ 6) : kref 9 (f + 2) = some (50 + (f + 2)) := by
  have : f = 2 ∨ f = 3 ∨ f = 4 ∨ f = 5 ∨ f = 6 := by omega
  rcases this with rfl | rfl | rfl | rfl | rfl <;> rfl
theorem c9_w {k q : Nat} {v : Int32} (h : ch9 o9 c ρ σ u) (C : sCI T σ) (t9 : T o9 = some 9) (k1 : 2 ≤ k) (k2 : k ≤ 6) (e : mm_R σ o9 (k + 2) = some q) : ch9 o9 c ρ (mm_wI σ q c v) (q_app u k v) := by
  intro f i f1 f2
  rw [q_w9 C t9 (c9_k k1 k2) e (c9_k f1 f2)]
  unfold q_app
  by_cases hf : f = k
  · subst hf
    by_cases hi : i = c
    · rw [if_pos ⟨rfl, hi⟩, if_pos hi, if_pos rfl]
    · rw [if_neg (fun h => hi h.2), if_neg hi, h f i f1 f2, if_neg hi]
  · rw [if_neg (fun h => hf (by omega)), h f i f1 f2, if_neg hf]
theorem c9_fr {K : List Nat} {σ' : mm_M} (h : ch9 o9 c ρ σ u) (C : sCI T σ) (t9 : T o9 = some 9) (f : sFR T K σ σ') (hK : K.all (fun x => !(54 ≤ x && x ≤ 58) && !(904 ≤ x && x ≤ 908)) = true) : ch9 o9 c ρ σ' u := by
  intro k i k1 k2
  have no : ∀ x, (54 ≤ x ∧ x ≤ 58) ∨ (904 ≤ x ∧ x ≤ 908) → K.contains x = false := fun x hx => q_no fun y hy => by
    have h1 := List.all_eq_true.mp hK y hy
    simp only [Bool.and_eq_true, Bool.not_eq_true', Bool.and_eq_false_iff, decide_eq_false_iff_not] at h1
    omega
  rw [rdA_fr f C t9 (c9_k k1 k2) (no _ ?_) (no _ ?_)]
  · exact h k i k1 k2
  · show (54 ≤ 900 + (k + 2) ∧ 900 + (k + 2) ≤ 58) ∨ (904 ≤ 900 + (k + 2) ∧ 900 + (k + 2) ≤ 908)
    omega
  · have : kcode (50 + (k + 2)) i = 50 + (k + 2) := by unfold kcode; rw [if_neg (by omega), if_neg (by omega)]
    rw [this]; omega
theorem c9_rd {k q : Nat} (h : ch9 o9 c ρ σ u) (k1 : 2 ≤ k) (k2 : k ≤ 6) (e : mm_R σ o9 (k + 2) = some q) : mm_I σ q c = u k := by
  rw [← rdA_eq e, h k c k1 k2, if_pos rfl]
/-- only cells of screens (and the rows kept) have changed -/
def f4 (T : Nat → Option Nat) (σ R : mm_M) : Prop := sCI T R ∧ sFR T [51, 52, 92, 93] σ R
theorem f4_t {s2 s3 : mm_M} (h : f4 T σ s2) (k : f4 T s2 s3) : f4 T σ s3 := ⟨k.1, fr_trans h.2 k.2 rfl⟩
theorem f4_r (C : sCI T σ) : f4 T σ σ := ⟨C, fr_refl⟩
theorem f4_w {a κ j : Nat} {v : Int32} (C : sCI T σ) (t : T a = some κ) (hκ : κ = 51 ∨ κ = 52 ∨ κ = 92 ∨ κ = 93) : f4 T σ (mm_wI σ a j v) := by
  rcases hκ with rfl | rfl | rfl | rfl
  · exact ⟨ci_wI C t (kr_n rfl), fr_wI fr_refl t rfl⟩
  · exact ⟨ci_wI C t (kr_n rfl), fr_wI fr_refl t rfl⟩
  · exact ⟨ci_wI C t (kr_n rfl), fr_wI fr_refl t rfl⟩
  · exact ⟨ci_wI C t (kr_n rfl), fr_wI fr_refl t rfl⟩
theorem c9_f4 {σ' : mm_M} (h : ch9 o9 c ρ σ u) (C : sCI T σ) (t9 : T o9 = some 9) (f : f4 T σ σ') : ch9 o9 c ρ σ' u := c9_fr h C t9 f.2 rfl
theorem pX9_cellAt {x s r l : Int32} : pw (fX9_cellAt o9 x s r l σ) (fun R => R.2 = σ) := by
  unfold fX9_cellAt fX9_cellAt_21
  refine pw_ite (fun _ => ?_) (fun _ => ?_) <;> exact pw_sh fun _ => pw_on fun _ _ => pw_ar fun _ _ => pw_ib fun _ _ => pw_some rfl
theorem pX9_clear (C : sCI T σ) (t9 : T o9 = some 9) {x : Int32} : pw (fX9_clear o9 x σ) (fun R => f4 T σ R) := by
  unfold fX9_clear
  obtain ⟨q1, e1, t1⟩ := ci_ref C t9 1 (κ' := 51) rfl
  obtain ⟨q2, e2, t2⟩ := ci_ref C t9 2 (κ' := 52) rfl
  refine pw_sh fun _ => pw_onS e1 (pw_ar fun _ _ => pw_ib fun _ _ => pw_let (pw_onS e2 (pw_ar fun _ _ => pw_ib fun _ _ => pw_let (pw_some ?_))))
  have a := f4_w (j := x.toNatClampNeg) (v := 0) C t1 (Or.inl rfl)
  exact f4_t a (f4_w a.1 t2 (Or.inr (Or.inl rfl)))
theorem pX9_clearRow_3 (t9 : T o9 = some 9) {x1 x2 x3 : Int32} : ∀ (n : Nat) (x : Int32) (σ : mm_M), sCI T σ → pw (fX9_clearRow_3 n o9 x1 x2 x3 x σ) (fun R => f4 T σ R) := by
  intro n
  induction n with
  | zero => intros; exact pw_none
  | succ n ih =>
    intro x σ C
    unfold fX9_clearRow_3
    refine pw_ite (fun _ => pw_some (f4_r C)) (fun _ => pw_sh fun _ => pw_onP pX9_cellAt fun q3 e3 => pw_sh fun _ => ?_)
    rw [e3]
    exact pw_onP (pX9_clear C t9) fun s2 h2 => (ih _ _ h2.1).mono (fun R h => f4_t h2 h)
theorem pX9_clearRow (C : sCI T σ) (t9 : T o9 = some 9) {x1 x2 x3 : Int32} : pw (fX9_clearRow o9 x1 x2 x3 σ) (fun R => f4 T σ R) := pX9_clearRow_3 t9 _ _ _ C
theorem pX9_clearScreen_2 (t9 : T o9 = some 9) {x1 x2 : Int32} : ∀ (n : Nat) (x : Int32) (σ : mm_M), sCI T σ → pw (fX9_clearScreen_2 n o9 x1 x2 x σ) (fun R => f4 T σ R) := by
  intro n
  induction n with
  | zero => intros; exact pw_none
  | succ n ih =>
    intro x σ C
    unfold fX9_clearScreen_2
    exact pw_ite (fun _ => pw_some (f4_r C)) (fun _ => pw_sh fun _ => pw_onP (pX9_clearRow C t9) fun s2 h2 => (ih _ _ h2.1).mono (fun R h => f4_t h2 h))
theorem pX9_clearScreen (C : sCI T σ) (t9 : T o9 = some 9) {x1 x2 : Int32} : pw (fX9_clearScreen o9 x1 x2 σ) (fun R => f4 T σ R) := pX9_clearScreen_2 t9 _ _ _ C
theorem pX9_screenOf (h : ch9 o9 c ρ σ u) (C : sCI T σ) (t9 : T o9 = some 9) {x : Int32} (hx : x.toNatClampNeg = c) : pw (fX9_screenOf o9 x σ) (fun R => R.2 = σ ∧ (R.1 = -1 ↔ ¬ (u 2 = 1 ∨ u 2 = 2 ∨ u 2 = 3))) := by
  unfold fX9_screenOf
  obtain ⟨q, e, t⟩ := ci_ref C t9 4 (κ' := 54) rfl
  have r := c9_rd (k := 2) h (by omega) (by omega) e
  rw [hx]
  refine pw_sh fun _ => pw_onS e (pw_ar fun _ _ => pw_ib fun _ _ => ?_)
  rw [r]
  refine pw_ite (fun a => pw_some ⟨rfl, fun h => absurd (show (1 : Int32) = -1 from h) (by decide), fun h => absurd (Or.inl a) h⟩) (fun a => pw_onS e (pw_ar fun _ _ => pw_ib fun _ _ => ?_))
  rw [r]
  refine pw_ite (fun b => pw_some ⟨rfl, fun h => absurd (show (0 : Int32) = -1 from h) (by decide), fun h => absurd (Or.inr (Or.inl b)) h⟩) (fun b => pw_onS e (pw_ar fun _ _ => pw_ib fun _ _ => ?_))
  rw [r]
  exact pw_ite (fun d => pw_some ⟨rfl, fun h => absurd (show (0 : Int32) = -1 from h) (by decide), fun h => absurd (Or.inr (Or.inr d)) h⟩) (fun d => pw_some ⟨rfl, fun _ h => h.elim a (fun h => h.elim b d), fun _ => rfl⟩)
theorem pX9_put_43 (h : ch9 o9 c ρ σ u) (C : sCI T σ) (t9 : T o9 = some 9) {x1 x2 x3 y0 y1 y2 y3 : Int32} (hx : x1.toNatClampNeg = c) : pw (fX9_put_43 o9 x1 x2 x3 y0 y1 y2 y3 o9 σ) (fun R => ch9 o9 c ρ R (q_app u 4 (if 32 ≤ u 4 then 32 else u 4 + 1))) := by
  unfold fX9_put_43
  obtain ⟨q1, e1, t1⟩ := ci_ref C t9 1 (κ' := 51) rfl
  obtain ⟨q2, e2, t2⟩ := ci_ref C t9 2 (κ' := 52) rfl
  obtain ⟨q6, e6, t6⟩ := ci_ref C t9 6 (κ' := 56) rfl
  refine pw_sh fun _ => pw_onP pX9_cellAt fun q13 e13 => pw_sh fun _ => ?_
  rw [e13, hx]
  refine pw_onS e1 (pw_ar fun _ _ => pw_ib fun _ _ => pw_let (pw_on fun q19 _ => pw_ar fun _ _ => pw_ib fun _ _ => pw_onS e2 (pw_ar fun _ _ => pw_ib fun _ _ => pw_let (pw_onS e6 (pw_ar fun _ _ => pw_ib fun _ _ => ?_)))))
  have a := f4_w (j := q13.1.toNatClampNeg) (v := x2) C t1 (Or.inl rfl)
  have b := f4_t a (f4_w (j := q13.1.toNatClampNeg) (v := mm_I (mm_wI σ q1 q13.1.toNatClampNeg x2) q19 c) a.1 t2 (Or.inr (Or.inl rfl)))
  have h2 := c9_f4 h C t9 b
  have e6' : mm_R (mm_wI (mm_wI σ q1 q13.1.toNatClampNeg x2) q2 q13.1.toNatClampNeg (mm_I (mm_wI σ q1 q13.1.toNatClampNeg x2) q19 c)) o9 (4 + 2) = some q6 := e6
  have r := c9_rd (k := 4) h2 (by omega) (by omega) e6'
  rw [r]
  refine pw_ite (fun d => pw_ib fun _ _ => pw_let (pw_some ?_)) (fun d => pw_onS e6 (pw_ar fun _ _ => pw_ib fun _ _ => pw_ib fun _ _ => pw_let (pw_some ?_)))
  · rw [if_pos d]; exact c9_w h2 b.1 t9 (by omega) (by omega) e6'
  · rw [if_neg d, r]; exact c9_w h2 b.1 t9 (by omega) (by omega) e6'
theorem pX9_putv (h : ch9 o9 c ρ σ u) (C : sCI T σ) (t9 : T o9 = some 9) {x l : Int32} (hx : x.toNatClampNeg = c) : pw (fX9_put o9 x l σ) (fun R => ch9 o9 c ρ R (a_put u)) := by
  unfold fX9_put a_put
  refine pw_sh fun _ => pw_onP (pX9_screenOf h C t9 hx) fun q2 hq => ?_
  obtain ⟨e2, hq⟩ := hq
  rw [e2]
  refine pw_ite (fun a => ?_) (fun a => ?_)
  · rw [if_neg (hq.mp a)]; exact pw_some h
  · rw [if_pos (Decidable.byContradiction fun h' => a (hq.mpr h'))]
    refine pw_sh fun _ => pw_on fun _ _ => pw_ar fun _ _ => pw_ib fun _ _ => pw_on fun _ _ => pw_ar fun _ _ => pw_ib fun _ _ => pw_ite (fun _ => pX9_put_43 h C t9 hx) (fun _ => pw_on fun _ _ => pw_ar fun _ _ => pw_ib fun _ _ => pX9_put_43 h C t9 hx)
theorem pX9_row_w (h : ch9 o9 c ρ σ u) (C : sCI T σ) (t9 : T o9 = some 9) {x1 v : Int32} (hx : x1.toNatClampNeg = c) : pw (mm_on (mm_R σ o9 5) fun q19 => mm_ar σ q19 0 fun n20 => mm_ib x1 n20 (mm_let (mm_wI σ q19 (x1.toNatClampNeg) v) fun s22 => some (s22))) (fun R => ch9 o9 c ρ R (q_app u 3 v)) := by
  obtain ⟨q, e, t⟩ := ci_ref C t9 5 (κ' := 55) rfl
  rw [hx]
  exact pw_onS e (pw_ar fun _ _ => pw_ib fun _ _ => pw_let (pw_some (c9_w (k := 3) h C t9 (by omega) (by omega) e)))
theorem pX9_toRow_200 (t9 : T o9 = some 9) {x1 x2 x3 x4 : Int32} {k190 : Nat → Int32 → Int32 → Int32 → Int32 → Int32 → mm_M → Option mm_M} {Q : mm_M → Prop} (hk : ∀ x5 σ, sCI T σ → ch9 o9 c ρ σ u → pw (k190 o9 x1 x2 x3 x4 x5 σ) Q) : ∀ (n : Nat) (x5 x6 : Int32) (σ : mm_M), sCI T σ → ch9 o9 c ρ σ u → pw (fX9_toRow_200 k190 n o9 x1 x2 x3 x4 x5 x6 σ) Q := by
  intro n
  induction n with
  | zero => intros; exact pw_none
  | succ n ih =>
    intro x5 x6 σ C h
    unfold fX9_toRow_200
    obtain ⟨q1, e1, t1⟩ := ci_ref C t9 1 (κ' := 51) rfl
    obtain ⟨q2, e2, t2⟩ := ci_ref C t9 2 (κ' := 52) rfl
    refine pw_ite (fun _ => hk _ _ C h) (fun _ => pw_sh fun _ => pw_onP pX9_cellAt fun q32 e32 => pw_sh fun _ => ?_)
    rw [e32]
    refine pw_on fun q34 _ => pw_ar fun _ _ => pw_ib fun _ _ => pw_onS e1 (pw_ar fun _ _ => pw_ib fun _ _ => pw_let (pw_on fun q41 _ => pw_ar fun _ _ => pw_ib fun _ _ => pw_onS e2 (pw_ar fun _ _ => pw_ib fun _ _ => pw_let ?_)))
    have a := f4_w (j := q32.1.toNatClampNeg) (v := mm_I σ q34 ((32 * x5) + x6).toNatClampNeg) C t1 (Or.inl rfl)
    have b := f4_t a (f4_w (j := q32.1.toNatClampNeg) (v := mm_I (mm_wI σ q1 q32.1.toNatClampNeg (mm_I σ q34 ((32 * x5) + x6).toNatClampNeg)) q41 ((32 * x5) + x6).toNatClampNeg) a.1 t2 (Or.inr (Or.inl rfl)))
    exact ih _ _ _ b.1 (c9_f4 h C t9 b)
theorem pX9_toRow_190 (t9 : T o9 = some 9) {x1 x2 x3 x4 : Int32} (hx : x1.toNatClampNeg = c) : ∀ (n : Nat) (x5 : Int32) (σ : mm_M), sCI T σ → ch9 o9 c ρ σ u → pw (fX9_toRow_190 n o9 x1 x2 x3 x4 x5 σ) (fun R => ch9 o9 c ρ R (q_app u 3 x3)) := by
  intro n
  induction n with
  | zero => intros; exact pw_none
  | succ n ih =>
    intro x5 σ C h
    unfold fX9_toRow_190
    exact pw_ite (fun _ => pw_sh fun _ => pX9_row_w h C t9 hx) (fun _ => pX9_toRow_200 t9 (fun x5 σ C h => ih x5 σ C h) _ _ _ _ C h)
theorem pX9_toRow_72 (t9 : T o9 = some 9) {x1 x2 x3 x4 : Int32} {k46 : Nat → Int32 → Int32 → Int32 → Int32 → Int32 → mm_M → Option mm_M} {Q : mm_M → Prop} (hk : ∀ x5 σ, sCI T σ → ch9 o9 c ρ σ u → pw (k46 o9 x1 x2 x3 x4 x5 σ) Q) : ∀ (n : Nat) (x5 x6 x7 : Int32) (σ : mm_M), sCI T σ → ch9 o9 c ρ σ u → pw (fX9_toRow_72 k46 n o9 x1 x2 x3 x4 x5 x6 x7 σ) Q := by
  intro n
  induction n with
  | zero => intros; exact pw_none
  | succ n ih =>
    intro x5 x6 x7 σ C h
    unfold fX9_toRow_72
    have k130 : ∀ x8 y0 y1 : Int32, pw (fX9_toRow_130 k46 (fX9_toRow_72 k46 n) o9 x1 x2 x3 x4 x5 x6 x7 x8 y0 y1 (mm_R σ o9 42) σ) Q := by
      intro x8 y0 y1
      unfold fX9_toRow_130
      obtain ⟨q42, e42, t42⟩ := ci_ref C t9 42 (κ' := 92) rfl
      obtain ⟨q43, e43, t43⟩ := ci_ref C t9 43 (κ' := 93) rfl
      refine pw_onS e42 (pw_ar fun _ _ => pw_ib fun _ _ => pw_let (pw_sh fun _ => ?_))
      have a := f4_w (j := y1.toNatClampNeg) (v := y0) C t42 (Or.inr (Or.inr (Or.inl rfl)))
      refine pw_ite (fun _ => pw_onS e43 (pw_ar fun _ _ => pw_ib fun _ _ => pw_let ?_)) (fun _ => pw_on fun q68 _ => pw_ar fun _ _ => pw_ib fun _ _ => pw_onS e43 (pw_ar fun _ _ => pw_ib fun _ _ => pw_let ?_))
      · have b := f4_t a (f4_w (j := ((32 * x5) + x7).toNatClampNeg) (v := 0) a.1 t43 (Or.inr (Or.inr (Or.inr rfl))))
        exact ih _ _ _ _ b.1 (c9_f4 h C t9 b)
      · have b := f4_t a (f4_w (j := ((32 * x5) + x7).toNatClampNeg) (v := mm_I (mm_wI σ q42 y1.toNatClampNeg y0) q68 x8.toNatClampNeg) a.1 t43 (Or.inr (Or.inr (Or.inr rfl))))
        exact ih _ _ _ _ b.1 (c9_f4 h C t9 b)
    have k99 : ∀ y0 : Int32, pw (fX9_toRow_99 k46 (fX9_toRow_72 k46 n) o9 x1 x2 x3 x4 x5 x6 x7 y0 σ) Q := by
      intro y0
      unfold fX9_toRow_99
      exact pw_sh fun _ => pw_ite (fun _ => k130 _ _ _) (fun _ => pw_on fun _ _ => pw_ar fun _ _ => pw_ib fun _ _ => k130 _ _ _)
    refine pw_ite (fun _ => pw_ite (fun _ => hk _ _ C h) (fun _ => pw_sh fun _ => pw_onP (pX9_clearRow C t9) fun s2 h2 => hk _ _ h2.1 (c9_f4 h C t9 h2))) (fun _ => pw_ite (fun _ => k99 _) (fun _ => pw_sh fun _ => pw_onP pX9_cellAt fun q80 e80 => ?_))
    rw [e80]
    exact k99 _
theorem pX9_toRow_46 (t9 : T o9 = some 9) {x1 x2 x3 x4 : Int32} (hx : x1.toNatClampNeg = c) : ∀ (n : Nat) (x5 : Int32) (σ : mm_M), sCI T σ → ch9 o9 c ρ σ u → pw (fX9_toRow_46 n o9 x1 x2 x3 x4 x5 σ) (fun R => ch9 o9 c ρ R (q_app u 3 x3)) := by
  intro n
  induction n with
  | zero => intros; exact pw_none
  | succ n ih =>
    intro x5 σ C h
    unfold fX9_toRow_46
    exact pw_ite (fun _ => pX9_toRow_190 t9 hx _ _ _ C h) (fun _ => pw_sh fun _ => pw_on fun _ _ => pw_ar fun _ _ => pw_ib fun _ _ => pX9_toRow_72 t9 (fun x5 σ C h => ih x5 σ C h) _ _ _ _ _ C h)
theorem pX9_toRow (h : ch9 o9 c ρ σ u) (C : sCI T σ) (t9 : T o9 = some 9) {x b : Int32} (hx : x.toNatClampNeg = c) : pw (fX9_toRow o9 x b σ) (fun R => ch9 o9 c ρ R (q_app u 3 (a_to u b))) := by
  unfold fX9_toRow a_to
  obtain ⟨q4, e4, t4⟩ := ci_ref C t9 4 (κ' := 54) rfl
  obtain ⟨q8, e8, t8⟩ := ci_ref C t9 8 (κ' := 58) rfl
  have r4 := c9_rd (k := 2) h (by omega) (by omega) e4
  have r8 := c9_rd (k := 6) h (by omega) (by omega) e8
  have k32 : ∀ x3 x4 y0 : Int32, pw (fX9_toRow_32 o9 x b x3 x4 y0 σ) (fun R => ch9 o9 c ρ R (q_app u 3 y0)) := by
    intro x3 x4 y0
    unfold fX9_toRow_32
    exact pw_sh fun _ => pw_on fun _ _ => pw_ar fun _ _ => pw_ib fun _ _ => pw_ite (fun _ => pX9_row_w h C t9 hx) (fun _ => pX9_toRow_46 t9 hx _ _ _ C h)
  refine pw_sh fun _ => pw_onS e4 (pw_ar fun _ _ => pw_ib fun _ _ => ?_)
  rw [hx, r4]
  refine pw_ite (fun a => pw_onS e8 (pw_ar fun _ _ => pw_ib fun _ _ => ?_)) (fun a => ?_)
  · rw [if_pos a, r8]
    refine pw_ite (fun d => ?_) (fun d => ?_)
    · rw [if_neg (by rw [zi_lt]; rw [zi_le] at d; omega)]; exact k32 _ _ _
    · rw [if_pos (by rw [zi_lt]; rw [zi_le] at d; omega)]; exact k32 _ _ _
  · rw [if_neg a]
    have := pX9_row_w (v := b) h C t9 hx
    rw [hx] at this
    exact this
end CH9
theorem y_b1 : ∀ k : Fin 128, (Int32.ofNat k.val - Int32.ofNat k.val / 2 * 2) = 1 ↔ ¬ Int32.ofNat k.val &&& 1 = 0 := by decide
theorem y_b32 : ∀ k : Fin 128, Int32.ofNat k.val &&& 32 ≤ 0 ↔ Int32.ofNat k.val &&& 32 = 0 := by decide
theorem x_b8 : ∀ k : Fin 128, Int32.ofNat k.val &&& 8 ≤ 0 ↔ Int32.ofNat k.val &&& 8 = 0 := by decide
theorem f128 (x : Int32) : ∃ k : Fin 128, x &&& 127 = Int32.ofNat k.val := by
  have h := zi_and x 127 (by decide)
  have e : (127 : Int32).toInt = 127 := rfl
  rw [e] at h
  refine ⟨⟨(x &&& 127).toInt.toNat, by omega⟩, ?_⟩
  have := Int32.ofNat_toNatClampNeg (x := x &&& 127)
  rw [zi_clamp] at this
  exact (this (by rw [zi_le]; exact h.1)).symm
section CH9B
variable {T : Nat → Option Nat} {σ ρ : mm_M} {o9 c : Nat} {u : Nat → Int32}
theorem pX9_rowCode (h : ch9 o9 c ρ σ u) (C : sCI T σ) (t9 : T o9 = some 9) {x xx y : Int32} (hx : x.toNatClampNeg = c) (hc : c < 4) (hx3 : 0 ≤ x.toInt ∧ x.toInt ≤ 3) (hxx : 16 ≤ xx.toInt ∧ xx.toInt ≤ 23) (hy : ∃ k : Fin 128, y = Int32.ofNat k.val) : pw (fX9_rowCode o9 x xx y σ) (fun R => ch9 o9 c ρ R (a_rw u (a_rowb xx y) y)) := by
  unfold fX9_rowCode a_rw
  have k71 : ∀ (s : mm_M) (v : Nat → Int32) (k y0 y1 : Int32), sCI T s → ch9 o9 c ρ s v → pw (fX9_rowCode_71 o9 x xx y k y0 y1 x (mm_R s o9 7) s) (fun R => ch9 o9 c ρ R (q_app (q_app v 5 (y1 + y0)) 4 (if 8 ≤ k then 4 * (k - 8) else 0))) := by
    intro s v k y0 y1 Cs hs
    unfold fX9_rowCode_71
    obtain ⟨q7, e7, t7⟩ := ci_ref Cs t9 7 (κ' := 57) rfl
    obtain ⟨q6, e6, t6⟩ := ci_ref Cs t9 6 (κ' := 56) rfl
    rw [hx]
    refine pw_onS e7 (pw_ar fun _ _ => pw_ib fun _ _ => pw_let (pw_sh fun _ => ?_))
    have h1 := c9_w (k := 5) (v := y1 + y0) hs Cs t9 (by omega) (by omega) e7
    have C1 := ci_wI (j := c) (v := y1 + y0) Cs t7 (kr_n rfl)
    refine pw_ite (fun a => ?_) (fun a => ?_)
    · rw [if_pos a]; exact pw_onS e6 (pw_ar fun _ _ => pw_ib fun _ _ => pw_let (pw_some (c9_w (k := 4) h1 C1 t9 (by omega) (by omega) e6)))
    · rw [if_neg a]; exact pw_onS e6 (pw_ar fun _ _ => pw_ib fun _ _ => pw_let (pw_some (c9_w (k := 4) h1 C1 t9 (by omega) (by omega) e6)))
  have k58 : ∀ (s : mm_M) (v : Nat → Int32) (k y0 : Int32), sCI T s → ch9 o9 c ρ s v → pw (fX9_rowCode_58 o9 x xx y k y0 x (mm_R s o9 7) s) (fun R => ch9 o9 c ρ R (q_app (q_app v 5 (y0 + (if y &&& 1 = 0 then 0 else 8))) 4 (if 8 ≤ k then 4 * (k - 8) else 0))) := by
    intro s v k y0 Cs hs
    unfold fX9_rowCode_58
    have hb : (y - y / 2 * 2) = 1 ↔ ¬ y &&& 1 = 0 := by obtain ⟨j, rfl⟩ := hy; exact y_b1 j
    refine pw_ite (fun a => ?_) (fun a => ?_)
    · rw [if_neg (hb.mp a)]; exact k71 s v k 8 y0 Cs hs
    · rw [if_pos (Decidable.byContradiction fun h => a (hb.mpr h))]; exact k71 s v k 0 y0 Cs hs
  have k28 : ∀ y0 y1 : Int32, (1 ≤ (y1 + y0).toInt ∧ (y1 + y0).toInt ≤ 15) → pw (fX9_rowCode_28 o9 x xx y y0 y1 x o9 σ) (fun R => ch9 o9 c ρ R (q_app (q_app (q_app u 3 (a_to u (y1 + y0))) 5 (a_lk y)) 4 (a_cl y))) := by
    intro y0 y1 hb
    unfold fX9_rowCode_28 a_lk a_cl
    refine pw_sh fun _ => pw_onP (fun y e => And.intro ((sX9_toRow C t9 hx3 hb).p y e) (pX9_toRow h C t9 hx y e)) fun s2 hh => pw_sh fun _ => ?_
    obtain ⟨⟨C2, -, -⟩, h2⟩ := hh
    refine pw_ite (fun a => ?_) (fun a => ?_)
    · have := k58 s2 _ ((y / 2) - (y / 2) / 16 * 16) 0 C2 h2
      rw [if_pos a] at this ⊢
      rw [if_pos a]
      exact this
    · have := k58 s2 _ ((y / 2) - (y / 2) / 16 * 16) ((y / 2) - (y / 2) / 16 * 16) C2 h2
      rw [if_neg a] at this ⊢
      rw [if_neg a]
      exact this
  have rg : ∀ z : Int32, z = 0 ∨ z = 1 → 1 ≤ (fX9_rowOf xx + z).toInt ∧ (fX9_rowOf xx + z).toInt ≤ 15 := by
    intro z hz
    unfold fX9_rowOf
    rcases hz with rfl | rfl <;> (split; decide) <;> (split; decide) <;> (split; decide) <;> (split; decide) <;> (split; decide) <;> (split; decide) <;> (split <;> decide)
  refine pw_sh fun _ => pw_onP (pX9_screenOf h C t9 hx) fun q2 hq => ?_
  obtain ⟨e2, hq⟩ := hq
  rw [e2]
  refine pw_ite (fun a => ?_) (fun a => ?_)
  · rw [if_neg (hq.mp a)]; exact pw_some h
  · rw [if_pos (Decidable.byContradiction fun h' => a (hq.mpr h'))]
    unfold a_rowb
    have hb : y &&& 32 ≤ 0 ↔ y &&& 32 = 0 := by obtain ⟨j, rfl⟩ := hy; exact y_b32 j
    refine pw_ite (fun d => ?_) (fun d => ?_)
    · rw [if_pos (hb.mp d)]; exact k28 0 _ (rg 0 (Or.inl rfl))
    · rw [if_neg (fun h => d (hb.mpr h))]; exact k28 1 _ (rg 1 (Or.inr rfl))
theorem pX9_roll_86 (h : ch9 o9 c ρ σ u) (C : sCI T σ) (t9 : T o9 = some 9) {x d : Int32} (hx : x.toNatClampNeg = c) (hc : c < 4) (hd : 2 ≤ d.toInt ∧ d.toInt ≤ 4) : pw (fX9_roll_86 o9 x d σ) (fun R => ch9 o9 c ρ R (q_app (q_app (q_app (q_app u 2 2) 6 d) 4 0) 5 0)) := by
  unfold fX9_roll_86
  obtain ⟨q4, e4, t4⟩ := ci_ref C t9 4 (κ' := 54) rfl
  obtain ⟨q8, e8, t8⟩ := ci_ref C t9 8 (κ' := 58) rfl
  obtain ⟨q6, e6, t6⟩ := ci_ref C t9 6 (κ' := 56) rfl
  obtain ⟨q7, e7, t7⟩ := ci_ref C t9 7 (κ' := 57) rfl
  rw [hx]
  have h1 := c9_w (k := 2) (v := 2) h C t9 (by omega) (by omega) e4
  have C1 := ci_wI (j := c) (v := 2) C t4 (kr_n rfl)
  have h2 := c9_w (k := 6) (v := d) h1 C1 t9 (by omega) (by omega) e8
  have C2 := ci_wI (j := c) (v := d) C1 t8 (kr_58 hd)
  have h3 := c9_w (k := 4) (v := 0) h2 C2 t9 (by omega) (by omega) e6
  have C3 := ci_wI (j := c) (v := 0) C2 t6 (kr_s (lo := 0) (hi := 32) rfl (by decide))
  have h4 := c9_w (k := 5) (v := 0) h3 C3 t9 (by omega) (by omega) e7
  exact pw_sh fun _ => pw_onS e4 (pw_ar fun _ _ => pw_ib fun _ _ => pw_let (pw_onS e8 (pw_ar fun _ _ => pw_ib fun _ _ => pw_let (pw_onS e6 (pw_ar fun _ _ => pw_ib fun _ _ => pw_let (pw_onS e7 (pw_ar fun _ _ => pw_ib fun _ _ => pw_let (pw_some h4))))))))
theorem a_roll_e {d v : Int32} (f : Nat) (hv : v = if u 2 = 2 then (if u 3 < d then d else u 3) else 15) : q_app (q_app (q_app (q_app (q_app u 3 v) 2 2) 6 d) 4 0) 5 0 f = a_roll u d f := by
  subst hv
  unfold a_roll q_app
  by_cases h5 : f = 5
  · rw [if_pos h5, if_pos h5]
  rw [if_neg h5, if_neg h5]
  by_cases h4 : f = 4
  · rw [if_pos h4, if_pos h4]
  rw [if_neg h4, if_neg h4]
  by_cases h6 : f = 6
  · rw [if_pos h6, if_neg (by omega), if_neg (by omega), if_pos h6]
  rw [if_neg h6]
  by_cases h2 : f = 2
  · rw [if_pos h2, if_pos h2]
  rw [if_neg h2, if_neg h2]
  by_cases h3 : f = 3
  · rw [if_pos h3, if_pos h3]
  · rw [if_neg h3, if_neg h3, if_neg h6]
theorem ch9.cg {v : Nat → Int32} (h : ch9 o9 c ρ σ u) (e : ∀ f, u f = v f) : ch9 o9 c ρ σ v := fun f i f1 f2 => by rw [h f i f1 f2, e]
theorem pX9_roll_12 (t9 : T o9 = some 9) {x d : Int32} (hx : x.toNatClampNeg = c) (hc : c < 4) (hd : 2 ≤ d.toInt ∧ d.toInt ≤ 4) (hm : u 2 = 2) : ∀ (n : Nat) (x3 : Int32) (σ : mm_M), sCI T σ → ch9 o9 c ρ σ u → pw (fX9_roll_12 n o9 x d x3 σ) (fun R => ch9 o9 c ρ R (a_roll u d)) := by
  intro n
  induction n with
  | zero => intros; exact pw_none
  | succ n ih =>
    intro x3 σ C h
    unfold fX9_roll_12
    obtain ⟨q5, e5, t5⟩ := ci_ref C t9 5 (κ' := 55) rfl
    have r5 := c9_rd (k := 3) h (by omega) (by omega) e5
    have rr := ci_rg C t5 c (krng_55 hc)
    rw [r5] at rr
    have k62 : ∀ v : Int32, v = (if u 3 < d then d else u 3) → pw (fX9_roll_62 o9 x d x3 v x q5 σ) (fun R => ch9 o9 c ρ R (a_roll u d)) := by
      intro v hv
      unfold fX9_roll_62
      rw [hx]
      refine pw_ar fun _ _ => pw_ib fun _ _ => pw_let ?_
      have hvr : 1 ≤ v.toInt ∧ v.toInt ≤ 15 := by
        rw [hv]
        split
        · omega
        · omega
      refine (pX9_roll_86 (c9_w (k := 3) h C t9 (by omega) (by omega) e5) (ci_wI C t5 (kr_55 hvr)) t9 hx hc hd).mono (fun R hR => hR.cg (fun f => a_roll_e f ?_))
      rw [if_pos hm]; exact hv
    refine pw_sh fun _ => pw_onS e5 (pw_ar fun _ _ => pw_ib fun _ _ => pw_ite (fun _ => pw_onS e5 (pw_ar fun _ _ => pw_ib fun _ _ => ?_)) (fun _ => pw_onP (pX9_clearRow C t9) fun s2 h2 => ih _ _ h2.1 (c9_f4 h C t9 h2)))
    rw [hx, r5]
    refine pw_ite (fun a => pw_onS e5 (pw_ar fun _ _ => pw_ib fun _ _ => ?_)) (fun a => k62 _ ?_)
    · rw [r5]
      refine k62 _ ?_
      rw [if_neg (by rw [zi_lt]; rw [zi_le] at a; omega)]
    · rw [if_pos (by rw [zi_lt]; rw [zi_le] at a; omega)]
theorem pX9_roll (h : ch9 o9 c ρ σ u) (C : sCI T σ) (t9 : T o9 = some 9) {x d : Int32} (hx : x.toNatClampNeg = c) (hc : c < 4) (hd : 2 ≤ d.toInt ∧ d.toInt ≤ 4) : pw (fX9_roll o9 x d σ) (fun R => ch9 o9 c ρ R (a_roll u d)) := by
  unfold fX9_roll
  obtain ⟨q4, e4, t4⟩ := ci_ref C t9 4 (κ' := 54) rfl
  have r4 := c9_rd (k := 2) h (by omega) (by omega) e4
  refine pw_sh fun _ => pw_onS e4 (pw_ar fun _ _ => pw_ib fun _ _ => ?_)
  rw [hx, r4]
  refine pw_ite (fun a => pX9_roll_12 t9 hx hc hd a _ _ _ C h) (fun a => pw_onP (pX9_clearScreen C t9) fun s2 h2 => pw_sh fun _ => pw_onP (pX9_clearScreen h2.1 t9) fun s3 h3 => pw_sh fun _ => ?_)
  obtain ⟨q5, e5, t5⟩ := ci_ref h3.1 t9 5 (κ' := 55) rfl
  refine pw_onS e5 (pw_ar fun _ _ => pw_ib fun _ _ => pw_let ?_)
  have hs := c9_f4 h C t9 (f4_t h2 h3)
  refine (pX9_roll_86 (c9_w (k := 3) hs h3.1 t9 (by omega) (by omega) e5) (ci_wI h3.1 t5 (kr_55 (by decide))) t9 hx hc hd).mono (fun R hR => hR.cg (fun f => a_roll_e f ?_))
  rw [if_neg a]
theorem pX9_up_28 (t9 : T o9 = some 9) {x1 : Int32} {k16 : Nat → Int32 → Int32 → mm_M → Option mm_M} {Q : mm_M → Prop} (hk : ∀ x2 σ, sCI T σ → ch9 o9 c ρ σ u → pw (k16 o9 x1 x2 σ) Q) : ∀ (n : Nat) (x2 x3 : Int32) (σ : mm_M), sCI T σ → ch9 o9 c ρ σ u → pw (fX9_up_28 k16 n o9 x1 x2 x3 σ) Q := by
  intro n
  induction n with
  | zero => intros; exact pw_none
  | succ n ih =>
    intro x2 x3 σ C h
    unfold fX9_up_28
    obtain ⟨q1, e1, t1⟩ := ci_ref C t9 1 (κ' := 51) rfl
    obtain ⟨q2, e2, t2⟩ := ci_ref C t9 2 (κ' := 52) rfl
    refine pw_ite (fun _ => hk _ _ C h) (fun _ => pw_ite (fun _ => hk _ _ C h) (fun _ => pw_sh fun _ => pw_onP pX9_cellAt fun q29 e29 => pw_sh fun _ => ?_))
    rw [e29]
    refine pw_onP pX9_cellAt fun q31 e31 => ?_
    rw [e31]
    refine pw_on fun q32 _ => pw_ar fun _ _ => pw_ib fun _ _ => pw_onS e1 (pw_ar fun _ _ => pw_ib fun _ _ => pw_let (pw_sh fun _ => pw_onP pX9_cellAt fun q40 e40 => pw_sh fun _ => ?_))
    rw [e40]
    refine pw_onP pX9_cellAt fun q42 e42 => ?_
    rw [e42]
    refine pw_on fun q43 _ => pw_ar fun _ _ => pw_ib fun _ _ => pw_onS e2 (pw_ar fun _ _ => pw_ib fun _ _ => pw_let ?_)
    have a := f4_w (j := q29.1.toNatClampNeg) (v := mm_I σ q32 q31.1.toNatClampNeg) C t1 (Or.inl rfl)
    have b := f4_t a (f4_w (j := q40.1.toNatClampNeg) (v := mm_I (mm_wI σ q1 q29.1.toNatClampNeg (mm_I σ q32 q31.1.toNatClampNeg)) q43 q42.1.toNatClampNeg) a.1 t2 (Or.inr (Or.inl rfl)))
    exact ih _ _ _ b.1 (c9_f4 h C t9 b)
theorem pX9_up_16 (t9 : T o9 = some 9) {x1 : Int32} (hx : x1.toNatClampNeg = c) : ∀ (n : Nat) (x2 : Int32) (σ : mm_M), sCI T σ → ch9 o9 c ρ σ u → pw (fX9_up_16 n o9 x1 x2 σ) (fun R => ch9 o9 c ρ R (q_app (q_app u 4 0) 5 0)) := by
  intro n
  induction n with
  | zero => intros; exact pw_none
  | succ n ih =>
    intro x2 σ C h
    unfold fX9_up_16
    refine pw_sh fun _ => pw_on fun _ _ => pw_ar fun _ _ => pw_ib fun _ _ => pw_ite (fun _ => pw_on fun _ _ => pw_ar fun _ _ => pw_ib fun _ _ => pw_onP (pX9_clearRow C t9) fun s2 h2 => pw_sh fun _ => ?_) (fun _ => pX9_up_28 t9 (fun x2 σ C h => ih x2 σ C h) _ _ _ _ C h)
    obtain ⟨q6, e6, t6⟩ := ci_ref h2.1 t9 6 (κ' := 56) rfl
    obtain ⟨q7, e7, t7⟩ := ci_ref h2.1 t9 7 (κ' := 57) rfl
    rw [hx]
    have hs := c9_f4 h C t9 h2
    have h3 := c9_w (k := 4) (v := 0) hs h2.1 t9 (by omega) (by omega) e6
    have C3 := ci_wI (j := c) (v := 0) h2.1 t6 (kr_s (lo := 0) (hi := 32) rfl (by decide))
    exact pw_onS e6 (pw_ar fun _ _ => pw_ib fun _ _ => pw_let (pw_onS e7 (pw_ar fun _ _ => pw_ib fun _ _ => pw_let (pw_some (c9_w (k := 5) h3 C3 t9 (by omega) (by omega) e7)))))
theorem pX9_up (h : ch9 o9 c ρ σ u) (C : sCI T σ) (t9 : T o9 = some 9) {x1 : Int32} (hx : x1.toNatClampNeg = c) : pw (fX9_up o9 x1 σ) (fun R => ch9 o9 c ρ R (q_app (q_app u 4 0) 5 0)) := by
  unfold fX9_up
  exact pw_sh fun _ => pw_on fun _ _ => pw_ar fun _ _ => pw_ib fun _ _ => pw_on fun _ _ => pw_ar fun _ _ => pw_ib fun _ _ => pX9_up_16 t9 hx _ _ _ C h
theorem pX9_ctl_151 (t9 : T o9 = some 9) {x1 x2 x3 : Int32} : ∀ (n : Nat) (x4 : Int32) (σ : mm_M), sCI T σ → pw (fX9_control_151 n o9 x1 x2 x3 x4 σ) (fun R => f4 T σ R) := by
  intro n
  induction n with
  | zero => intros; exact pw_none
  | succ n ih =>
    intro x4 σ C
    unfold fX9_control_151
    refine pw_ite (fun _ => pw_some (f4_r C)) (fun _ => pw_ite (fun _ => pw_some (f4_r C)) (fun _ => pw_sh fun _ => pw_on fun _ _ => pw_ar fun _ _ => pw_ib fun _ _ => pw_onP pX9_cellAt fun q41 e41 => pw_sh fun _ => ?_))
    rw [e41]
    exact pw_onP (pX9_clear C t9) fun s2 h2 => (ih _ _ h2.1).mono (fun R h => f4_t h2 h)
end CH9B
section CH9C
variable {T : Nat → Option Nat} {σ ρ : mm_M} {o9 c : Nat} {u : Nat → Int32}
theorem q_app_id {k : Nat} {v : Int32} (h : u k = v) : q_app u k v = u := by
  funext f; unfold q_app
  by_cases e : f = k
  · subst e; rw [if_pos rfl]; exact h.symm
  · exact if_neg e
theorem pX9_ctl (h : ch9 o9 c ρ σ u) (C : sCI T σ) (t9 : T o9 = some 9) {x y : Int32} (hx : x.toNatClampNeg = c) (hc : c < 4) : pw (fX9_control o9 x y σ) (fun R => ch9 o9 c ρ R (a_ctl u y)) := by
  unfold fX9_control a_ctl
  obtain ⟨q4, e4, t4⟩ := ci_ref C t9 4 (κ' := 54) rfl
  obtain ⟨q6, e6, t6⟩ := ci_ref C t9 6 (κ' := 56) rfl
  obtain ⟨q3, e3, t3⟩ := ci_ref C t9 3 (κ' := 53) rfl
  have r4 := c9_rd (k := 2) h (by omega) (by omega) e4
  have r6 := c9_rd (k := 4) h (by omega) (by omega) e6
  have rg6 := ci_rg C t6 c (lo := 0) (hi := 32) rfl
  rw [r6] at rg6
  have mode : ∀ v : Int32, pw (mm_sh σ o9 (.inl 9) (mm_on (mm_R σ o9 4) fun q5 => mm_ar σ q5 0 fun n6 => mm_ib x n6 (mm_let (mm_wI σ q5 (x.toNatClampNeg) v) fun s8 => some (s8)))) (fun R => ch9 o9 c ρ R (q_app u 2 v)) := by
    intro v
    rw [hx]
    exact pw_sh fun _ => pw_onS e4 (pw_ar fun _ _ => pw_ib fun _ _ => pw_let (pw_some (c9_w (k := 2) h C t9 (by omega) (by omega) e4)))
  refine pw_sh fun _ => pw_onP (pX9_screenOf h C t9 hx) fun q2 hq => ?_
  obtain ⟨es, hq⟩ := hq
  rw [es]
  refine pw_ite (fun a => ?_) (fun a => ?_)
  · rw [if_pos a]; exact mode 1
  rw [if_neg a]
  refine pw_ite (fun a => ?_) (fun a => ?_)
  · rw [if_pos a]
    refine pw_ite (fun b => ?_) (fun b => ?_)
    · rw [if_neg (hq.mp b)]; exact pw_some h
    · rw [if_pos (Decidable.byContradiction fun h' => b (hq.mpr h')), hx]
      refine pw_sh fun _ => pw_onS e6 (pw_ar fun _ _ => pw_ib fun _ _ => ?_)
      rw [r6]
      refine pw_ite (fun d => ?_) (fun d => ?_)
      · rw [if_pos d]; exact pw_some h
      · rw [if_neg d]
        refine pw_onS e6 (pw_ar fun _ _ => pw_ib fun _ _ => pw_ib fun _ _ => pw_let ?_)
        rw [r6]
        have h1 := c9_w (k := 4) (v := u 4 - 1) h C t9 (by omega) (by omega) e6
        have em := zi_m1 (x := u 4) (by omega)
        rw [zi_le, show (0 : Int32).toInt = 0 from rfl] at d
        have C1 := ci_wI (j := c) (v := u 4 - 1) C t6 (kr_s (lo := 0) (hi := 32) rfl (by omega))
        refine pw_on fun _ _ => pw_ar fun _ _ => pw_ib fun _ _ => pw_on fun _ _ => pw_ar fun _ _ => pw_ib fun _ _ => pw_onP pX9_cellAt fun q27 e27 => pw_sh fun _ => ?_
        rw [e27]
        exact pw_onP (pX9_clear C1 t9) fun s2 h2 => pw_some (c9_f4 h1 C1 t9 h2)
  rw [if_neg a]
  refine pw_ite (fun a => ?_) (fun a => ?_)
  · rw [if_pos a]
    exact pw_sh fun _ => pw_onS e6 (pw_ar fun _ _ => pw_ib fun _ _ => (pX9_ctl_151 t9 _ _ _ C).mono (fun R hR => c9_f4 h C t9 hR))
  rw [if_neg a]
  refine pw_ite (fun a => ?_) (fun a => ?_)
  · rw [if_pos a]; exact pw_sh fun _ => pw_onP (pX9_roll h C t9 hx hc (by rw [a]; decide)) fun q hq => pw_some hq
  rw [if_neg a]
  refine pw_ite (fun a => ?_) (fun a => ?_)
  · rw [if_pos a]; exact pw_sh fun _ => pw_onP (pX9_roll h C t9 hx hc (by rw [a]; decide)) fun q hq => pw_some hq
  rw [if_neg a]
  refine pw_ite (fun a => ?_) (fun a => ?_)
  · rw [if_pos a]; exact pw_sh fun _ => pw_onP (pX9_roll h C t9 hx hc (by rw [a]; decide)) fun q hq => pw_some hq
  rw [if_neg a]
  refine pw_ite (fun a => ?_) (fun a => ?_)
  · rw [if_pos a]; exact mode 3
  rw [if_neg a]
  refine pw_ite (fun a => ?_) (fun a => ?_)
  · rw [if_pos a]; exact mode 4
  rw [if_neg a]
  refine pw_ite (fun a => ?_) (fun a => ?_)
  · rw [if_pos a]; exact mode 4
  rw [if_neg a]
  refine pw_ite (fun a => ?_) (fun a => ?_)
  · rw [if_pos a]; exact pw_sh fun _ => pw_onP (pX9_clearScreen C t9) fun s2 h2 => pw_some (c9_f4 h C t9 h2)
  rw [if_neg a]
  refine pw_ite (fun a => ?_) (fun a => ?_)
  · rw [if_pos a, hx]
    refine pw_sh fun _ => pw_onS e4 (pw_ar fun _ _ => pw_ib fun _ _ => ?_)
    rw [r4]
    refine pw_ite (fun b => ?_) (fun b => ?_)
    · rw [if_pos b]; exact pw_onP (pX9_up h C t9 hx) fun q hq => pw_some hq
    · rw [if_neg b]; exact pw_some h
  rw [if_neg a]
  refine pw_ite (fun a => ?_) (fun a => ?_)
  · rw [if_pos a]; exact pw_sh fun _ => pw_onP (pX9_clearScreen C t9) fun s2 h2 => pw_some (c9_f4 h C t9 h2)
  rw [if_neg a]
  refine pw_ite (fun a => ?_) (fun a => ?_)
  · rw [if_pos a, hx]
    refine pw_sh fun _ => pw_onS e3 (pw_ar fun _ _ => pw_ib fun _ _ => pw_ib fun _ _ => pw_let (pw_onS e4 (pw_ar fun _ _ => pw_ib fun _ _ => pw_let (pw_some ?_))))
    have r3 := ci_rg C t3 c (lo := 0) (hi := 1) rfl
    have e1 : (1 - mm_I σ q3 c).toInt = 1 - (mm_I σ q3 c).toInt := by rw [zi_sub, show (1 : Int32).toInt = 1 from rfl, zi_bm (by omega) (by omega)]
    have C1 := ci_wI (j := c) (v := 1 - mm_I σ q3 c) C t3 (kr_s (lo := 0) (hi := 1) rfl (by omega))
    have h1 : ch9 o9 c ρ (mm_wI σ q3 c (1 - mm_I σ q3 c)) u := c9_fr (K := [53]) h C t9 (fr_wI fr_refl t3 rfl) rfl
    exact c9_w (k := 2) h1 C1 t9 (by omega) (by omega) e4
  rw [if_neg a]
  exact pw_some h
theorem pX9_codev (h : ch9 o9 c ρ σ u) (C : sCI T σ) (t9 : T o9 = some 9) {x xx y : Int32} (hx : x.toNatClampNeg = c) (hc : c < 4) (hx3 : 0 ≤ x.toInt ∧ x.toInt ≤ 3) (hxx : 16 ≤ xx.toInt ∧ xx.toInt ≤ 23) (hy : ∃ k : Fin 128, y = Int32.ofNat k.val) : pw (fX9_code o9 x xx y σ) (fun R => ch9 o9 c ρ R (a_code u xx y)) := by
  unfold fX9_code a_code
  obtain ⟨q6, e6, t6⟩ := ci_ref C t9 6 (κ' := 56) rfl
  obtain ⟨q7, e7, t7⟩ := ci_ref C t9 7 (κ' := 57) rfl
  have r6 := c9_rd (k := 4) h (by omega) (by omega) e6
  have rg6 := ci_rg C t6 c (lo := 0) (hi := 32) rfl
  rw [r6] at rg6
  have hyr : 0 ≤ y.toInt ∧ y.toInt ≤ 127 := by
    obtain ⟨k, rfl⟩ := hy
    have : ∀ k : Fin 128, 0 ≤ (Int32.ofNat k.val).toInt ∧ (Int32.ofNat k.val).toInt ≤ 127 := by decide
    exact this k
  have k19 : pw (fX9_code_19 o9 x xx y σ) (fun R => ch9 o9 c ρ R (a_rw u (a_rowb xx y) y)) := by
    unfold fX9_code_19
    exact pw_sh fun _ => pw_onP (pX9_rowCode h C t9 hx hc hx3 hxx hy) fun q hq => pw_some hq
  have kput : ∀ l : Int32, pw (mm_sh σ o9 (.inl 9) (mm_on (fX9_put o9 x l σ) fun q41 => some (q41))) (fun R => ch9 o9 c ρ R (a_put u)) := fun l => pw_sh fun _ => pw_onP (pX9_putv h C t9 hx) fun q hq => pw_some hq
  have k111 : pw (fX9_code_111 o9 x xx y σ) (fun R => ch9 o9 c ρ R (a_bk u)) := by
    unfold fX9_code_111 a_bk
    have k137 : ∀ v : Int32, 0 ≤ v.toInt ∧ v.toInt ≤ 32 → pw (fX9_code_137 o9 x xx y v x q6 σ) (fun R => ch9 o9 c ρ R (a_put (q_app u 4 v))) := by
      intro v hv
      unfold fX9_code_137
      rw [hx]
      exact pw_ar fun _ _ => pw_ib fun _ _ => pw_let (pw_sh fun _ => pw_onP (pX9_putv (c9_w (k := 4) h C t9 (by omega) (by omega) e6) (ci_wI C t6 (kr_s (lo := 0) (hi := 32) rfl hv)) t9 hx) fun q hq => pw_some hq)
    refine pw_sh fun _ => pw_onS e6 (pw_ar fun _ _ => pw_ib fun _ _ => ?_)
    rw [hx, r6]
    have em := zi_m1 (x := u 4) (by omega)
    refine pw_ite (fun a => ?_) (fun a => ?_)
    · rw [if_pos a]; exact k137 0 (by decide)
    · rw [if_neg a]
      rw [zi_le, show (0 : Int32).toInt = 0 from rfl] at a
      refine pw_onS e6 (pw_ar fun _ _ => pw_ib fun _ _ => ?_)
      rw [r6]
      exact k137 _ (by omega)
  have k243 : pw (fX9_code_243 o9 x xx y σ) (fun R => ch9 o9 c ρ R (a_ctl u (y - 32))) := by
    unfold fX9_code_243
    exact pw_sh fun _ => pw_onP (pX9_ctl h C t9 hx hc) fun q hq => pw_some hq
  have k65 : ∀ y0 y1 : Int32, pw (fX9_code_65 o9 x xx y y0 y1 x (mm_R σ o9 7) σ) (fun R => ch9 o9 c ρ R (a_put (q_app u 5 (y1 + y0)))) := by
    intro y0 y1
    unfold fX9_code_65
    rw [hx]
    exact pw_onS e7 (pw_ar fun _ _ => pw_ib fun _ _ => pw_let (pw_sh fun _ => pw_onP (pX9_putv (c9_w (k := 5) h C t9 (by omega) (by omega) e7) (ci_wI C t7 (kr_n rfl)) t9 hx) fun q hq => pw_some hq))
  have e32 : (32 : Int32).toInt = 32 := rfl
  have e31 : (31 : Int32).toInt = 31 := rfl
  refine pw_ite (fun a => ?_) (fun a => ?_)
  · rw [if_pos a]
    refine pw_ite (fun b => ?_) (fun b => ?_)
    · rw [if_pos b]
      unfold a_sp
      refine pw_ite (fun d => ?_) (fun d => pw_sh fun _ => ?_)
      · rw [if_neg (c := y < 48) (by rw [zi_lt]; rw [zi_le] at d; omega)]
        unfold fX9_code_77
        rw [if_pos b]
        exact kput _
      · rw [if_pos (c := y < 48) (by rw [zi_lt]; rw [zi_le] at d; omega)]
        have hb : (y - y / 2 * 2) = 1 ↔ ¬ y &&& 1 = 0 := by obtain ⟨j, rfl⟩ := hy; exact y_b1 j
        refine pw_ite (fun e => ?_) (fun e => ?_)
        · rw [if_neg (hb.mp e)]; exact k65 8 _
        · rw [if_pos (Decidable.byContradiction fun h => e (hb.mpr h))]; exact k65 0 _
    · rw [if_neg b]
      unfold fX9_code_77
      rw [if_neg b]
      refine pw_ite (fun d => ?_) (fun d => ?_)
      · rw [if_pos d]; exact k111
      rw [if_neg d]
      refine pw_ite (fun d => ?_) (fun d => ?_)
      · rw [if_pos d]; exact k111
      rw [if_neg d]
      have k231 : pw (fX9_code_231 o9 x xx y σ) (fun R => ch9 o9 c ρ R (if xx = 20 then a_ctl u (y - 32) else if xx = 21 then a_ctl u (y - 32) else u)) := by
        unfold fX9_code_231
        refine pw_ite (fun e => ?_) (fun e => ?_)
        · rw [if_pos e]; exact k243
        rw [if_neg e]
        refine pw_ite (fun e => ?_) (fun e => ?_)
        · rw [if_pos e]; exact k243
        · rw [if_neg e]; exact pw_some h
      refine pw_ite (fun d => ?_) (fun d => ?_)
      · have n20 : ¬ xx = 20 := by rw [d]; decide
        have n21 : ¬ xx = 21 := by rw [d]; decide
        rw [if_neg n20, if_neg n21] at k231
        rw [if_neg n20, if_neg n21, if_pos d]
        have hin : fX9_in y 33 35 = 0 ↔ ¬ (33 ≤ y.toInt ∧ y.toInt ≤ 35) := zp.2.1 y 33 35
        refine pw_ite (fun e => ?_) (fun e => ?_)
        · have hn := hin.mp e
          by_cases g : y < 33
          · rw [if_pos g]; exact k231
          · rw [if_neg g, if_pos (by rw [zi_lt] at g ⊢; simp only [Int32.reduceToInt] at g ⊢; omega)]; exact k231
        · have hr : 33 ≤ y.toInt ∧ y.toInt ≤ 35 := Decidable.byContradiction fun h => e (hin.mpr h)
          rw [if_neg (by rw [zi_lt]; simp only [Int32.reduceToInt]; omega), if_neg (by rw [zi_lt]; simp only [Int32.reduceToInt]; omega)]
          unfold a_sk
          refine pw_sh fun _ => pw_onS e6 (pw_ar fun _ _ => pw_ib fun _ _ => pw_onS e6 (pw_ar fun _ _ => pw_ib fun _ _ => ?_))
          rw [hx, r6]
          have ey : (y - 32).toInt = y.toInt - 32 := by rw [zi_sub, e32, zi_bm (by omega) (by omega)]
          have e1 : (u 4 + y).toInt = (u 4).toInt + y.toInt := by rw [zi_add, zi_bm (by omega) (by omega)]
          have e2 : (u 4 + y - 32).toInt = (u 4).toInt + y.toInt - 32 := by rw [zi_sub, e1, e32, zi_bm (by omega) (by omega)]
          have e3 : (u 4 + (y - 32)).toInt = (u 4).toInt + (y.toInt - 32) := by rw [zi_add, ey, zi_bm (by omega) (by omega)]
          have e4 : u 4 + y - 32 = u 4 + (y - 32) := by rw [zi_eq]; omega
          refine pw_ite (fun g => ?_) (fun g => ?_)
          · rw [if_pos (c := 32 ≤ u 4) (by rw [zi_le, g]; decide)]
            refine pw_ib fun _ _ => pw_let (pw_some ?_)
            have := c9_w (k := 4) (v := 32) h C t9 (by omega) (by omega) e6
            rw [q_app_id g] at this
            exact this
          · have g' : (u 4).toInt ≠ 32 := fun e => g (by rw [zi_eq, e, e32])
            rw [if_neg (c := 32 ≤ u 4) (by rw [zi_le]; omega), e4]
            refine pw_ite (fun i => ?_) (fun i => ?_)
            · rw [if_neg (by rw [zi_le] at i; rw [zi_lt]; omega)]
              exact pw_ib fun _ _ => pw_let (pw_some (c9_w (k := 4) h C t9 (by omega) (by omega) e6))
            · rw [if_pos (by rw [zi_le] at i; rw [zi_lt]; omega)]
              exact pw_ib fun _ _ => pw_let (pw_some (c9_w (k := 4) h C t9 (by omega) (by omega) e6))
      · rw [if_neg d]; exact k231
  · rw [if_neg a]
    refine pw_ite (fun b => ?_) (fun b => ?_)
    · rw [if_pos b]
      refine pw_ite (fun d => ?_) (fun d => ?_)
      · rw [if_pos d]; exact k19
      · rw [if_neg d]; exact pw_some h
    · rw [if_neg b]; exact k19
end CH9C
def q_C9 (o9 : Nat) (σ : mm_M) (w : Nat → Nat → Int32) : Prop := ∀ i, i < 4 → ∀ f, 2 ≤ f → f ≤ 6 → rdA σ o9 (f + 2) i = w i f
section CH9D
variable {T : Nat → Option Nat} {σ : mm_M} {o9 : Nat} {w : Nat → Nat → Int32}
theorem q_C9.fr {K : List Nat} {σ' : mm_M} (h : q_C9 o9 σ w) (C : sCI T σ) (t9 : T o9 = some 9) (f : sFR T K σ σ') (hK : K.all (fun x => !(54 ≤ x && x ≤ 58) && !(904 ≤ x && x ≤ 908)) = true) : q_C9 o9 σ' w := fun i hi k k1 k2 => by
  have h1 : ch9 o9 i σ σ (fun f => rdA σ o9 (f + 2) i) := fun f j f1 f2 => by
    by_cases e : j = i
    · rw [if_pos e, e]
    · rw [if_neg e]
  have h2 := c9_fr h1 C t9 f hK k i k1 k2
  rw [if_pos rfl] at h2
  exact h2.trans (h i hi k k1 k2)
theorem q_C9.ch (h : q_C9 o9 σ w) {j : Nat} (hj : j < 4) : ch9 o9 j σ σ (w j) := fun f i f1 f2 => by
  by_cases e : i = j
  · subst e; rw [if_pos rfl]; exact h i hj f f1 f2
  · rw [if_neg e]
theorem q_C9.up {R : mm_M} {u : Nat → Int32} (h : q_C9 o9 σ w) {j : Nat} (hc : ch9 o9 j σ R u) : q_C9 o9 R (q_app w j u) := fun i hi f f1 f2 => by
  rw [hc f i f1 f2]
  unfold q_app
  by_cases e : i = j
  · rw [if_pos e, if_pos e]
  · rw [if_neg e, if_neg e]; exact h i hi f f1 f2
theorem pX9_pair_228 (h : q_C9 o9 σ w) (C : sCI T σ) (t9 : T o9 = some 9) {x1 x2 x3 x4 x5 x6 x7 ch x9 y0 : Int32} (hch : -1 ≤ ch.toInt ∧ ch.toInt ≤ 3) : pw (fX9_pair_228 o9 x1 x2 x3 x4 x5 x6 x7 ch x9 y0 σ) (fun R => q_C9 o9 R.2 (if 0 ≤ ch.toInt ∧ ch.toInt ≤ 3 then q_app w ch.toInt.toNat (a_puts (w ch.toInt.toNat) ((if x9 = -1 then 0 else 1) + (if y0 = -1 then 0 else 1))) else w)) := by
  unfold fX9_pair_228
  refine pw_ite (fun a => ?_) (fun a => ?_)
  · rw [if_neg (by rw [a]; decide)]; exact pw_some h
  have hc : 0 ≤ ch.toInt ∧ ch.toInt ≤ 3 := by
    have : ch.toInt ≠ -1 := fun e => a (by rw [zi_eq, e]; rfl)
    omega
  rw [if_pos hc]
  have hj : ch.toInt.toNat < 4 := by omega
  have ecl : ch.toNatClampNeg = ch.toInt.toNat := zi_clamp ch
  generalize ch.toInt.toNat = j at hj ecl ⊢
  have same : ∀ {s : mm_M} {v : Nat → Int32}, ch9 o9 j σ s v → q_C9 o9 s (q_app w j v) := fun hs => h.up hs
  have k264 : ∀ (s : mm_M) (v : Nat → Int32) (z : Int32), sCI T s → ch9 o9 j σ s v → pw (fX9_pair_264 o9 x1 x2 x3 x4 x5 x6 x7 ch z y0 s) (fun R => q_C9 o9 R.2 (q_app w j (a_puts v (if y0 = -1 then 0 else 1)))) := by
    intro s v z Cs hs
    unfold fX9_pair_264
    refine pw_ite (fun b => ?_) (fun b => ?_)
    · rw [if_pos b]; exact pw_some (same hs)
    · rw [if_neg b]
      exact pw_sh fun _ => pw_onP (pX9_putv hs Cs t9 ecl) fun q hq => pw_some (same hq)
  have k250 : pw (fX9_pair_250 o9 x1 x2 x3 x4 x5 x6 x7 ch x9 y0 σ) (fun R => q_C9 o9 R.2 (q_app w j (a_puts (w j) ((if x9 = -1 then 0 else 1) + (if y0 = -1 then 0 else 1))))) := by
    unfold fX9_pair_250
    refine pw_ite (fun b => ?_) (fun b => ?_)
    · rw [if_pos b, Nat.zero_add]; exact k264 σ (w j) _ C (h.ch hj)
    · rw [if_neg b]
      refine pw_sh fun _ => pw_onP (fun y e => And.intro ((sX9_put C t9 hc).p y e) (pX9_putv (h.ch hj) C t9 ecl y e)) fun s2 hh => ?_
      refine (k264 s2 _ _ hh.1.1 hh.2).mono (fun R hR => ?_)
      have : a_puts (a_put (w j)) (if y0 = -1 then 0 else 1) = a_puts (w j) (1 + (if y0 = -1 then 0 else 1)) := by
        by_cases d : y0 = -1
        · rw [if_pos d]; rfl
        · rw [if_neg d]; rfl
      rw [this] at hR
      exact hR
  refine pw_ite (fun b => pw_ite (fun d => ?_) (fun d => k250)) (fun b => k250)
  rw [if_pos b, if_pos d]
  exact pw_some (same (h.ch hj))
theorem pX9_letters (h : q_C9 o9 σ w) (C : sCI T σ) (t9 : T o9 = some 9) {x1 x4 p2 p3 ch y0 : Int32} (hch : -1 ≤ ch.toInt ∧ ch.toInt ≤ 3) (hr2 : fX8_isRight p2 ≠ 0) (hy : y0 = if (p2 &&& 127) < 32 then -1 else (p2 &&& 127)) : pw (fX9_pair_179 o9 x1 p2 p3 x4 (p2 &&& 127) (p3 &&& 127) (fX8_isRight p3) ch y0 σ) (fun R => q_C9 o9 R.2 (if 0 ≤ ch.toInt ∧ ch.toInt ≤ 3 then q_app w ch.toInt.toNat (a_puts (w ch.toInt.toNat) (a_n p2 p3)) else w)) := by
  have nb : ∀ z : Int32, (z &&& 127) ≠ -1 := fun z e => by
    have := zi_and z 127 (by decide)
    rw [e] at this
    exact absurd this.1 (by decide)
  have k := fun z => pX9_pair_228 (x1 := x1) (x2 := p2) (x3 := p3) (x4 := x4) (x5 := p2 &&& 127) (x6 := p3 &&& 127) (x7 := fX8_isRight p3) (ch := ch) (x9 := y0) (y0 := z) h C t9 hch
  unfold fX9_pair_179 a_n
  rw [if_neg hr2]
  have l127 : (127 : Int32) ≠ -1 := by decide
  refine pw_ite (fun a => ?_) (fun a => ?_)
  · rw [if_pos a]
    rw [if_pos a] at hy
    rw [if_pos hy] at k
    unfold fX9_pair_198 fX9_pair_227 fX9_pair_222
    refine pw_ite (fun b => ?_) (fun b => ?_)
    · rw [if_pos b]
      have := k (-1)
      rw [if_pos rfl] at this
      by_cases e : p2 &&& 127 = 0
      · rw [if_pos e]; exact this
      · rw [if_neg e]; exact this
    rw [if_neg b]
    refine pw_ite (fun d => ?_) (fun d => ?_)
    · rw [if_pos d]
      have := k (-1)
      rw [if_pos rfl] at this
      by_cases e : p2 &&& 127 = 0
      · rw [if_pos e]; exact this
      · rw [if_neg e]; exact this
    rw [if_neg d]
    rw [if_neg (by rw [zi_le]; rw [zi_lt] at a; omega)]
    refine pw_ite (fun e => ?_) (fun e => ?_)
    · rw [if_pos e]
      have := k (p3 &&& 127)
      rw [if_neg (nb p3)] at this
      exact this
    · rw [if_neg e]
      have := k (-1)
      rw [if_pos rfl] at this
      exact this
  · rw [if_neg a]
    rw [if_neg a] at hy
    rw [if_neg (by rw [hy]; exact nb p2)] at k
    refine pw_ite (fun b => ?_) (fun b => ?_)
    · rw [if_pos b]
      have := k 127
      rw [if_neg l127] at this
      exact this
    rw [if_neg b]
    unfold fX9_pair_198 fX9_pair_227 fX9_pair_222
    rw [if_neg b]
    refine pw_ite (fun d => ?_) (fun d => ?_)
    · rw [if_pos d]
      have := k (-1)
      rw [if_pos rfl] at this
      exact this
    rw [if_neg d]
    rw [if_pos (by rw [zi_le]; rw [zi_lt] at a; omega)]
    have := k (p3 &&& 127)
    rw [if_neg (nb p3)] at this
    exact this
end CH9D
theorem isCode_1 {p2 p3 : Int32} (h : fX8_isRight p2 ≠ 0 ∧ 16 ≤ (p2 &&& 127).toInt ∧ (p2 &&& 127).toInt ≤ 31 ∧ fX8_isRight p3 ≠ 0 ∧ 32 ≤ (p3 &&& 127).toInt) : fX8_isCode (p2 &&& 255) (p3 &&& 255) ≠ 0 := by
  unfold fX8_isCode
  rw [za_right, za_right, za_127, za_127, if_neg h.1, if_neg (by rw [zi_lt]; simp only [Int32.reduceToInt]; omega), if_neg (by rw [zi_le]; simp only [Int32.reduceToInt]; omega), if_neg h.2.2.2.1, if_neg (by rw [zi_lt]; simp only [Int32.reduceToInt]; omega)]
  decide
section CH9E
variable {T : Nat → Option Nat} {σ : mm_M} {o9 : Nat} {w : Nat → Nat → Int32}
theorem a_puts0 (ch : Int32) : (if 0 ≤ ch.toInt ∧ ch.toInt ≤ 3 then q_app w ch.toInt.toNat (a_puts (w ch.toInt.toNat) 0) else w) = w := by
  split
  · funext i; unfold q_app a_puts
    by_cases e : i = ch.toInt.toNat
    · subst e; exact if_pos rfl
    · exact if_neg e
  · rfl
theorem pX9_pair_131 (h : q_C9 o9 σ w) (C : sCI T σ) (t9 : T o9 = some 9) {f x2 x3 x4 x y x7 z : Int32} (hf : f = 0 ∨ f = 1) (hz : z = 0 ∨ z = 1) (hxx : 16 ≤ (x &&& (-9)).toInt ∧ (x &&& (-9)).toInt ≤ 23) (hy : ∃ k : Fin 128, y = Int32.ofNat k.val) : pw (fX9_pair_131 o9 f x2 x3 x4 x y x7 z (2 * f) σ) (fun R => q_C9 o9 R.2 (q_app w (2 * f + z).toInt.toNat (a_code (w (2 * f + z).toInt.toNat) (x &&& (-9)) y))) := by
  unfold fX9_pair_131
  have hj : (2 * f + z).toInt.toNat < 4 ∧ 0 ≤ (2 * f + z).toInt ∧ (2 * f + z).toInt ≤ 3 := by
    rcases hf with rfl | rfl <;> rcases hz with rfl | rfl <;> decide
  obtain ⟨q9, e9, tq9⟩ := ci_ref C t9 9 (κ' := 59) rfl
  refine pw_sh fun _ => pw_onS e9 (pw_ar fun _ _ => pw_ib fun _ _ => pw_let ?_)
  have C1 := ci_wI (j := f.toNatClampNeg) (v := 2 * f + z) C tq9 (kr_s (lo := -1) (hi := 3) rfl (by omega))
  have h1 : q_C9 o9 (mm_wI σ q9 f.toNatClampNeg (2 * f + z)) w := h.fr (K := [59]) C t9 (fr_wI fr_refl tq9 rfl) rfl
  exact pw_onP (pX9_codev (h1.ch hj.1) C1 t9 (zi_clamp _) hj.1 hj.2 hxx hy) fun s2 hh => pw_some (h1.up hh)
theorem pX9_pairv (h : q_C9 o9 σ w) (C : sCI T σ) (t9 : T o9 = some 9) {f p2 p3 : Int32} (hf : f = 0 ∨ f = 1) : pw (fX9_pair o9 f p2 p3 σ) (fun R => q_C9 o9 R.2 (a_pair w f (rdA σ o9 9 f.toNatClampNeg) (rdA σ o9 10 f.toNatClampNeg) p2 p3)) := by
  unfold fX9_pair
  have hin : fX9_in f 0 1 = 1 := by rcases hf with rfl | rfl <;> decide
  rw [hin]
  refine pw_sh fun _ => pw_onP (sX9_goes (p1 := 1) C t9 (by decide)).p fun q2 ⟨c2, f2, r2⟩ => ?_
  rw [if_neg (by rw [r2]; decide)]
  obtain ⟨q10, e10, t10⟩ := ci_ref c2 t9 10 (κ' := 60) rfl
  have h2 : q_C9 o9 q2.2 w := h.fr C t9 f2 rfl
  have c3 := ci_wI (j := f.toNatClampNeg) (v := -1) c2 t10 (kr_n rfl)
  have h3 : q_C9 o9 (mm_wI q2.2 q10 f.toNatClampNeg (-1)) w := h2.fr (K := [60]) c2 t9 (fr_wI fr_refl t10 rfl) rfl
  have k9 : rdA (mm_wI q2.2 q10 f.toNatClampNeg (-1)) o9 9 f.toNatClampNeg = rdA σ o9 9 f.toNatClampNeg := (rdA_k c2 t9 (κ' := 59) rfl t10 (by decide)).trans (rdA_fr f2 C t9 (κ' := 59) rfl rfl rfl)
  have k10 : mm_I q2.2 q10 f.toNatClampNeg = rdA σ o9 10 f.toNatClampNeg := by rw [← rdA_eq e10]; exact rdA_fr f2 C t9 (κ' := 60) rfl rfl rfl
  have e10' : mm_R (mm_wI q2.2 q10 f.toNatClampNeg (-1)) o9 10 = some q10 := e10
  refine pw_sh fun _ => pw_onS e10 (pw_ar fun _ _ => pw_ib fun _ _ => pw_onS e10 (pw_ar fun _ _ => pw_ib fun _ _ => pw_let ?_))
  rw [k10]
  generalize rdA σ o9 10 f.toNatClampNeg = bf
  generalize mm_wI q2.2 q10 f.toNatClampNeg (-1) = s3 at c3 h3 k9 e10' ⊢
  rw [← k9]
  refine pw_onS (po_isOdd p2 s3) ?_
  have hrg := zi_and p2 127 (by decide)
  have e127 : (127 : Int32).toInt = 127 := rfl
  have zero : fX8_isCode (p2 &&& 255) (p3 &&& 255) = 0 → a_n p2 p3 = 0 → q_C9 o9 s3 (a_pair w f (rdA s3 o9 9 f.toNatClampNeg) bf p2 p3) := by
    intro hc hn
    unfold a_pair
    rw [if_pos hc, hn, a_puts0]
    exact h3
  show pw (if fX8_isRight p2 = 0 then _ else _) _
  refine pw_ite (fun a => pw_some (zero ?_ ?_)) (fun a => ?_)
  · exact Decidable.byContradiction fun hc => (isCode_rg hc).1 a
  · unfold a_n; rw [if_pos a]
  refine pw_onS (po_isOdd p3 s3) ?_
  have hin2 : fX9_in (p2 &&& 127) 16 31 = 0 ↔ ¬ (16 ≤ (p2 &&& 127).toInt ∧ (p2 &&& 127).toInt ≤ 31) := zp.2.1 (p2 &&& 127) 16 31
  refine pw_ite (fun b => ?_) (fun b => ?_)
  · have hc : fX8_isCode (p2 &&& 255) (p3 &&& 255) = 0 := Decidable.byContradiction fun hc => (hin2.mp b) ⟨(isCode_rg hc).2.1, (isCode_rg hc).2.2.1⟩
    obtain ⟨q9, e9, tq9⟩ := ci_ref c3 t9 9 (κ' := 59) rfl
    have hch := ci_rg c3 tq9 f.toNatClampNeg (lo := -1) (hi := 3) rfl
    refine pw_sh fun _ => pw_onS e9 (pw_ar fun _ _ => pw_ib fun _ _ => ?_)
    unfold a_pair
    rw [if_pos hc, rdA_eq e9]
    refine pw_ite (fun d => ?_) (fun d => ?_)
    · exact pX9_letters h3 c3 t9 hch a (by rw [if_pos d])
    · exact pX9_letters h3 c3 t9 hch a (by rw [if_neg d])
  · have hr : 16 ≤ (p2 &&& 127).toInt ∧ (p2 &&& 127).toInt ≤ 31 := Decidable.byContradiction fun h => b (hin2.mpr h)
    have an0 : fX8_isCode (p2 &&& 255) (p3 &&& 255) = 0 → a_n p2 p3 = 0 := fun _ => by
      unfold a_n
      rw [if_neg a, if_pos (by rw [zi_lt]; simp only [Int32.reduceToInt]; omega), if_neg (fun e => by rw [e] at hr; exact absurd hr (by decide))]
    show pw (if fX8_isRight p3 = 0 then _ else _) _
    refine pw_ite (fun d => ?_) (fun d => ?_)
    · have hc : fX8_isCode (p2 &&& 255) (p3 &&& 255) = 0 := Decidable.byContradiction fun hc => (isCode_rg hc).2.2.2.1 d
      exact pw_some (zero hc (an0 hc))
    refine pw_ite (fun e => ?_) (fun e => ?_)
    · rw [zi_le, show (32 : Int32).toInt = 32 from rfl] at e
      have hc := isCode_1 ⟨a, hr.1, hr.2, d, e⟩
      unfold a_pair
      rw [if_neg hc]
      have emul : 128 * (p2 &&& 127) + (p3 &&& 127) = (p2 &&& 127) * 128 + (p3 &&& 127) := by rw [Int32.mul_comm]
      rw [emul]
      refine pw_ite (fun g => ?_) (fun g => ?_)
      · rw [if_pos g.symm]; exact pw_some h3
      · rw [if_neg (fun h => g h.symm)]
        refine pw_sh fun _ => pw_onS e10' (pw_ar fun _ _ => pw_ib fun _ _ => pw_let ?_)
        have c4 := ci_wI (j := f.toNatClampNeg) (v := (p2 &&& 127) * 128 + (p3 &&& 127)) c3 t10 (kr_n rfl)
        have h4 : q_C9 o9 (mm_wI s3 q10 f.toNatClampNeg ((p2 &&& 127) * 128 + (p3 &&& 127))) w := h3.fr (K := [60]) c3 t9 (fr_wI fr_refl t10 rfl) rfl
        have hb : (p2 &&& 127) &&& 8 ≤ 0 ↔ (p2 &&& 127) &&& 8 = 0 := by obtain ⟨k, hk⟩ := f128 p2; rw [hk]; exact x_b8 k
        rw [za_8] at hb ⊢
        refine pw_ite (fun i => ?_) (fun i => ?_)
        · rw [if_pos (hb.mp i)]; exact pX9_pair_131 h4 c4 t9 hf (Or.inl rfl) (x_m9' hr) (f128 p3)
        · rw [if_neg (fun h => i (hb.mpr h))]; exact pX9_pair_131 h4 c4 t9 hf (Or.inr rfl) (x_m9' hr) (f128 p3)
    · have hc : fX8_isCode (p2 &&& 255) (p3 &&& 255) = 0 := Decidable.byContradiction fun hc => by
        have := (isCode_rg hc).2.2.2.2
        rw [zi_le, show (32 : Int32).toInt = 32 from rfl] at e
        exact e this
      exact pw_some (zero hc (an0 hc))
end CH9E
