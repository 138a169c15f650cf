/-! The class's store by value: n pages, g i f = field f of the page at place i (2 magazine, 3 number, 4 subcode, 5 flags, 6 open, 7 closings, 8 headers), P i its address -/
def q_shf {α : Type} (f : Nat → α) (k : Nat) : Nat → α := fun i => if i < k then f i else f (i + 1)
def q_app {α : Type} (f : Nat → α) (n : Nat) (x : α) : Nat → α := fun i => if i = n then x else f i
def q_nm (g : Nat → Nat → Int32) (m k s : Int32) (i : Nat) : Prop := g i 2 = m ∧ g i 3 = k ∧ (s = -1 ∨ g i 4 = s)
def q_op (g : Nat → Nat → Int32) (m : Int32) (i : Nat) : Prop := g i 6 ≠ 0 ∧ g i 2 = m
def q_last (Q : Nat → Prop) (n : Nat) (r : Int32) : Prop := (r = -1 ∧ ∀ i, i < n → ¬ Q i) ∨ (0 ≤ r.toInt ∧ r.toInt < n ∧ Q r.toInt.toNat ∧ ∀ i, r.toInt.toNat < i → i < n → ¬ Q i)
def q_first (Q : Nat → Prop) (n : Nat) (r : Int32) : Prop := (r = -1 ∧ ∀ i, i < n → ¬ Q i) ∨ (0 ≤ r.toInt ∧ r.toInt < n ∧ Q r.toInt.toNat ∧ ∀ i, i < r.toInt.toNat → ¬ Q i)
theorem zi_p1 {x : Int32} (h : x.toInt < 2147483647) : (x + 1).toInt = x.toInt + 1 := by
  have := zi_rg x
  rw [zi_add]; exact zi_bm (by simp only [Int32.reduceToInt]; omega) (by simp only [Int32.reduceToInt]; omega)
theorem zi_m1 {x : Int32} (h : -2147483648 < x.toInt) : (x - 1).toInt = x.toInt - 1 := by
  have := zi_rg x
  rw [zi_sub]; exact zi_bm (by simp only [Int32.reduceToInt]; omega) (by simp only [Int32.reduceToInt]; omega)
theorem zi_pm1 {x : Int32} (h : -2147483648 < x.toInt) : (x + (-1)).toInt = x.toInt - 1 := by
  have := zi_rg x
  rw [zi_add, show (-1 : Int32).toInt = -1 from rfl, zi_bm (by omega) (by omega)]; omega
def q_S8 (st pl : Nat) (P : Nat → Nat) (σ : mm_M) (n : Nat) (g : Nat → Nat → Int32) : Prop :=
  mm_R σ st 0 = some pl ∧ (mm_I σ st 1).toInt = n ∧ n ≤ 20 ∧ (∀ i, i < n → mm_R σ pl i = some (P i)) ∧ (∀ i, i < n → ∀ f, 2 ≤ f → f ≤ 8 → mm_I σ (P i) f = g i f) ∧ (∀ i j, i < n → j < n → P i = P j → i = j)
def q_new (m k s : Int32) (f : Nat) : Int32 := if f = 2 then m else if f = 3 then k else if f = 4 then s else if 200 ≤ f ∧ f < 218 then -1 else 0
theorem rI_ne {σ : mm_M} {a p j f : Nat} {v : Int32} (h : a ≠ p) : mm_I (mm_wI σ p j v) a f = mm_I σ a f := mm_up2_ne h f
theorem q_no {K : List Nat} {z : Nat} (h : ∀ x ∈ K, x ≠ z) : K.contains z = false := by
  cases e : K.contains z with
  | false => rfl
  | true => exact absurd rfl (h z (List.contains_iff_mem.mp e))
section ST8
variable {T : Nat → Option Nat} {σ : mm_M} {st pl n : Nat} {P : Nat → Nat} {g : Nat → Nat → Int32}
theorem pX6_pageAt (h : q_S8 st pl P σ n g) (x : Int32) : pw (fX6_pageAt st x σ) (fun R => R.2 = σ ∧ ((0 ≤ x.toInt ∧ x.toInt < n ∧ R.1 = some (P x.toInt.toNat)) ∨ (¬ (0 ≤ x.toInt ∧ x.toInt < n) ∧ R.1 = none))) := by
  unfold fX6_pageAt
  have o1 : fX8_isOutside x (mm_I σ st 1) = 0 ↔ 0 ≤ x.toInt ∧ x.toInt < n := by rw [zp.1, h.2.1]
  have o2 : fX8_isOutside x 20 = 0 ↔ 0 ≤ x.toInt ∧ x.toInt < 20 := by rw [zp.1]; exact Iff.rfl
  have h20 := h.2.2.1
  refine pw_sh fun _ => pw_ite (fun a => pw_ite (fun b => pw_onS h.1 (pw_ar fun _ _ => pw_ib fun _ _ => pw_some ⟨rfl, Or.inl ⟨(o1.mp a).1, (o1.mp a).2, ?_⟩⟩)) (fun b => ?_)) (fun a => pw_some ⟨rfl, Or.inr ⟨fun h' => a (o1.mpr h'), rfl⟩⟩)
  · have := o1.mp a
    exact h.2.2.2.1 _ (by rw [zi_clamp]; omega)
  · have := o1.mp a
    exact absurd (o2.mpr ⟨this.1, by omega⟩) b
theorem pX3_hasName {p : Nat} {m k s : Int32} : pw (fX3_hasName p m k s σ) (fun R => R.2 = σ ∧ (R.1 = 0 ↔ ¬ (mm_I σ p 2 = m ∧ mm_I σ p 3 = k ∧ (s = -1 ∨ mm_I σ p 4 = s)))) := by
  unfold fX3_hasName
  refine pw_sh fun _ => pw_ite (fun a => pw_ite (fun b => pw_ite (fun d => pw_some ⟨rfl, ?_⟩) (fun d => pw_ite (fun e => pw_some ⟨rfl, ?_⟩) (fun e => pw_some ⟨rfl, ?_⟩))) (fun b => pw_some ⟨rfl, ?_⟩)) (fun a => pw_some ⟨rfl, ?_⟩)
  · exact ⟨fun h => absurd (show (1 : Int32) = 0 from h) (by decide), fun h => absurd ⟨a, b, Or.inl d⟩ h⟩
  · exact ⟨fun h => absurd (show (1 : Int32) = 0 from h) (by decide), fun h => absurd ⟨a, b, Or.inr e⟩ h⟩
  · exact ⟨fun _ h => h.2.2.elim d e, fun _ => rfl⟩
  · exact ⟨fun _ h => b h.2.1, fun _ => rfl⟩
  · exact ⟨fun _ h => a h.1, fun _ => rfl⟩
theorem q_S8.nm (h : q_S8 st pl P σ n g) {i : Nat} (hi : i < n) {m k s : Int32} : (mm_I σ (P i) 2 = m ∧ mm_I σ (P i) 3 = k ∧ (s = -1 ∨ mm_I σ (P i) 4 = s)) ↔ q_nm g m k s i := by
  unfold q_nm
  rw [h.2.2.2.2.1 i hi 2 (by omega) (by omega), h.2.2.2.2.1 i hi 3 (by omega) (by omega), h.2.2.2.2.1 i hi 4 (by omega) (by omega)]
theorem pX6_placeOf_8 (h : q_S8 st pl P σ n g) {m k s : Int32} : ∀ (u : Nat) (x : Int32), -1 ≤ x.toInt → x.toInt < n → (∀ i : Nat, x.toInt < (i : Int) → i < n → ¬ q_nm g m k s i) → pw (fX6_placeOf_8 u st m k s x σ) (fun R => R.2 = σ ∧ q_last (q_nm g m k s) n R.1) := by
  intro u
  induction u with
  | zero => intro x _ _ _; exact pw_none
  | succ u ih =>
    intro x h1 h2 h3
    unfold fX6_placeOf_8
    have e1 := zi_pm1 (x := x) (by omega)
    refine pw_ite (fun a => pw_some ⟨rfl, Or.inl ⟨rfl, fun i hi => h3 i (by rw [zi_lt] at a; simp only [Int32.reduceToInt] at a; omega) hi⟩⟩) (fun a => pw_sh fun _ => pw_onP (pX6_pageAt h x) fun q hq => ?_)
    rw [zi_lt] at a
    simp only [Int32.reduceToInt] at a
    obtain ⟨e2, hq⟩ := hq
    rw [e2]
    rcases hq with ⟨a1, a2, a3⟩ | ⟨a1, -⟩
    · rw [a3]
      show pw (mm_sh σ (P x.toInt.toNat) (.inl 3) _) _
      refine pw_sh fun _ => pw_onP pX3_hasName fun q7 h7 => ?_
      rw [h7.1]
      have hx : x.toInt.toNat < n := by omega
      refine pw_ite (fun b => ?_) (fun b => pw_some ⟨rfl, Or.inr ⟨a1, a2, ?_, fun i hi hn => h3 i (by have hi' : x.toInt.toNat < i := hi; omega) hn⟩⟩)
      · refine ih _ (by omega) (by omega) (fun i hi hn => ?_)
        by_cases hix : i = x.toInt.toNat
        · subst hix
          exact fun hh => (h7.2.mp b) ((h.nm hx).mpr hh)
        · exact h3 i (by omega) hn
      · exact (h.nm hx).mp (Decidable.byContradiction fun hh => b (h7.2.mpr hh))
    · exact absurd ⟨by omega, h2⟩ a1
theorem pX6_placeOf (h : q_S8 st pl P σ n g) {m k s : Int32} : pw (fX6_placeOf st m k s σ) (fun R => R.2 = σ ∧ q_last (q_nm g m k s) n R.1) := by
  unfold fX6_placeOf
  have h1 := h.2.1
  have h20 := h.2.2.1
  have e := zi_m1 (x := mm_I σ st 1) (by omega)
  exact pw_sh fun _ => pX6_placeOf_8 h _ _ (by omega) (by omega) (fun i hi hn => by omega)
theorem pX6_placeOfOpen_2 (h : q_S8 st pl P σ n g) {m : Int32} : ∀ (u : Nat) (x : Int32), 0 ≤ x.toInt → x.toInt ≤ n → (∀ i : Nat, (i : Int) < x.toInt → ¬ q_op g m i) → pw (fX6_placeOfOpen_2 u st m x σ) (fun R => R.2 = σ ∧ q_first (q_op g m) n R.1) := by
  intro u
  induction u with
  | zero => intro x _ _ _; exact pw_none
  | succ u ih =>
    intro x h1 h2 h3
    unfold fX6_placeOfOpen_2
    have h20 := h.2.2.1
    have e1 := zi_p1 (x := x) (by omega)
    refine pw_sh fun _ => pw_ite (fun a => pw_some ⟨rfl, Or.inl ⟨rfl, fun i hi => h3 i ?_⟩⟩) (fun a => pw_onP (pX6_pageAt h x) fun q hq => ?_)
    · rw [zi_le, h.2.1] at a; omega
    rw [zi_le, h.2.1] at a
    obtain ⟨e2, hq⟩ := hq
    rw [e2]
    rcases hq with ⟨a1, a2, a3⟩ | ⟨a1, -⟩
    · rw [a3]
      have hx : x.toInt.toNat < n := by omega
      show pw (mm_sh σ (P x.toInt.toNat) (.inl 3) _) _
      have e6 : mm_I σ (P x.toInt.toNat) 6 = g x.toInt.toNat 6 := h.2.2.2.2.1 _ hx 6 (by omega) (by omega)
      have e2' : mm_I σ (P x.toInt.toNat) 2 = g x.toInt.toNat 2 := h.2.2.2.2.1 _ hx 2 (by omega) (by omega)
      rw [e6, e2']
      have step : ¬ q_op g m x.toInt.toNat → pw (fX6_placeOfOpen_2 u st m (x + 1) σ) (fun R => R.2 = σ ∧ q_first (q_op g m) n R.1) := by
        intro hno
        refine ih _ (by omega) (by omega) (fun i hi => ?_)
        by_cases hix : i = x.toInt.toNat
        · subst hix; exact hno
        · exact h3 i (by omega)
      refine pw_sh fun _ => pw_ite (fun b => step (fun hh => hh.1 b)) (fun b => pw_ite (fun d => pw_some ⟨rfl, Or.inr ⟨a1, a2, ⟨b, d⟩, fun i hi => h3 i (by have hi' : i < x.toInt.toNat := hi; omega)⟩⟩) (fun d => step (fun hh => d hh.2)))
    · exact absurd ⟨by omega, by omega⟩ a1
theorem pX6_placeOfOpen (h : q_S8 st pl P σ n g) {m : Int32} : pw (fX6_placeOfOpen st m σ) (fun R => R.2 = σ ∧ q_first (q_op g m) n R.1) :=
  pX6_placeOfOpen_2 h _ _ (by decide) (by show (0 : Int) ≤ n; omega) (fun i hi => by have : (0 : Int32).toInt = 0 := rfl; omega)
/-- what shows of a memory apart from its size -/
theorem pX6_takeOut_14 (hst : st ≠ pl) {k : Nat} {x1 : Int32} (hn : n ≤ 20) : ∀ (u : Nat) (x : Int32) (j : Nat) (σ : mm_M), x.toInt = j → k ≤ j → j < n → mm_R σ st 0 = some pl → (mm_I σ st 1).toInt = n → (∀ i, i < n → mm_R σ pl i = some (if k ≤ i ∧ i < j then P (i + 1) else P i)) → pw (fX6_takeOut_14 u st x1 x σ) (fun R => mm_R R st 0 = some pl ∧ (mm_I R st 1).toInt = (n : Int) - 1 ∧ (∀ i, i + 1 < n → mm_R R pl i = some (q_shf P k i)) ∧ (∀ a f, a ≠ st → mm_I R a f = mm_I σ a f) ∧ (∀ a f, a ≠ pl → mm_R R a f = mm_R σ a f)) := by
  intro u
  induction u with
  | zero => intros; exact pw_none
  | succ u ih =>
    intro x j σ hx hk hj e0 e1 hP
    unfold fX6_takeOut_14
    have ex := zi_p1 (x := x) (by omega)
    have em := zi_m1 (x := mm_I σ st 1) (by omega)
    refine pw_sh fun _ => pw_ite (fun a => pw_let (pw_some ?_)) (fun a => pw_ite (fun b => ?_) (fun b => pw_onS e0 (pw_ar fun _ _ => pw_ib fun _ _ => pw_on fun q eq => pw_ib fun _ _ => pw_sh fun _ => pw_let ?_)))
    · rw [zi_le, e1] at a
      refine ⟨e0, ?_, fun i hi => ?_, fun a f ha => mm_up2_ne ha f, fun a f _ => rfl⟩
      · show (mm_up2 σ.2.2.1 st 1 (mm_I σ st 1 - 1) st 1).toInt = _
        rw [mm_up2_self]; omega
      · show mm_R σ pl i = _
        rw [hP i (by omega)]
        unfold q_shf
        by_cases h : i < k
        · rw [if_neg (by omega), if_pos h]
        · rw [if_pos (by omega), if_neg h]
    · exfalso
      rw [zi_le, e1] at a
      rw [zi_le] at b
      simp only [Int32.reduceToInt] at b
      omega
    · rw [zi_le, e1] at a
      rw [zi_clamp, show (x + 1).toInt.toNat = j + 1 by omega, hP (j + 1) (by omega), if_neg (by omega)] at eq
      have eq' : P (j + 1) = q := Option.some.inj eq
      subst eq'
      have ecl : x.toNatClampNeg = j := by rw [zi_clamp]; omega
      rw [ecl]
      refine (ih (x + 1) (j + 1) (mm_wR σ pl j (some (P (j + 1)))) (by omega) (by omega) (by omega) ((mm_up2_ne hst 0).trans e0) e1 (fun i hi => ?_)).mono (fun R h => ⟨h.1, h.2.1, h.2.2.1, h.2.2.2.1, fun a f ha => (h.2.2.2.2 a f ha).trans (mm_up2_ne ha f)⟩)
      show mm_up2 σ.2.2.2.1 pl j (some (P (j + 1))) pl i = _
      by_cases hij : i = j
      · subst hij
        rw [mm_up2_self, if_pos (by omega)]
      · rw [mm_up2_nk _ hij, show σ.2.2.2.1 pl i = _ from hP i hi]
        by_cases h : k ≤ i ∧ i < j
        · rw [if_pos h, if_pos (by omega)]
        · rw [if_neg h, if_neg (by omega)]
theorem pX6_takeOut (h : q_S8 st pl P σ n g) (hne : ∀ i, i < n → P i ≠ st) (hst : st ≠ pl) {x : Int32} {k : Nat} (hx : x.toInt = k) (hk : k < n) : pw (fX6_takeOut st x σ) (fun R => q_S8 st pl (q_shf P k) R (n - 1) (q_shf g k) ∧ (∀ a f, a ≠ st → mm_I R a f = mm_I σ a f) ∧ (∀ a f, a ≠ pl → mm_R R a f = mm_R σ a f)) := by
  unfold fX6_takeOut
  refine pw_sh fun _ => pw_ite (fun _ => ?_) (fun a => absurd ((zp.1 _ _).mpr ⟨by omega, by rw [h.2.1]; omega⟩) a)
  refine (pX6_takeOut_14 (P := P) (k := k) hst h.2.2.1 _ x k σ hx (Nat.le_refl _) hk h.1 h.2.1 (fun i hi => by rw [if_neg (by omega)]; exact h.2.2.2.1 i hi)).mono (fun R hR => ?_)
  obtain ⟨r1, r2, r3, r4, r5⟩ := hR
  have h20 := h.2.2.1
  refine ⟨⟨r1, by omega, by omega, fun i hi => r3 i (by omega), fun i hi f f1 f2 => ?_, fun i j hi hj he => ?_⟩, r4, r5⟩
  · unfold q_shf
    by_cases c : i < k
    · rw [if_pos c, if_pos c, r4 _ _ (hne i (by omega))]; exact h.2.2.2.2.1 i (by omega) f f1 f2
    · rw [if_neg c, if_neg c, r4 _ _ (hne (i + 1) (by omega))]; exact h.2.2.2.2.1 (i + 1) (by omega) f f1 f2
  · unfold q_shf at he
    have inj := h.2.2.2.2.2
    by_cases c : i < k <;> by_cases d : j < k
    · rw [if_pos c, if_pos d] at he; exact inj i j (by omega) (by omega) he
    · rw [if_pos c, if_neg d] at he; have := inj i (j + 1) (by omega) (by omega) he; omega
    · rw [if_neg c, if_pos d] at he; have := inj (i + 1) j (by omega) (by omega) he; omega
    · rw [if_neg c, if_neg d] at he; have := inj (i + 1) (j + 1) (by omega) (by omega) he; omega
theorem pX6_addBehind (h : q_S8 st pl P σ n g) (hne : ∀ i, i < n → P i ≠ st) (hst : st ≠ pl) {p : Nat} (hp : p ≠ st) (hn : n < 20) (hf : ∀ i, i < n → P i ≠ p) : pw (fX6_addBehind st p σ) (fun R => q_S8 st pl (q_app P n p) R (n + 1) (q_app g n (mm_I σ p)) ∧ (∀ a f, a ≠ st → mm_I R a f = mm_I σ a f) ∧ (∀ a f, a ≠ pl → mm_R R a f = mm_R σ a f)) := by
  unfold fX6_addBehind
  have h1 := h.2.1
  have e1 := zi_p1 (x := mm_I σ st 1) (by omega)
  refine pw_sh fun _ => pw_ite (fun a => ?_) (fun a => pw_onS h.1 (pw_ar fun _ _ => pw_ib fun _ _ => pw_sh fun _ => pw_let (pw_let (pw_some ?_))))
  · exfalso
    rw [zi_le, h1] at a
    simp only [Int32.reduceToInt] at a
    omega
  · have ecl : (mm_I σ st 1).toNatClampNeg = n := by rw [zi_clamp]; omega
    rw [ecl]
    refine ⟨⟨(mm_up2_ne hst 0).trans h.1, ?_, by omega, fun i hi => ?_, fun i hi f f1 f2 => ?_, fun i j hi hj he => ?_⟩, fun a f ha => mm_up2_ne ha f, fun a f ha => mm_up2_ne ha f⟩
    · show (mm_up2 σ.2.2.1 st 1 (mm_I σ st 1 + 1) st 1).toInt = _
      rw [mm_up2_self]; omega
    · show mm_up2 σ.2.2.2.1 pl n (some p) pl i = _
      unfold q_app
      by_cases c : i = n
      · subst c; rw [mm_up2_self, if_pos rfl]
      · rw [mm_up2_nk _ c, if_neg c]; exact h.2.2.2.1 i (by omega)
    · show mm_up2 σ.2.2.1 st 1 (mm_I σ st 1 + 1) (q_app P n p i) f = _
      unfold q_app
      by_cases c : i = n
      · rw [if_pos c, if_pos c, mm_up2_ne hp]
      · rw [if_neg c, if_neg c, mm_up2_ne (hne i (by omega))]; exact h.2.2.2.2.1 i (by omega) f f1 f2
    · unfold q_app at he
      by_cases c : i = n <;> by_cases d : j = n
      · omega
      · rw [if_pos c, if_neg d] at he; exact absurd he.symm (hf j (by omega))
      · rw [if_neg c, if_pos d] at he; exact absurd he (hf i (by omega))
      · rw [if_neg c, if_neg d] at he; exact h.2.2.2.2.2 i j (by omega) (by omega) he
theorem pX3_become {p : Nat} (c : sCI T σ) (t : T p = some 3) {m k s : Int32} : pw (fX3_become p m k s σ) (fun R => (∀ f, 2 ≤ f → f ≤ 8 → mm_I R p f = q_new m k s f) ∧ (∀ a κ, T a = some κ → a ≠ p → κ < 22 ∨ 24 < κ → ∀ f, mm_I R a f = mm_I σ a f) ∧ (∀ a κ, T a = some κ → κ < 22 ∨ 24 < κ → ∀ f, mm_R R a f = mm_R σ a f)) := by
  unfold fX3_become
  refine pw_sh fun _ => pw_let (pw_let (pw_let (pw_let (pw_let (pw_let (pw_let ?_))))))
  have c1 := ci_wI (j := 2) (v := m) c t (kr_n rfl)
  have c2 := ci_wI (j := 3) (v := k) c1 t (kr_n rfl)
  have c3 := ci_wI (j := 4) (v := s) c2 t (kr_n rfl)
  have c4 := ci_wI (j := 5) (v := 0) c3 t (kr_n rfl)
  have c5 := ci_wI (j := 6) (v := 0) c4 t (kr_n rfl)
  have c6 := ci_wI (j := 7) (v := 0) c5 t (kr_n rfl)
  have c7 := ci_wI (j := 8) (v := 0) c6 t (kr_n rfl)
  obtain ⟨tx, etx, ttx⟩ := ci_ref c7 t 0 (κ' := 4) rfl
  refine pw_onS etx (pw_sh fun _ => ?_)
  have hv : ∀ f, 2 ≤ f → f ≤ 8 → mm_I (mm_wI (mm_wI (mm_wI (mm_wI (mm_wI (mm_wI (mm_wI σ p 2 m) p 3 k) p 4 s) p 5 0) p 6 0) p 7 0) p 8 0) p f = q_new m k s f := by
    intro f f1 f2
    show mm_up2 _ p 8 0 p f = _
    have hf : f = 2 ∨ f = 3 ∨ f = 4 ∨ f = 5 ∨ f = 6 ∨ f = 7 ∨ f = 8 := by omega
    rcases hf with rfl | rfl | rfl | rfl | rfl | rfl | rfl <;> simp [mm_wI, mm_up2, q_new]
  have ho : ∀ a f, a ≠ p → mm_I (mm_wI (mm_wI (mm_wI (mm_wI (mm_wI (mm_wI (mm_wI σ p 2 m) p 3 k) p 4 s) p 5 0) p 6 0) p 7 0) p 8 0) a f = mm_I σ a f := by
    intro a f ha
    rw [rI_ne ha, rI_ne ha, rI_ne ha, rI_ne ha, rI_ne ha, rI_ne ha, rI_ne ha]
  refine pw_onP (sX4_eraseRows (p1 := 0) c7 ttx (by decide)).p fun s9 ⟨c9, f9, _⟩ => pw_sh fun _ => ?_
  refine pw_onP (sX3_eraseLinks c9 t).p fun s10 ⟨c10, f10, _⟩ => pw_some ?_
  have no : ∀ κ j, κ < 22 ∨ 24 < κ → List.contains KX4_eraseRows (kcode κ j) = false ∧ List.contains KX3_eraseLinks (kcode κ j) = false := by
    intro κ j hk
    have : kcode κ j < 22 ∨ 24 < kcode κ j := by unfold kcode; split <;> (try split) <;> omega
    generalize kcode κ j = z at this
    refine ⟨q_no fun x hx => ?_, q_no fun x hx => ?_⟩
    · simp only [KX4_eraseRows, List.mem_cons, List.not_mem_nil, or_false] at hx; omega
    · simp only [KX3_eraseLinks, List.mem_cons, List.not_mem_nil, or_false] at hx; omega
  refine ⟨fun f f1 f2 => ?_, fun a κ ta ha hk f => ?_, fun a κ ta hk f => ?_⟩
  · rw [(f10.2.2 p 3 t f rfl).1, (f9.2.2 p 3 t f rfl).1]; exact hv f f1 f2
  · rw [(f10.2.2 a κ ta f (no κ f hk).2).1, (f9.2.2 a κ ta f (no κ f hk).1).1]; exact ho a f ha
  · rw [(f10.2.2 a κ ta f (no κ f hk).2).2, (f9.2.2 a κ ta f (no κ f hk).1).2]; rfl
/-- the store behind bringToEnd -/
def q_bn (n : Nat) (g : Nat → Nat → Int32) (P : Nat → Nat) (m k s : Int32) (n' : Nat) (g' : Nat → Nat → Int32) (P' : Nat → Nat) : Prop :=
  (∃ j, j < n ∧ q_nm g m k s j ∧ n' = n ∧ g' = q_app (q_shf g j) (n - 1) (g j) ∧ P' = q_app (q_shf P j) (n - 1) (P j)) ∨
  ((∀ i, i < n → ¬ q_nm g m k s i) ∧ n < 20 ∧ n' = n + 1 ∧ g' = q_app g n (q_new m k s) ∧ ∃ p, P' = q_app P n p) ∨
  ((∀ i, i < n → ¬ q_nm g m k s i) ∧ n = 20 ∧ n' = 20 ∧ g' = q_app (q_shf g 0) 19 (q_new m k s) ∧ ∃ p, P' = q_app (q_shf P 0) 19 p)
theorem q_S8.cg {g' : Nat → Nat → Int32} (h : q_S8 st pl P σ n g) (e : ∀ i f, i < n → 2 ≤ f → f ≤ 8 → g i f = g' i f) : q_S8 st pl P σ n g' :=
  ⟨h.1, h.2.1, h.2.2.1, h.2.2.2.1, fun i hi f f1 f2 => (h.2.2.2.2.1 i hi f f1 f2).trans (e i f hi f1 f2), h.2.2.2.2.2⟩
theorem q_S8.same {σ' : mm_M} (h : q_S8 st pl P σ n g) (h1 : mm_R σ' st 0 = mm_R σ st 0) (h2 : mm_I σ' st 1 = mm_I σ st 1) (h3 : ∀ i, i < n → mm_R σ' pl i = mm_R σ pl i) (h4 : ∀ i, i < n → ∀ f, mm_I σ' (P i) f = mm_I σ (P i) f) : q_S8 st pl P σ' n g :=
  ⟨h1.trans h.1, (congrArg Int32.toInt h2).trans h.2.1, h.2.2.1, fun i hi => (h3 i hi).trans (h.2.2.2.1 i hi), fun i hi f f1 f2 => (h4 i hi f).trans (h.2.2.2.2.1 i hi f f1 f2), h.2.2.2.2.2⟩
theorem q_S8.fr {K : List Nat} {σ' : mm_M} (h : q_S8 st pl P σ n g) (c : sCI T σ) (ts : T st = some 6) (f : sFR T K σ σ') (h3 : K.contains 3 = false) (h6 : K.contains 6 = false) (h25 : K.contains 25 = false) : q_S8 st pl P σ' n g := by
  obtain ⟨q, e, tq⟩ := ci_ref c ts 0 (κ' := 25) rfl
  have : q = pl := Option.some.inj (e.symm.trans h.1)
  subst this
  exact h.same (f.2.2 st 6 ts 0 h6).2 (f.2.2 st 6 ts 1 h6).1 (fun i hi => (f.2.2 q 25 tq i h25).2) (fun i hi j => (f.2.2 (P i) 3 (ci_nul c tq rfl (h.2.2.2.1 i hi)) j h3).1)
theorem q_S8.tp (h : q_S8 st pl P σ n g) (c : sCI T σ) (ts : T st = some 6) : T pl = some 25 ∧ ∀ i, i < n → T (P i) = some 3 := by
  obtain ⟨q, e, tq⟩ := ci_ref c ts 0 (κ' := 25) rfl
  have : q = pl := Option.some.inj (e.symm.trans h.1)
  subst this
  exact ⟨tq, fun i hi => ci_nul c tq rfl (h.2.2.2.1 i hi)⟩
theorem q_nek {a b κ κ' : Nat} (h : T a = some κ) (h' : T b = some κ') (hn : κ ≠ κ') : a ≠ b := fun e => by
  subst e; rw [h] at h'; exact hn (Option.some.inj h')
theorem pX6_bring_83 (h : q_S8 st pl P σ n g) (c : sCI T σ) (ts : T st = some 6) {p : Nat} (tp : T p = some 3) (hn : n < 20) (hf : ∀ i, i < n → P i ≠ p) {x1 x2 x3 x4 x5 : Int32} : pw (fX6_bringToEnd_83 st x1 x2 x3 x4 x5 (some p) σ) (fun R => R.1 = some p ∧ q_S8 st pl (q_app P n p) R.2 (n + 1) (q_app g n (mm_I σ p)) ∧ (∀ a f, a ≠ st → mm_I R.2 a f = mm_I σ a f) ∧ (∀ a f, a ≠ pl → mm_R R.2 a f = mm_R σ a f)) := by
  unfold fX6_bringToEnd_83
  obtain ⟨tpl, tP⟩ := h.tp c ts
  refine pw_onS rfl (pw_sh fun _ => pw_onP (pX6_addBehind h (fun i hi => q_nek (tP i hi) ts (by decide)) (q_nek ts tpl (by decide)) (q_nek tp ts (by decide)) hn hf) fun q hq => pw_some ⟨rfl, hq⟩)
theorem pX6_bring_70n (h : q_S8 st pl P σ n g) (c : sCI T σ) (ts : T st = some 6) {p : Nat} (tp : T p = some 3) (hn : n < 20) (hf : ∀ i, i < n → P i ≠ p) {m k s x4 : Int32} : pw (fX6_bringToEnd_70 st m k s x4 0 (some p) σ) (fun R => R.1 = some p ∧ q_S8 st pl (q_app P n p) R.2 (n + 1) (q_app g n (q_new m k s))) := by
  unfold fX6_bringToEnd_70
  obtain ⟨tpl, tP⟩ := h.tp c ts
  rw [if_pos rfl]
  refine pw_onS rfl (pw_sh fun _ => ?_)
  refine pw_onP (fun y e => And.intro ((sX3_become c tp).p y e) (pX3_become c tp y e)) fun s2 hh => ?_
  obtain ⟨⟨c2, f2, -⟩, b1, b2, b3⟩ := hh
  have h2 : q_S8 st pl P s2 n g := h.same (b3 st 6 ts (by omega) 0) (b2 st 6 ts (q_nek ts tp (by decide)) (by omega) 1) (fun i hi => b3 pl 25 tpl (by omega) i) (fun i hi f => b2 (P i) 3 (tP i hi) (hf i hi) (by omega) f)
  refine (pX6_bring_83 h2 c2 ts tp hn hf).mono (fun R hR => ⟨hR.1, hR.2.1.cg fun i f hi f1 f2 => ?_⟩)
  unfold q_app
  by_cases e : i = n
  · rw [if_pos e, if_pos e]; exact b1 f f1 f2
  · rw [if_neg e, if_neg e]
theorem q_appl {α : Type} {f : Nat → α} {n : Nat} {x : α} : q_app f n x n = x := if_pos rfl
theorem pX6_bring_known (h : q_S8 st pl P σ n g) (c : sCI T σ) (ts : T st = some 6) (hpn : pn σ st) {m k s x4 : Int32} {j : Nat} (hx : x4.toInt = j) (hj : j < n) : pw (fX6_bringToEnd_39 st m k s x4 1 σ) (fun R => R.1 = some (P j) ∧ q_S8 st pl (q_app (q_shf P j) (n - 1) (P j)) R.2 n (q_app (q_shf g j) (n - 1) (g j))) := by
  unfold fX6_bringToEnd_39
  obtain ⟨tpl, tP⟩ := h.tp c ts
  refine pw_sh fun _ => pw_onP (pX6_pageAt h x4) fun q hq => ?_
  obtain ⟨e2, hq⟩ := hq
  rw [e2]
  rcases hq with ⟨a1, a2, a3⟩ | ⟨a1, -⟩
  · rw [a3, show x4.toInt.toNat = j by omega]
    show pw (mm_sh σ st (.inl 6) _) _
    refine pw_sh fun _ => ?_
    have hne : ∀ i, i < n → P i ≠ st := fun i hi => q_nek (tP i hi) ts (by decide)
    refine pw_onP (fun y e => And.intro ((sX6_takeOut c ts hpn).p y e) (pX6_takeOut h hne (q_nek ts tpl (by decide)) hx hj y e)) fun s2 hh => ?_
    obtain ⟨⟨c2, f2, -⟩, h2, r4, r5⟩ := hh
    unfold fX6_bringToEnd_70
    rw [if_neg (by decide)]
    refine (pX6_bring_83 h2 c2 ts (tP j hj) (by have := h.2.2.1; omega) (fun i hi e => ?_)).mono (fun R hR => ⟨hR.1, ?_⟩)
    · unfold q_shf at e
      by_cases d : i < j
      · rw [if_pos d] at e; have := h.2.2.2.2.2 i j (by omega) hj e; omega
      · rw [if_neg d] at e; have := h.2.2.2.2.2 (i + 1) j (by omega) hj e; omega
    · have h3 := hR.2.1
      rw [show n - 1 + 1 = n by omega] at h3
      refine h3.cg fun i f hi f1 f2 => ?_
      unfold q_app
      by_cases e : i = n - 1
      · rw [if_pos e, if_pos e, r4 _ _ (hne j hj)]; exact h.2.2.2.2.1 j hj f f1 f2
      · rw [if_neg e, if_neg e]
  · exact absurd ⟨by omega, by omega⟩ a1
theorem pX6_bring_new (h : q_S8 st pl P σ n g) (c : sCI T σ) (ts : T st = some 6) {m k s x4 : Int32} (hx : x4 = -1) (hn : n < 20) : pw (fX6_bringToEnd_39 st m k s x4 0 σ) (fun R => ∃ p, R.1 = some p ∧ q_S8 st pl (q_app P n p) R.2 (n + 1) (q_app g n (q_new m k s))) := by
  unfold fX6_bringToEnd_39
  obtain ⟨tpl, tP⟩ := h.tp c ts
  refine pw_sh fun _ => pw_onP (pX6_pageAt h x4) fun q hq => ?_
  obtain ⟨e2, hq⟩ := hq
  rw [e2]
  have hm : x4.toInt = -1 := by rw [hx]; rfl
  rcases hq with ⟨a1, a2, a3⟩ | ⟨-, a1⟩
  · omega
  · rw [a1]
    refine pw_nu (fun _ => ?_) (fun q e => by cases e)
    refine pw_let (pw_onP (sw_newPage c).p fun s2 hh => ?_)
    obtain ⟨T', tx, c2, f2, t2⟩ := hh
    have h2 : q_S8 st pl P s2 n g := h.fr c ts f2 rfl rfl rfl
    exact (pX6_bring_70n h2 c2 (tx _ _ ts) t2 hn (fun i hi e => by have := c.2.2.2.2 (P i) 3 (tP i hi); omega)).mono (fun R hR => ⟨_, hR⟩)
theorem pX6_bring_full (h : q_S8 st pl P σ n g) (c : sCI T σ) (ts : T st = some 6) (hpn : pn σ st) {m k s : Int32} (hn : n = 20) : pw (fX6_bringToEnd_39 st m k s 0 0 σ) (fun R => R.1 = some (P 0) ∧ q_S8 st pl (q_app (q_shf P 0) 19 (P 0)) R.2 20 (q_app (q_shf g 0) 19 (q_new m k s))) := by
  unfold fX6_bringToEnd_39
  obtain ⟨tpl, tP⟩ := h.tp c ts
  refine pw_sh fun _ => pw_onP (pX6_pageAt h 0) fun q hq => ?_
  obtain ⟨e2, hq⟩ := hq
  rw [e2]
  have hz : (0 : Int32).toInt = 0 := rfl
  rcases hq with ⟨a1, a2, a3⟩ | ⟨a1, -⟩
  · rw [a3, show (0 : Int32).toInt.toNat = 0 from rfl]
    show pw (mm_sh σ st (.inl 6) _) _
    refine pw_sh fun _ => ?_
    have hne : ∀ i, i < n → P i ≠ st := fun i hi => q_nek (tP i hi) ts (by decide)
    refine pw_onP (fun y e => And.intro ((sX6_takeOut c ts hpn).p y e) (pX6_takeOut h hne (q_nek ts tpl (by decide)) (k := 0) rfl (by omega) y e)) fun s2 hh => ?_
    obtain ⟨⟨c2, f2, -⟩, h2, r4, r5⟩ := hh
    subst hn
    refine (pX6_bring_70n h2 c2 ts (tP 0 (by omega)) (by omega) (fun i hi e => ?_))
    unfold q_shf at e
    rw [if_neg (by omega)] at e
    have := h.2.2.2.2.2 (i + 1) 0 (by omega) (by omega) e
    omega
  · exact absurd ⟨by omega, by omega⟩ a1
theorem pX6_bringToEnd (h : q_S8 st pl P σ n g) (c : sCI T σ) (ts : T st = some 6) (hpn : pn σ st) {m k s : Int32} : pw (fX6_bringToEnd st m k s σ) (fun R => ∃ n' g' P', 1 ≤ n' ∧ R.1 = some (P' (n' - 1)) ∧ q_S8 st pl P' R.2 n' g' ∧ q_bn n g P m k s n' g' P') := by
  unfold fX6_bringToEnd
  have h20 := h.2.2.1
  refine pw_sh fun _ => pw_onP (pX6_placeOf h) fun q hq => ?_
  obtain ⟨e2, hq⟩ := hq
  rw [e2]
  unfold fX6_bringToEnd_20
  rcases hq with ⟨a1, a2⟩ | ⟨a1, a2, a3, -⟩
  · rw [if_pos a1, if_pos rfl]
    refine pw_sh fun _ => pw_ite (fun b => ?_) (fun b => ?_)
    · have hn : n = 20 := by have := h.2.1; rw [b] at this; have hz : (20 : Int32).toInt = 20 := rfl; omega
      refine (pX6_bring_full h c ts hpn hn).mono (fun R hR => ⟨20, _, _, by omega, ?_, hR.2, Or.inr (Or.inr ⟨a2, hn, rfl, rfl, _, rfl⟩)⟩)
      rw [q_appl]; exact hR.1
    · have hn : n ≠ 20 := fun e => b (by rw [zi_eq, h.2.1, e]; rfl)
      refine (pX6_bring_new h c ts a1 (by omega)).mono (fun R hR => ?_)
      obtain ⟨p, r1, r2⟩ := hR
      refine ⟨n + 1, _, _, by omega, ?_, r2, Or.inr (Or.inl ⟨a2, by omega, rfl, rfl, p, rfl⟩)⟩
      rw [Nat.add_sub_cancel, q_appl]; exact r1
  · have hm : q.1 ≠ -1 := fun e => by rw [e] at a1; exact absurd a1 (by decide)
    rw [if_neg hm, if_neg (by decide)]
    refine (pX6_bring_known h c ts hpn (j := q.1.toInt.toNat) (by omega) (by omega)).mono (fun R hR => ⟨n, _, _, by omega, ?_, hR.2, Or.inl ⟨q.1.toInt.toNat, by omega, a3, rfl, rfl, rfl⟩⟩)
    rw [q_appl]; exact hR.1
end ST8
/-! The class's header, rows and packet by value -/
def q_cl (g : Nat → Nat → Int32) (m : Int32) : Nat → Nat → Int32 := fun i f => if g i 6 ≠ 0 ∧ g i 2 = m then (if f = 6 then 0 else if f = 7 then g i 7 + 1 else g i f) else g i f
/-- the magazines below x have been gone through -/
def q_clx (g : Nat → Nat → Int32) (b : Bool) (m : Int32) (x : Int) : Nat → Nat → Int32 := fun i f => if g i 6 ≠ 0 ∧ 1 ≤ (g i 2).toInt ∧ (g i 2).toInt < x ∧ (b = true ∨ g i 2 = m) then (if f = 6 then 0 else if f = 7 then g i 7 + 1 else g i f) else g i f
def q_opn (g : Nat → Nat → Int32) (j : Nat) (fl : Int32) : Nat → Nat → Int32 := fun i f => if i = j then (if f = 6 then 1 else if f = 8 then g i 8 + 1 else if f = 5 then fl else g i f) else g i f
def q_fl (v3 v5 v7 : Int32) : Int32 := (((if v3 &&& 8 = 0 then 0 else 1) + (if v5 &&& 4 = 0 then 0 else 2)) + (if v5 &&& 8 = 0 then 0 else 4)) + (if v7 &&& 1 = 0 then 0 else 8)
def q_hdr (n : Nat) (g : Nat → Nat → Int32) (P : Nat → Nat) (b : Bool) (m : Int32) (w : Nat → Int32) (n' : Nat) (g' : Nat → Nat → Int32) (P' : Nat → Nat) : Prop :=
  (16 * w 1 + w 0 = 255 ∧ n' = n ∧ g' = q_clx g b m 9 ∧ P' = P) ∨
  (16 * w 1 + w 0 ≠ 255 ∧ ∃ g2, q_bn n (q_clx g b m 9) P m (16 * w 1 + w 0) (fX8_subcodeOf (w 2) (w 3) (w 4) (w 5)) n' g2 P' ∧ g' = q_opn g2 (n' - 1) (q_fl (w 3) (w 5) (w 7)))
/-- at most one page of a magazine is open -/
def q_ou (n : Nat) (g : Nat → Nat → Int32) : Prop := ∀ i j, i < n → j < n → g i 6 ≠ 0 → g j 6 ≠ 0 → g i 2 = g j 2 → i = j
theorem q_clx2 {g : Nat → Nat → Int32} {b : Bool} {m : Int32} {x : Int} {i : Nat} : q_clx g b m x i 2 = g i 2 := by
  unfold q_clx; split
  · rfl
  · rfl
theorem q_clx6 {g : Nat → Nat → Int32} {b : Bool} {m : Int32} {x : Int} {i : Nat} : q_clx g b m x i 6 ≠ 0 ↔ g i 6 ≠ 0 ∧ ¬ (1 ≤ (g i 2).toInt ∧ (g i 2).toInt < x ∧ (b = true ∨ g i 2 = m)) := by
  unfold q_clx
  by_cases h : g i 6 ≠ 0 ∧ 1 ≤ (g i 2).toInt ∧ (g i 2).toInt < x ∧ (b = true ∨ g i 2 = m)
  · rw [if_pos h, if_pos rfl]
    exact ⟨fun h' => absurd rfl h', fun h' => absurd h.2 h'.2⟩
  · rw [if_neg h]
    exact ⟨fun h' => ⟨h', fun h2 => h ⟨h', h2⟩⟩, fun h' => h'.1⟩
theorem q_ou.clx {n : Nat} {g : Nat → Nat → Int32} (h : q_ou n g) (b : Bool) (m : Int32) (x : Int) : q_ou n (q_clx g b m x) := fun i j hi hj h1 h2 h3 => by
  rw [q_clx2, q_clx2] at h3
  exact h i j hi hj (q_clx6.mp h1).1 (q_clx6.mp h2).1 h3
theorem q_clx_1 (g : Nat → Nat → Int32) (b : Bool) (m : Int32) : q_clx g b m 1 = g := by
  funext i f
  unfold q_clx
  rw [if_neg (fun h => by omega)]
theorem q_clx_no {g : Nat → Nat → Int32} {b : Bool} {m x : Int32} (hb : b = false) (hx : x ≠ m) : q_clx g b m (x.toInt + 1) = q_clx g b m x.toInt := by
  funext i f
  unfold q_clx
  by_cases h : g i 6 ≠ 0 ∧ 1 ≤ (g i 2).toInt ∧ (g i 2).toInt < x.toInt ∧ (b = true ∨ g i 2 = m)
  · rw [if_pos h, if_pos ⟨h.1, h.2.1, by omega, h.2.2.2⟩]
  · rw [if_neg h, if_neg]
    intro h2
    refine h ⟨h2.1, h2.2.1, ?_, h2.2.2.2⟩
    rcases h2.2.2.2 with h3 | h3
    · rw [hb] at h3; cases h3
    · have : (g i 2).toInt ≠ x.toInt := fun e => hx (by rw [← h3, zi_eq, e])
      omega
theorem q_clx_yes {g : Nat → Nat → Int32} {b : Bool} {m x : Int32} (hx : 1 ≤ x.toInt) (hb : b = true ∨ x = m) : q_clx g b m (x.toInt + 1) = q_cl (q_clx g b m x.toInt) x := by
  funext i f
  by_cases he : g i 2 = x
  · by_cases h6 : g i 6 ≠ 0
    · have hn : ¬ (g i 6 ≠ 0 ∧ 1 ≤ (g i 2).toInt ∧ (g i 2).toInt < x.toInt ∧ (b = true ∨ g i 2 = m)) := fun h => by rw [he] at h; omega
      have hs : ∀ f, q_clx g b m x.toInt i f = g i f := fun f => by unfold q_clx; rw [if_neg hn]
      unfold q_cl
      rw [hs, hs, hs, hs, if_pos ⟨h6, he⟩]
      unfold q_clx
      rw [if_pos ⟨h6, by rw [he]; exact hx, by rw [he]; omega, by rw [he]; exact hb⟩]
    · have hs : ∀ f z, q_clx g b m z i f = g i f := fun f z => by unfold q_clx; rw [if_neg (fun h => h6 h.1)]
      unfold q_cl
      rw [hs, hs, hs, hs, hs, if_neg (fun h => h6 h.1)]
  · have hs : ∀ f, q_clx g b m (x.toInt + 1) i f = q_clx g b m x.toInt i f := by
      intro f
      unfold q_clx
      by_cases h : g i 6 ≠ 0 ∧ 1 ≤ (g i 2).toInt ∧ (g i 2).toInt < x.toInt ∧ (b = true ∨ g i 2 = m)
      · rw [if_pos h, if_pos ⟨h.1, h.2.1, by omega, h.2.2.2⟩]
      · rw [if_neg h, if_neg]
        intro h2
        have : (g i 2).toInt ≠ x.toInt := fun e => he (by rw [zi_eq, e])
        exact h ⟨h2.1, h2.2.1, by omega, h2.2.2.2⟩
    rw [hs]
    unfold q_cl
    rw [if_neg (fun h => he (by have := h.2; rwa [q_clx2] at this))]
section ST17
variable {T : Nat → Option Nat} {σ : mm_M} {o8 st pl n : Nat} {P : Nat → Nat} {g : Nat → Nat → Int32}
theorem pX8_closePage (h : q_S8 st pl P σ n g) (e7 : mm_R σ o8 7 = some st) (c : sCI T σ) (t8 : T o8 = some 8) (ts : T st = some 6) (hu : q_ou n g) {m : Int32} : pw (fX8_closePage o8 m σ) (fun R => q_S8 st pl P R n (q_cl g m)) := by
  unfold fX8_closePage
  obtain ⟨tpl, tP⟩ := h.tp c ts
  refine pw_sh fun _ => pw_onS e7 (pw_sh fun _ => pw_onP (pX6_placeOfOpen h) fun q4 hq => ?_)
  obtain ⟨e4, hq⟩ := hq
  rw [e4]
  refine pw_sh fun _ => pw_onP (pX6_pageAt h q4.1) fun q6 h6 => ?_
  obtain ⟨e6, h6⟩ := h6
  rw [e6]
  rcases hq with ⟨a1, a2⟩ | ⟨a1, a2, a3, -⟩
  · rcases h6 with ⟨b1, -, -⟩ | ⟨-, b3⟩
    · exfalso; rw [a1] at b1; exact absurd b1 (by decide)
    · rw [b3]
      refine pw_nu (fun _ => pw_some (h.cg fun i f hi _ _ => ?_)) (fun q e => by cases e)
      unfold q_cl
      rw [if_neg (show ¬ (g i 6 ≠ 0 ∧ g i 2 = m) from a2 i hi)]
  · rcases h6 with ⟨b1, b2, b3⟩ | ⟨b1, -⟩
    · rw [b3]
      refine pw_nu (fun e => by cases e) (fun q e => ?_)
      have eq := Option.some.inj e
      subst eq
      have hj : q4.1.toInt.toNat < n := by omega
      generalize q4.1.toInt.toNat = j at hj a3
      refine pw_sh fun _ => pw_let (pw_let (pw_sh fun _ => ?_))
      have c1 := ci_wI (j := 6) (v := 0) c (tP j hj) (kr_n rfl)
      have c2 := ci_wI (j := 7) (v := mm_I (mm_wI σ (P j) 6 0) (P j) 7 + 1) c1 (tP j hj) (kr_n rfl)
      obtain ⟨wa, ewa, twa⟩ := ci_ref c2 t8 8 (κ' := 7) rfl
      refine pw_onS ewa (pw_sh fun _ => pw_onP (sX7_see c2 twa (tP j hj)).p fun s2 ⟨c3, f3, _⟩ => pw_some ?_)
      have hs : q_S8 st pl P (mm_wI (mm_wI σ (P j) 6 0) (P j) 7 (mm_I (mm_wI σ (P j) 6 0) (P j) 7 + 1)) n (q_cl g m) := by
        refine ⟨h.1, ?_, h.2.2.1, h.2.2.2.1, fun i hi f f1 f2 => ?_, h.2.2.2.2.2⟩
        · rw [rI_ne (q_nek ts (tP j hj) (by decide)), rI_ne (q_nek ts (tP j hj) (by decide))]; exact h.2.1
        · by_cases hij : i = j
          · subst hij
            unfold q_cl
            rw [if_pos (show g i 6 ≠ 0 ∧ g i 2 = m from a3)]
            by_cases f7 : f = 7
            · subst f7
              rw [show mm_I (mm_wI (mm_wI σ (P i) 6 0) (P i) 7 (mm_I (mm_wI σ (P i) 6 0) (P i) 7 + 1)) (P i) 7 = _ from mm_up2_self, if_neg (by decide), if_pos rfl]
              rw [show mm_I (mm_wI σ (P i) 6 0) (P i) 7 = mm_I σ (P i) 7 from mm_up2_nk _ (by decide), h.2.2.2.2.1 i hi 7 (by omega) (by omega)]
            · rw [show mm_I (mm_wI (mm_wI σ (P i) 6 0) (P i) 7 (mm_I (mm_wI σ (P i) 6 0) (P i) 7 + 1)) (P i) f = mm_I (mm_wI σ (P i) 6 0) (P i) f from mm_up2_nk _ f7]
              by_cases f6 : f = 6
              · subst f6
                rw [if_pos rfl]; exact mm_up2_self
              · rw [if_neg f6, if_neg f7, show mm_I (mm_wI σ (P i) 6 0) (P i) f = mm_I σ (P i) f from mm_up2_nk _ f6]
                exact h.2.2.2.2.1 i hi f f1 f2
          · have hne : P i ≠ P j := fun e => hij (h.2.2.2.2.2 i j hi hj e)
            rw [rI_ne hne, rI_ne hne, h.2.2.2.2.1 i hi f f1 f2]
            unfold q_cl
            rw [if_neg (fun h' => hij (hu i j hi hj h'.1 a3.1 (h'.2.trans a3.2.symm)))]
      exact hs.fr c2 ts f3 rfl rfl rfl
    · exact absurd ⟨a1, a2⟩ b1
theorem pX8_readValues_2 (t8 : T o8 = some 8) {t : Nat → Int32} (hb : ∀ j, t j &&& 255 = t j) {x1 x2 : Int32} {fr cn : Nat} (h1 : x1.toInt = fr) (h2 : x2.toInt = cn) (hc : cn ≤ 8) (hf : fr + cn ≤ 42) : ∀ (u : Nat) (x3 : Int32) (k : Nat) (σ : mm_M), sCI T σ → (∀ j, rdA σ o8 3 j = t j) → x3.toInt = k → k ≤ cn → (∀ j, j < k → vl (t (fr + j)) ≠ -1 ∧ rdA σ o8 5 j = vl (t (fr + j))) → pw (fX8_readValues_2 u o8 x1 x2 x3 σ) (fun R => (R.1 = 1 ∧ ∀ j, j < cn → vl (t (fr + j)) ≠ -1 ∧ rdA R.2 o8 5 j = vl (t (fr + j))) ∨ (R.1 = 0 ∧ ∃ j, j < cn ∧ vl (t (fr + j)) = -1)) := by
  intro u
  induction u with
  | zero => intros; exact pw_none
  | succ u ih =>
    intro x3 k σ c ht hx hk hv
    unfold fX8_readValues_2
    have ex := zi_p1 (x := x3) (by omega)
    have es : (x1 + x3).toInt = fr + k := by rw [zi_add, zi_bm (by omega) (by omega)]; omega
    obtain ⟨va, eva, tva⟩ := ci_ref c t8 5 (κ' := 15) rfl
    refine pw_ite (fun a => pw_some (Or.inl ⟨rfl, ?_⟩)) (fun a => pw_sh fun _ => pw_onS eva (pw_ar fun n4 s4 => ?_))
    · rw [zi_le] at a
      intro j hj
      exact hv j (by omega)
    · rw [zi_le] at a
      have e4 := ci_sh c tva (sh := .inr (0, 8)) rfl
      have : n4 = 8 := by rw [e4] at s4; have := Option.some.inj s4; cases this; rfl
      subst this
      refine pw_ite (fun b => ?_) (fun b => ?_)
      · exfalso
        rw [zi_le] at b
        have : (Int32.ofNat 8).toInt = 8 := rfl
        omega
      · refine pw_onP (pX8_valueAt (by omega) (by rw [ht]; exact hb _)) fun q6 e6 => ?_
        subst e6
        rw [ht, zi_clamp, es, show ((fr : Int) + (k : Int)).toNat = fr + k by omega]
        show pw (if vl (t (fr + k)) = -1 then _ else _) _
        refine pw_ite (fun d => pw_some (Or.inr ⟨rfl, k, by omega, d⟩)) (fun d => pw_sh fun _ => pw_onS eva (pw_ar fun _ _ => pw_ib fun _ _ => pw_let ?_))
        have c1 := ci_wI (j := x3.toNatClampNeg) (v := vl (t (fr + k))) c tva (kr_n rfl)
        have ecl : x3.toNatClampNeg = k := by rw [zi_clamp]; omega
        rw [ecl] at c1 ⊢
        refine ih (x3 + 1) (k + 1) _ c1 (fun j => ?_) (by omega) (by omega) (fun j hj => ?_)
        · rw [rdA_k c t8 (κ' := 13) rfl tva (by decide)]; exact ht j
        · by_cases hjk : j = k
          · subst hjk
            exact ⟨d, rdA_self eva⟩
          · rw [rdA_j hjk]
            exact hv j (by omega)
theorem pX8_readValues (c : sCI T σ) (t8 : T o8 = some 8) (hb : ∀ j, rdA σ o8 3 j &&& 255 = rdA σ o8 3 j) {x1 x2 : Int32} {fr cn : Nat} (h1 : x1.toInt = fr) (h2 : x2.toInt = cn) (hc : cn ≤ 8) (hf : fr + cn ≤ 42) : pw (fX8_readValues o8 x1 x2 σ) (fun R => (R.1 = 1 ∧ ∀ j, j < cn → vl (rdA σ o8 3 (fr + j)) ≠ -1 ∧ rdA R.2 o8 5 j = vl (rdA σ o8 3 (fr + j))) ∨ (R.1 = 0 ∧ ∃ j, j < cn ∧ vl (rdA σ o8 3 (fr + j)) = -1)) :=
  pX8_readValues_2 t8 hb h1 h2 hc hf _ 0 0 σ c (fun _ => rfl) rfl (Nat.zero_le _) (fun j hj => absurd hj (Nat.not_lt_zero _))
theorem pX8_open_111 {p : Nat} (c : sCI T σ) (t8 : T o8 = some 8) (tp : T p = some 3) : pw (fX8_openPage_111 o8 p σ) (fun R => sFR T [22, 23, 24] σ R) := by
  unfold fX8_openPage_111
  obtain ⟨ta, eta, tta⟩ := ci_ref c t8 3 (κ' := 13) rfl
  obtain ⟨tx, etx, ttx⟩ := ci_ref c tp 0 (κ' := 4) rfl
  refine pw_sh fun _ => pw_sh fun _ => pw_onS eta (pw_onS etx (pw_sh fun _ => pw_onP (sX4_fill (p1 := 0) (p2 := 8) (p4 := 10) c ttx tta (by decide) (by decide)).p fun q hq => pw_some ?_))
  exact fr_trans (fr_refl (K := [22, 23, 24])) hq.2.1 rfl
theorem pX8_open_86 {p : Nat} (c : sCI T σ) (t8 : T o8 = some 8) (tp : T p = some 3) {y0 y1 : Int32} : pw (fX8_openPage_86 o8 p y0 y1 p σ) (fun R => sFR T [22, 23, 24] (mm_wI σ p 5 (y1 + y0)) R) := by
  unfold fX8_openPage_86
  have c1 := ci_wI (j := 5) (v := y1 + y0) c tp (kr_n rfl)
  obtain ⟨tx, etx, ttx⟩ := ci_ref c1 tp 0 (κ' := 4) rfl
  refine pw_sh fun _ => pw_let (pw_sh fun _ => pw_ite (fun a => pX8_open_111 c1 t8 tp) (fun a => pw_onS etx (pw_sh fun _ => ?_)))
  refine pw_onP (sX4_eraseRows (p1 := 1) c1 ttx (by decide)).p fun s2 ⟨c2, f2, _⟩ => pw_sh fun _ => ?_
  refine pw_onP (sX3_eraseLinks c2 tp).p fun s3 ⟨c3, f3, _⟩ => ?_
  exact (pX8_open_111 c3 t8 tp).mono (fun R h => fr_trans (fr_trans (fr_trans (fr_refl (K := [22, 23, 24])) f2 rfl) f3 rfl) h rfl)
theorem pX8_open_67 {p va : Nat} (c : sCI T σ) (t8 : T o8 = some 8) (tp : T p = some 3) (eva : mm_R σ o8 5 = some va) {y0 y1 : Int32} : pw (fX8_openPage_67 o8 p y0 y1 p σ) (fun R => sFR T [22, 23, 24] (mm_wI σ p 5 ((y1 + y0) + (if mm_I σ va 7 &&& 1 = 0 then 0 else 8))) R) := by
  unfold fX8_openPage_67
  refine pw_sh fun _ => pw_onS eva (pw_ar fun _ _ => pw_ib fun _ _ => pw_ite (fun a => ?_) (fun a => ?_))
  · have a' : mm_I σ va 7 &&& 1 = 0 := a
    rw [if_pos a']; exact pX8_open_86 c t8 tp
  · have a' : ¬ mm_I σ va 7 &&& 1 = 0 := a
    rw [if_neg a']; exact pX8_open_86 c t8 tp
theorem pX8_open_49 {p va : Nat} (c : sCI T σ) (t8 : T o8 = some 8) (tp : T p = some 3) (eva : mm_R σ o8 5 = some va) {y0 y1 : Int32} : pw (fX8_openPage_49 o8 p y0 y1 p σ) (fun R => sFR T [22, 23, 24] (mm_wI σ p 5 (((y1 + y0) + (if mm_I σ va 5 &&& 8 = 0 then 0 else 4)) + (if mm_I σ va 7 &&& 1 = 0 then 0 else 8))) R) := by
  unfold fX8_openPage_49
  refine pw_sh fun _ => pw_onS eva (pw_ar fun _ _ => pw_ib fun _ _ => pw_ite (fun a => ?_) (fun a => ?_))
  · have a' : mm_I σ va 5 &&& 8 = 0 := a
    rw [if_pos a']; exact pX8_open_67 c t8 tp eva
  · have a' : ¬ mm_I σ va 5 &&& 8 = 0 := a
    rw [if_neg a']; exact pX8_open_67 c t8 tp eva
theorem pX8_open_33 {p va : Nat} (c : sCI T σ) (t8 : T o8 = some 8) (tp : T p = some 3) (eva : mm_R σ o8 5 = some va) {y0 : Int32} : pw (fX8_openPage_33 o8 p y0 p σ) (fun R => sFR T [22, 23, 24] (mm_wI σ p 5 (((y0 + (if mm_I σ va 5 &&& 4 = 0 then 0 else 2)) + (if mm_I σ va 5 &&& 8 = 0 then 0 else 4)) + (if mm_I σ va 7 &&& 1 = 0 then 0 else 8))) R) := by
  unfold fX8_openPage_33
  refine pw_sh fun _ => pw_onS eva (pw_ar fun _ _ => pw_ib fun _ _ => pw_ite (fun a => ?_) (fun a => ?_))
  · have a' : mm_I σ va 5 &&& 4 = 0 := a
    rw [if_pos a']; exact pX8_open_49 c t8 tp eva
  · have a' : ¬ mm_I σ va 5 &&& 4 = 0 := a
    rw [if_neg a']; exact pX8_open_49 c t8 tp eva
theorem pX8_openPage {p : Nat} (c : sCI T σ) (t8 : T o8 = some 8) (tp : T p = some 3) : pw (fX8_openPage o8 p σ) (fun R => sFR T [22, 23, 24] (mm_wI (mm_wI (mm_wI σ p 6 1) p 8 (mm_I σ p 8 + 1)) p 5 (q_fl (rdA σ o8 5 3) (rdA σ o8 5 5) (rdA σ o8 5 7))) R) := by
  unfold fX8_openPage
  have c1 := ci_wI (j := 6) (v := 1) c tp (kr_n rfl)
  have e8 : mm_I (mm_wI σ p 6 1) p 8 = mm_I σ p 8 := mm_up2_nk _ (by decide)
  have c2 := ci_wI (j := 8) (v := mm_I σ p 8 + 1) c1 tp (kr_n rfl)
  obtain ⟨va, eva, tva⟩ := ci_ref c t8 5 (κ' := 15) rfl
  have hne : va ≠ p := q_nek tva tp (by decide)
  rw [rdA_eq eva, rdA_eq eva, rdA_eq eva]
  refine pw_sh fun _ => pw_let (pw_let ?_)
  rw [e8]
  have hr : ∀ j, mm_I (mm_wI (mm_wI σ p 6 1) p 8 (mm_I σ p 8 + 1)) va j = mm_I σ va j := fun j => by rw [rI_ne hne, rI_ne hne]
  have k := fun y0 => pX8_open_33 (y0 := y0) c2 t8 tp eva
  rw [hr, hr] at k
  refine pw_sh fun _ => pw_onS eva (pw_ar fun _ _ => pw_ib fun _ _ => ?_)
  rw [hr]
  unfold q_fl
  refine pw_ite (fun a => ?_) (fun a => ?_)
  · have a' : mm_I σ va 3 &&& 8 = 0 := a
    rw [if_pos a']; exact k 0
  · have a' : ¬ mm_I σ va 3 &&& 8 = 0 := a
    rw [if_neg a']; exact k 1
theorem pX8_opened {p j : Nat} (h : q_S8 st pl P σ n g) (c : sCI T σ) (t8 : T o8 = some 8) (ts : T st = some 6) (hj : j < n) (hp : p = P j) : pw (fX8_openPage o8 p σ) (fun R => q_S8 st pl P R n (q_opn g j (q_fl (rdA σ o8 5 3) (rdA σ o8 5 5) (rdA σ o8 5 7)))) := by
  obtain ⟨tpl, tP⟩ := h.tp c ts
  subst hp
  have tp := tP j hj
  refine (pX8_openPage c t8 tp).mono (fun R fr => ?_)
  have c1 := ci_wI (j := 6) (v := 1) c tp (kr_n rfl)
  have c2 := ci_wI (j := 8) (v := mm_I σ (P j) 8 + 1) c1 tp (kr_n rfl)
  have c3 := ci_wI (j := 5) (v := q_fl (rdA σ o8 5 3) (rdA σ o8 5 5) (rdA σ o8 5 7)) c2 tp (kr_n rfl)
  generalize q_fl (rdA σ o8 5 3) (rdA σ o8 5 5) (rdA σ o8 5 7) = fl at fr c3 ⊢
  refine q_S8.fr (T := T) (K := [22, 23, 24]) ?_ c3 ts fr rfl rfl rfl
  have hts : st ≠ P j := q_nek ts tp (by decide)
  refine ⟨h.1, ?_, h.2.2.1, h.2.2.2.1, fun i hi f f1 f2 => ?_, h.2.2.2.2.2⟩
  · rw [rI_ne hts, rI_ne hts, rI_ne hts]; exact h.2.1
  · unfold q_opn
    by_cases hij : i = j
    · subst hij
      rw [if_pos rfl]
      have e8 := h.2.2.2.2.1 i hi 8 (by omega) (by omega)
      by_cases f5 : f = 5
      · subst f5
        rw [if_neg (by decide), if_neg (by decide), if_pos rfl]; exact mm_up2_self
      rw [show mm_I (mm_wI (mm_wI (mm_wI σ (P i) 6 1) (P i) 8 (mm_I σ (P i) 8 + 1)) (P i) 5 fl) (P i) f = mm_I (mm_wI (mm_wI σ (P i) 6 1) (P i) 8 (mm_I σ (P i) 8 + 1)) (P i) f from mm_up2_nk _ f5]
      by_cases f8 : f = 8
      · subst f8
        rw [if_neg (by decide), if_pos rfl, ← e8]; exact mm_up2_self
      rw [show mm_I (mm_wI (mm_wI σ (P i) 6 1) (P i) 8 (mm_I σ (P i) 8 + 1)) (P i) f = mm_I (mm_wI σ (P i) 6 1) (P i) f from mm_up2_nk _ f8]
      by_cases f6 : f = 6
      · subst f6
        rw [if_pos rfl]; exact mm_up2_self
      rw [if_neg f6, if_neg f8, if_neg f5, show mm_I (mm_wI σ (P i) 6 1) (P i) f = mm_I σ (P i) f from mm_up2_nk _ f6]
      exact h.2.2.2.2.1 i hi f f1 f2
    · have hne : P i ≠ P j := fun e => hij (h.2.2.2.2.2 i j hi hj e)
      rw [rI_ne hne, rI_ne hne, rI_ne hne, if_neg hij]
      exact h.2.2.2.2.1 i hi f f1 f2
/-- what stands of the class's desk: store, values -/
theorem pX8_header_end (h : q_S8 st pl P σ n g) (e7 : mm_R σ o8 7 = some st) (c : sCI T σ) (t8 : T o8 = some 8) (ts : T st = some 6) (hp : pnd σ o8) {w : Nat → Int32} (hw : ∀ j, j < 8 → rdA σ o8 5 j = w j) {u : Nat} {m x2 x3 : Int32} (hx : 8 < x3.toInt) : pw (fX8_takeHeader_42 (u + 1) o8 m x2 x3 σ) (fun R => (∀ k, rdA R o8 6 k = rdA σ o8 6 k) ∧ ∃ n' g' P', q_S8 st pl P' R n' g' ∧ ((16 * w 1 + w 0 = 255 ∧ n' = n ∧ g' = g ∧ P' = P) ∨ (16 * w 1 + w 0 ≠ 255 ∧ ∃ g2, q_bn n g P m (16 * w 1 + w 0) (fX8_subcodeOf (w 2) (w 3) (w 4) (w 5)) n' g2 P' ∧ g' = q_opn g2 (n' - 1) (q_fl (w 3) (w 5) (w 7))))) := by
  unfold fX8_takeHeader_42
  obtain ⟨va, eva, tva⟩ := ci_ref c t8 5 (κ' := 15) rfl
  have hv : ∀ j, j < 8 → mm_I σ va j = w j := fun j hj => by rw [← hw j hj, rdA_eq eva]
  have v0 : mm_I σ va (0 : Int32).toNatClampNeg = w 0 := hv 0 (by omega)
  have v1 : mm_I σ va (1 : Int32).toNatClampNeg = w 1 := hv 1 (by omega)
  have v2 : mm_I σ va (2 : Int32).toNatClampNeg = w 2 := hv 2 (by omega)
  have v3 : mm_I σ va (3 : Int32).toNatClampNeg = w 3 := hv 3 (by omega)
  have v4 : mm_I σ va (4 : Int32).toNatClampNeg = w 4 := hv 4 (by omega)
  have v5 : mm_I σ va (5 : Int32).toNatClampNeg = w 5 := hv 5 (by omega)
  rw [if_pos (by rw [zi_lt]; exact hx)]
  refine pw_sh fun _ => pw_onS eva (pw_ar fun _ _ => pw_ib fun _ _ => pw_onS eva (pw_ar fun _ _ => pw_ib fun _ _ => ?_))
  rw [v1, v0]
  refine pw_ite (fun a => pw_some ⟨fun _ => rfl, n, g, P, h, Or.inl ⟨a, rfl, rfl, rfl⟩⟩) (fun a => ?_)
  refine pw_onS eva (pw_ar fun _ _ => pw_ib fun _ _ => pw_onS eva (pw_ar fun _ _ => pw_ib fun _ _ => pw_onS eva (pw_ar fun _ _ => pw_ib fun _ _ => pw_onS eva (pw_ar fun _ _ => pw_ib fun _ _ => pw_onS e7 (pw_sh fun _ => ?_)))))
  rw [v2, v3, v4, v5]
  have hpn : pn σ st := hp st e7
  refine pw_onP (fun y e => And.intro ((sX6_bringToEnd c ts hpn).p y e) (pX6_bringToEnd h c ts hpn y e)) fun q32 hh => ?_
  obtain ⟨⟨T', tx, c2, f2, -⟩, n', g2, P', hn', r1, h2, bn⟩ := hh
  refine pw_onS r1 (pw_sh fun _ => ?_)
  have hv5 : ∀ j, j < 8 → rdA q32.2 o8 5 j = w j := fun j hj => (rdA_fr f2 c t8 (κ' := 15) rfl rfl rfl).trans (hw j hj)
  have tp : T' (P' (n' - 1)) = some 3 := (h2.tp c2 (tx _ _ ts)).2 _ (by omega)
  refine pw_onP (fun y e => And.intro ((sX8_openPage c2 (tx _ _ t8) tp).p y e) (pX8_opened (j := n' - 1) h2 c2 (tx _ _ t8) (tx _ _ ts) (by omega) rfl y e)) fun q35 hh => ?_
  obtain ⟨⟨-, f3, -⟩, h35⟩ := hh
  refine pw_some ⟨fun k => (rdA_fr f3 c2 (tx _ _ t8) (κ' := 16) rfl rfl rfl).trans (rdA_fr f2 c t8 (κ' := 16) rfl rfl rfl), n', _, P', h35, Or.inr ⟨a, g2, bn, ?_⟩⟩
  rw [hv5 3 (by omega), hv5 5 (by omega), hv5 7 (by omega)]
theorem pX8_takeHeader_42 (hu : q_ou n g) (t8 : T o8 = some 8) (ts : T st = some 6) {w : Nat → Int32} {m x2 : Int32} {b : Bool} (hb : x2 = 0 ↔ b = false) : ∀ (u : Nat) (x3 : Int32) (σ : mm_M), sCI T σ → q_S8 st pl P σ n (q_clx g b m x3.toInt) → mm_R σ o8 7 = some st → pnd σ o8 → (∀ j, j < 8 → rdA σ o8 5 j = w j) → 1 ≤ x3.toInt → x3.toInt ≤ 9 → pw (fX8_takeHeader_42 u o8 m x2 x3 σ) (fun R => (∀ k, rdA R o8 6 k = rdA σ o8 6 k) ∧ ∃ n' g' P', q_S8 st pl P' R n' g' ∧ q_hdr n g P b m w n' g' P') := by
  intro u
  induction u with
  | zero => intros; exact pw_none
  | succ u ih =>
    intro x3 σ c h e7 hp hw h1 h9
    by_cases h8 : 8 < x3.toInt
    · have e9 : x3.toInt = 9 := by omega
      rw [e9] at h
      refine (pX8_header_end h e7 c t8 ts hp hw h8).mono (fun R hR => ?_)
      obtain ⟨r0, n', g', P', r1, r2⟩ := hR
      exact ⟨r0, n', g', P', r1, r2⟩
    · have ex := zi_p1 (x := x3) (by omega)
      have close : b = true ∨ x3 = m → pw (fX8_takeHeader_57 (fX8_takeHeader_42 u) o8 m x2 x3 σ) (fun R => (∀ k, rdA R o8 6 k = rdA σ o8 6 k) ∧ ∃ n' g' P', q_S8 st pl P' R n' g' ∧ q_hdr n g P b m w n' g' P') := by
        intro hbm
        unfold fX8_takeHeader_57
        refine pw_sh fun _ => pw_onP (fun y e => And.intro ((sX8_closePage c t8).p y e) (pX8_closePage h e7 c t8 ts (hu.clx _ _ _) y e)) fun s2 hh => ?_
        obtain ⟨⟨c2, f2, -⟩, h2⟩ := hh
        refine (ih (x3 + 1) s2 c2 (by rw [ex, q_clx_yes h1 hbm]; exact h2) ((f2.2.2 o8 8 t8 7 rfl).2.trans e7) (pnd_fr hp f2 c t8 rfl rfl rfl) (fun j hj => (rdA_fr f2 c t8 (κ' := 15) rfl rfl rfl).trans (hw j hj)) (by omega) (by omega)).mono (fun R hR => ⟨fun k => (hR.1 k).trans (rdA_fr f2 c t8 (κ' := 16) rfl rfl rfl), hR.2⟩)
      unfold fX8_takeHeader_42
      rw [if_neg (by rw [zi_lt]; exact h8)]
      refine pw_ite (fun a => pw_ite (fun d => close (Or.inr d)) (fun d => ?_)) (fun a => close (Or.inl ?_))
      · refine ih (x3 + 1) σ c (by rw [ex, q_clx_no (hb.mp a) d]; exact h) e7 hp hw (by omega) (by omega)
      · cases b with
        | true => rfl
        | false => exact absurd (hb.mpr rfl) a
def q_inc (f : Nat → Int32) (k : Nat) : Nat → Int32 := fun j => if j = k then f j + 1 else f j
theorem rdA_inc {q k j : Nat} (e : mm_R σ o8 k = some q) (i : Nat) : rdA (mm_wI σ q j (mm_I σ q j + 1)) o8 k i = q_inc (fun i => rdA σ o8 k i) j i := by
  unfold q_inc
  by_cases h : i = j
  · subst h
    rw [if_pos rfl, rdA_self e]
    show _ = rdA σ o8 k i + 1
    rw [rdA_eq e]
  · rw [if_neg h, rdA_j h]
/-- what a header makes of the store: w j the values of its bytes 2 .. 9 -/
def q_head (n : Nat) (g : Nat → Nat → Int32) (P : Nat → Nat) (nt : Nat → Int32) (m : Int32) (w : Nat → Int32) (n' : Nat) (g' : Nat → Nat → Int32) (P' : Nat → Nat) (nt' : Nat → Int32) : Prop :=
  ((∃ j, j < 8 ∧ w j = -1) ∧ n' = n ∧ g' = g ∧ P' = P ∧ nt' = q_inc nt 1) ∨
  ((∀ j, j < 8 → w j ≠ -1) ∧ q_hdr n g P (decide (w 7 &&& 1 = 1)) m w n' g' P' ∧ nt' = nt)
theorem pX8_takeHeader (h : q_S8 st pl P σ n g) (e7 : mm_R σ o8 7 = some st) (c : sCI T σ) (t8 : T o8 = some 8) (ts : T st = some 6) (hp : pnd σ o8) (hu : q_ou n g) (hb : ∀ j, rdA σ o8 3 j &&& 255 = rdA σ o8 3 j) {m : Int32} : pw (fX8_takeHeader o8 m σ) (fun R => ∃ n' g' P', q_S8 st pl P' R n' g' ∧ q_head n g P (fun k => rdA σ o8 6 k) m (fun j => vl (rdA σ o8 3 (2 + j))) n' g' P' (fun k => rdA R o8 6 k)) := by
  unfold fX8_takeHeader
  refine pw_sh fun _ => pw_onP (fun y e => And.intro ((sX8_readValues c t8).p y e) (pX8_readValues (fr := 2) (cn := 8) c t8 hb rfl rfl (by omega) (by omega) y e)) fun q2 hh => ?_
  obtain ⟨⟨c2, f2, -⟩, hv⟩ := hh
  have h2 : q_S8 st pl P q2.2 n g := h.fr c ts f2 rfl rfl rfl
  have e72 : mm_R q2.2 o8 7 = some st := (f2.2.2 o8 8 t8 7 rfl).2.trans e7
  have k6 : ∀ k, rdA q2.2 o8 6 k = rdA σ o8 6 k := fun k => rdA_fr f2 c t8 (κ' := 16) rfl rfl rfl
  have hp2 : pnd q2.2 o8 := pnd_fr hp f2 c t8 rfl rfl rfl
  rcases hv with ⟨a1, a2⟩ | ⟨a1, a2⟩
  · rw [if_neg (by rw [a1]; decide)]
    obtain ⟨va, eva, tva⟩ := ci_ref c2 t8 5 (κ' := 15) rfl
    refine pw_sh fun _ => pw_onS eva (pw_ar fun _ _ => pw_ib fun _ _ => ?_)
    have e7v : mm_I q2.2 va (7 : Int32).toNatClampNeg = vl (rdA σ o8 3 (2 + 7)) := by
      rw [← (a2 7 (by omega)).2, rdA_eq eva]; rfl
    rw [e7v]
    have fin : ∀ x2 : Int32, (x2 = 0 ↔ decide (vl (rdA σ o8 3 (2 + 7)) &&& 1 = 1) = false) → pw (fX8_takeHeader_42 mm_fuel o8 m x2 1 q2.2) (fun R => ∃ n' g' P', q_S8 st pl P' R n' g' ∧ q_head n g P (fun k => rdA σ o8 6 k) m (fun j => vl (rdA σ o8 3 (2 + j))) n' g' P' (fun k => rdA R o8 6 k)) := by
      intro x2 hx2
      refine (pX8_takeHeader_42 hu t8 ts hx2 _ 1 q2.2 c2 (by rw [show (1 : Int32).toInt = 1 from rfl, q_clx_1]; exact h2) e72 hp2 (fun j hj => (a2 j hj).2) (by decide) (by decide)).mono (fun R hR => ?_)
      obtain ⟨r0, n', g', P', r1, r2⟩ := hR
      exact ⟨n', g', P', r1, Or.inr ⟨fun j hj => (a2 j hj).1, r2, funext fun k => (r0 k).trans (k6 k)⟩⟩
    refine pw_ite (fun a => fin 1 ?_) (fun a => fin 0 ?_)
    · rw [decide_eq_false_iff_not]; exact ⟨fun h => absurd h (by decide), fun h => absurd a h⟩
    · rw [decide_eq_false_iff_not]; exact ⟨fun _ => a, fun _ => rfl⟩
  · rw [if_pos a1]
    obtain ⟨na, ena, tna⟩ := ci_ref c2 t8 6 (κ' := 16) rfl
    refine pw_sh fun _ => pw_onS ena (pw_ar fun _ _ => pw_ib fun _ _ => pw_ib fun _ _ => pw_let (pw_some ⟨n, g, P, ?_, Or.inl ⟨a2, rfl, rfl, rfl, ?_⟩⟩))
    · exact q_S8.fr (T := T) (K := [16]) h2 c2 ts (fr_wI fr_refl tna rfl) rfl rfl rfl
    · funext k
      have e := rdA_inc (j := 1) ena k
      refine Eq.trans e ?_
      simp only [q_inc, k6]
theorem pX8_takeRow_23 (h : q_S8 st pl P σ n g) (e7 : mm_R σ o8 7 = some st) (c : sCI T σ) (t8 : T o8 = some 8) (ts : T st = some 6) {m x2 : Int32} : pw (fX8_takeRow_23 o8 m x2 σ) (fun R => q_S8 st pl P R n g ∧ (((∃ i, i < n ∧ q_op g m i) ∧ ∀ k, rdA R o8 6 k = rdA σ o8 6 k) ∨ ((∀ i, i < n → ¬ q_op g m i) ∧ ∀ k, rdA R o8 6 k = q_inc (fun k => rdA σ o8 6 k) 2 k))) := by
  unfold fX8_takeRow_23
  obtain ⟨tpl, tP⟩ := h.tp c ts
  refine pw_sh fun _ => pw_onS e7 (pw_sh fun _ => pw_onP (pX6_placeOfOpen h) fun q4 hq => ?_)
  obtain ⟨e4, hq⟩ := hq
  rw [e4]
  refine pw_sh fun _ => pw_onP (pX6_pageAt h q4.1) fun q6 h6 => ?_
  obtain ⟨e6, h6⟩ := h6
  rw [e6]
  rcases hq with ⟨a1, a2⟩ | ⟨a1, a2, a3, -⟩
  · rcases h6 with ⟨b1, -, -⟩ | ⟨-, b3⟩
    · exfalso; rw [a1] at b1; exact absurd b1 (by decide)
    · rw [b3]
      obtain ⟨na, ena, tna⟩ := ci_ref c t8 6 (κ' := 16) rfl
      refine pw_nu (fun _ => pw_sh fun _ => pw_onS ena (pw_ar fun _ _ => pw_ib fun _ _ => pw_ib fun _ _ => pw_let (pw_some ⟨?_, Or.inr ⟨a2, fun k => rdA_inc (j := 2) ena k⟩⟩))) (fun q e => by cases e)
      exact q_S8.fr (T := T) (K := [16]) h c ts (fr_wI fr_refl tna rfl) rfl rfl rfl
  · rcases h6 with ⟨b1, b2, b3⟩ | ⟨b1, -⟩
    · rw [b3]
      refine pw_nu (fun e => by cases e) (fun q e => ?_)
      have eq := Option.some.inj e
      subst eq
      have hj : q4.1.toInt.toNat < n := by omega
      generalize q4.1.toInt.toNat = j at hj a3
      refine pw_ite (fun d => pw_sh fun _ => pw_onP (sX8_takeLinks c t8 (tP j hj)).p fun s2 ⟨c2, f2, _⟩ => pw_some ?_) (fun d => pw_sh fun _ => pw_sh fun _ => ?_)
      · exact ⟨h.fr c ts f2 rfl rfl rfl, Or.inl ⟨⟨j, hj, a3⟩, fun k => rdA_fr f2 c t8 (κ' := 16) rfl rfl rfl⟩⟩
      · obtain ⟨ta, eta, tta⟩ := ci_ref c t8 3 (κ' := 13) rfl
        obtain ⟨tx, etx, ttx⟩ := ci_ref c (tP j hj) 0 (κ' := 4) rfl
        refine pw_onS eta (pw_onS etx (pw_sh fun _ => pw_onP (sX4_fill (p2 := 0) (p4 := 2) c ttx tta (by decide) (by decide)).p fun s2 ⟨c2, f2, _⟩ => pw_some ?_))
        exact ⟨h.fr c ts f2 rfl rfl rfl, Or.inl ⟨⟨j, hj, a3⟩, fun k => rdA_fr f2 c t8 (κ' := 16) rfl rfl rfl⟩⟩
    · exact absurd ⟨a1, a2⟩ b1
/-- what a row of a packet makes of the store -/
def q_row (n : Nat) (g : Nat → Nat → Int32) (P : Nat → Nat) (nt : Nat → Int32) (m r : Int32) (w : Nat → Int32) (n' : Nat) (g' : Nat → Nat → Int32) (P' : Nat → Nat) (nt' : Nat → Int32) : Prop :=
  (r = 0 ∧ q_head n g P nt m w n' g' P' nt') ∨
  (r ≠ 0 ∧ (r ≤ 24 ∨ r = 27) ∧ (∀ i, i < n → ¬ q_op g m i) ∧ n' = n ∧ g' = g ∧ P' = P ∧ nt' = q_inc nt 2) ∨
  (r ≠ 0 ∧ (¬ (r ≤ 24 ∨ r = 27) ∨ ∃ i, i < n ∧ q_op g m i) ∧ n' = n ∧ g' = g ∧ P' = P ∧ nt' = nt)
theorem pX8_takeRow (h : q_S8 st pl P σ n g) (e7 : mm_R σ o8 7 = some st) (c : sCI T σ) (t8 : T o8 = some 8) (ts : T st = some 6) (hp : pnd σ o8) (hu : q_ou n g) (hb : ∀ j, rdA σ o8 3 j &&& 255 = rdA σ o8 3 j) {m r : Int32} : pw (fX8_takeRow o8 m r σ) (fun R => ∃ n' g' P', q_S8 st pl P' R n' g' ∧ q_row n g P (fun k => rdA σ o8 6 k) m r (fun j => vl (rdA σ o8 3 (2 + j))) n' g' P' (fun k => rdA R o8 6 k)) := by
  unfold fX8_takeRow
  have row : r ≠ 0 → (r ≤ 24 ∨ r = 27) → pw (fX8_takeRow_23 o8 m r σ) (fun R => ∃ n' g' P', q_S8 st pl P' R n' g' ∧ q_row n g P (fun k => rdA σ o8 6 k) m r (fun j => vl (rdA σ o8 3 (2 + j))) n' g' P' (fun k => rdA R o8 6 k)) := by
    intro h0 h1
    refine (pX8_takeRow_23 h e7 c t8 ts).mono (fun R hR => ⟨n, g, P, hR.1, ?_⟩)
    rcases hR.2 with ⟨b1, b2⟩ | ⟨b1, b2⟩
    · exact Or.inr (Or.inr ⟨h0, Or.inr b1, rfl, rfl, rfl, funext b2⟩)
    · exact Or.inr (Or.inl ⟨h0, h1, b1, rfl, rfl, rfl, funext b2⟩)
  refine pw_ite (fun a => pw_sh fun _ => pw_onP (pX8_takeHeader h e7 c t8 ts hp hu hb) fun q hq => pw_some ?_) (fun a => pw_ite (fun b => row a (Or.inl b)) (fun b => pw_ite (fun d => row a (Or.inr d)) (fun d => pw_some ⟨n, g, P, h, Or.inr (Or.inr ⟨a, Or.inl (fun h' => h'.elim b d), rfl, rfl, rfl, rfl⟩)⟩)))
  obtain ⟨n', g', P', r1, r2⟩ := hq
  exact ⟨n', g', P', r1, Or.inl ⟨a, r2⟩⟩
/-- what a packet makes of the store: v0, v1, w the values of its bytes -/
def q_pkt (n : Nat) (g : Nat → Nat → Int32) (P : Nat → Nat) (nt : Nat → Int32) (v0 v1 : Int32) (w : Nat → Int32) (n' : Nat) (g' : Nat → Nat → Int32) (P' : Nat → Nat) (nt' : Nat → Int32) : Prop :=
  ((v0 = -1 ∨ v1 = -1) ∧ n' = n ∧ g' = g ∧ P' = P ∧ nt' = q_inc nt 0) ∨
  (¬ (v0 = -1 ∨ v1 = -1) ∧ q_row n g P nt (fX8_magazineOf v0) (v0 / 8 + 2 * v1) w n' g' P' nt')
theorem pX8_pkt (h : q_S8 st pl P σ n g) (e7 : mm_R σ o8 7 = some st) (c : sCI T σ) (t8 : T o8 = some 8) (ts : T st = some 6) (hp : pnd σ o8) (hu : q_ou n g) (hb : ∀ j, rdA σ o8 3 j &&& 255 = rdA σ o8 3 j) (hl : 42 ≤ (mm_I σ o8 4).toInt) : pw (fX8_packet o8 σ) (fun R => ∃ n' g' P', q_S8 st pl P' R.2 n' g' ∧ q_pkt n g P (fun k => rdA σ o8 6 k) (vl (rdA σ o8 3 0)) (vl (rdA σ o8 3 1)) (fun j => vl (rdA σ o8 3 (2 + j))) n' g' P' (fun k => rdA R.2 o8 6 k)) := by
  have k : ∀ j, rdA (mm_wI σ o8 4 0) o8 3 j = rdA σ o8 3 j := fun j => rdA_k c t8 (κ' := 13) rfl t8 (by decide)
  have k6 : ∀ j, rdA (mm_wI σ o8 4 0) o8 6 j = rdA σ o8 6 j := fun j => rdA_k c t8 (κ' := 16) rfl t8 (by decide)
  have c1 := ci_wI (j := 4) (v := 0) c t8 (kr_s (lo := 0) (hi := 60) rfl (by decide))
  have f1 : sFR T [804] σ (mm_wI σ o8 4 0) := fr_wI fr_refl t8 rfl
  have h1 : q_S8 st pl P (mm_wI σ o8 4 0) n g := h.fr c ts f1 rfl rfl rfl
  have e71 : mm_R (mm_wI σ o8 4 0) o8 7 = some st := e7
  have hp1 : pnd (mm_wI σ o8 4 0) o8 := pnd_fr hp f1 c t8 rfl rfl rfl
  unfold fX8_packet
  refine pw_sh fun _ => pw_ite (fun _ => pw_let ?_) (fun h => ?_)
  · refine pw_onP (pX8_valueAt (by decide) (by rw [k]; exact hb _)) fun q4 e4 => pw_sh fun _ => ?_
    subst e4
    refine pw_onP (pX8_valueAt (by decide) (by rw [k]; exact hb _)) fun q6 e6 => ?_
    subst e6
    rw [k, k]
    show pw (if vl (rdA σ o8 3 0) = -1 then _ else if vl (rdA σ o8 3 1) = -1 then _ else _) _
    have bad : (vl (rdA σ o8 3 0) = -1 ∨ vl (rdA σ o8 3 1) = -1) → ∀ x1 x2 : Int32, pw (fX8_packet_46 o8 x1 x2 (mm_wI σ o8 4 0)) (fun R => ∃ n' g' P', q_S8 st pl P' R.2 n' g' ∧ q_pkt n g P (fun k => rdA σ o8 6 k) (vl (rdA σ o8 3 0)) (vl (rdA σ o8 3 1)) (fun j => vl (rdA σ o8 3 (2 + j))) n' g' P' (fun k => rdA R.2 o8 6 k)) := by
      intro hbad x1 x2
      unfold fX8_packet_46
      obtain ⟨na, ena, tna⟩ := ci_ref c1 t8 6 (κ' := 16) rfl
      refine pw_sh fun _ => pw_onS ena (pw_ar fun _ _ => pw_ib fun _ _ => pw_ib fun _ _ => pw_let (pw_some ⟨n, g, P, ?_, Or.inl ⟨hbad, rfl, rfl, rfl, ?_⟩⟩))
      · exact q_S8.fr (T := T) (K := [16]) h1 c1 ts (fr_wI fr_refl tna rfl) rfl rfl rfl
      · funext i
        refine Eq.trans (rdA_inc (j := 0) ena i) ?_
        simp only [q_inc, k6]
    refine pw_ite (fun a => bad (Or.inl a) _ _) (fun a => pw_ite (fun b => bad (Or.inr b) _ _) (fun b => pw_sh fun _ => ?_))
    have hb1 : ∀ j, rdA (mm_wI σ o8 4 0) o8 3 j &&& 255 = rdA (mm_wI σ o8 4 0) o8 3 j := fun j => by rw [k]; exact hb j
    refine pw_onP (pX8_takeRow h1 e71 c1 t8 ts hp1 hu hb1) fun q16 hq => pw_some ?_
    obtain ⟨n', g', P', r1, r2⟩ := hq
    simp only [k, k6] at r2
    exact ⟨n', g', P', r1, Or.inr ⟨fun h' => h'.elim a b, r2⟩⟩
  · exfalso
    rw [zi_le] at h
    simp only [Int32.reduceToInt] at h
    omega
end ST17
