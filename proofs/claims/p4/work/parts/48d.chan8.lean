/-! The class's store by value: n pages, g i f = field f of the page at place i (2 magazine, 3 number, 4 subcode, 5 flags, 6 open, 7 closings, 8 headers), P i its address -/
def q_shf {α : Type} (f : Nat → α) (k : Nat) : Nat → α := fun i => if i < k then f i else f (i + 1)
def q_app {α : Type} (f : Nat → α) (n : Nat) (x : α) : Nat → α := fun i => if i = n then x else f i
def q_nm (g : Nat → Nat → Int32) (m k s : Int32) (i : Nat) : Prop := g i 2 = m ∧ g i 3 = k ∧ (s = -1 ∨ g i 4 = s)
def q_op (g : Nat → Nat → Int32) (m : Int32) (i : Nat) : Prop := g i 6 ≠ 0 ∧ g i 2 = m
def q_last (Q : Nat → Prop) (n : Nat) (r : Int32) : Prop := (r = -1 ∧ ∀ i, i < n → ¬ Q i) ∨ (0 ≤ r.toInt ∧ r.toInt < n ∧ Q r.toInt.toNat ∧ ∀ i, r.toInt.toNat < i → i < n → ¬ Q i)
def q_first (Q : Nat → Prop) (n : Nat) (r : Int32) : Prop := (r = -1 ∧ ∀ i, i < n → ¬ Q i) ∨ (0 ≤ r.toInt ∧ r.toInt < n ∧ Q r.toInt.toNat ∧ ∀ i, i < r.toInt.toNat → ¬ Q i)
theorem zi_p1 {x : Int32} (h : x.toInt < 2147483647) : (x + 1).toInt = x.toInt + 1 := by
  have := zi_rg x
  rw [zi_add]; exact zi_bm (by simp only [Int32.reduceToInt]; omega) (by simp only [Int32.reduceToInt]; omega)
theorem zi_m1 {x : Int32} (h : -2147483648 < x.toInt) : (x - 1).toInt = x.toInt - 1 := by
  have := zi_rg x
  rw [zi_sub]; exact zi_bm (by simp only [Int32.reduceToInt]; omega) (by simp only [Int32.reduceToInt]; omega)
theorem zi_pm1 {x : Int32} (h : -2147483648 < x.toInt) : (x + (-1)).toInt = x.toInt - 1 := by
  have := zi_rg x
  rw [zi_add, show (-1 : Int32).toInt = -1 from rfl, zi_bm (by omega) (by omega)]; omega
def q_S8 (st pl : Nat) (P : Nat → Nat) (σ : mm_M) (n : Nat) (g : Nat → Nat → Int32) : Prop :=
  mm_R σ st 0 = some pl ∧ (mm_I σ st 1).toInt = n ∧ n ≤ 20 ∧ (∀ i, i < n → mm_R σ pl i = some (P i)) ∧ (∀ i, i < n → ∀ f, 2 ≤ f → f ≤ 8 → mm_I σ (P i) f = g i f) ∧ (∀ i j, i < n → j < n → P i = P j → i = j)
def q_new (m k s : Int32) (f : Nat) : Int32 := if f = 2 then m else if f = 3 then k else if f = 4 then s else if 200 ≤ f ∧ f < 218 then -1 else 0
theorem rI_ne {σ : mm_M} {a p j f : Nat} {v : Int32} (h : a ≠ p) : mm_I (mm_wI σ p j v) a f = mm_I σ a f := mm_up2_ne h f
theorem q_no {K : List Nat} {z : Nat} (h : ∀ x ∈ K, x ≠ z) : K.contains z = false := by
  cases e : K.contains z with
  | false => rfl
  | true => exact absurd rfl (h z (List.contains_iff_mem.mp e))
section ST8
variable {T : Nat → Option Nat} {σ : mm_M} {st pl n : Nat} {P : Nat → Nat} {g : Nat → Nat → Int32}
theorem pX6_pageAt (h : q_S8 st pl P σ n g) (x : Int32) : pw (fX6_pageAt st x σ) (fun R => R.2 = σ ∧ ((0 ≤ x.toInt ∧ x.toInt < n ∧ R.1 = some (P x.toInt.toNat)) ∨ (¬ (0 ≤ x.toInt ∧ x.toInt < n) ∧ R.1 = none))) := by
  unfold fX6_pageAt
  have o1 : fX8_isOutside x (mm_I σ st 1) = 0 ↔ 0 ≤ x.toInt ∧ x.toInt < n := by rw [zp.1, h.2.1]
  have o2 : fX8_isOutside x 20 = 0 ↔ 0 ≤ x.toInt ∧ x.toInt < 20 := by rw [zp.1]; exact Iff.rfl
  have h20 := h.2.2.1
  refine pw_sh fun _ => pw_ite (fun a => pw_ite (fun b => pw_onS h.1 (pw_ar fun _ _ => pw_ib fun _ _ => pw_some ⟨rfl, Or.inl ⟨(o1.mp a).1, (o1.mp a).2, ?_⟩⟩)) (fun b => ?_)) (fun a => pw_some ⟨rfl, Or.inr ⟨fun h' => a (o1.mpr h'), rfl⟩⟩)
  · have := o1.mp a
    exact h.2.2.2.1 _ (by rw [zi_clamp]; omega)
  · have := o1.mp a
    exact absurd (o2.mpr ⟨this.1, by omega⟩) b
theorem pX3_hasName {p : Nat} {m k s : Int32} : pw (fX3_hasName p m k s σ) (fun R => R.2 = σ ∧ (R.1 = 0 ↔ ¬ (mm_I σ p 2 = m ∧ mm_I σ p 3 = k ∧ (s = -1 ∨ mm_I σ p 4 = s)))) := by
  unfold fX3_hasName
  refine pw_sh fun _ => pw_ite (fun a => pw_ite (fun b => pw_ite (fun d => pw_some ⟨rfl, ?_⟩) (fun d => pw_ite (fun e => pw_some ⟨rfl, ?_⟩) (fun e => pw_some ⟨rfl, ?_⟩))) (fun b => pw_some ⟨rfl, ?_⟩)) (fun a => pw_some ⟨rfl, ?_⟩)
  · exact ⟨fun h => absurd (show (1 : Int32) = 0 from h) (by decide), fun h => absurd ⟨a, b, Or.inl d⟩ h⟩
  · exact ⟨fun h => absurd (show (1 : Int32) = 0 from h) (by decide), fun h => absurd ⟨a, b, Or.inr e⟩ h⟩
  · exact ⟨fun _ h => h.2.2.elim d e, fun _ => rfl⟩
  · exact ⟨fun _ h => b h.2.1, fun _ => rfl⟩
  · exact ⟨fun _ h => a h.1, fun _ => rfl⟩
theorem q_S8.nm (h : q_S8 st pl P σ n g) {i : Nat} (hi : i < n) {m k s : Int32} : (mm_I σ (P i) 2 = m ∧ mm_I σ (P i) 3 = k ∧ (s = -1 ∨ mm_I σ (P i) 4 = s)) ↔ q_nm g m k s i := by
  unfold q_nm
  rw [h.2.2.2.2.1 i hi 2 (by omega) (by omega), h.2.2.2.2.1 i hi 3 (by omega) (by omega), h.2.2.2.2.1 i hi 4 (by omega) (by omega)]
theorem pX6_placeOf_8 (h : q_S8 st pl P σ n g) {m k s : Int32} : ∀ (u : Nat) (x : Int32), -1 ≤ x.toInt → x.toInt < n → (∀ i : Nat, x.toInt < (i : Int) → i < n → ¬ q_nm g m k s i) → pw (fX6_placeOf_8 u st m k s x σ) (fun R => R.2 = σ ∧ q_last (q_nm g m k s) n R.1) := by
  intro u
  induction u with
  | zero => intro x _ _ _; exact pw_none
  | succ u ih =>
    intro x h1 h2 h3
    unfold fX6_placeOf_8
    have e1 := zi_pm1 (x := x) (by omega)
    refine pw_ite (fun a => pw_some ⟨rfl, Or.inl ⟨rfl, fun i hi => h3 i (by rw [zi_lt] at a; simp only [Int32.reduceToInt] at a; omega) hi⟩⟩) (fun a => pw_sh fun _ => pw_onP (pX6_pageAt h x) fun q hq => ?_)
    rw [zi_lt] at a
    simp only [Int32.reduceToInt] at a
    obtain ⟨e2, hq⟩ := hq
    rw [e2]
    rcases hq with ⟨a1, a2, a3⟩ | ⟨a1, -⟩
    · rw [a3]
      show pw (mm_sh σ (P x.toInt.toNat) (.inl 3) _) _
      refine pw_sh fun _ => pw_onP pX3_hasName fun q7 h7 => ?_
      rw [h7.1]
      have hx : x.toInt.toNat < n := by omega
      refine pw_ite (fun b => ?_) (fun b => pw_some ⟨rfl, Or.inr ⟨a1, a2, ?_, fun i hi hn => h3 i (by have hi' : x.toInt.toNat < i := hi; omega) hn⟩⟩)
      · refine ih _ (by omega) (by omega) (fun i hi hn => ?_)
        by_cases hix : i = x.toInt.toNat
        · subst hix
          exact fun hh => (h7.2.mp b) ((h.nm hx).mpr hh)
        · exact h3 i (by omega) hn
      · exact (h.nm hx).mp (Decidable.byContradiction fun hh => b (h7.2.mpr hh))
    · exact absurd ⟨by omega, h2⟩ a1
theorem pX6_placeOf (h : q_S8 st pl P σ n g) {m k s : Int32} : pw (fX6_placeOf st m k s σ) (fun R => R.2 = σ ∧ q_last (q_nm g m k s) n R.1) := by
  unfold fX6_placeOf
  have h1 := h.2.1
  have h20 := h.2.2.1
  have e := zi_m1 (x := mm_I σ st 1) (by omega)
  exact pw_sh fun _ => pX6_placeOf_8 h _ _ (by omega) (by omega) (fun i hi hn => by omega)
theorem pX6_placeOfOpen_2 (h : q_S8 st pl P σ n g) {m : Int32} : ∀ (u : Nat) (x : Int32), 0 ≤ x.toInt → x.toInt ≤ n → (∀ i : Nat, (i : Int) < x.toInt → ¬ q_op g m i) → pw (fX6_placeOfOpen_2 u st m x σ) (fun R => R.2 = σ ∧ q_first (q_op g m) n R.1) := by
  intro u
  induction u with
  | zero => intro x _ _ _; exact pw_none
  | succ u ih =>
    intro x h1 h2 h3
    unfold fX6_placeOfOpen_2
    have h20 := h.2.2.1
    have e1 := zi_p1 (x := x) (by omega)
    refine pw_sh fun _ => pw_ite (fun a => pw_some ⟨rfl, Or.inl ⟨rfl, fun i hi => h3 i ?_⟩⟩) (fun a => pw_onP (pX6_pageAt h x) fun q hq => ?_)
    · rw [zi_le, h.2.1] at a; omega
    rw [zi_le, h.2.1] at a
    obtain ⟨e2, hq⟩ := hq
    rw [e2]
    rcases hq with ⟨a1, a2, a3⟩ | ⟨a1, -⟩
    · rw [a3]
      have hx : x.toInt.toNat < n := by omega
      show pw (mm_sh σ (P x.toInt.toNat) (.inl 3) _) _
      have e6 : mm_I σ (P x.toInt.toNat) 6 = g x.toInt.toNat 6 := h.2.2.2.2.1 _ hx 6 (by omega) (by omega)
      have e2' : mm_I σ (P x.toInt.toNat) 2 = g x.toInt.toNat 2 := h.2.2.2.2.1 _ hx 2 (by omega) (by omega)
      rw [e6, e2']
      have step : ¬ q_op g m x.toInt.toNat → pw (fX6_placeOfOpen_2 u st m (x + 1) σ) (fun R => R.2 = σ ∧ q_first (q_op g m) n R.1) := by
        intro hno
        refine ih _ (by omega) (by omega) (fun i hi => ?_)
        by_cases hix : i = x.toInt.toNat
        · subst hix; exact hno
        · exact h3 i (by omega)
      refine pw_sh fun _ => pw_ite (fun b => step (fun hh => hh.1 b)) (fun b => pw_ite (fun d => pw_some ⟨rfl, Or.inr ⟨a1, a2, ⟨b, d⟩, fun i hi => h3 i (by have hi' : i < x.toInt.toNat := hi; omega)⟩⟩) (fun d => step (fun hh => d hh.2)))
    · exact absurd ⟨by omega, by omega⟩ a1
theorem pX6_placeOfOpen (h : q_S8 st pl P σ n g) {m : Int32} : pw (fX6_placeOfOpen st m σ) (fun R => R.2 = σ ∧ q_first (q_op g m) n R.1) :=
  pX6_placeOfOpen_2 h _ _ (by decide) (by show (0 : Int) ≤ n; omega) (fun i hi => by have : (0 : Int32).toInt = 0 := rfl; omega)
/-- what shows of a memory apart from its size -/
theorem pX6_takeOut_14 (hst : st ≠ pl) {k : Nat} {x1 : Int32} (hn : n ≤ 20) : ∀ (u : Nat) (x : Int32) (j : Nat) (σ : mm_M), x.toInt = j → k ≤ j → j < n → mm_R σ st 0 = some pl → (mm_I σ st 1).toInt = n → (∀ i, i < n → mm_R σ pl i = some (if k ≤ i ∧ i < j then P (i + 1) else P i)) → pw (fX6_takeOut_14 u st x1 x σ) (fun R => mm_R R st 0 = some pl ∧ (mm_I R st 1).toInt = (n : Int) - 1 ∧ (∀ i, i + 1 < n → mm_R R pl i = some (q_shf P k i)) ∧ (∀ a f, a ≠ st → mm_I R a f = mm_I σ a f) ∧ (∀ a f, a ≠ pl → mm_R R a f = mm_R σ a f)) := by
  intro u
  induction u with
  | zero => intros; exact pw_none
  | succ u ih =>
    intro x j σ hx hk hj e0 e1 hP
    unfold fX6_takeOut_14
    have ex := zi_p1 (x := x) (by omega)
    have em := zi_m1 (x := mm_I σ st 1) (by omega)
    refine pw_sh fun _ => pw_ite (fun a => pw_let (pw_some ?_)) (fun a => pw_ite (fun b => ?_) (fun b => pw_onS e0 (pw_ar fun _ _ => pw_ib fun _ _ => pw_on fun q eq => pw_ib fun _ _ => pw_sh fun _ => pw_let ?_)))
    · rw [zi_le, e1] at a
      refine ⟨e0, ?_, fun i hi => ?_, fun a f ha => mm_up2_ne ha f, fun a f _ => rfl⟩
      · show (mm_up2 σ.2.2.1 st 1 (mm_I σ st 1 - 1) st 1).toInt = _
        rw [mm_up2_self]; omega
      · show mm_R σ pl i = _
        rw [hP i (by omega)]
        unfold q_shf
        by_cases h : i < k
        · rw [if_neg (by omega), if_pos h]
        · rw [if_pos (by omega), if_neg h]
    · exfalso
      rw [zi_le, e1] at a
      rw [zi_le] at b
      simp only [Int32.reduceToInt] at b
      omega
    · rw [zi_le, e1] at a
      rw [zi_clamp, show (x + 1).toInt.toNat = j + 1 by omega, hP (j + 1) (by omega), if_neg (by omega)] at eq
      have eq' : P (j + 1) = q := Option.some.inj eq
      subst eq'
      have ecl : x.toNatClampNeg = j := by rw [zi_clamp]; omega
      rw [ecl]
      refine (ih (x + 1) (j + 1) (mm_wR σ pl j (some (P (j + 1)))) (by omega) (by omega) (by omega) ((mm_up2_ne hst 0).trans e0) e1 (fun i hi => ?_)).mono (fun R h => ⟨h.1, h.2.1, h.2.2.1, h.2.2.2.1, fun a f ha => (h.2.2.2.2 a f ha).trans (mm_up2_ne ha f)⟩)
      show mm_up2 σ.2.2.2.1 pl j (some (P (j + 1))) pl i = _
      by_cases hij : i = j
      · subst hij
        rw [mm_up2_self, if_pos (by omega)]
      · rw [mm_up2_nk _ hij, show σ.2.2.2.1 pl i = _ from hP i hi]
        by_cases h : k ≤ i ∧ i < j
        · rw [if_pos h, if_pos (by omega)]
        · rw [if_neg h, if_neg (by omega)]
theorem pX6_takeOut (h : q_S8 st pl P σ n g) (hne : ∀ i, i < n → P i ≠ st) (hst : st ≠ pl) {x : Int32} {k : Nat} (hx : x.toInt = k) (hk : k < n) : pw (fX6_takeOut st x σ) (fun R => q_S8 st pl (q_shf P k) R (n - 1) (q_shf g k) ∧ (∀ a f, a ≠ st → mm_I R a f = mm_I σ a f) ∧ (∀ a f, a ≠ pl → mm_R R a f = mm_R σ a f)) := by
  unfold fX6_takeOut
  refine pw_sh fun _ => pw_ite (fun _ => ?_) (fun a => absurd ((zp.1 _ _).mpr ⟨by omega, by rw [h.2.1]; omega⟩) a)
  refine (pX6_takeOut_14 (P := P) (k := k) hst h.2.2.1 _ x k σ hx (Nat.le_refl _) hk h.1 h.2.1 (fun i hi => by rw [if_neg (by omega)]; exact h.2.2.2.1 i hi)).mono (fun R hR => ?_)
  obtain ⟨r1, r2, r3, r4, r5⟩ := hR
  have h20 := h.2.2.1
  refine ⟨⟨r1, by omega, by omega, fun i hi => r3 i (by omega), fun i hi f f1 f2 => ?_, fun i j hi hj he => ?_⟩, r4, r5⟩
  · unfold q_shf
    by_cases c : i < k
    · rw [if_pos c, if_pos c, r4 _ _ (hne i (by omega))]; exact h.2.2.2.2.1 i (by omega) f f1 f2
    · rw [if_neg c, if_neg c, r4 _ _ (hne (i + 1) (by omega))]; exact h.2.2.2.2.1 (i + 1) (by omega) f f1 f2
  · unfold q_shf at he
    have inj := h.2.2.2.2.2
    by_cases c : i < k <;> by_cases d : j < k
    · rw [if_pos c, if_pos d] at he; exact inj i j (by omega) (by omega) he
    · rw [if_pos c, if_neg d] at he; have := inj i (j + 1) (by omega) (by omega) he; omega
    · rw [if_neg c, if_pos d] at he; have := inj (i + 1) j (by omega) (by omega) he; omega
    · rw [if_neg c, if_neg d] at he; have := inj (i + 1) (j + 1) (by omega) (by omega) he; omega
theorem pX6_addBehind (h : q_S8 st pl P σ n g) (hne : ∀ i, i < n → P i ≠ st) (hst : st ≠ pl) {p : Nat} (hp : p ≠ st) (hn : n < 20) (hf : ∀ i, i < n → P i ≠ p) : pw (fX6_addBehind st p σ) (fun R => q_S8 st pl (q_app P n p) R (n + 1) (q_app g n (mm_I σ p)) ∧ (∀ a f, a ≠ st → mm_I R a f = mm_I σ a f) ∧ (∀ a f, a ≠ pl → mm_R R a f = mm_R σ a f)) := by
  unfold fX6_addBehind
  have h1 := h.2.1
  have e1 := zi_p1 (x := mm_I σ st 1) (by omega)
  refine pw_sh fun _ => pw_ite (fun a => ?_) (fun a => pw_onS h.1 (pw_ar fun _ _ => pw_ib fun _ _ => pw_sh fun _ => pw_let (pw_let (pw_some ?_))))
  · exfalso
    rw [zi_le, h1] at a
    simp only [Int32.reduceToInt] at a
    omega
  · have ecl : (mm_I σ st 1).toNatClampNeg = n := by rw [zi_clamp]; omega
    rw [ecl]
    refine ⟨⟨(mm_up2_ne hst 0).trans h.1, ?_, by omega, fun i hi => ?_, fun i hi f f1 f2 => ?_, fun i j hi hj he => ?_⟩, fun a f ha => mm_up2_ne ha f, fun a f ha => mm_up2_ne ha f⟩
    · show (mm_up2 σ.2.2.1 st 1 (mm_I σ st 1 + 1) st 1).toInt = _
      rw [mm_up2_self]; omega
    · show mm_up2 σ.2.2.2.1 pl n (some p) pl i = _
      unfold q_app
      by_cases c : i = n
      · subst c; rw [mm_up2_self, if_pos rfl]
      · rw [mm_up2_nk _ c, if_neg c]; exact h.2.2.2.1 i (by omega)
    · show mm_up2 σ.2.2.1 st 1 (mm_I σ st 1 + 1) (q_app P n p i) f = _
      unfold q_app
      by_cases c : i = n
      · rw [if_pos c, if_pos c, mm_up2_ne hp]
      · rw [if_neg c, if_neg c, mm_up2_ne (hne i (by omega))]; exact h.2.2.2.2.1 i (by omega) f f1 f2
    · unfold q_app at he
      by_cases c : i = n <;> by_cases d : j = n
      · omega
      · rw [if_pos c, if_neg d] at he; exact absurd he.symm (hf j (by omega))
      · rw [if_neg c, if_pos d] at he; exact absurd he (hf i (by omega))
      · rw [if_neg c, if_neg d] at he; exact h.2.2.2.2.2 i j (by omega) (by omega) he
theorem pX3_become {p : Nat} (c : sCI T σ) (t : T p = some 3) {m k s : Int32} : pw (fX3_become p m k s σ) (fun R => (∀ f, 2 ≤ f → f ≤ 8 → mm_I R p f = q_new m k s f) ∧ (∀ a κ, T a = some κ → a ≠ p → κ < 22 ∨ 24 < κ → ∀ f, mm_I R a f = mm_I σ a f) ∧ (∀ a κ, T a = some κ → κ < 22 ∨ 24 < κ → ∀ f, mm_R R a f = mm_R σ a f)) := by
  unfold fX3_become
  refine pw_sh fun _ => pw_let (pw_let (pw_let (pw_let (pw_let (pw_let (pw_let ?_))))))
  have c1 := ci_wI (j := 2) (v := m) c t (kr_n rfl)
  have c2 := ci_wI (j := 3) (v := k) c1 t (kr_n rfl)
  have c3 := ci_wI (j := 4) (v := s) c2 t (kr_n rfl)
  have c4 := ci_wI (j := 5) (v := 0) c3 t (kr_n rfl)
  have c5 := ci_wI (j := 6) (v := 0) c4 t (kr_n rfl)
  have c6 := ci_wI (j := 7) (v := 0) c5 t (kr_n rfl)
  have c7 := ci_wI (j := 8) (v := 0) c6 t (kr_n rfl)
  obtain ⟨tx, etx, ttx⟩ := ci_ref c7 t 0 (κ' := 4) rfl
  refine pw_onS etx (pw_sh fun _ => ?_)
  have hv : ∀ f, 2 ≤ f → f ≤ 8 → mm_I (mm_wI (mm_wI (mm_wI (mm_wI (mm_wI (mm_wI (mm_wI σ p 2 m) p 3 k) p 4 s) p 5 0) p 6 0) p 7 0) p 8 0) p f = q_new m k s f := by
    intro f f1 f2
    show mm_up2 _ p 8 0 p f = _
    have hf : f = 2 ∨ f = 3 ∨ f = 4 ∨ f = 5 ∨ f = 6 ∨ f = 7 ∨ f = 8 := by omega
    rcases hf with rfl | rfl | rfl | rfl | rfl | rfl | rfl <;> simp [mm_wI, mm_up2, q_new]
  have ho : ∀ a f, a ≠ p → mm_I (mm_wI (mm_wI (mm_wI (mm_wI (mm_wI (mm_wI (mm_wI σ p 2 m) p 3 k) p 4 s) p 5 0) p 6 0) p 7 0) p 8 0) a f = mm_I σ a f := by
    intro a f ha
    rw [rI_ne ha, rI_ne ha, rI_ne ha, rI_ne ha, rI_ne ha, rI_ne ha, rI_ne ha]
  refine pw_onP (sX4_eraseRows (p1 := 0) c7 ttx (by decide)).p fun s9 ⟨c9, f9, _⟩ => pw_sh fun _ => ?_
  refine pw_onP (sX3_eraseLinks c9 t).p fun s10 ⟨c10, f10, _⟩ => pw_some ?_
  have no : ∀ κ j, κ < 22 ∨ 24 < κ → List.contains KX4_eraseRows (kcode κ j) = false ∧ List.contains KX3_eraseLinks (kcode κ j) = false := by
    intro κ j hk
    have : kcode κ j < 22 ∨ 24 < kcode κ j := by unfold kcode; split <;> (try split) <;> omega
    generalize kcode κ j = z at this
    refine ⟨q_no fun x hx => ?_, q_no fun x hx => ?_⟩
    · simp only [KX4_eraseRows, List.mem_cons, List.not_mem_nil, or_false] at hx; omega
    · simp only [KX3_eraseLinks, List.mem_cons, List.not_mem_nil, or_false] at hx; omega
  refine ⟨fun f f1 f2 => ?_, fun a κ ta ha hk f => ?_, fun a κ ta hk f => ?_⟩
  · rw [(f10.2.2 p 3 t f rfl).1, (f9.2.2 p 3 t f rfl).1]; exact hv f f1 f2
  · rw [(f10.2.2 a κ ta f (no κ f hk).2).1, (f9.2.2 a κ ta f (no κ f hk).1).1]; exact ho a f ha
  · rw [(f10.2.2 a κ ta f (no κ f hk).2).2, (f9.2.2 a κ ta f (no κ f hk).1).2]; rfl
/-- the store behind bringToEnd -/
def q_bn (n : Nat) (g : Nat → Nat → Int32) (P : Nat → Nat) (m k s : Int32) (n' : Nat) (g' : Nat → Nat → Int32) (P' : Nat → Nat) : Prop :=
  (∃ j, j < n ∧ q_nm g m k s j ∧ n' = n ∧ g' = q_app (q_shf g j) (n - 1) (g j) ∧ P' = q_app (q_shf P j) (n - 1) (P j)) ∨
  ((∀ i, i < n → ¬ q_nm g m k s i) ∧ n < 20 ∧ n' = n + 1 ∧ g' = q_app g n (q_new m k s) ∧ ∃ p, P' = q_app P n p) ∨
  ((∀ i, i < n → ¬ q_nm g m k s i) ∧ n = 20 ∧ n' = 20 ∧ g' = q_app (q_shf g 0) 19 (q_new m k s) ∧ ∃ p, P' = q_app (q_shf P 0) 19 p)
theorem q_S8.cg {g' : Nat → Nat → Int32} (h : q_S8 st pl P σ n g) (e : ∀ i f, i < n → 2 ≤ f → f ≤ 8 → g i f = g' i f) : q_S8 st pl P σ n g' :=
  ⟨h.1, h.2.1, h.2.2.1, h.2.2.2.1, fun i hi f f1 f2 => (h.2.2.2.2.1 i hi f f1 f2).trans (e i f hi f1 f2), h.2.2.2.2.2⟩
theorem q_S8.same {σ' : mm_M} (h : q_S8 st pl P σ n g) (h1 : mm_R σ' st 0 = mm_R σ st 0) (h2 : mm_I σ' st 1 = mm_I σ st 1) (h3 : ∀ i, i < n → mm_R σ' pl i = mm_R σ pl i) (h4 : ∀ i, i < n → ∀ f, mm_I σ' (P i) f = mm_I σ (P i) f) : q_S8 st pl P σ' n g :=
  ⟨h1.trans h.1, (congrArg Int32.toInt h2).trans h.2.1, h.2.2.1, fun i hi => (h3 i hi).trans (h.2.2.2.1 i hi), fun i hi f f1 f2 => (h4 i hi f).trans (h.2.2.2.2.1 i hi f f1 f2), h.2.2.2.2.2⟩
theorem q_S8.fr {K : List Nat} {σ' : mm_M} (h : q_S8 st pl P σ n g) (c : sCI T σ) (ts : T st = some 6) (f : sFR T K σ σ') (h3 : K.contains 3 = false) (h6 : K.contains 6 = false) (h25 : K.contains 25 = false) : q_S8 st pl P σ' n g := by
  obtain ⟨q, e, tq⟩ := ci_ref c ts 0 (κ' := 25) rfl
  have : q = pl := Option.some.inj (e.symm.trans h.1)
  subst this
  exact h.same (f.2.2 st 6 ts 0 h6).2 (f.2.2 st 6 ts 1 h6).1 (fun i hi => (f.2.2 q 25 tq i h25).2) (fun i hi j => (f.2.2 (P i) 3 (ci_nul c tq rfl (h.2.2.2.1 i hi)) j h3).1)
theorem q_S8.tp (h : q_S8 st pl P σ n g) (c : sCI T σ) (ts : T st = some 6) : T pl = some 25 ∧ ∀ i, i < n → T (P i) = some 3 := by
  obtain ⟨q, e, tq⟩ := ci_ref c ts 0 (κ' := 25) rfl
  have : q = pl := Option.some.inj (e.symm.trans h.1)
  subst this
  exact ⟨tq, fun i hi => ci_nul c tq rfl (h.2.2.2.1 i hi)⟩
theorem q_nek {a b κ κ' : Nat} (h : T a = some κ) (h' : T b = some κ') (hn : κ ≠ κ') : a ≠ b := fun e => by
  subst e; rw [h] at h'; exact hn (Option.some.inj h')
theorem pX6_bring_83 (h : q_S8 st pl P σ n g) (c : sCI T σ) (ts : T st = some 6) {p : Nat} (tp : T p = some 3) (hn : n < 20) (hf : ∀ i, i < n → P i ≠ p) {x1 x2 x3 x4 x5 : Int32} : pw (fX6_bringToEnd_83 st x1 x2 x3 x4 x5 (some p) σ) (fun R => R.1 = some p ∧ q_S8 st pl (q_app P n p) R.2 (n + 1) (q_app g n (mm_I σ p)) ∧ (∀ a f, a ≠ st → mm_I R.2 a f = mm_I σ a f) ∧ (∀ a f, a ≠ pl → mm_R R.2 a f = mm_R σ a f)) := by
  unfold fX6_bringToEnd_83
  obtain ⟨tpl, tP⟩ := h.tp c ts
  refine pw_onS rfl (pw_sh fun _ => pw_onP (pX6_addBehind h (fun i hi => q_nek (tP i hi) ts (by decide)) (q_nek ts tpl (by decide)) (q_nek tp ts (by decide)) hn hf) fun q hq => pw_some ⟨rfl, hq⟩)
theorem pX6_bring_70n (h : q_S8 st pl P σ n g) (c : sCI T σ) (ts : T st = some 6) {p : Nat} (tp : T p = some 3) (hn : n < 20) (hf : ∀ i, i < n → P i ≠ p) {m k s x4 : Int32} : pw (fX6_bringToEnd_70 st m k s x4 0 (some p) σ) (fun R => R.1 = some p ∧ q_S8 st pl (q_app P n p) R.2 (n + 1) (q_app g n (q_new m k s))) := by
  unfold fX6_bringToEnd_70
  obtain ⟨tpl, tP⟩ := h.tp c ts
  rw [if_pos rfl]
  refine pw_onS rfl (pw_sh fun _ => ?_)
  refine pw_onP (fun y e => And.intro ((sX3_become c tp).p y e) (pX3_become c tp y e)) fun s2 hh => ?_
  obtain ⟨⟨c2, f2, -⟩, b1, b2, b3⟩ := hh
  have h2 : q_S8 st pl P s2 n g := h.same (b3 st 6 ts (by omega) 0) (b2 st 6 ts (q_nek ts tp (by decide)) (by omega) 1) (fun i hi => b3 pl 25 tpl (by omega) i) (fun i hi f => b2 (P i) 3 (tP i hi) (hf i hi) (by omega) f)
  refine (pX6_bring_83 h2 c2 ts tp hn hf).mono (fun R hR => ⟨hR.1, hR.2.1.cg fun i f hi f1 f2 => ?_⟩)
  unfold q_app
  by_cases e : i = n
  · rw [if_pos e, if_pos e]; exact b1 f f1 f2
  · rw [if_neg e, if_neg e]
theorem q_appl {α : Type} {f : Nat → α} {n : Nat} {x : α} : q_app f n x n = x := if_pos rfl
theorem pX6_bring_known (h : q_S8 st pl P σ n g) (c : sCI T σ) (ts : T st = some 6) (hpn : pn σ st) {m k s x4 : Int32} {j : Nat} (hx : x4.toInt = j) (hj : j < n) : pw (fX6_bringToEnd_39 st m k s x4 1 σ) (fun R => R.1 = some (P j) ∧ q_S8 st pl (q_app (q_shf P j) (n - 1) (P j)) R.2 n (q_app (q_shf g j) (n - 1) (g j))) := by
  unfold fX6_bringToEnd_39
  obtain ⟨tpl, tP⟩ := h.tp c ts
  refine pw_sh fun _ => pw_onP (pX6_pageAt h x4) fun q hq => ?_
  obtain ⟨e2, hq⟩ := hq
  rw [e2]
  rcases hq with ⟨a1, a2, a3⟩ | ⟨a1, -⟩
  · rw [a3, show x4.toInt.toNat = j by omega]
    show pw (mm_sh σ st (.inl 6) _) _
    refine pw_sh fun _ => ?_
    have hne : ∀ i, i < n → P i ≠ st := fun i hi => q_nek (tP i hi) ts (by decide)
    refine pw_onP (fun y e => And.intro ((sX6_takeOut c ts hpn).p y e) (pX6_takeOut h hne (q_nek ts tpl (by decide)) hx hj y e)) fun s2 hh => ?_
    obtain ⟨⟨c2, f2, -⟩, h2, r4, r5⟩ := hh
    unfold fX6_bringToEnd_70
    rw [if_neg (by decide)]
    refine (pX6_bring_83 h2 c2 ts (tP j hj) (by have := h.2.2.1; omega) (fun i hi e => ?_)).mono (fun R hR => ⟨hR.1, ?_⟩)
    · unfold q_shf at e
      by_cases d : i < j
      · rw [if_pos d] at e; have := h.2.2.2.2.2 i j (by omega) hj e; omega
      · rw [if_neg d] at e; have := h.2.2.2.2.2 (i + 1) j (by omega) hj e; omega
    · have h3 := hR.2.1
      rw [show n - 1 + 1 = n by omega] at h3
      refine h3.cg fun i f hi f1 f2 => ?_
      unfold q_app
      by_cases e : i = n - 1
      · rw [if_pos e, if_pos e, r4 _ _ (hne j hj)]; exact h.2.2.2.2.1 j hj f f1 f2
      · rw [if_neg e, if_neg e]
  · exact absurd ⟨by omega, by omega⟩ a1
theorem pX6_bring_new (h : q_S8 st pl P σ n g) (c : sCI T σ) (ts : T st = some 6) {m k s x4 : Int32} (hx : x4 = -1) (hn : n < 20) : pw (fX6_bringToEnd_39 st m k s x4 0 σ) (fun R => ∃ p, R.1 = some p ∧ q_S8 st pl (q_app P n p) R.2 (n + 1) (q_app g n (q_new m k s))) := by
  unfold fX6_bringToEnd_39
  obtain ⟨tpl, tP⟩ := h.tp c ts
  refine pw_sh fun _ => pw_onP (pX6_pageAt h x4) fun q hq => ?_
  obtain ⟨e2, hq⟩ := hq
  rw [e2]
  have hm : x4.toInt = -1 := by rw [hx]; rfl
  rcases hq with ⟨a1, a2, a3⟩ | ⟨-, a1⟩
  · omega
  · rw [a1]
    refine pw_nu (fun _ => ?_) (fun q e => by cases e)
    refine pw_let (pw_onP (sw_newPage c).p fun s2 hh => ?_)
    obtain ⟨T', tx, c2, f2, t2⟩ := hh
    have h2 : q_S8 st pl P s2 n g := h.fr c ts f2 rfl rfl rfl
    exact (pX6_bring_70n h2 c2 (tx _ _ ts) t2 hn (fun i hi e => by have := c.2.2.2.2 (P i) 3 (tP i hi); omega)).mono (fun R hR => ⟨_, hR⟩)
theorem pX6_bring_full (h : q_S8 st pl P σ n g) (c : sCI T σ) (ts : T st = some 6) (hpn : pn σ st) {m k s : Int32} (hn : n = 20) : pw (fX6_bringToEnd_39 st m k s 0 0 σ) (fun R => R.1 = some (P 0) ∧ q_S8 st pl (q_app (q_shf P 0) 19 (P 0)) R.2 20 (q_app (q_shf g 0) 19 (q_new m k s))) := by
  unfold fX6_bringToEnd_39
  obtain ⟨tpl, tP⟩ := h.tp c ts
  refine pw_sh fun _ => pw_onP (pX6_pageAt h 0) fun q hq => ?_
  obtain ⟨e2, hq⟩ := hq
  rw [e2]
  have hz : (0 : Int32).toInt = 0 := rfl
  rcases hq with ⟨a1, a2, a3⟩ | ⟨a1, -⟩
  · rw [a3, show (0 : Int32).toInt.toNat = 0 from rfl]
    show pw (mm_sh σ st (.inl 6) _) _
    refine pw_sh fun _ => ?_
    have hne : ∀ i, i < n → P i ≠ st := fun i hi => q_nek (tP i hi) ts (by decide)
    refine pw_onP (fun y e => And.intro ((sX6_takeOut c ts hpn).p y e) (pX6_takeOut h hne (q_nek ts tpl (by decide)) (k := 0) rfl (by omega) y e)) fun s2 hh => ?_
    obtain ⟨⟨c2, f2, -⟩, h2, r4, r5⟩ := hh
    subst hn
    refine (pX6_bring_70n h2 c2 ts (tP 0 (by omega)) (by omega) (fun i hi e => ?_))
    unfold q_shf at e
    rw [if_neg (by omega)] at e
    have := h.2.2.2.2.2 (i + 1) 0 (by omega) (by omega) e
    omega
  · exact absurd ⟨by omega, by omega⟩ a1
theorem pX6_bringToEnd (h : q_S8 st pl P σ n g) (c : sCI T σ) (ts : T st = some 6) (hpn : pn σ st) {m k s : Int32} : pw (fX6_bringToEnd st m k s σ) (fun R => ∃ n' g' P', 1 ≤ n' ∧ R.1 = some (P' (n' - 1)) ∧ q_S8 st pl P' R.2 n' g' ∧ q_bn n g P m k s n' g' P') := by
  unfold fX6_bringToEnd
  have h20 := h.2.2.1
  refine pw_sh fun _ => pw_onP (pX6_placeOf h) fun q hq => ?_
  obtain ⟨e2, hq⟩ := hq
  rw [e2]
  unfold fX6_bringToEnd_20
  rcases hq with ⟨a1, a2⟩ | ⟨a1, a2, a3, -⟩
  · rw [if_pos a1, if_pos rfl]
    refine pw_sh fun _ => pw_ite (fun b => ?_) (fun b => ?_)
    · have hn : n = 20 := by have := h.2.1; rw [b] at this; have hz : (20 : Int32).toInt = 20 := rfl; omega
      refine (pX6_bring_full h c ts hpn hn).mono (fun R hR => ⟨20, _, _, by omega, ?_, hR.2, Or.inr (Or.inr ⟨a2, hn, rfl, rfl, _, rfl⟩)⟩)
      rw [q_appl]; exact hR.1
    · have hn : n ≠ 20 := fun e => b (by rw [zi_eq, h.2.1, e]; rfl)
      refine (pX6_bring_new h c ts a1 (by omega)).mono (fun R hR => ?_)
      obtain ⟨p, r1, r2⟩ := hR
      refine ⟨n + 1, _, _, by omega, ?_, r2, Or.inr (Or.inl ⟨a2, by omega, rfl, rfl, p, rfl⟩)⟩
      rw [Nat.add_sub_cancel, q_appl]; exact r1
  · have hm : q.1 ≠ -1 := fun e => by rw [e] at a1; exact absurd a1 (by decide)
    rw [if_neg hm, if_neg (by decide)]
    refine (pX6_bring_known h c ts hpn (j := q.1.toInt.toNat) (by omega) (by omega)).mono (fun R hR => ⟨n, _, _, by omega, ?_, hR.2, Or.inl ⟨q.1.toInt.toNat, by omega, a3, rfl, rfl, rfl⟩⟩)
    rw [q_appl]; exact hR.1
end ST8
/-! A channel by value: u 2 mode, u 3 row, u 4 column, u 5 look, u 6 depth (p4); the class's side -/
def a_put (u : Nat → Int32) : Nat → Int32 := if u 2 = 1 ∨ u 2 = 2 ∨ u 2 = 3 then q_app u 4 (if 32 ≤ u 4 then 32 else u 4 + 1) else u
def a_to (u : Nat → Int32) (b : Int32) : Int32 := if u 2 = 2 then (if b < u 6 then u 6 else b) else b
def a_lk (y : Int32) : Int32 := (if 8 ≤ ((y / 2) - (y / 2) / 16 * 16) then 0 else ((y / 2) - (y / 2) / 16 * 16)) + (if y &&& 1 = 0 then 0 else 8)
def a_cl (y : Int32) : Int32 := if 8 ≤ ((y / 2) - (y / 2) / 16 * 16) then 4 * (((y / 2) - (y / 2) / 16 * 16) - 8) else 0
def a_rw (u : Nat → Int32) (b y : Int32) : Nat → Int32 := if u 2 = 1 ∨ u 2 = 2 ∨ u 2 = 3 then q_app (q_app (q_app u 3 (a_to u b)) 5 (a_lk y)) 4 (a_cl y) else u
def a_sp (u : Nat → Int32) (y : Int32) : Nat → Int32 := if y < 48 then a_put (q_app u 5 (((y / 2) - (y / 2) / 8 * 8) + (if y &&& 1 = 0 then 0 else 8))) else a_put u
def a_bk (u : Nat → Int32) : Nat → Int32 := a_put (q_app u 4 (if u 4 ≤ 0 then 0 else u 4 - 1))
def a_sk (u : Nat → Int32) (p : Int32) : Nat → Int32 := if 32 ≤ u 4 then u else q_app u 4 (if 31 < u 4 + p then 31 else u 4 + p)
def a_roll (u : Nat → Int32) (d : Int32) : Nat → Int32 := q_app (q_app (q_app (q_app (q_app u 6 d) 3 (if u 2 = 2 then (if u 3 < d then d else u 3) else 15)) 2 2) 4 0) 5 0
def a_ctl (u : Nat → Int32) (p : Int32) : Nat → Int32 := if p = 0 then q_app u 2 1 else if p = 1 then (if u 2 = 1 ∨ u 2 = 2 ∨ u 2 = 3 then (if u 4 ≤ 0 then u else q_app u 4 (u 4 - 1)) else u) else if p = 4 then u else if p = 5 then a_roll u (p - 3) else if p = 6 then a_roll u (p - 3) else if p = 7 then a_roll u (p - 3) else if p = 9 then q_app u 2 3 else if p = 10 then q_app u 2 4 else if p = 11 then q_app u 2 4 else if p = 12 then u else if p = 13 then (if u 2 = 2 then q_app (q_app u 4 0) 5 0 else u) else if p = 14 then u else if p = 15 then q_app u 2 1 else u
def a_rowb (x y : Int32) : Int32 := fX9_rowOf x + (if y &&& 32 = 0 then 0 else 1)
def a_code (u : Nat → Int32) (x y : Int32) : Nat → Int32 := if y < 64 then (if x = 17 then a_sp u y else if x = 18 then a_bk u else if x = 19 then a_bk u else if x = 20 then a_ctl u (y - 32) else if x = 21 then a_ctl u (y - 32) else if x = 23 then (if y < 33 then u else if 35 < y then u else a_sk u (y - 32)) else u) else (if x = 16 then (if y &&& 32 = 0 then a_rw u (a_rowb x y) y else u) else a_rw u (a_rowb x y) y)
/-- a channel's ints in range -/
def a_I (u : Nat → Int32) : Prop := (u 2 = 0 ∨ u 2 = 1 ∨ u 2 = 2 ∨ u 2 = 3 ∨ u 2 = 4) ∧ 0 ≤ (u 4).toInt ∧ (u 4).toInt ≤ 32
def ch8 (T : Nat → Option Nat) (p : Nat) (σ R : mm_M) (u : Nat → Int32) : Prop := (∀ f, 2 ≤ f → f ≤ 6 → mm_I R p f = u f) ∧ ∀ a, T a = some 0 → a ≠ p → ∀ f, mm_I R a f = mm_I σ a f
section CH8
variable {T : Nat → Option Nat} {σ ρ : mm_M} {p : Nat} {u : Nat → Int32}
theorem ch_w {k : Nat} {v : Int32} (h : ch8 T p ρ σ u) : ch8 T p ρ (mm_wI σ p k v) (q_app u k v) := by
  refine ⟨fun f f1 f2 => ?_, fun a ta ha f => (mm_up2_ne ha f).trans (h.2 a ta ha f)⟩
  unfold q_app
  by_cases e : f = k
  · subst e; rw [if_pos rfl]; exact mm_up2_self
  · rw [if_neg e]; exact (mm_up2_nk _ e).trans (h.1 f f1 f2)
theorem ch_fr {K : List Nat} {σ' : mm_M} (h : ch8 T p ρ σ u) (tp : T p = some 0) (f : sFR T K σ σ') (hK : K.contains 0 = false) : ch8 T p ρ σ' u :=
  ⟨fun k k1 k2 => ((f.2.2 p 0 tp k hK).1).trans (h.1 k k1 k2), fun a ta ha k => ((f.2.2 a 0 ta k hK).1).trans (h.2 a ta ha k)⟩
theorem pX0_putScreen (h : ch8 T p ρ σ u) (c : sCI T σ) (tp : T p = some 0) : pw (fX0_putScreen p σ) (fun R => R.2 = σ ∧ ((¬ (u 2 = 1 ∨ u 2 = 2 ∨ u 2 = 3) ∧ R.1 = none) ∨ ((u 2 = 1 ∨ u 2 = 2 ∨ u 2 = 3) ∧ ∃ q, R.1 = some q ∧ T q = some 5))) := by
  unfold fX0_putScreen
  rw [h.1 2 (by omega) (by omega)]
  obtain ⟨q0, e0, t0⟩ := ci_ref c tp 0 (κ' := 5) rfl
  obtain ⟨q1, e1, t1⟩ := ci_ref c tp 1 (κ' := 5) rfl
  refine pw_sh fun _ => pw_ite (fun a => pw_some ⟨rfl, Or.inr ⟨Or.inl a, q1, e1, t1⟩⟩) (fun a => pw_ite (fun b => pw_some ⟨rfl, Or.inr ⟨Or.inr (Or.inl b), q0, e0, t0⟩⟩) (fun b => pw_ite (fun d => pw_some ⟨rfl, Or.inr ⟨Or.inr (Or.inr d), q0, e0, t0⟩⟩) (fun d => pw_some ⟨rfl, Or.inl ⟨fun h => h.elim a (fun h => h.elim b d), rfl⟩⟩)))
theorem pX0_put (h : ch8 T p ρ σ u) (c : sCI T σ) (tp : T p = some 0) (hi : a_I u) {l : Int32} : pw (fX0_put p l σ) (fun R => ch8 T p ρ R (a_put u)) := by
  unfold fX0_put a_put
  refine pw_sh fun _ => pw_onP (pX0_putScreen h c tp) fun q2 hq => ?_
  obtain ⟨e2, hq⟩ := hq
  rw [e2]
  rcases hq with ⟨a, a1⟩ | ⟨a, q, a1, tq⟩
  · rw [a1, if_neg a]; exact pw_nu (fun _ => pw_some h) (fun q e => by cases e)
  · rw [a1, if_pos a]
    refine pw_nu (fun e => by cases e) (fun q' e => ?_)
    have := Option.some.inj e; subst this
    refine pw_sh fun _ => pw_sh fun _ => pw_onP (sX5_write c tq).p fun s2 ⟨c2, f2, _⟩ => pw_sh fun _ => pw_let (pw_some ?_)
    have h2 := ch_fr h tp f2 rfl
    rw [h2.1 4 (by omega) (by omega)]
    have e1 := zi_p1 (x := u 4) (by have := hi.2.2; omega)
    have : (if 32 < u 4 + 1 then (32 : Int32) else u 4 + 1) = (if 32 ≤ u 4 then 32 else u 4 + 1) := by
      have e32 : (32 : Int32).toInt = 32 := rfl
      by_cases hc : 32 ≤ (u 4).toInt
      · rw [if_pos (by rw [zi_lt]; omega), if_pos (by rw [zi_le]; omega)]
      · rw [if_neg (by rw [zi_lt]; omega), if_neg (by rw [zi_le]; omega)]
    rw [this]
    exact ch_w h2
theorem a_I.app {k : Nat} {v : Int32} (hi : a_I u) (h2 : k ≠ 2) (h4 : k = 4 → 0 ≤ v.toInt ∧ v.toInt ≤ 32) : a_I (q_app u k v) := by
  unfold a_I q_app
  rw [if_neg (fun h => h2 h.symm)]
  refine ⟨hi.1, ?_⟩
  by_cases e : 4 = k
  · rw [if_pos e]; exact h4 e.symm
  · rw [if_neg e]; exact hi.2
theorem pX0_special (h : ch8 T p ρ σ u) (c : sCI T σ) (tp : T p = some 0) (hi : a_I u) {y : Int32} : pw (fX0_obeyLookOrSpecial p y σ) (fun R => ch8 T p ρ R (a_sp u y)) := by
  unfold fX0_obeyLookOrSpecial a_sp
  have k38 : ∀ y0 y1 : Int32, pw (fX0_obeyLookOrSpecial_38 p y y0 y1 p σ) (fun R => ch8 T p ρ R (a_put (q_app u 5 (y1 + y0)))) := by
    intro y0 y1
    unfold fX0_obeyLookOrSpecial_38
    have c1 := ci_wI (j := 5) (v := y1 + y0) c tp (kr_n rfl)
    exact pw_sh fun _ => pw_let (pw_sh fun _ => pw_onP (pX0_put (ch_w h) c1 tp (hi.app (by decide) (fun e => absurd e (by decide)))) fun q hq => pw_some hq)
  refine pw_ite (fun a => ?_) (fun a => ?_)
  · rw [if_pos a]
    refine pw_ite (fun b => ?_) (fun b => ?_)
    · rw [if_pos b]; exact k38 _ _
    · rw [if_neg b]; exact k38 _ _
  · rw [if_neg a]
    exact pw_sh fun _ => pw_onP (pX0_put h c tp hi) fun q hq => pw_some hq
theorem pX0_back (h : ch8 T p ρ σ u) (c : sCI T σ) (tp : T p = some 0) (hi : a_I u) {x y : Int32} : pw (fX0_obey_54 p x y σ) (fun R => ch8 T p ρ R (a_bk u)) := by
  unfold fX0_obey_54 a_bk
  rw [h.1 4 (by omega) (by omega)]
  have em := zi_m1 (x := u 4) (by have := hi.2.1; omega)
  have : (if u 4 - 1 < 0 then (0 : Int32) else u 4 - 1) = (if u 4 ≤ 0 then 0 else u 4 - 1) := by
    have e0 : (0 : Int32).toInt = 0 := rfl
    by_cases hc : (u 4).toInt ≤ 0
    · rw [if_pos (by rw [zi_lt]; omega), if_pos (by rw [zi_le]; omega)]
    · rw [if_neg (by rw [zi_lt]; omega), if_neg (by rw [zi_le]; omega)]
  rw [this]
  have hr : 0 ≤ (if u 4 ≤ 0 then (0 : Int32) else u 4 - 1).toInt ∧ (if u 4 ≤ 0 then (0 : Int32) else u 4 - 1).toInt ≤ 32 := by
    have e0 : (0 : Int32).toInt = 0 := rfl
    have := hi.2
    split
    · decide
    · rename_i hc; rw [zi_le] at hc; omega
  have c1 := ci_wI (j := 4) (v := if u 4 ≤ 0 then 0 else u 4 - 1) c tp (kr_n rfl)
  exact pw_sh fun _ => pw_let (pw_onP (pX0_put (ch_w h) c1 tp (hi.app (by decide) (fun _ => hr))) fun q hq => pw_some hq)
theorem pX0_skip (h : ch8 T p ρ σ u) {y : Int32} : pw (fX0_skipColumns p y σ) (fun R => ch8 T p ρ R (a_sk u y)) := by
  unfold fX0_skipColumns a_sk
  rw [h.1 4 (by omega) (by omega)]
  refine pw_sh fun _ => pw_ite (fun a => ?_) (fun a => ?_)
  · rw [if_pos a]; exact pw_some h
  · rw [if_neg a]; exact pw_let (pw_some (ch_w h))
theorem pX0_roll (h : ch8 T p ρ σ u) (c : sCI T σ) (tp : T p = some 0) {d : Int32} (hd : 2 ≤ d.toInt ∧ d.toInt ≤ 4) : pw (fX0_beginRoll p d σ) (fun R => ch8 T p ρ R (a_roll u d)) := by
  unfold fX0_beginRoll a_roll
  have h1 := ch_w (k := 6) (v := d) h
  have c1 := ci_wI (j := 6) (v := d) c tp (kr_s (lo := 2) (hi := 4) rfl hd)
  have e2 : mm_I (mm_wI σ p 6 d) p 2 = u 2 := h1.1 2 (by omega) (by omega)
  obtain ⟨q0, e0, t0⟩ := ci_ref c1 tp 0 (κ' := 5) rfl
  have fin : ∀ {s : mm_M} {v : Nat → Int32}, ch8 T p ρ s v → pw (fX0_beginRoll_69 p d s) (fun R => ch8 T p ρ R (q_app (q_app (q_app v 2 2) 4 0) 5 0)) := by
    intro s v hs
    unfold fX0_beginRoll_69
    exact pw_sh fun _ => pw_let (pw_let (pw_let (pw_some (ch_w (ch_w (ch_w hs))))))
  refine pw_sh fun _ => pw_let ?_
  rw [e2]
  refine pw_ite (fun a => pw_onS e0 (pw_sh fun _ => pw_onP (sX5_eraseRowsAbove c1 t0).p fun s2 ⟨c2, f2, _⟩ => pw_sh fun _ => pw_let ?_)) (fun a => ?_)
  · have h2 := ch_fr h1 tp f2 rfl
    rw [h2.1 3 (by omega) (by omega), h2.1 6 (by omega) (by omega), if_pos a]
    exact fin (ch_w h2)
  · rw [if_neg a]
    refine pw_onS e0 (pw_sh fun _ => pw_onP (sX5_eraseAll c1 t0).p fun s2 ⟨c2, f2, _⟩ => pw_sh fun _ => ?_)
    obtain ⟨q1, e1, t1⟩ := ci_ref c2 tp 1 (κ' := 5) rfl
    refine pw_onS e1 (pw_sh fun _ => pw_onP (sX5_eraseAll c2 t1).p fun s3 ⟨c3, f3, _⟩ => pw_sh fun _ => pw_let ?_)
    exact fin (ch_w (ch_fr (ch_fr h1 tp f2 rfl) tp f3 rfl))
theorem pX0_rollUp_21 (tp : T p = some 0) : ∀ (n : Nat) (x : Int32) (σ : mm_M), ch8 T p ρ σ u → sCI T σ → pw (fX0_rollUp_21 n p x σ) (fun R => ch8 T p ρ R (q_app (q_app u 4 0) 5 0)) := by
  intro n
  induction n with
  | zero => intros; exact pw_none
  | succ n ih =>
    intro x σ h c
    unfold fX0_rollUp_21
    obtain ⟨q0, e0, t0⟩ := ci_ref c tp 0 (κ' := 5) rfl
    refine pw_sh fun _ => pw_ite (fun a => pw_let (pw_let (pw_some (ch_w (ch_w h))))) (fun a => pw_onS e0 (pw_sh fun _ => pw_onP (sX5_moveRow c t0).p fun s2 ⟨c2, f2, _⟩ => ?_))
    exact ih _ _ (ch_fr h tp f2 rfl) c2
theorem pX0_ctl (h : ch8 T p ρ σ u) (c : sCI T σ) (tp : T p = some 0) {y : Int32} : pw (fX0_obeyControl p y σ) (fun R => ch8 T p ρ R (a_ctl u y)) := by
  unfold fX0_obeyControl a_ctl
  obtain ⟨q0, e0, t0⟩ := ci_ref c tp 0 (κ' := 5) rfl
  obtain ⟨q1, e1, t1⟩ := ci_ref c tp 1 (κ' := 5) rfl
  refine pw_ite (fun a => ?_) (fun a => ?_)
  · rw [if_pos a]; exact pw_sh fun _ => pw_let (pw_some (ch_w h))
  rw [if_neg a]
  refine pw_ite (fun a => ?_) (fun a => ?_)
  · rw [if_pos a]
    refine pw_sh fun _ => pw_onP (P := fun R => ch8 T p ρ R (if u 2 = 1 ∨ u 2 = 2 ∨ u 2 = 3 then (if u 4 ≤ 0 then u else q_app u 4 (u 4 - 1)) else u)) ?_ fun q hq => pw_some hq
    unfold fX0_eraseBack
    refine pw_sh fun _ => pw_onP (pX0_putScreen h c tp) fun q2 hq => ?_
    obtain ⟨e2, hq⟩ := hq
    rw [e2]
    rcases hq with ⟨a, a1⟩ | ⟨a, q, a1, tq⟩
    · rw [a1, if_neg a]; exact pw_nu (fun _ => pw_some h) (fun q e => by cases e)
    · rw [a1, if_pos a]
      refine pw_nu (fun e => by cases e) (fun q' e => ?_)
      have := Option.some.inj e; subst this
      rw [h.1 4 (by omega) (by omega)]
      refine pw_sh fun _ => pw_ite (fun b => ?_) (fun b => pw_let (pw_sh fun _ => ?_))
      · rw [if_pos b]; exact pw_some h
      · rw [if_neg b]
        have c1 := ci_wI (j := 4) (v := u 4 - 1) c tp (kr_n rfl)
        exact pw_onP (sX5_write c1 tq).p fun s2 ⟨c2, f2, _⟩ => pw_some (ch_fr (ch_w h) tp f2 rfl)
  rw [if_neg a]
  refine pw_ite (fun a => ?_) (fun a => ?_)
  · rw [if_pos a]; exact pw_sh fun _ => pw_onP (sX0_eraseOn c tp).p fun s2 ⟨c2, f2, _⟩ => pw_some (ch_fr h tp f2 rfl)
  rw [if_neg a]
  refine pw_ite (fun a => ?_) (fun a => ?_)
  · rw [if_pos a]; exact pw_sh fun _ => pw_onP (pX0_roll h c tp (by rw [a]; decide)) fun q hq => pw_some hq
  rw [if_neg a]
  refine pw_ite (fun a => ?_) (fun a => ?_)
  · rw [if_pos a]; exact pw_sh fun _ => pw_onP (pX0_roll h c tp (by rw [a]; decide)) fun q hq => pw_some hq
  rw [if_neg a]
  refine pw_ite (fun a => ?_) (fun a => ?_)
  · rw [if_pos a]; exact pw_sh fun _ => pw_onP (pX0_roll h c tp (by rw [a]; decide)) fun q hq => pw_some hq
  rw [if_neg a]
  refine pw_ite (fun a => ?_) (fun a => ?_)
  · rw [if_pos a]; exact pw_sh fun _ => pw_let (pw_some (ch_w h))
  rw [if_neg a]
  refine pw_ite (fun a => ?_) (fun a => ?_)
  · rw [if_pos a]; exact pw_sh fun _ => pw_let (pw_some (ch_w h))
  rw [if_neg a]
  refine pw_ite (fun a => ?_) (fun a => ?_)
  · rw [if_pos a]; exact pw_sh fun _ => pw_let (pw_some (ch_w h))
  rw [if_neg a]
  refine pw_ite (fun a => ?_) (fun a => ?_)
  · rw [if_pos a]; exact pw_sh fun _ => pw_onS e0 (pw_sh fun _ => pw_onP (sX5_eraseAll c t0).p fun s2 ⟨c2, f2, _⟩ => pw_some (ch_fr h tp f2 rfl))
  rw [if_neg a]
  refine pw_ite (fun a => ?_) (fun a => ?_)
  · rw [if_pos a]
    refine pw_sh fun _ => pw_onP (P := fun R => ch8 T p ρ R (if u 2 = 2 then q_app (q_app u 4 0) 5 0 else u)) ?_ fun q hq => pw_some hq
    unfold fX0_rollUp
    rw [h.1 2 (by omega) (by omega)]
    refine pw_sh fun _ => pw_ite (fun b => ?_) (fun b => ?_)
    · rw [if_pos b]; exact pX0_rollUp_21 tp _ _ _ h c
    · rw [if_neg b]; exact pw_some h
  rw [if_neg a]
  refine pw_ite (fun a => ?_) (fun a => ?_)
  · rw [if_pos a]; exact pw_sh fun _ => pw_onS e1 (pw_sh fun _ => pw_onP (sX5_eraseAll c t1).p fun s2 ⟨c2, f2, _⟩ => pw_some (ch_fr h tp f2 rfl))
  rw [if_neg a]
  refine pw_ite (fun a => ?_) (fun a => ?_)
  · rw [if_pos a]
    refine pw_sh fun _ => pw_onP (P := fun R => ch8 T p ρ R (q_app u 2 1)) ?_ fun q hq => pw_some hq
    unfold fX0_changeScreens
    refine pw_sh fun _ => pw_let (pw_let (pw_let (pw_some ?_)))
    have h' : ch8 T p ρ (mm_wR (mm_wR σ p 0 (mm_R σ p 1)) p 1 (mm_R σ p 0)) u := h
    exact ch_w h'
  rw [if_neg a]
  exact pw_some h
end CH8
theorem t_row : ∀ k : Fin 8, ([11, 1, 3, 12, 14, 5, 7, 9] : List Int32).getD k.val 0 = fX9_rowOf (Int32.ofNat (16 + k.val)) := by decide
section CH8B
variable {T : Nat → Option Nat} {σ ρ : mm_M} {p : Nat} {u : Nat → Int32}
theorem pX0_row_74 (h : ch8 T p ρ σ u) (tp : T p = some 0) {x y b : Int32} : pw (fX0_goToRow_74 p x y b σ) (fun R => ch8 T p ρ R (q_app (q_app (q_app u 3 b) 5 (a_lk y)) 4 (a_cl y))) := by
  unfold fX0_goToRow_74 a_lk a_cl
  have h1 := ch_w (k := 3) (v := b) h
  have k101 : ∀ k y0 l : Int32, y0 + (if y &&& 1 = 0 then 0 else 8) = l → pw (fX0_goToRow_101 p x y b k y0 p (mm_wI σ p 3 b)) (fun R => ch8 T p ρ R (q_app (q_app (q_app u 3 b) 5 l) 4 (if 8 ≤ k then 4 * (k - 8) else 0))) := by
    intro k y0 l hl
    unfold fX0_goToRow_101 fX0_goToRow_113
    have fin : ∀ z : Int32, y0 + z = l → pw (mm_sh (mm_wI σ p 3 b) p (.inl 0) (mm_let (mm_wI (mm_wI σ p 3 b) p 5 (y0 + z)) fun s14 => (if 8 ≤ k then mm_sh s14 p (.inl 0) (mm_let (mm_wI s14 p 4 (4 * (k - 8))) fun s17 => some (s17)) else mm_sh s14 p (.inl 0) (mm_let (mm_wI s14 p 4 0) fun s19 => some (s19))))) (fun R => ch8 T p ρ R (q_app (q_app (q_app u 3 b) 5 l) 4 (if 8 ≤ k then 4 * (k - 8) else 0))) := by
      intro z hz
      rw [hz]
      refine pw_sh fun _ => pw_let (pw_ite (fun a => ?_) (fun a => ?_))
      · rw [if_pos a]; exact pw_sh fun _ => pw_let (pw_some (ch_w (ch_w h1)))
      · rw [if_neg a]; exact pw_sh fun _ => pw_let (pw_some (ch_w (ch_w h1)))
    refine pw_ite (fun a => ?_) (fun a => ?_)
    · rw [if_pos a] at hl; exact fin 0 hl
    · rw [if_neg a] at hl; exact fin 8 hl
  refine pw_sh fun _ => pw_let (pw_ite (fun a => ?_) (fun a => ?_))
  · rw [if_pos a]
    have := k101 ((y / 2) - (y / 2) / 16 * 16) 0 _ rfl
    rw [if_pos a] at this ⊢
    exact this
  · rw [if_neg a]
    have := k101 ((y / 2) - (y / 2) / 16 * 16) ((y / 2) - (y / 2) / 16 * 16) _ rfl
    rw [if_neg a] at this ⊢
    exact this
theorem pX0_row (h : ch8 T p ρ σ u) (c : sCI T σ) (tp : T p = some 0) (hi : a_I u) {x y : Int32} (hx : 16 ≤ x.toInt ∧ x.toInt ≤ 23) : pw (fX0_goToRow p x y σ) (fun R => ch8 T p ρ R (a_rw u (a_rowb x y) y)) := by
  unfold fX0_goToRow a_rw
  rw [h.1 2 (by omega) (by omega)]
  have ex : (x - 16).toInt = x.toInt - 16 := by rw [zi_sub, show (16 : Int32).toInt = 16 from rfl, zi_bm (by omega) (by omega)]
  have ho : fX8_isOutside (x - 16) 8 = 0 := by rw [zp.1, ex, show (8 : Int32).toInt = 8 from rfl]; omega
  have ecl : (x - 16).toNatClampNeg = (x.toInt - 16).toNat := by rw [zi_clamp, ex]
  have exx : Int32.ofNat (16 + (x.toInt - 16).toNat) = x := by
    have := Int32.ofNat_toNatClampNeg (x := x) (by rw [zi_le, show (0 : Int32).toInt = 0 from rfl]; omega)
    rw [zi_clamp] at this
    rw [show 16 + (x.toInt - 16).toNat = x.toInt.toNat by omega]; exact this
  have tb : ([11, 1, 3, 12, 14, 5, 7, 9] : List Int32).getD (x - 16).toNatClampNeg 0 = fX9_rowOf x := by
    have := t_row ⟨(x.toInt - 16).toNat, by omega⟩
    rw [ecl, this, exx]
  have k50 : u 2 = 1 ∨ u 2 = 2 ∨ u 2 = 3 → ∀ y0 y1 : Int32, pw (fX0_goToRow_50 p x y y0 y1 σ) (fun R => ch8 T p ρ R (q_app (q_app (q_app u 3 (a_to u (y1 + y0))) 5 (a_lk y)) 4 (a_cl y))) := by
    intro hm y0 y1
    unfold fX0_goToRow_50 a_to
    rw [h.1 2 (by omega) (by omega), h.1 6 (by omega) (by omega)]
    refine pw_sh fun _ => pw_ite (fun a => ?_) (fun a => ?_)
    · rw [if_pos a]
      exact pw_onP (sX0_moveRolledRows c tp).p fun s2 ⟨c2, f2, _⟩ => pX0_row_74 (ch_fr h tp f2 rfl) tp
    · rw [if_neg a]
      exact pX0_row_74 h tp
  refine pw_sh fun _ => pw_ite (fun a => ?_) (fun a => pw_ite (fun b => ?_) (fun b => ?_))
  · rw [if_neg (by rw [a]; decide)]; exact pw_some h
  · rw [if_neg (by rw [b]; decide)]; exact pw_some h
  · have hm : u 2 = 1 ∨ u 2 = 2 ∨ u 2 = 3 := by
      rcases hi.1 with h1 | h1 | h1 | h1 | h1
      · exact absurd h1 a
      · exact Or.inl h1
      · exact Or.inr (Or.inl h1)
      · exact Or.inr (Or.inr h1)
      · exact absurd h1 b
    rw [if_pos hm, if_pos ho, tb]
    unfold a_rowb
    refine pw_ib fun _ _ => pw_ite (fun d => ?_) (fun d => ?_)
    · rw [if_pos d]; exact k50 hm 0 _
    · rw [if_neg d]; exact k50 hm 1 _
theorem pX0_obey (h : ch8 T p ρ σ u) (c : sCI T σ) (tp : T p = some 0) (hi : a_I u) {x y : Int32} (hx : 16 ≤ x.toInt ∧ x.toInt ≤ 23) : pw (fX0_obey p x y σ) (fun R => ch8 T p ρ R (a_code u x y)) := by
  unfold fX0_obey a_code
  have k54 : pw (fX0_obey_54 p x y σ) (fun R => ch8 T p ρ R (a_bk u)) := pX0_back h c tp hi
  have k103 : pw (fX0_obey_103 p x y σ) (fun R => ch8 T p ρ R (a_ctl u (y - 32))) := by
    unfold fX0_obey_103
    exact pw_sh fun _ => pw_onP (pX0_ctl h c tp) fun q hq => pw_some hq
  have k19 : pw (fX0_obey_19 p x y σ) (fun R => ch8 T p ρ R (a_rw u (a_rowb x y) y)) := by
    unfold fX0_obey_19
    exact pw_sh fun _ => pw_onP (pX0_row h c tp hi hx) fun q hq => pw_some hq
  refine pw_ite (fun a => ?_) (fun a => ?_)
  · rw [if_pos a]
    refine pw_ite (fun b => ?_) (fun b => ?_)
    · rw [if_pos b]; exact pw_sh fun _ => pw_onP (pX0_special h c tp hi) fun q hq => pw_some hq
    rw [if_neg b]
    refine pw_ite (fun b => ?_) (fun b => ?_)
    · rw [if_pos b]; exact k54
    rw [if_neg b]
    refine pw_ite (fun b => ?_) (fun b => ?_)
    · rw [if_pos b]; exact k54
    rw [if_neg b]
    refine pw_ite (fun b => ?_) (fun b => ?_)
    · rw [if_pos b]; exact k103
    rw [if_neg b]
    refine pw_ite (fun b => ?_) (fun b => ?_)
    · rw [if_pos b]; exact k103
    rw [if_neg b]
    refine pw_ite (fun b => ?_) (fun b => ?_)
    · rw [if_pos b]
      refine pw_ite (fun d => ?_) (fun d => ?_)
      · rw [if_pos d]; exact pw_some h
      rw [if_neg d]
      refine pw_ite (fun d => ?_) (fun d => ?_)
      · rw [if_pos d]; exact pw_some h
      · rw [if_neg d]; exact pw_sh fun _ => pw_onP (pX0_skip h) fun q hq => pw_some hq
    · rw [if_neg b]; exact pw_some h
  · rw [if_neg a]
    refine pw_ite (fun b => ?_) (fun b => ?_)
    · rw [if_pos b]
      refine pw_ite (fun d => ?_) (fun d => ?_)
      · rw [if_pos d]; exact k19
      · rw [if_neg d]; exact pw_some h
    · rw [if_neg b]; exact k19
end CH8B
def a_n (p2 p3 : Int32) : Nat := if fX8_isRight p2 = 0 then 0 else if p2 &&& 127 < 32 then (if p2 &&& 127 = 0 then (if fX8_isRight p3 = 0 then 0 else if p3 &&& 127 < 32 then 0 else 1) else 0) else (if fX8_isRight p3 = 0 then 2 else if p3 &&& 127 < 32 then 1 else 2)
def a_puts (u : Nat → Int32) (n : Nat) : Nat → Int32 := match n with
  | 0 => u
  | 1 => a_put u
  | _ => a_put (a_put u)
/-- the four channels -/
def q_C8 (o8 ca : Nat) (C : Nat → Nat) (σ : mm_M) (w : Nat → Nat → Int32) : Prop := mm_R σ o8 0 = some ca ∧ (∀ i, i < 4 → mm_R σ ca i = some (C i)) ∧ (∀ i j, i < 4 → j < 4 → C i = C j → i = j) ∧ ∀ i, i < 4 → ∀ f, 2 ≤ f → f ≤ 6 → mm_I σ (C i) f = w i f
/-- what a pair makes of the channels: ch its field's channel, bf the code before -/
def a_pair (w : Nat → Nat → Int32) (f ch bf p2 p3 : Int32) : Nat → Nat → Int32 :=
  if fX8_isCode (p2 &&& 255) (p3 &&& 255) = 0 then (if 0 ≤ ch.toInt ∧ ch.toInt ≤ 3 then q_app w ch.toInt.toNat (a_puts (w ch.toInt.toNat) (a_n p2 p3)) else w)
  else (if (p2 &&& 127) * 128 + (p3 &&& 127) = bf then w else q_app w (2 * f + (if p2 &&& 8 = 0 then 0 else 1)).toInt.toNat (a_code (w (2 * f + (if p2 &&& 8 = 0 then 0 else 1)).toInt.toNat) ((p2 &&& 127) &&& (-9)) (p3 &&& 127)))
section CH8C
variable {T : Nat → Option Nat} {σ : mm_M} {o8 ca : Nat} {C : Nat → Nat} {w : Nat → Nat → Int32}
theorem q_C8.tp (h : q_C8 o8 ca C σ w) (c : sCI T σ) (t8 : T o8 = some 8) : T ca = some 10 ∧ ∀ i, i < 4 → T (C i) = some 0 := by
  obtain ⟨q, e, tq⟩ := ci_ref c t8 0 (κ' := 10) rfl
  have : q = ca := Option.some.inj (e.symm.trans h.1)
  subst this
  refine ⟨tq, fun i hi => ?_⟩
  obtain ⟨q', e', tq'⟩ := ci_chan c tq hi
  have : q' = C i := Option.some.inj (e'.symm.trans (h.2.1 i hi))
  subst this
  exact tq'
theorem q_C8.fr {K : List Nat} {σ' : mm_M} (h : q_C8 o8 ca C σ w) (c : sCI T σ) (t8 : T o8 = some 8) (f : sFR T K σ σ') (h0 : K.contains 0 = false) (h800 : K.contains 800 = false) (h10 : K.contains 10 = false) : q_C8 o8 ca C σ' w := by
  obtain ⟨tc, tC⟩ := h.tp c t8
  exact ⟨(f.2.2 o8 8 t8 0 h800).2.trans h.1, fun i hi => (f.2.2 ca 10 tc i h10).2.trans (h.2.1 i hi), h.2.2.1, fun i hi k k1 k2 => (f.2.2 (C i) 0 (tC i hi) k h0).1.trans (h.2.2.2 i hi k k1 k2)⟩
theorem q_C8.ch (h : q_C8 o8 ca C σ w) {j : Nat} (hj : j < 4) : ch8 T (C j) σ σ (w j) := ⟨fun f f1 f2 => h.2.2.2 j hj f f1 f2, fun _ _ _ _ => rfl⟩
theorem q_C8.up {K : List Nat} {σ' : mm_M} {u : Nat → Int32} (h : q_C8 o8 ca C σ w) (c : sCI T σ) (t8 : T o8 = some 8) (f : sFR T K σ σ') (h800 : K.contains 800 = false) (h10 : K.contains 10 = false) {j : Nat} (hj : j < 4) (hc : ch8 T (C j) σ σ' u) : q_C8 o8 ca C σ' (q_app w j u) := by
  obtain ⟨tc, tC⟩ := h.tp c t8
  refine ⟨(f.2.2 o8 8 t8 0 h800).2.trans h.1, fun i hi => (f.2.2 ca 10 tc i h10).2.trans (h.2.1 i hi), h.2.2.1, fun i hi k k1 k2 => ?_⟩
  unfold q_app
  by_cases e : i = j
  · subst e; rw [if_pos rfl]; exact hc.1 k k1 k2
  · rw [if_neg e, hc.2 (C i) (tC i hi) (fun e' => e (h.2.2.1 i j hi hj e')) k]
    exact h.2.2.2 i hi k k1 k2
theorem a_put_I {u : Nat → Int32} (hi : a_I u) : a_I (a_put u) := by
  unfold a_put
  split
  · refine hi.app (by decide) (fun _ => ?_)
    have e1 := zi_p1 (x := u 4) (by have := hi.2.2; omega)
    have := hi.2
    split
    · decide
    · rename_i hc; rw [zi_le, show (32 : Int32).toInt = 32 from rfl] at hc; omega
  · exact hi
theorem pX8_letters (h : q_C8 o8 ca C σ w) (c : sCI T σ) (t8 : T o8 = some 8) (hi : ∀ i, i < 4 → a_I (w i)) {f p2 p3 : Int32} : pw (fX8_takeLetters o8 f p2 p3 σ) (fun R => q_C8 o8 ca C R.2 (if 0 ≤ (rdA σ o8 1 f.toNatClampNeg).toInt ∧ (rdA σ o8 1 f.toNatClampNeg).toInt ≤ 3 then q_app w (rdA σ o8 1 f.toNatClampNeg).toInt.toNat (a_puts (w (rdA σ o8 1 f.toNatClampNeg).toInt.toNat) (a_n p2 p3)) else w)) := by
  unfold fX8_takeLetters
  obtain ⟨tc, tC⟩ := h.tp c t8
  refine pw_sh fun _ => pw_on fun q2 e2 => pw_ar fun _ _ => pw_ib fun _ _ => ?_
  rw [rdA_eq e2]
  generalize mm_I σ q2 f.toNatClampNeg = ch
  have ho : fX8_isOutside ch 4 = 0 ↔ 0 ≤ ch.toInt ∧ ch.toInt ≤ 3 := by rw [zp.1, show (4 : Int32).toInt = 4 from rfl]; omega
  refine pw_ite (fun a => ?_) (fun a => ?_)
  · have hch := ho.mp a
    rw [if_pos hch]
    have hj : ch.toInt.toNat < 4 := by omega
    have ecl : ch.toNatClampNeg = ch.toInt.toNat := zi_clamp ch
    rw [ecl]
    generalize ch.toInt.toNat = j at hj
    have same : q_C8 o8 ca C σ (q_app w j (a_puts (w j) 0)) := by
      have : q_app w j (a_puts (w j) 0) = w := by
        funext i; unfold q_app a_puts
        by_cases e : i = j
        · subst e; exact if_pos rfl
        · exact if_neg e
      rw [this]; exact h
    unfold a_n
    refine pw_ite (fun b => ?_) (fun b => ?_)
    · rw [if_pos b]; exact pw_some same
    rw [if_neg b]
    refine pw_ite (fun d => ?_) (fun d => ?_)
    · rw [if_pos d]
      refine pw_ite (fun e => ?_) (fun e => ?_)
      · rw [if_pos e]
        refine pw_ite (fun g => ?_) (fun g => ?_)
        · rw [if_pos g]; exact pw_some same
        rw [if_neg g]
        refine pw_ite (fun k => ?_) (fun k => ?_)
        · rw [if_pos k]; exact pw_some same
        · rw [if_neg k]
          refine pw_onS h.1 (pw_ar fun _ _ => pw_ib fun _ _ => pw_onS (h.2.1 j hj) (pw_sh fun _ => ?_))
          exact pw_onP (fun y e => And.intro ((sX0_put c (tC j hj)).p y e) (pX0_put (h.ch hj) c (tC j hj) (hi j hj) y e)) fun s2 hh => pw_some (h.up c t8 hh.1.2.1 rfl rfl hj hh.2)
      · rw [if_neg e]; exact pw_some same
    · rw [if_neg d]
      refine pw_onS h.1 (pw_ar fun _ _ => pw_ib fun _ _ => pw_onS (h.2.1 j hj) (pw_sh fun _ => ?_))
      refine pw_onP (fun y e => And.intro ((sX0_put c (tC j hj)).p y e) (pX0_put (h.ch hj) c (tC j hj) (hi j hj) y e)) fun s2 hh => ?_
      obtain ⟨⟨c2, f2, -⟩, h2⟩ := hh
      have H2 := h.up c t8 f2 rfl rfl hj h2
      refine pw_sh fun _ => pw_onS H2.1 (pw_ar fun _ _ => pw_ib fun _ _ => pw_onS (H2.2.1 j hj) ?_)
      unfold fX8_takeSecondLetter
      have one : ∀ l : Int32, pw (mm_sh s2 (C j) (.inl 0) (mm_on (fX0_put (C j) l s2) fun q6 => some (q6))) (fun R => q_C8 o8 ca C R (q_app w j (a_puts (w j) 2))) := by
        intro l
        refine pw_sh fun _ => pw_onP (fun y e => And.intro ((sX0_put c2 (tC j hj)).p y e) (pX0_put (ρ := σ) h2 c2 (tC j hj) (a_put_I (hi j hj)) y e)) fun s3 hh => pw_some ?_
        exact h.up (K := [0, 20, 21]) c t8 (fr_trans (fr_trans fr_refl f2 rfl) hh.1.2.1 rfl) rfl rfl hj hh.2
      refine pw_onP (P := fun R => q_C8 o8 ca C R (q_app w j (a_puts (w j) (if fX8_isRight p3 = 0 then 2 else if p3 &&& 127 < 32 then 1 else 2)))) ?_ fun s3 hh => pw_some hh
      refine pw_ite (fun e => ?_) (fun e => ?_)
      · rw [if_pos e]; exact one _
      rw [if_neg e]
      refine pw_ite (fun g => ?_) (fun g => ?_)
      · rw [if_pos g]; exact pw_some H2
      · rw [if_neg g]; exact one _
  · rw [if_neg (fun h' => a (ho.mpr h'))]; exact pw_some h
theorem pX8_code (h : q_C8 o8 ca C σ w) (c : sCI T σ) (t8 : T o8 = some 8) (hi : ∀ i, i < 4 → a_I (w i)) {f x y : Int32} (hf : f = 0 ∨ f = 1) (hx : 16 ≤ (x &&& (-9)).toInt ∧ (x &&& (-9)).toInt ≤ 23) : pw (fX8_takeCode o8 f x y σ) (fun R => q_C8 o8 ca C R.2 (q_app w (2 * f + (if x &&& 8 = 0 then 0 else 1)).toInt.toNat (a_code (w (2 * f + (if x &&& 8 = 0 then 0 else 1)).toInt.toNat) (x &&& (-9)) y))) := by
  have k15 : ∀ z : Int32, z = 0 ∨ z = 1 → pw (fX8_takeCode_15 o8 f x y z (2 * f) σ) (fun R => q_C8 o8 ca C R.2 (q_app w (2 * f + z).toInt.toNat (a_code (w (2 * f + z).toInt.toNat) (x &&& (-9)) y))) := by
    intro z hz
    have hj : (2 * f + z).toInt.toNat < 4 ∧ 0 ≤ (2 * f + z).toInt ∧ (2 * f + z).toInt ≤ 3 := by
      rcases hf with rfl | rfl <;> rcases hz with rfl | rfl <;> decide
    unfold fX8_takeCode_15
    obtain ⟨q1, e1, t1⟩ := ci_ref c t8 1 (κ' := 11) rfl
    obtain ⟨tc, tC⟩ := h.tp c t8
    refine pw_sh fun _ => pw_onS e1 (pw_ar fun _ _ => pw_ib fun _ _ => pw_let ?_)
    have c1 := ci_wI (j := f.toNatClampNeg) (v := 2 * f + z) c t1 (kr_n rfl)
    have f1 : sFR T [11] σ (mm_wI σ q1 f.toNatClampNeg (2 * f + z)) := fr_wI fr_refl t1 rfl
    have H1 : q_C8 o8 ca C (mm_wI σ q1 f.toNatClampNeg (2 * f + z)) w := h.fr c t8 f1 rfl rfl rfl
    have ecl : (2 * f + z).toNatClampNeg = (2 * f + z).toInt.toNat := zi_clamp _
    rw [ecl]
    refine pw_onS H1.1 (pw_ar fun _ _ => pw_ib fun _ _ => pw_onS (H1.2.1 _ hj.1) (pw_sh fun _ => ?_))
    exact pw_onP (fun y e => And.intro ((sX0_obey c1 (tC _ hj.1)).p y e) (pX0_obey (H1.ch hj.1) c1 (tC _ hj.1) (hi _ hj.1) hx y e)) fun s2 hh => pw_some (H1.up c1 t8 hh.1.2.1 rfl rfl hj.1 hh.2)
  unfold fX8_takeCode
  refine pw_ite (fun a => ?_) (fun a => ?_)
  · rw [if_pos a]; exact k15 0 (Or.inl rfl)
  · rw [if_neg a]; exact k15 1 (Or.inr rfl)
theorem x_m9 : ∀ k : Fin 16, 16 ≤ (Int32.ofNat (16 + k.val) &&& (-9)).toInt ∧ (Int32.ofNat (16 + k.val) &&& (-9)).toInt ≤ 23 := by decide
theorem x_m9' {x : Int32} (h : 16 ≤ x.toInt ∧ x.toInt ≤ 31) : 16 ≤ (x &&& (-9)).toInt ∧ (x &&& (-9)).toInt ≤ 23 := by
  have := x_m9 ⟨(x.toInt - 16).toNat, by omega⟩
  have e := Int32.ofNat_toNatClampNeg (x := x) (by rw [zi_le, show (0 : Int32).toInt = 0 from rfl]; omega)
  rw [zi_clamp] at e
  rw [show 16 + (x.toInt - 16).toNat = x.toInt.toNat by omega, e] at this
  exact this
theorem a_n255 (p2 p3 : Int32) : a_n (p2 &&& 255) (p3 &&& 255) = a_n p2 p3 := by
  unfold a_n
  rw [za_right, za_right, za_127, za_127]
theorem isCode_rg {p2 p3 : Int32} (h : fX8_isCode (p2 &&& 255) (p3 &&& 255) ≠ 0) : fX8_isRight p2 ≠ 0 ∧ 16 ≤ (p2 &&& 127).toInt ∧ (p2 &&& 127).toInt ≤ 31 ∧ fX8_isRight p3 ≠ 0 ∧ 32 ≤ (p3 &&& 127).toInt := by
  unfold fX8_isCode at h
  rw [za_right, za_right, za_127, za_127] at h
  by_cases a : fX8_isRight p2 = 0
  · rw [if_pos a] at h; exact absurd rfl h
  rw [if_neg a] at h
  by_cases b : (p2 &&& 127) < 16
  · rw [if_pos b] at h; exact absurd rfl h
  rw [if_neg b] at h
  by_cases d : 32 ≤ (p2 &&& 127)
  · rw [if_pos d] at h; exact absurd rfl h
  rw [if_neg d] at h
  by_cases e : fX8_isRight p3 = 0
  · rw [if_pos e] at h; exact absurd rfl h
  rw [if_neg e] at h
  by_cases g : (p3 &&& 127) < 32
  · rw [if_pos g] at h; exact absurd rfl h
  rw [zi_lt, show (16 : Int32).toInt = 16 from rfl] at b
  rw [zi_le, show (32 : Int32).toInt = 32 from rfl] at d
  rw [zi_lt, show (32 : Int32).toInt = 32 from rfl] at g
  exact ⟨a, by omega, by omega, e, by omega⟩
theorem pX8_pair (h : q_C8 o8 ca C σ w) (c : sCI T σ) (t8 : T o8 = some 8) (hi : ∀ i, i < 4 → a_I (w i)) {f p2 p3 : Int32} (hf : f = 0 ∨ f = 1) : pw (fX8_pair o8 f p2 p3 σ) (fun R => q_C8 o8 ca C R.2 (a_pair w f (rdA σ o8 1 f.toNatClampNeg) (rdA σ o8 2 f.toNatClampNeg) p2 p3)) := by
  unfold fX8_pair a_pair
  obtain ⟨q2, e2, t2⟩ := ci_ref c t8 2 (κ' := 12) rfl
  have ho : fX8_isOutside f 2 = 0 := by rcases hf with rfl | rfl <;> decide
  rw [if_pos ho]
  have wr : ∀ v : Int32, sCI T (mm_wI σ q2 f.toNatClampNeg v) ∧ q_C8 o8 ca C (mm_wI σ q2 f.toNatClampNeg v) w ∧ rdA (mm_wI σ q2 f.toNatClampNeg v) o8 1 f.toNatClampNeg = rdA σ o8 1 f.toNatClampNeg := fun v =>
    ⟨ci_wI c t2 (kr_n rfl), h.fr (K := [12]) c t8 (fr_wI fr_refl t2 rfl) rfl rfl rfl, rdA_k c t8 (κ' := 11) rfl t2 (by decide)⟩
  refine pw_ite (fun a => ?_) (fun a => ?_)
  · rw [if_pos a]
    refine pw_sh fun _ => pw_onS e2 (pw_ar fun _ _ => pw_ib fun _ _ => pw_let ?_)
    obtain ⟨c1, h1, k1⟩ := wr (-1)
    refine pw_onP (pX8_letters h1 c1 t8 hi) fun q22 hq => ?_
    rw [k1, a_n255] at hq
    exact pw_ite (fun _ => pw_some hq) (fun _ => pw_some hq)
  · rw [if_neg a]
    refine pw_sh fun _ => pw_onS e2 (pw_ar fun _ _ => pw_ib fun _ _ => ?_)
    rw [za_127, za_127, ← rdA_eq e2]
    refine pw_ite (fun b => ?_) (fun b => ?_)
    · rw [if_pos b]
      exact pw_onS e2 (pw_ar fun _ _ => pw_ib fun _ _ => pw_let (pw_some (wr _).2.1))
    · rw [if_neg b]
      refine pw_onS e2 (pw_ar fun _ _ => pw_ib fun _ _ => pw_let ?_)
      obtain ⟨c1, h1, k1⟩ := wr ((p2 &&& 127) * 128 + (p3 &&& 127))
      have hr := isCode_rg a
      refine pw_onP (pX8_code h1 c1 t8 hi hf (x_m9' ⟨hr.2.1, hr.2.2.1⟩)) fun q12 hq => pw_some ?_
      rw [za_8] at hq
      exact hq
end CH8C
