/-! The reference's store by value: F k i = element i of its array field k (15 order, 16 used, 17 magazine, 18 number, 19 subcode, 20 flags, 21 closed, 22 headers, 27 open); s i the slot of place i -/
def q_V (N : Int) (F : Nat → Nat → Int32) (s : Nat → Nat) (n : Nat) (g : Nat → Nat → Int32) : Prop :=
  N = n ∧ n ≤ 20 ∧ (∀ i, i < n → s i < 20 ∧ (F 15 i).toInt = s i ∧ F 16 (s i) ≠ 0 ∧ F 17 (s i) = g i 2 ∧ F 18 (s i) = g i 3 ∧ F 19 (s i) = g i 4 ∧ F 20 (s i) = g i 5 ∧ F 21 (s i) = g i 7 ∧ F 22 (s i) = g i 8) ∧ (∀ i j, i < n → j < n → s i = s j → i = j) ∧
  (∀ x : Int32, 1 ≤ x.toInt → x.toInt ≤ 8 → (∃ i, i < n ∧ (F 27 x.toInt.toNat).toInt = s i ∧ q_op g x i) ∨ (F 27 x.toInt.toNat = -1 ∧ ∀ i, i < n → ¬ q_op g x i))
section QV
variable {N : Int} {F F' : Nat → Nat → Int32} {s : Nat → Nat} {n : Nat} {g : Nat → Nat → Int32}
theorem q_V.cg (h : q_V N F s n g) (e : ∀ k i, (15 ≤ k ∧ k ≤ 22) ∨ k = 27 → F' k i = F k i) : q_V N F' s n g := by
  refine ⟨h.1, h.2.1, fun i hi => ?_, h.2.2.2.1, fun x h1 h2 => ?_⟩
  · rw [e 15 _ (by omega), e 16 _ (by omega), e 17 _ (by omega), e 18 _ (by omega), e 19 _ (by omega), e 20 _ (by omega), e 21 _ (by omega), e 22 _ (by omega)]
    exact h.2.2.1 i hi
  · rw [e 27 _ (by omega)]
    exact h.2.2.2.2 x h1 h2
theorem q_V.cl0 (h : q_V N F s n g) {m : Int32} (hm : ∀ i, i < n → ¬ q_op g m i) : q_V N F s n (q_cl g m) := by
  have e : ∀ i, i < n → ∀ f, q_cl g m i f = g i f := fun i hi f => by
    unfold q_cl; rw [if_neg (show ¬ (g i 6 ≠ 0 ∧ g i 2 = m) from hm i hi)]
  refine ⟨h.1, h.2.1, fun i hi => ?_, h.2.2.2.1, fun x h1 h2 => ?_⟩
  · rw [e i hi, e i hi, e i hi, e i hi, e i hi, e i hi]; exact h.2.2.1 i hi
  · have eo : ∀ i, i < n → (q_op (q_cl g m) x i ↔ q_op g x i) := fun i hi => by unfold q_op; rw [e i hi, e i hi]
    rcases h.2.2.2.2 x h1 h2 with ⟨i, a1, a2, a3⟩ | ⟨a1, a2⟩
    · exact Or.inl ⟨i, a1, a2, (eo i a1).mpr a3⟩
    · exact Or.inr ⟨a1, fun i hi h' => a2 i hi ((eo i hi).mp h')⟩
theorem q_cl_f {m : Int32} {i f : Nat} (h6 : f ≠ 6) (h7 : f ≠ 7) : q_cl g m i f = g i f := by
  unfold q_cl
  by_cases h : g i 6 ≠ 0 ∧ g i 2 = m
  · rw [if_pos h, if_neg h6, if_neg h7]
  · rw [if_neg h]
theorem q_cl_op {m x : Int32} {i : Nat} : q_op (q_cl g m) x i ↔ q_op g x i ∧ x ≠ m := by
  unfold q_op
  rw [q_cl_f (f := 2) (by decide) (by decide)]
  unfold q_cl
  by_cases h : g i 6 ≠ 0 ∧ g i 2 = m
  · rw [if_pos h, if_pos rfl]
    exact ⟨fun h' => absurd rfl h'.1, fun h' => absurd (h'.1.2.symm.trans h.2) h'.2⟩
  · rw [if_neg h]
    exact ⟨fun h' => ⟨h', fun e => h ⟨h'.1, h'.2.trans e⟩⟩, fun h' => h'.1⟩
theorem q_x8 {x y : Int32} (h1 : 1 ≤ x.toInt) (h2 : 1 ≤ y.toInt) (h : x ≠ y) : x.toInt.toNat ≠ y.toInt.toNat := fun e => h (by rw [zi_eq]; omega)
theorem q_V.cl (h : q_V N F s n g) (hu : q_ou n g) {m : Int32} {j : Nat} (hm : 1 ≤ m.toInt) (hj : j < n) (ho : q_op g m j) (e27 : ∀ i, F' 27 i = if i = m.toInt.toNat then -1 else F 27 i) (e21 : ∀ i, F' 21 i = if i = s j then F 21 i + 1 else F 21 i) (e : ∀ k i, (15 ≤ k ∧ k ≤ 20) ∨ k = 22 → F' k i = F k i) : q_V N F' s n (q_cl g m) := by
  refine ⟨h.1, h.2.1, fun i hi => ?_, h.2.2.2.1, fun x h1 h2 => ?_⟩
  · rw [e 15 _ (by omega), e 16 _ (by omega), e 17 _ (by omega), e 18 _ (by omega), e 19 _ (by omega), e 20 _ (by omega), e21, e 22 _ (by omega), q_cl_f (f := 2) (by decide) (by decide), q_cl_f (f := 3) (by decide) (by decide), q_cl_f (f := 4) (by decide) (by decide), q_cl_f (f := 5) (by decide) (by decide), q_cl_f (f := 8) (by decide) (by decide)]
    obtain ⟨a1, a2, a3, a4, a5, a6, a7, a8, a9⟩ := h.2.2.1 i hi
    refine ⟨a1, a2, a3, a4, a5, a6, a7, ?_, a9⟩
    by_cases hij : i = j
    · subst hij
      rw [if_pos rfl, a8]
      unfold q_cl
      rw [if_pos (show g i 6 ≠ 0 ∧ g i 2 = m from ho), if_neg (by decide), if_pos rfl]
    · rw [if_neg (fun e => hij (h.2.2.2.1 i j hi hj e)), a8]
      unfold q_cl
      rw [if_neg (fun h' => hij (hu i j hi hj h'.1 ho.1 (h'.2.trans ho.2.symm)))]
  · rw [e27]
    by_cases hx : x = m
    · subst hx
      rw [if_pos rfl]
      exact Or.inr ⟨rfl, fun i hi h' => (q_cl_op.mp h').2 rfl⟩
    · rw [if_neg (q_x8 h1 hm hx)]
      rcases h.2.2.2.2 x h1 h2 with ⟨i, a1, a2, a3⟩ | ⟨a1, a2⟩
      · exact Or.inl ⟨i, a1, a2, q_cl_op.mpr ⟨a3, hx⟩⟩
      · exact Or.inr ⟨a1, fun i hi h' => a2 i hi (q_cl_op.mp h').1⟩
/-- place k is taken out -/
theorem q_V.sh (h : q_V N F s n g) (hu : q_ou n g) {k : Nat} (hk : k < n) (e15 : ∀ i, i + 1 < n → F' 15 i = q_shf (F 15) k i) (e16 : ∀ i, i < n → i ≠ k → F' 16 (s i) = F 16 (s i)) (e : ∀ j i, 17 ≤ j ∧ j ≤ 22 → F' j i = F j i) (e27 : ∀ x : Int32, 1 ≤ x.toInt → x.toInt ≤ 8 → F' 27 x.toInt.toNat = if (F 27 x.toInt.toNat).toInt = s k then -1 else F 27 x.toInt.toNat) : q_V (N - 1) F' (q_shf s k) (n - 1) (q_shf g k) := by
  obtain ⟨h1, h2, h3, h4, h5⟩ := h
  refine ⟨by omega, by omega, fun i hi => ?_, fun i j hi hj he => ?_, fun x x1 x2 => ?_⟩
  · rw [e15 i (by omega), e 17 _ (by omega), e 18 _ (by omega), e 19 _ (by omega), e 20 _ (by omega), e 21 _ (by omega), e 22 _ (by omega)]
    unfold q_shf
    by_cases c : i < k
    · rw [if_pos c, if_pos c, if_pos c, e16 i (by omega) (by omega)]; exact h3 i (by omega)
    · rw [if_neg c, if_neg c, if_neg c, e16 (i + 1) (by omega) (by omega)]; exact h3 (i + 1) (by omega)
  · unfold q_shf at he
    by_cases c : i < k <;> by_cases d : j < k
    · rw [if_pos c, if_pos d] at he; exact h4 i j (by omega) (by omega) he
    · rw [if_pos c, if_neg d] at he; have := h4 i (j + 1) (by omega) (by omega) he; omega
    · rw [if_neg c, if_pos d] at he; have := h4 (i + 1) j (by omega) (by omega) he; omega
    · rw [if_neg c, if_neg d] at he; have := h4 (i + 1) (j + 1) (by omega) (by omega) he; omega
  · rw [e27 x x1 x2]
    have hop : ∀ i, q_op (q_shf g k) x i ↔ q_op g x (if i < k then i else i + 1) := by
      intro i; unfold q_op q_shf
      by_cases c : i < k
      · rw [if_pos c, if_pos c]
      · rw [if_neg c, if_neg c]
    rcases h5 x x1 x2 with ⟨i, a1, a2, a3⟩ | ⟨a1, a2⟩
    · by_cases hik : i = k
      · subst hik
        rw [if_pos a2]
        refine Or.inr ⟨rfl, fun j hj h' => ?_⟩
        have h6 := (hop j).mp h'
        have := hu _ i (by split <;> omega) hk h6.1 a3.1 (h6.2.trans a3.2.symm)
        split at this <;> omega
      · rw [if_neg (fun e => hik (h4 i k a1 hk (by omega)))]
        refine Or.inl ⟨if i < k then i else i - 1, by split <;> omega, ?_, ?_⟩
        · unfold q_shf
          by_cases c : i < k
          · rw [if_pos c, if_pos c]; exact a2
          · rw [if_neg c, if_neg (by omega), show i - 1 + 1 = i by omega]; exact a2
        · rw [hop]
          by_cases c : i < k
          · rw [if_pos c, if_pos c]; exact a3
          · rw [if_neg c, if_neg (by omega), show i - 1 + 1 = i by omega]; exact a3
    · rw [a1]
      have : ¬ ((-1 : Int32).toInt = (s k : Int)) := by rw [show (-1 : Int32).toInt = -1 from rfl]; omega
      rw [if_neg this]
      refine Or.inr ⟨rfl, fun j hj h' => a2 _ ?_ ((hop j).mp h')⟩
      split <;> omega
/-- a page comes behind all others, and is open -/
theorem q_V.add (h : q_V N F s n g) (hn : n < 20) {sl : Nat} {m fl v : Int32} {r : Nat → Int32} (hm : 1 ≤ m.toInt) (hsl : sl < 20) (hv : v.toInt = sl) (hne : ∀ i, i < n → s i ≠ sl) (hno : ∀ i, i < n → ¬ q_op g m i) (r2 : r 2 = m) (e15 : ∀ i, F' 15 i = if i = n then v else F 15 i) (e16 : F' 16 sl ≠ 0) (e17 : F' 17 sl = m) (e18 : F' 18 sl = r 3) (e19 : F' 19 sl = r 4) (e20 : F' 20 sl = fl) (e21 : F' 21 sl = r 7) (e22 : F' 22 sl = r 8 + 1) (e : ∀ k i, 16 ≤ k ∧ k ≤ 22 → i ≠ sl → F' k i = F k i) (e27 : ∀ i, F' 27 i = if i = m.toInt.toNat then v else F 27 i) : q_V (N + 1) F' (q_app s n sl) (n + 1) (q_opn (q_app g n r) n fl) := by
  obtain ⟨h1, h2, h3, h4, h5⟩ := h
  have gl : ∀ i f, i < n → q_opn (q_app g n r) n fl i f = g i f := fun i f hi => by
    unfold q_opn q_app; rw [if_neg (by omega), if_neg (by omega)]
  have gn : ∀ f, q_opn (q_app g n r) n fl n f = if f = 6 then 1 else if f = 8 then r 8 + 1 else if f = 5 then fl else r f := fun f => by
    unfold q_opn q_app; rw [if_pos rfl, if_pos rfl]
  refine ⟨by omega, by omega, fun i hi => ?_, fun i j hi hj he => ?_, fun x x1 x2 => ?_⟩
  · by_cases c : i = n
    · subst c
      rw [gn, gn, gn, gn, gn, gn, e15, if_pos rfl]
      have : q_app s i sl i = sl := if_pos rfl
      rw [this]
      exact ⟨hsl, hv, e16, by rw [e17]; exact r2.symm, e18, e19, e20, e21, e22⟩
    · have hi' : i < n := by omega
      have : q_app s n sl i = s i := if_neg c
      rw [this, gl i _ hi', gl i _ hi', gl i _ hi', gl i _ hi', gl i _ hi', gl i _ hi', e15, if_neg c, e 16 _ (by omega) (hne i hi'), e 17 _ (by omega) (hne i hi'), e 18 _ (by omega) (hne i hi'), e 19 _ (by omega) (hne i hi'), e 20 _ (by omega) (hne i hi'), e 21 _ (by omega) (hne i hi'), e 22 _ (by omega) (hne i hi')]
      exact h3 i hi'
  · unfold q_app at he
    by_cases c : i = n <;> by_cases d : j = n
    · omega
    · rw [if_pos c, if_neg d] at he; exact absurd he.symm (hne j (by omega))
    · rw [if_neg c, if_pos d] at he; exact absurd he (hne i (by omega))
    · rw [if_neg c, if_neg d] at he; exact h4 i j (by omega) (by omega) he
  · rw [e27]
    by_cases hx : x = m
    · subst hx
      rw [if_pos rfl]
      refine Or.inl ⟨n, by omega, ?_, ?_⟩
      · rw [hv]; unfold q_app; rw [if_pos rfl]
      · unfold q_op; rw [gn, gn, if_pos rfl]; exact ⟨by decide, r2⟩
    · rw [if_neg (q_x8 x1 hm hx)]
      rcases h5 x x1 x2 with ⟨i, a1, a2, a3⟩ | ⟨a1, a2⟩
      · refine Or.inl ⟨i, by omega, ?_, ?_⟩
        · unfold q_app; rw [if_neg (by omega)]; exact a2
        · unfold q_op; rw [gl i _ a1, gl i _ a1]; exact a3
      · refine Or.inr ⟨a1, fun i hi h' => ?_⟩
        by_cases c : i = n
        · subst c
          unfold q_op at h'
          rw [gn, gn] at h'
          exact hx (h'.2.symm.trans r2)
        · refine a2 i (by omega) ?_
          unfold q_op at h' ⊢
          rw [gl i _ (by omega), gl i _ (by omega)] at h'
          exact h'
end QV
def q_F (o9 : Nat) (σ : mm_M) : Nat → Nat → Int32 := fun k i => rdA σ o9 k i
def q_S9 (o9 : Nat) (s : Nat → Nat) (σ : mm_M) (n : Nat) (g : Nat → Nat → Int32) : Prop := q_V (mm_I σ o9 14).toInt (q_F o9 σ) s n g
section ST18
variable {T : Nat → Option Nat} {σ : mm_M} {o9 n : Nat} {s : Nat → Nat} {g : Nat → Nat → Int32}
theorem q_w {k k0 q i j : Nat} {v : Int32} (c : sCI T σ) (t9 : T o9 = some 9) (h0 : kref 9 k0 = some (50 + k0)) (e : mm_R σ o9 k0 = some q) (hk : kref 9 k = some (50 + k)) : rdA (mm_wI σ q j v) o9 k i = if k = k0 ∧ i = j then v else rdA σ o9 k i := by
  obtain ⟨q', e', tq⟩ := ci_ref c t9 k0 h0
  have : q' = q := Option.some.inj (e'.symm.trans e)
  subst this
  by_cases hkk : k = k0
  · subst hkk
    by_cases hij : i = j
    · subst hij; rw [if_pos ⟨rfl, rfl⟩]; exact rdA_self e
    · rw [if_neg (fun h => hij h.2)]; exact rdA_j hij
  · rw [if_neg (fun h => hkk h.1)]
    exact rdA_k c t9 hk tq (by omega)
theorem q_w14 {k0 q j : Nat} {v : Int32} (c : sCI T σ) (t9 : T o9 = some 9) (h0 : kref 9 k0 = some (50 + k0)) (e : mm_R σ o9 k0 = some q) : mm_I (mm_wI σ q j v) o9 14 = mm_I σ o9 14 := by
  obtain ⟨q', e', tq⟩ := ci_ref c t9 k0 h0
  have : q' = q := Option.some.inj (e'.symm.trans e)
  subst this
  exact rI_ne (q_nek t9 tq (by omega))
theorem q_kr {k : Nat} (h : (15 ≤ k ∧ k ≤ 22) ∨ k = 27) : kref 9 k = some (50 + k) := by
  rcases h with h | rfl
  · have : k = 15 ∨ k = 16 ∨ k = 17 ∨ k = 18 ∨ k = 19 ∨ k = 20 ∨ k = 21 ∨ k = 22 := by omega
    rcases this with rfl | rfl | rfl | rfl | rfl | rfl | rfl | rfl <;> rfl
  · rfl
/-- a frame that leaves the store's arrays alone -/
def q_fr (K : List Nat) : Bool := K.all (fun x => !(65 ≤ x && x ≤ 72) && !(x == 77) && !(914 ≤ x && x ≤ 922) && !(x == 927))
theorem q_frc {K : List Nat} (h : q_fr K = true) {x : Nat} (hx : (65 ≤ x ∧ x ≤ 72) ∨ x = 77 ∨ (914 ≤ x ∧ x ≤ 922) ∨ x = 927) : K.contains x = false := by
  refine q_no fun y hy => ?_
  have h1 := List.all_eq_true.mp h y hy
  simp only [Bool.and_eq_true, Bool.not_eq_true', Bool.and_eq_false_iff, decide_eq_false_iff_not, beq_eq_false_iff_ne] at h1
  omega
theorem q_view {K : List Nat} {σ' : mm_M} (f : sFR T K σ σ') (c : sCI T σ) (t9 : T o9 = some 9) (hK : q_fr K = true) : mm_I σ' o9 14 = mm_I σ o9 14 ∧ ∀ k i, (15 ≤ k ∧ k ≤ 22) ∨ k = 27 → rdA σ' o9 k i = rdA σ o9 k i := by
  refine ⟨(f.2.2 o9 9 t9 14 (q_frc hK (x := 914) (by omega))).1, fun k i hk => rdA_fr f c t9 (q_kr hk) (q_frc hK ?_) (q_frc hK ?_)⟩
  · show (65 ≤ (900 + k) ∧ (900 + k) ≤ 72) ∨ (900 + k) = 77 ∨ (914 ≤ (900 + k) ∧ (900 + k) ≤ 922) ∨ (900 + k) = 927
    omega
  · have : kcode (50 + k) i = 50 + k := by unfold kcode; rw [if_neg (by omega), if_neg (by omega)]
    rw [this]; omega
theorem q_S9.fr {K : List Nat} {σ' : mm_M} (h : q_S9 o9 s σ n g) (f : sFR T K σ σ') (c : sCI T σ) (t9 : T o9 = some 9) (hK : q_fr K = true) : q_S9 o9 s σ' n g := by
  obtain ⟨v1, v2⟩ := q_view f c t9 hK
  unfold q_S9
  rw [v1]
  exact q_V.cg h (fun k i hk => v2 k i hk)
theorem pX9_close_103 (t9 : T o9 = some 9) {x1 x2 : Int32} : ∀ (u : Nat) (x3 : Int32) (σ : mm_M), sCI T σ → pw (fX9_close_103 u o9 x1 x2 x3 σ) (fun R => sFR T [82, 83] σ R) := by
  intro u
  induction u with
  | zero => intros; exact pw_none
  | succ u ih =>
    intro x3 σ c
    unfold fX9_close_103
    obtain ⟨a, ea, ta⟩ := ci_ref c t9 24 (κ' := 74) rfl
    obtain ⟨b, eb, tb⟩ := ci_ref c t9 33 (κ' := 83) rfl
    refine pw_ite (fun _ => pw_some fr_refl) (fun _ => pw_sh fun _ => pw_onS ea (pw_ar fun _ _ => pw_ib fun _ _ => pw_onS eb (pw_ar fun _ _ => pw_ib fun _ _ => pw_let ?_)))
    exact (ih _ _ (ci_wI c tb (kr_n rfl))).mono (fun R h => fr_trans (fr_wI fr_refl tb rfl) h rfl)
theorem pX9_close_70 (t9 : T o9 = some 9) {x1 x2 : Int32} : ∀ (u : Nat) (x3 : Int32) (σ : mm_M), sCI T σ → pw (fX9_close_70 u o9 x1 x2 x3 σ) (fun R => sFR T [82, 83] σ R) := by
  intro u
  induction u with
  | zero => intros; exact pw_none
  | succ u ih =>
    intro x3 σ c
    unfold fX9_close_70
    obtain ⟨a, ea, ta⟩ := ci_ref c t9 23 (κ' := 73) rfl
    obtain ⟨b, eb, tb⟩ := ci_ref c t9 32 (κ' := 82) rfl
    refine pw_ite (fun _ => pX9_close_103 t9 _ _ _ c) (fun _ => pw_sh fun _ => pw_onS ea (pw_ar fun _ _ => pw_ib fun _ _ => pw_onS eb (pw_ar fun _ _ => pw_ib fun _ _ => pw_let ?_)))
    exact (ih _ _ (ci_wI c tb (kr_n rfl))).mono (fun R h => fr_trans (fr_wI fr_refl tb rfl) h rfl)
theorem pX9_close (h : q_S9 o9 s σ n g) (c : sCI T σ) (t9 : T o9 = some 9) (hu : q_ou n g) {m : Int32} (hm : 1 ≤ m.toInt ∧ m.toInt ≤ 8) : pw (fX9_close o9 m σ) (fun R => q_S9 o9 s R n (q_cl g m)) := by
  unfold fX9_close
  obtain ⟨oa, eo, to⟩ := ci_ref c t9 27 (κ' := 77) rfl
  obtain ⟨ca, ec, tc⟩ := ci_ref c t9 21 (κ' := 71) rfl
  have er : rdA σ o9 27 m.toInt.toNat = mm_I σ oa m.toNatClampNeg := rdA_eq eo
  refine pw_sh fun _ => pw_onS eo (pw_ar fun _ _ => pw_ib fun _ _ => pw_ite (fun a => pw_some ?_) (fun a => pw_onS eo (pw_ar fun _ _ => pw_ib fun _ _ => pw_let ?_)))
  · refine q_V.cl0 h ?_
    rcases h.2.2.2.2 m hm.1 hm.2 with ⟨i, a1, a2, a3⟩ | ⟨a1, a2⟩
    · exfalso
      have a2' : (rdA σ o9 27 m.toInt.toNat).toInt = s i := a2
      rw [er, a] at a2'
      have : (-1 : Int32).toInt = -1 := rfl
      omega
    · exact a2
  · obtain ⟨j, hj, a2, a3⟩ : ∃ i, i < n ∧ (rdA σ o9 27 m.toInt.toNat).toInt = s i ∧ q_op g m i := by
      rcases h.2.2.2.2 m hm.1 hm.2 with h' | ⟨a1, -⟩
      · exact h'
      · have a1' : rdA σ o9 27 m.toInt.toNat = -1 := a1
        rw [er] at a1'
        exact absurd a1' a
    rw [er] at a2
    have c1 := ci_wI (j := m.toNatClampNeg) (v := -1) c to (kr_s (lo := -1) (hi := 19) rfl (by decide))
    have esl : (mm_I σ oa m.toNatClampNeg).toNatClampNeg = s j := by rw [zi_clamp]; omega
    refine pw_onS ec (pw_ar fun _ _ => pw_ib fun _ _ => pw_ib fun _ _ => pw_let ?_)
    rw [esl]
    have c2 := ci_wI (j := s j) (v := mm_I (mm_wI σ oa m.toNatClampNeg (-1)) ca (s j) + 1) c1 tc (kr_n rfl)
    have key : q_S9 o9 s (mm_wI (mm_wI σ oa m.toNatClampNeg (-1)) ca (s j) (mm_I (mm_wI σ oa m.toNatClampNeg (-1)) ca (s j) + 1)) n (q_cl g m) := by
      have ec1 : mm_R (mm_wI σ oa m.toNatClampNeg (-1)) o9 21 = some ca := ec
      have e1 : ∀ k i, (15 ≤ k ∧ k ≤ 22) ∨ k = 27 → rdA (mm_wI (mm_wI σ oa m.toNatClampNeg (-1)) ca (s j) (mm_I (mm_wI σ oa m.toNatClampNeg (-1)) ca (s j) + 1)) o9 k i = if k = 21 ∧ i = s j then rdA σ o9 21 (s j) + 1 else if k = 27 ∧ i = m.toInt.toNat then -1 else rdA σ o9 k i := by
        intro k i hk
        rw [q_w c1 t9 (k0 := 21) rfl ec1 (q_kr hk), q_w c t9 (k0 := 27) rfl eo (q_kr hk), ← rdA_eq ec1, q_w c t9 (k0 := 27) rfl eo rfl, if_neg (c := (21 = 27 ∧ s j = m.toNatClampNeg)) (fun h => absurd h.1 (by decide)), zi_clamp]
      unfold q_S9
      rw [q_w14 c1 t9 (k0 := 21) rfl ec1, q_w14 c t9 (k0 := 27) rfl eo]
      refine q_V.cl h hu hm.1 hj a3 (fun i => ?_) (fun i => ?_) (fun k i hk => ?_)
      · show rdA _ o9 27 i = if i = m.toInt.toNat then -1 else rdA σ o9 27 i
        rw [e1 27 i (by omega), if_neg (fun h => absurd h.1 (by decide))]
        by_cases e : i = m.toInt.toNat
        · rw [if_pos ⟨rfl, e⟩, if_pos e]
        · rw [if_neg (fun h => e h.2), if_neg e]
      · show rdA _ o9 21 i = if i = s j then rdA σ o9 21 i + 1 else rdA σ o9 21 i
        rw [e1 21 i (by omega)]
        by_cases e : i = s j
        · rw [if_pos ⟨rfl, e⟩, if_pos e, e]
        · rw [if_neg (fun h => e h.2), if_neg (fun h => absurd h.1 (by decide)), if_neg e]
      · show rdA _ o9 k i = rdA σ o9 k i
        rw [e1 k i (by omega), if_neg (fun h => by omega), if_neg (fun h => by omega)]
    generalize mm_wI (mm_wI σ oa m.toNatClampNeg (-1)) ca (s j) (mm_I (mm_wI σ oa m.toNatClampNeg (-1)) ca (s j) + 1) = s14 at c2 key ⊢
    refine pw_ite (fun _ => pw_some key) (fun _ => pw_on fun _ _ => pw_ar fun _ _ => pw_ib fun _ _ => pw_ite (fun _ => pw_on fun _ _ => pw_ar fun _ _ => pw_ib fun _ _ => pw_ite (fun _ => pw_let ?_) (fun _ => pw_some key)) (fun _ => pw_some key))
    have c3 := ci_wI (j := 31) (v := 1) c2 t9 (kr_n rfl)
    have f3 : sFR T [82, 83, 931] s14 (mm_wI s14 o9 31 1) := fr_wI fr_refl t9 rfl
    exact (pX9_close_70 t9 _ _ _ c3).mono (fun R hR => key.fr (fr_trans f3 hR rfl) c2 t9 rfl)
end ST18
section ST19A
variable {T : Nat → Option Nat} {o9 : Nat}
theorem q_kr2 {k : Nat} (h : 23 ≤ k ∧ k ≤ 26) : kref 9 k = some (50 + k) := by
  have : k = 23 ∨ k = 24 ∨ k = 25 ∨ k = 26 := by omega
  rcases this with rfl | rfl | rfl | rfl <;> rfl
theorem q_kr3 {k : Nat} (h : 15 ≤ k ∧ k ≤ 26) : kref 9 k = some (50 + k) := by
  by_cases h' : k ≤ 22
  · exact q_kr (Or.inl ⟨h.1, h'⟩)
  · exact q_kr2 (by omega)
theorem q_kr4 {k : Nat} (h : 16 ≤ k ∧ k ≤ 27) : kref 9 k = some (50 + k) := by
  by_cases h' : k = 27
  · exact q_kr (Or.inr h')
  · exact q_kr3 (by omega)
theorem zi_ab {x y a : Int32} {n s k : Nat} (ha : a.toInt = n) (hx : x.toInt = s) (hy : y.toInt = k) (hn : n ≤ 1000) (hs : s < 20) (hk : k ≤ 1000) : (a * x + y).toInt = n * s + k ∧ (a * x + y).toNatClampNeg = n * s + k := by
  have h1 : n * s ≤ 20000 := Nat.le_trans (Nat.mul_le_mul hn (Nat.le_of_lt hs)) (by decide)
  have hc : (n : Int) * (s : Int) = ((n * s : Nat) : Int) := by rw [Int.natCast_mul]
  have e1 : (a * x).toInt = ((n * s : Nat) : Int) := by rw [zi_mul, ha, hx, hc, zi_bm (by omega) (by omega)]
  have e : (a * x + y).toInt = n * s + k := by rw [zi_add, e1, hy, zi_bm (by omega) (by omega)]; omega
  exact ⟨e, by rw [zi_clamp, e, hc]; omega⟩
theorem lX9_emptyRows_28 (t9 : T o9 = some 9) {x1 x2 : Int32} {sl : Nat} (hx1 : x1.toInt = sl) (hsl : sl < 20) : ∀ (u : Nat) (y : Int32) (k : Nat) (σ : mm_M), sCI T σ → y.toInt = k → k ≤ 6 → pw (fX9_emptyRows_28 u o9 x1 x2 y σ) (fun R => ∀ j i, 23 ≤ j ∧ j ≤ 26 → rdA R o9 j i = if j = 26 ∧ 6 * sl + k ≤ i ∧ i < 6 * sl + 6 then 0 else rdA σ o9 j i) := by
  intro u
  induction u with
  | zero => intros; exact pw_none
  | succ u ih =>
    intro y k σ c hy hk
    unfold fX9_emptyRows_28
    have ey := zi_p1 (x := y) (by omega)
    obtain ⟨q, e, tq⟩ := ci_ref c t9 26 (κ' := 76) rfl
    refine pw_ite (fun a => pw_some fun j i hj => ?_) (fun a => pw_sh fun _ => pw_onS e (pw_ar fun _ _ => pw_ib fun _ _ => pw_let ?_))
    · rw [zi_le] at a; simp only [Int32.reduceToInt] at a; rw [if_neg (by omega)]
    rw [zi_le] at a
    simp only [Int32.reduceToInt] at a
    rw [zo_nar0, (zi_ab (a := 6) (n := 6) rfl hx1 hy (by omega) hsl (by omega)).2]
    refine (ih (y + 1) (k + 1) _ (ci_wI c tq (kr_n rfl)) (by omega) (by omega)).mono (fun R hR j i hj => ?_)
    rw [hR j i hj, q_w c t9 (k0 := 26) rfl e (q_kr2 hj)]
    by_cases d : j = 26 ∧ i = 6 * sl + k
    · rw [if_pos d, if_neg (by omega), if_pos (by omega)]
    · rw [if_neg d]
      by_cases d' : j = 26 ∧ 6 * sl + (k + 1) ≤ i ∧ i < 6 * sl + 6
      · rw [if_pos d', if_pos (by omega)]
      · rw [if_neg d', if_neg (by omega)]
/-- rows from fr on, and all links, of a slot are emptied -/
def q_ey (o9 sl fr : Nat) (σ R : mm_M) : Prop := ∀ j i, 23 ≤ j ∧ j ≤ 26 → rdA R o9 j i = if j = 24 ∧ 25 * sl + fr ≤ i ∧ i < 25 * sl + 25 then 0 else if j = 26 ∧ 6 * sl ≤ i ∧ i < 6 * sl + 6 then 0 else rdA σ o9 j i
theorem lX9_emptyRows_2 (t9 : T o9 = some 9) {x1 x2 : Int32} {sl : Nat} (hx1 : x1.toInt = sl) (hsl : sl < 20) : ∀ (u : Nat) (y : Int32) (k : Nat) (σ : mm_M), sCI T σ → y.toInt = k → k ≤ 25 → pw (fX9_emptyRows_2 u o9 x1 x2 y σ) (fun R => q_ey o9 sl k σ R) := by
  intro u
  induction u with
  | zero => intros; exact pw_none
  | succ u ih =>
    intro y k σ c hy hk
    unfold fX9_emptyRows_2
    have ey := zi_p1 (x := y) (by omega)
    obtain ⟨q, e, tq⟩ := ci_ref c t9 24 (κ' := 74) rfl
    refine pw_ite (fun a => ?_) (fun a => pw_sh fun _ => pw_onS e (pw_ar fun _ _ => pw_ib fun _ _ => pw_let ?_))
    · rw [zi_le] at a; simp only [Int32.reduceToInt] at a
      refine (lX9_emptyRows_28 t9 hx1 hsl _ 0 0 σ c rfl (by omega)).mono (fun R hR j i hj => ?_)
      rw [hR j i hj, if_neg (c := j = 24 ∧ 25 * sl + k ≤ i ∧ i < 25 * sl + 25) (by omega)]
      rfl
    rw [zi_le] at a
    simp only [Int32.reduceToInt] at a
    rw [zo_nar0, (zi_ab (a := 25) (n := 25) rfl hx1 hy (by omega) hsl (by omega)).2]
    refine (ih (y + 1) (k + 1) _ (ci_wI c tq (kr_n rfl)) (by omega) (by omega)).mono (fun R hR j i hj => ?_)
    rw [hR j i hj, q_w c t9 (k0 := 24) rfl e (q_kr2 hj)]
    by_cases d : j = 24 ∧ i = 25 * sl + k
    · rw [if_pos d, if_neg (by omega), if_neg (by omega), if_pos (by omega)]
    · rw [if_neg d]
      by_cases d' : j = 24 ∧ 25 * sl + (k + 1) ≤ i ∧ i < 25 * sl + 25
      · rw [if_pos d', if_pos (by omega)]
      · rw [if_neg d', if_neg (c := j = 24 ∧ 25 * sl + k ≤ i ∧ i < 25 * sl + 25) (by omega)]
theorem lX9_emptyRows {σ : mm_M} (c : sCI T σ) (t9 : T o9 = some 9) {x1 x2 : Int32} {sl fr : Nat} (hx1 : x1.toInt = sl) (hsl : sl < 20) (hf : x2.toInt = fr) (hf25 : fr ≤ 25) : pw (fX9_emptyRows o9 x1 x2 σ) (fun R => q_ey o9 sl fr σ R) := lX9_emptyRows_2 t9 hx1 hsl _ x2 fr σ c hf hf25
end ST19A
section ST19
variable {T : Nat → Option Nat} {σ : mm_M} {o9 n : Nat} {s : Nat → Nat} {g : Nat → Nat → Int32}
theorem pX9_takeOut_12 (t9 : T o9 = some 9) {x1 : Int32} {k n1 : Nat} {f : Nat → Int32} (hn : n1 ≤ 19) : ∀ (u : Nat) (x : Int32) (j : Nat) (σ : mm_M), sCI T σ → (mm_I σ o9 14).toInt = n1 → x.toInt = j → k ≤ j → j ≤ n1 → (∀ i, i ≤ n1 → rdA σ o9 15 i = if k ≤ i ∧ i < j then f (i + 1) else f i) → pw (fX9_takeOut_12 u o9 x1 x σ) (fun R => (mm_I R o9 14).toInt = n1 ∧ ∀ i, i < n1 → rdA R o9 15 i = q_shf f k i) := by
  intro u
  induction u with
  | zero => intros; exact pw_none
  | succ u ih =>
    intro x j σ c e14 hx hk hj hf
    unfold fX9_takeOut_12
    obtain ⟨oa, eo, to⟩ := ci_ref c t9 15 (κ' := 65) rfl
    have ex := zi_p1 (x := x) (by omega)
    have ecl : x.toNatClampNeg = j := by rw [zi_clamp]; omega
    have ecl1 : (x + 1).toNatClampNeg = j + 1 := by rw [zi_clamp]; omega
    refine pw_sh fun _ => pw_ite (fun a => pw_some ⟨e14, fun i hi => ?_⟩) (fun a => pw_onS eo (pw_ar fun _ _ => pw_ib fun _ _ => pw_ib fun _ _ => pw_let ?_))
    · rw [zi_le, e14] at a
      rw [hf i (by omega)]
      unfold q_shf
      by_cases h : i < k
      · rw [if_neg (by omega), if_pos h]
      · rw [if_pos (by omega), if_neg h]
    · rw [zi_le, e14] at a
      rw [ecl, ecl1]
      have c1 := ci_wI (j := j) (v := mm_I σ oa (j + 1)) c to (kr_s (lo := 0) (hi := 19) rfl (ci_rg c to (j + 1) rfl))
      refine ih (x + 1) (j + 1) _ c1 (by rw [q_w14 c t9 (k0 := 15) rfl eo]; exact e14) (by omega) (by omega) (by omega) (fun i hi => ?_)
      rw [q_w c t9 (k0 := 15) rfl eo rfl, ← rdA_eq eo]
      by_cases hij : i = j
      · subst hij
        rw [if_pos ⟨rfl, rfl⟩, hf _ (by omega), if_neg (by omega), if_pos (by omega)]
      · rw [if_neg (fun h => hij h.2), hf i hi]
        by_cases h : k ≤ i ∧ i < j
        · rw [if_pos h, if_pos (by omega)]
        · rw [if_neg h, if_neg (by omega)]
theorem pX9_takeOut (c : sCI T σ) (t9 : T o9 = some 9) {x : Int32} {k : Nat} (hx : x.toInt = k) (hn : (mm_I σ o9 14).toInt = n) (hk : k < n) : pw (fX9_takeOut o9 x σ) (fun R => (sCI T R ∧ sFR T KX9_takeOut σ R) ∧ (mm_I R o9 14).toInt = (n : Int) - 1 ∧ (∀ i, i + 1 < n → rdA R o9 15 i = q_shf (rdA σ o9 15) k i) ∧ ∀ j i, 16 ≤ j ∧ j ≤ 27 → rdA R o9 j i = rdA σ o9 j i) := by
  have hz := ci_rg c t9 14 (lo := 0) (hi := 20) rfl
  intro R eR
  have hs := (sX9_takeOut (p1 := x) c t9 (by omega) (by omega)).p R eR
  refine ⟨⟨hs.1, hs.2.1⟩, ?_⟩
  revert R
  suffices hh : pw (fX9_takeOut o9 x σ) (fun R => (mm_I R o9 14).toInt = (n : Int) - 1 ∧ (∀ i, i + 1 < n → rdA R o9 15 i = q_shf (rdA σ o9 15) k i)) by
    intro R eR hs
    refine ⟨(hh R eR).1, (hh R eR).2, fun j i hj => rdA_fr hs.2.1 c t9 (q_kr4 hj) ?_ ?_⟩
    · refine q_no fun y hy => ?_
      simp only [KX9_takeOut, List.mem_cons, List.not_mem_nil, or_false] at hy
      show y ≠ 900 + j
      omega
    · refine q_no fun y hy => ?_
      simp only [KX9_takeOut, List.mem_cons, List.not_mem_nil, or_false] at hy
      have : kcode (50 + j) i = 50 + j := by unfold kcode; rw [if_neg (by omega), if_neg (by omega)]
      rw [this]; omega
  unfold fX9_takeOut
  have em := zi_m1 (x := mm_I σ o9 14) (by omega)
  have c1 := ci_wI (j := 14) (v := mm_I σ o9 14 - 1) c t9 (kr_s (lo := 0) (hi := 20) rfl (by omega))
  have e14 : mm_I (mm_wI σ o9 14 (mm_I σ o9 14 - 1)) o9 14 = mm_I σ o9 14 - 1 := mm_up2_self
  have e15 : ∀ i, rdA (mm_wI σ o9 14 (mm_I σ o9 14 - 1)) o9 15 i = rdA σ o9 15 i := fun i => rdA_k c t9 (κ' := 65) rfl t9 (by decide)
  refine pw_sh fun _ => pw_let ?_
  refine (pX9_takeOut_12 (f := rdA σ o9 15) (k := k) (n1 := n - 1) t9 (by omega) _ x k _ c1 (by rw [e14]; omega) hx (Nat.le_refl _) (by omega) (fun i hi => by rw [if_neg (by omega), e15])).mono (fun R hR => ⟨by omega, fun i hi => hR.2 i (by omega)⟩)
/-- a slot that was free becomes a new page's -/
def q_al (o9 : Nat) (m k sb : Int32) (σ : mm_M) (R : Int32 × mm_M) : Prop := ∃ sl : Nat, R.1.toInt = sl ∧ sl < 20 ∧ rdA σ o9 16 sl = 0 ∧ mm_I R.2 o9 14 = mm_I σ o9 14 ∧ (∀ j i, (15 ≤ j ∧ j ≤ 22) ∨ j = 27 → rdA R.2 o9 j i = if j = 22 ∧ i = sl then 0 else if j = 21 ∧ i = sl then 0 else if j = 19 ∧ i = sl then sb else if j = 18 ∧ i = sl then k else if j = 17 ∧ i = sl then m else if j = 16 ∧ i = sl then 1 else rdA σ o9 j i) ∧ q_ey o9 sl 0 σ R.2
theorem pX9_pageFor_148 (c : sCI T σ) (t9 : T o9 = some 9) {m k sb : Int32} (hm : 0 ≤ m.toInt ∧ m.toInt ≤ 8) : ∀ (u : Nat) (x : Int32), pw (fX9_pageFor_148 u o9 m k sb x σ) (q_al o9 m k sb σ) := by
  intro u
  induction u with
  | zero => intros; exact pw_none
  | succ u ih =>
    intro x
    unfold fX9_pageFor_148
    obtain ⟨q16, e16, t16⟩ := ci_ref c t9 16 (κ' := 66) rfl
    obtain ⟨q17, e17, t17⟩ := ci_ref c t9 17 (κ' := 67) rfl
    obtain ⟨q18, e18, t18⟩ := ci_ref c t9 18 (κ' := 68) rfl
    obtain ⟨q19, e19, t19⟩ := ci_ref c t9 19 (κ' := 69) rfl
    obtain ⟨q21, e21, t21⟩ := ci_ref c t9 21 (κ' := 71) rfl
    obtain ⟨q22, e22, t22⟩ := ci_ref c t9 22 (κ' := 72) rfl
    refine pw_sh fun _ => pw_onS e16 (pw_ar fun nn s16 => pw_ib fun hx0 hx1 => pw_ite (fun a => ?_) (fun a => ih _))
    have : nn = 20 := by
      have e4 := ci_sh c t16 (sh := .inr (1, 20)) rfl
      rw [e4] at s16; have := Option.some.inj s16; cases this; rfl
    subst this
    have ecl : x.toNatClampNeg = x.toInt.toNat := zi_clamp x
    rw [ecl] at a ⊢
    generalize hsl : x.toInt.toNat = sl at a ⊢
    have c1 := ci_wI (j := sl) (v := vp_nar .boolean 1) c t16 (kr_n rfl)
    have c2 := ci_wI (j := sl) (v := m) c1 t17 (kr_s (lo := 0) (hi := 8) rfl hm)
    have c3 := ci_wI (j := sl) (v := k) c2 t18 (kr_n rfl)
    have c4 := ci_wI (j := sl) (v := sb) c3 t19 (kr_n rfl)
    have c5 := ci_wI (j := sl) (v := 0) c4 t21 (kr_n rfl)
    have c6 := ci_wI (j := sl) (v := 0) c5 t22 (kr_n rfl)
    refine pw_onS e16 (pw_ar fun _ _ => pw_ib fun _ _ => pw_let (pw_onS e17 (pw_ar fun _ _ => pw_ib fun _ _ => pw_let (pw_onS e18 (pw_ar fun _ _ => pw_ib fun _ _ => pw_let (pw_onS e19 (pw_ar fun _ _ => pw_ib fun _ _ => pw_let (pw_onS e21 (pw_ar fun _ _ => pw_ib fun _ _ => pw_let (pw_onS e22 (pw_ar fun _ _ => pw_ib fun _ _ => pw_let ?_)))))))))))
    refine pw_onP (fun y e => And.intro ((sX9_emptyRows (p1 := x) (p2 := 0) c6 t9 (by omega) (by decide)).p y e) (lX9_emptyRows (sl := sl) (fr := 0) c6 t9 (by omega) (by omega) rfl (by omega) y e)) fun s7 hh => pw_some ?_
    obtain ⟨⟨c7, f7, _⟩, ey7⟩ := hh
    obtain ⟨v1, v2⟩ := q_view f7 c6 t9 rfl
    refine ⟨sl, by show x.toInt = sl; omega, by omega, by rw [rdA_eq e16]; exact a, ?_, fun j i hj => ?_, fun j i hj => ?_⟩
    · rw [v1, q_w14 c5 t9 (k0 := 22) rfl e22, q_w14 c4 t9 (k0 := 21) rfl e21, q_w14 c3 t9 (k0 := 19) rfl e19, q_w14 c2 t9 (k0 := 18) rfl e18, q_w14 c1 t9 (k0 := 17) rfl e17, q_w14 c t9 (k0 := 16) rfl e16]
    · rw [v2 j i hj, q_w c5 t9 (k0 := 22) rfl e22 (q_kr hj), q_w c4 t9 (k0 := 21) rfl e21 (q_kr hj), q_w c3 t9 (k0 := 19) rfl e19 (q_kr hj), q_w c2 t9 (k0 := 18) rfl e18 (q_kr hj), q_w c1 t9 (k0 := 17) rfl e17 (q_kr hj), q_w c t9 (k0 := 16) rfl e16 (q_kr hj), zo_nar1]
    · rw [ey7 j i hj, q_w c5 t9 (k0 := 22) rfl e22 (q_kr2 hj), if_neg (c := j = 22 ∧ i = sl) (by omega), q_w c4 t9 (k0 := 21) rfl e21 (q_kr2 hj), if_neg (c := j = 21 ∧ i = sl) (by omega), q_w c3 t9 (k0 := 19) rfl e19 (q_kr2 hj), if_neg (c := j = 19 ∧ i = sl) (by omega), q_w c2 t9 (k0 := 18) rfl e18 (q_kr2 hj), if_neg (c := j = 18 ∧ i = sl) (by omega), q_w c1 t9 (k0 := 17) rfl e17 (q_kr2 hj), if_neg (c := j = 17 ∧ i = sl) (by omega), q_w c t9 (k0 := 16) rfl e16 (q_kr2 hj), if_neg (c := j = 16 ∧ i = sl) (by omega)]
theorem pX9_pageFor_102 (t9 : T o9 = some 9) {m k sb gn : Int32} (hm : 0 ≤ m.toInt ∧ m.toInt ≤ 8) : ∀ (u : Nat) (x : Int32) (y : Nat) (σ : mm_M), sCI T σ → x.toInt = y → 1 ≤ y → y ≤ 9 → pw (fX9_pageFor_102 u o9 m k sb gn x σ) (fun R => ∃ σ1, q_al o9 m k sb σ1 R ∧ mm_I σ1 o9 14 = mm_I σ o9 14 ∧ (∀ j i, 15 ≤ j ∧ j ≤ 26 → rdA σ1 o9 j i = rdA σ o9 j i) ∧ ∀ i, rdA σ1 o9 27 i = if y ≤ i ∧ i ≤ 8 ∧ rdA σ o9 27 i = gn then -1 else rdA σ o9 27 i) := by
  intro u
  induction u with
  | zero => intros; exact pw_none
  | succ u ih =>
    intro x y σ c hx h1 h9
    unfold fX9_pageFor_102
    obtain ⟨oa, eo, to⟩ := ci_ref c t9 27 (κ' := 77) rfl
    have ex := zi_p1 (x := x) (by omega)
    have ecl : x.toNatClampNeg = y := by rw [zi_clamp]; omega
    refine pw_ite (fun a => ?_) (fun a => pw_sh fun _ => pw_onS eo (pw_ar fun _ _ => pw_ib fun _ _ => ?_))
    · rw [zi_le] at a
      simp only [Int32.reduceToInt] at a
      refine (pX9_pageFor_148 c t9 hm _ 0).mono (fun R hR => ⟨σ, hR, rfl, fun _ _ _ => rfl, fun i => by rw [if_neg (by omega)]⟩)
    · rw [zi_le] at a
      simp only [Int32.reduceToInt] at a
      rw [ecl]
      have step : ∀ v : Int32, v = (if rdA σ o9 27 y = gn then -1 else rdA σ o9 27 y) → pw (fX9_pageFor_102 u o9 m k sb gn (x + 1) (mm_wI σ oa y v)) (fun R => ∃ σ1, q_al o9 m k sb σ1 R ∧ mm_I σ1 o9 14 = mm_I σ o9 14 ∧ (∀ j i, 15 ≤ j ∧ j ≤ 26 → rdA σ1 o9 j i = rdA σ o9 j i) ∧ ∀ i, rdA σ1 o9 27 i = if y ≤ i ∧ i ≤ 8 ∧ rdA σ o9 27 i = gn then -1 else rdA σ o9 27 i) := by
        intro v hv
        have hvr : -1 ≤ v.toInt ∧ v.toInt ≤ 19 := by
          rw [hv]
          split
          · decide
          · rw [rdA_eq eo]; exact ci_rg c to y rfl
        have c1 := ci_wI (j := y) (v := v) c to (kr_s (lo := -1) (hi := 19) rfl hvr)
        refine (ih (x + 1) (y + 1) _ c1 (by omega) (by omega) (by omega)).mono (fun R hR => ?_)
        obtain ⟨σ1, r1, r2, r3, r4⟩ := hR
        refine ⟨σ1, r1, r2.trans (q_w14 c t9 (k0 := 27) rfl eo), fun j i hj => ?_, fun i => ?_⟩
        · rw [r3 j i hj, q_w c t9 (k0 := 27) rfl eo (q_kr3 hj), if_neg (by omega)]
        · rw [r4 i, q_w c t9 (k0 := 27) rfl eo rfl]
          by_cases hi : i = y
          · subst hi
            rw [if_neg (by omega), if_pos ⟨rfl, rfl⟩, hv]
            by_cases hg : rdA σ o9 27 i = gn
            · rw [if_pos hg, if_pos ⟨by omega, by omega, hg⟩]
            · rw [if_neg hg, if_neg (fun h => hg h.2.2)]
          · rw [if_neg (c := (27 = 27 ∧ i = y)) (fun h => hi h.2)]
            by_cases hg : y + 1 ≤ i ∧ i ≤ 8 ∧ rdA σ o9 27 i = gn
            · rw [if_pos hg, if_pos ⟨by omega, hg.2.1, hg.2.2⟩]
            · rw [if_neg hg, if_neg (fun h => hg ⟨by omega, h.2.1, h.2.2⟩)]
      refine pw_ite (fun b => pw_ib fun _ _ => pw_let (step _ ?_)) (fun b => pw_onS eo (pw_ar fun _ _ => pw_ib fun _ _ => pw_ib fun _ _ => pw_let (step _ ?_)))
      · rw [rdA_eq eo, if_pos b]
      · rw [rdA_eq eo, if_neg b]
/-- pageFor: the store without the page, the page's slot, and its fields -/
def q_pf (o9 : Nat) (σ : mm_M) (s : Nat → Nat) (n : Nat) (g : Nat → Nat → Int32) (m k sb : Int32) (R : Int32 × mm_M) : Prop := ∃ (n1 : Nat) (g1 : Nat → Nat → Int32) (s1 : Nat → Nat) (sl : Nat) (r : Nat → Int32),
  q_S9 o9 s1 R.2 n1 g1 ∧ n1 < 20 ∧ R.1.toInt = sl ∧ sl < 20 ∧ (∀ i, i < n1 → s1 i ≠ sl) ∧ (∀ i, i < n1 → ¬ q_op g1 m i) ∧ r 2 = m ∧ rdA R.2 o9 16 sl ≠ 0 ∧ rdA R.2 o9 17 sl = m ∧ rdA R.2 o9 18 sl = r 3 ∧ rdA R.2 o9 19 sl = r 4 ∧ rdA R.2 o9 21 sl = r 7 ∧ rdA R.2 o9 22 sl = r 8 ∧
  q_bn n g s m k sb (n1 + 1) (q_app g1 n1 r) (q_app s1 n1 sl) ∧ ((∃ i, i < n ∧ q_nm g m k sb i) → ∀ j i, 23 ≤ j ∧ j ≤ 26 → rdA R.2 o9 j i = rdA σ o9 j i) ∧ ((∀ i, i < n → ¬ q_nm g m k sb i) → q_ey o9 sl 0 σ R.2)
theorem q_pf_new {σ1 : mm_M} {m k sb : Int32} {R : Int32 × mm_M} {n1 : Nat} {g1 : Nat → Nat → Int32} {s1 : Nat → Nat} (h : q_S9 o9 s1 σ1 n1 g1) (hn : n1 < 20) (hno : ∀ i, i < n1 → ¬ q_op g1 m i) (ha : q_al o9 m k sb σ1 R) (hbn : ∀ sl, q_bn n g s m k sb (n1 + 1) (q_app g1 n1 (q_new m k sb)) (q_app s1 n1 sl)) (hno' : ∀ i, i < n → ¬ q_nm g m k sb i) (h26 : ∀ j i, 23 ≤ j ∧ j ≤ 26 → rdA σ1 o9 j i = rdA σ o9 j i) : q_pf o9 σ s n g m k sb R := by
  obtain ⟨sl, a1, a2, a3, a4, a5, a6⟩ := ha
  have hne : ∀ i, i < n1 → s1 i ≠ sl := fun i hi e => by
    have := (h.2.2.1 i hi).2.2.1
    exact this (by rw [e]; exact a3)
  refine ⟨n1, g1, s1, sl, q_new m k sb, ?_, hn, a1, a2, hne, hno, rfl, ?_, ?_, ?_, ?_, ?_, ?_, hbn sl, fun h => absurd h.choose_spec.2 (hno' _ h.choose_spec.1), fun _ j i hj => by rw [a6 j i hj, h26 j i hj]⟩
  · unfold q_S9
    rw [a4]
    have hV : q_V (mm_I σ1 o9 14).toInt (q_F o9 σ1) s1 n1 g1 := h
    refine ⟨hV.1, hV.2.1, fun i hi => ?_, hV.2.2.2.1, fun x x1 x2 => ?_⟩
    · have e : ∀ j, (15 ≤ j ∧ j ≤ 22) ∨ j = 27 → q_F o9 R.2 j (s1 i) = q_F o9 σ1 j (s1 i) := fun j hj => by
        show rdA R.2 o9 j (s1 i) = rdA σ1 o9 j (s1 i)
        have hn := hne i hi
        rw [a5 j _ hj, if_neg (fun h => hn h.2), if_neg (fun h => hn h.2), if_neg (fun h => hn h.2), if_neg (fun h => hn h.2), if_neg (fun h => hn h.2), if_neg (fun h => hn h.2)]
      have e15 : q_F o9 R.2 15 i = q_F o9 σ1 15 i := by
        show rdA R.2 o9 15 i = rdA σ1 o9 15 i
        rw [a5 15 _ (by omega), if_neg (fun h => absurd h.1 (by decide)), if_neg (fun h => absurd h.1 (by decide)), if_neg (fun h => absurd h.1 (by decide)), if_neg (fun h => absurd h.1 (by decide)), if_neg (fun h => absurd h.1 (by decide)), if_neg (fun h => absurd h.1 (by decide))]
      rw [e15, e 16 (by omega), e 17 (by omega), e 18 (by omega), e 19 (by omega), e 20 (by omega), e 21 (by omega), e 22 (by omega)]
      exact hV.2.2.1 i hi
    · have e27 : ∀ i, q_F o9 R.2 27 i = q_F o9 σ1 27 i := fun i => by
        show rdA R.2 o9 27 i = rdA σ1 o9 27 i
        rw [a5 27 _ (by omega), if_neg (fun h => absurd h.1 (by decide)), if_neg (fun h => absurd h.1 (by decide)), if_neg (fun h => absurd h.1 (by decide)), if_neg (fun h => absurd h.1 (by decide)), if_neg (fun h => absurd h.1 (by decide)), if_neg (fun h => absurd h.1 (by decide))]
      rw [e27]
      exact hV.2.2.2.2 x x1 x2
  · rw [a5 16 _ (by omega), if_neg (fun h => absurd h.1 (by decide)), if_neg (fun h => absurd h.1 (by decide)), if_neg (fun h => absurd h.1 (by decide)), if_neg (fun h => absurd h.1 (by decide)), if_neg (fun h => absurd h.1 (by decide)), if_pos ⟨rfl, rfl⟩]; decide
  · rw [a5 17 _ (by omega), if_neg (fun h => absurd h.1 (by decide)), if_neg (fun h => absurd h.1 (by decide)), if_neg (fun h => absurd h.1 (by decide)), if_neg (fun h => absurd h.1 (by decide)), if_pos ⟨rfl, rfl⟩]
  · rw [a5 18 _ (by omega), if_neg (fun h => absurd h.1 (by decide)), if_neg (fun h => absurd h.1 (by decide)), if_neg (fun h => absurd h.1 (by decide)), if_pos ⟨rfl, rfl⟩]; rfl
  · rw [a5 19 _ (by omega), if_neg (fun h => absurd h.1 (by decide)), if_neg (fun h => absurd h.1 (by decide)), if_pos ⟨rfl, rfl⟩]; rfl
  · rw [a5 21 _ (by omega), if_neg (fun h => absurd h.1 (by decide)), if_pos ⟨rfl, rfl⟩]; rfl
  · rw [a5 22 _ (by omega), if_pos ⟨rfl, rfl⟩]; rfl
theorem pX9_pageFor_3 (h : q_S9 o9 s σ n g) (c : sCI T σ) (t9 : T o9 = some 9) (hu : q_ou n g) {m k sb : Int32} (hm : 1 ≤ m.toInt ∧ m.toInt ≤ 8) (hno : ∀ i, i < n → ¬ q_op g m i) (hsb : sb ≠ -1) : ∀ (u : Nat) (x : Int32) (y : Nat), x.toInt = y → y ≤ n → (∀ i, i < y → ¬ q_nm g m k sb i) → pw (fX9_pageFor_3 u o9 m k sb x σ) (q_pf o9 σ s n g m k sb) := by
  intro u
  induction u with
  | zero => intros; exact pw_none
  | succ u ih =>
    intro x y hx hy hnm
    have hV : q_V (mm_I σ o9 14).toInt (q_F o9 σ) s n g := h
    obtain ⟨v1, v2, v3, v4, v5⟩ := hV
    have ex := zi_p1 (x := x) (by omega)
    have ecl : x.toNatClampNeg = y := by rw [zi_clamp]; omega
    obtain ⟨q15, e15, t15⟩ := ci_ref c t9 15 (κ' := 65) rfl
    obtain ⟨q16, e16, t16⟩ := ci_ref c t9 16 (κ' := 66) rfl
    obtain ⟨q17, e17, t17⟩ := ci_ref c t9 17 (κ' := 67) rfl
    obtain ⟨q18, e18, t18⟩ := ci_ref c t9 18 (κ' := 68) rfl
    obtain ⟨q19, e19, t19⟩ := ci_ref c t9 19 (κ' := 69) rfl
    unfold fX9_pageFor_3
    refine pw_sh fun _ => pw_ite (fun a => ?_) (fun a => ?_)
    · rw [zi_le, v1] at a
      have hyn : y = n := by omega
      subst hyn
      refine pw_ite (fun b => ?_) (fun b => ?_)
      · have hn20 : y = 20 := by rw [b] at v1; have : (20 : Int32).toInt = 20 := rfl; omega
        have r0 : (0 : Int32).toNatClampNeg = 0 := rfl
        refine pw_onS e15 (pw_ar fun _ _ => pw_ib fun _ _ => ?_)
        rw [r0]
        have eg : (mm_I σ q15 0).toInt = s 0 := by
          have := (v3 0 (by omega)).2.1
          rw [← this]; show _ = (rdA σ o9 15 0).toInt; rw [rdA_eq e15]
        have egc : (mm_I σ q15 0).toNatClampNeg = s 0 := by rw [zi_clamp]; omega
        generalize hgn : mm_I σ q15 0 = gn at eg egc ⊢
        refine pw_onP (pX9_takeOut (k := 0) c t9 rfl v1 (by omega)) fun s2 hh => ?_
        obtain ⟨⟨c2, f2⟩, w14, w15, wv⟩ := hh
        have e16' : mm_R s2 o9 16 = some q16 := (f2.2.2 o9 9 t9 16 rfl).2.trans e16
        refine pw_sh fun _ => pw_onS e16' (pw_ar fun _ _ => pw_ib fun _ _ => pw_let ?_)
        rw [egc]
        have c3 := ci_wI (j := s 0) (v := vp_nar .boolean 0) c2 t16 (kr_n rfl)
        refine (pX9_pageFor_102 t9 ⟨by omega, hm.2⟩ _ 1 1 _ c3 rfl (by omega) (by omega)).mono (fun R hR => ?_)
        obtain ⟨σ1, r1, r2, r3, r4⟩ := hR
        have key : q_S9 o9 (q_shf s 0) σ1 (y - 1) (q_shf g 0) := by
          unfold q_S9
          rw [r2, q_w14 c2 t9 (k0 := 16) rfl e16', w14, ← v1]
          refine q_V.sh (F := q_F o9 σ) (k := 0) h hu (by omega) (fun i hi => ?_) (fun i hi h0 => ?_) (fun j i hj => ?_) (fun x x1 x2 => ?_)
          · show rdA σ1 o9 15 i = q_shf (rdA σ o9 15) 0 i
            rw [r3 15 i (by omega), q_w c2 t9 (k0 := 16) rfl e16' rfl, if_neg (fun h => absurd h.1 (by decide))]
            exact w15 i hi
          · show rdA σ1 o9 16 (s i) = rdA σ o9 16 (s i)
            rw [r3 16 _ (by omega), q_w c2 t9 (k0 := 16) rfl e16' rfl, if_neg (fun h => h0 (v4 i 0 hi (by omega) h.2))]
            exact wv 16 _ (by omega)
          · show rdA σ1 o9 j i = rdA σ o9 j i
            rw [r3 j i (by omega), q_w c2 t9 (k0 := 16) rfl e16' (q_kr (by omega)), if_neg (by omega)]
            exact wv j i (by omega)
          · show rdA σ1 o9 27 x.toInt.toNat = if (rdA σ o9 27 x.toInt.toNat).toInt = s 0 then -1 else rdA σ o9 27 x.toInt.toNat
            rw [r4, q_w c2 t9 (k0 := 16) rfl e16' rfl, if_neg (c := (27 = 16 ∧ x.toInt.toNat = s 0)) (fun h => absurd h.1 (by decide)), wv 27 _ (by omega)]
            by_cases hg : rdA σ o9 27 x.toInt.toNat = gn
            · rw [if_pos ⟨by omega, by omega, hg⟩, if_pos (by rw [hg]; exact eg)]
            · rw [if_neg (fun h => hg h.2.2), if_neg (fun h => hg (by rw [zi_eq, h, eg]))]
        refine q_pf_new key (by omega) (fun i hi h' => hno (i + 1) (by omega) ?_) r1 (fun sl => Or.inr (Or.inr ⟨hnm, hn20, by omega, ?_, sl, ?_⟩)) ?_ ?_
        · unfold q_op q_shf at h'
          rw [if_neg (by omega)] at h'
          exact h'
        · rw [hn20]
        · rw [hn20]
        · exact hnm
        · intro j i hj
          rw [r3 j i (by omega), q_w c2 t9 (k0 := 16) rfl e16' (q_kr2 hj), if_neg (by omega)]
          exact wv j i (by omega)
      · have hn20 : y ≠ 20 := fun e => b (by rw [zi_eq, v1, e]; rfl)
        exact (pX9_pageFor_148 c t9 ⟨by omega, hm.2⟩ _ 0).mono (fun R hR => q_pf_new h (by omega) hno hR (fun sl => Or.inr (Or.inl ⟨hnm, by omega, rfl, rfl, sl, rfl⟩)) hnm (fun _ _ _ => rfl))
    · rw [zi_le, v1] at a
      have hyn : y < n := by omega
      obtain ⟨b1, b2, b3, b4, b5, b6, -, b8, b9⟩ := v3 y hyn
      rw [ecl]
      have eg : (mm_I σ q15 y).toInt = s y := by
        rw [← b2]; show _ = (rdA σ o9 15 y).toInt; rw [rdA_eq e15]
      have egc : (mm_I σ q15 y).toNatClampNeg = s y := by rw [zi_clamp]; omega
      have next : ¬ q_nm g m k sb y → pw (fX9_pageFor_3 u o9 m k sb (x + 1) σ) (q_pf o9 σ s n g m k sb) := fun hn =>
        ih (x + 1) (y + 1) (by omega) (by omega) (fun i hi => by
          by_cases e : i = y
          · subst e; exact hn
          · exact hnm i (by omega))
      refine pw_onS e15 (pw_ar fun _ _ => pw_ib fun _ _ => pw_onS e17 (pw_ar fun _ _ => pw_ib fun _ _ => ?_))
      rw [egc]
      have g17 : mm_I σ q17 (s y) = g y 2 := by rw [← b4]; show _ = rdA σ o9 17 (s y); rw [rdA_eq e17]
      have g18 : mm_I σ q18 (s y) = g y 3 := by rw [← b5]; show _ = rdA σ o9 18 (s y); rw [rdA_eq e18]
      have g19 : mm_I σ q19 (s y) = g y 4 := by rw [← b6]; show _ = rdA σ o9 19 (s y); rw [rdA_eq e19]
      rw [g17]
      refine pw_ite (fun n1 => pw_onS e18 (pw_ar fun _ _ => pw_ib fun _ _ => ?_)) (fun n1 => next (fun h => n1 h.1))
      rw [g18]
      refine pw_ite (fun n2 => pw_onS e19 (pw_ar fun _ _ => pw_ib fun _ _ => ?_)) (fun n2 => next (fun h => n2 h.2.1))
      rw [g19]
      refine pw_ite (fun n3 => ?_) (fun n3 => next (fun h => h.2.2.elim hsb n3))
      refine pw_onP (pX9_takeOut (k := y) c t9 hx v1 hyn) fun s2 hh => pw_some ?_
      obtain ⟨⟨c2, f2⟩, w14, w15, wv⟩ := hh
      have key : q_S9 o9 (q_shf s y) s2 (n - 1) (q_shf g y) := by
        unfold q_S9
        rw [w14, ← v1]
        refine q_V.sh (F := q_F o9 σ) (k := y) h hu hyn (fun i hi => w15 i hi) (fun i hi h0 => wv 16 _ (by omega)) (fun j i hj => wv j i (by omega)) (fun x x1 x2 => ?_)
        show rdA s2 o9 27 x.toInt.toNat = if (rdA σ o9 27 x.toInt.toNat).toInt = s y then -1 else rdA σ o9 27 x.toInt.toNat
        rw [wv 27 _ (by omega), if_neg]
        intro he
        rcases v5 x x1 x2 with ⟨i, a1, a2, a3⟩ | ⟨a1, -⟩
        · have a2' : (rdA σ o9 27 x.toInt.toNat).toInt = s i := a2
          have : i = y := v4 i y a1 hyn (by omega)
          subst this
          exact hno i hyn ⟨a3.1, n1⟩
        · have a1' : rdA σ o9 27 x.toInt.toNat = -1 := a1
          rw [a1'] at he
          have : (-1 : Int32).toInt = -1 := rfl
          omega
      have hn1 : n - 1 + 1 = n := by omega
      refine ⟨n - 1, q_shf g y, q_shf s y, s y, g y, key, by omega, eg, b1, fun i hi e => ?_, fun i hi h' => ?_, n1, ?_, ?_, ?_, ?_, ?_, ?_, Or.inl ⟨y, hyn, ⟨n1, n2, Or.inr n3⟩, hn1, rfl, rfl⟩, fun _ j i hj => wv j i (by omega), fun h => absurd ⟨n1, n2, Or.inr n3⟩ (h y hyn)⟩
      · unfold q_shf at e
        by_cases d : i < y
        · rw [if_pos d] at e; have := v4 i y (by omega) hyn e; omega
        · rw [if_neg d] at e; have := v4 (i + 1) y (by omega) hyn e; omega
      · unfold q_op q_shf at h'
        by_cases d : i < y
        · rw [if_pos d] at h'; exact hno i (by omega) h'
        · rw [if_neg d] at h'; exact hno (i + 1) (by omega) h'
      · show rdA s2 o9 16 (s y) ≠ 0
        rw [wv 16 _ (by omega)]; exact b3
      · show rdA s2 o9 17 (s y) = m
        rw [wv 17 _ (by omega), rdA_eq e17, g17]; exact n1
      · show rdA s2 o9 18 (s y) = g y 3
        rw [wv 18 _ (by omega)]; exact b5
      · show rdA s2 o9 19 (s y) = g y 4
        rw [wv 19 _ (by omega)]; exact b6
      · show rdA s2 o9 21 (s y) = g y 7
        rw [wv 21 _ (by omega)]; exact b8
      · show rdA s2 o9 22 (s y) = g y 8
        rw [wv 22 _ (by omega)]; exact b9
theorem pX9_pageFor (h : q_S9 o9 s σ n g) (c : sCI T σ) (t9 : T o9 = some 9) (hu : q_ou n g) {m k sb : Int32} (hm : 1 ≤ m.toInt ∧ m.toInt ≤ 8) (hno : ∀ i, i < n → ¬ q_op g m i) (hsb : sb ≠ -1) : pw (fX9_pageFor o9 m k sb σ) (q_pf o9 σ s n g m k sb) :=
  pX9_pageFor_3 h c t9 hu hm hno hsb _ 0 0 rfl (Nat.zero_le _) (fun i hi => absurd hi (Nat.not_lt_zero _))
end ST19
/-! The reference's header, rows and packet by value -/
theorem vl_rg (x : Int32) : vl x = -1 ∨ ∃ k : Fin 16, vl x = Int32.ofNat k.val := by
  obtain ⟨v, -, ev⟩ := vl_at x
  rw [ev]
  by_cases h : v = -1
  · rw [if_pos h]; exact Or.inl rfl
  · rw [if_neg h]
    have h1 := zi_and v 15 (by decide)
    have e : (15 : Int32).toInt = 15 := rfl
    rw [e] at h1
    refine Or.inr ⟨⟨(v &&& 15).toInt.toNat, by omega⟩, ?_⟩
    have := Int32.ofNat_toNatClampNeg (x := v &&& 15)
    rw [zi_clamp] at this
    exact (this (by rw [zi_le]; exact h1.1)).symm
theorem v_mag : ∀ k : Fin 16, fX9_mag (Int32.ofNat k.val) = fX8_magazineOf (Int32.ofNat k.val) ∧ 1 ≤ (fX8_magazineOf (Int32.ofNat k.val)).toInt ∧ (fX8_magazineOf (Int32.ofNat k.val)).toInt ≤ 8 := by decide
theorem v_lt8 : ∀ k : Fin 16, Int32.ofNat k.val < 8 ↔ Int32.ofNat k.val &&& 8 = 0 := by decide
theorem v_b4 : ∀ k : Fin 16, ((Int32.ofNat k.val / 4) - (Int32.ofNat k.val / 4) / 2 * 2) = 1 ↔ ¬ Int32.ofNat k.val &&& 4 = 0 := by decide
theorem v_b1 : ∀ k : Fin 16, (Int32.ofNat k.val - Int32.ofNat k.val / 2 * 2) = 1 ↔ Int32.ofNat k.val &&& 1 = 1 := by decide
theorem v_b10 : ∀ k : Fin 16, Int32.ofNat k.val &&& 1 = 1 ↔ ¬ Int32.ofNat k.val &&& 1 = 0 := by decide
theorem v_m8 : ∀ k : Fin 16, (Int32.ofNat k.val - Int32.ofNat k.val / 8 * 8) = Int32.ofNat k.val &&& 7 := by decide
theorem v_m4 : ∀ k : Fin 16, (Int32.ofNat k.val - Int32.ofNat k.val / 4 * 4) = Int32.ofNat k.val &&& 3 := by decide
theorem v_i : ∀ k : Fin 16, (Int32.ofNat k.val).toInt = k.val := by decide
theorem v_sub {a b c d : Int32} (hb : ∃ k : Fin 16, b = Int32.ofNat k.val) (hd : ∃ k : Fin 16, d = Int32.ofNat k.val) : fX9_subcodeOf a b c d = fX8_subcodeOf a b c d := by
  obtain ⟨kb, rfl⟩ := hb
  obtain ⟨kd, rfl⟩ := hd
  unfold fX9_subcodeOf fX8_subcodeOf
  rw [v_m8, v_m4]
theorem v_sub1 {a b c d : Int32} (ha : ∃ k : Fin 16, a = Int32.ofNat k.val) (hb : ∃ k : Fin 16, b = Int32.ofNat k.val) (hc : ∃ k : Fin 16, c = Int32.ofNat k.val) (hd : ∃ k : Fin 16, d = Int32.ofNat k.val) : fX8_subcodeOf a b c d ≠ -1 := by
  obtain ⟨ka, rfl⟩ := ha
  obtain ⟨kb, rfl⟩ := hb
  obtain ⟨kc, rfl⟩ := hc
  obtain ⟨kd, rfl⟩ := hd
  have hA := v_i ka
  have hC := v_i kc
  have hB := zi_and (Int32.ofNat kb.val) 7 (by decide)
  have hD := zi_and (Int32.ofNat kd.val) 3 (by decide)
  have e7 : (7 : Int32).toInt = 7 := rfl
  have e3 : (3 : Int32).toInt = 3 := rfl
  rw [e7] at hB
  rw [e3] at hD
  have la := ka.isLt
  have lc := kc.isLt
  have m1 : (16 * (Int32.ofNat kb.val &&& 7)).toInt = 16 * (Int32.ofNat kb.val &&& 7).toInt := by
    rw [zi_mul, show (16 : Int32).toInt = 16 from rfl, zi_bm (by omega) (by omega)]
  have m2 : (128 * Int32.ofNat kc.val).toInt = 128 * kc.val := by
    rw [zi_mul, show (128 : Int32).toInt = 128 from rfl, zi_bm (by omega) (by omega), hC]
  have m3 : (2048 * (Int32.ofNat kd.val &&& 3)).toInt = 2048 * (Int32.ofNat kd.val &&& 3).toInt := by
    rw [zi_mul, show (2048 : Int32).toInt = 2048 from rfl, zi_bm (by omega) (by omega)]
  have a1 : (Int32.ofNat ka.val + 16 * (Int32.ofNat kb.val &&& 7)).toInt = ka.val + 16 * (Int32.ofNat kb.val &&& 7).toInt := by
    rw [zi_add, m1, hA, zi_bm (by omega) (by omega)]
  have a2 : (Int32.ofNat ka.val + 16 * (Int32.ofNat kb.val &&& 7) + 128 * Int32.ofNat kc.val).toInt = ka.val + 16 * (Int32.ofNat kb.val &&& 7).toInt + 128 * kc.val := by
    rw [zi_add, a1, m2, zi_bm (by omega) (by omega)]
  have a3 : (fX8_subcodeOf (Int32.ofNat ka.val) (Int32.ofNat kb.val) (Int32.ofNat kc.val) (Int32.ofNat kd.val)).toInt = ka.val + 16 * (Int32.ofNat kb.val &&& 7).toInt + 128 * kc.val + 2048 * (Int32.ofNat kd.val &&& 3).toInt := by
    unfold fX8_subcodeOf
    rw [zi_add, a2, m3, zi_bm (by omega) (by omega)]
  intro h
  rw [h, show (-1 : Int32).toInt = -1 from rfl] at a3
  omega
section ST20
variable {T : Nat → Option Nat} {σ : mm_M} {o9 n : Nat} {s : Nat → Nat} {g : Nat → Nat → Int32}
theorem pX9_header_275 (t9 : T o9 = some 9) {x1 x2 x3 x4 x5 x6 : Int32} : ∀ (u : Nat) (x7 : Int32) (σ : mm_M), sCI T σ → pw (fX9_header_275 u o9 x1 x2 x3 x4 x5 x6 x7 σ) (fun R => sFR T [73, 74, 76] σ R) := by
  intro u
  induction u with
  | zero => intros; exact pw_none
  | succ u ih =>
    intro x7 σ c
    unfold fX9_header_275
    obtain ⟨b, eb, tb⟩ := ci_ref c t9 23 (κ' := 73) rfl
    refine pw_ite (fun _ => pw_some fr_refl) (fun _ => pw_sh fun _ => pw_onS eb (pw_ar fun _ _ => pw_ib fun _ _ => pw_let ?_))
    exact (ih _ _ (ci_wI c tb (kr_n rfl))).mono (fun R h => fr_trans (fr_wI fr_refl tb rfl) h rfl)
theorem pX9_header_259 (c : sCI T σ) (t9 : T o9 = some 9) {x1 x2 x3 x4 x5 x6 : Int32} (h6 : 0 ≤ x6.toInt ∧ x6.toInt ≤ 19) : pw (fX9_header_259 o9 x1 x2 x3 x4 x5 x6 σ) (fun R => sFR T [73, 74, 76] σ R) := by
  unfold fX9_header_259
  refine pw_sh fun _ => pw_onP (sX9_text (p2 := 0) (p3 := 10) (p4 := 8) (p5 := 32) c t9 h6 (by decide) (by decide) (by decide)).p fun s2 ⟨c2, f2, _⟩ => ?_
  exact (pX9_header_275 t9 _ _ _ c2).mono (fun R h => fr_trans (fr_trans fr_refl f2 rfl) h rfl)
theorem pX9_header_244 (c : sCI T σ) (t9 : T o9 = some 9) {x1 x2 x3 x4 x5 x6 y0 y1 y2 : Int32} {q : Nat} (eq : mm_R σ o9 20 = some q) (h6 : 0 ≤ x6.toInt ∧ x6.toInt ≤ 19) : pw (fX9_header_244 o9 x1 x2 x3 x4 x5 x6 y0 y1 y2 (some q) σ) (fun R => sFR T [73, 74, 76] (mm_wI σ q y2.toNatClampNeg (y1 + y0)) R) := by
  unfold fX9_header_244
  obtain ⟨q', eq', tq⟩ := ci_ref c t9 20 (κ' := 70) rfl
  have : q' = q := Option.some.inj (eq'.symm.trans eq)
  subst this
  have c1 := ci_wI (j := y2.toNatClampNeg) (v := y1 + y0) c tq (kr_n rfl)
  refine pw_onS rfl (pw_ar fun _ _ => pw_ib fun _ _ => pw_let (pw_ite (fun _ => pX9_header_259 c1 t9 h6) (fun _ => pw_sh fun _ => ?_)))
  refine pw_onP (sX9_emptyRows (p2 := 1) c1 t9 h6 (by decide)).p fun s2 ⟨c2, f2, _⟩ => ?_
  exact (pX9_header_259 c2 t9 h6).mono (fun R h => fr_trans (fr_trans fr_refl f2 rfl) h rfl)
theorem pX9_header_206 (c : sCI T σ) (t9 : T o9 = some 9) {x1 x2 x3 x4 x5 x6 y0 y1 : Int32} {q : Nat} (eq : mm_R σ o9 20 = some q) (h6 : 0 ≤ x6.toInt ∧ x6.toInt ≤ 19) : pw (fX9_header_206 o9 x1 x2 x3 x4 x5 x6 y0 y1 (some q) σ) (fun R => sFR T [73, 74, 76] (mm_wI σ q y1.toNatClampNeg (((y0 + (if ((x3 / 4) - (x3 / 4) / 2 * 2) = 1 then 2 else 0)) + (if x3 < 8 then 0 else 4)) + (if x4 = 0 then 0 else 8))) R) := by
  unfold fX9_header_206 fX9_header_220 fX9_header_232
  by_cases a : ((x3 / 4) - (x3 / 4) / 2 * 2) = 1 <;> by_cases b : x3 < 8 <;> by_cases d : x4 = 0 <;> simp only [a, b, d, if_true, if_false] <;> exact pX9_header_244 c t9 eq h6
/-- the new page in its slot, last in order, open -/
theorem pX9_header_end (h : q_S9 o9 s σ n g) (c : sCI T σ) (t9 : T o9 = some 9) (hu : q_ou n g) (hc : uc σ o9 ≤ (mm_I σ o9 14).toInt) {w : Nat → Int32} (hw : ∀ j, j < 8 → vl (rdA σ o9 11 (2 + j)) = w j) (hk : ∀ j, j < 8 → ∃ k : Fin 16, w j = Int32.ofNat k.val) {u : Nat} {m x4 x5 : Int32} (hm : 1 ≤ m.toInt ∧ m.toInt ≤ 8) (hno : ∀ i, i < n → ¬ q_op g m i) (h4 : x4 = 0 ↔ w 7 &&& 1 = 0) (hx : 9 ≤ x5.toInt) : pw (fX9_header_69 (u + 1) o9 m (w 3) (w 5) x4 x5 σ) (fun R => (∀ k, rdA R o9 13 k = rdA σ o9 13 k) ∧ ∃ n' g' s', q_S9 o9 s' R n' g' ∧ ((16 * w 1 + w 0 = 255 ∧ n' = n ∧ g' = g ∧ s' = s) ∨ (16 * w 1 + w 0 ≠ 255 ∧ ∃ g2, q_bn n g s m (16 * w 1 + w 0) (fX8_subcodeOf (w 2) (w 3) (w 4) (w 5)) n' g2 s' ∧ g' = q_opn g2 (n' - 1) (q_fl (w 3) (w 5) (w 7))))) := by
  unfold fX9_header_69
  rw [if_pos (by rw [zi_le]; exact hx)]
  have w3 : vl (rdA σ o9 11 (3 : Int32).toNatClampNeg) = w 1 := hw 1 (by omega)
  have w2 : vl (rdA σ o9 11 (2 : Int32).toNatClampNeg) = w 0 := hw 0 (by omega)
  have w4 : vl (rdA σ o9 11 (4 : Int32).toNatClampNeg) = w 2 := hw 2 (by omega)
  have w6 : vl (rdA σ o9 11 (6 : Int32).toNatClampNeg) = w 4 := hw 4 (by omega)
  refine pw_sh fun _ => pw_onP pX9_value fun q11 e11 => pw_sh fun _ => ?_
  subst e11
  refine pw_onP pX9_value fun q13 e13 => ?_
  subst e13
  rw [w3, w2]
  show pw (if 16 * w 1 + w 0 = 255 then _ else _) _
  refine pw_ite (fun a => pw_some ⟨fun _ => rfl, n, g, s, h, Or.inl ⟨a, rfl, rfl, rfl⟩⟩) (fun a => pw_sh fun _ => pw_onP pX9_value fun q16 e16 => pw_sh fun _ => ?_)
  subst e16
  refine pw_onP pX9_value fun q18 e18 => pw_sh fun _ => ?_
  subst e18
  rw [w4, w6]
  show pw (mm_on (fX9_pageFor o9 m (16 * w 1 + w 0) (fX9_subcodeOf (w 2) (w 3) (w 4) (w 5)) σ) _) _
  rw [v_sub (hk 3 (by omega)) (hk 5 (by omega))]
  have hsb : fX8_subcodeOf (w 2) (w 3) (w 4) (w 5) ≠ -1 := v_sub1 (hk 2 (by omega)) (hk 3 (by omega)) (hk 4 (by omega)) (hk 5 (by omega))
  generalize fX8_subcodeOf (w 2) (w 3) (w 4) (w 5) = sb at hsb ⊢
  generalize 16 * w 1 + w 0 = nu at a ⊢
  refine pw_onP (fun y e => And.intro ((sX9_pageFor c t9 ⟨by omega, hm.2⟩ hc).p y e) (pX9_pageFor h c t9 hu hm hno hsb y e)) fun q20 hh => ?_
  obtain ⟨⟨c2, f2, -⟩, n1, g1, s1, sl, r, p1, p2, p3, p4, p5, p6, p7, p8, p9, p10, p11, p12, p13, p14, -⟩ := hh
  have hV : q_V (mm_I q20.2 o9 14).toInt (q_F o9 q20.2) s1 n1 g1 := p1
  have k13 : ∀ k, rdA q20.2 o9 13 k = rdA σ o9 13 k := fun k => rdA_fr f2 c t9 (κ' := 63) rfl rfl rfl
  have ecl : q20.1.toNatClampNeg = sl := by rw [zi_clamp]; omega
  have e14c : (mm_I q20.2 o9 14).toNatClampNeg = n1 := by rw [zi_clamp, hV.1]; omega
  obtain ⟨a15, e15, t15⟩ := ci_ref c2 t9 15 (κ' := 65) rfl
  obtain ⟨a27, e27, t27⟩ := ci_ref c2 t9 27 (κ' := 77) rfl
  obtain ⟨a22, e22, t22⟩ := ci_ref c2 t9 22 (κ' := 72) rfl
  obtain ⟨a20, e20, t20⟩ := ci_ref c2 t9 20 (κ' := 70) rfl
  refine pw_sh fun _ => pw_onS e15 (pw_ar fun _ _ => pw_ib fun _ _ => pw_let (pw_let (pw_onS e27 (pw_ar fun _ _ => pw_ib fun _ _ => pw_let (pw_onS e22 (pw_ar fun _ _ => pw_ib fun _ _ => pw_ib fun _ _ => pw_let ?_))))))
  rw [e14c, ecl]
  have c3 := ci_wI (j := n1) (v := q20.1) c2 t15 (kr_s (lo := 0) (hi := 19) rfl (by omega))
  have i14 : mm_I (mm_wI q20.2 a15 n1 q20.1) o9 14 = mm_I q20.2 o9 14 := q_w14 c2 t9 (k0 := 15) rfl e15
  have i14' : (mm_I q20.2 o9 14 + 1).toInt = n1 + 1 := by rw [zi_p1 (by rw [hV.1]; omega), hV.1]
  have c4 := ci_wI (j := 14) (v := mm_I (mm_wI q20.2 a15 n1 q20.1) o9 14 + 1) c3 t9 (kr_s (lo := 0) (hi := 20) rfl (by rw [i14]; omega))
  have c5 := ci_wI (j := m.toNatClampNeg) (v := q20.1) c4 t27 (kr_s (lo := -1) (hi := 19) rfl (by omega))
  have e22' : mm_R (mm_wI (mm_wI (mm_wI q20.2 a15 n1 q20.1) o9 14 (mm_I (mm_wI q20.2 a15 n1 q20.1) o9 14 + 1)) a27 m.toNatClampNeg q20.1) o9 22 = some a22 := e22
  have c6 := ci_wI (j := sl) (v := mm_I (mm_wI (mm_wI (mm_wI q20.2 a15 n1 q20.1) o9 14 (mm_I (mm_wI q20.2 a15 n1 q20.1) o9 14 + 1)) a27 m.toNatClampNeg q20.1) a22 sl + 1) c5 t22 (kr_n rfl)
  -- the reads of the memory in which header_206 begins
  have rd : ∀ j i, kref 9 j = some (50 + j) → rdA (mm_wI (mm_wI (mm_wI (mm_wI q20.2 a15 n1 q20.1) o9 14 (mm_I (mm_wI q20.2 a15 n1 q20.1) o9 14 + 1)) a27 m.toNatClampNeg q20.1) a22 sl (mm_I (mm_wI (mm_wI (mm_wI q20.2 a15 n1 q20.1) o9 14 (mm_I (mm_wI q20.2 a15 n1 q20.1) o9 14 + 1)) a27 m.toNatClampNeg q20.1) a22 sl + 1)) o9 j i = if j = 22 ∧ i = sl then rdA q20.2 o9 22 sl + 1 else if j = 27 ∧ i = m.toInt.toNat then q20.1 else if j = 15 ∧ i = n1 then q20.1 else rdA q20.2 o9 j i := by
    intro j i hj
    rw [q_w c5 t9 (k0 := 22) rfl e22' hj, ← rdA_eq e22', q_w c4 t9 (k0 := 27) rfl e27 (k := 22) rfl, if_neg (c := (22 = 27 ∧ sl = m.toNatClampNeg)) (fun h => absurd h.1 (by decide)), rdA_k c3 t9 (κ' := 72) rfl t9 (by decide), q_w c2 t9 (k0 := 15) rfl e15 (k := 22) rfl, if_neg (c := (22 = 15 ∧ sl = n1)) (fun h => absurd h.1 (by decide))]
    rw [q_w c4 t9 (k0 := 27) rfl e27 hj, rdA_k c3 t9 hj t9 (by omega), q_w c2 t9 (k0 := 15) rfl e15 hj, zi_clamp]
  have i14b : mm_I (mm_wI (mm_wI (mm_wI (mm_wI q20.2 a15 n1 q20.1) o9 14 (mm_I (mm_wI q20.2 a15 n1 q20.1) o9 14 + 1)) a27 m.toNatClampNeg q20.1) a22 sl (mm_I (mm_wI (mm_wI (mm_wI q20.2 a15 n1 q20.1) o9 14 (mm_I (mm_wI q20.2 a15 n1 q20.1) o9 14 + 1)) a27 m.toNatClampNeg q20.1) a22 sl + 1)) o9 14 = mm_I q20.2 o9 14 + 1 := by
    rw [q_w14 c5 t9 (k0 := 22) rfl e22', q_w14 c4 t9 (k0 := 27) rfl e27, show mm_I (mm_wI (mm_wI q20.2 a15 n1 q20.1) o9 14 (mm_I (mm_wI q20.2 a15 n1 q20.1) o9 14 + 1)) o9 14 = mm_I (mm_wI q20.2 a15 n1 q20.1) o9 14 + 1 from mm_up2_self, i14]
  have e20' : mm_R (mm_wI (mm_wI (mm_wI (mm_wI q20.2 a15 n1 q20.1) o9 14 (mm_I (mm_wI q20.2 a15 n1 q20.1) o9 14 + 1)) a27 m.toNatClampNeg q20.1) a22 sl (mm_I (mm_wI (mm_wI (mm_wI q20.2 a15 n1 q20.1) o9 14 (mm_I (mm_wI q20.2 a15 n1 q20.1) o9 14 + 1)) a27 m.toNatClampNeg q20.1) a22 sl + 1)) o9 20 = some a20 := e20
  rw [e20']
  generalize mm_wI (mm_wI (mm_wI (mm_wI q20.2 a15 n1 q20.1) o9 14 (mm_I (mm_wI q20.2 a15 n1 q20.1) o9 14 + 1)) a27 m.toNatClampNeg q20.1) a22 sl (mm_I (mm_wI (mm_wI (mm_wI q20.2 a15 n1 q20.1) o9 14 (mm_I (mm_wI q20.2 a15 n1 q20.1) o9 14 + 1)) a27 m.toNatClampNeg q20.1) a22 sl + 1) = s35 at c6 rd i14b e20' ⊢
  -- the flags
  have fin : ∀ y0 fl : Int32, (((y0 + (if ((w 5 / 4) - (w 5 / 4) / 2 * 2) = 1 then 2 else 0)) + (if w 5 < 8 then 0 else 4)) + (if x4 = 0 then 0 else 8)) = q_fl (w 3) (w 5) (w 7) → pw (fX9_header_206 o9 m (w 3) (w 5) x4 nu q20.1 y0 q20.1 (some a20) s35) (fun R => (∀ k, rdA R o9 13 k = rdA σ o9 13 k) ∧ ∃ n' g' s', q_S9 o9 s' R n' g' ∧ ((nu = 255 ∧ n' = n ∧ g' = g ∧ s' = s) ∨ (nu ≠ 255 ∧ ∃ g2, q_bn n g s m nu sb n' g2 s' ∧ g' = q_opn g2 (n' - 1) (q_fl (w 3) (w 5) (w 7))))) := by
    intro y0 _ hfl
    refine (pX9_header_206 c6 t9 e20' (by omega)).mono (fun R fR => ?_)
    rw [hfl, ecl] at fR
    have c7 := ci_wI (j := sl) (v := q_fl (w 3) (w 5) (w 7)) c6 t20 (kr_n rfl)
    obtain ⟨z1, z2⟩ := q_view fR c7 t9 rfl
    have rdR : ∀ j i, (15 ≤ j ∧ j ≤ 22) ∨ j = 27 → rdA R o9 j i = if j = 20 ∧ i = sl then q_fl (w 3) (w 5) (w 7) else if j = 22 ∧ i = sl then rdA q20.2 o9 22 sl + 1 else if j = 27 ∧ i = m.toInt.toNat then q20.1 else if j = 15 ∧ i = n1 then q20.1 else rdA q20.2 o9 j i := fun j i hj => by
      rw [z2 j i hj, q_w c6 t9 (k0 := 20) rfl e20' (q_kr hj), rd j i (q_kr hj)]
    have i14R : (mm_I R o9 14).toInt = (mm_I q20.2 o9 14).toInt + 1 := by
      rw [z1, q_w14 c6 t9 (k0 := 20) rfl e20', i14b, i14', hV.1]
    refine ⟨fun k => ?_, n1 + 1, q_opn (q_app g1 n1 r) n1 (q_fl (w 3) (w 5) (w 7)), q_app s1 n1 sl, ?_, Or.inr ⟨a, q_app g1 n1 r, p14, ?_⟩⟩
    · rw [rdA_fr fR c7 t9 (κ' := 63) rfl rfl rfl, q_w c6 t9 (k0 := 20) rfl e20' (k := 13) rfl, if_neg (fun h => absurd h.1 (by decide)), rd 13 k rfl, if_neg (fun h => absurd h.1 (by decide)), if_neg (fun h => absurd h.1 (by decide)), if_neg (fun h => absurd h.1 (by decide)), k13]
    · unfold q_S9
      rw [i14R]
      have no : ∀ (j i : Nat) (x y : Nat), j ≠ x → ¬ (j = x ∧ i = y) := fun j i x y h h' => h h'.1
      refine q_V.add (F := q_F o9 q20.2) (v := q20.1) hV p2 hm.1 p4 p3 p5 p6 p7 (fun i => ?_) ?_ ?_ ?_ ?_ ?_ ?_ ?_ (fun k i hk' hi => ?_) (fun i => ?_)
      · show rdA R o9 15 i = if i = n1 then q20.1 else rdA q20.2 o9 15 i
        rw [rdR 15 i (by omega), if_neg (no _ _ _ _ (by decide)), if_neg (no _ _ _ _ (by decide)), if_neg (no _ _ _ _ (by decide))]
        by_cases e : i = n1
        · rw [if_pos ⟨rfl, e⟩, if_pos e]
        · rw [if_neg (fun h => e h.2), if_neg e]
      · show rdA R o9 16 sl ≠ 0
        rw [rdR 16 sl (by omega), if_neg (no _ _ _ _ (by decide)), if_neg (no _ _ _ _ (by decide)), if_neg (no _ _ _ _ (by decide)), if_neg (no _ _ _ _ (by decide))]; exact p8
      · show rdA R o9 17 sl = m
        rw [rdR 17 sl (by omega), if_neg (no _ _ _ _ (by decide)), if_neg (no _ _ _ _ (by decide)), if_neg (no _ _ _ _ (by decide)), if_neg (no _ _ _ _ (by decide))]; exact p9
      · show rdA R o9 18 sl = r 3
        rw [rdR 18 sl (by omega), if_neg (no _ _ _ _ (by decide)), if_neg (no _ _ _ _ (by decide)), if_neg (no _ _ _ _ (by decide)), if_neg (no _ _ _ _ (by decide))]; exact p10
      · show rdA R o9 19 sl = r 4
        rw [rdR 19 sl (by omega), if_neg (no _ _ _ _ (by decide)), if_neg (no _ _ _ _ (by decide)), if_neg (no _ _ _ _ (by decide)), if_neg (no _ _ _ _ (by decide))]; exact p11
      · show rdA R o9 20 sl = _
        rw [rdR 20 sl (by omega), if_pos ⟨rfl, rfl⟩]
      · show rdA R o9 21 sl = r 7
        rw [rdR 21 sl (by omega), if_neg (no _ _ _ _ (by decide)), if_neg (no _ _ _ _ (by decide)), if_neg (no _ _ _ _ (by decide)), if_neg (no _ _ _ _ (by decide))]; exact p12
      · show rdA R o9 22 sl = r 8 + 1
        rw [rdR 22 sl (by omega), if_neg (no _ _ _ _ (by decide)), if_pos ⟨rfl, rfl⟩, p13]
      · show rdA R o9 k i = rdA q20.2 o9 k i
        rw [rdR k i (by omega), if_neg (fun h => hi h.2), if_neg (fun h => hi h.2), if_neg (no _ _ _ _ (by omega)), if_neg (no _ _ _ _ (by omega))]
      · show rdA R o9 27 i = if i = m.toInt.toNat then q20.1 else rdA q20.2 o9 27 i
        rw [rdR 27 i (by omega), if_neg (no _ _ _ _ (by decide)), if_neg (no _ _ _ _ (by decide))]
        by_cases e : i = m.toInt.toNat
        · rw [if_pos ⟨rfl, e⟩, if_pos e]
        · rw [if_neg (fun h => e h.2), if_neg (no _ _ _ _ (by decide)), if_neg e]
    · rw [Nat.add_sub_cancel]
  obtain ⟨k3, e3⟩ := hk 3 (by omega)
  obtain ⟨k5, e5⟩ := hk 5 (by omega)
  have hfl : (((if w 3 < 8 then (0 : Int32) else 1) + (if ((w 5 / 4) - (w 5 / 4) / 2 * 2) = 1 then 2 else 0)) + (if w 5 < 8 then 0 else 4)) + (if x4 = 0 then 0 else 8) = q_fl (w 3) (w 5) (w 7) := by
    unfold q_fl
    rw [e3, e5]
    simp only [v_lt8, v_b4, h4, ite_not]
  refine pw_ite (fun b => fin 0 0 ?_) (fun b => fin 1 0 ?_)
  · rw [← hfl, if_pos (show w 3 < 8 from b)]
  · rw [← hfl, if_neg (show ¬ w 3 < 8 from b)]
theorem pX9_header_69 (hu : q_ou n g) (t9 : T o9 = some 9) {w : Nat → Int32} (hk : ∀ j, j < 8 → ∃ k : Fin 16, w j = Int32.ofNat k.val) {m x4 : Int32} {b : Bool} (hm : 1 ≤ m.toInt ∧ m.toInt ≤ 8) (hmag : ∀ i, i < n → 1 ≤ (g i 2).toInt ∧ (g i 2).toInt ≤ 8) (hb : x4 = 0 ↔ b = false) (h4 : x4 = 0 ↔ w 7 &&& 1 = 0) : ∀ (u : Nat) (x5 : Int32) (σ : mm_M), sCI T σ → q_S9 o9 s σ n (q_clx g b m x5.toInt) → uc σ o9 ≤ (mm_I σ o9 14).toInt → (∀ j, j < 8 → vl (rdA σ o9 11 (2 + j)) = w j) → 1 ≤ x5.toInt → x5.toInt ≤ 9 → pw (fX9_header_69 u o9 m (w 3) (w 5) x4 x5 σ) (fun R => (∀ k, rdA R o9 13 k = rdA σ o9 13 k) ∧ ∃ n' g' s', q_S9 o9 s' R n' g' ∧ q_hdr n g s b m w n' g' s') := by
  intro u
  induction u with
  | zero => intros; exact pw_none
  | succ u ih =>
    intro x5 σ c h hc hw h1 h9
    by_cases h8 : 9 ≤ x5.toInt
    · have e9 : x5.toInt = 9 := by omega
      rw [e9] at h
      refine (pX9_header_end h c t9 (hu.clx _ _ _) hc hw hk hm (fun i hi ho => ?_) h4 h8).mono (fun R hR => hR)
      have h6 := q_clx6.mp ho.1
      have h2 := ho.2
      rw [q_clx2] at h2
      exact h6.2 ⟨(hmag i hi).1, by have := (hmag i hi).2; omega, Or.inr h2⟩
    · have ex := zi_p1 (x := x5) (by omega)
      have close : b = true ∨ x5 = m → pw (fX9_header_87 (fX9_header_69 u) o9 m (w 3) (w 5) x4 x5 σ) (fun R => (∀ k, rdA R o9 13 k = rdA σ o9 13 k) ∧ ∃ n' g' s', q_S9 o9 s' R n' g' ∧ q_hdr n g s b m w n' g' s') := by
        intro hbm
        unfold fX9_header_87
        refine pw_sh fun _ => pw_onP (fun y e => And.intro ((sX9_close c t9 ⟨by omega, by omega⟩).p y e) (pX9_close h c t9 (hu.clx _ _ _) ⟨h1, by omega⟩ y e)) fun s2 hh => ?_
        obtain ⟨⟨c2, f2, -⟩, h2⟩ := hh
        refine (ih (x5 + 1) s2 c2 (by rw [ex, q_clx_yes h1 hbm]; exact h2) ?_ (fun j hj => by rw [rdA_fr f2 c t9 (κ' := 61) rfl rfl rfl]; exact hw j hj) (by omega) (by omega)).mono (fun R hR => ⟨fun k => (hR.1 k).trans (rdA_fr f2 c t9 (κ' := 63) rfl rfl rfl), hR.2⟩)
        rw [uc_fr f2 c t9 rfl rfl, (f2.2.2 o9 9 t9 14 rfl).1]; exact hc
      unfold fX9_header_69
      rw [if_neg (by rw [zi_le]; exact h8)]
      refine pw_ite (fun a => pw_ite (fun d => close (Or.inr d)) (fun d => ?_)) (fun a => close (Or.inl ?_))
      · exact ih (x5 + 1) σ c (by rw [ex, q_clx_no (hb.mp a) d]; exact h) hc hw (by omega) (by omega)
      · cases b with
        | true => rfl
        | false => exact absurd (hb.mpr rfl) a
theorem pX9_header_2 (h : q_S9 o9 s σ n g) (c : sCI T σ) (t9 : T o9 = some 9) (hu : q_ou n g) (hc : uc σ o9 ≤ (mm_I σ o9 14).toInt) {m : Int32} (hm : 1 ≤ m.toInt ∧ m.toInt ≤ 8) (hmag : ∀ i, i < n → 1 ≤ (g i 2).toInt ∧ (g i 2).toInt ≤ 8) : ∀ (u : Nat) (x : Int32) (k : Nat), x.toInt = 2 + k → k ≤ 8 → (∀ j, j < k → vl (rdA σ o9 11 (2 + j)) ≠ -1) → pw (fX9_header_2 u o9 m x σ) (fun R => ∃ n' g' s', q_S9 o9 s' R n' g' ∧ q_head n g s (fun k => rdA σ o9 13 k) m (fun j => vl (rdA σ o9 11 (2 + j))) n' g' s' (fun k => rdA R o9 13 k)) := by
  intro u
  induction u with
  | zero => intros; exact pw_none
  | succ u ih =>
    intro x k hx hk8 hv
    have ex := zi_p1 (x := x) (by omega)
    have ecl : x.toNatClampNeg = 2 + k := by rw [zi_clamp]; omega
    unfold fX9_header_2
    refine pw_ite (fun a => ?_) (fun a => pw_sh fun _ => pw_onP pX9_value fun q60 e60 => ?_)
    · rw [zi_le] at a
      simp only [Int32.reduceToInt] at a
      have hk : k = 8 := by omega
      subst hk
      have hf : ∀ j, j < 8 → ∃ k : Fin 16, vl (rdA σ o9 11 (2 + j)) = Int32.ofNat k.val := fun j hj => (vl_rg _).resolve_left (hv j hj)
      refine pw_sh fun _ => pw_onP pX9_value fun q3 e3 => pw_sh fun _ => ?_
      subst e3
      refine pw_onP pX9_value fun q5 e5 => pw_sh fun _ => ?_
      subst e5
      refine pw_onP pX9_value fun q7 e7 => ?_
      subst e7
      have fin : ∀ x4 : Int32, (x4 = 0 ↔ ¬ vl (rdA σ o9 11 (2 + 7)) &&& 1 = 1) → pw (fX9_header_69 mm_fuel o9 m (vl (rdA σ o9 11 (2 + 3))) (vl (rdA σ o9 11 (2 + 5))) x4 1 σ) (fun R => ∃ n' g' s', q_S9 o9 s' R n' g' ∧ q_head n g s (fun k => rdA σ o9 13 k) m (fun j => vl (rdA σ o9 11 (2 + j))) n' g' s' (fun k => rdA R o9 13 k)) := by
        intro x4 hx4
        obtain ⟨k7, e7⟩ := hf 7 (by omega)
        refine (pX9_header_69 (w := fun j => vl (rdA σ o9 11 (2 + j))) (b := decide (vl (rdA σ o9 11 (2 + 7)) &&& 1 = 1)) hu t9 hf hm hmag (hx4.trans decide_eq_false_iff_not.symm) (hx4.trans ?_) _ 1 σ c (by rw [show (1 : Int32).toInt = 1 from rfl, q_clx_1]; exact h) hc (fun j hj => rfl) (by decide) (by decide)).mono (fun R hR => ?_)
        · show ¬ vl (rdA σ o9 11 (2 + 7)) &&& 1 = 1 ↔ vl (rdA σ o9 11 (2 + 7)) &&& 1 = 0
          rw [e7, v_b10]; exact Decidable.not_not
        · obtain ⟨r0, n', g', s', r1, r2⟩ := hR
          exact ⟨n', g', s', r1, Or.inr ⟨hv, r2, funext r0⟩⟩
      obtain ⟨k7, e7⟩ := hf 7 (by omega)
      refine pw_ite (fun b => fin 1 ?_) (fun b => fin 0 ?_)
      · have b' : (vl (rdA σ o9 11 (2 + 7)) - vl (rdA σ o9 11 (2 + 7)) / 2 * 2) = 1 := b
        rw [e7, v_b1, ← e7] at b'
        exact ⟨fun h => absurd h (by decide), fun h => absurd b' h⟩
      · have b' : ¬ (vl (rdA σ o9 11 (2 + 7)) - vl (rdA σ o9 11 (2 + 7)) / 2 * 2) = 1 := b
        rw [e7, v_b1, ← e7] at b'
        exact ⟨fun _ => b', fun _ => rfl⟩
    · rw [zi_le] at a
      simp only [Int32.reduceToInt] at a
      subst e60
      rw [ecl]
      show pw (if vl (rdA σ o9 11 (2 + k)) = -1 then _ else _) _
      refine pw_ite (fun b => pw_sh fun _ => ?_) (fun b => ?_)
      · obtain ⟨na, ena, tna⟩ := ci_ref c t9 13 (κ' := 63) rfl
        refine pw_onS ena (pw_ar fun _ _ => pw_ib fun _ _ => pw_ib fun _ _ => pw_let (pw_some ⟨n, g, s, ?_, Or.inl ⟨⟨k, by omega, b⟩, rfl, rfl, rfl, funext fun i => rdA_inc (j := 1) ena i⟩⟩))
        exact q_S9.fr (T := T) (K := [63]) h (fr_wI fr_refl tna rfl) c t9 rfl
      · refine ih (x + 1) (k + 1) (by omega) (by omega) (fun j hj => ?_)
        by_cases e : j = k
        · subst e; exact b
        · exact hv j (by omega)
theorem pX9_header (h : q_S9 o9 s σ n g) (c : sCI T σ) (t9 : T o9 = some 9) (hu : q_ou n g) (hc : uc σ o9 ≤ (mm_I σ o9 14).toInt) {m : Int32} (hm : 1 ≤ m.toInt ∧ m.toInt ≤ 8) (hmag : ∀ i, i < n → 1 ≤ (g i 2).toInt ∧ (g i 2).toInt ≤ 8) : pw (fX9_header o9 m σ) (fun R => ∃ n' g' s', q_S9 o9 s' R n' g' ∧ q_head n g s (fun k => rdA σ o9 13 k) m (fun j => vl (rdA σ o9 11 (2 + j))) n' g' s' (fun k => rdA R o9 13 k)) :=
  pX9_header_2 h c t9 hu hc hm hmag _ 2 0 rfl (Nat.zero_le _) (fun j hj => absurd hj (Nat.not_lt_zero _))
theorem pX9_packet_104 (h : q_S9 o9 s σ n g) (c : sCI T σ) (t9 : T o9 = some 9) {x1 x2 m r : Int32} (hm : 1 ≤ m.toInt ∧ m.toInt ≤ 8) (hr0 : r ≠ 0) (hr : 0 ≤ r.toInt ∧ (r ≤ 24 ∨ r = 27)) {w : Nat → Int32} : pw (fX9_packet_104 o9 x1 x2 m r σ) (fun R => ∃ n' g' s', q_S9 o9 s' R.2 n' g' ∧ q_row n g s (fun k => rdA σ o9 13 k) m r w n' g' s' (fun k => rdA R.2 o9 13 k)) := by
  unfold fX9_packet_104
  obtain ⟨oa, eo, to⟩ := ci_ref c t9 27 (κ' := 77) rfl
  have er : rdA σ o9 27 m.toInt.toNat = mm_I σ oa m.toNatClampNeg := rdA_eq eo
  have hV : q_V (mm_I σ o9 14).toInt (q_F o9 σ) s n g := h
  refine pw_sh fun _ => pw_onS eo (pw_ar fun _ _ => pw_ib fun _ _ => pw_ite (fun a => ?_) (fun a => ?_))
  · have hno : ∀ i, i < n → ¬ q_op g m i := by
      rcases hV.2.2.2.2 m hm.1 hm.2 with ⟨i, a1, a2, a3⟩ | ⟨a1, a2⟩
      · exfalso
        have a2' : (rdA σ o9 27 m.toInt.toNat).toInt = s i := a2
        rw [er, a] at a2'
        have : (-1 : Int32).toInt = -1 := rfl
        omega
      · exact a2
    obtain ⟨na, ena, tna⟩ := ci_ref c t9 13 (κ' := 63) rfl
    refine pw_onS ena (pw_ar fun _ _ => pw_ib fun _ _ => pw_ib fun _ _ => pw_let (pw_some ⟨n, g, s, ?_, Or.inr (Or.inl ⟨hr0, hr.2, hno, rfl, rfl, rfl, funext fun i => rdA_inc (j := 2) ena i⟩)⟩))
    exact q_S9.fr (T := T) (K := [63]) h (fr_wI fr_refl tna rfl) c t9 rfl
  · obtain ⟨j, hj, a2, a3⟩ : ∃ i, i < n ∧ (rdA σ o9 27 m.toInt.toNat).toInt = s i ∧ q_op g m i := by
      rcases hV.2.2.2.2 m hm.1 hm.2 with h' | ⟨a1, -⟩
      · exact h'
      · have a1' : rdA σ o9 27 m.toInt.toNat = -1 := a1
        rw [er] at a1'
        exact absurd a1' a
    rw [er] at a2
    have hsl : 0 ≤ (mm_I σ oa m.toNatClampNeg).toInt ∧ (mm_I σ oa m.toNatClampNeg).toInt ≤ 19 := by have := (hV.2.2.1 j hj).1; omega
    refine pw_ite (fun d => pw_onP (sX9_linkPacket (p1 := m) c t9 hsl).p fun s2 ⟨c2, f2, _⟩ => pw_some ?_) (fun d => pw_onP (sX9_text (p2 := r) (p3 := 2) (p4 := 0) (p5 := 40) c t9 hsl ⟨hr.1, ?_⟩ (by decide) (by decide)).p fun s2 ⟨c2, f2, _⟩ => pw_some ?_)
    · exact ⟨n, g, s, h.fr f2 c t9 rfl, Or.inr (Or.inr ⟨hr0, Or.inr ⟨j, hj, a3⟩, rfl, rfl, rfl, funext fun k => rdA_fr f2 c t9 (κ' := 63) rfl rfl rfl⟩)⟩
    · have := hr.2.resolve_right d
      rw [zi_le] at this
      exact this
    · exact ⟨n, g, s, h.fr f2 c t9 rfl, Or.inr (Or.inr ⟨hr0, Or.inr ⟨j, hj, a3⟩, rfl, rfl, rfl, funext fun k => rdA_fr f2 c t9 (κ' := 63) rfl rfl rfl⟩)⟩
theorem v_row : ∀ a b : Fin 16, 0 ≤ (Int32.ofNat a.val / 8 + 2 * Int32.ofNat b.val).toInt := by decide
theorem pX9_pkt (h : q_S9 o9 s σ n g) (c : sCI T σ) (t9 : T o9 = some 9) (hu : q_ou n g) (hc : uc σ o9 ≤ (mm_I σ o9 14).toInt) (hmag : ∀ i, i < n → 1 ≤ (g i 2).toInt ∧ (g i 2).toInt ≤ 8) (hl : 42 ≤ (mm_I σ o9 12).toInt) {v0 v1 : Int32} (hv0 : vl (rdA σ o9 11 0) = v0) (hv1 : vl (rdA σ o9 11 1) = v1) : pw (fX9_packet o9 σ) (fun R => ∃ n' g' s', q_S9 o9 s' R.2 n' g' ∧ q_pkt n g s (fun k => rdA σ o9 13 k) v0 v1 (fun j => vl (rdA σ o9 11 (2 + j))) n' g' s' (fun k => rdA R.2 o9 13 k)) := by
  unfold fX9_packet
  refine pw_sh fun _ => pw_ite (fun h => ?_) (fun _ => ?_)
  · exfalso
    rw [zi_lt] at h
    simp only [Int32.reduceToInt] at h
    omega
  · unfold fX9_packet_15
    refine pw_sh fun _ => pw_onP (sX9_goes (p1 := 1) c t9 (by decide)).p fun q4 ⟨c4, f4, r4⟩ => ?_
    rw [if_neg (by rw [r4]; decide)]
    refine pw_sh fun _ => pw_let ?_
    have f5 : sFR T [900, 912] σ (mm_wI q4.2 o9 12 0) := fr_wI (fr_trans fr_refl f4 rfl) t9 rfl
    have c5 := ci_wI (j := 12) (v := 0) c4 t9 (kr_s (lo := 0) (hi := 60) rfl (by decide))
    have h5 : q_S9 o9 s (mm_wI q4.2 o9 12 0) n g := h.fr f5 c t9 rfl
    have k11 : ∀ j, rdA (mm_wI q4.2 o9 12 0) o9 11 j = rdA σ o9 11 j := fun j => rdA_fr f5 c t9 (κ' := 61) rfl rfl rfl
    have k13 : ∀ j, rdA (mm_wI q4.2 o9 12 0) o9 13 j = rdA σ o9 13 j := fun j => rdA_fr f5 c t9 (κ' := 63) rfl rfl rfl
    have hc5 : uc (mm_wI q4.2 o9 12 0) o9 ≤ (mm_I (mm_wI q4.2 o9 12 0) o9 14).toInt := by rw [uc_fr f5 c t9 rfl rfl, (f5.2.2 o9 9 t9 14 rfl).1]; exact hc
    generalize mm_wI q4.2 o9 12 0 = s5 at f5 c5 h5 k11 k13 hc5 ⊢
    refine pw_onP pX9_value fun q8 e8 => pw_sh fun _ => ?_
    obtain ⟨z0, s8⟩ := q8
    have es8 : s8 = s5 := congrArg Prod.snd e8
    have ez0 : z0 = v0 := (congrArg Prod.fst e8).trans ((congrArg vl (k11 0)).trans hv0)
    subst es8 ez0
    refine pw_onP pX9_value fun q10 e10 => ?_
    obtain ⟨z1, s10⟩ := q10
    have es10 : s10 = s8 := congrArg Prod.snd e10
    have ez1 : z1 = v1 := (congrArg Prod.fst e10).trans ((congrArg vl (k11 1)).trans hv1)
    subst es10 ez1
    clear e8 e10
    dsimp only
    have bad : (z0 = -1 ∨ z1 = -1) → ∀ x1 x2 : Int32, pw (fX9_packet_50 o9 x1 x2 s10) (fun R => ∃ n' g' s', q_S9 o9 s' R.2 n' g' ∧ q_pkt n g s (fun k => rdA σ o9 13 k) z0 z1 (fun j => vl (rdA σ o9 11 (2 + j))) n' g' s' (fun k => rdA R.2 o9 13 k)) := by
      intro hbad x1 x2
      unfold fX9_packet_50
      obtain ⟨na, ena, tna⟩ := ci_ref c5 t9 13 (κ' := 63) rfl
      refine pw_sh fun _ => pw_onS ena (pw_ar fun _ _ => pw_ib fun _ _ => pw_ib fun _ _ => pw_let (pw_some ⟨n, g, s, ?_, Or.inl ⟨hbad, rfl, rfl, rfl, ?_⟩⟩))
      · exact q_S9.fr (T := T) (K := [63]) h5 (fr_wI fr_refl tna rfl) c5 t9 rfl
      · funext i
        refine Eq.trans (rdA_inc (j := 0) ena i) ?_
        simp only [q_inc, k13]
    refine pw_ite (fun a => bad (Or.inl a) _ _) (fun a => pw_ite (fun b => bad (Or.inr b) _ _) (fun b => ?_))
    have hnb : ¬ (z0 = -1 ∨ z1 = -1) := fun h' => h'.elim a b
    obtain ⟨k0, e0⟩ := (vl_rg (rdA σ o9 11 0)).resolve_left (fun e => a (hv0.symm.trans e))
    obtain ⟨k1, e1⟩ := (vl_rg (rdA σ o9 11 1)).resolve_left (fun e => b (hv1.symm.trans e))
    have e0' : z0 = Int32.ofNat k0.val := hv0.symm.trans e0
    have e1' : z1 = Int32.ofNat k1.val := hv1.symm.trans e1
    clear e0 e1
    have hmg := v_mag k0
    rw [← e0'] at hmg
    have hrow := v_row k0 k1
    rw [← e0', ← e1'] at hrow
    rewrite [hmg.1]
    generalize hmm : fX8_magazineOf z0 = m at hmg ⊢
    refine pw_ite (fun d => pw_sh fun _ => pw_onP (pX9_header h5 c5 t9 hu hc5 hmg.2 hmag) fun q36 hq => pw_some ?_) (fun d => ?_)
    · obtain ⟨n', g', s', r1, r2⟩ := hq
      simp only [k11, k13] at r2
      exact ⟨n', g', s', r1, Or.inr ⟨hnb, Or.inl ⟨d, by rw [hmm]; exact r2⟩⟩⟩
    · have row : (z0 / 8 + 2 * z1 ≤ 24 ∨ z0 / 8 + 2 * z1 = 27) → pw (fX9_packet_104 o9 z0 z1 m (z0 / 8 + 2 * z1) s10) (fun R => ∃ n' g' s', q_S9 o9 s' R.2 n' g' ∧ q_pkt n g s (fun k => rdA σ o9 13 k) z0 z1 (fun j => vl (rdA σ o9 11 (2 + j))) n' g' s' (fun k => rdA R.2 o9 13 k)) := by
        intro hrr
        refine (pX9_packet_104 (w := fun j => vl (rdA σ o9 11 (2 + j))) h5 c5 t9 hmg.2 d ⟨hrow, hrr⟩).mono (fun R hR => ?_)
        obtain ⟨n', g', s', r1, r2⟩ := hR
        simp only [k13] at r2
        exact ⟨n', g', s', r1, Or.inr ⟨hnb, by rw [hmm]; exact r2⟩⟩
      refine pw_ite (fun e => row (Or.inl e)) (fun e => pw_ite (fun f => row (Or.inr f)) (fun f => pw_some ?_))
      exact ⟨n, g, s, h5, Or.inr ⟨hnb, Or.inr (Or.inr ⟨d, Or.inl (fun h' => h'.elim e f), rfl, rfl, rfl, funext k13⟩)⟩⟩
end ST20
