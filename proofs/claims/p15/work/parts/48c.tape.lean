/-! the array behind a field -/
def rdA (σ : mm_M) (o k j : Nat) : Int32 := match mm_R σ o k with
  | some q => mm_I σ q j
  | none => 0
theorem rdA_eq {σ : mm_M} {o k j q : Nat} (e : mm_R σ o k = some q) : rdA σ o k j = mm_I σ q j := by
  unfold rdA; rw [e]
theorem rdA_fr {T : Nat → Option Nat} {K : List Nat} {σ σ' : mm_M} {o k j κ κ' : Nat} (f : sFR T K σ σ') (c : sCI T σ) (t : T o = some κ) (hk : kref κ k = some κ') (h1 : K.contains (kcode κ k) = false) (h2 : K.contains (kcode κ' j) = false) : rdA σ' o k j = rdA σ o k j := by
  obtain ⟨q, e, tq⟩ := ci_ref c t k hk
  rw [rdA_eq e, rdA_eq (((f.2.2 o κ t k h1).2).trans e)]
  exact (f.2.2 q κ' tq j h2).1
theorem rdA_k {T : Nat → Option Nat} {σ : mm_M} {o k j a i κ κ' κ2 : Nat} {v : Int32} (c : sCI T σ) (t : T o = some κ) (hk : kref κ k = some κ') (ta : T a = some κ2) (h : κ' ≠ κ2) : rdA (mm_wI σ a i v) o k j = rdA σ o k j := by
  obtain ⟨q, e, tq⟩ := ci_ref c t k hk
  rw [rdA_eq e, rdA_eq (σ := mm_wI σ a i v) (q := q) e]
  exact rd_k tq ta h
theorem rdA_self {σ : mm_M} {o k j q : Nat} {v : Int32} (e : mm_R σ o k = some q) : rdA (mm_wI σ q j v) o k j = v := by
  rw [rdA_eq (σ := mm_wI σ q j v) (q := q) e]; exact rd_self
theorem rdA_j {σ : mm_M} {o k j q i : Nat} {v : Int32} (h : j ≠ i) : rdA (mm_wI σ q i v) o k j = rdA σ o k j := by
  unfold rdA
  show (match mm_R σ o k with | some q' => mm_I (mm_wI σ q i v) q' j | none => 0) = _
  cases mm_R σ o k with
  | none => rfl
  | some q' => exact mm_up2_nk q' h
theorem rdA_congr {σ τ : mm_M} (h1 : ∀ a k, mm_I τ a k = mm_I σ a k) (h2 : ∀ a k, mm_R τ a k = mm_R σ a k) (o k j : Nat) : rdA τ o k j = rdA σ o k j := by
  unfold rdA
  rw [h2]
  cases mm_R σ o k with
  | none => rfl
  | some q => exact h1 q j

/-! the tape's first two bytes (for p8) -/
theorem za_byte (x : Int32) : (x.toInt8.toInt32) &&& 255 = x &&& 255 := by
  apply Int32.toBitVec_inj.mp
  show ((x.toBitVec.signExtend 8).signExtend 32) &&& 255#32 = x.toBitVec &&& 255#32
  apply BitVec.eq_of_getLsbD_eq
  intro i hi
  rw [BitVec.getLsbD_and, BitVec.getLsbD_and]
  by_cases h8 : i < 8
  · rw [BitVec.getLsbD_signExtend, BitVec.getLsbD_signExtend]
    simp [h8, hi]
  · have : (255#32).getLsbD i = false := by
      have : ∀ k : Fin 32, 8 ≤ k.val → (255#32).getLsbD k.val = false := by decide
      exact this ⟨i, hi⟩ (Nat.le_of_not_lt h8)
    rw [this, Bool.and_false, Bool.and_false]
theorem za_byte2 (x : Int32) : ((x.toInt8.toInt32).toInt8.toInt32) &&& 255 = x &&& 255 := by
  rw [za_byte, za_byte]
section TAPE
variable {T : Nat → Option Nat} {σ : mm_M} {p0 : Nat}
theorem at_step (c : sCI T σ) (t : T p0 = some 8) {n : Nat} {x1 x2 : Int32} (hx : 0 ≤ x2.toInt) (hl : (mm_I σ p0 4).toInt < 60) : ∃ s, fX8_addToTape_3 (n + 1) p0 x1 x2 σ = fX8_addToTape_3 n p0 x1 (x2 + (-8)) s ∧ sCI T s ∧ sFR T [13, 804] σ s ∧ (mm_I s p0 4).toInt = (mm_I σ p0 4).toInt + 1 ∧ ∀ j, rdA s p0 3 j = if j = (mm_I σ p0 4).toInt.toNat then (x1 >>> ((x2 : Int32) &&& 31)) &&& 255 else rdA σ p0 3 j := by
  obtain ⟨q, e, tq⟩ := ci_ref c t 3 (κ' := 13) rfl
  have r := ci_rg c t 4 (lo := 0) (hi := 60) rfl
  have c1 := ci_wI (j := (mm_I σ p0 4).toNatClampNeg) (v := (x1 >>> ((x2 : Int32) &&& 31)) &&& 255) c tq (kr_n rfl)
  have f1 := fr_wI (K := [13, 804]) (j := (mm_I σ p0 4).toNatClampNeg) (v := (x1 >>> ((x2 : Int32) &&& 31)) &&& 255) (fr_refl (σ := σ)) tq rfl
  have e4 : mm_I (mm_wI σ q (mm_I σ p0 4).toNatClampNeg ((x1 >>> ((x2 : Int32) &&& 31)) &&& 255)) p0 4 = mm_I σ p0 4 := rd_k t tq (by decide)
  have hv : (mm_I σ p0 4 + 1).toInt = (mm_I σ p0 4).toInt + 1 := by
    rw [zi_add]; exact zi_bm (by simp only [Int32.reduceToInt]; omega) (by simp only [Int32.reduceToInt]; omega)
  refine ⟨mm_wI (mm_wI σ q (mm_I σ p0 4).toNatClampNeg ((x1 >>> ((x2 : Int32) &&& 31)) &&& 255)) p0 4 (mm_I σ p0 4 + 1), ?_, ci_wI c1 t (kr_s (lo := 0) (hi := 60) rfl (by omega)), fr_wI f1 t rfl, ?_, fun j => ?_⟩
  · conv => lhs; unfold fX8_addToTape_3
    rw [if_neg (by rw [zi_lt]; simp only [Int32.reduceToInt]; omega)]
    unfold mm_sh
    rw [if_pos (ci_sh c t rfl), if_neg (by rw [zi_le]; simp only [Int32.reduceToInt]; omega), e]
    unfold mm_on mm_ar
    dsimp only
    rw [ci_sh c tq (sh := .inr (0, 60)) rfl]
    dsimp only
    rw [if_pos rfl]
    unfold mm_ib
    rw [if_neg (by rw [zi_lt, zi_clamp]; simp only [Int32.reduceToInt]; omega)]
    unfold mm_let
    dsimp only
    rw [e4]
  · rw [rd_self]; exact hv
  · rw [rdA_k c1 t (κ' := 13) rfl t (by decide)]
    by_cases h : j = (mm_I σ p0 4).toInt.toNat
    · rw [if_pos h]
      subst h
      exact rdA_self e
    · rw [if_neg h]
      exact rdA_j h
theorem at_end (c : sCI T σ) (t : T p0 = some 8) {n : Nat} {x1 : Int32} : fX8_addToTape_3 (n + 1) p0 x1 (-8) σ = some σ := by
  unfold fX8_addToTape_3
  rw [if_pos (by decide)]
/-- four bytes come to the tape -/
theorem at4 (c : sCI T σ) (t : T p0 = some 8) {x1 : Int32} (hl : (mm_I σ p0 4).toInt ≤ 56) : sw (fX8_addToTape p0 x1 σ) (fun R => sCI T R ∧ sFR T [13, 804] σ R ∧ (mm_I R p0 4).toInt = (mm_I σ p0 4).toInt + 4 ∧ ((mm_I σ p0 4).toInt = 0 → rdA R p0 3 0 = (x1 >>> ((24 : Int32) &&& 31)) &&& 255 ∧ rdA R p0 3 1 = (x1 >>> ((16 : Int32) &&& 31)) &&& 255) ∧ (2 ≤ (mm_I σ p0 4).toInt → ∀ j, j < 2 → rdA R p0 3 j = rdA σ p0 3 j)) := by
  have r := ci_rg c t 4 (lo := 0) (hi := 60) rfl
  obtain ⟨s1, e1, c1, f1, l1, a1⟩ := at_step (n := 1999) (x1 := x1) (x2 := 24) c t (by decide) (by omega)
  obtain ⟨s2, e2, c2, f2, l2, a2⟩ := at_step (n := 1998) (x1 := x1) (x2 := 16) c1 t (by decide) (by omega)
  obtain ⟨s3, e3, c3, f3, l3, a3⟩ := at_step (n := 1997) (x1 := x1) (x2 := 8) c2 t (by decide) (by omega)
  obtain ⟨s4, e4, c4, f4, l4, a4⟩ := at_step (n := 1996) (x1 := x1) (x2 := 0) c3 t (by decide) (by omega)
  have e : fX8_addToTape p0 x1 σ = some s4 := by
    show fX8_addToTape_3 (1999 + 1) p0 x1 24 σ = some s4
    rw [e1]
    show fX8_addToTape_3 (1998 + 1) p0 x1 16 s1 = some s4
    rw [e2]
    show fX8_addToTape_3 (1997 + 1) p0 x1 8 s2 = some s4
    rw [e3]
    show fX8_addToTape_3 (1996 + 1) p0 x1 0 s3 = some s4
    rw [e4]
    exact at_end (n := 1995) c4 t
  refine ⟨s4, e, c4, fr_trans (fr_trans (fr_trans f1 f2 rfl) f3 rfl) f4 rfl, by omega, fun h0 => ⟨?_, ?_⟩, fun h2 j hj => ?_⟩
  · rw [a4, if_neg (by omega), a3, if_neg (by omega), a2, if_neg (by omega), a1, if_pos (by omega)]
  · rw [a4, if_neg (by omega), a3, if_neg (by omega), a2, if_pos (by omega)]
  · rw [a4, if_neg (by omega), a3, if_neg (by omega), a2, if_neg (by omega), a1, if_neg (by omega)]
end TAPE

section TAPE9
variable {T : Nat → Option Nat} {p0 : Nat}
abbrev fdB (y x6 : Int32) : Int32 := ((y >>> (((24 - (8 * (x6 - x6 / 4 * 4))) : Int32) &&& 31)).toInt8.toInt32).toInt8.toInt32
theorem fd_one {σ : mm_M} (c : sCI T σ) (t : T p0 = some 9) {n : Nat} {x1 x2 x3 x4 x5 x6 y : Int32} (hl : (mm_I σ p0 12).toInt < 60) : ∃ s, fX9_feed_82 (fX9_feed_29 n) p0 x1 x2 x3 x4 x5 x6 y σ = fX9_feed_29 n p0 x1 x2 x3 x4 x5 (x6 + 1) s ∧ sCI T s ∧ sFR T [61, 912] σ s ∧ (mm_I s p0 12).toInt = (mm_I σ p0 12).toInt + 1 ∧ ∀ j, rdA s p0 11 j = if j = (mm_I σ p0 12).toInt.toNat then fdB y x6 else rdA σ p0 11 j := by
  obtain ⟨q, e, tq⟩ := ci_ref c t 11 (κ' := 61) rfl
  have r := ci_rg c t 12 (lo := 0) (hi := 60) rfl
  have c1 := ci_wI (j := (mm_I σ p0 12).toNatClampNeg) (v := fdB y x6) c tq (kr_n rfl)
  have f1 := fr_wI (K := [61, 912]) (j := (mm_I σ p0 12).toNatClampNeg) (v := fdB y x6) (fr_refl (σ := σ)) tq rfl
  have e4 : mm_I (mm_wI σ q (mm_I σ p0 12).toNatClampNeg (fdB y x6)) p0 12 = mm_I σ p0 12 := rd_k t tq (by decide)
  have hv : (mm_I σ p0 12 + 1).toInt = (mm_I σ p0 12).toInt + 1 := by
    rw [zi_add]; exact zi_bm (by simp only [Int32.reduceToInt]; omega) (by simp only [Int32.reduceToInt]; omega)
  refine ⟨mm_wI (mm_wI σ q (mm_I σ p0 12).toNatClampNeg (fdB y x6)) p0 12 (mm_I σ p0 12 + 1), ?_, ci_wI c1 t (kr_s (lo := 0) (hi := 60) rfl (by omega)), fr_wI f1 t rfl, ?_, fun j => ?_⟩
  · unfold fX9_feed_82 mm_sh
    rw [if_pos (ci_sh c t rfl), e]
    unfold mm_on mm_ar
    dsimp only
    rw [ci_sh c tq (sh := .inr (2, 60)) rfl]
    dsimp only
    rw [if_pos rfl]
    unfold mm_ib
    rw [if_neg (by rw [zi_lt, zi_clamp]; simp only [Int32.reduceToInt]; omega)]
    unfold mm_let
    dsimp only
    rw [e4]
  · rw [rd_self]; exact hv
  · rw [rdA_k c1 t (κ' := 61) rfl t (by decide)]
    by_cases h : j = (mm_I σ p0 12).toInt.toNat
    · rw [if_pos h]
      subst h
      exact rdA_self e
    · rw [if_neg h]
      exact rdA_j h
theorem fd_step {σ : mm_M} (c : sCI T σ) (t : T p0 = some 9) {n : Nat} {x1 x2 x3 x4 x5 x6 : Int32} (hx : 0 ≤ x6.toInt ∧ x6.toInt < 20) (hl : (mm_I σ p0 12).toInt < 60) : ∃ s y, fX9_feed_29 (n + 1) p0 x1 x2 x3 x4 x5 x6 σ = fX9_feed_29 n p0 x1 x2 x3 x4 x5 (x6 + 1) s ∧ sCI T s ∧ sFR T [61, 912] σ s ∧ (mm_I s p0 12).toInt = (mm_I σ p0 12).toInt + 1 ∧ (x6.toInt < 4 → y = x1) ∧ ∀ j, rdA s p0 11 j = if j = (mm_I σ p0 12).toInt.toNat then fdB y x6 else rdA σ p0 11 j := by
  have key : ∃ y, fX9_feed_29 (n + 1) p0 x1 x2 x3 x4 x5 x6 σ = fX9_feed_82 (fX9_feed_29 n) p0 x1 x2 x3 x4 x5 x6 y σ ∧ (x6.toInt < 4 → y = x1) := by
    have e20 : ¬ (20 : Int32) ≤ x6 := by rw [zi_le]; simp only [Int32.reduceToInt]; omega
    by_cases h4 : (4 : Int32) ≤ x6
    · have h4' : 4 ≤ x6.toInt := by rw [zi_le] at h4; simpa using h4
      by_cases h8 : (8 : Int32) ≤ x6
      · by_cases h12 : (12 : Int32) ≤ x6
        · by_cases h16 : (16 : Int32) ≤ x6
          · refine ⟨x5, ?_, fun h => by omega⟩
            conv => lhs; unfold fX9_feed_29
            rw [if_neg e20, if_pos h4, if_pos h8, if_pos h12, if_pos h16]
          · refine ⟨x4, ?_, fun h => by omega⟩
            conv => lhs; unfold fX9_feed_29
            rw [if_neg e20, if_pos h4, if_pos h8, if_pos h12, if_neg h16]
        · refine ⟨x3, ?_, fun h => by omega⟩
          conv => lhs; unfold fX9_feed_29
          rw [if_neg e20, if_pos h4, if_pos h8, if_neg h12]
      · refine ⟨x2, ?_, fun h => by omega⟩
        conv => lhs; unfold fX9_feed_29
        rw [if_neg e20, if_pos h4, if_neg h8]
    · refine ⟨x1, ?_, fun _ => rfl⟩
      conv => lhs; unfold fX9_feed_29
      rw [if_neg e20, if_neg h4]
  obtain ⟨y, ey, hy⟩ := key
  obtain ⟨s, e, c1, f1, l1, a1⟩ := fd_one (n := n) (x1 := x1) (x2 := x2) (x3 := x3) (x4 := x4) (x5 := x5) (x6 := x6) (y := y) c t hl
  exact ⟨s, y, ey.trans e, c1, f1, l1, hy, a1⟩
/-- behind the first two bytes the rest leaves them alone -/
theorem fd_rest (t : T p0 = some 9) {x1 x2 x3 x4 x5 : Int32} : ∀ (n : Nat) (x6 : Int32) (σ : mm_M), sCI T σ → 0 ≤ x6.toInt ∧ x6.toInt ≤ 20 → 2 ≤ (mm_I σ p0 12).toInt → (mm_I σ p0 12).toInt + (20 - x6.toInt) ≤ 60 → 20 - x6.toInt < (n : Int) → sw (fX9_feed_29 n p0 x1 x2 x3 x4 x5 x6 σ) (fun R => ∀ j, j < 2 → rdA R.2 p0 11 j = rdA σ p0 11 j) := by
  intro n
  induction n with
  | zero => intro x6 σ c hx h2 h60 hn; omega
  | succ n ih =>
    intro x6 σ c hx h2 h60 hn
    by_cases h20 : x6.toInt = 20
    · unfold fX9_feed_29 mm_sh
      rw [if_pos (by rw [zi_le]; simp only [Int32.reduceToInt]; omega), if_pos (ci_sh c t rfl)]
      exact sw_some (fun j _ => rfl)
    · obtain ⟨s, y, e, c1, f1, l1, -, a1⟩ := fd_step (n := n) (x1 := x1) (x2 := x2) (x3 := x3) (x4 := x4) (x5 := x5) (x6 := x6) c t ⟨hx.1, by omega⟩ (by omega)
      have e6 : (x6 + 1).toInt = x6.toInt + 1 := by
        rw [zi_add]; exact zi_bm (by simp only [Int32.reduceToInt]; omega) (by simp only [Int32.reduceToInt]; omega)
      rw [e]
      refine (ih (x6 + 1) s c1 ⟨by omega, by omega⟩ (by omega) (by omega) (by omega)).mono (fun R h j hj => ?_)
      rw [h j hj, a1, if_neg (by omega)]
end TAPE9

/-! partial runs (pw): what holds of a run if it goes through; the tape's bytes in general; packet's answer (p8 and the store) -/
def pw {β : Type} (x : Option β) (Q : β → Prop) : Prop := ∀ y, x = some y → Q y
section PW
variable {β : Type} {Q : β → Prop} {σ : mm_M} {a t n : Nat} {i : Int32} {sh : Nat ⊕ Nat × Nat} {x y : Option β}
theorem pw_sh (k : σ.2.1 a = some sh → pw x Q) : pw (mm_sh σ a sh x) Q := by
  unfold mm_sh; intro z h; split at h
  · exact k (by assumption) z h
  · cases h
theorem pw_ar {x : Nat → Option β} (k : ∀ n, σ.2.1 a = some (.inr (t, n)) → pw (x n) Q) : pw (mm_ar σ a t x) Q := by
  unfold mm_ar; intro z h; split at h
  · split at h
    · rename_i e; subst e; exact k _ (by assumption) z h
    · cases h
  · cases h
theorem pw_ib (k : 0 ≤ i.toInt → i.toInt < n → pw x Q) : pw (mm_ib i n x) Q := by
  unfold mm_ib; intro z h; split at h
  · cases h
  · rename_i e
    simp only [zi_lt, zi_clamp, Int32.reduceToInt] at e
    exact k (by omega) (by omega) z h
theorem pw_on {α : Type} {o : Option α} {s : α → Option β} (k : ∀ q, o = some q → pw (s q) Q) : pw (mm_on o s) Q := by
  cases o with
  | none => intro z h; cases h
  | some q => exact k q rfl
theorem pw_onP {α : Type} {o : Option α} {s : α → Option β} {P : α → Prop} (h : pw o P) (k : ∀ q, P q → pw (s q) Q) : pw (mm_on o s) Q := pw_on (fun q e => k q (h q e))
theorem pw_onS {α : Type} {o : Option α} {s : α → Option β} {q : α} (h : o = some q) (k : pw (s q) Q) : pw (mm_on o s) Q := by
  subst h; exact k
theorem pw_nu {o : Option Nat} {s : Nat → Option β} (h1 : o = none → pw x Q) (h2 : ∀ q, o = some q → pw (s q) Q) : pw (mm_nu o x s) Q := by
  cases o with
  | none => exact h1 rfl
  | some q => exact h2 q rfl
theorem pw_ck {c : Prop} [Decidable c] (k : c → pw x Q) : pw (mm_ck c x) Q := by
  unfold mm_ck; intro z h; split at h
  · exact k (by assumption) z h
  · cases h
theorem pw_let {e : mm_M} {k : mm_M → Option β} (h : pw (k e) Q) : pw (mm_let e k) Q := h
theorem pw_ite {c : Prop} [Decidable c] (h1 : c → pw x Q) (h2 : ¬ c → pw y Q) : pw (if c then x else y) Q := by
  split
  · exact h1 (by assumption)
  · exact h2 (by assumption)
theorem pw_some {y : β} (h : Q y) : pw (some y) Q := fun z e => by cases e; exact h
theorem pw_none : pw (none : Option β) Q := fun z e => by cases e
theorem pw.mono {P : β → Prop} (h : pw x P) (k : ∀ y, P y → Q y) : pw x Q := fun z e => k z (h z e)
theorem sw.p {P : β → Prop} (h : sw x P) : pw x P := fun z e => by
  obtain ⟨y, e', hy⟩ := h; rw [e] at e'; cases e'; exact hy
theorem sw.also {P : β → Prop} (h : sw x P) (k : pw x Q) : sw x (fun R => P R ∧ Q R) := by
  obtain ⟨y, e', hy⟩ := h; exact ⟨y, e', hy, k y e'⟩
end PW
/-- byte k of a number -/
def bt (x : Int32) (k : Nat) : Int32 := match k with
  | 0 => (x >>> ((24 : Int32) &&& 31)) &&& 255
  | 1 => (x >>> ((16 : Int32) &&& 31)) &&& 255
  | 2 => (x >>> ((8 : Int32) &&& 31)) &&& 255
  | _ => (x >>> ((0 : Int32) &&& 31)) &&& 255
def fb (p1 p2 p3 p4 p5 : Int32) (k : Nat) : Int32 := if k < 4 then bt p1 k else if k < 8 then bt p2 (k - 4) else if k < 12 then bt p3 (k - 8) else if k < 16 then bt p4 (k - 12) else bt p5 (k - 16)
section TAPE14
variable {T : Nat → Option Nat} {σ : mm_M} {p0 : Nat}
theorem at4g (c : sCI T σ) (t : T p0 = some 8) {x1 : Int32} (hl : (mm_I σ p0 4).toInt ≤ 56) : sw (fX8_addToTape p0 x1 σ) (fun R => sCI T R ∧ (mm_I R p0 4).toInt = (mm_I σ p0 4).toInt + 4 ∧ ∀ j : Nat, rdA R p0 3 j = if (mm_I σ p0 4).toInt ≤ j ∧ (j : Int) < (mm_I σ p0 4).toInt + 4 then bt x1 (j - (mm_I σ p0 4).toInt.toNat) else rdA σ p0 3 j) := by
  have r := ci_rg c t 4 (lo := 0) (hi := 60) rfl
  obtain ⟨s1, e1, c1, f1, l1, a1⟩ := at_step (n := 1999) (x1 := x1) (x2 := 24) c t (by decide) (by omega)
  obtain ⟨s2, e2, c2, f2, l2, a2⟩ := at_step (n := 1998) (x1 := x1) (x2 := 16) c1 t (by decide) (by omega)
  obtain ⟨s3, e3, c3, f3, l3, a3⟩ := at_step (n := 1997) (x1 := x1) (x2 := 8) c2 t (by decide) (by omega)
  obtain ⟨s4, e4, c4, f4, l4, a4⟩ := at_step (n := 1996) (x1 := x1) (x2 := 0) c3 t (by decide) (by omega)
  have e : fX8_addToTape p0 x1 σ = some s4 := by
    show fX8_addToTape_3 (1999 + 1) p0 x1 24 σ = some s4
    rw [e1]
    show fX8_addToTape_3 (1998 + 1) p0 x1 16 s1 = some s4
    rw [e2]
    show fX8_addToTape_3 (1997 + 1) p0 x1 8 s2 = some s4
    rw [e3]
    show fX8_addToTape_3 (1996 + 1) p0 x1 0 s3 = some s4
    rw [e4]
    exact at_end (n := 1995) c4 t
  refine ⟨s4, e, c4, by omega, fun j => ?_⟩
  rw [a4, a3, a2, a1]
  by_cases h3 : j = (mm_I s3 p0 4).toInt.toNat
  · rw [if_pos h3, if_pos (by omega)]
    have : j - (mm_I σ p0 4).toInt.toNat = 3 := by omega
    rw [this]; rfl
  rw [if_neg h3]
  by_cases h2 : j = (mm_I s2 p0 4).toInt.toNat
  · rw [if_pos h2, if_pos (by omega)]
    have : j - (mm_I σ p0 4).toInt.toNat = 2 := by omega
    rw [this]; rfl
  rw [if_neg h2]
  by_cases h1 : j = (mm_I s1 p0 4).toInt.toNat
  · rw [if_pos h1, if_pos (by omega)]
    have : j - (mm_I σ p0 4).toInt.toNat = 1 := by omega
    rw [this]; rfl
  rw [if_neg h1]
  by_cases h0 : j = (mm_I σ p0 4).toInt.toNat
  · rw [if_pos h0, if_pos (by omega)]
    have : j - (mm_I σ p0 4).toInt.toNat = 0 := by omega
    rw [this]; rfl
  rw [if_neg h0, if_neg (by omega)]
/-- the class's feed: its bytes on the tape -/
theorem pX8_feed (c : sCI T σ) (t : T p0 = some 8) {p1 p2 p3 p4 p5 : Int32} (hl : (mm_I σ p0 4).toInt ≤ 40) : pw (fX8_feed p0 p1 p2 p3 p4 p5 σ) (fun R => ∀ j : Nat, rdA R.2 p0 3 j = if (mm_I σ p0 4).toInt ≤ j ∧ (j : Int) < (mm_I σ p0 4).toInt + 20 then fb p1 p2 p3 p4 p5 (j - (mm_I σ p0 4).toInt.toNat) else rdA σ p0 3 j) := by
  have r := ci_rg c t 4 (lo := 0) (hi := 60) rfl
  unfold fX8_feed
  refine pw_sh fun _ => pw_ite (fun _ => ?_) (fun h => ?_)
  · refine pw_onP (at4g c t (by omega)).p fun s1 ⟨c1, l1, a1⟩ => pw_sh fun _ => ?_
    refine pw_onP (at4g c1 t (by omega)).p fun s2 ⟨c2, l2, a2⟩ => pw_sh fun _ => ?_
    refine pw_onP (at4g c2 t (by omega)).p fun s3 ⟨c3, l3, a3⟩ => pw_sh fun _ => ?_
    refine pw_onP (at4g c3 t (by omega)).p fun s4 ⟨c4, l4, a4⟩ => pw_sh fun _ => ?_
    refine pw_onP (at4g c4 t (by omega)).p fun s5 ⟨c5, l5, a5⟩ => pw_sh fun _ => pw_some fun j => ?_
    show rdA s5 p0 3 j = _
    rw [a5, a4, a3, a2, a1]
    unfold fb
    by_cases h : (mm_I σ p0 4).toInt ≤ j ∧ (j : Int) < (mm_I σ p0 4).toInt + 20
    · rw [if_pos h]
      by_cases h4 : 16 ≤ j - (mm_I σ p0 4).toInt.toNat
      · rw [if_pos (by omega), if_neg (by omega), if_neg (by omega), if_neg (by omega), if_neg (by omega)]
        congr 1; omega
      rw [if_neg (by omega)]
      by_cases h3 : 12 ≤ j - (mm_I σ p0 4).toInt.toNat
      · rw [if_pos (by omega), if_neg (by omega), if_neg (by omega), if_neg (by omega), if_pos (by omega)]
        congr 1; omega
      rw [if_neg (by omega)]
      by_cases h2 : 8 ≤ j - (mm_I σ p0 4).toInt.toNat
      · rw [if_pos (by omega), if_neg (by omega), if_neg (by omega), if_pos (by omega)]
        congr 1; omega
      rw [if_neg (by omega)]
      by_cases h1 : 4 ≤ j - (mm_I σ p0 4).toInt.toNat
      · rw [if_pos (by omega), if_neg (by omega), if_pos (by omega)]
        congr 1; omega
      rw [if_neg (by omega), if_pos (by omega), if_pos (by omega)]
    · rw [if_neg h, if_neg (by omega), if_neg (by omega), if_neg (by omega), if_neg (by omega), if_neg (by omega)]
  · exfalso
    rw [zi_le, zi_add, zi_bm (by simp only [Int32.reduceToInt]; omega) (by simp only [Int32.reduceToInt]; omega)] at h
    simp only [Int32.reduceToInt] at h
    omega
end TAPE14
section TAPE15
variable {T : Nat → Option Nat} {p0 : Nat}
theorem fdB_bt (y : Int32) (k : Fin 20) : fdB y (Int32.ofNat k.val) &&& 255 = bt y (k.val % 4) := by
  unfold fdB
  rw [za_byte2]
  have h : ∀ k : Fin 20, (((24 - (8 * (Int32.ofNat k.val - Int32.ofNat k.val / 4 * 4))) : Int32) &&& 31) = (match k.val % 4 with | 0 => (24 : Int32) &&& 31 | 1 => (16 : Int32) &&& 31 | 2 => (8 : Int32) &&& 31 | _ => (0 : Int32) &&& 31) := by decide
  rw [h k]
  have h4 : k.val % 4 = 0 ∨ k.val % 4 = 1 ∨ k.val % 4 = 2 ∨ k.val % 4 = 3 := by omega
  rcases h4 with e | e | e | e <;> rw [e] <;> rfl
def fw (x1 x2 x3 x4 x5 : Int32) (k : Nat) : Int32 := if k < 4 then x1 else if k < 8 then x2 else if k < 12 then x3 else if k < 16 then x4 else x5
theorem fb_fw (x1 x2 x3 x4 x5 : Int32) (k : Nat) (h : k < 20) : bt (fw x1 x2 x3 x4 x5 k) (k % 4) = fb x1 x2 x3 x4 x5 k := by
  unfold fw fb
  by_cases h4 : k < 4
  · rw [if_pos h4, if_pos h4]; congr 1; omega
  rw [if_neg h4, if_neg h4]
  by_cases h8 : k < 8
  · rw [if_pos h8, if_pos h8]; congr 1; omega
  rw [if_neg h8, if_neg h8]
  by_cases h12 : k < 12
  · rw [if_pos h12, if_pos h12]; congr 1; omega
  rw [if_neg h12, if_neg h12]
  by_cases h16 : k < 16
  · rw [if_pos h16, if_pos h16]; congr 1; omega
  rw [if_neg h16, if_neg h16]; congr 1; omega
theorem fd_stepw {σ : mm_M} (c : sCI T σ) (t : T p0 = some 9) {n : Nat} {x1 x2 x3 x4 x5 x6 : Int32} (hx : 0 ≤ x6.toInt ∧ x6.toInt < 20) (hl : (mm_I σ p0 12).toInt < 60) : ∃ s, fX9_feed_29 (n + 1) p0 x1 x2 x3 x4 x5 x6 σ = fX9_feed_29 n p0 x1 x2 x3 x4 x5 (x6 + 1) s ∧ sCI T s ∧ (mm_I s p0 12).toInt = (mm_I σ p0 12).toInt + 1 ∧ ∀ j, rdA s p0 11 j &&& 255 = if j = (mm_I σ p0 12).toInt.toNat then fb x1 x2 x3 x4 x5 x6.toInt.toNat else rdA σ p0 11 j &&& 255 := by
  have key : fX9_feed_29 (n + 1) p0 x1 x2 x3 x4 x5 x6 σ = fX9_feed_82 (fX9_feed_29 n) p0 x1 x2 x3 x4 x5 x6 (fw x1 x2 x3 x4 x5 x6.toInt.toNat) σ := by
    have e20 : ¬ (20 : Int32) ≤ x6 := by rw [zi_le]; simp only [Int32.reduceToInt]; omega
    have g4 : (4 : Int32) ≤ x6 ↔ ¬ x6.toInt.toNat < 4 := by rw [zi_le]; simp only [Int32.reduceToInt]; omega
    have g8 : (8 : Int32) ≤ x6 ↔ ¬ x6.toInt.toNat < 8 := by rw [zi_le]; simp only [Int32.reduceToInt]; omega
    have g12 : (12 : Int32) ≤ x6 ↔ ¬ x6.toInt.toNat < 12 := by rw [zi_le]; simp only [Int32.reduceToInt]; omega
    have g16 : (16 : Int32) ≤ x6 ↔ ¬ x6.toInt.toNat < 16 := by rw [zi_le]; simp only [Int32.reduceToInt]; omega
    conv => lhs; unfold fX9_feed_29
    rw [if_neg e20]
    unfold fw
    by_cases a4 : (4 : Int32) ≤ x6
    · rw [if_pos a4, if_neg (g4.mp a4)]
      by_cases a8 : (8 : Int32) ≤ x6
      · rw [if_pos a8, if_neg (g8.mp a8)]
        by_cases a12 : (12 : Int32) ≤ x6
        · rw [if_pos a12, if_neg (g12.mp a12)]
          by_cases a16 : (16 : Int32) ≤ x6
          · rw [if_pos a16, if_neg (g16.mp a16)]
          · rw [if_neg a16, if_pos (Decidable.byContradiction fun h => a16 (g16.mpr h))]
        · rw [if_neg a12, if_pos (Decidable.byContradiction fun h => a12 (g12.mpr h))]
      · rw [if_neg a8, if_pos (Decidable.byContradiction fun h => a8 (g8.mpr h))]
    · rw [if_neg a4, if_pos (Decidable.byContradiction fun h => a4 (g4.mpr h))]
  obtain ⟨s, e, c1, f1, l1, a1⟩ := fd_one (n := n) (x1 := x1) (x2 := x2) (x3 := x3) (x4 := x4) (x5 := x5) (x6 := x6) (y := fw x1 x2 x3 x4 x5 x6.toInt.toNat) c t hl
  refine ⟨s, key.trans e, c1, l1, fun j => ?_⟩
  rw [a1]
  by_cases h : j = (mm_I σ p0 12).toInt.toNat
  · rw [if_pos h, if_pos h]
    have ek : x6 = Int32.ofNat x6.toInt.toNat := by
      have := Int32.ofNat_toNatClampNeg (x := x6) (by rw [zi_le]; exact hx.1)
      rw [zi_clamp] at this
      exact this.symm
    have h20 : x6.toInt.toNat < 20 := by omega
    have h1 := fdB_bt (fw x1 x2 x3 x4 x5 x6.toInt.toNat) ⟨x6.toInt.toNat, h20⟩
    rw [← fb_fw _ _ _ _ _ _ h20, ← h1]
    show fdB (fw x1 x2 x3 x4 x5 x6.toInt.toNat) x6 &&& 255 = fdB (fw x1 x2 x3 x4 x5 x6.toInt.toNat) (Int32.ofNat x6.toInt.toNat) &&& 255
    rw [← ek]
  · rw [if_neg h, if_neg h]
theorem fd_all (t : T p0 = some 9) {x1 x2 x3 x4 x5 : Int32} : ∀ (n : Nat) (x6 : Int32) (σ : mm_M), sCI T σ → 0 ≤ x6.toInt ∧ x6.toInt ≤ 20 → (mm_I σ p0 12).toInt + (20 - x6.toInt) ≤ 60 → pw (fX9_feed_29 n p0 x1 x2 x3 x4 x5 x6 σ) (fun R => ∀ j : Nat, rdA R.2 p0 11 j &&& 255 = if (mm_I σ p0 12).toInt ≤ j ∧ (j : Int) < (mm_I σ p0 12).toInt + (20 - x6.toInt) then fb x1 x2 x3 x4 x5 (x6.toInt.toNat + (j - (mm_I σ p0 12).toInt.toNat)) else rdA σ p0 11 j &&& 255) := by
  intro n
  induction n with
  | zero => intro x6 σ c hx h60; exact pw_none
  | succ n ih =>
    intro x6 σ c hx h60
    have r := ci_rg c t 12 (lo := 0) (hi := 60) rfl
    by_cases h20 : x6.toInt = 20
    · unfold fX9_feed_29
      rw [if_pos (by rw [zi_le]; simp only [Int32.reduceToInt]; omega)]
      refine pw_sh fun _ => pw_some fun j => ?_
      rw [if_neg (by omega)]
    · obtain ⟨s, e, c1, l1, a1⟩ := fd_stepw (n := n) (x1 := x1) (x2 := x2) (x3 := x3) (x4 := x4) (x5 := x5) (x6 := x6) c t ⟨hx.1, by omega⟩ (by omega)
      have e6 : (x6 + 1).toInt = x6.toInt + 1 := by
        rw [zi_add]; exact zi_bm (by simp only [Int32.reduceToInt]; omega) (by simp only [Int32.reduceToInt]; omega)
      rw [e]
      refine (ih (x6 + 1) s c1 ⟨by omega, by omega⟩ (by omega)).mono (fun R h j => ?_)
      rw [h j, a1 j, e6, l1]
      by_cases h1 : j = (mm_I σ p0 12).toInt.toNat
      · rw [if_neg (by omega), if_pos h1, if_pos (by omega)]
        congr 1; omega
      rw [if_neg h1]
      by_cases h2 : (mm_I σ p0 12).toInt ≤ j ∧ (j : Int) < (mm_I σ p0 12).toInt + (20 - x6.toInt)
      · rw [if_pos (by omega), if_pos h2]; congr 1; omega
      · rw [if_neg (by omega), if_neg h2]
end TAPE15

abbrev UX9_packet_f9 : List Nat := [63, 65, 66, 67, 68, 69, 70, 71, 72, 73, 74, 75, 76, 77, 82, 83, 900, 912, 914, 931]
set_option maxHeartbeats 4000000 in
set_option maxRecDepth 10000 in
theorem uX9_packet_f9 {T : Nat → Option Nat} {σ0 : mm_M} {p0 : Nat} (c0 : sCI T σ0) (t_p0 : T p0 = some 9) (w_0 : uc σ0 p0 ≤ (mm_I σ0 p0 14).toInt) : sw (fX9_packet p0 σ0) (fun R => sCI T R.2 ∧ sFR T UX9_packet_f9 σ0 R.2 ∧ (((mm_I σ0 p0 12).toInt < 42 ∧ (mm_I R.2 p0 0).toInt = 1) ∨ (42 ≤ (mm_I σ0 p0 12).toInt ∧ (mm_I R.2 p0 0).toInt = 0))) := by
  have f0 : sFR T UX9_packet_f9 σ0 σ0 := fr_refl
  unfold fX9_packet
  refine sw_sh (ci_sh c0 t_p0 rfl) ?_
  have r5194 := ci_rg c0 t_p0 12 (lo := 0) (hi := 60) rfl
  refine sw_ite (fun h5195 => ?_) (fun h5195 => ?_)
  · unfold fX9_packet_15
    refine sw_sh (ci_sh c0 t_p0 rfl) ?_
    refine sw_on (vX9_goes c0 t_p0 (by (try simp only [zp, zo, zq] at w_0 r5194 h5195 ⊢) <;> (try simp only [zz, Int32.reduceToInt, ne_eq] at w_0 r5194 h5195 ⊢) <;> (try simp (disch := omega) only [zb] at w_0 r5194 h5195 ⊢) <;> first | omega | ((try simp (disch := omega) only [zb] at w_0 r5194 h5195 ⊢) <;> omega)) ) ?_
    intro q4 hqq4
    obtain ⟨cq4, gq4, xq4⟩ := hqq4
    have fq4 := fr_trans f0 gq4 rfl
    refine sw_ite (fun h5196 => ?_) (fun h5196 => ?_)
    · exact sw_some ⟨cq4, fq4, (by (try simp only [zp, zo, zq] at w_0 r5194 h5195 xq4 h5196 ⊢) <;> (try simp only [zz, Int32.reduceToInt, ne_eq] at w_0 r5194 h5195 xq4 h5196 ⊢) <;> (try simp (disch := omega) only [zb] at w_0 r5194 h5195 xq4 h5196 ⊢) <;> first | omega | ((try simp (disch := omega) only [zb] at w_0 r5194 h5195 xq4 h5196 ⊢) <;> omega))⟩
    · refine sw_sh (ci_sh cq4 t_p0 rfl) ?_
      have cs7 := ci_wI cq4 t_p0 (j := 12) (v := 0) (kr_s (lo := 0) (hi := 60) rfl (by (try simp only [zp, zo, zq] at w_0 r5194 h5195 xq4 h5196 ⊢) <;> (try simp only [zz, Int32.reduceToInt, ne_eq] at w_0 r5194 h5195 xq4 h5196 ⊢) <;> (try simp (disch := omega) only [zb] at w_0 r5194 h5195 xq4 h5196 ⊢) <;> first | omega | ((try simp (disch := omega) only [zb] at w_0 r5194 h5195 xq4 h5196 ⊢) <;> omega)))
      have fs7 := fr_wI fq4 t_p0 (j := 12) (v := 0) rfl
      refine sw_let (fun s7 es7 => ?_)
      rw [es7] at cs7 fs7
      refine sw_on (sX9_value cs7 t_p0 (by (try simp only [zp, zo, zq] at w_0 r5194 h5195 xq4 h5196 ⊢) <;> (try simp only [zz, Int32.reduceToInt, ne_eq] at w_0 r5194 h5195 xq4 h5196 ⊢) <;> (try simp (disch := omega) only [zb] at w_0 r5194 h5195 xq4 h5196 ⊢) <;> first | omega | ((try simp (disch := omega) only [zb] at w_0 r5194 h5195 xq4 h5196 ⊢) <;> omega)) ) ?_
      intro q8 hqq8
      obtain ⟨eq8, xq8⟩ := hqq8
      (try rw [eq8])
      refine sw_sh (ci_sh cs7 t_p0 rfl) ?_
      refine sw_on (sX9_value cs7 t_p0 (by (try simp only [zp, zo, zq] at w_0 r5194 h5195 xq4 h5196 xq8 ⊢) <;> (try simp only [zz, Int32.reduceToInt, ne_eq] at w_0 r5194 h5195 xq4 h5196 xq8 ⊢) <;> (try simp (disch := omega) only [zb] at w_0 r5194 h5195 xq4 h5196 xq8 ⊢) <;> first | omega | ((try simp (disch := omega) only [zb] at w_0 r5194 h5195 xq4 h5196 xq8 ⊢) <;> omega)) ) ?_
      intro q10 hqq10
      obtain ⟨eq10, xq10⟩ := hqq10
      (try rw [eq10])
      refine sw_ite (fun h5198 => ?_) (fun h5198 => ?_)
      · unfold fX9_packet_50
        refine sw_sh (ci_sh cs7 t_p0 rfl) ?_
        obtain ⟨q13, eq13, tq13⟩ := ci_ref cs7 t_p0 13 (κ' := 63) rfl
        refine sw_onS eq13 ?_
        refine sw_ar (ci_sh cs7 tq13 rfl) ?_
        refine sw_ib (by (try simp only [zp, zo, zq] at w_0 r5194 h5195 xq4 h5196 xq8 xq10 h5198 ⊢) <;> (try simp only [zz, Int32.reduceToInt, ne_eq] at w_0 r5194 h5195 xq4 h5196 xq8 xq10 h5198 ⊢) <;> (try simp (disch := omega) only [zb] at w_0 r5194 h5195 xq4 h5196 xq8 xq10 h5198 ⊢) <;> first | omega | ((try simp (disch := omega) only [zb] at w_0 r5194 h5195 xq4 h5196 xq8 xq10 h5198 ⊢) <;> omega)) ?_
        refine sw_ib (by (try simp only [zp, zo, zq] at w_0 r5194 h5195 xq4 h5196 xq8 xq10 h5198 ⊢) <;> (try simp only [zz, Int32.reduceToInt, ne_eq] at w_0 r5194 h5195 xq4 h5196 xq8 xq10 h5198 ⊢) <;> (try simp (disch := omega) only [zb] at w_0 r5194 h5195 xq4 h5196 xq8 xq10 h5198 ⊢) <;> first | omega | ((try simp (disch := omega) only [zb] at w_0 r5194 h5195 xq4 h5196 xq8 xq10 h5198 ⊢) <;> omega)) ?_
        have cs17 := ci_wI cs7 tq13 (j := (0 : Int32).toNatClampNeg) (v := (mm_I s7 q13 (0 : Int32).toNatClampNeg) + 1) (kr_n rfl)
        have fs17 := fr_wI fs7 tq13 (j := (0 : Int32).toNatClampNeg) (v := (mm_I s7 q13 (0 : Int32).toNatClampNeg) + 1) rfl
        refine sw_let (fun s17 es17 => ?_)
        rw [es17] at cs17 fs17
        have w5199 : mm_I s17 p0 0 = mm_I s7 p0 0 := by rw [← es17]; exact rd_k t_p0 tq13 (by decide)
        have w5200 : mm_I s7 p0 0 = mm_I q4.2 p0 0 := by rw [← es7]; exact rd_j (by decide)
        exact sw_some ⟨cs17, fs17, (by (try simp only [zp, zo, zq] at w_0 r5194 h5195 xq4 h5196 xq8 xq10 h5198 w5199 w5200 ⊢) <;> (try simp only [zz, Int32.reduceToInt, ne_eq] at w_0 r5194 h5195 xq4 h5196 xq8 xq10 h5198 w5199 w5200 ⊢) <;> (try simp (disch := omega) only [zb] at w_0 r5194 h5195 xq4 h5196 xq8 xq10 h5198 w5199 w5200 ⊢) <;> first | omega | ((try simp (disch := omega) only [zb] at w_0 r5194 h5195 xq4 h5196 xq8 xq10 h5198 w5199 w5200 ⊢) <;> omega))⟩
      · refine sw_ite (fun h5202 => ?_) (fun h5202 => ?_)
        · unfold fX9_packet_50
          refine sw_sh (ci_sh cs7 t_p0 rfl) ?_
          obtain ⟨q13, eq13, tq13⟩ := ci_ref cs7 t_p0 13 (κ' := 63) rfl
          refine sw_onS eq13 ?_
          refine sw_ar (ci_sh cs7 tq13 rfl) ?_
          refine sw_ib (by (try simp only [zp, zo, zq] at w_0 r5194 h5195 xq4 h5196 xq8 xq10 h5198 h5202 ⊢) <;> (try simp only [zz, Int32.reduceToInt, ne_eq] at w_0 r5194 h5195 xq4 h5196 xq8 xq10 h5198 h5202 ⊢) <;> (try simp (disch := omega) only [zb] at w_0 r5194 h5195 xq4 h5196 xq8 xq10 h5198 h5202 ⊢) <;> first | omega | ((try simp (disch := omega) only [zb] at w_0 r5194 h5195 xq4 h5196 xq8 xq10 h5198 h5202 ⊢) <;> omega)) ?_
          refine sw_ib (by (try simp only [zp, zo, zq] at w_0 r5194 h5195 xq4 h5196 xq8 xq10 h5198 h5202 ⊢) <;> (try simp only [zz, Int32.reduceToInt, ne_eq] at w_0 r5194 h5195 xq4 h5196 xq8 xq10 h5198 h5202 ⊢) <;> (try simp (disch := omega) only [zb] at w_0 r5194 h5195 xq4 h5196 xq8 xq10 h5198 h5202 ⊢) <;> first | omega | ((try simp (disch := omega) only [zb] at w_0 r5194 h5195 xq4 h5196 xq8 xq10 h5198 h5202 ⊢) <;> omega)) ?_
          have cs17 := ci_wI cs7 tq13 (j := (0 : Int32).toNatClampNeg) (v := (mm_I s7 q13 (0 : Int32).toNatClampNeg) + 1) (kr_n rfl)
          have fs17 := fr_wI fs7 tq13 (j := (0 : Int32).toNatClampNeg) (v := (mm_I s7 q13 (0 : Int32).toNatClampNeg) + 1) rfl
          refine sw_let (fun s17 es17 => ?_)
          rw [es17] at cs17 fs17
          have w5203 : mm_I s17 p0 0 = mm_I s7 p0 0 := by rw [← es17]; exact rd_k t_p0 tq13 (by decide)
          have w5204 : mm_I s7 p0 0 = mm_I q4.2 p0 0 := by rw [← es7]; exact rd_j (by decide)
          exact sw_some ⟨cs17, fs17, (by (try simp only [zp, zo, zq] at w_0 r5194 h5195 xq4 h5196 xq8 xq10 h5198 h5202 w5203 w5204 ⊢) <;> (try simp only [zz, Int32.reduceToInt, ne_eq] at w_0 r5194 h5195 xq4 h5196 xq8 xq10 h5198 h5202 w5203 w5204 ⊢) <;> (try simp (disch := omega) only [zb] at w_0 r5194 h5195 xq4 h5196 xq8 xq10 h5198 h5202 w5203 w5204 ⊢) <;> first | omega | ((try simp (disch := omega) only [zb] at w_0 r5194 h5195 xq4 h5196 xq8 xq10 h5198 h5202 w5203 w5204 ⊢) <;> omega))⟩
        · have d0 := zi_div (a := q8.1) (by (try simp only [zp, zo, zq] at w_0 r5194 h5195 xq4 h5196 xq8 xq10 h5198 h5202 ⊢) <;> (try simp only [zz, Int32.reduceToInt, ne_eq] at w_0 r5194 h5195 xq4 h5196 xq8 xq10 h5198 h5202 ⊢) <;> (try simp (disch := omega) only [zb] at w_0 r5194 h5195 xq4 h5196 xq8 xq10 h5198 h5202 ⊢) <;> first | omega | ((try simp (disch := omega) only [zb] at w_0 r5194 h5195 xq4 h5196 xq8 xq10 h5198 h5202 ⊢) <;> omega)) 8 (n := 8) rfl (by decide)
          refine sw_ite (fun h5206 => ?_) (fun h5206 => ?_)
          · refine sw_sh (ci_sh cs7 t_p0 rfl) ?_
            have u5207 := su_mag q8.1 (by (try simp only [zp, zo, zq] at w_0 r5194 h5195 xq4 h5196 xq8 xq10 h5198 h5202 d0 h5206 ⊢) <;> (try simp only [zz, Int32.reduceToInt, ne_eq] at w_0 r5194 h5195 xq4 h5196 xq8 xq10 h5198 h5202 d0 h5206 ⊢) <;> (try simp (disch := omega) only [zb] at w_0 r5194 h5195 xq4 h5196 xq8 xq10 h5198 h5202 d0 h5206 ⊢) <;> first | omega | ((try simp (disch := omega) only [zb] at w_0 r5194 h5195 xq4 h5196 xq8 xq10 h5198 h5202 d0 h5206 ⊢) <;> omega))
            have w5208 : mm_I s7 p0 14 = mm_I q4.2 p0 14 := by rw [← es7]; exact rd_j (by decide)
            have w5209 := (gq4.2.2 _ _ t_p0 14 rfl).1
            have r5210 := ci_rg c0 t_p0 14 (lo := 0) (hi := 20) rfl
            have r5211 := ci_rg cq4 t_p0 14 (lo := 0) (hi := 20) rfl
            have r5212 := ci_rg cs7 t_p0 14 (lo := 0) (hi := 20) rfl
            have w5213 : uc s7 p0 = uc q4.2 p0 := by rw [← es7]; exact uc_k cq4 t_p0 t_p0 (by decide)
            have w5214 := uc_fr gq4 c0 t_p0 rfl rfl
            refine sw_on (sX9_header cs7 t_p0 (by (try simp only [zp, zo, zq] at w_0 r5194 h5195 xq4 h5196 xq8 xq10 h5198 h5202 d0 h5206 u5207 w5208 w5209 r5210 r5211 r5212 w5213 w5214 ⊢) <;> (try simp only [zz, Int32.reduceToInt, ne_eq] at w_0 r5194 h5195 xq4 h5196 xq8 xq10 h5198 h5202 d0 h5206 u5207 w5208 w5209 r5210 r5211 r5212 w5213 w5214 ⊢) <;> (try simp (disch := omega) only [zb] at w_0 r5194 h5195 xq4 h5196 xq8 xq10 h5198 h5202 d0 h5206 u5207 w5208 w5209 r5210 r5211 r5212 w5213 w5214 ⊢) <;> first | omega | ((try simp (disch := omega) only [zb] at w_0 r5194 h5195 xq4 h5196 xq8 xq10 h5198 h5202 d0 h5206 u5207 w5208 w5209 r5210 r5211 r5212 w5213 w5214 ⊢) <;> omega)) (by (try simp only [zp, zo, zq] at w_0 r5194 h5195 xq4 h5196 xq8 xq10 h5198 h5202 d0 h5206 u5207 w5208 w5209 r5210 r5211 r5212 w5213 w5214 ⊢) <;> (try simp only [zz, Int32.reduceToInt, ne_eq] at w_0 r5194 h5195 xq4 h5196 xq8 xq10 h5198 h5202 d0 h5206 u5207 w5208 w5209 r5210 r5211 r5212 w5213 w5214 ⊢) <;> (try simp (disch := omega) only [zb] at w_0 r5194 h5195 xq4 h5196 xq8 xq10 h5198 h5202 d0 h5206 u5207 w5208 w5209 r5210 r5211 r5212 w5213 w5214 ⊢) <;> first | omega | ((try simp (disch := omega) only [zb] at w_0 r5194 h5195 xq4 h5196 xq8 xq10 h5198 h5202 d0 h5206 u5207 w5208 w5209 r5210 r5211 r5212 w5213 w5214 ⊢) <;> omega))) ?_
            intro q36 hqq36
            obtain ⟨cq36, gq36, xq36⟩ := hqq36
            have fq36 := fr_trans fs7 gq36 rfl
            have w5215 := (gq36.2.2 _ _ t_p0 0 rfl).1
            have w5216 : mm_I s7 p0 0 = mm_I q4.2 p0 0 := by rw [← es7]; exact rd_j (by decide)
            exact sw_some ⟨cq36, fq36, (by (try simp only [zp, zo, zq] at w_0 r5194 h5195 xq4 h5196 xq8 xq10 h5198 h5202 d0 h5206 u5207 w5208 w5209 r5210 r5211 r5212 w5213 w5214 xq36 w5215 w5216 ⊢) <;> (try simp only [zz, Int32.reduceToInt, ne_eq] at w_0 r5194 h5195 xq4 h5196 xq8 xq10 h5198 h5202 d0 h5206 u5207 w5208 w5209 r5210 r5211 r5212 w5213 w5214 xq36 w5215 w5216 ⊢) <;> (try simp (disch := omega) only [zb] at w_0 r5194 h5195 xq4 h5196 xq8 xq10 h5198 h5202 d0 h5206 u5207 w5208 w5209 r5210 r5211 r5212 w5213 w5214 xq36 w5215 w5216 ⊢) <;> first | omega | ((try simp (disch := omega) only [zb] at w_0 r5194 h5195 xq4 h5196 xq8 xq10 h5198 h5202 d0 h5206 u5207 w5208 w5209 r5210 r5211 r5212 w5213 w5214 xq36 w5215 w5216 ⊢) <;> omega))⟩
          · refine sw_ite (fun h5218 => ?_) (fun h5218 => ?_)
            · unfold fX9_packet_104
              refine sw_sh (ci_sh cs7 t_p0 rfl) ?_
              obtain ⟨q22, eq22, tq22⟩ := ci_ref cs7 t_p0 27 (κ' := 77) rfl
              refine sw_onS eq22 ?_
              refine sw_ar (ci_sh cs7 tq22 rfl) ?_
              have u5219 := su_mag q8.1 (by (try simp only [zp, zo, zq] at w_0 r5194 h5195 xq4 h5196 xq8 xq10 h5198 h5202 d0 h5206 h5218 ⊢) <;> (try simp only [zz, Int32.reduceToInt, ne_eq] at w_0 r5194 h5195 xq4 h5196 xq8 xq10 h5198 h5202 d0 h5206 h5218 ⊢) <;> (try simp (disch := omega) only [zb] at w_0 r5194 h5195 xq4 h5196 xq8 xq10 h5198 h5202 d0 h5206 h5218 ⊢) <;> first | omega | ((try simp (disch := omega) only [zb] at w_0 r5194 h5195 xq4 h5196 xq8 xq10 h5198 h5202 d0 h5206 h5218 ⊢) <;> omega))
              refine sw_ib (by (try simp only [zp, zo, zq] at w_0 r5194 h5195 xq4 h5196 xq8 xq10 h5198 h5202 d0 h5206 h5218 u5219 ⊢) <;> (try simp only [zz, Int32.reduceToInt, ne_eq] at w_0 r5194 h5195 xq4 h5196 xq8 xq10 h5198 h5202 d0 h5206 h5218 u5219 ⊢) <;> (try simp (disch := omega) only [zb] at w_0 r5194 h5195 xq4 h5196 xq8 xq10 h5198 h5202 d0 h5206 h5218 u5219 ⊢) <;> first | omega | ((try simp (disch := omega) only [zb] at w_0 r5194 h5195 xq4 h5196 xq8 xq10 h5198 h5202 d0 h5206 h5218 u5219 ⊢) <;> omega)) ?_
              have w5220 : mm_I s7 q22 ((fX9_mag q8.1).toNatClampNeg) = mm_I q4.2 q22 ((fX9_mag q8.1).toNatClampNeg) := by rw [← es7]; exact rd_k tq22 t_p0 (by decide)
              have w5221 := (gq4.2.2 _ _ tq22 ((fX9_mag q8.1).toNatClampNeg) rfl).1
              have r5222 := ci_rg c0 tq22 ((fX9_mag q8.1).toNatClampNeg) (lo := (-1)) (hi := 19) rfl
              have r5223 := ci_rg cq4 tq22 ((fX9_mag q8.1).toNatClampNeg) (lo := (-1)) (hi := 19) rfl
              have r5224 := ci_rg cs7 tq22 ((fX9_mag q8.1).toNatClampNeg) (lo := (-1)) (hi := 19) rfl
              refine sw_ite (fun h5225 => ?_) (fun h5225 => ?_)
              · obtain ⟨q29, eq29, tq29⟩ := ci_ref cs7 t_p0 13 (κ' := 63) rfl
                refine sw_onS eq29 ?_
                refine sw_ar (ci_sh cs7 tq29 rfl) ?_
                refine sw_ib (by (try simp only [zp, zo, zq] at w_0 r5194 h5195 xq4 h5196 xq8 xq10 h5198 h5202 d0 h5206 h5218 u5219 w5220 w5221 r5222 r5223 r5224 h5225 ⊢) <;> (try simp only [zz, Int32.reduceToInt, ne_eq] at w_0 r5194 h5195 xq4 h5196 xq8 xq10 h5198 h5202 d0 h5206 h5218 u5219 w5220 w5221 r5222 r5223 r5224 h5225 ⊢) <;> (try simp (disch := omega) only [zb] at w_0 r5194 h5195 xq4 h5196 xq8 xq10 h5198 h5202 d0 h5206 h5218 u5219 w5220 w5221 r5222 r5223 r5224 h5225 ⊢) <;> first | omega | ((try simp (disch := omega) only [zb] at w_0 r5194 h5195 xq4 h5196 xq8 xq10 h5198 h5202 d0 h5206 h5218 u5219 w5220 w5221 r5222 r5223 r5224 h5225 ⊢) <;> omega)) ?_
                refine sw_ib (by (try simp only [zp, zo, zq] at w_0 r5194 h5195 xq4 h5196 xq8 xq10 h5198 h5202 d0 h5206 h5218 u5219 w5220 w5221 r5222 r5223 r5224 h5225 ⊢) <;> (try simp only [zz, Int32.reduceToInt, ne_eq] at w_0 r5194 h5195 xq4 h5196 xq8 xq10 h5198 h5202 d0 h5206 h5218 u5219 w5220 w5221 r5222 r5223 r5224 h5225 ⊢) <;> (try simp (disch := omega) only [zb] at w_0 r5194 h5195 xq4 h5196 xq8 xq10 h5198 h5202 d0 h5206 h5218 u5219 w5220 w5221 r5222 r5223 r5224 h5225 ⊢) <;> first | omega | ((try simp (disch := omega) only [zb] at w_0 r5194 h5195 xq4 h5196 xq8 xq10 h5198 h5202 d0 h5206 h5218 u5219 w5220 w5221 r5222 r5223 r5224 h5225 ⊢) <;> omega)) ?_
                have cs33 := ci_wI cs7 tq29 (j := (2 : Int32).toNatClampNeg) (v := (mm_I s7 q29 (2 : Int32).toNatClampNeg) + 1) (kr_n rfl)
                have fs33 := fr_wI fs7 tq29 (j := (2 : Int32).toNatClampNeg) (v := (mm_I s7 q29 (2 : Int32).toNatClampNeg) + 1) rfl
                refine sw_let (fun s33 es33 => ?_)
                rw [es33] at cs33 fs33
                have w5226 : mm_I s33 p0 0 = mm_I s7 p0 0 := by rw [← es33]; exact rd_k t_p0 tq29 (by decide)
                have w5227 : mm_I s7 p0 0 = mm_I q4.2 p0 0 := by rw [← es7]; exact rd_j (by decide)
                exact sw_some ⟨cs33, fs33, (by (try simp only [zp, zo, zq] at w_0 r5194 h5195 xq4 h5196 xq8 xq10 h5198 h5202 d0 h5206 h5218 u5219 w5220 w5221 r5222 r5223 r5224 h5225 w5226 w5227 ⊢) <;> (try simp only [zz, Int32.reduceToInt, ne_eq] at w_0 r5194 h5195 xq4 h5196 xq8 xq10 h5198 h5202 d0 h5206 h5218 u5219 w5220 w5221 r5222 r5223 r5224 h5225 w5226 w5227 ⊢) <;> (try simp (disch := omega) only [zb] at w_0 r5194 h5195 xq4 h5196 xq8 xq10 h5198 h5202 d0 h5206 h5218 u5219 w5220 w5221 r5222 r5223 r5224 h5225 w5226 w5227 ⊢) <;> first | omega | ((try simp (disch := omega) only [zb] at w_0 r5194 h5195 xq4 h5196 xq8 xq10 h5198 h5202 d0 h5206 h5218 u5219 w5220 w5221 r5222 r5223 r5224 h5225 w5226 w5227 ⊢) <;> omega))⟩
              · refine sw_ite (fun h5229 => ?_) (fun h5229 => ?_)
                · refine sw_on (sX9_linkPacket cs7 t_p0 (by (try simp only [zp, zo, zq] at w_0 r5194 h5195 xq4 h5196 xq8 xq10 h5198 h5202 d0 h5206 h5218 u5219 w5220 w5221 r5222 r5223 r5224 h5225 h5229 ⊢) <;> (try simp only [zz, Int32.reduceToInt, ne_eq] at w_0 r5194 h5195 xq4 h5196 xq8 xq10 h5198 h5202 d0 h5206 h5218 u5219 w5220 w5221 r5222 r5223 r5224 h5225 h5229 ⊢) <;> (try simp (disch := omega) only [zb] at w_0 r5194 h5195 xq4 h5196 xq8 xq10 h5198 h5202 d0 h5206 h5218 u5219 w5220 w5221 r5222 r5223 r5224 h5225 h5229 ⊢) <;> first | omega | ((try simp (disch := omega) only [zb] at w_0 r5194 h5195 xq4 h5196 xq8 xq10 h5198 h5202 d0 h5206 h5218 u5219 w5220 w5221 r5222 r5223 r5224 h5225 h5229 ⊢) <;> omega)) ) ?_
                  intro q28 hqq28
                  obtain ⟨cq28, gq28, xq28⟩ := hqq28
                  have fq28 := fr_trans fs7 gq28 rfl
                  have w5230 := (gq28.2.2 _ _ t_p0 0 rfl).1
                  have w5231 : mm_I s7 p0 0 = mm_I q4.2 p0 0 := by rw [← es7]; exact rd_j (by decide)
                  exact sw_some ⟨cq28, fq28, (by (try simp only [zp, zo, zq] at w_0 r5194 h5195 xq4 h5196 xq8 xq10 h5198 h5202 d0 h5206 h5218 u5219 w5220 w5221 r5222 r5223 r5224 h5225 h5229 w5230 w5231 ⊢) <;> (try simp only [zz, Int32.reduceToInt, ne_eq] at w_0 r5194 h5195 xq4 h5196 xq8 xq10 h5198 h5202 d0 h5206 h5218 u5219 w5220 w5221 r5222 r5223 r5224 h5225 h5229 w5230 w5231 ⊢) <;> (try simp (disch := omega) only [zb] at w_0 r5194 h5195 xq4 h5196 xq8 xq10 h5198 h5202 d0 h5206 h5218 u5219 w5220 w5221 r5222 r5223 r5224 h5225 h5229 w5230 w5231 ⊢) <;> first | omega | ((try simp (disch := omega) only [zb] at w_0 r5194 h5195 xq4 h5196 xq8 xq10 h5198 h5202 d0 h5206 h5218 u5219 w5220 w5221 r5222 r5223 r5224 h5225 h5229 w5230 w5231 ⊢) <;> omega))⟩
                · refine sw_on (sX9_text cs7 t_p0 (by (try simp only [zp, zo, zq] at w_0 r5194 h5195 xq4 h5196 xq8 xq10 h5198 h5202 d0 h5206 h5218 u5219 w5220 w5221 r5222 r5223 r5224 h5225 h5229 ⊢) <;> (try simp only [zz, Int32.reduceToInt, ne_eq] at w_0 r5194 h5195 xq4 h5196 xq8 xq10 h5198 h5202 d0 h5206 h5218 u5219 w5220 w5221 r5222 r5223 r5224 h5225 h5229 ⊢) <;> (try simp (disch := omega) only [zb] at w_0 r5194 h5195 xq4 h5196 xq8 xq10 h5198 h5202 d0 h5206 h5218 u5219 w5220 w5221 r5222 r5223 r5224 h5225 h5229 ⊢) <;> first | omega | ((try simp (disch := omega) only [zb] at w_0 r5194 h5195 xq4 h5196 xq8 xq10 h5198 h5202 d0 h5206 h5218 u5219 w5220 w5221 r5222 r5223 r5224 h5225 h5229 ⊢) <;> omega)) (by (try simp only [zp, zo, zq] at w_0 r5194 h5195 xq4 h5196 xq8 xq10 h5198 h5202 d0 h5206 h5218 u5219 w5220 w5221 r5222 r5223 r5224 h5225 h5229 ⊢) <;> (try simp only [zz, Int32.reduceToInt, ne_eq] at w_0 r5194 h5195 xq4 h5196 xq8 xq10 h5198 h5202 d0 h5206 h5218 u5219 w5220 w5221 r5222 r5223 r5224 h5225 h5229 ⊢) <;> (try simp (disch := omega) only [zb] at w_0 r5194 h5195 xq4 h5196 xq8 xq10 h5198 h5202 d0 h5206 h5218 u5219 w5220 w5221 r5222 r5223 r5224 h5225 h5229 ⊢) <;> first | omega | ((try simp (disch := omega) only [zb] at w_0 r5194 h5195 xq4 h5196 xq8 xq10 h5198 h5202 d0 h5206 h5218 u5219 w5220 w5221 r5222 r5223 r5224 h5225 h5229 ⊢) <;> omega)) (by (try simp only [zp, zo, zq] at w_0 r5194 h5195 xq4 h5196 xq8 xq10 h5198 h5202 d0 h5206 h5218 u5219 w5220 w5221 r5222 r5223 r5224 h5225 h5229 ⊢) <;> (try simp only [zz, Int32.reduceToInt, ne_eq] at w_0 r5194 h5195 xq4 h5196 xq8 xq10 h5198 h5202 d0 h5206 h5218 u5219 w5220 w5221 r5222 r5223 r5224 h5225 h5229 ⊢) <;> (try simp (disch := omega) only [zb] at w_0 r5194 h5195 xq4 h5196 xq8 xq10 h5198 h5202 d0 h5206 h5218 u5219 w5220 w5221 r5222 r5223 r5224 h5225 h5229 ⊢) <;> first | omega | ((try simp (disch := omega) only [zb] at w_0 r5194 h5195 xq4 h5196 xq8 xq10 h5198 h5202 d0 h5206 h5218 u5219 w5220 w5221 r5222 r5223 r5224 h5225 h5229 ⊢) <;> omega)) (by (try simp only [zp, zo, zq] at w_0 r5194 h5195 xq4 h5196 xq8 xq10 h5198 h5202 d0 h5206 h5218 u5219 w5220 w5221 r5222 r5223 r5224 h5225 h5229 ⊢) <;> (try simp only [zz, Int32.reduceToInt, ne_eq] at w_0 r5194 h5195 xq4 h5196 xq8 xq10 h5198 h5202 d0 h5206 h5218 u5219 w5220 w5221 r5222 r5223 r5224 h5225 h5229 ⊢) <;> (try simp (disch := omega) only [zb] at w_0 r5194 h5195 xq4 h5196 xq8 xq10 h5198 h5202 d0 h5206 h5218 u5219 w5220 w5221 r5222 r5223 r5224 h5225 h5229 ⊢) <;> first | omega | ((try simp (disch := omega) only [zb] at w_0 r5194 h5195 xq4 h5196 xq8 xq10 h5198 h5202 d0 h5206 h5218 u5219 w5220 w5221 r5222 r5223 r5224 h5225 h5229 ⊢) <;> omega)) ) ?_
                  intro q27 hqq27
                  obtain ⟨cq27, gq27, xq27⟩ := hqq27
                  have fq27 := fr_trans fs7 gq27 rfl
                  have w5233 := (gq27.2.2 _ _ t_p0 0 rfl).1
                  have w5234 : mm_I s7 p0 0 = mm_I q4.2 p0 0 := by rw [← es7]; exact rd_j (by decide)
                  exact sw_some ⟨cq27, fq27, (by (try simp only [zp, zo, zq] at w_0 r5194 h5195 xq4 h5196 xq8 xq10 h5198 h5202 d0 h5206 h5218 u5219 w5220 w5221 r5222 r5223 r5224 h5225 h5229 w5233 w5234 ⊢) <;> (try simp only [zz, Int32.reduceToInt, ne_eq] at w_0 r5194 h5195 xq4 h5196 xq8 xq10 h5198 h5202 d0 h5206 h5218 u5219 w5220 w5221 r5222 r5223 r5224 h5225 h5229 w5233 w5234 ⊢) <;> (try simp (disch := omega) only [zb] at w_0 r5194 h5195 xq4 h5196 xq8 xq10 h5198 h5202 d0 h5206 h5218 u5219 w5220 w5221 r5222 r5223 r5224 h5225 h5229 w5233 w5234 ⊢) <;> first | omega | ((try simp (disch := omega) only [zb] at w_0 r5194 h5195 xq4 h5196 xq8 xq10 h5198 h5202 d0 h5206 h5218 u5219 w5220 w5221 r5222 r5223 r5224 h5225 h5229 w5233 w5234 ⊢) <;> omega))⟩
            · refine sw_ite (fun h5236 => ?_) (fun h5236 => ?_)
              · unfold fX9_packet_104
                refine sw_sh (ci_sh cs7 t_p0 rfl) ?_
                obtain ⟨q22, eq22, tq22⟩ := ci_ref cs7 t_p0 27 (κ' := 77) rfl
                refine sw_onS eq22 ?_
                refine sw_ar (ci_sh cs7 tq22 rfl) ?_
                have u5237 := su_mag q8.1 (by (try simp only [zp, zo, zq] at w_0 r5194 h5195 xq4 h5196 xq8 xq10 h5198 h5202 d0 h5206 h5218 h5236 ⊢) <;> (try simp only [zz, Int32.reduceToInt, ne_eq] at w_0 r5194 h5195 xq4 h5196 xq8 xq10 h5198 h5202 d0 h5206 h5218 h5236 ⊢) <;> (try simp (disch := omega) only [zb] at w_0 r5194 h5195 xq4 h5196 xq8 xq10 h5198 h5202 d0 h5206 h5218 h5236 ⊢) <;> first | omega | ((try simp (disch := omega) only [zb] at w_0 r5194 h5195 xq4 h5196 xq8 xq10 h5198 h5202 d0 h5206 h5218 h5236 ⊢) <;> omega))
                refine sw_ib (by (try simp only [zp, zo, zq] at w_0 r5194 h5195 xq4 h5196 xq8 xq10 h5198 h5202 d0 h5206 h5218 h5236 u5237 ⊢) <;> (try simp only [zz, Int32.reduceToInt, ne_eq] at w_0 r5194 h5195 xq4 h5196 xq8 xq10 h5198 h5202 d0 h5206 h5218 h5236 u5237 ⊢) <;> (try simp (disch := omega) only [zb] at w_0 r5194 h5195 xq4 h5196 xq8 xq10 h5198 h5202 d0 h5206 h5218 h5236 u5237 ⊢) <;> first | omega | ((try simp (disch := omega) only [zb] at w_0 r5194 h5195 xq4 h5196 xq8 xq10 h5198 h5202 d0 h5206 h5218 h5236 u5237 ⊢) <;> omega)) ?_
                have w5238 : mm_I s7 q22 ((fX9_mag q8.1).toNatClampNeg) = mm_I q4.2 q22 ((fX9_mag q8.1).toNatClampNeg) := by rw [← es7]; exact rd_k tq22 t_p0 (by decide)
                have w5239 := (gq4.2.2 _ _ tq22 ((fX9_mag q8.1).toNatClampNeg) rfl).1
                have r5240 := ci_rg c0 tq22 ((fX9_mag q8.1).toNatClampNeg) (lo := (-1)) (hi := 19) rfl
                have r5241 := ci_rg cq4 tq22 ((fX9_mag q8.1).toNatClampNeg) (lo := (-1)) (hi := 19) rfl
                have r5242 := ci_rg cs7 tq22 ((fX9_mag q8.1).toNatClampNeg) (lo := (-1)) (hi := 19) rfl
                refine sw_ite (fun h5243 => ?_) (fun h5243 => ?_)
                · obtain ⟨q29, eq29, tq29⟩ := ci_ref cs7 t_p0 13 (κ' := 63) rfl
                  refine sw_onS eq29 ?_
                  refine sw_ar (ci_sh cs7 tq29 rfl) ?_
                  refine sw_ib (by (try simp only [zp, zo, zq] at w_0 r5194 h5195 xq4 h5196 xq8 xq10 h5198 h5202 d0 h5206 h5218 h5236 u5237 w5238 w5239 r5240 r5241 r5242 h5243 ⊢) <;> (try simp only [zz, Int32.reduceToInt, ne_eq] at w_0 r5194 h5195 xq4 h5196 xq8 xq10 h5198 h5202 d0 h5206 h5218 h5236 u5237 w5238 w5239 r5240 r5241 r5242 h5243 ⊢) <;> (try simp (disch := omega) only [zb] at w_0 r5194 h5195 xq4 h5196 xq8 xq10 h5198 h5202 d0 h5206 h5218 h5236 u5237 w5238 w5239 r5240 r5241 r5242 h5243 ⊢) <;> first | omega | ((try simp (disch := omega) only [zb] at w_0 r5194 h5195 xq4 h5196 xq8 xq10 h5198 h5202 d0 h5206 h5218 h5236 u5237 w5238 w5239 r5240 r5241 r5242 h5243 ⊢) <;> omega)) ?_
                  refine sw_ib (by (try simp only [zp, zo, zq] at w_0 r5194 h5195 xq4 h5196 xq8 xq10 h5198 h5202 d0 h5206 h5218 h5236 u5237 w5238 w5239 r5240 r5241 r5242 h5243 ⊢) <;> (try simp only [zz, Int32.reduceToInt, ne_eq] at w_0 r5194 h5195 xq4 h5196 xq8 xq10 h5198 h5202 d0 h5206 h5218 h5236 u5237 w5238 w5239 r5240 r5241 r5242 h5243 ⊢) <;> (try simp (disch := omega) only [zb] at w_0 r5194 h5195 xq4 h5196 xq8 xq10 h5198 h5202 d0 h5206 h5218 h5236 u5237 w5238 w5239 r5240 r5241 r5242 h5243 ⊢) <;> first | omega | ((try simp (disch := omega) only [zb] at w_0 r5194 h5195 xq4 h5196 xq8 xq10 h5198 h5202 d0 h5206 h5218 h5236 u5237 w5238 w5239 r5240 r5241 r5242 h5243 ⊢) <;> omega)) ?_
                  have cs33 := ci_wI cs7 tq29 (j := (2 : Int32).toNatClampNeg) (v := (mm_I s7 q29 (2 : Int32).toNatClampNeg) + 1) (kr_n rfl)
                  have fs33 := fr_wI fs7 tq29 (j := (2 : Int32).toNatClampNeg) (v := (mm_I s7 q29 (2 : Int32).toNatClampNeg) + 1) rfl
                  refine sw_let (fun s33 es33 => ?_)
                  rw [es33] at cs33 fs33
                  have w5244 : mm_I s33 p0 0 = mm_I s7 p0 0 := by rw [← es33]; exact rd_k t_p0 tq29 (by decide)
                  have w5245 : mm_I s7 p0 0 = mm_I q4.2 p0 0 := by rw [← es7]; exact rd_j (by decide)
                  exact sw_some ⟨cs33, fs33, (by (try simp only [zp, zo, zq] at w_0 r5194 h5195 xq4 h5196 xq8 xq10 h5198 h5202 d0 h5206 h5218 h5236 u5237 w5238 w5239 r5240 r5241 r5242 h5243 w5244 w5245 ⊢) <;> (try simp only [zz, Int32.reduceToInt, ne_eq] at w_0 r5194 h5195 xq4 h5196 xq8 xq10 h5198 h5202 d0 h5206 h5218 h5236 u5237 w5238 w5239 r5240 r5241 r5242 h5243 w5244 w5245 ⊢) <;> (try simp (disch := omega) only [zb] at w_0 r5194 h5195 xq4 h5196 xq8 xq10 h5198 h5202 d0 h5206 h5218 h5236 u5237 w5238 w5239 r5240 r5241 r5242 h5243 w5244 w5245 ⊢) <;> first | omega | ((try simp (disch := omega) only [zb] at w_0 r5194 h5195 xq4 h5196 xq8 xq10 h5198 h5202 d0 h5206 h5218 h5236 u5237 w5238 w5239 r5240 r5241 r5242 h5243 w5244 w5245 ⊢) <;> omega))⟩
                · refine sw_ite (fun h5247 => ?_) (fun h5247 => ?_)
                  · refine sw_on (sX9_linkPacket cs7 t_p0 (by (try simp only [zp, zo, zq] at w_0 r5194 h5195 xq4 h5196 xq8 xq10 h5198 h5202 d0 h5206 h5218 h5236 u5237 w5238 w5239 r5240 r5241 r5242 h5243 h5247 ⊢) <;> (try simp only [zz, Int32.reduceToInt, ne_eq] at w_0 r5194 h5195 xq4 h5196 xq8 xq10 h5198 h5202 d0 h5206 h5218 h5236 u5237 w5238 w5239 r5240 r5241 r5242 h5243 h5247 ⊢) <;> (try simp (disch := omega) only [zb] at w_0 r5194 h5195 xq4 h5196 xq8 xq10 h5198 h5202 d0 h5206 h5218 h5236 u5237 w5238 w5239 r5240 r5241 r5242 h5243 h5247 ⊢) <;> first | omega | ((try simp (disch := omega) only [zb] at w_0 r5194 h5195 xq4 h5196 xq8 xq10 h5198 h5202 d0 h5206 h5218 h5236 u5237 w5238 w5239 r5240 r5241 r5242 h5243 h5247 ⊢) <;> omega)) ) ?_
                    intro q28 hqq28
                    obtain ⟨cq28, gq28, xq28⟩ := hqq28
                    have fq28 := fr_trans fs7 gq28 rfl
                    have w5248 := (gq28.2.2 _ _ t_p0 0 rfl).1
                    have w5249 : mm_I s7 p0 0 = mm_I q4.2 p0 0 := by rw [← es7]; exact rd_j (by decide)
                    exact sw_some ⟨cq28, fq28, (by (try simp only [zp, zo, zq] at w_0 r5194 h5195 xq4 h5196 xq8 xq10 h5198 h5202 d0 h5206 h5218 h5236 u5237 w5238 w5239 r5240 r5241 r5242 h5243 h5247 w5248 w5249 ⊢) <;> (try simp only [zz, Int32.reduceToInt, ne_eq] at w_0 r5194 h5195 xq4 h5196 xq8 xq10 h5198 h5202 d0 h5206 h5218 h5236 u5237 w5238 w5239 r5240 r5241 r5242 h5243 h5247 w5248 w5249 ⊢) <;> (try simp (disch := omega) only [zb] at w_0 r5194 h5195 xq4 h5196 xq8 xq10 h5198 h5202 d0 h5206 h5218 h5236 u5237 w5238 w5239 r5240 r5241 r5242 h5243 h5247 w5248 w5249 ⊢) <;> first | omega | ((try simp (disch := omega) only [zb] at w_0 r5194 h5195 xq4 h5196 xq8 xq10 h5198 h5202 d0 h5206 h5218 h5236 u5237 w5238 w5239 r5240 r5241 r5242 h5243 h5247 w5248 w5249 ⊢) <;> omega))⟩
                  · refine sw_on (sX9_text cs7 t_p0 (by (try simp only [zp, zo, zq] at w_0 r5194 h5195 xq4 h5196 xq8 xq10 h5198 h5202 d0 h5206 h5218 h5236 u5237 w5238 w5239 r5240 r5241 r5242 h5243 h5247 ⊢) <;> (try simp only [zz, Int32.reduceToInt, ne_eq] at w_0 r5194 h5195 xq4 h5196 xq8 xq10 h5198 h5202 d0 h5206 h5218 h5236 u5237 w5238 w5239 r5240 r5241 r5242 h5243 h5247 ⊢) <;> (try simp (disch := omega) only [zb] at w_0 r5194 h5195 xq4 h5196 xq8 xq10 h5198 h5202 d0 h5206 h5218 h5236 u5237 w5238 w5239 r5240 r5241 r5242 h5243 h5247 ⊢) <;> first | omega | ((try simp (disch := omega) only [zb] at w_0 r5194 h5195 xq4 h5196 xq8 xq10 h5198 h5202 d0 h5206 h5218 h5236 u5237 w5238 w5239 r5240 r5241 r5242 h5243 h5247 ⊢) <;> omega)) (by (try simp only [zp, zo, zq] at w_0 r5194 h5195 xq4 h5196 xq8 xq10 h5198 h5202 d0 h5206 h5218 h5236 u5237 w5238 w5239 r5240 r5241 r5242 h5243 h5247 ⊢) <;> (try simp only [zz, Int32.reduceToInt, ne_eq] at w_0 r5194 h5195 xq4 h5196 xq8 xq10 h5198 h5202 d0 h5206 h5218 h5236 u5237 w5238 w5239 r5240 r5241 r5242 h5243 h5247 ⊢) <;> (try simp (disch := omega) only [zb] at w_0 r5194 h5195 xq4 h5196 xq8 xq10 h5198 h5202 d0 h5206 h5218 h5236 u5237 w5238 w5239 r5240 r5241 r5242 h5243 h5247 ⊢) <;> first | omega | ((try simp (disch := omega) only [zb] at w_0 r5194 h5195 xq4 h5196 xq8 xq10 h5198 h5202 d0 h5206 h5218 h5236 u5237 w5238 w5239 r5240 r5241 r5242 h5243 h5247 ⊢) <;> omega)) (by (try simp only [zp, zo, zq] at w_0 r5194 h5195 xq4 h5196 xq8 xq10 h5198 h5202 d0 h5206 h5218 h5236 u5237 w5238 w5239 r5240 r5241 r5242 h5243 h5247 ⊢) <;> (try simp only [zz, Int32.reduceToInt, ne_eq] at w_0 r5194 h5195 xq4 h5196 xq8 xq10 h5198 h5202 d0 h5206 h5218 h5236 u5237 w5238 w5239 r5240 r5241 r5242 h5243 h5247 ⊢) <;> (try simp (disch := omega) only [zb] at w_0 r5194 h5195 xq4 h5196 xq8 xq10 h5198 h5202 d0 h5206 h5218 h5236 u5237 w5238 w5239 r5240 r5241 r5242 h5243 h5247 ⊢) <;> first | omega | ((try simp (disch := omega) only [zb] at w_0 r5194 h5195 xq4 h5196 xq8 xq10 h5198 h5202 d0 h5206 h5218 h5236 u5237 w5238 w5239 r5240 r5241 r5242 h5243 h5247 ⊢) <;> omega)) (by (try simp only [zp, zo, zq] at w_0 r5194 h5195 xq4 h5196 xq8 xq10 h5198 h5202 d0 h5206 h5218 h5236 u5237 w5238 w5239 r5240 r5241 r5242 h5243 h5247 ⊢) <;> (try simp only [zz, Int32.reduceToInt, ne_eq] at w_0 r5194 h5195 xq4 h5196 xq8 xq10 h5198 h5202 d0 h5206 h5218 h5236 u5237 w5238 w5239 r5240 r5241 r5242 h5243 h5247 ⊢) <;> (try simp (disch := omega) only [zb] at w_0 r5194 h5195 xq4 h5196 xq8 xq10 h5198 h5202 d0 h5206 h5218 h5236 u5237 w5238 w5239 r5240 r5241 r5242 h5243 h5247 ⊢) <;> first | omega | ((try simp (disch := omega) only [zb] at w_0 r5194 h5195 xq4 h5196 xq8 xq10 h5198 h5202 d0 h5206 h5218 h5236 u5237 w5238 w5239 r5240 r5241 r5242 h5243 h5247 ⊢) <;> omega)) ) ?_
                    intro q27 hqq27
                    obtain ⟨cq27, gq27, xq27⟩ := hqq27
                    have fq27 := fr_trans fs7 gq27 rfl
                    have w5251 := (gq27.2.2 _ _ t_p0 0 rfl).1
                    have w5252 : mm_I s7 p0 0 = mm_I q4.2 p0 0 := by rw [← es7]; exact rd_j (by decide)
                    exact sw_some ⟨cq27, fq27, (by (try simp only [zp, zo, zq] at w_0 r5194 h5195 xq4 h5196 xq8 xq10 h5198 h5202 d0 h5206 h5218 h5236 u5237 w5238 w5239 r5240 r5241 r5242 h5243 h5247 w5251 w5252 ⊢) <;> (try simp only [zz, Int32.reduceToInt, ne_eq] at w_0 r5194 h5195 xq4 h5196 xq8 xq10 h5198 h5202 d0 h5206 h5218 h5236 u5237 w5238 w5239 r5240 r5241 r5242 h5243 h5247 w5251 w5252 ⊢) <;> (try simp (disch := omega) only [zb] at w_0 r5194 h5195 xq4 h5196 xq8 xq10 h5198 h5202 d0 h5206 h5218 h5236 u5237 w5238 w5239 r5240 r5241 r5242 h5243 h5247 w5251 w5252 ⊢) <;> first | omega | ((try simp (disch := omega) only [zb] at w_0 r5194 h5195 xq4 h5196 xq8 xq10 h5198 h5202 d0 h5206 h5218 h5236 u5237 w5238 w5239 r5240 r5241 r5242 h5243 h5247 w5251 w5252 ⊢) <;> omega))⟩
              · have w5254 : mm_I s7 p0 0 = mm_I q4.2 p0 0 := by rw [← es7]; exact rd_j (by decide)
                exact sw_some ⟨cs7, fs7, (by (try simp only [zp, zo, zq] at w_0 r5194 h5195 xq4 h5196 xq8 xq10 h5198 h5202 d0 h5206 h5218 h5236 w5254 ⊢) <;> (try simp only [zz, Int32.reduceToInt, ne_eq] at w_0 r5194 h5195 xq4 h5196 xq8 xq10 h5198 h5202 d0 h5206 h5218 h5236 w5254 ⊢) <;> (try simp (disch := omega) only [zb] at w_0 r5194 h5195 xq4 h5196 xq8 xq10 h5198 h5202 d0 h5206 h5218 h5236 w5254 ⊢) <;> first | omega | ((try simp (disch := omega) only [zb] at w_0 r5194 h5195 xq4 h5196 xq8 xq10 h5198 h5202 d0 h5206 h5218 h5236 w5254 ⊢) <;> omega))⟩
  · unfold fX9_packet_15
    refine sw_sh (ci_sh c0 t_p0 rfl) ?_
    refine sw_on (vX9_goes c0 t_p0 (by (try simp only [zp, zo, zq] at w_0 r5194 h5195 ⊢) <;> (try simp only [zz, Int32.reduceToInt, ne_eq] at w_0 r5194 h5195 ⊢) <;> (try simp (disch := omega) only [zb] at w_0 r5194 h5195 ⊢) <;> first | omega | ((try simp (disch := omega) only [zb] at w_0 r5194 h5195 ⊢) <;> omega)) ) ?_
    intro q4 hqq4
    obtain ⟨cq4, gq4, xq4⟩ := hqq4
    have fq4 := fr_trans f0 gq4 rfl
    refine sw_ite (fun h5256 => ?_) (fun h5256 => ?_)
    · exact sw_some ⟨cq4, fq4, (by (try simp only [zp, zo, zq] at w_0 r5194 h5195 xq4 h5256 ⊢) <;> (try simp only [zz, Int32.reduceToInt, ne_eq] at w_0 r5194 h5195 xq4 h5256 ⊢) <;> (try simp (disch := omega) only [zb] at w_0 r5194 h5195 xq4 h5256 ⊢) <;> first | omega | ((try simp (disch := omega) only [zb] at w_0 r5194 h5195 xq4 h5256 ⊢) <;> omega))⟩
    · refine sw_sh (ci_sh cq4 t_p0 rfl) ?_
      have cs7 := ci_wI cq4 t_p0 (j := 12) (v := 0) (kr_s (lo := 0) (hi := 60) rfl (by (try simp only [zp, zo, zq] at w_0 r5194 h5195 xq4 h5256 ⊢) <;> (try simp only [zz, Int32.reduceToInt, ne_eq] at w_0 r5194 h5195 xq4 h5256 ⊢) <;> (try simp (disch := omega) only [zb] at w_0 r5194 h5195 xq4 h5256 ⊢) <;> first | omega | ((try simp (disch := omega) only [zb] at w_0 r5194 h5195 xq4 h5256 ⊢) <;> omega)))
      have fs7 := fr_wI fq4 t_p0 (j := 12) (v := 0) rfl
      refine sw_let (fun s7 es7 => ?_)
      rw [es7] at cs7 fs7
      refine sw_on (sX9_value cs7 t_p0 (by (try simp only [zp, zo, zq] at w_0 r5194 h5195 xq4 h5256 ⊢) <;> (try simp only [zz, Int32.reduceToInt, ne_eq] at w_0 r5194 h5195 xq4 h5256 ⊢) <;> (try simp (disch := omega) only [zb] at w_0 r5194 h5195 xq4 h5256 ⊢) <;> first | omega | ((try simp (disch := omega) only [zb] at w_0 r5194 h5195 xq4 h5256 ⊢) <;> omega)) ) ?_
      intro q8 hqq8
      obtain ⟨eq8, xq8⟩ := hqq8
      (try rw [eq8])
      refine sw_sh (ci_sh cs7 t_p0 rfl) ?_
      refine sw_on (sX9_value cs7 t_p0 (by (try simp only [zp, zo, zq] at w_0 r5194 h5195 xq4 h5256 xq8 ⊢) <;> (try simp only [zz, Int32.reduceToInt, ne_eq] at w_0 r5194 h5195 xq4 h5256 xq8 ⊢) <;> (try simp (disch := omega) only [zb] at w_0 r5194 h5195 xq4 h5256 xq8 ⊢) <;> first | omega | ((try simp (disch := omega) only [zb] at w_0 r5194 h5195 xq4 h5256 xq8 ⊢) <;> omega)) ) ?_
      intro q10 hqq10
      obtain ⟨eq10, xq10⟩ := hqq10
      (try rw [eq10])
      refine sw_ite (fun h5258 => ?_) (fun h5258 => ?_)
      · unfold fX9_packet_50
        refine sw_sh (ci_sh cs7 t_p0 rfl) ?_
        obtain ⟨q13, eq13, tq13⟩ := ci_ref cs7 t_p0 13 (κ' := 63) rfl
        refine sw_onS eq13 ?_
        refine sw_ar (ci_sh cs7 tq13 rfl) ?_
        refine sw_ib (by (try simp only [zp, zo, zq] at w_0 r5194 h5195 xq4 h5256 xq8 xq10 h5258 ⊢) <;> (try simp only [zz, Int32.reduceToInt, ne_eq] at w_0 r5194 h5195 xq4 h5256 xq8 xq10 h5258 ⊢) <;> (try simp (disch := omega) only [zb] at w_0 r5194 h5195 xq4 h5256 xq8 xq10 h5258 ⊢) <;> first | omega | ((try simp (disch := omega) only [zb] at w_0 r5194 h5195 xq4 h5256 xq8 xq10 h5258 ⊢) <;> omega)) ?_
        refine sw_ib (by (try simp only [zp, zo, zq] at w_0 r5194 h5195 xq4 h5256 xq8 xq10 h5258 ⊢) <;> (try simp only [zz, Int32.reduceToInt, ne_eq] at w_0 r5194 h5195 xq4 h5256 xq8 xq10 h5258 ⊢) <;> (try simp (disch := omega) only [zb] at w_0 r5194 h5195 xq4 h5256 xq8 xq10 h5258 ⊢) <;> first | omega | ((try simp (disch := omega) only [zb] at w_0 r5194 h5195 xq4 h5256 xq8 xq10 h5258 ⊢) <;> omega)) ?_
        have cs17 := ci_wI cs7 tq13 (j := (0 : Int32).toNatClampNeg) (v := (mm_I s7 q13 (0 : Int32).toNatClampNeg) + 1) (kr_n rfl)
        have fs17 := fr_wI fs7 tq13 (j := (0 : Int32).toNatClampNeg) (v := (mm_I s7 q13 (0 : Int32).toNatClampNeg) + 1) rfl
        refine sw_let (fun s17 es17 => ?_)
        rw [es17] at cs17 fs17
        have w5259 : mm_I s17 p0 0 = mm_I s7 p0 0 := by rw [← es17]; exact rd_k t_p0 tq13 (by decide)
        have w5260 : mm_I s7 p0 0 = mm_I q4.2 p0 0 := by rw [← es7]; exact rd_j (by decide)
        exact sw_some ⟨cs17, fs17, (by (try simp only [zp, zo, zq] at w_0 r5194 h5195 xq4 h5256 xq8 xq10 h5258 w5259 w5260 ⊢) <;> (try simp only [zz, Int32.reduceToInt, ne_eq] at w_0 r5194 h5195 xq4 h5256 xq8 xq10 h5258 w5259 w5260 ⊢) <;> (try simp (disch := omega) only [zb] at w_0 r5194 h5195 xq4 h5256 xq8 xq10 h5258 w5259 w5260 ⊢) <;> first | omega | ((try simp (disch := omega) only [zb] at w_0 r5194 h5195 xq4 h5256 xq8 xq10 h5258 w5259 w5260 ⊢) <;> omega))⟩
      · refine sw_ite (fun h5262 => ?_) (fun h5262 => ?_)
        · unfold fX9_packet_50
          refine sw_sh (ci_sh cs7 t_p0 rfl) ?_
          obtain ⟨q13, eq13, tq13⟩ := ci_ref cs7 t_p0 13 (κ' := 63) rfl
          refine sw_onS eq13 ?_
          refine sw_ar (ci_sh cs7 tq13 rfl) ?_
          refine sw_ib (by (try simp only [zp, zo, zq] at w_0 r5194 h5195 xq4 h5256 xq8 xq10 h5258 h5262 ⊢) <;> (try simp only [zz, Int32.reduceToInt, ne_eq] at w_0 r5194 h5195 xq4 h5256 xq8 xq10 h5258 h5262 ⊢) <;> (try simp (disch := omega) only [zb] at w_0 r5194 h5195 xq4 h5256 xq8 xq10 h5258 h5262 ⊢) <;> first | omega | ((try simp (disch := omega) only [zb] at w_0 r5194 h5195 xq4 h5256 xq8 xq10 h5258 h5262 ⊢) <;> omega)) ?_
          refine sw_ib (by (try simp only [zp, zo, zq] at w_0 r5194 h5195 xq4 h5256 xq8 xq10 h5258 h5262 ⊢) <;> (try simp only [zz, Int32.reduceToInt, ne_eq] at w_0 r5194 h5195 xq4 h5256 xq8 xq10 h5258 h5262 ⊢) <;> (try simp (disch := omega) only [zb] at w_0 r5194 h5195 xq4 h5256 xq8 xq10 h5258 h5262 ⊢) <;> first | omega | ((try simp (disch := omega) only [zb] at w_0 r5194 h5195 xq4 h5256 xq8 xq10 h5258 h5262 ⊢) <;> omega)) ?_
          have cs17 := ci_wI cs7 tq13 (j := (0 : Int32).toNatClampNeg) (v := (mm_I s7 q13 (0 : Int32).toNatClampNeg) + 1) (kr_n rfl)
          have fs17 := fr_wI fs7 tq13 (j := (0 : Int32).toNatClampNeg) (v := (mm_I s7 q13 (0 : Int32).toNatClampNeg) + 1) rfl
          refine sw_let (fun s17 es17 => ?_)
          rw [es17] at cs17 fs17
          have w5263 : mm_I s17 p0 0 = mm_I s7 p0 0 := by rw [← es17]; exact rd_k t_p0 tq13 (by decide)
          have w5264 : mm_I s7 p0 0 = mm_I q4.2 p0 0 := by rw [← es7]; exact rd_j (by decide)
          exact sw_some ⟨cs17, fs17, (by (try simp only [zp, zo, zq] at w_0 r5194 h5195 xq4 h5256 xq8 xq10 h5258 h5262 w5263 w5264 ⊢) <;> (try simp only [zz, Int32.reduceToInt, ne_eq] at w_0 r5194 h5195 xq4 h5256 xq8 xq10 h5258 h5262 w5263 w5264 ⊢) <;> (try simp (disch := omega) only [zb] at w_0 r5194 h5195 xq4 h5256 xq8 xq10 h5258 h5262 w5263 w5264 ⊢) <;> first | omega | ((try simp (disch := omega) only [zb] at w_0 r5194 h5195 xq4 h5256 xq8 xq10 h5258 h5262 w5263 w5264 ⊢) <;> omega))⟩
        · have d0 := zi_div (a := q8.1) (by (try simp only [zp, zo, zq] at w_0 r5194 h5195 xq4 h5256 xq8 xq10 h5258 h5262 ⊢) <;> (try simp only [zz, Int32.reduceToInt, ne_eq] at w_0 r5194 h5195 xq4 h5256 xq8 xq10 h5258 h5262 ⊢) <;> (try simp (disch := omega) only [zb] at w_0 r5194 h5195 xq4 h5256 xq8 xq10 h5258 h5262 ⊢) <;> first | omega | ((try simp (disch := omega) only [zb] at w_0 r5194 h5195 xq4 h5256 xq8 xq10 h5258 h5262 ⊢) <;> omega)) 8 (n := 8) rfl (by decide)
          refine sw_ite (fun h5266 => ?_) (fun h5266 => ?_)
          · refine sw_sh (ci_sh cs7 t_p0 rfl) ?_
            have u5267 := su_mag q8.1 (by (try simp only [zp, zo, zq] at w_0 r5194 h5195 xq4 h5256 xq8 xq10 h5258 h5262 d0 h5266 ⊢) <;> (try simp only [zz, Int32.reduceToInt, ne_eq] at w_0 r5194 h5195 xq4 h5256 xq8 xq10 h5258 h5262 d0 h5266 ⊢) <;> (try simp (disch := omega) only [zb] at w_0 r5194 h5195 xq4 h5256 xq8 xq10 h5258 h5262 d0 h5266 ⊢) <;> first | omega | ((try simp (disch := omega) only [zb] at w_0 r5194 h5195 xq4 h5256 xq8 xq10 h5258 h5262 d0 h5266 ⊢) <;> omega))
            have w5268 : mm_I s7 p0 14 = mm_I q4.2 p0 14 := by rw [← es7]; exact rd_j (by decide)
            have w5269 := (gq4.2.2 _ _ t_p0 14 rfl).1
            have r5270 := ci_rg c0 t_p0 14 (lo := 0) (hi := 20) rfl
            have r5271 := ci_rg cq4 t_p0 14 (lo := 0) (hi := 20) rfl
            have r5272 := ci_rg cs7 t_p0 14 (lo := 0) (hi := 20) rfl
            have w5273 : uc s7 p0 = uc q4.2 p0 := by rw [← es7]; exact uc_k cq4 t_p0 t_p0 (by decide)
            have w5274 := uc_fr gq4 c0 t_p0 rfl rfl
            refine sw_on (sX9_header cs7 t_p0 (by (try simp only [zp, zo, zq] at w_0 r5194 h5195 xq4 h5256 xq8 xq10 h5258 h5262 d0 h5266 u5267 w5268 w5269 r5270 r5271 r5272 w5273 w5274 ⊢) <;> (try simp only [zz, Int32.reduceToInt, ne_eq] at w_0 r5194 h5195 xq4 h5256 xq8 xq10 h5258 h5262 d0 h5266 u5267 w5268 w5269 r5270 r5271 r5272 w5273 w5274 ⊢) <;> (try simp (disch := omega) only [zb] at w_0 r5194 h5195 xq4 h5256 xq8 xq10 h5258 h5262 d0 h5266 u5267 w5268 w5269 r5270 r5271 r5272 w5273 w5274 ⊢) <;> first | omega | ((try simp (disch := omega) only [zb] at w_0 r5194 h5195 xq4 h5256 xq8 xq10 h5258 h5262 d0 h5266 u5267 w5268 w5269 r5270 r5271 r5272 w5273 w5274 ⊢) <;> omega)) (by (try simp only [zp, zo, zq] at w_0 r5194 h5195 xq4 h5256 xq8 xq10 h5258 h5262 d0 h5266 u5267 w5268 w5269 r5270 r5271 r5272 w5273 w5274 ⊢) <;> (try simp only [zz, Int32.reduceToInt, ne_eq] at w_0 r5194 h5195 xq4 h5256 xq8 xq10 h5258 h5262 d0 h5266 u5267 w5268 w5269 r5270 r5271 r5272 w5273 w5274 ⊢) <;> (try simp (disch := omega) only [zb] at w_0 r5194 h5195 xq4 h5256 xq8 xq10 h5258 h5262 d0 h5266 u5267 w5268 w5269 r5270 r5271 r5272 w5273 w5274 ⊢) <;> first | omega | ((try simp (disch := omega) only [zb] at w_0 r5194 h5195 xq4 h5256 xq8 xq10 h5258 h5262 d0 h5266 u5267 w5268 w5269 r5270 r5271 r5272 w5273 w5274 ⊢) <;> omega))) ?_
            intro q36 hqq36
            obtain ⟨cq36, gq36, xq36⟩ := hqq36
            have fq36 := fr_trans fs7 gq36 rfl
            have w5275 := (gq36.2.2 _ _ t_p0 0 rfl).1
            have w5276 : mm_I s7 p0 0 = mm_I q4.2 p0 0 := by rw [← es7]; exact rd_j (by decide)
            exact sw_some ⟨cq36, fq36, (by (try simp only [zp, zo, zq] at w_0 r5194 h5195 xq4 h5256 xq8 xq10 h5258 h5262 d0 h5266 u5267 w5268 w5269 r5270 r5271 r5272 w5273 w5274 xq36 w5275 w5276 ⊢) <;> (try simp only [zz, Int32.reduceToInt, ne_eq] at w_0 r5194 h5195 xq4 h5256 xq8 xq10 h5258 h5262 d0 h5266 u5267 w5268 w5269 r5270 r5271 r5272 w5273 w5274 xq36 w5275 w5276 ⊢) <;> (try simp (disch := omega) only [zb] at w_0 r5194 h5195 xq4 h5256 xq8 xq10 h5258 h5262 d0 h5266 u5267 w5268 w5269 r5270 r5271 r5272 w5273 w5274 xq36 w5275 w5276 ⊢) <;> first | omega | ((try simp (disch := omega) only [zb] at w_0 r5194 h5195 xq4 h5256 xq8 xq10 h5258 h5262 d0 h5266 u5267 w5268 w5269 r5270 r5271 r5272 w5273 w5274 xq36 w5275 w5276 ⊢) <;> omega))⟩
          · refine sw_ite (fun h5278 => ?_) (fun h5278 => ?_)
            · unfold fX9_packet_104
              refine sw_sh (ci_sh cs7 t_p0 rfl) ?_
              obtain ⟨q22, eq22, tq22⟩ := ci_ref cs7 t_p0 27 (κ' := 77) rfl
              refine sw_onS eq22 ?_
              refine sw_ar (ci_sh cs7 tq22 rfl) ?_
              have u5279 := su_mag q8.1 (by (try simp only [zp, zo, zq] at w_0 r5194 h5195 xq4 h5256 xq8 xq10 h5258 h5262 d0 h5266 h5278 ⊢) <;> (try simp only [zz, Int32.reduceToInt, ne_eq] at w_0 r5194 h5195 xq4 h5256 xq8 xq10 h5258 h5262 d0 h5266 h5278 ⊢) <;> (try simp (disch := omega) only [zb] at w_0 r5194 h5195 xq4 h5256 xq8 xq10 h5258 h5262 d0 h5266 h5278 ⊢) <;> first | omega | ((try simp (disch := omega) only [zb] at w_0 r5194 h5195 xq4 h5256 xq8 xq10 h5258 h5262 d0 h5266 h5278 ⊢) <;> omega))
              refine sw_ib (by (try simp only [zp, zo, zq] at w_0 r5194 h5195 xq4 h5256 xq8 xq10 h5258 h5262 d0 h5266 h5278 u5279 ⊢) <;> (try simp only [zz, Int32.reduceToInt, ne_eq] at w_0 r5194 h5195 xq4 h5256 xq8 xq10 h5258 h5262 d0 h5266 h5278 u5279 ⊢) <;> (try simp (disch := omega) only [zb] at w_0 r5194 h5195 xq4 h5256 xq8 xq10 h5258 h5262 d0 h5266 h5278 u5279 ⊢) <;> first | omega | ((try simp (disch := omega) only [zb] at w_0 r5194 h5195 xq4 h5256 xq8 xq10 h5258 h5262 d0 h5266 h5278 u5279 ⊢) <;> omega)) ?_
              have w5280 : mm_I s7 q22 ((fX9_mag q8.1).toNatClampNeg) = mm_I q4.2 q22 ((fX9_mag q8.1).toNatClampNeg) := by rw [← es7]; exact rd_k tq22 t_p0 (by decide)
              have w5281 := (gq4.2.2 _ _ tq22 ((fX9_mag q8.1).toNatClampNeg) rfl).1
              have r5282 := ci_rg c0 tq22 ((fX9_mag q8.1).toNatClampNeg) (lo := (-1)) (hi := 19) rfl
              have r5283 := ci_rg cq4 tq22 ((fX9_mag q8.1).toNatClampNeg) (lo := (-1)) (hi := 19) rfl
              have r5284 := ci_rg cs7 tq22 ((fX9_mag q8.1).toNatClampNeg) (lo := (-1)) (hi := 19) rfl
              refine sw_ite (fun h5285 => ?_) (fun h5285 => ?_)
              · obtain ⟨q29, eq29, tq29⟩ := ci_ref cs7 t_p0 13 (κ' := 63) rfl
                refine sw_onS eq29 ?_
                refine sw_ar (ci_sh cs7 tq29 rfl) ?_
                refine sw_ib (by (try simp only [zp, zo, zq] at w_0 r5194 h5195 xq4 h5256 xq8 xq10 h5258 h5262 d0 h5266 h5278 u5279 w5280 w5281 r5282 r5283 r5284 h5285 ⊢) <;> (try simp only [zz, Int32.reduceToInt, ne_eq] at w_0 r5194 h5195 xq4 h5256 xq8 xq10 h5258 h5262 d0 h5266 h5278 u5279 w5280 w5281 r5282 r5283 r5284 h5285 ⊢) <;> (try simp (disch := omega) only [zb] at w_0 r5194 h5195 xq4 h5256 xq8 xq10 h5258 h5262 d0 h5266 h5278 u5279 w5280 w5281 r5282 r5283 r5284 h5285 ⊢) <;> first | omega | ((try simp (disch := omega) only [zb] at w_0 r5194 h5195 xq4 h5256 xq8 xq10 h5258 h5262 d0 h5266 h5278 u5279 w5280 w5281 r5282 r5283 r5284 h5285 ⊢) <;> omega)) ?_
                refine sw_ib (by (try simp only [zp, zo, zq] at w_0 r5194 h5195 xq4 h5256 xq8 xq10 h5258 h5262 d0 h5266 h5278 u5279 w5280 w5281 r5282 r5283 r5284 h5285 ⊢) <;> (try simp only [zz, Int32.reduceToInt, ne_eq] at w_0 r5194 h5195 xq4 h5256 xq8 xq10 h5258 h5262 d0 h5266 h5278 u5279 w5280 w5281 r5282 r5283 r5284 h5285 ⊢) <;> (try simp (disch := omega) only [zb] at w_0 r5194 h5195 xq4 h5256 xq8 xq10 h5258 h5262 d0 h5266 h5278 u5279 w5280 w5281 r5282 r5283 r5284 h5285 ⊢) <;> first | omega | ((try simp (disch := omega) only [zb] at w_0 r5194 h5195 xq4 h5256 xq8 xq10 h5258 h5262 d0 h5266 h5278 u5279 w5280 w5281 r5282 r5283 r5284 h5285 ⊢) <;> omega)) ?_
                have cs33 := ci_wI cs7 tq29 (j := (2 : Int32).toNatClampNeg) (v := (mm_I s7 q29 (2 : Int32).toNatClampNeg) + 1) (kr_n rfl)
                have fs33 := fr_wI fs7 tq29 (j := (2 : Int32).toNatClampNeg) (v := (mm_I s7 q29 (2 : Int32).toNatClampNeg) + 1) rfl
                refine sw_let (fun s33 es33 => ?_)
                rw [es33] at cs33 fs33
                have w5286 : mm_I s33 p0 0 = mm_I s7 p0 0 := by rw [← es33]; exact rd_k t_p0 tq29 (by decide)
                have w5287 : mm_I s7 p0 0 = mm_I q4.2 p0 0 := by rw [← es7]; exact rd_j (by decide)
                exact sw_some ⟨cs33, fs33, (by (try simp only [zp, zo, zq] at w_0 r5194 h5195 xq4 h5256 xq8 xq10 h5258 h5262 d0 h5266 h5278 u5279 w5280 w5281 r5282 r5283 r5284 h5285 w5286 w5287 ⊢) <;> (try simp only [zz, Int32.reduceToInt, ne_eq] at w_0 r5194 h5195 xq4 h5256 xq8 xq10 h5258 h5262 d0 h5266 h5278 u5279 w5280 w5281 r5282 r5283 r5284 h5285 w5286 w5287 ⊢) <;> (try simp (disch := omega) only [zb] at w_0 r5194 h5195 xq4 h5256 xq8 xq10 h5258 h5262 d0 h5266 h5278 u5279 w5280 w5281 r5282 r5283 r5284 h5285 w5286 w5287 ⊢) <;> first | omega | ((try simp (disch := omega) only [zb] at w_0 r5194 h5195 xq4 h5256 xq8 xq10 h5258 h5262 d0 h5266 h5278 u5279 w5280 w5281 r5282 r5283 r5284 h5285 w5286 w5287 ⊢) <;> omega))⟩
              · refine sw_ite (fun h5289 => ?_) (fun h5289 => ?_)
                · refine sw_on (sX9_linkPacket cs7 t_p0 (by (try simp only [zp, zo, zq] at w_0 r5194 h5195 xq4 h5256 xq8 xq10 h5258 h5262 d0 h5266 h5278 u5279 w5280 w5281 r5282 r5283 r5284 h5285 h5289 ⊢) <;> (try simp only [zz, Int32.reduceToInt, ne_eq] at w_0 r5194 h5195 xq4 h5256 xq8 xq10 h5258 h5262 d0 h5266 h5278 u5279 w5280 w5281 r5282 r5283 r5284 h5285 h5289 ⊢) <;> (try simp (disch := omega) only [zb] at w_0 r5194 h5195 xq4 h5256 xq8 xq10 h5258 h5262 d0 h5266 h5278 u5279 w5280 w5281 r5282 r5283 r5284 h5285 h5289 ⊢) <;> first | omega | ((try simp (disch := omega) only [zb] at w_0 r5194 h5195 xq4 h5256 xq8 xq10 h5258 h5262 d0 h5266 h5278 u5279 w5280 w5281 r5282 r5283 r5284 h5285 h5289 ⊢) <;> omega)) ) ?_
                  intro q28 hqq28
                  obtain ⟨cq28, gq28, xq28⟩ := hqq28
                  have fq28 := fr_trans fs7 gq28 rfl
                  have w5290 := (gq28.2.2 _ _ t_p0 0 rfl).1
                  have w5291 : mm_I s7 p0 0 = mm_I q4.2 p0 0 := by rw [← es7]; exact rd_j (by decide)
                  exact sw_some ⟨cq28, fq28, (by (try simp only [zp, zo, zq] at w_0 r5194 h5195 xq4 h5256 xq8 xq10 h5258 h5262 d0 h5266 h5278 u5279 w5280 w5281 r5282 r5283 r5284 h5285 h5289 w5290 w5291 ⊢) <;> (try simp only [zz, Int32.reduceToInt, ne_eq] at w_0 r5194 h5195 xq4 h5256 xq8 xq10 h5258 h5262 d0 h5266 h5278 u5279 w5280 w5281 r5282 r5283 r5284 h5285 h5289 w5290 w5291 ⊢) <;> (try simp (disch := omega) only [zb] at w_0 r5194 h5195 xq4 h5256 xq8 xq10 h5258 h5262 d0 h5266 h5278 u5279 w5280 w5281 r5282 r5283 r5284 h5285 h5289 w5290 w5291 ⊢) <;> first | omega | ((try simp (disch := omega) only [zb] at w_0 r5194 h5195 xq4 h5256 xq8 xq10 h5258 h5262 d0 h5266 h5278 u5279 w5280 w5281 r5282 r5283 r5284 h5285 h5289 w5290 w5291 ⊢) <;> omega))⟩
                · refine sw_on (sX9_text cs7 t_p0 (by (try simp only [zp, zo, zq] at w_0 r5194 h5195 xq4 h5256 xq8 xq10 h5258 h5262 d0 h5266 h5278 u5279 w5280 w5281 r5282 r5283 r5284 h5285 h5289 ⊢) <;> (try simp only [zz, Int32.reduceToInt, ne_eq] at w_0 r5194 h5195 xq4 h5256 xq8 xq10 h5258 h5262 d0 h5266 h5278 u5279 w5280 w5281 r5282 r5283 r5284 h5285 h5289 ⊢) <;> (try simp (disch := omega) only [zb] at w_0 r5194 h5195 xq4 h5256 xq8 xq10 h5258 h5262 d0 h5266 h5278 u5279 w5280 w5281 r5282 r5283 r5284 h5285 h5289 ⊢) <;> first | omega | ((try simp (disch := omega) only [zb] at w_0 r5194 h5195 xq4 h5256 xq8 xq10 h5258 h5262 d0 h5266 h5278 u5279 w5280 w5281 r5282 r5283 r5284 h5285 h5289 ⊢) <;> omega)) (by (try simp only [zp, zo, zq] at w_0 r5194 h5195 xq4 h5256 xq8 xq10 h5258 h5262 d0 h5266 h5278 u5279 w5280 w5281 r5282 r5283 r5284 h5285 h5289 ⊢) <;> (try simp only [zz, Int32.reduceToInt, ne_eq] at w_0 r5194 h5195 xq4 h5256 xq8 xq10 h5258 h5262 d0 h5266 h5278 u5279 w5280 w5281 r5282 r5283 r5284 h5285 h5289 ⊢) <;> (try simp (disch := omega) only [zb] at w_0 r5194 h5195 xq4 h5256 xq8 xq10 h5258 h5262 d0 h5266 h5278 u5279 w5280 w5281 r5282 r5283 r5284 h5285 h5289 ⊢) <;> first | omega | ((try simp (disch := omega) only [zb] at w_0 r5194 h5195 xq4 h5256 xq8 xq10 h5258 h5262 d0 h5266 h5278 u5279 w5280 w5281 r5282 r5283 r5284 h5285 h5289 ⊢) <;> omega)) (by (try simp only [zp, zo, zq] at w_0 r5194 h5195 xq4 h5256 xq8 xq10 h5258 h5262 d0 h5266 h5278 u5279 w5280 w5281 r5282 r5283 r5284 h5285 h5289 ⊢) <;> (try simp only [zz, Int32.reduceToInt, ne_eq] at w_0 r5194 h5195 xq4 h5256 xq8 xq10 h5258 h5262 d0 h5266 h5278 u5279 w5280 w5281 r5282 r5283 r5284 h5285 h5289 ⊢) <;> (try simp (disch := omega) only [zb] at w_0 r5194 h5195 xq4 h5256 xq8 xq10 h5258 h5262 d0 h5266 h5278 u5279 w5280 w5281 r5282 r5283 r5284 h5285 h5289 ⊢) <;> first | omega | ((try simp (disch := omega) only [zb] at w_0 r5194 h5195 xq4 h5256 xq8 xq10 h5258 h5262 d0 h5266 h5278 u5279 w5280 w5281 r5282 r5283 r5284 h5285 h5289 ⊢) <;> omega)) (by (try simp only [zp, zo, zq] at w_0 r5194 h5195 xq4 h5256 xq8 xq10 h5258 h5262 d0 h5266 h5278 u5279 w5280 w5281 r5282 r5283 r5284 h5285 h5289 ⊢) <;> (try simp only [zz, Int32.reduceToInt, ne_eq] at w_0 r5194 h5195 xq4 h5256 xq8 xq10 h5258 h5262 d0 h5266 h5278 u5279 w5280 w5281 r5282 r5283 r5284 h5285 h5289 ⊢) <;> (try simp (disch := omega) only [zb] at w_0 r5194 h5195 xq4 h5256 xq8 xq10 h5258 h5262 d0 h5266 h5278 u5279 w5280 w5281 r5282 r5283 r5284 h5285 h5289 ⊢) <;> first | omega | ((try simp (disch := omega) only [zb] at w_0 r5194 h5195 xq4 h5256 xq8 xq10 h5258 h5262 d0 h5266 h5278 u5279 w5280 w5281 r5282 r5283 r5284 h5285 h5289 ⊢) <;> omega)) ) ?_
                  intro q27 hqq27
                  obtain ⟨cq27, gq27, xq27⟩ := hqq27
                  have fq27 := fr_trans fs7 gq27 rfl
                  have w5293 := (gq27.2.2 _ _ t_p0 0 rfl).1
                  have w5294 : mm_I s7 p0 0 = mm_I q4.2 p0 0 := by rw [← es7]; exact rd_j (by decide)
                  exact sw_some ⟨cq27, fq27, (by (try simp only [zp, zo, zq] at w_0 r5194 h5195 xq4 h5256 xq8 xq10 h5258 h5262 d0 h5266 h5278 u5279 w5280 w5281 r5282 r5283 r5284 h5285 h5289 w5293 w5294 ⊢) <;> (try simp only [zz, Int32.reduceToInt, ne_eq] at w_0 r5194 h5195 xq4 h5256 xq8 xq10 h5258 h5262 d0 h5266 h5278 u5279 w5280 w5281 r5282 r5283 r5284 h5285 h5289 w5293 w5294 ⊢) <;> (try simp (disch := omega) only [zb] at w_0 r5194 h5195 xq4 h5256 xq8 xq10 h5258 h5262 d0 h5266 h5278 u5279 w5280 w5281 r5282 r5283 r5284 h5285 h5289 w5293 w5294 ⊢) <;> first | omega | ((try simp (disch := omega) only [zb] at w_0 r5194 h5195 xq4 h5256 xq8 xq10 h5258 h5262 d0 h5266 h5278 u5279 w5280 w5281 r5282 r5283 r5284 h5285 h5289 w5293 w5294 ⊢) <;> omega))⟩
            · refine sw_ite (fun h5296 => ?_) (fun h5296 => ?_)
              · unfold fX9_packet_104
                refine sw_sh (ci_sh cs7 t_p0 rfl) ?_
                obtain ⟨q22, eq22, tq22⟩ := ci_ref cs7 t_p0 27 (κ' := 77) rfl
                refine sw_onS eq22 ?_
                refine sw_ar (ci_sh cs7 tq22 rfl) ?_
                have u5297 := su_mag q8.1 (by (try simp only [zp, zo, zq] at w_0 r5194 h5195 xq4 h5256 xq8 xq10 h5258 h5262 d0 h5266 h5278 h5296 ⊢) <;> (try simp only [zz, Int32.reduceToInt, ne_eq] at w_0 r5194 h5195 xq4 h5256 xq8 xq10 h5258 h5262 d0 h5266 h5278 h5296 ⊢) <;> (try simp (disch := omega) only [zb] at w_0 r5194 h5195 xq4 h5256 xq8 xq10 h5258 h5262 d0 h5266 h5278 h5296 ⊢) <;> first | omega | ((try simp (disch := omega) only [zb] at w_0 r5194 h5195 xq4 h5256 xq8 xq10 h5258 h5262 d0 h5266 h5278 h5296 ⊢) <;> omega))
                refine sw_ib (by (try simp only [zp, zo, zq] at w_0 r5194 h5195 xq4 h5256 xq8 xq10 h5258 h5262 d0 h5266 h5278 h5296 u5297 ⊢) <;> (try simp only [zz, Int32.reduceToInt, ne_eq] at w_0 r5194 h5195 xq4 h5256 xq8 xq10 h5258 h5262 d0 h5266 h5278 h5296 u5297 ⊢) <;> (try simp (disch := omega) only [zb] at w_0 r5194 h5195 xq4 h5256 xq8 xq10 h5258 h5262 d0 h5266 h5278 h5296 u5297 ⊢) <;> first | omega | ((try simp (disch := omega) only [zb] at w_0 r5194 h5195 xq4 h5256 xq8 xq10 h5258 h5262 d0 h5266 h5278 h5296 u5297 ⊢) <;> omega)) ?_
                have w5298 : mm_I s7 q22 ((fX9_mag q8.1).toNatClampNeg) = mm_I q4.2 q22 ((fX9_mag q8.1).toNatClampNeg) := by rw [← es7]; exact rd_k tq22 t_p0 (by decide)
                have w5299 := (gq4.2.2 _ _ tq22 ((fX9_mag q8.1).toNatClampNeg) rfl).1
                have r5300 := ci_rg c0 tq22 ((fX9_mag q8.1).toNatClampNeg) (lo := (-1)) (hi := 19) rfl
                have r5301 := ci_rg cq4 tq22 ((fX9_mag q8.1).toNatClampNeg) (lo := (-1)) (hi := 19) rfl
                have r5302 := ci_rg cs7 tq22 ((fX9_mag q8.1).toNatClampNeg) (lo := (-1)) (hi := 19) rfl
                refine sw_ite (fun h5303 => ?_) (fun h5303 => ?_)
                · obtain ⟨q29, eq29, tq29⟩ := ci_ref cs7 t_p0 13 (κ' := 63) rfl
                  refine sw_onS eq29 ?_
                  refine sw_ar (ci_sh cs7 tq29 rfl) ?_
                  refine sw_ib (by (try simp only [zp, zo, zq] at w_0 r5194 h5195 xq4 h5256 xq8 xq10 h5258 h5262 d0 h5266 h5278 h5296 u5297 w5298 w5299 r5300 r5301 r5302 h5303 ⊢) <;> (try simp only [zz, Int32.reduceToInt, ne_eq] at w_0 r5194 h5195 xq4 h5256 xq8 xq10 h5258 h5262 d0 h5266 h5278 h5296 u5297 w5298 w5299 r5300 r5301 r5302 h5303 ⊢) <;> (try simp (disch := omega) only [zb] at w_0 r5194 h5195 xq4 h5256 xq8 xq10 h5258 h5262 d0 h5266 h5278 h5296 u5297 w5298 w5299 r5300 r5301 r5302 h5303 ⊢) <;> first | omega | ((try simp (disch := omega) only [zb] at w_0 r5194 h5195 xq4 h5256 xq8 xq10 h5258 h5262 d0 h5266 h5278 h5296 u5297 w5298 w5299 r5300 r5301 r5302 h5303 ⊢) <;> omega)) ?_
                  refine sw_ib (by (try simp only [zp, zo, zq] at w_0 r5194 h5195 xq4 h5256 xq8 xq10 h5258 h5262 d0 h5266 h5278 h5296 u5297 w5298 w5299 r5300 r5301 r5302 h5303 ⊢) <;> (try simp only [zz, Int32.reduceToInt, ne_eq] at w_0 r5194 h5195 xq4 h5256 xq8 xq10 h5258 h5262 d0 h5266 h5278 h5296 u5297 w5298 w5299 r5300 r5301 r5302 h5303 ⊢) <;> (try simp (disch := omega) only [zb] at w_0 r5194 h5195 xq4 h5256 xq8 xq10 h5258 h5262 d0 h5266 h5278 h5296 u5297 w5298 w5299 r5300 r5301 r5302 h5303 ⊢) <;> first | omega | ((try simp (disch := omega) only [zb] at w_0 r5194 h5195 xq4 h5256 xq8 xq10 h5258 h5262 d0 h5266 h5278 h5296 u5297 w5298 w5299 r5300 r5301 r5302 h5303 ⊢) <;> omega)) ?_
                  have cs33 := ci_wI cs7 tq29 (j := (2 : Int32).toNatClampNeg) (v := (mm_I s7 q29 (2 : Int32).toNatClampNeg) + 1) (kr_n rfl)
                  have fs33 := fr_wI fs7 tq29 (j := (2 : Int32).toNatClampNeg) (v := (mm_I s7 q29 (2 : Int32).toNatClampNeg) + 1) rfl
                  refine sw_let (fun s33 es33 => ?_)
                  rw [es33] at cs33 fs33
                  have w5304 : mm_I s33 p0 0 = mm_I s7 p0 0 := by rw [← es33]; exact rd_k t_p0 tq29 (by decide)
                  have w5305 : mm_I s7 p0 0 = mm_I q4.2 p0 0 := by rw [← es7]; exact rd_j (by decide)
                  exact sw_some ⟨cs33, fs33, (by (try simp only [zp, zo, zq] at w_0 r5194 h5195 xq4 h5256 xq8 xq10 h5258 h5262 d0 h5266 h5278 h5296 u5297 w5298 w5299 r5300 r5301 r5302 h5303 w5304 w5305 ⊢) <;> (try simp only [zz, Int32.reduceToInt, ne_eq] at w_0 r5194 h5195 xq4 h5256 xq8 xq10 h5258 h5262 d0 h5266 h5278 h5296 u5297 w5298 w5299 r5300 r5301 r5302 h5303 w5304 w5305 ⊢) <;> (try simp (disch := omega) only [zb] at w_0 r5194 h5195 xq4 h5256 xq8 xq10 h5258 h5262 d0 h5266 h5278 h5296 u5297 w5298 w5299 r5300 r5301 r5302 h5303 w5304 w5305 ⊢) <;> first | omega | ((try simp (disch := omega) only [zb] at w_0 r5194 h5195 xq4 h5256 xq8 xq10 h5258 h5262 d0 h5266 h5278 h5296 u5297 w5298 w5299 r5300 r5301 r5302 h5303 w5304 w5305 ⊢) <;> omega))⟩
                · refine sw_ite (fun h5307 => ?_) (fun h5307 => ?_)
                  · refine sw_on (sX9_linkPacket cs7 t_p0 (by (try simp only [zp, zo, zq] at w_0 r5194 h5195 xq4 h5256 xq8 xq10 h5258 h5262 d0 h5266 h5278 h5296 u5297 w5298 w5299 r5300 r5301 r5302 h5303 h5307 ⊢) <;> (try simp only [zz, Int32.reduceToInt, ne_eq] at w_0 r5194 h5195 xq4 h5256 xq8 xq10 h5258 h5262 d0 h5266 h5278 h5296 u5297 w5298 w5299 r5300 r5301 r5302 h5303 h5307 ⊢) <;> (try simp (disch := omega) only [zb] at w_0 r5194 h5195 xq4 h5256 xq8 xq10 h5258 h5262 d0 h5266 h5278 h5296 u5297 w5298 w5299 r5300 r5301 r5302 h5303 h5307 ⊢) <;> first | omega | ((try simp (disch := omega) only [zb] at w_0 r5194 h5195 xq4 h5256 xq8 xq10 h5258 h5262 d0 h5266 h5278 h5296 u5297 w5298 w5299 r5300 r5301 r5302 h5303 h5307 ⊢) <;> omega)) ) ?_
                    intro q28 hqq28
                    obtain ⟨cq28, gq28, xq28⟩ := hqq28
                    have fq28 := fr_trans fs7 gq28 rfl
                    have w5308 := (gq28.2.2 _ _ t_p0 0 rfl).1
                    have w5309 : mm_I s7 p0 0 = mm_I q4.2 p0 0 := by rw [← es7]; exact rd_j (by decide)
                    exact sw_some ⟨cq28, fq28, (by (try simp only [zp, zo, zq] at w_0 r5194 h5195 xq4 h5256 xq8 xq10 h5258 h5262 d0 h5266 h5278 h5296 u5297 w5298 w5299 r5300 r5301 r5302 h5303 h5307 w5308 w5309 ⊢) <;> (try simp only [zz, Int32.reduceToInt, ne_eq] at w_0 r5194 h5195 xq4 h5256 xq8 xq10 h5258 h5262 d0 h5266 h5278 h5296 u5297 w5298 w5299 r5300 r5301 r5302 h5303 h5307 w5308 w5309 ⊢) <;> (try simp (disch := omega) only [zb] at w_0 r5194 h5195 xq4 h5256 xq8 xq10 h5258 h5262 d0 h5266 h5278 h5296 u5297 w5298 w5299 r5300 r5301 r5302 h5303 h5307 w5308 w5309 ⊢) <;> first | omega | ((try simp (disch := omega) only [zb] at w_0 r5194 h5195 xq4 h5256 xq8 xq10 h5258 h5262 d0 h5266 h5278 h5296 u5297 w5298 w5299 r5300 r5301 r5302 h5303 h5307 w5308 w5309 ⊢) <;> omega))⟩
                  · refine sw_on (sX9_text cs7 t_p0 (by (try simp only [zp, zo, zq] at w_0 r5194 h5195 xq4 h5256 xq8 xq10 h5258 h5262 d0 h5266 h5278 h5296 u5297 w5298 w5299 r5300 r5301 r5302 h5303 h5307 ⊢) <;> (try simp only [zz, Int32.reduceToInt, ne_eq] at w_0 r5194 h5195 xq4 h5256 xq8 xq10 h5258 h5262 d0 h5266 h5278 h5296 u5297 w5298 w5299 r5300 r5301 r5302 h5303 h5307 ⊢) <;> (try simp (disch := omega) only [zb] at w_0 r5194 h5195 xq4 h5256 xq8 xq10 h5258 h5262 d0 h5266 h5278 h5296 u5297 w5298 w5299 r5300 r5301 r5302 h5303 h5307 ⊢) <;> first | omega | ((try simp (disch := omega) only [zb] at w_0 r5194 h5195 xq4 h5256 xq8 xq10 h5258 h5262 d0 h5266 h5278 h5296 u5297 w5298 w5299 r5300 r5301 r5302 h5303 h5307 ⊢) <;> omega)) (by (try simp only [zp, zo, zq] at w_0 r5194 h5195 xq4 h5256 xq8 xq10 h5258 h5262 d0 h5266 h5278 h5296 u5297 w5298 w5299 r5300 r5301 r5302 h5303 h5307 ⊢) <;> (try simp only [zz, Int32.reduceToInt, ne_eq] at w_0 r5194 h5195 xq4 h5256 xq8 xq10 h5258 h5262 d0 h5266 h5278 h5296 u5297 w5298 w5299 r5300 r5301 r5302 h5303 h5307 ⊢) <;> (try simp (disch := omega) only [zb] at w_0 r5194 h5195 xq4 h5256 xq8 xq10 h5258 h5262 d0 h5266 h5278 h5296 u5297 w5298 w5299 r5300 r5301 r5302 h5303 h5307 ⊢) <;> first | omega | ((try simp (disch := omega) only [zb] at w_0 r5194 h5195 xq4 h5256 xq8 xq10 h5258 h5262 d0 h5266 h5278 h5296 u5297 w5298 w5299 r5300 r5301 r5302 h5303 h5307 ⊢) <;> omega)) (by (try simp only [zp, zo, zq] at w_0 r5194 h5195 xq4 h5256 xq8 xq10 h5258 h5262 d0 h5266 h5278 h5296 u5297 w5298 w5299 r5300 r5301 r5302 h5303 h5307 ⊢) <;> (try simp only [zz, Int32.reduceToInt, ne_eq] at w_0 r5194 h5195 xq4 h5256 xq8 xq10 h5258 h5262 d0 h5266 h5278 h5296 u5297 w5298 w5299 r5300 r5301 r5302 h5303 h5307 ⊢) <;> (try simp (disch := omega) only [zb] at w_0 r5194 h5195 xq4 h5256 xq8 xq10 h5258 h5262 d0 h5266 h5278 h5296 u5297 w5298 w5299 r5300 r5301 r5302 h5303 h5307 ⊢) <;> first | omega | ((try simp (disch := omega) only [zb] at w_0 r5194 h5195 xq4 h5256 xq8 xq10 h5258 h5262 d0 h5266 h5278 h5296 u5297 w5298 w5299 r5300 r5301 r5302 h5303 h5307 ⊢) <;> omega)) (by (try simp only [zp, zo, zq] at w_0 r5194 h5195 xq4 h5256 xq8 xq10 h5258 h5262 d0 h5266 h5278 h5296 u5297 w5298 w5299 r5300 r5301 r5302 h5303 h5307 ⊢) <;> (try simp only [zz, Int32.reduceToInt, ne_eq] at w_0 r5194 h5195 xq4 h5256 xq8 xq10 h5258 h5262 d0 h5266 h5278 h5296 u5297 w5298 w5299 r5300 r5301 r5302 h5303 h5307 ⊢) <;> (try simp (disch := omega) only [zb] at w_0 r5194 h5195 xq4 h5256 xq8 xq10 h5258 h5262 d0 h5266 h5278 h5296 u5297 w5298 w5299 r5300 r5301 r5302 h5303 h5307 ⊢) <;> first | omega | ((try simp (disch := omega) only [zb] at w_0 r5194 h5195 xq4 h5256 xq8 xq10 h5258 h5262 d0 h5266 h5278 h5296 u5297 w5298 w5299 r5300 r5301 r5302 h5303 h5307 ⊢) <;> omega)) ) ?_
                    intro q27 hqq27
                    obtain ⟨cq27, gq27, xq27⟩ := hqq27
                    have fq27 := fr_trans fs7 gq27 rfl
                    have w5311 := (gq27.2.2 _ _ t_p0 0 rfl).1
                    have w5312 : mm_I s7 p0 0 = mm_I q4.2 p0 0 := by rw [← es7]; exact rd_j (by decide)
                    exact sw_some ⟨cq27, fq27, (by (try simp only [zp, zo, zq] at w_0 r5194 h5195 xq4 h5256 xq8 xq10 h5258 h5262 d0 h5266 h5278 h5296 u5297 w5298 w5299 r5300 r5301 r5302 h5303 h5307 w5311 w5312 ⊢) <;> (try simp only [zz, Int32.reduceToInt, ne_eq] at w_0 r5194 h5195 xq4 h5256 xq8 xq10 h5258 h5262 d0 h5266 h5278 h5296 u5297 w5298 w5299 r5300 r5301 r5302 h5303 h5307 w5311 w5312 ⊢) <;> (try simp (disch := omega) only [zb] at w_0 r5194 h5195 xq4 h5256 xq8 xq10 h5258 h5262 d0 h5266 h5278 h5296 u5297 w5298 w5299 r5300 r5301 r5302 h5303 h5307 w5311 w5312 ⊢) <;> first | omega | ((try simp (disch := omega) only [zb] at w_0 r5194 h5195 xq4 h5256 xq8 xq10 h5258 h5262 d0 h5266 h5278 h5296 u5297 w5298 w5299 r5300 r5301 r5302 h5303 h5307 w5311 w5312 ⊢) <;> omega))⟩
              · have w5314 : mm_I s7 p0 0 = mm_I q4.2 p0 0 := by rw [← es7]; exact rd_j (by decide)
                exact sw_some ⟨cs7, fs7, (by (try simp only [zp, zo, zq] at w_0 r5194 h5195 xq4 h5256 xq8 xq10 h5258 h5262 d0 h5266 h5278 h5296 w5314 ⊢) <;> (try simp only [zz, Int32.reduceToInt, ne_eq] at w_0 r5194 h5195 xq4 h5256 xq8 xq10 h5258 h5262 d0 h5266 h5278 h5296 w5314 ⊢) <;> (try simp (disch := omega) only [zb] at w_0 r5194 h5195 xq4 h5256 xq8 xq10 h5258 h5262 d0 h5266 h5278 h5296 w5314 ⊢) <;> first | omega | ((try simp (disch := omega) only [zb] at w_0 r5194 h5195 xq4 h5256 xq8 xq10 h5258 h5262 d0 h5266 h5278 h5296 w5314 ⊢) <;> omega))⟩
/-! the value of a byte of the tape, packet's answer -/
def vl (x : Int32) : Int32 := match fX8_mend (x &&& 255) mm_e0 with
  | some r => if r.1 = -1 then -1 else r.1 &&& 15
  | none => -1
theorem vl_at (x : Int32) : ∃ v, (∀ σ τ : mm_M, fX8_mend (x &&& 255) σ = some (v, σ) ∧ fX9_guard x τ = some (v, τ)) ∧ vl x = if v = -1 then -1 else v &&& 15 := by
  obtain ⟨v, hv⟩ := po_guardedA x
  refine ⟨v, hv, ?_⟩
  unfold vl
  rw [(hv mm_e0 mm_e0).1]
theorem vl_255 (x : Int32) : vl (x &&& 255) = vl x := by
  unfold vl; rw [za_255]
section VAL
variable {T : Nat → Option Nat} {σ : mm_M} {p0 : Nat}
theorem pX8_valueAt {p1 : Int32} (hp : 0 ≤ p1.toInt ∧ p1.toInt < 42) (hb : rdA σ p0 3 p1.toNatClampNeg &&& 255 = rdA σ p0 3 p1.toNatClampNeg) : pw (fX8_valueAt p0 p1 σ) (fun R => R = (vl (rdA σ p0 3 p1.toNatClampNeg), σ)) := by
  unfold fX8_valueAt
  have ho : (fX8_isOutside p1 42) = 0 := by rw [zp.1]; exact ⟨hp.1, by simp only [Int32.reduceToInt]; omega⟩
  rw [if_pos ho]
  refine pw_sh fun _ => pw_on fun q e => pw_ar fun n _ => pw_ib fun _ _ => ?_
  rw [rdA_eq e] at hb ⊢
  obtain ⟨v, hv, ev⟩ := vl_at (mm_I σ q p1.toNatClampNeg)
  have h1 := (hv σ σ).1
  rw [hb] at h1
  refine pw_onS h1 ?_
  rw [ev]
  refine pw_ite (fun h => pw_some ?_) (fun h => pw_some ?_)
  · rw [if_pos h]
  · rw [if_neg h]
theorem pX9_value {p1 : Int32} : pw (fX9_value p0 p1 σ) (fun R => R = (vl (rdA σ p0 11 p1.toNatClampNeg), σ)) := by
  unfold fX9_value
  refine pw_sh fun _ => pw_on fun q e => pw_ar fun n _ => pw_ib fun _ _ => ?_
  rw [rdA_eq e]
  obtain ⟨v, hv, ev⟩ := vl_at (mm_I σ q p1.toNatClampNeg)
  refine pw_onS (hv σ σ).2 ?_
  rw [ev]
  refine pw_ite (fun h => pw_some ?_) (fun h => pw_some ?_)
  · rw [if_pos h]
  · rw [if_neg h]
/-- packet's answer, from the values of the first two bytes -/
def pka (x y : Int32) : Int32 := if vl x = -1 ∨ vl y = -1 then -1 else vl x / 8 + 2 * vl y
theorem pka_255 (x y : Int32) : pka (x &&& 255) (y &&& 255) = pka x y := by unfold pka; rw [vl_255, vl_255]
theorem pX8_packet (c : sCI T σ) (t : T p0 = some 8) (hl : 42 ≤ (mm_I σ p0 4).toInt) (hb : ∀ j, rdA σ p0 3 j &&& 255 = rdA σ p0 3 j) : pw (fX8_packet p0 σ) (fun R => R.1 = some (pka (rdA σ p0 3 0) (rdA σ p0 3 1))) := by
  have k : ∀ j, rdA (mm_wI σ p0 4 0) p0 3 j = rdA σ p0 3 j := fun j => rdA_k c t (κ' := 13) rfl t (by decide)
  unfold fX8_packet
  refine pw_sh fun _ => pw_ite (fun _ => pw_let ?_) (fun h => ?_)
  · refine pw_onP (pX8_valueAt (by decide) (by rw [k]; exact hb _)) fun q4 e4 => pw_sh fun _ => ?_
    subst e4
    refine pw_onP (pX8_valueAt (by decide) (by rw [k]; exact hb _)) fun q6 e6 => ?_
    subst e6
    rw [k, k]
    show pw (if vl (rdA σ p0 3 0) = -1 then _ else if vl (rdA σ p0 3 1) = -1 then _ else _) _
    unfold pka fX8_packet_46
    refine pw_ite (fun h1 => ?_) (fun h1 => pw_ite (fun h2 => ?_) (fun h2 => ?_))
    · refine pw_sh fun _ => pw_on fun q9 e9 => pw_ar fun n _ => pw_ib fun _ _ => pw_ib fun _ _ => pw_let (pw_some ?_)
      rw [if_pos (Or.inl h1)]
    · refine pw_sh fun _ => pw_on fun q9 e9 => pw_ar fun n _ => pw_ib fun _ _ => pw_ib fun _ _ => pw_let (pw_some ?_)
      rw [if_pos (Or.inr h2)]
    · refine pw_sh fun _ => pw_on fun q16 _ => pw_some ?_
      rw [if_neg (fun h => h.elim h1 h2)]
      rfl
  · exfalso
    rw [zi_le] at h
    simp only [Int32.reduceToInt] at h
    omega
theorem pX9_packet (c : sCI T σ) (t : T p0 = some 9) (hl : 42 ≤ (mm_I σ p0 12).toInt) : pw (fX9_packet p0 σ) (fun R => R.1 = pka (rdA σ p0 11 0) (rdA σ p0 11 1)) := by
  unfold fX9_packet
  refine pw_sh fun _ => pw_ite (fun h => ?_) (fun h => ?_)
  · exfalso
    rw [zi_lt] at h
    simp only [Int32.reduceToInt] at h
    omega
  · unfold fX9_packet_15
    refine pw_sh fun _ => pw_onP (sX9_goes (p1 := 1) c t (by decide)).p fun q4 ⟨c4, f4, r4⟩ => ?_
    rw [if_neg (by rw [r4]; decide)]
    have k : ∀ j, rdA (mm_wI q4.2 p0 12 0) p0 11 j = rdA σ p0 11 j := fun j => (rdA_k c4 t (κ' := 61) rfl t (by decide)).trans (rdA_fr f4 c t (κ' := 61) rfl rfl rfl)
    refine pw_sh fun _ => pw_let ?_
    refine pw_onP pX9_value fun q8 e8 => pw_sh fun _ => ?_
    subst e8
    refine pw_onP pX9_value fun q10 e10 => ?_
    subst e10
    rw [k, k]
    show pw (if vl (rdA σ p0 11 0) = -1 then _ else if vl (rdA σ p0 11 1) = -1 then _ else _) _
    unfold fX9_packet_50 fX9_packet_104
    refine pw_ite (fun h1 => ?_) (fun h1 => pw_ite (fun h2 => ?_) (fun h2 => ?_))
    · have hk : pka (rdA σ p0 11 0) (rdA σ p0 11 1) = -1 := if_pos (Or.inl h1)
      exact pw_sh fun _ => pw_on fun q9 e9 => pw_ar fun n _ => pw_ib fun _ _ => pw_ib fun _ _ => pw_let (pw_some hk.symm)
    · have hk : pka (rdA σ p0 11 0) (rdA σ p0 11 1) = -1 := if_pos (Or.inr h2)
      exact pw_sh fun _ => pw_on fun q9 e9 => pw_ar fun n _ => pw_ib fun _ _ => pw_ib fun _ _ => pw_let (pw_some hk.symm)
    · have hk : pka (rdA σ p0 11 0) (rdA σ p0 11 1) = vl (rdA σ p0 11 0) / 8 + 2 * vl (rdA σ p0 11 1) := if_neg (fun h => h.elim h1 h2)
      refine pw_ite (fun _ => pw_sh fun _ => pw_on fun _ _ => pw_some hk.symm) (fun _ => pw_ite (fun _ => ?_) (fun _ => pw_ite (fun _ => ?_) (fun _ => pw_some hk.symm)))
      · refine pw_sh fun _ => pw_on fun q22 _ => pw_ar fun _ _ => pw_ib fun _ _ => pw_ite (fun _ => ?_) (fun _ => pw_ite (fun _ => pw_on fun _ _ => pw_some hk.symm) (fun _ => pw_on fun _ _ => pw_some hk.symm))
        exact pw_on fun q9 e9 => pw_ar fun n _ => pw_ib fun _ _ => pw_ib fun _ _ => pw_let (pw_some hk.symm)
      · refine pw_sh fun _ => pw_on fun q22 _ => pw_ar fun _ _ => pw_ib fun _ _ => pw_ite (fun _ => ?_) (fun _ => pw_ite (fun _ => pw_on fun _ _ => pw_some hk.symm) (fun _ => pw_on fun _ _ => pw_some hk.symm))
        exact pw_on fun q9 e9 => pw_ar fun n _ => pw_ib fun _ _ => pw_ib fun _ _ => pw_let (pw_some hk.symm)
theorem pX9_feed (c : sCI T σ) (t : T p0 = some 9) {p1 p2 p3 p4 p5 : Int32} (hl : (mm_I σ p0 12).toInt ≤ 40) : pw (fX9_feed p0 p1 p2 p3 p4 p5 σ) (fun R => ∀ j : Nat, rdA R.2 p0 11 j &&& 255 = if (mm_I σ p0 12).toInt ≤ j ∧ (j : Int) < (mm_I σ p0 12).toInt + 20 then fb p1 p2 p3 p4 p5 (j - (mm_I σ p0 12).toInt.toNat) else rdA σ p0 11 j &&& 255) := by
  have r := ci_rg c t 12 (lo := 0) (hi := 60) rfl
  unfold fX9_feed
  refine pw_sh fun _ => pw_ite (fun h => ?_) (fun _ => ?_)
  · exfalso
    rw [zi_lt, zi_add, zi_bm (by simp only [Int32.reduceToInt]; omega) (by simp only [Int32.reduceToInt]; omega)] at h
    simp only [Int32.reduceToInt] at h
    omega
  · unfold fX9_feed_18
    refine pw_sh fun _ => pw_onP (sX9_goes (p1 := 1) c t (by decide)).p fun q4 ⟨c4, f4, r4⟩ => ?_
    rw [if_neg (by rw [r4]; decide)]
    have e12 : mm_I q4.2 p0 12 = mm_I σ p0 12 := (f4.2.2 p0 9 t 12 rfl).1
    have k : ∀ j, rdA q4.2 p0 11 j = rdA σ p0 11 j := fun j => rdA_fr f4 c t (κ' := 61) rfl rfl rfl
    refine (fd_all t _ 0 q4.2 c4 (by decide) (by rw [e12]; simp only [Int32.reduceToInt]; omega)).mono (fun R h j => ?_)
    rw [h j, e12, k]
    have e0 : (0 : Int32).toInt = 0 := rfl
    rw [e0]
    simp only [Int.sub_zero, Int.toNat_zero, Nat.zero_add]
theorem pX8_feed0 (c : sCI T σ) (t : T p0 = some 8) {p1 p2 p3 p4 p5 : Int32} (hl : 40 < (mm_I σ p0 4).toInt) : pw (fX8_feed p0 p1 p2 p3 p4 p5 σ) (fun R => R = (none, σ)) := by
  have r := ci_rg c t 4 (lo := 0) (hi := 60) rfl
  unfold fX8_feed
  refine pw_sh fun _ => pw_ite (fun h => ?_) (fun _ => pw_some rfl)
  exfalso
  rw [zi_le, zi_add, zi_bm (by simp only [Int32.reduceToInt]; omega) (by simp only [Int32.reduceToInt]; omega)] at h
  simp only [Int32.reduceToInt] at h
  omega
theorem pX9_feed0 (c : sCI T σ) (t : T p0 = some 9) {p1 p2 p3 p4 p5 : Int32} (hl : 40 < (mm_I σ p0 12).toInt) : pw (fX9_feed p0 p1 p2 p3 p4 p5 σ) (fun R => ∀ j, rdA R.2 p0 11 j = rdA σ p0 11 j) := by
  have r := ci_rg c t 12 (lo := 0) (hi := 60) rfl
  unfold fX9_feed
  refine pw_sh fun _ => pw_ite (fun _ => ?_) (fun h => ?_)
  · unfold fX9_feed_18
    refine pw_sh fun _ => pw_onP (sX9_goes (p1 := 0) c t (by decide)).p fun q4 ⟨c4, f4, r4⟩ => ?_
    rw [if_pos r4]
    exact pw_some (fun j => rdA_fr f4 c t (κ' := 61) rfl rfl rfl)
  · exfalso
    rw [zi_lt, zi_add, zi_bm (by simp only [Int32.reduceToInt]; omega) (by simp only [Int32.reduceToInt]; omega)] at h
    simp only [Int32.reduceToInt] at h
    omega
theorem pX8_packet0 (hl : (mm_I σ p0 4).toInt < 42) : pw (fX8_packet p0 σ) (fun R => R = (none, σ)) := by
  unfold fX8_packet
  refine pw_sh fun _ => pw_ite (fun h => ?_) (fun h => pw_some rfl)
  exfalso
  rw [zi_le] at h
  simp only [Int32.reduceToInt] at h
  omega
/-- the tapes are alike -/
def tpR (o8 o9 : Nat) (σ : mm_M) : Prop := (mm_I σ o8 4).toInt = (mm_I σ o9 12).toInt ∧ ∀ j, rdA σ o8 3 j = rdA σ o9 11 j &&& 255
theorem tp_keep {T' : Nat → Option Nat} {K8 K9 : List Nat} {τ ρ ω : mm_M} {o8 o9 : Nat} (c : sCI T σ) (t8 : T o8 = some 8) (t9 : T o9 = some 9) (hr : tpR o8 o9 σ) (f8 : sFR T K8 σ ρ) (c' : sCI T' τ) (t8' : T' o8 = some 8) (t9' : T' o9 = some 9) (hI : ∀ a k, mm_I τ a k = mm_I ρ a k) (hR : ∀ a k, mm_R τ a k = mm_R ρ a k) (f9 : sFR T' K9 τ ω)
    (h8 : K8.all (fun x => !(x == 803) && !(x == 804) && !(x == 13) && !(x == 911) && !(x == 912) && !(x == 61)) = true) (h9 : K9.all (fun x => !(x == 803) && !(x == 804) && !(x == 13) && !(x == 911) && !(x == 912) && !(x == 61)) = true) : tpR o8 o9 ω := by
  have no : ∀ {K : List Nat}, K.all (fun x => !(x == 803) && !(x == 804) && !(x == 13) && !(x == 911) && !(x == 912) && !(x == 61)) = true → ∀ x, (x = 803 ∨ x = 804 ∨ x = 13 ∨ x = 911 ∨ x = 912 ∨ x = 61) → K.contains x = false := by
    intro K h x hx
    cases e : K.contains x with
    | false => rfl
    | true =>
      have h1 := List.all_eq_true.mp h _ (List.contains_iff_mem.mp e)
      simp only [Bool.and_eq_true, Bool.not_eq_true', beq_eq_false_iff_ne] at h1
      omega
  have k1 : ∀ j, rdA ω o8 3 j = rdA σ o8 3 j := fun j => ((rdA_fr (k := 3) (j := j) f9 c' t8' (κ' := 13) rfl (no h9 803 (by omega)) (no h9 13 (by omega))).trans (rdA_congr hI hR o8 3 j)).trans (rdA_fr (k := 3) (j := j) f8 c t8 (κ' := 13) rfl (no h8 803 (by omega)) (no h8 13 (by omega)))
  have k2 : ∀ j, rdA ω o9 11 j = rdA σ o9 11 j := fun j => ((rdA_fr (k := 11) (j := j) f9 c' t9' (κ' := 61) rfl (no h9 911 (by omega)) (no h9 61 (by omega))).trans (rdA_congr hI hR o9 11 j)).trans (rdA_fr (k := 11) (j := j) f8 c t9 (κ' := 61) rfl (no h8 911 (by omega)) (no h8 61 (by omega)))
  refine ⟨?_, fun j => ?_⟩
  · rw [(f9.2.2 o8 8 t8' 4 (no h9 804 (by omega))).1, (f9.2.2 o9 9 t9' 12 (no h9 912 (by omega))).1, hI, hI, (f8.2.2 o8 8 t8 4 (no h8 804 (by omega))).1, (f8.2.2 o9 9 t9 12 (no h8 912 (by omega))).1]
    exact hr.1
  · rw [k1, k2]; exact hr.2 j
theorem tp_0 {o8 o9 out : Nat} (F : lx_Fr T o8 o9 out σ) : tpR o8 o9 σ := by
  obtain ⟨c, fv, t8, t9, -⟩ := F
  obtain ⟨q1, e1, u1⟩ := ci_ref c t8 3 (κ' := 13) rfl
  obtain ⟨q2, e2, u2⟩ := ci_ref c t9 11 (κ' := 61) rfl
  have h1 : mm_I σ o8 4 = 0 := fv o8 8 4 t8
  have h2 : mm_I σ o9 12 = 0 := fv o9 9 12 t9
  refine ⟨by rw [h1, h2], fun j => ?_⟩
  have a1 : mm_I σ q1 j = 0 := fv q1 13 j u1
  have a2 : mm_I σ q2 j = 0 := fv q2 61 j u2
  rw [rdA_eq e1, rdA_eq e2, a1, a2]
  rfl
theorem tp_b {o8 o9 : Nat} (h : tpR o8 o9 σ) (j : Nat) : rdA σ o8 3 j &&& 255 = rdA σ o8 3 j := by
  rw [h.2 j, za_255]
/-- what the class's feed leaves, with the reference's things as they were -/
def tpF (o8 : Nat) (p1 p2 p3 p4 p5 : Int32) (σ : mm_M) (ρ : mm_M) : Prop := ((mm_I σ o8 4).toInt ≤ 40 → (mm_I ρ o8 4).toInt = (mm_I σ o8 4).toInt + 20 ∧ ∀ j : Nat, rdA ρ o8 3 j = if (mm_I σ o8 4).toInt ≤ j ∧ (j : Int) < (mm_I σ o8 4).toInt + 20 then fb p1 p2 p3 p4 p5 (j - (mm_I σ o8 4).toInt.toNat) else rdA σ o8 3 j) ∧ (40 < (mm_I σ o8 4).toInt → (mm_I ρ o8 4).toInt = (mm_I σ o8 4).toInt ∧ ∀ j : Nat, rdA ρ o8 3 j = rdA σ o8 3 j)
def tpG (o9 : Nat) (p1 p2 p3 p4 p5 : Int32) (σ : mm_M) (ρ : mm_M) : Prop := ((mm_I σ o9 12).toInt ≤ 40 → (mm_I ρ o9 12).toInt = (mm_I σ o9 12).toInt + 20 ∧ ∀ j : Nat, rdA ρ o9 11 j &&& 255 = if (mm_I σ o9 12).toInt ≤ j ∧ (j : Int) < (mm_I σ o9 12).toInt + 20 then fb p1 p2 p3 p4 p5 (j - (mm_I σ o9 12).toInt.toNat) else rdA σ o9 11 j &&& 255) ∧ (40 < (mm_I σ o9 12).toInt → (mm_I ρ o9 12).toInt = (mm_I σ o9 12).toInt ∧ ∀ j : Nat, rdA ρ o9 11 j = rdA σ o9 11 j)
theorem tp_feed8 {o8 : Nat} (c : sCI T σ) (t : T o8 = some 8) {p1 p2 p3 p4 p5 : Int32} : sw (fX8_feed o8 p1 p2 p3 p4 p5 σ) (fun R => sCI T R.2 ∧ sFR T UX8_feed σ R.2 ∧ tpF o8 p1 p2 p3 p4 p5 σ R.2) := by
  by_cases hl : (mm_I σ o8 4).toInt ≤ 40
  · refine ((uX8_feed (p1 := p1) (p2 := p2) (p3 := p3) (p4 := p4) (p5 := p5) c t).also (pX8_feed c t hl)).mono (fun R h => ⟨h.1.1, h.1.2.1, fun _ => ⟨?_, h.2⟩, fun h' => by omega⟩)
    have := h.1.2.2; omega
  · refine ((uX8_feed (p1 := p1) (p2 := p2) (p3 := p3) (p4 := p4) (p5 := p5) c t).also (pX8_feed0 c t (by omega))).mono (fun R h => ⟨h.1.1, h.1.2.1, fun h' => by omega, fun _ => ⟨?_, fun j => ?_⟩⟩)
    · have := h.1.2.2; omega
    · rw [h.2]
theorem tp_feed9 {o9 : Nat} (c : sCI T σ) (t : T o9 = some 9) {p1 p2 p3 p4 p5 : Int32} : sw (fX9_feed o9 p1 p2 p3 p4 p5 σ) (fun R => sCI T R.2 ∧ sFR T UX9_feed σ R.2 ∧ tpG o9 p1 p2 p3 p4 p5 σ R.2) := by
  by_cases hl : (mm_I σ o9 12).toInt ≤ 40
  · refine ((uX9_feed (p1 := p1) (p2 := p2) (p3 := p3) (p4 := p4) (p5 := p5) c t).also (pX9_feed c t hl)).mono (fun R h => ⟨h.1.1, h.1.2.1, fun _ => ⟨?_, h.2⟩, fun h' => by omega⟩)
    have := h.1.2.2; omega
  · refine ((uX9_feed (p1 := p1) (p2 := p2) (p3 := p3) (p4 := p4) (p5 := p5) c t).also (pX9_feed0 c t (by omega))).mono (fun R h => ⟨h.1.1, h.1.2.1, fun h' => by omega, fun _ => ⟨?_, h.2⟩⟩)
    have := h.1.2.2; omega
theorem tp_fed {T' : Nat → Option Nat} {K8 K9 : List Nat} {τ ρ ω : mm_M} {o8 o9 : Nat} {p1 p2 p3 p4 p5 : Int32} (c : sCI T σ) (t8 : T o8 = some 8) (t9 : T o9 = some 9) (hr : tpR o8 o9 σ) (f8 : sFR T K8 σ ρ) (c' : sCI T' τ) (t8' : T' o8 = some 8) (hI : ∀ a k, mm_I τ a k = mm_I ρ a k) (hR : ∀ a k, mm_R τ a k = mm_R ρ a k) (f9 : sFR T' K9 τ ω)
    (h8 : K8.contains 911 = false ∧ K8.contains 61 = false ∧ K8.contains 912 = false) (h9 : K9.contains 803 = false ∧ K9.contains 13 = false ∧ K9.contains 804 = false) (x8 : tpF o8 p1 p2 p3 p4 p5 σ ρ) (x9 : tpG o9 p1 p2 p3 p4 p5 τ ω) : tpR o8 o9 ω := by
  have k1 : ∀ j, rdA ω o8 3 j = rdA ρ o8 3 j := fun j => (rdA_fr (k := 3) (j := j) f9 c' t8' (κ' := 13) rfl h9.1 h9.2.1).trans (rdA_congr hI hR o8 3 j)
  have k2 : ∀ j, rdA τ o9 11 j = rdA σ o9 11 j := fun j => (rdA_congr hI hR o9 11 j).trans (rdA_fr (k := 11) (j := j) f8 c t9 (κ' := 61) rfl h8.1 h8.2.1)
  have k3 : mm_I τ o9 12 = mm_I σ o9 12 := (hI o9 12).trans (f8.2.2 o9 9 t9 12 h8.2.2).1
  have k4 : mm_I ω o8 4 = mm_I ρ o8 4 := (f9.2.2 o8 8 t8' 4 h9.2.2).1.trans (hI o8 4)
  unfold tpG at x9
  rw [k3, ← hr.1] at x9
  have hz := hr.1
  by_cases hl : (mm_I σ o8 4).toInt ≤ 40
  · have a := x8.1 hl; have b := x9.1 hl
    refine ⟨by rw [k4]; omega, fun j => ?_⟩
    rw [k1, a.2 j, b.2 j, k2, hr.2 j]
  · have a := x8.2 (by omega); have b := x9.2 (by omega)
    refine ⟨by rw [k4]; omega, fun j => ?_⟩
    rw [k1, a.2 j, b.2 j, k2]; exact hr.2 j
def tpP (o8 : Nat) (σ : mm_M) (R : Option Int32 × mm_M) : Prop := ((mm_I σ o8 4).toInt < 42 ∧ oi R.1 = -9999999999 ∧ (mm_I R.2 o8 4).toInt = (mm_I σ o8 4).toInt) ∨ (42 ≤ (mm_I σ o8 4).toInt ∧ oi R.1 = (pka (rdA σ o8 3 0) (rdA σ o8 3 1)).toInt ∧ (mm_I R.2 o8 4).toInt = 0)
def tpQ (o9 : Nat) (σ : mm_M) (R : Int32 × mm_M) : Prop := ((mm_I σ o9 12).toInt < 42 ∧ (mm_I R.2 o9 0).toInt = 1 ∧ (mm_I R.2 o9 12).toInt = (mm_I σ o9 12).toInt) ∨ (42 ≤ (mm_I σ o9 12).toInt ∧ (mm_I R.2 o9 0).toInt = 0 ∧ R.1.toInt = (pka (rdA σ o9 11 0) (rdA σ o9 11 1)).toInt ∧ (mm_I R.2 o9 12).toInt = 0)
theorem tp_packet8 {o8 : Nat} (c : sCI T σ) (t : T o8 = some 8) (hp : pnd σ o8) (hb : ∀ j, rdA σ o8 3 j &&& 255 = rdA σ o8 3 j) : sw (fX8_packet o8 σ) (fun R => ∃ T', sTX T T' ∧ sCI T' R.2 ∧ sFR T KX8_packet σ R.2 ∧ pnd R.2 o8 ∧ tpP o8 σ R) := by
  obtain ⟨R, e, T', tx, c', f, p⟩ := sX8_packet c t hp
  obtain ⟨R', e', T2, -, -, -, x⟩ := uX8_packet c t hp
  have : R' = R := Option.some.inj (e'.symm.trans e)
  subst this
  refine ⟨R', e, T', tx, c', f, p, ?_⟩
  by_cases hl : (mm_I σ o8 4).toInt < 42
  · have h1 := pX8_packet0 hl R' e
    exact Or.inl ⟨hl, oi_none (by rw [h1]), by rw [h1]⟩
  · have h1 := pX8_packet c t (by omega) hb R' e
    exact Or.inr ⟨by omega, (oi_some h1).1, by omega⟩
theorem tp_packet9 {o9 : Nat} (c : sCI T σ) (t : T o9 = some 9) (hu : uc σ o9 ≤ (mm_I σ o9 14).toInt) : sw (fX9_packet o9 σ) (fun R => sCI T R.2 ∧ sFR T KX9_packet σ R.2 ∧ uc R.2 o9 ≤ (mm_I R.2 o9 14).toInt ∧ tpQ o9 σ R) := by
  obtain ⟨R, e, c', f, p⟩ := sX9_packet c t hu
  obtain ⟨R', e', -, -, x⟩ := uX9_packet c t hu
  have : R' = R := Option.some.inj (e'.symm.trans e)
  subst this
  obtain ⟨R2, e2, -, -, y⟩ := uX9_packet_f9 c t hu
  have : R2 = R' := Option.some.inj (e2.symm.trans e)
  subst this
  refine ⟨R2, e, c', f, p, ?_⟩
  by_cases hl : (mm_I σ o9 12).toInt < 42
  · exact Or.inl ⟨hl, by omega, by omega⟩
  · have h1 := pX9_packet c t (by omega) R2 e
    exact Or.inr ⟨by omega, by omega, by rw [h1], by omega⟩
theorem tp_packed {T' : Nat → Option Nat} {K8 K9 : List Nat} {τ : mm_M} {R8 : Option Int32 × mm_M} {R9 : Int32 × mm_M} {o8 o9 : Nat} (c : sCI T σ) (t8 : T o8 = some 8) (t9 : T o9 = some 9) (hr : tpR o8 o9 σ) (f8 : sFR T K8 σ R8.2) (c' : sCI T' τ) (t8' : T' o8 = some 8) (t9' : T' o9 = some 9) (hI : ∀ a k, mm_I τ a k = mm_I R8.2 a k) (hR : ∀ a k, mm_R τ a k = mm_R R8.2 a k) (f9 : sFR T' K9 τ R9.2)
    (h8 : K8.contains 911 = false ∧ K8.contains 61 = false ∧ K8.contains 912 = false ∧ K8.contains 803 = false ∧ K8.contains 13 = false) (h9 : K9.contains 803 = false ∧ K9.contains 13 = false ∧ K9.contains 804 = false ∧ K9.contains 911 = false ∧ K9.contains 61 = false) (x8 : tpP o8 σ R8) (x9 : tpQ o9 τ R9) : tpR o8 o9 R9.2 := by
  have k1 : ∀ j, rdA R9.2 o8 3 j = rdA σ o8 3 j := fun j => ((rdA_fr (k := 3) (j := j) f9 c' t8' (κ' := 13) rfl h9.1 h9.2.1).trans (rdA_congr hI hR o8 3 j)).trans (rdA_fr (k := 3) (j := j) f8 c t8 (κ' := 13) rfl h8.2.2.2.1 h8.2.2.2.2)
  have k2 : ∀ j, rdA τ o9 11 j = rdA σ o9 11 j := fun j => (rdA_congr hI hR o9 11 j).trans (rdA_fr (k := 11) (j := j) f8 c t9 (κ' := 61) rfl h8.1 h8.2.1)
  have k5 : ∀ j, rdA R9.2 o9 11 j = rdA σ o9 11 j := fun j => (rdA_fr (k := 11) (j := j) f9 c' t9' (κ' := 61) rfl h9.2.2.2.1 h9.2.2.2.2).trans (k2 j)
  have k3 : mm_I τ o9 12 = mm_I σ o9 12 := (hI o9 12).trans (f8.2.2 o9 9 t9 12 h8.2.2.1).1
  have k4 : mm_I R9.2 o8 4 = mm_I R8.2 o8 4 := (f9.2.2 o8 8 t8' 4 h9.2.2.1).1.trans (hI o8 4)
  unfold tpQ at x9
  rw [k3, ← hr.1, k2, k2, ← pka_255, ← hr.2 0, ← hr.2 1] at x9
  unfold tpP at x8
  have hz := zi_rg (pka (rdA σ o8 3 0) (rdA σ o8 3 1))
  have hz2 := hr.1
  exact ⟨by rw [k4]; omega, fun j => by rw [k1, k5]; exact hr.2 j⟩
theorem tp_ans {τ : mm_M} {R8 : Option Int32 × mm_M} {R9 : Int32 × mm_M} {o8 o9 : Nat} (hr : tpR o8 o9 σ) (e1 : mm_I R8.2 o9 12 = mm_I σ o9 12) (e2 : ∀ j, rdA R8.2 o9 11 j = rdA σ o9 11 j) (hI : ∀ a k, mm_I τ a k = mm_I R8.2 a k) (hR : ∀ a k, mm_R τ a k = mm_R R8.2 a k) (x8 : tpP o8 σ R8) (x9 : tpQ o9 τ R9) : (∀ r : Int, oi R8.1 = r → -2147483648 ≤ r → (mm_I R9.2 o9 0).toInt = 0 ∧ R9.1.toInt = r) ∧ (oi R8.1 = -9999999999 → (mm_I R9.2 o9 0).toInt = 1) := by
  unfold tpQ at x9
  rw [hI, e1, ← hr.1, rdA_congr hI hR, rdA_congr hI hR, e2, e2, ← pka_255, ← hr.2 0, ← hr.2 1] at x9
  unfold tpP at x8
  have hz := zi_rg (pka (rdA σ o8 3 0) (rdA σ o8 3 1))
  refine ⟨fun r a b => ?_, fun a => ?_⟩ <;> omega
end VAL

