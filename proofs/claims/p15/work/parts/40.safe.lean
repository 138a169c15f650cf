/-! Safety of the mirrored methods: a run that goes through (sw), kinds of addresses (the ghost map T), the invariant sCI, the frame sFR. Own work. -/
theorem zi_lt {a b : Int32} : a < b ↔ a.toInt < b.toInt := Int32.lt_iff_toInt_lt
theorem zi_le {a b : Int32} : a ≤ b ↔ a.toInt ≤ b.toInt := Int32.le_iff_toInt_le
theorem zi_eq {a b : Int32} : a = b ↔ a.toInt = b.toInt := Int32.toInt_inj.symm
theorem zi_clamp (x : Int32) : x.toNatClampNeg = x.toInt.toNat := rfl
theorem zi_bm {x : Int} (h1 : -2147483648 ≤ x) (h2 : x ≤ 2147483647) : x.bmod 4294967296 = x := by
  rw [Int.bmod_def]; split <;> omega
theorem zi_add (a b : Int32) : (a + b).toInt = (a.toInt + b.toInt).bmod 4294967296 := Int32.toInt_add a b
theorem zi_sub (a b : Int32) : (a - b).toInt = (a.toInt - b.toInt).bmod 4294967296 := Int32.toInt_sub a b
theorem zi_mul (a b : Int32) : (a * b).toInt = (a.toInt * b.toInt).bmod 4294967296 := Int32.toInt_mul a b
theorem zi_ite (c : Prop) [Decidable c] (a b : Int32) : (if c then a else b).toInt = if c then a.toInt else b.toInt := by split <;> rfl
theorem zi_ofn {n : Nat} (h : n < 2147483648) : (Int32.ofNat n).toInt = n := Int32.toInt_ofNat_of_lt (by omega)
theorem zi_rg (a : Int32) : -2147483648 ≤ a.toInt ∧ a.toInt ≤ 2147483647 := ⟨Int32.le_toInt a, by have := Int32.toInt_lt a; omega⟩
theorem zi_and (x m : Int32) (hm : 0 ≤ m.toInt) : 0 ≤ (x &&& m).toInt ∧ (x &&& m).toInt ≤ m.toInt := by
  have hm' : m.toBitVec.toInt = m.toInt := rfl
  have e : (x &&& m).toInt = (x.toBitVec &&& m.toBitVec).toInt := rfl
  have hmn : m.toBitVec.toNat < 2147483648 := by
    have := BitVec.toInt_eq_toNat_cond m.toBitVec
    rw [hm'] at this
    have := m.toBitVec.isLt
    split at * <;> omega
  have hle : (x.toBitVec &&& m.toBitVec).toNat ≤ m.toBitVec.toNat := by
    rw [BitVec.toNat_and]; exact Nat.and_le_right
  rw [e, ← hm', BitVec.toInt_eq_toNat_cond, BitVec.toInt_eq_toNat_cond]
  split <;> split <;> omega
def sw {β : Type} (x : Option β) (Q : β → Prop) : Prop := ∃ y, x = some y ∧ Q y
section SW
variable {β : Type} {Q : β → Prop} {σ : mm_M} {a t n : Nat} {i : Int32} {sh : Nat ⊕ Nat × Nat} {x y : Option β}
theorem sw_sh (h : σ.2.1 a = some sh) (k : sw x Q) : sw (mm_sh σ a sh x) Q := by
  unfold mm_sh; rw [if_pos h]; exact k
theorem sw_ar {x : Nat → Option β} (h : σ.2.1 a = some (.inr (t, n))) (k : sw (x n) Q) : sw (mm_ar σ a t x) Q := by
  unfold mm_ar; rw [h]; simp only [if_true]; exact k
theorem sw_ib (h : 0 ≤ i.toInt ∧ i.toInt < n) (k : sw x Q) : sw (mm_ib i n x) Q := by
  unfold mm_ib
  rw [if_neg]
  · exact k
  · simp only [zi_lt, zi_clamp, Int32.reduceToInt]; omega
theorem sw_on {α : Type} {o : Option α} {s : α → Option β} {P : α → Prop} (h : sw o P) (k : ∀ q, P q → sw (s q) Q) : sw (mm_on o s) Q := by
  obtain ⟨q, rfl, hq⟩ := h; exact k q hq
theorem sw_onS {α : Type} {o : Option α} {s : α → Option β} {q : α} (h : o = some q) (k : sw (s q) Q) : sw (mm_on o s) Q := by
  subst h; exact k
theorem sw_nu {o : Option Nat} {s : Nat → Option β} (h1 : o = none → sw x Q) (h2 : ∀ q, o = some q → sw (s q) Q) : sw (mm_nu o x s) Q := by
  cases o with
  | none => exact h1 rfl
  | some q => exact h2 q rfl
theorem sw_let {e : mm_M} {k : mm_M → Option β} (h : ∀ s, e = s → sw (k s) Q) : sw (mm_let e k) Q := h e rfl
theorem sw_ite {c : Prop} [Decidable c] (h1 : c → sw x Q) (h2 : ¬ c → sw y Q) : sw (if c then x else y) Q := by
  split
  · exact h1 (by assumption)
  · exact h2 (by assumption)
theorem sw_ck {c : Prop} [Decidable c] (h : c) (k : sw x Q) : sw (mm_ck c x) Q := by
  unfold mm_ck; rw [if_pos h]; exact k
theorem sw_some {y : β} (h : Q y) : sw (some y) Q := ⟨y, rfl, h⟩
theorem sw.mono {P : β → Prop} (h : sw x P) (k : ∀ y, P y → Q y) : sw x Q := by
  obtain ⟨y, e, hy⟩ := h; exact ⟨y, e, k y hy⟩
end SW
/-- the shape of a kind: 0 .. 9 objects of the classes X0 .. X9, 10 .. 27 the class's arrays (27: a cue's bytes, of any length), 50 + k the reference's array field k -/
def kshape (κ : Nat) : Option (Nat ⊕ Nat × Nat) := match κ with
  | 0 => some (.inl 0) | 1 => some (.inl 1) | 2 => some (.inl 2) | 3 => some (.inl 3) | 4 => some (.inl 4) | 5 => some (.inl 5) | 6 => some (.inl 6) | 7 => some (.inl 7) | 8 => some (.inl 8) | 9 => some (.inl 9)
  | 10 => some (.inr (4, 4)) | 11 => some (.inr (0, 2)) | 12 => some (.inr (0, 2)) | 13 => some (.inr (0, 60)) | 15 => some (.inr (0, 8)) | 16 => some (.inr (0, 3)) | 17 => some (.inr (6, 60)) | 18 => some (.inr (0, 5))
  | 20 => some (.inr (0, 480)) | 21 => some (.inr (0, 480)) | 22 => some (.inr (0, 1000)) | 23 => some (.inr (1, 25)) | 24 => some (.inr (0, 18)) | 25 => some (.inr (5, 20)) | 26 => some (.inr (0, 400))
  | 51 => some (.inr (0, 3840)) | 52 => some (.inr (0, 3840)) | 53 => some (.inr (0, 4)) | 54 => some (.inr (0, 4)) | 55 => some (.inr (0, 4)) | 56 => some (.inr (0, 4)) | 57 => some (.inr (0, 4)) | 58 => some (.inr (0, 4)) | 59 => some (.inr (0, 2)) | 60 => some (.inr (0, 2))
  | 61 => some (.inr (2, 60)) | 63 => some (.inr (0, 3)) | 65 => some (.inr (0, 20)) | 66 => some (.inr (1, 20)) | 67 => some (.inr (0, 20)) | 68 => some (.inr (0, 20)) | 69 => some (.inr (0, 20)) | 70 => some (.inr (0, 20)) | 71 => some (.inr (0, 20)) | 72 => some (.inr (0, 20))
  | 73 => some (.inr (2, 20000)) | 74 => some (.inr (1, 500)) | 75 => some (.inr (0, 360)) | 76 => some (.inr (1, 120)) | 77 => some (.inr (0, 9)) | 82 => some (.inr (2, 1000)) | 83 => some (.inr (1, 25))
  | 86 => some (.inr (0, 60)) | 87 => some (.inr (0, 60)) | 88 => some (.inr (0, 60)) | 89 => some (.inr (0, 60)) | 90 => some (.inr (2, 24000)) | 91 => some (.inr (0, 5)) | 92 => some (.inr (0, 128)) | 93 => some (.inr (0, 128)) | 95 => some (.inr (2, 1100))
  | _ => none
/-- what a place of a kind must refer to -/
def kref (κ k : Nat) : Option Nat := match κ with
  | 0 => (match k with | 0 => some 5 | 1 => some 5 | _ => none)
  | 1 => (match k with | 2 => some 27 | _ => none)
  | 2 => (match k with | 0 => some 26 | _ => none)
  | 3 => (match k with | 0 => some 4 | 1 => some 24 | _ => none)
  | 4 => (match k with | 0 => some 22 | 1 => some 23 | _ => none)
  | 5 => (match k with | 0 => some 20 | 1 => some 21 | _ => none)
  | 6 => (match k with | 0 => some 25 | _ => none)
  | 7 => (match k with | 0 => some 4 | _ => none)
  | 8 => (match k with | 0 => some 10 | 1 => some 11 | 2 => some 12 | 3 => some 13 | 5 => some 15 | 6 => some 16 | 7 => some 6 | 8 => some 7 | 9 => some 2 | 10 => some 17 | 12 => some 18 | _ => none)
  | 9 => (match k with
    | 0 => none | 12 => none | 14 => none | 28 => none | 29 => none | 30 => none | 31 => none | 34 => none | 35 => none | 44 => none
    | k => if k ≤ 45 then some (50 + k) else none)
  | 10 => if k < 4 then some 0 else none
  | _ => none
/-- what a place of a kind may refer to, if it is not null -/
def knul (κ : Nat) : Option Nat := match κ with
  | 17 => some 1 | 25 => some 3 | _ => none
/-- the range of a place's int -/
def krng (κ j : Nat) : Option (Int × Int) := match κ with
  | 0 => (match j with | 3 => some (1, 15) | 6 => some (2, 4) | _ => none)
  | 2 => (match j with | 1 => some (0, 400) | _ => none)
  | 6 => (match j with | 1 => some (0, 20) | _ => none)
  | 8 => (match j with | 4 => some (0, 60) | 11 => some (0, 60) | _ => none)
  | 9 => (match j with | 12 => some (0, 60) | 14 => some (0, 20) | 35 => some (0, 60) | 44 => some (0, 1100) | _ => none)
  | 23 => some (0, 1) | 53 => some (0, 1) | 55 => if j < 4 then some (1, 15) else none | 56 => some (0, 32) | 58 => if j < 4 then some (2, 4) else none | 59 => some (-1, 3)
  | 65 => some (0, 19) | 67 => some (0, 8) | 77 => some (-1, 19) | 89 => some (0, 400) | 91 => some (-1, 59)
  | _ => none
def kr (κ j : Nat) (v : Int32) : Prop := ∀ lo hi, krng κ j = some (lo, hi) → lo ≤ v.toInt ∧ v.toInt ≤ hi
theorem kr_n {κ j : Nat} {v : Int32} (h : krng κ j = none) : kr κ j v := by
  intro lo hi e; rw [h] at e; cases e
theorem kr_s {κ j : Nat} {v : Int32} {lo hi : Int} (h : krng κ j = some (lo, hi)) (k : lo ≤ v.toInt ∧ v.toInt ≤ hi) : kr κ j v := by
  intro lo' hi' e; rw [h] at e; cases e; exact k
theorem kr_55 {j : Nat} {v : Int32} (k : 1 ≤ v.toInt ∧ v.toInt ≤ 15) : kr 55 j v := by
  intro lo hi e
  have e0 : krng 55 j = if j < 4 then some (1, 15) else none := rfl
  rw [e0] at e
  split at e
  · cases e; exact k
  · cases e
theorem kr_58 {j : Nat} {v : Int32} (k : 2 ≤ v.toInt ∧ v.toInt ≤ 4) : kr 58 j v := by
  intro lo hi e
  have e0 : krng 58 j = if j < 4 then some (2, 4) else none := rfl
  rw [e0] at e
  split at e
  · cases e; exact k
  · cases e
theorem krng_55 {j : Nat} (h : j < 4) : krng 55 j = some (1, 15) := if_pos h
theorem krng_58 {j : Nat} (h : j < 4) : krng 58 j = some (2, 4) := if_pos h
def kcode (κ j : Nat) : Nat := if κ = 8 then 800 + j else if κ = 9 then 900 + j else κ
def kfits (κ : Nat) (s : Option (Nat ⊕ Nat × Nat)) : Prop := (∀ sh, kshape κ = some sh → s = some sh) ∧ (kshape κ = none → ∃ n, n ≤ 400 ∧ s = some (.inr (0, n)))
def sCI (T : Nat → Option Nat) (σ : mm_M) : Prop := (∀ a κ, T a = some κ → kfits κ (σ.2.1 a)) ∧ (∀ a κ k κ', T a = some κ → kref κ k = some κ' → ∃ q, mm_R σ a k = some q ∧ T q = some κ') ∧ (∀ a κ k κ' q, T a = some κ → knul κ = some κ' → mm_R σ a k = some q → T q = some κ') ∧ (∀ a κ j, T a = some κ → kr κ j (mm_I σ a j)) ∧ (∀ a κ, T a = some κ → a < σ.1)
/-- the heap has grown, shapes and longs stay, and only places with codes in K have changed among the addresses with a kind -/
def sFR (T : Nat → Option Nat) (K : List Nat) (σ σ' : mm_M) : Prop := σ.1 ≤ σ'.1 ∧ (∀ b, b < σ.1 → σ'.2.1 b = σ.2.1 b ∧ σ'.2.2.2.2 b = σ.2.2.2.2 b) ∧ ∀ a κ, T a = some κ → ∀ j, K.contains (kcode κ j) = false → mm_I σ' a j = mm_I σ a j ∧ mm_R σ' a j = mm_R σ a j
def sTX (T T' : Nat → Option Nat) : Prop := ∀ a κ, T a = some κ → T' a = some κ
section CI
variable {T T' : Nat → Option Nat} {K K' : List Nat} {σ σ' σ2 : mm_M} {a κ κ' k j : Nat} {v : Int32}
theorem ci_sh (c : sCI T σ) (t : T a = some κ) {sh : Nat ⊕ Nat × Nat} (h : kshape κ = some sh) : σ.2.1 a = some sh := (c.1 a κ t).1 sh h
theorem ci_sh27 (c : sCI T σ) (t : T a = some 27) : ∃ n, n ≤ 400 ∧ σ.2.1 a = some (.inr (0, n)) := (c.1 a 27 t).2 rfl
theorem ci_has (c : sCI T σ) (t : T a = some κ) : ∃ sh, σ.2.1 a = some sh := by
  cases e : kshape κ with
  | some sh => exact ⟨sh, (c.1 a κ t).1 sh e⟩
  | none => obtain ⟨n, -, h⟩ := (c.1 a κ t).2 e; exact ⟨_, h⟩
theorem ci_z (c : sCI T σ) {z : Nat} (h : ∀ a sh, σ.2.1 a = some sh → a < z) : sCI T (z, σ.2) :=
  ⟨c.1, c.2.1, c.2.2.1, c.2.2.2.1, fun a κ t => by obtain ⟨sh, e⟩ := ci_has c t; exact h a sh e⟩
theorem ci_ref (c : sCI T σ) (t : T a = some κ) (k : Nat) (h : kref κ k = some κ') : ∃ q, mm_R σ a k = some q ∧ T q = some κ' := c.2.1 a κ k κ' t h
theorem ci_chan (c : sCI T σ) (t : T a = some 10) (h : k < 4) : ∃ q, mm_R σ a k = some q ∧ T q = some 0 := c.2.1 a 10 k 0 t (if_pos h)
theorem ci_nul (c : sCI T σ) (t : T a = some κ) (h : knul κ = some κ') {q : Nat} (e : mm_R σ a k = some q) : T q = some κ' := c.2.2.1 a κ k κ' q t h e
theorem ci_rg (c : sCI T σ) (t : T a = some κ) (j : Nat) {lo hi : Int} (h : krng κ j = some (lo, hi)) : lo ≤ (mm_I σ a j).toInt ∧ (mm_I σ a j).toInt ≤ hi := c.2.2.2.1 a κ j t lo hi h
theorem ci_wI (c : sCI T σ) (t : T a = some κ) (h : kr κ j v) : sCI T (mm_wI σ a j v) := by
  refine ⟨c.1, c.2.1, c.2.2.1, fun b κ' j' tb => ?_, c.2.2.2.2⟩
  show kr κ' j' (mm_up2 σ.2.2.1 a j v b j')
  by_cases e : b = a ∧ j' = j
  · obtain ⟨rfl, rfl⟩ := e
    rw [t] at tb; cases tb
    rw [mm_up2_self]; exact h
  · have : mm_up2 σ.2.2.1 a j v b j' = σ.2.2.1 b j' := by unfold mm_up2; rw [if_neg e]
    rw [this]; exact c.2.2.2.1 b κ' j' tb
theorem ci_wA (c : sCI T σ) (t : T a = some κ) {f : Nat → Int32} (h : ∀ j, kr κ j (f j)) : sCI T (mm_wA σ a f) := by
  refine ⟨c.1, c.2.1, c.2.2.1, fun b κ' j' tb => ?_, c.2.2.2.2⟩
  show kr κ' j' ((if b = a then f else σ.2.2.1 b) j')
  by_cases e : b = a
  · subst e
    rw [t] at tb; cases tb
    rw [if_pos rfl]; exact h j'
  · rw [if_neg e]; exact c.2.2.2.1 b κ' j' tb
theorem ci_wR (c : sCI T σ) (t : T a = some κ) {v : Option Nat} (h1 : ∀ κ', kref κ k = some κ' → ∃ q, v = some q ∧ T q = some κ') (h2 : ∀ κ', knul κ = some κ' → ∀ q, v = some q → T q = some κ') : sCI T (mm_wR σ a k v) := by
  refine ⟨c.1, fun b κ1 k' κ2 tb hk => ?_, fun b κ1 k' κ2 q tb hk e => ?_, c.2.2.2.1, c.2.2.2.2⟩
  · show ∃ q, mm_up2 σ.2.2.2.1 a k v b k' = some q ∧ _
    by_cases e : b = a ∧ k' = k
    · obtain ⟨rfl, rfl⟩ := e
      rw [t] at tb; cases tb
      rw [mm_up2_self]; exact h1 κ2 hk
    · have : mm_up2 σ.2.2.2.1 a k v b k' = σ.2.2.2.1 b k' := by unfold mm_up2; rw [if_neg e]
      rw [this]; exact c.2.1 b κ1 k' κ2 tb hk
  · have e' : mm_up2 σ.2.2.2.1 a k v b k' = some q := e
    by_cases e2 : b = a ∧ k' = k
    · obtain ⟨rfl, rfl⟩ := e2
      rw [t] at tb; cases tb
      rw [mm_up2_self] at e'; exact h2 κ2 hk q e'
    · have : mm_up2 σ.2.2.2.1 a k v b k' = σ.2.2.2.1 b k' := by unfold mm_up2; rw [if_neg e2]
      rw [this] at e'; exact c.2.2.1 b κ1 k' κ2 q tb hk e'
/-- an address without a kind may be written at will -/
theorem ci_wR0 (c : sCI T σ) (t : T a = none) {v : Option Nat} : sCI T (mm_wR σ a k v) := by
  refine ⟨c.1, fun b κ1 k' κ2 tb hk => ?_, fun b κ1 k' κ2 q tb hk e => ?_, c.2.2.2.1, c.2.2.2.2⟩
  · have hb : b ≠ a := fun e => by subst e; rw [t] at tb; cases tb
    show ∃ q, mm_up2 σ.2.2.2.1 a k v b k' = some q ∧ _
    rw [mm_up2_ne hb]; exact c.2.1 b κ1 k' κ2 tb hk
  · have hb : b ≠ a := fun e => by subst e; rw [t] at tb; cases tb
    have e' : mm_up2 σ.2.2.2.1 a k v b k' = some q := e
    rw [mm_up2_ne hb] at e'; exact c.2.2.1 b κ1 k' κ2 q tb hk e'
theorem ci_wI0 (c : sCI T σ) (t : T a = none) : sCI T (mm_wI σ a j v) := by
  refine ⟨c.1, c.2.1, c.2.2.1, fun b κ' j' tb => ?_, c.2.2.2.2⟩
  have hb : b ≠ a := fun e => by subst e; rw [t] at tb; cases tb
  show kr κ' j' (mm_up2 σ.2.2.1 a j v b j')
  rw [mm_up2_ne hb]; exact c.2.2.2.1 b κ' j' tb
theorem ci_fresh (c : sCI T σ) {b : Nat} (h : σ.1 ≤ b) : T b = none := by
  cases e : T b with
  | none => rfl
  | some κ => exact absurd (c.2.2.2.2 b κ e) (by omega)
theorem ci_new (c : sCI T σ) (sh : Nat ⊕ Nat × Nat) : sCI T (mm_new σ sh) := by
  have hne : ∀ {b κ}, T b = some κ → b ≠ σ.1 := fun {b κ} tb e => by
    have := c.2.2.2.2 b κ tb; omega
  refine ⟨fun b κ tb => ?_, fun b κ1 k' κ2 tb hk => ?_, fun b κ1 k' κ2 q tb hk e => ?_, fun b κ j tb => ?_, fun b κ tb => ?_⟩
  · show kfits κ (if b = σ.1 then some sh else σ.2.1 b)
    rw [if_neg (hne tb)]; exact c.1 b κ tb
  · show ∃ q, (if b = σ.1 then fun _ => none else σ.2.2.2.1 b) k' = some q ∧ _
    rw [if_neg (hne tb)]; exact c.2.1 b κ1 k' κ2 tb hk
  · have e' : (if b = σ.1 then fun _ => none else σ.2.2.2.1 b) k' = some q := e
    rw [if_neg (hne tb)] at e'; exact c.2.2.1 b κ1 k' κ2 q tb hk e'
  · show kr κ j ((if b = σ.1 then fun _ => 0 else σ.2.2.1 b) j)
    rw [if_neg (hne tb)]; exact c.2.2.2.1 b κ j tb
  · exact Nat.lt_succ_of_lt (c.2.2.2.2 b κ tb)
def kup (T : Nat → Option Nat) (a κ : Nat) : Nat → Option Nat := fun b => if b = a then some κ else T b
theorem kup_self : kup T a κ a = some κ := if_pos rfl
theorem kup_tx (t : T a = none) : sTX T (kup T a κ) := fun b κ' tb => by
  unfold kup
  rw [if_neg (fun e => by subst e; rw [t] at tb; cases tb)]; exact tb
/-- an address gets its kind once it has what the kind asks -/
theorem ci_type (c : sCI T σ) (t : T a = none) (hs : kfits κ (σ.2.1 a)) (hr : ∀ k κ', kref κ k = some κ' → ∃ q, mm_R σ a k = some q ∧ T q = some κ') (hn : ∀ κ', knul κ = some κ' → ∀ k, mm_R σ a k = none) (hi : ∀ j, kr κ j (mm_I σ a j)) (hz : a < σ.1) : sCI (kup T a κ) σ := by
  have tx := kup_tx (κ := κ) t
  refine ⟨fun b κ1 tb => ?_, fun b κ1 k' κ2 tb hk => ?_, fun b κ1 k' κ2 q tb hk e => ?_, fun b κ1 j tb => ?_, fun b κ1 tb => ?_⟩
  all_goals by_cases e0 : b = a
  · subst e0; rw [kup_self] at tb; cases tb; exact hs
  · unfold kup at tb; rw [if_neg e0] at tb; exact c.1 b κ1 tb
  · subst e0; rw [kup_self] at tb; cases tb
    obtain ⟨q, h1, h2⟩ := hr k' κ2 hk
    exact ⟨q, h1, tx _ _ h2⟩
  · unfold kup at tb; rw [if_neg e0] at tb
    obtain ⟨q, h1, h2⟩ := c.2.1 b κ1 k' κ2 tb hk
    exact ⟨q, h1, tx _ _ h2⟩
  · subst e0; rw [kup_self] at tb; cases tb
    rw [hn κ2 hk k'] at e; cases e
  · unfold kup at tb; rw [if_neg e0] at tb
    exact tx _ _ (c.2.2.1 b κ1 k' κ2 q tb hk e)
  · subst e0; rw [kup_self] at tb; cases tb; exact hi j
  · unfold kup at tb; rw [if_neg e0] at tb; exact c.2.2.2.1 b κ1 j tb
  · subst e0; exact hz
  · unfold kup at tb; rw [if_neg e0] at tb; exact c.2.2.2.2 b κ1 tb
theorem fr_refl : sFR T K σ σ := ⟨Nat.le_refl _, fun _ _ => ⟨rfl, rfl⟩, fun _ _ _ _ _ => ⟨rfl, rfl⟩⟩
theorem fr_wI (f : sFR T K σ2 σ) (t : T a = some κ) (h : K.contains (kcode κ j) = true) : sFR T K σ2 (mm_wI σ a j v) := by
  refine ⟨f.1, f.2.1, fun b κ' tb j' hk => ⟨?_, (f.2.2 b κ' tb j' hk).2⟩⟩
  rw [← (f.2.2 b κ' tb j' hk).1]
  show mm_up2 σ.2.2.1 a j v b j' = _
  unfold mm_up2
  rw [if_neg]
  rintro ⟨rfl, rfl⟩
  rw [t] at tb; cases tb
  rw [h] at hk; cases hk
theorem fr_wA (f : sFR T K σ2 σ) (t : T a = some κ) {g : Nat → Int32} (h : ∀ j, K.contains (kcode κ j) = true) : sFR T K σ2 (mm_wA σ a g) := by
  refine ⟨f.1, f.2.1, fun b κ' tb j' hk => ⟨?_, (f.2.2 b κ' tb j' hk).2⟩⟩
  rw [← (f.2.2 b κ' tb j' hk).1]
  show (if b = a then g else σ.2.2.1 b) j' = _
  rw [if_neg]
  rintro rfl
  rw [t] at tb; cases tb
  rw [h] at hk; cases hk
theorem fr_wR (f : sFR T K σ2 σ) (t : T a = some κ) {v : Option Nat} (h : K.contains (kcode κ k) = true) : sFR T K σ2 (mm_wR σ a k v) := by
  refine ⟨f.1, f.2.1, fun b κ' tb j' hk => ⟨(f.2.2 b κ' tb j' hk).1, ?_⟩⟩
  rw [← (f.2.2 b κ' tb j' hk).2]
  show mm_up2 σ.2.2.2.1 a k v b j' = _
  unfold mm_up2
  rw [if_neg]
  rintro ⟨rfl, rfl⟩
  rw [t] at tb; cases tb
  rw [h] at hk; cases hk
theorem fr_wR0 (f : sFR T K σ2 σ) (t : T a = none) {v : Option Nat} : sFR T K σ2 (mm_wR σ a k v) := by
  refine ⟨f.1, f.2.1, fun b κ' tb j' hk => ⟨(f.2.2 b κ' tb j' hk).1, ?_⟩⟩
  rw [← (f.2.2 b κ' tb j' hk).2]
  exact mm_up2_ne (fun e => by subst e; rw [t] at tb; cases tb) j'
theorem fr_wI0 (f : sFR T K σ2 σ) (t : T a = none) : sFR T K σ2 (mm_wI σ a j v) := by
  refine ⟨f.1, f.2.1, fun b κ' tb j' hk => ⟨?_, (f.2.2 b κ' tb j' hk).2⟩⟩
  rw [← (f.2.2 b κ' tb j' hk).1]
  exact mm_up2_ne (fun e => by subst e; rw [t] at tb; cases tb) j'
theorem fr_new (f : sFR T K σ2 σ) (c : sCI T σ) (sh : Nat ⊕ Nat × Nat) : sFR T K σ2 (mm_new σ sh) := by
  refine ⟨Nat.le_succ_of_le f.1, fun b hb => ?_, fun b κ' tb j' hk => ?_⟩
  · have := f.1
    refine ⟨?_, ?_⟩
    · rw [← (f.2.1 b hb).1]
      show (if b = σ.1 then some sh else σ.2.1 b) = _
      rw [if_neg (by omega)]
    · rw [← (f.2.1 b hb).2]
      show (if b = σ.1 then fun _ => 0 else σ.2.2.2.2 b) = _
      rw [if_neg (by omega)]
  have hb : b ≠ σ.1 := by have := c.2.2.2.2 b κ' tb; omega
  rw [← (f.2.2 b κ' tb j' hk).1, ← (f.2.2 b κ' tb j' hk).2]
  constructor
  · show (if b = σ.1 then fun _ => 0 else σ.2.2.1 b) j' = _
    rw [if_neg hb]
  · show (if b = σ.1 then fun _ => none else σ.2.2.2.1 b) j' = _
    rw [if_neg hb]
theorem fr_wIx (f : sFR T K σ2 σ) (x : sTX T T') (t : T' a = some κ) (h : K.contains (kcode κ j) = true) : sFR T K σ2 (mm_wI σ a j v) := by
  refine ⟨f.1, f.2.1, fun b κ' tb j' hk => ⟨?_, (f.2.2 b κ' tb j' hk).2⟩⟩
  rw [← (f.2.2 b κ' tb j' hk).1]
  show mm_up2 σ.2.2.1 a j v b j' = _
  unfold mm_up2
  rw [if_neg]
  rintro ⟨rfl, rfl⟩
  have := x _ _ tb
  rw [t] at this; cases this
  rw [h] at hk; cases hk
theorem fr_wRx (f : sFR T K σ2 σ) (x : sTX T T') (t : T' a = some κ) {v : Option Nat} (h : K.contains (kcode κ k) = true) : sFR T K σ2 (mm_wR σ a k v) := by
  refine ⟨f.1, f.2.1, fun b κ' tb j' hk => ⟨(f.2.2 b κ' tb j' hk).1, ?_⟩⟩
  rw [← (f.2.2 b κ' tb j' hk).2]
  show mm_up2 σ.2.2.2.1 a k v b j' = _
  unfold mm_up2
  rw [if_neg]
  rintro ⟨rfl, rfl⟩
  have := x _ _ tb
  rw [t] at this; cases this
  rw [h] at hk; cases hk
theorem fr_trans (f : sFR T K σ2 σ) (g : sFR T K' σ σ') (h : K'.all (fun x => K.contains x) = true) : sFR T K σ2 σ' := by
  refine ⟨Nat.le_trans f.1 g.1, fun b hb => ⟨(g.2.1 b (Nat.lt_of_lt_of_le hb f.1)).1.trans (f.2.1 b hb).1, (g.2.1 b (Nat.lt_of_lt_of_le hb f.1)).2.trans (f.2.1 b hb).2⟩, fun b κ tb j hk => ?_⟩
  have hk' : K'.contains (kcode κ j) = false := by
    cases e : K'.contains (kcode κ j) with
    | false => rfl
    | true =>
      have := List.all_eq_true.mp h _ (List.contains_iff_mem.mp e)
      rw [hk] at this; cases this
  obtain ⟨g1, g2⟩ := g.2.2 b κ tb j hk'
  obtain ⟨f1, f2⟩ := f.2.2 b κ tb j hk
  exact ⟨g1.trans f1, g2.trans f2⟩
theorem fr_tx (h : sTX T T') (f : sFR T' K σ σ') : sFR T K σ σ' := ⟨f.1, f.2.1, fun b κ tb j hk => f.2.2 b κ (h _ _ tb) j hk⟩
theorem tx_refl : sTX T T := fun _ _ h => h
theorem tx_trans {T2 : Nat → Option Nat} (h : sTX T T') (k : sTX T' T2) : sTX T T2 := fun a κ t => k a κ (h a κ t)
end CI
