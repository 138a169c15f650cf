/-! combinators of the mirrored methods: a check that fails is 'none' -/
abbrev mm_I (σ : mm_M) : Nat → Nat → Int32 := σ.2.2.1
abbrev mm_R (σ : mm_M) : Nat → Nat → Option Nat := σ.2.2.2.1
def mm_sh {β : Type} (σ : mm_M) (a : Nat) (sh : Nat ⊕ Nat × Nat) (x : Option β) : Option β := if σ.2.1 a = some sh then x else none
def mm_ar {β : Type} (σ : mm_M) (a t : Nat) (x : Nat → Option β) : Option β := match σ.2.1 a with
  | some (.inr (t', n)) => if t' = t then x n else none
  | _ => none
def mm_ib {β : Type} (i : Int32) (n : Nat) (x : Option β) : Option β := if i < 0 ∨ n ≤ i.toNatClampNeg then none else x
def mm_ck {β : Type} (c : Prop) [Decidable c] (x : Option β) : Option β := if c then x else none
def mm_on {α β : Type} (o : Option α) (s : α → Option β) : Option β := match o with
  | some a => s a
  | none => none
def mm_nu {β : Type} (o : Option Nat) (n : Option β) (s : Nat → Option β) : Option β := match o with
  | some a => s a
  | none => n
def mm_let {β : Type} (e : mm_M) (k : mm_M → Option β) : Option β := k e
theorem mm_let_s {β : Type} {e : mm_M} {k : mm_M → Option β} {y : β} (h : mm_let e k = some y) : ∃ s, e = s ∧ k s = some y := ⟨e, rfl, h⟩
theorem mm_ke {e s : mm_M} (h : e = s) {a : Nat} {sh : Nat ⊕ Nat × Nat} (hs : e.2.1 a = some sh) : s.2.1 a = some sh := h ▸ hs
theorem mm_sh_s {β : Type} {σ : mm_M} {a : Nat} {sh : Nat ⊕ Nat × Nat} {x : Option β} {y : β} (h : mm_sh σ a sh x = some y) : σ.2.1 a = some sh ∧ x = some y := by
  unfold mm_sh at h; split at h
  · exact ⟨by assumption, h⟩
  · cases h
theorem mm_ar_s {β : Type} {σ : mm_M} {a t : Nat} {x : Nat → Option β} {y : β} (h : mm_ar σ a t x = some y) : ∃ n, σ.2.1 a = some (.inr (t, n)) ∧ x n = some y := by
  unfold mm_ar at h; split at h
  · next t' n e =>
    split at h
    · next et => subst et; exact ⟨n, e, h⟩
    · cases h
  · cases h
theorem mm_ib_s {β : Type} {i : Int32} {n : Nat} {x : Option β} {y : β} (h : mm_ib i n x = some y) : vp_in i n ∧ x = some y := by
  unfold mm_ib at h; split at h
  · cases h
  · exact ⟨by assumption, h⟩
theorem mm_ck_s {β : Type} {c : Prop} [Decidable c] {x : Option β} {y : β} (h : mm_ck c x = some y) : c ∧ x = some y := by
  unfold mm_ck at h; split at h
  · exact ⟨by assumption, h⟩
  · cases h
theorem mm_on_s {α β : Type} {o : Option α} {s : α → Option β} {y : β} (h : mm_on o s = some y) : ∃ a, o = some a ∧ s a = some y := by
  cases o with
  | none => cases h
  | some a => exact ⟨a, rfl, h⟩
theorem mm_nu_n {β : Type} {o : Option Nat} {n : Option β} {s : Nat → Option β} (h : o = none) : mm_nu o n s = n := by subst h; rfl
theorem mm_nu_s {β : Type} {o : Option Nat} {n : Option β} {s : Nat → Option β} {a : Nat} (h : o = some a) : mm_nu o n s = s a := by subst h; rfl
theorem mm_rf_some (q : Nat) : va_rf (some q) = .ref q := rfl
theorem mm_rf_none : va_rf none = .null := rfl
theorem mm_rf_cat (o : Option Nat) : (va_rf o).category = 1 := by cases o <;> rfl
theorem mm_rf_of (o : Option Nat) : va_rf o = .null ∨ ∃ a, va_rf o = .ref a := by
  cases o with
  | none => exact Or.inl rfl
  | some a => exact Or.inr ⟨a, rfl⟩
/-- what a loop may turn: more than any here -/
def mm_fuel : Nat := 2000
section MMR
variable {Y : mm_Y} {G : mm_G} {own : String} {cc : ByteArray} {nL : Nat} {rt : Option FieldType} {ini : Bool × Option (List (Nat × Nat × Nat × Nat))} {R : Room} {A : Nat → Prop} {Qf : List Frame → Array Value → State → State → Prop} {pc : Nat} {L : List (Nat × Value)} {st : List Value} {σ : mm_M} {ck sk : Nat}
theorem mm_aload_nR {i j : Nat} {k4 : Fin 4} {o : Option Nat} (hd : decode cc pc = .ok (.aload_n k4, 1)) (hi : (k4 : Nat) = i) (hv : L[j]? = some (i, va_rf o)) (k : mm_J Y G own cc nL rt ini R A Qf (pc + 1) L (va_rf o :: st) σ ck sk) : mm_J Y G own cc nL rt ini R A Qf pc L st σ ck sk := by
  cases o with
  | none => exact mm_aload_nN hd hi hv k
  | some a => exact mm_aload_n hd hi hv k
theorem mm_aloadR {i j : Nat} {o : Option Nat} (hd : decode cc pc = .ok (.aload i, 2)) (hv : L[j]? = some (i, va_rf o)) (k : mm_J Y G own cc nL rt ini R A Qf (pc + 2) L (va_rf o :: st) σ ck sk) : mm_J Y G own cc nL rt ini R A Qf pc L st σ ck sk := by
  cases o with
  | none => exact mm_aloadN hd hv k
  | some a => exact mm_aload hd hv k
theorem mm_astore_nR {i : Nat} {k4 : Fin 4} {o : Option Nat} {L' : List (Nat × Value)} (hd : decode cc pc = .ok (.astore_n k4, 1)) (hi : (k4 : Nat) = i) (hn : i < nL) (hL : (i, va_rf o) :: L.filter (fun q => !(q.1 == i) && !(q.1 + 1 == i && q.2.category == 2)) = L') (k : mm_J Y G own cc nL rt ini R A Qf (pc + 1) L' st σ ck sk) : mm_J Y G own cc nL rt ini R A Qf pc L (va_rf o :: st) σ ck sk := by
  cases o with
  | none => exact mm_astore_nN hd hi hn hL k
  | some a => exact mm_astore_n hd hi hn hL k
theorem mm_astoreR {i : Nat} {o : Option Nat} {L' : List (Nat × Value)} (hd : decode cc pc = .ok (.astore i, 2)) (hn : i < nL) (hL : (i, va_rf o) :: L.filter (fun q => !(q.1 == i) && !(q.1 + 1 == i && q.2.category == 2)) = L') (k : mm_J Y G own cc nL rt ini R A Qf (pc + 2) L' st σ ck sk) : mm_J Y G own cc nL rt ini R A Qf pc L (va_rf o :: st) σ ck sk := by
  cases o with
  | none => exact mm_astoreN hd hn hL k
  | some a => exact mm_astore hd hn hL k
theorem mm_tableEq {dflt lo hi : Int} {offs : Array Int} {len : Nat} {x v : Int32} {off : Int} {tgt : Nat} (hd : decode cc pc = .ok (.tableswitch dflt lo hi offs, len)) (h : x = v) (h1 : ¬ v.toInt < lo) (h2 : ¬ hi < v.toInt) (ho : offs[(v.toInt - lo).toNat]? = some off) (ht : (pc : Int) + off = (tgt : Int)) (k : mm_J Y G own cc nL rt ini R A Qf tgt L st σ ck sk) : mm_J Y G own cc nL rt ini R A Qf pc L (.int x :: st) σ ck sk := by
  subst h
  exact mm_tableIn hd h1 h2 ho ht k
end MMR
theorem mm_neI {x v : Int32} {k : Int} (hv : v.toInt = k) (h : ¬ x = v) : x.toInt ≠ k := fun q => h (Int32.toInt_inj.mp (q.trans hv.symm))
theorem mm_z01 {x : Int32} (h : x = 0 ∨ x = 1) : narrow .boolean (.int x) = .int x := by
  rcases h with rfl | rfl <;> rfl
